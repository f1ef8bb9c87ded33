/-! Model.begun()V -/
theorem fp_Model_199_Model {g : pj_G} {b : Nat} {cc : ByteArray} {nL : Nat} {ret : Option FieldType} {rm : Room} {u : pj_M} {pc pc' : Nat} {vs : List (Option Value)} {st : List Value} (C : pj_X g cc nL R_Mo ret rm) {i : Nat} {x : Int32} {P : pj_M → Prop} (t : pj_T i = 11)  (hdg : decode cc pc = .ok (.putfield 199, 3)) (hp : pc + 3 = pc') (h : pj_put u i 18 x P) (kk : ∀ u', P u' → pj_J g (pj_N g b u') pc' vs st) : pj_J g (pj_N g b u) pc vs (.int x :: .ref (b + i) :: st) :=
  pj_putI C cl_Model hin_Model ty_Model tyok_Model nm_Model (k := 18) (Nat.le_of_ble_eq_true rfl) wm_1142 (Or.inl rfl) rfl (ty := .int) (by decide +kernel) rfl rfl (pj_lt t (by decide)) (fun E u => ko_11 t) (F := fun f => [.int (f 0), .ref (b + 218), .ref (b + 219), .ref (b + 220), .int (f 4), .ref (b + 221), .ref (b + 222), .ref (b + 223), .ref (b + 224), .int (f 9), .ref (b + 225), .int (f 11), .ref (b + 226), .int (f 13), .int (f 14), .int (f 15), .int (f 16), .ref (b + 227), .int (f 18), .ref (b + 228), .ref (b + 229), .ref (b + 230), .ref (b + 231), .ref (b + 232), .ref (b + 233), .ref (b + 234), .ref (b + 235), .ref (b + 236), .ref (b + 237), .ref (b + 238), .ref (b + 239), .ref (b + 240), .ref (b + 241), .ref (b + 242), .ref (b + 243), .ref (b + 244), .ref (b + 245), .ref (b + 246), .ref (b + 247), .ref (b + 248), .ref (b + 249), .ref (b + 250), .ref (b + 251), .ref (b + 252), .ref (b + 253), .ref (b + 254), .ref (b + 255), .ref (b + 256), .ref (b + 257), .ref (b + 258), .ref (b + 259), .ref (b + 260), .ref (b + 261), .ref (b + 262), .ref (b + 263), .ref (b + 264), .ref (b + 265), .ref (b + 266), .ref (b + 267), .ref (b + 268), .ref (b + 269), .ref (b + 270), .ref (b + 271), .ref (b + 272), .ref (b + 273), .ref (b + 274), .ref (b + 275), .ref (b + 276), .int (f 68), .int (f 69), .ref (b + 277), .ref (b + 278)]) (fun _ => Nat.le_of_ble_eq_true rfl) (fun _ _ => rfl) hdg hp h kk
def rm_Mo_begun : Room := { frames := 0, cells := 0, slots := 0, locals := 0 }
def pb_Mo_begun_0  (K : pj_M → Prop) (u : pj_M)  : Prop := pj_put u 217 18 ((-2128831035)) fun u1 => (K u1)
set_option maxHeartbeats 1000000 in
theorem pt_Mo_begun_0 {g : pj_G} {b : Nat} (C : pj_X g c_Mo_begun 1 R_Mo none rm_Mo_begun) {K : pj_M → Prop} (hE : pj_E g b (pj_Kv K))   {u : pj_M}    (h : pb_Mo_begun_0  K u ) : pj_J g (pj_N g b u) 0 [some (.ref (b + 217))] [] := by
  unfold pb_Mo_begun_0 at h
  refine pj_aload_n C d_Mo_begun_0 (pc' := 1) (i := 0) (x := b + 217) rfl rfl rfl ?_
  refine pj_ldc C d_Mo_begun_1 (pc' := 3) rfl (v := (-2128831035)) wm_1418 ?_
  refine fp_Model_199_Model C tk_217  d_Mo_begun_3 (pc' := 6) rfl h (fun u1 h => ?_)
  exact pj_vret C hE d_Mo_begun_6 ⟨rfl, h⟩
def pw_Mo_begun (u : pj_M)  (K : pj_M → Prop) : Prop := pb_Mo_begun_0  K u 
theorem pc_Mo_begun (l : Launch) (D : va_G) (E : Nat → ClassId) {b : Nat} {u : pj_M}  {K : pj_M → Prop}  (h : pw_Mo_begun u  K) : pj_C l y_Mo_begun c_Mo_begun 1 none rm_Mo_begun D E b [.ref (b + 217)] u (pj_Kv K) := by
  refine pj_met (own := R_Mo) (by decide +kernel) rfl (Nat.le_of_ble_eq_true rfl) (fun g hE C => ?_)
  unfold pw_Mo_begun at h
  show pj_J g (pj_N g b u) 0 [some (.ref (b + 217))] []
  exact pj_cut (pj_le_s pj_le_e) (pt_Mo_begun_0 C hE   h)
/-! Model.add(I)V -/
theorem fg_Model_199_Model {g : pj_G} {b : Nat} {cc : ByteArray} {nL : Nat} {ret : Option FieldType} {rm : Room} {u : pj_M} {pc pc' : Nat} {vs : List (Option Value)} {st : List Value} (C : pj_X g cc nL R_Mo ret rm) {i : Nat} (t : pj_T i = 11) (hdg : decode cc pc = .ok (.getfield 199, 3)) (hp : pc + 3 = pc') (kk : pj_J g (pj_N g b u) pc' vs (.int (u i 18) :: st)) : pj_J g (pj_N g b u) pc vs (.ref (b + i) :: st) :=
  pj_get C cl_Model hin_Model (k := 18) (Nat.le_of_ble_eq_true rfl) wm_1142 (Or.inl rfl) (pj_lt t (by decide)) (fun E => ko_11 t) rfl hdg hp kk
def rm_Mo_add : Room := { frames := 0, cells := 0, slots := 0, locals := 0 }
def pb_Mo_add_0  (K : pj_M → Prop) (u : pj_M) (x1 : Int32) : Prop := pj_put u 217 18 (((u 217 18) ^^^ x1) * 16777619) fun u1 => (K u1)
set_option maxHeartbeats 1000000 in
theorem pt_Mo_add_0 {g : pj_G} {b : Nat} (C : pj_X g c_Mo_add 2 R_Mo none rm_Mo_add) {K : pj_M → Prop} (hE : pj_E g b (pj_Kv K))   {u : pj_M} {x1 : Int32}   (h : pb_Mo_add_0  K u x1) : pj_J g (pj_N g b u) 0 [some (.ref (b + 217)), some (.int x1)] [] := by
  unfold pb_Mo_add_0 at h
  refine pj_aload_n C d_Mo_add_0 (pc' := 1) (i := 0) (x := b + 217) rfl rfl rfl ?_
  refine pj_aload_n C d_Mo_add_1 (pc' := 2) (i := 0) (x := b + 217) rfl rfl rfl ?_
  refine fg_Model_199_Model C tk_217 d_Mo_add_2 (pc' := 5) rfl ?_
  refine pj_iload_n C d_Mo_add_5 (pc' := 6) (i := 1) (x := x1) rfl rfl rfl ?_
  refine pj_ixor C d_Mo_add_6 (pc' := 7) rfl ?_
  refine pj_ldc C d_Mo_add_7 (pc' := 9) rfl (v := 16777619) wm_1427 ?_
  refine pj_imul C d_Mo_add_9 (pc' := 10) rfl ?_
  refine fp_Model_199_Model C tk_217  d_Mo_add_10 (pc' := 13) rfl h (fun u1 h => ?_)
  exact pj_vret C hE d_Mo_add_13 ⟨rfl, h⟩
def pw_Mo_add (u : pj_M) (x1 : Int32) (K : pj_M → Prop) : Prop := pb_Mo_add_0  K u x1
theorem pc_Mo_add (l : Launch) (D : va_G) (E : Nat → ClassId) {b : Nat} {u : pj_M} {x1 : Int32} {K : pj_M → Prop}  (h : pw_Mo_add u x1 K) : pj_C l y_Mo_add c_Mo_add 2 none rm_Mo_add D E b [.ref (b + 217), .int x1] u (pj_Kv K) := by
  refine pj_met (own := R_Mo) (by decide +kernel) rfl (Nat.le_of_ble_eq_true rfl) (fun g hE C => ?_)
  unfold pw_Mo_add at h
  show pj_J g (pj_N g b u) 0 [some (.ref (b + 217)), some (.int x1)] []
  exact pj_cut (pj_le_s (pj_le_s pj_le_e)) (pt_Mo_add_0 C hE   h)
/-! Model.addInt(I)V -/
theorem ck_Model_203_Model {g : pj_G} {b : Nat} {cc : ByteArray} {nL : Nat} {ret : Option FieldType} {rm : Room} {u : pj_M} {pc pc' : Nat} {vs : List (Option Value)} {st : List Value} (C : pj_X g cc nL R_Mo ret rm) {x1 : Int32} {K : pj_M → Prop}  (h : pw_Mo_add u x1 K) (hdg : decode cc pc = .ok (.invokevirtual 203, 3)) (hp : pc + 3 = pc') (hR : rm_Mo_add.frames + 1 ≤ rm.frames ∧ 8 + (2 + 11) + rm_Mo_add.locals ≤ rm.locals) (h8 : (st.map fun v => v.category).sum ≤ 8) (kk : ∀ u', K u' → pj_J g (pj_N g b u') pc' vs st) : pj_J g (pj_N g b u) pc vs (.int x1 :: .ref (b + 217) :: st) :=
  pj_callV C (As := [.int x1]) (fun l D E => pc_Mo_add l D E  h) rfl rfl cl_Model (pj_lt tk_217 (by decide)) (fun E => ko_11 tk_217) wm_1423 wm_1425 wm_52 wm_103 wm_1426 (by decide +kernel) (n := 1) rfl hR rfl h8 hdg hp (fun v u' hq => by obtain ⟨rfl, hk⟩ := hq; exact kk u' hk)
def rm_Mo_addInt : Room := { frames := 1, cells := 0, slots := 0, locals := 21 }
def pb_Mo_addInt_24  (K : pj_M → Prop) (u : pj_M)  : Prop := K u
set_option maxHeartbeats 1000000 in
theorem pt_Mo_addInt_24 {g : pj_G} {b : Nat} (C : pj_X g c_Mo_addInt 3 R_Mo none rm_Mo_addInt) {K : pj_M → Prop} (hE : pj_E g b (pj_Kv K))   {u : pj_M}    (h : pb_Mo_addInt_24  K u ) : pj_J g (pj_N g b u) 24 [none, none, none] [] := by
  unfold pb_Mo_addInt_24 at h
  exact pj_vret C hE d_Mo_addInt_24 ⟨rfl, h⟩
def pb_Mo_addInt_7 (R3 : pj_M → Int32 → Prop) (K : pj_M → Prop) (u : pj_M) (x1 : Int32) (x2 : Int32) : Prop := pw_Mo_add u ((x1 >>> (x2 &&& 31)) &&& 255) fun u1 => (R3 u1 (x2 + (-8)))
set_option maxHeartbeats 1000000 in
theorem pt_Mo_addInt_7 {g : pj_G} {b : Nat} (C : pj_X g c_Mo_addInt 3 R_Mo none rm_Mo_addInt) {K : pj_M → Prop} (hE : pj_E g b (pj_Kv K)) {R3 : pj_M → Int32 → Prop}  {u : pj_M} {x1 : Int32} {x2 : Int32} (hR3 : ∀ (u : pj_M) (x2 : Int32), R3 u x2 → pj_J g (pj_N g b u) 3 [some (.ref (b + 217)), some (.int x1), some (.int x2)] [])  (h : pb_Mo_addInt_7 R3 K u x1 x2) : pj_J g (pj_N g b u) 7 [some (.ref (b + 217)), some (.int x1), some (.int x2)] [] := by
  unfold pb_Mo_addInt_7 at h
  refine pj_aload_n C d_Mo_addInt_7 (pc' := 8) (i := 0) (x := b + 217) rfl rfl rfl ?_
  refine pj_iload_n C d_Mo_addInt_8 (pc' := 9) (i := 1) (x := x1) rfl rfl rfl ?_
  refine pj_iload_n C d_Mo_addInt_9 (pc' := 10) (i := 2) (x := x2) rfl rfl rfl ?_
  refine pj_ishr C d_Mo_addInt_10 (pc' := 11) rfl ?_
  refine pj_sipush C d_Mo_addInt_11 (pc' := 14) rfl (v := 255) (by decide) ?_
  refine pj_iand C d_Mo_addInt_14 (pc' := 15) rfl ?_
  refine ck_Model_203_Model C  h d_Mo_addInt_15 (pc' := 18) rfl ⟨Nat.le_of_ble_eq_true rfl, Nat.le_of_ble_eq_true rfl⟩ (Nat.le_of_ble_eq_true rfl) (fun u1 h => ?_)
  refine pj_iinc C d_Mo_addInt_18 (pc' := 21) (x := x2) (d := (-8)) (vs' := [some (.ref (b + 217)), some (.int x1), some (.int (x2 + (-8)))]) rfl rfl (Nat.le_of_ble_eq_true rfl) rfl (by decide) rfl ?_
  refine pj_goto C d_Mo_addInt_21 (tgt := 3) (by decide) ?_
  exact pj_cut (pj_le_s (pj_le_s (pj_le_s pj_le_e))) (hR3 _ _ h)
def pb_Mo_addInt_3b (R3 : pj_M → Int32 → Prop) (K : pj_M → Prop) (u : pj_M) (x1 : Int32) (x2 : Int32) : Prop := ((x2 < 0) → (pb_Mo_addInt_24  K u )) ∧ (¬ (x2 < 0) → (pb_Mo_addInt_7 R3 K u x1 x2))
set_option maxHeartbeats 1000000 in
theorem pt_Mo_addInt_3b {g : pj_G} {b : Nat} (C : pj_X g c_Mo_addInt 3 R_Mo none rm_Mo_addInt) {K : pj_M → Prop} (hE : pj_E g b (pj_Kv K)) {R3 : pj_M → Int32 → Prop}  {u : pj_M} {x1 : Int32} {x2 : Int32} (hR3 : ∀ (u : pj_M) (x2 : Int32), R3 u x2 → pj_J g (pj_N g b u) 3 [some (.ref (b + 217)), some (.int x1), some (.int x2)] [])  (h : pb_Mo_addInt_3b R3 K u x1 x2) : pj_J g (pj_N g b u) 3 [some (.ref (b + 217)), some (.int x1), some (.int x2)] [] := by
  unfold pb_Mo_addInt_3b at h
  refine pj_iload_n C d_Mo_addInt_3 (pc' := 4) (i := 2) (x := x2) rfl rfl rfl ?_
  refine pj_if_lt C d_Mo_addInt_4 (pc' := 7) rfl (tgt := 24) (by decide) h (fun h => ?_) (fun h => ?_)
  · exact pj_cut (pj_le_n (pj_le_n (pj_le_n pj_le_e))) (pt_Mo_addInt_24 C hE   h)
  · exact pj_cut (pj_le_s (pj_le_s (pj_le_s pj_le_e))) (pt_Mo_addInt_7 C hE hR3  h)
def pb_Mo_addInt_3  (K : pj_M → Prop) (x1 : Int32) : Nat → pj_M → Int32 → Prop
  | 0 => fun _ _ => False
  | n + 1 => fun u x2 => pb_Mo_addInt_3b (pb_Mo_addInt_3  K x1 n) K u x1 x2
theorem pt_Mo_addInt_3 {g : pj_G} {b : Nat} (C : pj_X g c_Mo_addInt 3 R_Mo none rm_Mo_addInt) {K : pj_M → Prop} (hE : pj_E g b (pj_Kv K))  {x1 : Int32}   : ∀ (n : Nat) (u : pj_M) (x2 : Int32), pb_Mo_addInt_3  K x1 n u x2 → pj_J g (pj_N g b u) 3 [some (.ref (b + 217)), some (.int x1), some (.int x2)] [] := by
  intro n
  induction n with
  | zero => intro u x2 h; exact False.elim h
  | succ n ih =>
    intro u x2 h
    exact (pt_Mo_addInt_3b C hE ih  h)
def pb_Mo_addInt_0  (K : pj_M → Prop) (u : pj_M) (x1 : Int32) : Prop := ∃ n, pb_Mo_addInt_3  K x1 n u 24
set_option maxHeartbeats 1000000 in
theorem pt_Mo_addInt_0 {g : pj_G} {b : Nat} (C : pj_X g c_Mo_addInt 3 R_Mo none rm_Mo_addInt) {K : pj_M → Prop} (hE : pj_E g b (pj_Kv K))   {u : pj_M} {x1 : Int32}   (h : pb_Mo_addInt_0  K u x1) : pj_J g (pj_N g b u) 0 [some (.ref (b + 217)), some (.int x1), none] [] := by
  unfold pb_Mo_addInt_0 at h
  refine pj_bipush C d_Mo_addInt_0 (pc' := 2) rfl (v := 24) (by decide) ?_
  refine pj_istore_n C d_Mo_addInt_2 (pc' := 3) (i := 2) (vs' := [some (.ref (b + 217)), some (.int x1), some (.int 24)]) rfl rfl (Nat.le_of_ble_eq_true rfl) (Nat.le_of_ble_eq_true rfl) rfl rfl ?_
  obtain ⟨n, h⟩ := h
  exact pj_cut (pj_le_s (pj_le_s (pj_le_s pj_le_e))) (pt_Mo_addInt_3 C hE   n _ _ h)
def pw_Mo_addInt (u : pj_M) (x1 : Int32) (K : pj_M → Prop) : Prop := pb_Mo_addInt_0  K u x1
theorem pc_Mo_addInt (l : Launch) (D : va_G) (E : Nat → ClassId) {b : Nat} {u : pj_M} {x1 : Int32} {K : pj_M → Prop}  (h : pw_Mo_addInt u x1 K) : pj_C l y_Mo_addInt c_Mo_addInt 3 none rm_Mo_addInt D E b [.ref (b + 217), .int x1] u (pj_Kv K) := by
  refine pj_met (own := R_Mo) (by decide +kernel) rfl (Nat.le_of_ble_eq_true rfl) (fun g hE C => ?_)
  unfold pw_Mo_addInt at h
  show pj_J g (pj_N g b u) 0 [some (.ref (b + 217)), some (.int x1), none] []
  exact pj_cut (pj_le_s (pj_le_s (pj_le_n pj_le_e))) (pt_Mo_addInt_0 C hE   h)
/-! Model.sum()I -/
def rm_Mo_sum : Room := { frames := 0, cells := 0, slots := 0, locals := 0 }
def pb_Mo_sum_0  (K : Int32 → pj_M → Prop) (u : pj_M)  : Prop := K ((u 217 18) ^^^ (((u 217 18).toUInt32 >>> ((15 : Int32).toUInt32 &&& Int32.toUInt32 31)).toInt32)) u
set_option maxHeartbeats 1000000 in
theorem pt_Mo_sum_0 {g : pj_G} {b : Nat} (C : pj_X g c_Mo_sum 1 R_Mo (some .int) rm_Mo_sum) {K : Int32 → pj_M → Prop} (hE : pj_E g b (pj_Ki K))   {u : pj_M}    (h : pb_Mo_sum_0  K u ) : pj_J g (pj_N g b u) 0 [some (.ref (b + 217))] [] := by
  unfold pb_Mo_sum_0 at h
  refine pj_aload_n C d_Mo_sum_0 (pc' := 1) (i := 0) (x := b + 217) rfl rfl rfl ?_
  refine fg_Model_199_Model C tk_217 d_Mo_sum_1 (pc' := 4) rfl ?_
  refine pj_aload_n C d_Mo_sum_4 (pc' := 5) (i := 0) (x := b + 217) rfl rfl rfl ?_
  refine fg_Model_199_Model C tk_217 d_Mo_sum_5 (pc' := 8) rfl ?_
  refine pj_bipush C d_Mo_sum_8 (pc' := 10) rfl (v := 15) (by decide) ?_
  refine pj_iushr C d_Mo_sum_10 (pc' := 11) rfl ?_
  refine pj_ixor C d_Mo_sum_11 (pc' := 12) rfl ?_
  exact pj_iret C hE d_Mo_sum_12 ⟨_, rfl, h⟩
def pw_Mo_sum (u : pj_M)  (K : Int32 → pj_M → Prop) : Prop := pb_Mo_sum_0  K u 
theorem pc_Mo_sum (l : Launch) (D : va_G) (E : Nat → ClassId) {b : Nat} {u : pj_M}  {K : Int32 → pj_M → Prop}  (h : pw_Mo_sum u  K) : pj_C l y_Mo_sum c_Mo_sum 1 (some .int) rm_Mo_sum D E b [.ref (b + 217)] u (pj_Ki K) := by
  refine pj_met (own := R_Mo) (by decide +kernel) rfl (Nat.le_of_ble_eq_true rfl) (fun g hE C => ?_)
  unfold pw_Mo_sum at h
  show pj_J g (pj_N g b u) 0 [some (.ref (b + 217))] []
  exact pj_cut (pj_le_s pj_le_e) (pt_Mo_sum_0 C hE   h)
/-! Model.mixed(III)I -/
theorem ck_Model_207_Model {g : pj_G} {b : Nat} {cc : ByteArray} {nL : Nat} {ret : Option FieldType} {rm : Room} {u : pj_M} {pc pc' : Nat} {vs : List (Option Value)} {st : List Value} (C : pj_X g cc nL R_Mo ret rm)  {K : pj_M → Prop}  (h : pw_Mo_begun u  K) (hdg : decode cc pc = .ok (.invokevirtual 207, 3)) (hp : pc + 3 = pc') (hR : rm_Mo_begun.frames + 1 ≤ rm.frames ∧ 8 + (1 + 11) + rm_Mo_begun.locals ≤ rm.locals) (h8 : (st.map fun v => v.category).sum ≤ 8) (kk : ∀ u', K u' → pj_J g (pj_N g b u') pc' vs st) : pj_J g (pj_N g b u) pc vs (.ref (b + 217) :: st) :=
  pj_callV C (As := []) (fun l D E => pc_Mo_begun l D E  h) rfl rfl cl_Model (pj_lt tk_217 (by decide)) (fun E => ko_11 tk_217) wm_1414 wm_1416 wm_50 wm_103 wm_1417 (by decide +kernel) (n := 0) rfl hR rfl h8 hdg hp (fun v u' hq => by obtain ⟨rfl, hk⟩ := hq; exact kk u' hk)
theorem ck_Model_210_Model {g : pj_G} {b : Nat} {cc : ByteArray} {nL : Nat} {ret : Option FieldType} {rm : Room} {u : pj_M} {pc pc' : Nat} {vs : List (Option Value)} {st : List Value} (C : pj_X g cc nL R_Mo ret rm) {x1 : Int32} {K : pj_M → Prop}  (h : pw_Mo_addInt u x1 K) (hdg : decode cc pc = .ok (.invokevirtual 210, 3)) (hp : pc + 3 = pc') (hR : rm_Mo_addInt.frames + 1 ≤ rm.frames ∧ 8 + (3 + 11) + rm_Mo_addInt.locals ≤ rm.locals) (h8 : (st.map fun v => v.category).sum ≤ 8) (kk : ∀ u', K u' → pj_J g (pj_N g b u') pc' vs st) : pj_J g (pj_N g b u) pc vs (.int x1 :: .ref (b + 217) :: st) :=
  pj_callV C (As := [.int x1]) (fun l D E => pc_Mo_addInt l D E  h) rfl rfl cl_Model (pj_lt tk_217 (by decide)) (fun E => ko_11 tk_217) wm_1419 wm_1421 wm_51 wm_103 wm_1422 (by decide +kernel) (n := 1) rfl hR rfl h8 hdg hp (fun v u' hq => by obtain ⟨rfl, hk⟩ := hq; exact kk u' hk)
theorem ck_Model_213_Model {g : pj_G} {b : Nat} {cc : ByteArray} {nL : Nat} {ret : Option FieldType} {rm : Room} {u : pj_M} {pc pc' : Nat} {vs : List (Option Value)} {st : List Value} (C : pj_X g cc nL R_Mo ret rm)  {K : Int32 → pj_M → Prop}  (h : pw_Mo_sum u  K) (hdg : decode cc pc = .ok (.invokevirtual 213, 3)) (hp : pc + 3 = pc') (hR : rm_Mo_sum.frames + 1 ≤ rm.frames ∧ 8 + (1 + 11) + rm_Mo_sum.locals ≤ rm.locals) (h8 : (st.map fun v => v.category).sum ≤ 8) (kk : ∀ r u', K r u' → pj_J g (pj_N g b u') pc' vs (.int r :: st)) : pj_J g (pj_N g b u) pc vs (.ref (b + 217) :: st) :=
  pj_callV C (As := []) (fun l D E => pc_Mo_sum l D E  h) rfl rfl cl_Model (pj_lt tk_217 (by decide)) (fun E => ko_11 tk_217) wm_1428 wm_1430 wm_53 wm_103 wm_1431 (by decide +kernel) (n := 0) rfl hR rfl h8 hdg hp (fun v u' hq => by obtain ⟨r, rfl, hk⟩ := hq; exact kk r u' hk)
def rm_Mo_mixed : Room := { frames := 2, cells := 0, slots := 0, locals := 43 }
def pb_Mo_mixed_0  (K : Int32 → pj_M → Prop) (u : pj_M) (x1 : Int32) (x2 : Int32) (x3 : Int32) : Prop := pw_Mo_begun u  fun u1 => (pw_Mo_addInt u1 x1 fun u2 => (pw_Mo_add u2 x2 fun u3 => (pw_Mo_addInt u3 x3 fun u4 => (pw_Mo_sum u4  fun r6 u5 => (K r6 u5)))))
set_option maxHeartbeats 1000000 in
theorem pt_Mo_mixed_0 {g : pj_G} {b : Nat} (C : pj_X g c_Mo_mixed 4 R_Mo (some .int) rm_Mo_mixed) {K : Int32 → pj_M → Prop} (hE : pj_E g b (pj_Ki K))   {u : pj_M} {x1 : Int32} {x2 : Int32} {x3 : Int32}   (h : pb_Mo_mixed_0  K u x1 x2 x3) : pj_J g (pj_N g b u) 0 [some (.ref (b + 217)), some (.int x1), some (.int x2), some (.int x3)] [] := by
  unfold pb_Mo_mixed_0 at h
  refine pj_aload_n C d_Mo_mixed_0 (pc' := 1) (i := 0) (x := b + 217) rfl rfl rfl ?_
  refine ck_Model_207_Model C  h d_Mo_mixed_1 (pc' := 4) rfl ⟨Nat.le_of_ble_eq_true rfl, Nat.le_of_ble_eq_true rfl⟩ (Nat.le_of_ble_eq_true rfl) (fun u1 h => ?_)
  refine pj_aload_n C d_Mo_mixed_4 (pc' := 5) (i := 0) (x := b + 217) rfl rfl rfl ?_
  refine pj_iload_n C d_Mo_mixed_5 (pc' := 6) (i := 1) (x := x1) rfl rfl rfl ?_
  refine ck_Model_210_Model C  h d_Mo_mixed_6 (pc' := 9) rfl ⟨Nat.le_of_ble_eq_true rfl, Nat.le_of_ble_eq_true rfl⟩ (Nat.le_of_ble_eq_true rfl) (fun u2 h => ?_)
  refine pj_aload_n C d_Mo_mixed_9 (pc' := 10) (i := 0) (x := b + 217) rfl rfl rfl ?_
  refine pj_iload_n C d_Mo_mixed_10 (pc' := 11) (i := 2) (x := x2) rfl rfl rfl ?_
  refine ck_Model_203_Model C  h d_Mo_mixed_11 (pc' := 14) rfl ⟨Nat.le_of_ble_eq_true rfl, Nat.le_of_ble_eq_true rfl⟩ (Nat.le_of_ble_eq_true rfl) (fun u3 h => ?_)
  refine pj_aload_n C d_Mo_mixed_14 (pc' := 15) (i := 0) (x := b + 217) rfl rfl rfl ?_
  refine pj_iload_n C d_Mo_mixed_15 (pc' := 16) (i := 3) (x := x3) rfl rfl rfl ?_
  refine ck_Model_210_Model C  h d_Mo_mixed_16 (pc' := 19) rfl ⟨Nat.le_of_ble_eq_true rfl, Nat.le_of_ble_eq_true rfl⟩ (Nat.le_of_ble_eq_true rfl) (fun u4 h => ?_)
  refine pj_aload_n C d_Mo_mixed_19 (pc' := 20) (i := 0) (x := b + 217) rfl rfl rfl ?_
  refine ck_Model_213_Model C  h d_Mo_mixed_20 (pc' := 23) rfl ⟨Nat.le_of_ble_eq_true rfl, Nat.le_of_ble_eq_true rfl⟩ (Nat.le_of_ble_eq_true rfl) (fun r6 u5 h => ?_)
  exact pj_iret C hE d_Mo_mixed_23 ⟨_, rfl, h⟩
def pw_Mo_mixed (u : pj_M) (x1 : Int32) (x2 : Int32) (x3 : Int32) (K : Int32 → pj_M → Prop) : Prop := pb_Mo_mixed_0  K u x1 x2 x3
theorem pc_Mo_mixed (l : Launch) (D : va_G) (E : Nat → ClassId) {b : Nat} {u : pj_M} {x1 : Int32} {x2 : Int32} {x3 : Int32} {K : Int32 → pj_M → Prop}  (h : pw_Mo_mixed u x1 x2 x3 K) : pj_C l y_Mo_mixed c_Mo_mixed 4 (some .int) rm_Mo_mixed D E b [.ref (b + 217), .int x1, .int x2, .int x3] u (pj_Ki K) := by
  refine pj_met (own := R_Mo) (by decide +kernel) rfl (Nat.le_of_ble_eq_true rfl) (fun g hE C => ?_)
  unfold pw_Mo_mixed at h
  show pj_J g (pj_N g b u) 0 [some (.ref (b + 217)), some (.int x1), some (.int x2), some (.int x3)] []
  exact pj_cut (pj_le_s (pj_le_s (pj_le_s (pj_le_s pj_le_e)))) (pt_Mo_mixed_0 C hE   h)
/-! Model.proved(III)I -/
def rm_Mo_proved : Room := { frames := 2, cells := 0, slots := 0, locals := 43 }
def pb_Mo_proved_0  (K : Int32 → pj_M → Prop) (u : pj_M) (x1 : Int32) (x2 : Int32) (x3 : Int32) : Prop := pw_Mo_begun u  fun u1 => (pw_Mo_add u1 x1 fun u2 => (pw_Mo_addInt u2 x2 fun u3 => (pw_Mo_addInt u3 x3 fun u4 => (pw_Mo_sum u4  fun r6 u5 => (K r6 u5)))))
set_option maxHeartbeats 1000000 in
theorem pt_Mo_proved_0 {g : pj_G} {b : Nat} (C : pj_X g c_Mo_proved 4 R_Mo (some .int) rm_Mo_proved) {K : Int32 → pj_M → Prop} (hE : pj_E g b (pj_Ki K))   {u : pj_M} {x1 : Int32} {x2 : Int32} {x3 : Int32}   (h : pb_Mo_proved_0  K u x1 x2 x3) : pj_J g (pj_N g b u) 0 [some (.ref (b + 217)), some (.int x1), some (.int x2), some (.int x3)] [] := by
  unfold pb_Mo_proved_0 at h
  refine pj_aload_n C d_Mo_proved_0 (pc' := 1) (i := 0) (x := b + 217) rfl rfl rfl ?_
  refine ck_Model_207_Model C  h d_Mo_proved_1 (pc' := 4) rfl ⟨Nat.le_of_ble_eq_true rfl, Nat.le_of_ble_eq_true rfl⟩ (Nat.le_of_ble_eq_true rfl) (fun u1 h => ?_)
  refine pj_aload_n C d_Mo_proved_4 (pc' := 5) (i := 0) (x := b + 217) rfl rfl rfl ?_
  refine pj_iload_n C d_Mo_proved_5 (pc' := 6) (i := 1) (x := x1) rfl rfl rfl ?_
  refine ck_Model_203_Model C  h d_Mo_proved_6 (pc' := 9) rfl ⟨Nat.le_of_ble_eq_true rfl, Nat.le_of_ble_eq_true rfl⟩ (Nat.le_of_ble_eq_true rfl) (fun u2 h => ?_)
  refine pj_aload_n C d_Mo_proved_9 (pc' := 10) (i := 0) (x := b + 217) rfl rfl rfl ?_
  refine pj_iload_n C d_Mo_proved_10 (pc' := 11) (i := 2) (x := x2) rfl rfl rfl ?_
  refine ck_Model_210_Model C  h d_Mo_proved_11 (pc' := 14) rfl ⟨Nat.le_of_ble_eq_true rfl, Nat.le_of_ble_eq_true rfl⟩ (Nat.le_of_ble_eq_true rfl) (fun u3 h => ?_)
  refine pj_aload_n C d_Mo_proved_14 (pc' := 15) (i := 0) (x := b + 217) rfl rfl rfl ?_
  refine pj_iload_n C d_Mo_proved_15 (pc' := 16) (i := 3) (x := x3) rfl rfl rfl ?_
  refine ck_Model_210_Model C  h d_Mo_proved_16 (pc' := 19) rfl ⟨Nat.le_of_ble_eq_true rfl, Nat.le_of_ble_eq_true rfl⟩ (Nat.le_of_ble_eq_true rfl) (fun u4 h => ?_)
  refine pj_aload_n C d_Mo_proved_19 (pc' := 20) (i := 0) (x := b + 217) rfl rfl rfl ?_
  refine ck_Model_213_Model C  h d_Mo_proved_20 (pc' := 23) rfl ⟨Nat.le_of_ble_eq_true rfl, Nat.le_of_ble_eq_true rfl⟩ (Nat.le_of_ble_eq_true rfl) (fun r6 u5 h => ?_)
  exact pj_iret C hE d_Mo_proved_23 ⟨_, rfl, h⟩
def pw_Mo_proved (u : pj_M) (x1 : Int32) (x2 : Int32) (x3 : Int32) (K : Int32 → pj_M → Prop) : Prop := pb_Mo_proved_0  K u x1 x2 x3
theorem pc_Mo_proved (l : Launch) (D : va_G) (E : Nat → ClassId) {b : Nat} {u : pj_M} {x1 : Int32} {x2 : Int32} {x3 : Int32} {K : Int32 → pj_M → Prop}  (h : pw_Mo_proved u x1 x2 x3 K) : pj_C l y_Mo_proved c_Mo_proved 4 (some .int) rm_Mo_proved D E b [.ref (b + 217), .int x1, .int x2, .int x3] u (pj_Ki K) := by
  refine pj_met (own := R_Mo) (by decide +kernel) rfl (Nat.le_of_ble_eq_true rfl) (fun g hE C => ?_)
  unfold pw_Mo_proved at h
  show pj_J g (pj_N g b u) 0 [some (.ref (b + 217)), some (.int x1), some (.int x2), some (.int x3)] []
  exact pj_cut (pj_le_s (pj_le_s (pj_le_s (pj_le_s pj_le_e)))) (pt_Mo_proved_0 C hE   h)
/-! Model.outer(II)I -/
def rm_Mo_outer : Room := { frames := 2, cells := 0, slots := 0, locals := 43 }
def pb_Mo_outer_0  (K : Int32 → pj_M → Prop) (u : pj_M) (x1 : Int32) (x2 : Int32) : Prop := pw_Mo_begun u  fun u1 => (pw_Mo_addInt u1 x1 fun u2 => (pw_Mo_add u2 92 fun u3 => (pw_Mo_addInt u3 x2 fun u4 => (pw_Mo_sum u4  fun r6 u5 => (K r6 u5)))))
set_option maxHeartbeats 1000000 in
theorem pt_Mo_outer_0 {g : pj_G} {b : Nat} (C : pj_X g c_Mo_outer 3 R_Mo (some .int) rm_Mo_outer) {K : Int32 → pj_M → Prop} (hE : pj_E g b (pj_Ki K))   {u : pj_M} {x1 : Int32} {x2 : Int32}   (h : pb_Mo_outer_0  K u x1 x2) : pj_J g (pj_N g b u) 0 [some (.ref (b + 217)), some (.int x1), some (.int x2)] [] := by
  unfold pb_Mo_outer_0 at h
  refine pj_aload_n C d_Mo_outer_0 (pc' := 1) (i := 0) (x := b + 217) rfl rfl rfl ?_
  refine ck_Model_207_Model C  h d_Mo_outer_1 (pc' := 4) rfl ⟨Nat.le_of_ble_eq_true rfl, Nat.le_of_ble_eq_true rfl⟩ (Nat.le_of_ble_eq_true rfl) (fun u1 h => ?_)
  refine pj_aload_n C d_Mo_outer_4 (pc' := 5) (i := 0) (x := b + 217) rfl rfl rfl ?_
  refine pj_iload_n C d_Mo_outer_5 (pc' := 6) (i := 1) (x := x1) rfl rfl rfl ?_
  refine ck_Model_210_Model C  h d_Mo_outer_6 (pc' := 9) rfl ⟨Nat.le_of_ble_eq_true rfl, Nat.le_of_ble_eq_true rfl⟩ (Nat.le_of_ble_eq_true rfl) (fun u2 h => ?_)
  refine pj_aload_n C d_Mo_outer_9 (pc' := 10) (i := 0) (x := b + 217) rfl rfl rfl ?_
  refine pj_bipush C d_Mo_outer_10 (pc' := 12) rfl (v := 92) (by decide) ?_
  refine ck_Model_203_Model C  h d_Mo_outer_12 (pc' := 15) rfl ⟨Nat.le_of_ble_eq_true rfl, Nat.le_of_ble_eq_true rfl⟩ (Nat.le_of_ble_eq_true rfl) (fun u3 h => ?_)
  refine pj_aload_n C d_Mo_outer_15 (pc' := 16) (i := 0) (x := b + 217) rfl rfl rfl ?_
  refine pj_iload_n C d_Mo_outer_16 (pc' := 17) (i := 2) (x := x2) rfl rfl rfl ?_
  refine ck_Model_210_Model C  h d_Mo_outer_17 (pc' := 20) rfl ⟨Nat.le_of_ble_eq_true rfl, Nat.le_of_ble_eq_true rfl⟩ (Nat.le_of_ble_eq_true rfl) (fun u4 h => ?_)
  refine pj_aload_n C d_Mo_outer_20 (pc' := 21) (i := 0) (x := b + 217) rfl rfl rfl ?_
  refine ck_Model_213_Model C  h d_Mo_outer_21 (pc' := 24) rfl ⟨Nat.le_of_ble_eq_true rfl, Nat.le_of_ble_eq_true rfl⟩ (Nat.le_of_ble_eq_true rfl) (fun r6 u5 h => ?_)
  exact pj_iret C hE d_Mo_outer_24 ⟨_, rfl, h⟩
def pw_Mo_outer (u : pj_M) (x1 : Int32) (x2 : Int32) (K : Int32 → pj_M → Prop) : Prop := pb_Mo_outer_0  K u x1 x2
theorem pc_Mo_outer (l : Launch) (D : va_G) (E : Nat → ClassId) {b : Nat} {u : pj_M} {x1 : Int32} {x2 : Int32} {K : Int32 → pj_M → Prop}  (h : pw_Mo_outer u x1 x2 K) : pj_C l y_Mo_outer c_Mo_outer 3 (some .int) rm_Mo_outer D E b [.ref (b + 217), .int x1, .int x2] u (pj_Ki K) := by
  refine pj_met (own := R_Mo) (by decide +kernel) rfl (Nat.le_of_ble_eq_true rfl) (fun g hE C => ?_)
  unfold pw_Mo_outer at h
  show pj_J g (pj_N g b u) 0 [some (.ref (b + 217)), some (.int x1), some (.int x2)] []
  exact pj_cut (pj_le_s (pj_le_s (pj_le_s pj_le_e))) (pt_Mo_outer_0 C hE   h)
/-! Model.mac(IIII)I -/
theorem ck_Model_217_Model {g : pj_G} {b : Nat} {cc : ByteArray} {nL : Nat} {ret : Option FieldType} {rm : Room} {u : pj_M} {pc pc' : Nat} {vs : List (Option Value)} {st : List Value} (C : pj_X g cc nL R_Mo ret rm) {x1 : Int32} {x2 : Int32} {K : Int32 → pj_M → Prop}  (h : pw_Mo_outer u x1 x2 K) (hdg : decode cc pc = .ok (.invokevirtual 217, 3)) (hp : pc + 3 = pc') (hR : rm_Mo_outer.frames + 1 ≤ rm.frames ∧ 8 + (3 + 11) + rm_Mo_outer.locals ≤ rm.locals) (h8 : (st.map fun v => v.category).sum ≤ 8) (kk : ∀ r u', K r u' → pj_J g (pj_N g b u') pc' vs (.int r :: st)) : pj_J g (pj_N g b u) pc vs (.int x2 :: .int x1 :: .ref (b + 217) :: st) :=
  pj_callV C (As := [.int x1, .int x2]) (fun l D E => pc_Mo_outer l D E  h) rfl rfl cl_Model (pj_lt tk_217 (by decide)) (fun E => ko_11 tk_217) wm_1444 wm_1446 wm_57 wm_103 wm_1447 (by decide +kernel) (n := 2) rfl hR rfl h8 hdg hp (fun v u' hq => by obtain ⟨r, rfl, hk⟩ := hq; exact kk r u' hk)
def rm_Mo_mac : Room := { frames := 3, cells := 0, slots := 0, locals := 65 }
def pb_Mo_mac_0  (K : Int32 → pj_M → Prop) (u : pj_M) (x1 : Int32) (x2 : Int32) (x3 : Int32) (x4 : Int32) : Prop := pw_Mo_begun u  fun u1 => (pw_Mo_addInt u1 x1 fun u2 => (pw_Mo_add u2 54 fun u3 => (pw_Mo_add u3 x2 fun u4 => (pw_Mo_addInt u4 x3 fun u5 => (pw_Mo_addInt u5 x4 fun u6 => (pw_Mo_sum u6  fun r8 u7 => (pw_Mo_outer u7 x1 r8 fun r10 u9 => (K r10 u9))))))))
set_option maxHeartbeats 1000000 in
theorem pt_Mo_mac_0 {g : pj_G} {b : Nat} (C : pj_X g c_Mo_mac 5 R_Mo (some .int) rm_Mo_mac) {K : Int32 → pj_M → Prop} (hE : pj_E g b (pj_Ki K))   {u : pj_M} {x1 : Int32} {x2 : Int32} {x3 : Int32} {x4 : Int32}   (h : pb_Mo_mac_0  K u x1 x2 x3 x4) : pj_J g (pj_N g b u) 0 [some (.ref (b + 217)), some (.int x1), some (.int x2), some (.int x3), some (.int x4)] [] := by
  unfold pb_Mo_mac_0 at h
  refine pj_aload_n C d_Mo_mac_0 (pc' := 1) (i := 0) (x := b + 217) rfl rfl rfl ?_
  refine ck_Model_207_Model C  h d_Mo_mac_1 (pc' := 4) rfl ⟨Nat.le_of_ble_eq_true rfl, Nat.le_of_ble_eq_true rfl⟩ (Nat.le_of_ble_eq_true rfl) (fun u1 h => ?_)
  refine pj_aload_n C d_Mo_mac_4 (pc' := 5) (i := 0) (x := b + 217) rfl rfl rfl ?_
  refine pj_iload_n C d_Mo_mac_5 (pc' := 6) (i := 1) (x := x1) rfl rfl rfl ?_
  refine ck_Model_210_Model C  h d_Mo_mac_6 (pc' := 9) rfl ⟨Nat.le_of_ble_eq_true rfl, Nat.le_of_ble_eq_true rfl⟩ (Nat.le_of_ble_eq_true rfl) (fun u2 h => ?_)
  refine pj_aload_n C d_Mo_mac_9 (pc' := 10) (i := 0) (x := b + 217) rfl rfl rfl ?_
  refine pj_bipush C d_Mo_mac_10 (pc' := 12) rfl (v := 54) (by decide) ?_
  refine ck_Model_203_Model C  h d_Mo_mac_12 (pc' := 15) rfl ⟨Nat.le_of_ble_eq_true rfl, Nat.le_of_ble_eq_true rfl⟩ (Nat.le_of_ble_eq_true rfl) (fun u3 h => ?_)
  refine pj_aload_n C d_Mo_mac_15 (pc' := 16) (i := 0) (x := b + 217) rfl rfl rfl ?_
  refine pj_iload_n C d_Mo_mac_16 (pc' := 17) (i := 2) (x := x2) rfl rfl rfl ?_
  refine ck_Model_203_Model C  h d_Mo_mac_17 (pc' := 20) rfl ⟨Nat.le_of_ble_eq_true rfl, Nat.le_of_ble_eq_true rfl⟩ (Nat.le_of_ble_eq_true rfl) (fun u4 h => ?_)
  refine pj_aload_n C d_Mo_mac_20 (pc' := 21) (i := 0) (x := b + 217) rfl rfl rfl ?_
  refine pj_iload_n C d_Mo_mac_21 (pc' := 22) (i := 3) (x := x3) rfl rfl rfl ?_
  refine ck_Model_210_Model C  h d_Mo_mac_22 (pc' := 25) rfl ⟨Nat.le_of_ble_eq_true rfl, Nat.le_of_ble_eq_true rfl⟩ (Nat.le_of_ble_eq_true rfl) (fun u5 h => ?_)
  refine pj_aload_n C d_Mo_mac_25 (pc' := 26) (i := 0) (x := b + 217) rfl rfl rfl ?_
  refine pj_iload C d_Mo_mac_26 (pc' := 28) (i := 4) (x := x4) rfl rfl ?_
  refine ck_Model_210_Model C  h d_Mo_mac_28 (pc' := 31) rfl ⟨Nat.le_of_ble_eq_true rfl, Nat.le_of_ble_eq_true rfl⟩ (Nat.le_of_ble_eq_true rfl) (fun u6 h => ?_)
  refine pj_aload_n C d_Mo_mac_31 (pc' := 32) (i := 0) (x := b + 217) rfl rfl rfl ?_
  refine pj_iload_n C d_Mo_mac_32 (pc' := 33) (i := 1) (x := x1) rfl rfl rfl ?_
  refine pj_aload_n C d_Mo_mac_33 (pc' := 34) (i := 0) (x := b + 217) rfl rfl rfl ?_
  refine ck_Model_213_Model C  h d_Mo_mac_34 (pc' := 37) rfl ⟨Nat.le_of_ble_eq_true rfl, Nat.le_of_ble_eq_true rfl⟩ (Nat.le_of_ble_eq_true rfl) (fun r8 u7 h => ?_)
  refine ck_Model_217_Model C  h d_Mo_mac_37 (pc' := 40) rfl ⟨Nat.le_of_ble_eq_true rfl, Nat.le_of_ble_eq_true rfl⟩ (Nat.le_of_ble_eq_true rfl) (fun r10 u9 h => ?_)
  exact pj_iret C hE d_Mo_mac_40 ⟨_, rfl, h⟩
def pw_Mo_mac (u : pj_M) (x1 : Int32) (x2 : Int32) (x3 : Int32) (x4 : Int32) (K : Int32 → pj_M → Prop) : Prop := pb_Mo_mac_0  K u x1 x2 x3 x4
theorem pc_Mo_mac (l : Launch) (D : va_G) (E : Nat → ClassId) {b : Nat} {u : pj_M} {x1 : Int32} {x2 : Int32} {x3 : Int32} {x4 : Int32} {K : Int32 → pj_M → Prop}  (h : pw_Mo_mac u x1 x2 x3 x4 K) : pj_C l y_Mo_mac c_Mo_mac 5 (some .int) rm_Mo_mac D E b [.ref (b + 217), .int x1, .int x2, .int x3, .int x4] u (pj_Ki K) := by
  refine pj_met (own := R_Mo) (by decide +kernel) rfl (Nat.le_of_ble_eq_true rfl) (fun g hE C => ?_)
  unfold pw_Mo_mac at h
  show pj_J g (pj_N g b u) 0 [some (.ref (b + 217)), some (.int x1), some (.int x2), some (.int x3), some (.int x4)] []
  exact pj_cut (pj_le_s (pj_le_s (pj_le_s (pj_le_s (pj_le_s pj_le_e))))) (pt_Mo_mac_0 C hE   h)
/-! Model.byteWith(II)I -/
theorem fg_Model_35_Model {g : pj_G} {b : Nat} {cc : ByteArray} {nL : Nat} {ret : Option FieldType} {rm : Room} {u : pj_M} {pc pc' : Nat} {vs : List (Option Value)} {st : List Value} (C : pj_X g cc nL R_Mo ret rm) {i : Nat} (t : pj_T i = 11) (hdg : decode cc pc = .ok (.getfield 35, 3)) (hp : pc + 3 = pc') (kk : pj_J g (pj_N g b u) pc' vs (.ref (b + 226) :: st)) : pj_J g (pj_N g b u) pc vs (.ref (b + i) :: st) :=
  pj_get C cl_Model hin_Model (k := 12) (Nat.le_of_ble_eq_true rfl) wm_1136 (Or.inl rfl) (pj_lt t (by decide)) (fun E => ko_11 t) rfl hdg hp kk
def rm_Mo_byteWith : Room := { frames := 0, cells := 0, slots := 0, locals := 0 }
def pb_Mo_byteWith_33  (K : Int32 → pj_M → Prop) (u : pj_M) (s0 : Int32) : Prop := K s0 u
set_option maxHeartbeats 1000000 in
theorem pt_Mo_byteWith_33 {g : pj_G} {b : Nat} (C : pj_X g c_Mo_byteWith 3 R_Mo (some .int) rm_Mo_byteWith) {K : Int32 → pj_M → Prop} (hE : pj_E g b (pj_Ki K))   {u : pj_M} {s0 : Int32}   (h : pb_Mo_byteWith_33  K u s0) : pj_J g (pj_N g b u) 33 [none, none, none] [.int s0] := by
  unfold pb_Mo_byteWith_33 at h
  exact pj_iret C hE d_Mo_byteWith_33 ⟨_, rfl, h⟩
def pb_Mo_byteWith_27  (K : Int32 → pj_M → Prop) (u : pj_M) (x1 : Int32) : Prop := vp_in x1 48 ∧ (pb_Mo_byteWith_33  K u (u 226 x1.toNatClampNeg))
set_option maxHeartbeats 1000000 in
theorem pt_Mo_byteWith_27 {g : pj_G} {b : Nat} (C : pj_X g c_Mo_byteWith 3 R_Mo (some .int) rm_Mo_byteWith) {K : Int32 → pj_M → Prop} (hE : pj_E g b (pj_Ki K))   {u : pj_M} {x1 : Int32}   (h : pb_Mo_byteWith_27  K u x1) : pj_J g (pj_N g b u) 27 [some (.ref (b + 217)), some (.int x1), none] [] := by
  unfold pb_Mo_byteWith_27 at h
  refine pj_aload_n C d_Mo_byteWith_27 (pc' := 28) (i := 0) (x := b + 217) rfl rfl rfl ?_
  refine fg_Model_35_Model C tk_217 d_Mo_byteWith_28 (pc' := 31) rfl ?_
  refine pj_iload_n C d_Mo_byteWith_31 (pc' := 32) (i := 1) (x := x1) rfl rfl rfl ?_
  refine pj_iald C (pj_lt tk_226 (by decide)) (fun E u => ka_22 tk_226) d_Mo_byteWith_32 (pc' := 33) rfl h (fun h => ?_)
  exact pj_cut (pj_le_n (pj_le_n (pj_le_n pj_le_e))) (pt_Mo_byteWith_33 C hE   h)
def pb_Mo_byteWith_11  (K : Int32 → pj_M → Prop) (u : pj_M) (x1 : Int32) (x2 : Int32) : Prop := pb_Mo_byteWith_33  K u ((x2 >>> ((8 * (6 - x1)) &&& 31)) &&& 255)
set_option maxHeartbeats 1000000 in
theorem pt_Mo_byteWith_11 {g : pj_G} {b : Nat} (C : pj_X g c_Mo_byteWith 3 R_Mo (some .int) rm_Mo_byteWith) {K : Int32 → pj_M → Prop} (hE : pj_E g b (pj_Ki K))   {u : pj_M} {x1 : Int32} {x2 : Int32}   (h : pb_Mo_byteWith_11  K u x1 x2) : pj_J g (pj_N g b u) 11 [none, some (.int x1), some (.int x2)] [] := by
  unfold pb_Mo_byteWith_11 at h
  refine pj_iload_n C d_Mo_byteWith_11 (pc' := 12) (i := 2) (x := x2) rfl rfl rfl ?_
  refine pj_bipush C d_Mo_byteWith_12 (pc' := 14) rfl (v := 8) (by decide) ?_
  refine pj_bipush C d_Mo_byteWith_14 (pc' := 16) rfl (v := 6) (by decide) ?_
  refine pj_iload_n C d_Mo_byteWith_16 (pc' := 17) (i := 1) (x := x1) rfl rfl rfl ?_
  refine pj_isub C d_Mo_byteWith_17 (pc' := 18) rfl ?_
  refine pj_imul C d_Mo_byteWith_18 (pc' := 19) rfl ?_
  refine pj_ishr C d_Mo_byteWith_19 (pc' := 20) rfl ?_
  refine pj_sipush C d_Mo_byteWith_20 (pc' := 23) rfl (v := 255) (by decide) ?_
  refine pj_iand C d_Mo_byteWith_23 (pc' := 24) rfl ?_
  refine pj_goto C d_Mo_byteWith_24 (tgt := 33) (by decide) ?_
  exact pj_cut (pj_le_n (pj_le_n (pj_le_n pj_le_e))) (pt_Mo_byteWith_33 C hE   h)
def pb_Mo_byteWith_5  (K : Int32 → pj_M → Prop) (u : pj_M) (x1 : Int32) (x2 : Int32) : Prop := ((7 ≤ x1) → (pb_Mo_byteWith_27  K u x1)) ∧ (¬ (7 ≤ x1) → (pb_Mo_byteWith_11  K u x1 x2))
set_option maxHeartbeats 1000000 in
theorem pt_Mo_byteWith_5 {g : pj_G} {b : Nat} (C : pj_X g c_Mo_byteWith 3 R_Mo (some .int) rm_Mo_byteWith) {K : Int32 → pj_M → Prop} (hE : pj_E g b (pj_Ki K))   {u : pj_M} {x1 : Int32} {x2 : Int32}   (h : pb_Mo_byteWith_5  K u x1 x2) : pj_J g (pj_N g b u) 5 [some (.ref (b + 217)), some (.int x1), some (.int x2)] [] := by
  unfold pb_Mo_byteWith_5 at h
  refine pj_iload_n C d_Mo_byteWith_5 (pc' := 6) (i := 1) (x := x1) rfl rfl rfl ?_
  refine pj_bipush C d_Mo_byteWith_6 (pc' := 8) rfl (v := 7) (by decide) ?_
  refine pj_icmp_ge C d_Mo_byteWith_8 (pc' := 11) rfl (tgt := 27) (by decide) h (fun h => ?_) (fun h => ?_)
  · exact pj_cut (pj_le_s (pj_le_s (pj_le_n pj_le_e))) (pt_Mo_byteWith_27 C hE   h)
  · exact pj_cut (pj_le_n (pj_le_s (pj_le_s pj_le_e))) (pt_Mo_byteWith_11 C hE   h)
def pb_Mo_byteWith_0  (K : Int32 → pj_M → Prop) (u : pj_M) (x1 : Int32) (x2 : Int32) : Prop := ((x1 < 3) → (pb_Mo_byteWith_27  K u x1)) ∧ (¬ (x1 < 3) → (pb_Mo_byteWith_5  K u x1 x2))
set_option maxHeartbeats 1000000 in
theorem pt_Mo_byteWith_0 {g : pj_G} {b : Nat} (C : pj_X g c_Mo_byteWith 3 R_Mo (some .int) rm_Mo_byteWith) {K : Int32 → pj_M → Prop} (hE : pj_E g b (pj_Ki K))   {u : pj_M} {x1 : Int32} {x2 : Int32}   (h : pb_Mo_byteWith_0  K u x1 x2) : pj_J g (pj_N g b u) 0 [some (.ref (b + 217)), some (.int x1), some (.int x2)] [] := by
  unfold pb_Mo_byteWith_0 at h
  refine pj_iload_n C d_Mo_byteWith_0 (pc' := 1) (i := 1) (x := x1) rfl rfl rfl ?_
  refine pj_iconst C d_Mo_byteWith_1 (pc' := 2) rfl (v := 3) (by decide) ?_
  refine pj_icmp_lt C d_Mo_byteWith_2 (pc' := 5) rfl (tgt := 27) (by decide) h (fun h => ?_) (fun h => ?_)
  · exact pj_cut (pj_le_s (pj_le_s (pj_le_n pj_le_e))) (pt_Mo_byteWith_27 C hE   h)
  · exact pj_cut (pj_le_s (pj_le_s (pj_le_s pj_le_e))) (pt_Mo_byteWith_5 C hE   h)
def pw_Mo_byteWith (u : pj_M) (x1 : Int32) (x2 : Int32) (K : Int32 → pj_M → Prop) : Prop := pb_Mo_byteWith_0  K u x1 x2
theorem pc_Mo_byteWith (l : Launch) (D : va_G) (E : Nat → ClassId) {b : Nat} {u : pj_M} {x1 : Int32} {x2 : Int32} {K : Int32 → pj_M → Prop}  (h : pw_Mo_byteWith u x1 x2 K) : pj_C l y_Mo_byteWith c_Mo_byteWith 3 (some .int) rm_Mo_byteWith D E b [.ref (b + 217), .int x1, .int x2] u (pj_Ki K) := by
  refine pj_met (own := R_Mo) (by decide +kernel) rfl (Nat.le_of_ble_eq_true rfl) (fun g hE C => ?_)
  unfold pw_Mo_byteWith at h
  show pj_J g (pj_N g b u) 0 [some (.ref (b + 217)), some (.int x1), some (.int x2)] []
  exact pj_cut (pj_le_s (pj_le_s (pj_le_s pj_le_e))) (pt_Mo_byteWith_0 C hE   h)
/-! Model.sealWith(I)I -/
theorem fg_Model_194_Model {g : pj_G} {b : Nat} {cc : ByteArray} {nL : Nat} {ret : Option FieldType} {rm : Room} {u : pj_M} {pc pc' : Nat} {vs : List (Option Value)} {st : List Value} (C : pj_X g cc nL R_Mo ret rm) {i : Nat} (t : pj_T i = 11) (hdg : decode cc pc = .ok (.getfield 194, 3)) (hp : pc + 3 = pc') (kk : pj_J g (pj_N g b u) pc' vs (.int (u i 0) :: st)) : pj_J g (pj_N g b u) pc vs (.ref (b + i) :: st) :=
  pj_get C cl_Model hin_Model (k := 0) (Nat.le_of_ble_eq_true rfl) wm_1124 (Or.inl rfl) (pj_lt t (by decide)) (fun E => ko_11 t) rfl hdg hp kk
theorem fg_Model_221_Model {g : pj_G} {b : Nat} {cc : ByteArray} {nL : Nat} {ret : Option FieldType} {rm : Room} {u : pj_M} {pc pc' : Nat} {vs : List (Option Value)} {st : List Value} (C : pj_X g cc nL R_Mo ret rm) {i : Nat} (t : pj_T i = 11) (hdg : decode cc pc = .ok (.getfield 221, 3)) (hp : pc + 3 = pc') (kk : pj_J g (pj_N g b u) pc' vs (.int (u i 11) :: st)) : pj_J g (pj_N g b u) pc vs (.ref (b + i) :: st) :=
  pj_get C cl_Model hin_Model (k := 11) (Nat.le_of_ble_eq_true rfl) wm_1135 (Or.inl rfl) (pj_lt t (by decide)) (fun E => ko_11 t) rfl hdg hp kk
theorem fg_Model_224_Model {g : pj_G} {b : Nat} {cc : ByteArray} {nL : Nat} {ret : Option FieldType} {rm : Room} {u : pj_M} {pc pc' : Nat} {vs : List (Option Value)} {st : List Value} (C : pj_X g cc nL R_Mo ret rm) {i : Nat} (t : pj_T i = 11) (hdg : decode cc pc = .ok (.getfield 224, 3)) (hp : pc + 3 = pc') (kk : pj_J g (pj_N g b u) pc' vs (.int (u i 15) :: st)) : pj_J g (pj_N g b u) pc vs (.ref (b + i) :: st) :=
  pj_get C cl_Model hin_Model (k := 15) (Nat.le_of_ble_eq_true rfl) wm_1139 (Or.inl rfl) (pj_lt t (by decide)) (fun E => ko_11 t) rfl hdg hp kk
theorem ck_Model_227_Model {g : pj_G} {b : Nat} {cc : ByteArray} {nL : Nat} {ret : Option FieldType} {rm : Room} {u : pj_M} {pc pc' : Nat} {vs : List (Option Value)} {st : List Value} (C : pj_X g cc nL R_Mo ret rm) {x1 : Int32} {x2 : Int32} {K : Int32 → pj_M → Prop}  (h : pw_Mo_byteWith u x1 x2 K) (hdg : decode cc pc = .ok (.invokevirtual 227, 3)) (hp : pc + 3 = pc') (hR : rm_Mo_byteWith.frames + 1 ≤ rm.frames ∧ 8 + (3 + 11) + rm_Mo_byteWith.locals ≤ rm.locals) (h8 : (st.map fun v => v.category).sum ≤ 8) (kk : ∀ r u', K r u' → pj_J g (pj_N g b u') pc' vs (.int r :: st)) : pj_J g (pj_N g b u) pc vs (.int x2 :: .int x1 :: .ref (b + 217) :: st) :=
  pj_callV C (As := [.int x1, .int x2]) (fun l D E => pc_Mo_byteWith l D E  h) rfl rfl cl_Model (pj_lt tk_217 (by decide)) (fun E => ko_11 tk_217) wm_1440 wm_1442 wm_56 wm_103 wm_1443 (by decide +kernel) (n := 2) rfl hR rfl h8 hdg hp (fun v u' hq => by obtain ⟨r, rfl, hk⟩ := hq; exact kk r u' hk)
def rm_Mo_sealWith : Room := { frames := 3, cells := 0, slots := 0, locals := 65 }
def pb_Mo_sealWith_66  (K : Int32 → pj_M → Prop) (u : pj_M)  : Prop := pw_Mo_sum u  fun r2 u1 => (pw_Mo_outer u1 (u 217 0) r2 fun r4 u3 => (K r4 u3))
set_option maxHeartbeats 1000000 in
theorem pt_Mo_sealWith_66 {g : pj_G} {b : Nat} (C : pj_X g c_Mo_sealWith 3 R_Mo (some .int) rm_Mo_sealWith) {K : Int32 → pj_M → Prop} (hE : pj_E g b (pj_Ki K))   {u : pj_M}    (h : pb_Mo_sealWith_66  K u ) : pj_J g (pj_N g b u) 66 [some (.ref (b + 217)), none, none] [] := by
  unfold pb_Mo_sealWith_66 at h
  refine pj_aload_n C d_Mo_sealWith_66 (pc' := 67) (i := 0) (x := b + 217) rfl rfl rfl ?_
  refine pj_aload_n C d_Mo_sealWith_67 (pc' := 68) (i := 0) (x := b + 217) rfl rfl rfl ?_
  refine fg_Model_194_Model C tk_217 d_Mo_sealWith_68 (pc' := 71) rfl ?_
  refine pj_aload_n C d_Mo_sealWith_71 (pc' := 72) (i := 0) (x := b + 217) rfl rfl rfl ?_
  refine ck_Model_213_Model C  h d_Mo_sealWith_72 (pc' := 75) rfl ⟨Nat.le_of_ble_eq_true rfl, Nat.le_of_ble_eq_true rfl⟩ (Nat.le_of_ble_eq_true rfl) (fun r2 u1 h => ?_)
  refine ck_Model_217_Model C  h d_Mo_sealWith_75 (pc' := 78) rfl ⟨Nat.le_of_ble_eq_true rfl, Nat.le_of_ble_eq_true rfl⟩ (Nat.le_of_ble_eq_true rfl) (fun r4 u3 h => ?_)
  exact pj_iret C hE d_Mo_sealWith_78 ⟨_, rfl, h⟩
def pb_Mo_sealWith_57 (R20 : pj_M → Int32 → Prop) (K : Int32 → pj_M → Prop) (u : pj_M) (x1 : Int32) (x2 : Int32) (s0 : Int32) : Prop := pw_Mo_add u s0 fun u1 => (R20 u1 (x2 + 1))
set_option maxHeartbeats 1000000 in
theorem pt_Mo_sealWith_57 {g : pj_G} {b : Nat} (C : pj_X g c_Mo_sealWith 3 R_Mo (some .int) rm_Mo_sealWith) {K : Int32 → pj_M → Prop} (hE : pj_E g b (pj_Ki K)) {R20 : pj_M → Int32 → Prop}  {u : pj_M} {x1 : Int32} {x2 : Int32} {s0 : Int32} (hR20 : ∀ (u : pj_M) (x2 : Int32), R20 u x2 → pj_J g (pj_N g b u) 20 [some (.ref (b + 217)), some (.int x1), some (.int x2)] [])  (h : pb_Mo_sealWith_57 R20 K u x1 x2 s0) : pj_J g (pj_N g b u) 57 [some (.ref (b + 217)), some (.int x1), some (.int x2)] [.int s0, .ref (b + 217)] := by
  unfold pb_Mo_sealWith_57 at h
  refine ck_Model_203_Model C  h d_Mo_sealWith_57 (pc' := 60) rfl ⟨Nat.le_of_ble_eq_true rfl, Nat.le_of_ble_eq_true rfl⟩ (Nat.le_of_ble_eq_true rfl) (fun u1 h => ?_)
  refine pj_iinc C d_Mo_sealWith_60 (pc' := 63) (x := x2) (d := 1) (vs' := [some (.ref (b + 217)), some (.int x1), some (.int (x2 + 1))]) rfl rfl (Nat.le_of_ble_eq_true rfl) rfl (by decide) rfl ?_
  refine pj_goto C d_Mo_sealWith_63 (tgt := 20) (by decide) ?_
  exact pj_cut (pj_le_s (pj_le_s (pj_le_s pj_le_e))) (hR20 _ _ h)
def pb_Mo_sealWith_51 (R20 : pj_M → Int32 → Prop) (K : Int32 → pj_M → Prop) (u : pj_M) (x1 : Int32) (x2 : Int32) : Prop := pw_Mo_byteWith u x2 x1 fun r2 u1 => (pb_Mo_sealWith_57 R20 K u1 x1 x2 r2)
set_option maxHeartbeats 1000000 in
theorem pt_Mo_sealWith_51 {g : pj_G} {b : Nat} (C : pj_X g c_Mo_sealWith 3 R_Mo (some .int) rm_Mo_sealWith) {K : Int32 → pj_M → Prop} (hE : pj_E g b (pj_Ki K)) {R20 : pj_M → Int32 → Prop}  {u : pj_M} {x1 : Int32} {x2 : Int32} (hR20 : ∀ (u : pj_M) (x2 : Int32), R20 u x2 → pj_J g (pj_N g b u) 20 [some (.ref (b + 217)), some (.int x1), some (.int x2)] [])  (h : pb_Mo_sealWith_51 R20 K u x1 x2) : pj_J g (pj_N g b u) 51 [some (.ref (b + 217)), some (.int x1), some (.int x2)] [.ref (b + 217)] := by
  unfold pb_Mo_sealWith_51 at h
  refine pj_aload_n C d_Mo_sealWith_51 (pc' := 52) (i := 0) (x := b + 217) rfl rfl rfl ?_
  refine pj_iload_n C d_Mo_sealWith_52 (pc' := 53) (i := 2) (x := x2) rfl rfl rfl ?_
  refine pj_iload_n C d_Mo_sealWith_53 (pc' := 54) (i := 1) (x := x1) rfl rfl rfl ?_
  refine ck_Model_227_Model C  h d_Mo_sealWith_54 (pc' := 57) rfl ⟨Nat.le_of_ble_eq_true rfl, Nat.le_of_ble_eq_true rfl⟩ (Nat.le_of_ble_eq_true rfl) (fun r2 u1 h => ?_)
  exact pj_cut (pj_le_s (pj_le_s (pj_le_s pj_le_e))) (pt_Mo_sealWith_57 C hE hR20  h)
def pb_Mo_sealWith_47 (R20 : pj_M → Int32 → Prop) (K : Int32 → pj_M → Prop) (u : pj_M) (x1 : Int32) (x2 : Int32) : Prop := pb_Mo_sealWith_57 R20 K u x1 x2 0
set_option maxHeartbeats 1000000 in
theorem pt_Mo_sealWith_47 {g : pj_G} {b : Nat} (C : pj_X g c_Mo_sealWith 3 R_Mo (some .int) rm_Mo_sealWith) {K : Int32 → pj_M → Prop} (hE : pj_E g b (pj_Ki K)) {R20 : pj_M → Int32 → Prop}  {u : pj_M} {x1 : Int32} {x2 : Int32} (hR20 : ∀ (u : pj_M) (x2 : Int32), R20 u x2 → pj_J g (pj_N g b u) 20 [some (.ref (b + 217)), some (.int x1), some (.int x2)] [])  (h : pb_Mo_sealWith_47 R20 K u x1 x2) : pj_J g (pj_N g b u) 47 [some (.ref (b + 217)), some (.int x1), some (.int x2)] [.ref (b + 217)] := by
  unfold pb_Mo_sealWith_47 at h
  refine pj_iconst C d_Mo_sealWith_47 (pc' := 48) rfl (v := 0) (by decide) ?_
  refine pj_goto C d_Mo_sealWith_48 (tgt := 57) (by decide) ?_
  exact pj_cut (pj_le_s (pj_le_s (pj_le_s pj_le_e))) (pt_Mo_sealWith_57 C hE hR20  h)
def pb_Mo_sealWith_37 (R20 : pj_M → Int32 → Prop) (K : Int32 → pj_M → Prop) (u : pj_M) (x1 : Int32) (x2 : Int32) : Prop := ((((u 217 15) + 4) ≤ x2) → (pb_Mo_sealWith_51 R20 K u x1 x2)) ∧ (¬ (((u 217 15) + 4) ≤ x2) → (pb_Mo_sealWith_47 R20 K u x1 x2))
set_option maxHeartbeats 1000000 in
theorem pt_Mo_sealWith_37 {g : pj_G} {b : Nat} (C : pj_X g c_Mo_sealWith 3 R_Mo (some .int) rm_Mo_sealWith) {K : Int32 → pj_M → Prop} (hE : pj_E g b (pj_Ki K)) {R20 : pj_M → Int32 → Prop}  {u : pj_M} {x1 : Int32} {x2 : Int32} (hR20 : ∀ (u : pj_M) (x2 : Int32), R20 u x2 → pj_J g (pj_N g b u) 20 [some (.ref (b + 217)), some (.int x1), some (.int x2)] [])  (h : pb_Mo_sealWith_37 R20 K u x1 x2) : pj_J g (pj_N g b u) 37 [some (.ref (b + 217)), some (.int x1), some (.int x2)] [.ref (b + 217)] := by
  unfold pb_Mo_sealWith_37 at h
  refine pj_iload_n C d_Mo_sealWith_37 (pc' := 38) (i := 2) (x := x2) rfl rfl rfl ?_
  refine pj_aload_n C d_Mo_sealWith_38 (pc' := 39) (i := 0) (x := b + 217) rfl rfl rfl ?_
  refine fg_Model_224_Model C tk_217 d_Mo_sealWith_39 (pc' := 42) rfl ?_
  refine pj_iconst C d_Mo_sealWith_42 (pc' := 43) rfl (v := 4) (by decide) ?_
  refine pj_iadd C d_Mo_sealWith_43 (pc' := 44) rfl ?_
  refine pj_icmp_ge C d_Mo_sealWith_44 (pc' := 47) rfl (tgt := 51) (by decide) h (fun h => ?_) (fun h => ?_)
  · exact pj_cut (pj_le_s (pj_le_s (pj_le_s pj_le_e))) (pt_Mo_sealWith_51 C hE hR20  h)
  · exact pj_cut (pj_le_s (pj_le_s (pj_le_s pj_le_e))) (pt_Mo_sealWith_47 C hE hR20  h)
def pb_Mo_sealWith_28 (R20 : pj_M → Int32 → Prop) (K : Int32 → pj_M → Prop) (u : pj_M) (x1 : Int32) (x2 : Int32) : Prop := ((x2 < (u 217 15)) → (pb_Mo_sealWith_51 R20 K u x1 x2)) ∧ (¬ (x2 < (u 217 15)) → (pb_Mo_sealWith_37 R20 K u x1 x2))
set_option maxHeartbeats 1000000 in
theorem pt_Mo_sealWith_28 {g : pj_G} {b : Nat} (C : pj_X g c_Mo_sealWith 3 R_Mo (some .int) rm_Mo_sealWith) {K : Int32 → pj_M → Prop} (hE : pj_E g b (pj_Ki K)) {R20 : pj_M → Int32 → Prop}  {u : pj_M} {x1 : Int32} {x2 : Int32} (hR20 : ∀ (u : pj_M) (x2 : Int32), R20 u x2 → pj_J g (pj_N g b u) 20 [some (.ref (b + 217)), some (.int x1), some (.int x2)] [])  (h : pb_Mo_sealWith_28 R20 K u x1 x2) : pj_J g (pj_N g b u) 28 [some (.ref (b + 217)), some (.int x1), some (.int x2)] [] := by
  unfold pb_Mo_sealWith_28 at h
  refine pj_aload_n C d_Mo_sealWith_28 (pc' := 29) (i := 0) (x := b + 217) rfl rfl rfl ?_
  refine pj_iload_n C d_Mo_sealWith_29 (pc' := 30) (i := 2) (x := x2) rfl rfl rfl ?_
  refine pj_aload_n C d_Mo_sealWith_30 (pc' := 31) (i := 0) (x := b + 217) rfl rfl rfl ?_
  refine fg_Model_224_Model C tk_217 d_Mo_sealWith_31 (pc' := 34) rfl ?_
  refine pj_icmp_lt C d_Mo_sealWith_34 (pc' := 37) rfl (tgt := 51) (by decide) h (fun h => ?_) (fun h => ?_)
  · exact pj_cut (pj_le_s (pj_le_s (pj_le_s pj_le_e))) (pt_Mo_sealWith_51 C hE hR20  h)
  · exact pj_cut (pj_le_s (pj_le_s (pj_le_s pj_le_e))) (pt_Mo_sealWith_37 C hE hR20  h)
def pb_Mo_sealWith_20b (R20 : pj_M → Int32 → Prop) (K : Int32 → pj_M → Prop) (u : pj_M) (x1 : Int32) (x2 : Int32) : Prop := (((u 217 11) ≤ x2) → (pb_Mo_sealWith_66  K u )) ∧ (¬ ((u 217 11) ≤ x2) → (pb_Mo_sealWith_28 R20 K u x1 x2))
set_option maxHeartbeats 1000000 in
theorem pt_Mo_sealWith_20b {g : pj_G} {b : Nat} (C : pj_X g c_Mo_sealWith 3 R_Mo (some .int) rm_Mo_sealWith) {K : Int32 → pj_M → Prop} (hE : pj_E g b (pj_Ki K)) {R20 : pj_M → Int32 → Prop}  {u : pj_M} {x1 : Int32} {x2 : Int32} (hR20 : ∀ (u : pj_M) (x2 : Int32), R20 u x2 → pj_J g (pj_N g b u) 20 [some (.ref (b + 217)), some (.int x1), some (.int x2)] [])  (h : pb_Mo_sealWith_20b R20 K u x1 x2) : pj_J g (pj_N g b u) 20 [some (.ref (b + 217)), some (.int x1), some (.int x2)] [] := by
  unfold pb_Mo_sealWith_20b at h
  refine pj_iload_n C d_Mo_sealWith_20 (pc' := 21) (i := 2) (x := x2) rfl rfl rfl ?_
  refine pj_aload_n C d_Mo_sealWith_21 (pc' := 22) (i := 0) (x := b + 217) rfl rfl rfl ?_
  refine fg_Model_221_Model C tk_217 d_Mo_sealWith_22 (pc' := 25) rfl ?_
  refine pj_icmp_ge C d_Mo_sealWith_25 (pc' := 28) rfl (tgt := 66) (by decide) h (fun h => ?_) (fun h => ?_)
  · exact pj_cut (pj_le_s (pj_le_n (pj_le_n pj_le_e))) (pt_Mo_sealWith_66 C hE   h)
  · exact pj_cut (pj_le_s (pj_le_s (pj_le_s pj_le_e))) (pt_Mo_sealWith_28 C hE hR20  h)
def pb_Mo_sealWith_20  (K : Int32 → pj_M → Prop) (x1 : Int32) : Nat → pj_M → Int32 → Prop
  | 0 => fun _ _ => False
  | n + 1 => fun u x2 => pb_Mo_sealWith_20b (pb_Mo_sealWith_20  K x1 n) K u x1 x2
theorem pt_Mo_sealWith_20 {g : pj_G} {b : Nat} (C : pj_X g c_Mo_sealWith 3 R_Mo (some .int) rm_Mo_sealWith) {K : Int32 → pj_M → Prop} (hE : pj_E g b (pj_Ki K))  {x1 : Int32}   : ∀ (n : Nat) (u : pj_M) (x2 : Int32), pb_Mo_sealWith_20  K x1 n u x2 → pj_J g (pj_N g b u) 20 [some (.ref (b + 217)), some (.int x1), some (.int x2)] [] := by
  intro n
  induction n with
  | zero => intro u x2 h; exact False.elim h
  | succ n ih =>
    intro u x2 h
    exact (pt_Mo_sealWith_20b C hE ih  h)
def pb_Mo_sealWith_0  (K : Int32 → pj_M → Prop) (u : pj_M) (x1 : Int32) : Prop := pw_Mo_begun u  fun u1 => (pw_Mo_addInt u1 (u1 217 0) fun u2 => (pw_Mo_add u2 54 fun u3 => (∃ n, pb_Mo_sealWith_20  K x1 n u3 0)))
set_option maxHeartbeats 1000000 in
theorem pt_Mo_sealWith_0 {g : pj_G} {b : Nat} (C : pj_X g c_Mo_sealWith 3 R_Mo (some .int) rm_Mo_sealWith) {K : Int32 → pj_M → Prop} (hE : pj_E g b (pj_Ki K))   {u : pj_M} {x1 : Int32}   (h : pb_Mo_sealWith_0  K u x1) : pj_J g (pj_N g b u) 0 [some (.ref (b + 217)), some (.int x1), none] [] := by
  unfold pb_Mo_sealWith_0 at h
  refine pj_aload_n C d_Mo_sealWith_0 (pc' := 1) (i := 0) (x := b + 217) rfl rfl rfl ?_
  refine ck_Model_207_Model C  h d_Mo_sealWith_1 (pc' := 4) rfl ⟨Nat.le_of_ble_eq_true rfl, Nat.le_of_ble_eq_true rfl⟩ (Nat.le_of_ble_eq_true rfl) (fun u1 h => ?_)
  refine pj_aload_n C d_Mo_sealWith_4 (pc' := 5) (i := 0) (x := b + 217) rfl rfl rfl ?_
  refine pj_aload_n C d_Mo_sealWith_5 (pc' := 6) (i := 0) (x := b + 217) rfl rfl rfl ?_
  refine fg_Model_194_Model C tk_217 d_Mo_sealWith_6 (pc' := 9) rfl ?_
  refine ck_Model_210_Model C  h d_Mo_sealWith_9 (pc' := 12) rfl ⟨Nat.le_of_ble_eq_true rfl, Nat.le_of_ble_eq_true rfl⟩ (Nat.le_of_ble_eq_true rfl) (fun u2 h => ?_)
  refine pj_aload_n C d_Mo_sealWith_12 (pc' := 13) (i := 0) (x := b + 217) rfl rfl rfl ?_
  refine pj_bipush C d_Mo_sealWith_13 (pc' := 15) rfl (v := 54) (by decide) ?_
  refine ck_Model_203_Model C  h d_Mo_sealWith_15 (pc' := 18) rfl ⟨Nat.le_of_ble_eq_true rfl, Nat.le_of_ble_eq_true rfl⟩ (Nat.le_of_ble_eq_true rfl) (fun u3 h => ?_)
  refine pj_iconst C d_Mo_sealWith_18 (pc' := 19) rfl (v := 0) (by decide) ?_
  refine pj_istore_n C d_Mo_sealWith_19 (pc' := 20) (i := 2) (vs' := [some (.ref (b + 217)), some (.int x1), some (.int 0)]) rfl rfl (Nat.le_of_ble_eq_true rfl) (Nat.le_of_ble_eq_true rfl) rfl rfl ?_
  obtain ⟨n, h⟩ := h
  exact pj_cut (pj_le_s (pj_le_s (pj_le_s pj_le_e))) (pt_Mo_sealWith_20 C hE   n _ _ h)
def pw_Mo_sealWith (u : pj_M) (x1 : Int32) (K : Int32 → pj_M → Prop) : Prop := pb_Mo_sealWith_0  K u x1
theorem pc_Mo_sealWith (l : Launch) (D : va_G) (E : Nat → ClassId) {b : Nat} {u : pj_M} {x1 : Int32} {K : Int32 → pj_M → Prop}  (h : pw_Mo_sealWith u x1 K) : pj_C l y_Mo_sealWith c_Mo_sealWith 3 (some .int) rm_Mo_sealWith D E b [.ref (b + 217), .int x1] u (pj_Ki K) := by
  refine pj_met (own := R_Mo) (by decide +kernel) rfl (Nat.le_of_ble_eq_true rfl) (fun g hE C => ?_)
  unfold pw_Mo_sealWith at h
  show pj_J g (pj_N g b u) 0 [some (.ref (b + 217)), some (.int x1), none] []
  exact pj_cut (pj_le_s (pj_le_s (pj_le_n pj_le_e))) (pt_Mo_sealWith_0 C hE   h)
/-! Model.authWith(I)I -/
def rm_Mo_authWith : Room := { frames := 2, cells := 0, slots := 0, locals := 43 }
def pb_Mo_authWith_30  (K : Int32 → pj_M → Prop) (u : pj_M)  : Prop := pw_Mo_addInt u (u 217 0) fun u1 => (pw_Mo_sum u1  fun r3 u2 => (K r3 u2))
set_option maxHeartbeats 1000000 in
theorem pt_Mo_authWith_30 {g : pj_G} {b : Nat} (C : pj_X g c_Mo_authWith 3 R_Mo (some .int) rm_Mo_authWith) {K : Int32 → pj_M → Prop} (hE : pj_E g b (pj_Ki K))   {u : pj_M}    (h : pb_Mo_authWith_30  K u ) : pj_J g (pj_N g b u) 30 [some (.ref (b + 217)), none, none] [] := by
  unfold pb_Mo_authWith_30 at h
  refine pj_aload_n C d_Mo_authWith_30 (pc' := 31) (i := 0) (x := b + 217) rfl rfl rfl ?_
  refine pj_aload_n C d_Mo_authWith_31 (pc' := 32) (i := 0) (x := b + 217) rfl rfl rfl ?_
  refine fg_Model_194_Model C tk_217 d_Mo_authWith_32 (pc' := 35) rfl ?_
  refine ck_Model_210_Model C  h d_Mo_authWith_35 (pc' := 38) rfl ⟨Nat.le_of_ble_eq_true rfl, Nat.le_of_ble_eq_true rfl⟩ (Nat.le_of_ble_eq_true rfl) (fun u1 h => ?_)
  refine pj_aload_n C d_Mo_authWith_38 (pc' := 39) (i := 0) (x := b + 217) rfl rfl rfl ?_
  refine ck_Model_213_Model C  h d_Mo_authWith_39 (pc' := 42) rfl ⟨Nat.le_of_ble_eq_true rfl, Nat.le_of_ble_eq_true rfl⟩ (Nat.le_of_ble_eq_true rfl) (fun r3 u2 h => ?_)
  exact pj_iret C hE d_Mo_authWith_42 ⟨_, rfl, h⟩
def pb_Mo_authWith_14 (R6 : pj_M → Int32 → Prop) (K : Int32 → pj_M → Prop) (u : pj_M) (x1 : Int32) (x2 : Int32) : Prop := pw_Mo_byteWith u x2 x1 fun r2 u1 => (pw_Mo_add u1 r2 fun u3 => (R6 u3 (x2 + 1)))
set_option maxHeartbeats 1000000 in
theorem pt_Mo_authWith_14 {g : pj_G} {b : Nat} (C : pj_X g c_Mo_authWith 3 R_Mo (some .int) rm_Mo_authWith) {K : Int32 → pj_M → Prop} (hE : pj_E g b (pj_Ki K)) {R6 : pj_M → Int32 → Prop}  {u : pj_M} {x1 : Int32} {x2 : Int32} (hR6 : ∀ (u : pj_M) (x2 : Int32), R6 u x2 → pj_J g (pj_N g b u) 6 [some (.ref (b + 217)), some (.int x1), some (.int x2)] [])  (h : pb_Mo_authWith_14 R6 K u x1 x2) : pj_J g (pj_N g b u) 14 [some (.ref (b + 217)), some (.int x1), some (.int x2)] [] := by
  unfold pb_Mo_authWith_14 at h
  refine pj_aload_n C d_Mo_authWith_14 (pc' := 15) (i := 0) (x := b + 217) rfl rfl rfl ?_
  refine pj_aload_n C d_Mo_authWith_15 (pc' := 16) (i := 0) (x := b + 217) rfl rfl rfl ?_
  refine pj_iload_n C d_Mo_authWith_16 (pc' := 17) (i := 2) (x := x2) rfl rfl rfl ?_
  refine pj_iload_n C d_Mo_authWith_17 (pc' := 18) (i := 1) (x := x1) rfl rfl rfl ?_
  refine ck_Model_227_Model C  h d_Mo_authWith_18 (pc' := 21) rfl ⟨Nat.le_of_ble_eq_true rfl, Nat.le_of_ble_eq_true rfl⟩ (Nat.le_of_ble_eq_true rfl) (fun r2 u1 h => ?_)
  refine ck_Model_203_Model C  h d_Mo_authWith_21 (pc' := 24) rfl ⟨Nat.le_of_ble_eq_true rfl, Nat.le_of_ble_eq_true rfl⟩ (Nat.le_of_ble_eq_true rfl) (fun u3 h => ?_)
  refine pj_iinc C d_Mo_authWith_24 (pc' := 27) (x := x2) (d := 1) (vs' := [some (.ref (b + 217)), some (.int x1), some (.int (x2 + 1))]) rfl rfl (Nat.le_of_ble_eq_true rfl) rfl (by decide) rfl ?_
  refine pj_goto C d_Mo_authWith_27 (tgt := 6) (by decide) ?_
  exact pj_cut (pj_le_s (pj_le_s (pj_le_s pj_le_e))) (hR6 _ _ h)
def pb_Mo_authWith_6b (R6 : pj_M → Int32 → Prop) (K : Int32 → pj_M → Prop) (u : pj_M) (x1 : Int32) (x2 : Int32) : Prop := (((u 217 11) ≤ x2) → (pb_Mo_authWith_30  K u )) ∧ (¬ ((u 217 11) ≤ x2) → (pb_Mo_authWith_14 R6 K u x1 x2))
set_option maxHeartbeats 1000000 in
theorem pt_Mo_authWith_6b {g : pj_G} {b : Nat} (C : pj_X g c_Mo_authWith 3 R_Mo (some .int) rm_Mo_authWith) {K : Int32 → pj_M → Prop} (hE : pj_E g b (pj_Ki K)) {R6 : pj_M → Int32 → Prop}  {u : pj_M} {x1 : Int32} {x2 : Int32} (hR6 : ∀ (u : pj_M) (x2 : Int32), R6 u x2 → pj_J g (pj_N g b u) 6 [some (.ref (b + 217)), some (.int x1), some (.int x2)] [])  (h : pb_Mo_authWith_6b R6 K u x1 x2) : pj_J g (pj_N g b u) 6 [some (.ref (b + 217)), some (.int x1), some (.int x2)] [] := by
  unfold pb_Mo_authWith_6b at h
  refine pj_iload_n C d_Mo_authWith_6 (pc' := 7) (i := 2) (x := x2) rfl rfl rfl ?_
  refine pj_aload_n C d_Mo_authWith_7 (pc' := 8) (i := 0) (x := b + 217) rfl rfl rfl ?_
  refine fg_Model_221_Model C tk_217 d_Mo_authWith_8 (pc' := 11) rfl ?_
  refine pj_icmp_ge C d_Mo_authWith_11 (pc' := 14) rfl (tgt := 30) (by decide) h (fun h => ?_) (fun h => ?_)
  · exact pj_cut (pj_le_s (pj_le_n (pj_le_n pj_le_e))) (pt_Mo_authWith_30 C hE   h)
  · exact pj_cut (pj_le_s (pj_le_s (pj_le_s pj_le_e))) (pt_Mo_authWith_14 C hE hR6  h)
def pb_Mo_authWith_6  (K : Int32 → pj_M → Prop) (x1 : Int32) : Nat → pj_M → Int32 → Prop
  | 0 => fun _ _ => False
  | n + 1 => fun u x2 => pb_Mo_authWith_6b (pb_Mo_authWith_6  K x1 n) K u x1 x2
theorem pt_Mo_authWith_6 {g : pj_G} {b : Nat} (C : pj_X g c_Mo_authWith 3 R_Mo (some .int) rm_Mo_authWith) {K : Int32 → pj_M → Prop} (hE : pj_E g b (pj_Ki K))  {x1 : Int32}   : ∀ (n : Nat) (u : pj_M) (x2 : Int32), pb_Mo_authWith_6  K x1 n u x2 → pj_J g (pj_N g b u) 6 [some (.ref (b + 217)), some (.int x1), some (.int x2)] [] := by
  intro n
  induction n with
  | zero => intro u x2 h; exact False.elim h
  | succ n ih =>
    intro u x2 h
    exact (pt_Mo_authWith_6b C hE ih  h)
def pb_Mo_authWith_0  (K : Int32 → pj_M → Prop) (u : pj_M) (x1 : Int32) : Prop := pw_Mo_begun u  fun u1 => (∃ n, pb_Mo_authWith_6  K x1 n u1 0)
set_option maxHeartbeats 1000000 in
theorem pt_Mo_authWith_0 {g : pj_G} {b : Nat} (C : pj_X g c_Mo_authWith 3 R_Mo (some .int) rm_Mo_authWith) {K : Int32 → pj_M → Prop} (hE : pj_E g b (pj_Ki K))   {u : pj_M} {x1 : Int32}   (h : pb_Mo_authWith_0  K u x1) : pj_J g (pj_N g b u) 0 [some (.ref (b + 217)), some (.int x1), none] [] := by
  unfold pb_Mo_authWith_0 at h
  refine pj_aload_n C d_Mo_authWith_0 (pc' := 1) (i := 0) (x := b + 217) rfl rfl rfl ?_
  refine ck_Model_207_Model C  h d_Mo_authWith_1 (pc' := 4) rfl ⟨Nat.le_of_ble_eq_true rfl, Nat.le_of_ble_eq_true rfl⟩ (Nat.le_of_ble_eq_true rfl) (fun u1 h => ?_)
  refine pj_iconst C d_Mo_authWith_4 (pc' := 5) rfl (v := 0) (by decide) ?_
  refine pj_istore_n C d_Mo_authWith_5 (pc' := 6) (i := 2) (vs' := [some (.ref (b + 217)), some (.int x1), some (.int 0)]) rfl rfl (Nat.le_of_ble_eq_true rfl) (Nat.le_of_ble_eq_true rfl) rfl rfl ?_
  obtain ⟨n, h⟩ := h
  exact pj_cut (pj_le_s (pj_le_s (pj_le_s pj_le_e))) (pt_Mo_authWith_6 C hE   n _ _ h)
def pw_Mo_authWith (u : pj_M) (x1 : Int32) (K : Int32 → pj_M → Prop) : Prop := pb_Mo_authWith_0  K u x1
theorem pc_Mo_authWith (l : Launch) (D : va_G) (E : Nat → ClassId) {b : Nat} {u : pj_M} {x1 : Int32} {K : Int32 → pj_M → Prop}  (h : pw_Mo_authWith u x1 K) : pj_C l y_Mo_authWith c_Mo_authWith 3 (some .int) rm_Mo_authWith D E b [.ref (b + 217), .int x1] u (pj_Ki K) := by
  refine pj_met (own := R_Mo) (by decide +kernel) rfl (Nat.le_of_ble_eq_true rfl) (fun g hE C => ?_)
  unfold pw_Mo_authWith at h
  show pj_J g (pj_N g b u) 0 [some (.ref (b + 217)), some (.int x1), none] []
  exact pj_cut (pj_le_s (pj_le_s (pj_le_n pj_le_e))) (pt_Mo_authWith_0 C hE   h)
/-! Model.authOf(I)I -/
def rm_Mo_authOf : Room := { frames := 2, cells := 0, slots := 0, locals := 43 }
def pb_Mo_authOf_0  (K : Int32 → pj_M → Prop) (u : pj_M) (x1 : Int32) : Prop := pw_Mo_begun u  fun u1 => (pw_Mo_addInt u1 (u1 217 0) fun u2 => (pw_Mo_addInt u2 x1 fun u3 => (pw_Mo_sum u3  fun r5 u4 => (K r5 u4))))
set_option maxHeartbeats 1000000 in
theorem pt_Mo_authOf_0 {g : pj_G} {b : Nat} (C : pj_X g c_Mo_authOf 2 R_Mo (some .int) rm_Mo_authOf) {K : Int32 → pj_M → Prop} (hE : pj_E g b (pj_Ki K))   {u : pj_M} {x1 : Int32}   (h : pb_Mo_authOf_0  K u x1) : pj_J g (pj_N g b u) 0 [some (.ref (b + 217)), some (.int x1)] [] := by
  unfold pb_Mo_authOf_0 at h
  refine pj_aload_n C d_Mo_authOf_0 (pc' := 1) (i := 0) (x := b + 217) rfl rfl rfl ?_
  refine ck_Model_207_Model C  h d_Mo_authOf_1 (pc' := 4) rfl ⟨Nat.le_of_ble_eq_true rfl, Nat.le_of_ble_eq_true rfl⟩ (Nat.le_of_ble_eq_true rfl) (fun u1 h => ?_)
  refine pj_aload_n C d_Mo_authOf_4 (pc' := 5) (i := 0) (x := b + 217) rfl rfl rfl ?_
  refine pj_aload_n C d_Mo_authOf_5 (pc' := 6) (i := 0) (x := b + 217) rfl rfl rfl ?_
  refine fg_Model_194_Model C tk_217 d_Mo_authOf_6 (pc' := 9) rfl ?_
  refine ck_Model_210_Model C  h d_Mo_authOf_9 (pc' := 12) rfl ⟨Nat.le_of_ble_eq_true rfl, Nat.le_of_ble_eq_true rfl⟩ (Nat.le_of_ble_eq_true rfl) (fun u2 h => ?_)
  refine pj_aload_n C d_Mo_authOf_12 (pc' := 13) (i := 0) (x := b + 217) rfl rfl rfl ?_
  refine pj_iload_n C d_Mo_authOf_13 (pc' := 14) (i := 1) (x := x1) rfl rfl rfl ?_
  refine ck_Model_210_Model C  h d_Mo_authOf_14 (pc' := 17) rfl ⟨Nat.le_of_ble_eq_true rfl, Nat.le_of_ble_eq_true rfl⟩ (Nat.le_of_ble_eq_true rfl) (fun u3 h => ?_)
  refine pj_aload_n C d_Mo_authOf_17 (pc' := 18) (i := 0) (x := b + 217) rfl rfl rfl ?_
  refine ck_Model_213_Model C  h d_Mo_authOf_18 (pc' := 21) rfl ⟨Nat.le_of_ble_eq_true rfl, Nat.le_of_ble_eq_true rfl⟩ (Nat.le_of_ble_eq_true rfl) (fun r5 u4 h => ?_)
  exact pj_iret C hE d_Mo_authOf_21 ⟨_, rfl, h⟩
def pw_Mo_authOf (u : pj_M) (x1 : Int32) (K : Int32 → pj_M → Prop) : Prop := pb_Mo_authOf_0  K u x1
theorem pc_Mo_authOf (l : Launch) (D : va_G) (E : Nat → ClassId) {b : Nat} {u : pj_M} {x1 : Int32} {K : Int32 → pj_M → Prop}  (h : pw_Mo_authOf u x1 K) : pj_C l y_Mo_authOf c_Mo_authOf 2 (some .int) rm_Mo_authOf D E b [.ref (b + 217), .int x1] u (pj_Ki K) := by
  refine pj_met (own := R_Mo) (by decide +kernel) rfl (Nat.le_of_ble_eq_true rfl) (fun g hE C => ?_)
  unfold pw_Mo_authOf at h
  show pj_J g (pj_N g b u) 0 [some (.ref (b + 217)), some (.int x1)] []
  exact pj_cut (pj_le_s (pj_le_s pj_le_e)) (pt_Mo_authOf_0 C hE   h)
/-! Model.intAt(I)I -/
def rm_Mo_intAt : Room := { frames := 0, cells := 0, slots := 0, locals := 0 }
def pb_Mo_intAt_0  (K : Int32 → pj_M → Prop) (u : pj_M) (x1 : Int32) : Prop := vp_in x1 48 ∧ (vp_in (x1 + 1) 48 ∧ (vp_in (x1 + 2) 48 ∧ (vp_in (x1 + 3) 48 ∧ (K (((((u 226 x1.toNatClampNeg) <<< (24 &&& 31)) ||| ((u 226 (x1 + 1).toNatClampNeg) <<< (16 &&& 31))) ||| ((u 226 (x1 + 2).toNatClampNeg) <<< (8 &&& 31))) ||| (u 226 (x1 + 3).toNatClampNeg)) u))))
set_option maxHeartbeats 1000000 in
theorem pt_Mo_intAt_0 {g : pj_G} {b : Nat} (C : pj_X g c_Mo_intAt 2 R_Mo (some .int) rm_Mo_intAt) {K : Int32 → pj_M → Prop} (hE : pj_E g b (pj_Ki K))   {u : pj_M} {x1 : Int32}   (h : pb_Mo_intAt_0  K u x1) : pj_J g (pj_N g b u) 0 [some (.ref (b + 217)), some (.int x1)] [] := by
  unfold pb_Mo_intAt_0 at h
  refine pj_aload_n C d_Mo_intAt_0 (pc' := 1) (i := 0) (x := b + 217) rfl rfl rfl ?_
  refine fg_Model_35_Model C tk_217 d_Mo_intAt_1 (pc' := 4) rfl ?_
  refine pj_iload_n C d_Mo_intAt_4 (pc' := 5) (i := 1) (x := x1) rfl rfl rfl ?_
  refine pj_iald C (pj_lt tk_226 (by decide)) (fun E u => ka_22 tk_226) d_Mo_intAt_5 (pc' := 6) rfl h (fun h => ?_)
  refine pj_bipush C d_Mo_intAt_6 (pc' := 8) rfl (v := 24) (by decide) ?_
  refine pj_ishl C d_Mo_intAt_8 (pc' := 9) rfl ?_
  refine pj_aload_n C d_Mo_intAt_9 (pc' := 10) (i := 0) (x := b + 217) rfl rfl rfl ?_
  refine fg_Model_35_Model C tk_217 d_Mo_intAt_10 (pc' := 13) rfl ?_
  refine pj_iload_n C d_Mo_intAt_13 (pc' := 14) (i := 1) (x := x1) rfl rfl rfl ?_
  refine pj_iconst C d_Mo_intAt_14 (pc' := 15) rfl (v := 1) (by decide) ?_
  refine pj_iadd C d_Mo_intAt_15 (pc' := 16) rfl ?_
  refine pj_iald C (pj_lt tk_226 (by decide)) (fun E u => ka_22 tk_226) d_Mo_intAt_16 (pc' := 17) rfl h (fun h => ?_)
  refine pj_bipush C d_Mo_intAt_17 (pc' := 19) rfl (v := 16) (by decide) ?_
  refine pj_ishl C d_Mo_intAt_19 (pc' := 20) rfl ?_
  refine pj_ior C d_Mo_intAt_20 (pc' := 21) rfl ?_
  refine pj_aload_n C d_Mo_intAt_21 (pc' := 22) (i := 0) (x := b + 217) rfl rfl rfl ?_
  refine fg_Model_35_Model C tk_217 d_Mo_intAt_22 (pc' := 25) rfl ?_
  refine pj_iload_n C d_Mo_intAt_25 (pc' := 26) (i := 1) (x := x1) rfl rfl rfl ?_
  refine pj_iconst C d_Mo_intAt_26 (pc' := 27) rfl (v := 2) (by decide) ?_
  refine pj_iadd C d_Mo_intAt_27 (pc' := 28) rfl ?_
  refine pj_iald C (pj_lt tk_226 (by decide)) (fun E u => ka_22 tk_226) d_Mo_intAt_28 (pc' := 29) rfl h (fun h => ?_)
  refine pj_bipush C d_Mo_intAt_29 (pc' := 31) rfl (v := 8) (by decide) ?_
  refine pj_ishl C d_Mo_intAt_31 (pc' := 32) rfl ?_
  refine pj_ior C d_Mo_intAt_32 (pc' := 33) rfl ?_
  refine pj_aload_n C d_Mo_intAt_33 (pc' := 34) (i := 0) (x := b + 217) rfl rfl rfl ?_
  refine fg_Model_35_Model C tk_217 d_Mo_intAt_34 (pc' := 37) rfl ?_
  refine pj_iload_n C d_Mo_intAt_37 (pc' := 38) (i := 1) (x := x1) rfl rfl rfl ?_
  refine pj_iconst C d_Mo_intAt_38 (pc' := 39) rfl (v := 3) (by decide) ?_
  refine pj_iadd C d_Mo_intAt_39 (pc' := 40) rfl ?_
  refine pj_iald C (pj_lt tk_226 (by decide)) (fun E u => ka_22 tk_226) d_Mo_intAt_40 (pc' := 41) rfl h (fun h => ?_)
  refine pj_ior C d_Mo_intAt_41 (pc' := 42) rfl ?_
  exact pj_iret C hE d_Mo_intAt_42 ⟨_, rfl, h⟩
def pw_Mo_intAt (u : pj_M) (x1 : Int32) (K : Int32 → pj_M → Prop) : Prop := pb_Mo_intAt_0  K u x1
theorem pc_Mo_intAt (l : Launch) (D : va_G) (E : Nat → ClassId) {b : Nat} {u : pj_M} {x1 : Int32} {K : Int32 → pj_M → Prop}  (h : pw_Mo_intAt u x1 K) : pj_C l y_Mo_intAt c_Mo_intAt 2 (some .int) rm_Mo_intAt D E b [.ref (b + 217), .int x1] u (pj_Ki K) := by
  refine pj_met (own := R_Mo) (by decide +kernel) rfl (Nat.le_of_ble_eq_true rfl) (fun g hE C => ?_)
  unfold pw_Mo_intAt at h
  show pj_J g (pj_N g b u) 0 [some (.ref (b + 217)), some (.int x1)] []
  exact pj_cut (pj_le_s (pj_le_s pj_le_e)) (pt_Mo_intAt_0 C hE   h)
/-! Model.packetInt(I)I -/
theorem fg_Model_38_Model {g : pj_G} {b : Nat} {cc : ByteArray} {nL : Nat} {ret : Option FieldType} {rm : Room} {u : pj_M} {pc pc' : Nat} {vs : List (Option Value)} {st : List Value} (C : pj_X g cc nL R_Mo ret rm) {i : Nat} (t : pj_T i = 11) (hdg : decode cc pc = .ok (.getfield 38, 3)) (hp : pc + 3 = pc') (kk : pj_J g (pj_N g b u) pc' vs (.ref (b + 227) :: st)) : pj_J g (pj_N g b u) pc vs (.ref (b + i) :: st) :=
  pj_get C cl_Model hin_Model (k := 17) (Nat.le_of_ble_eq_true rfl) wm_1141 (Or.inl rfl) (pj_lt t (by decide)) (fun E => ko_11 t) rfl hdg hp kk
def rm_Mo_packetInt : Room := { frames := 0, cells := 0, slots := 0, locals := 0 }
def pb_Mo_packetInt_0  (K : Int32 → pj_M → Prop) (u : pj_M) (x1 : Int32) : Prop := vp_in x1 48 ∧ (vp_in (x1 + 1) 48 ∧ (vp_in (x1 + 2) 48 ∧ (vp_in (x1 + 3) 48 ∧ (K (((((u 227 x1.toNatClampNeg) <<< (24 &&& 31)) ||| ((u 227 (x1 + 1).toNatClampNeg) <<< (16 &&& 31))) ||| ((u 227 (x1 + 2).toNatClampNeg) <<< (8 &&& 31))) ||| (u 227 (x1 + 3).toNatClampNeg)) u))))
set_option maxHeartbeats 1000000 in
theorem pt_Mo_packetInt_0 {g : pj_G} {b : Nat} (C : pj_X g c_Mo_packetInt 2 R_Mo (some .int) rm_Mo_packetInt) {K : Int32 → pj_M → Prop} (hE : pj_E g b (pj_Ki K))   {u : pj_M} {x1 : Int32}   (h : pb_Mo_packetInt_0  K u x1) : pj_J g (pj_N g b u) 0 [some (.ref (b + 217)), some (.int x1)] [] := by
  unfold pb_Mo_packetInt_0 at h
  refine pj_aload_n C d_Mo_packetInt_0 (pc' := 1) (i := 0) (x := b + 217) rfl rfl rfl ?_
  refine fg_Model_38_Model C tk_217 d_Mo_packetInt_1 (pc' := 4) rfl ?_
  refine pj_iload_n C d_Mo_packetInt_4 (pc' := 5) (i := 1) (x := x1) rfl rfl rfl ?_
  refine pj_iald C (pj_lt tk_227 (by decide)) (fun E u => ka_22 tk_227) d_Mo_packetInt_5 (pc' := 6) rfl h (fun h => ?_)
  refine pj_bipush C d_Mo_packetInt_6 (pc' := 8) rfl (v := 24) (by decide) ?_
  refine pj_ishl C d_Mo_packetInt_8 (pc' := 9) rfl ?_
  refine pj_aload_n C d_Mo_packetInt_9 (pc' := 10) (i := 0) (x := b + 217) rfl rfl rfl ?_
  refine fg_Model_38_Model C tk_217 d_Mo_packetInt_10 (pc' := 13) rfl ?_
  refine pj_iload_n C d_Mo_packetInt_13 (pc' := 14) (i := 1) (x := x1) rfl rfl rfl ?_
  refine pj_iconst C d_Mo_packetInt_14 (pc' := 15) rfl (v := 1) (by decide) ?_
  refine pj_iadd C d_Mo_packetInt_15 (pc' := 16) rfl ?_
  refine pj_iald C (pj_lt tk_227 (by decide)) (fun E u => ka_22 tk_227) d_Mo_packetInt_16 (pc' := 17) rfl h (fun h => ?_)
  refine pj_bipush C d_Mo_packetInt_17 (pc' := 19) rfl (v := 16) (by decide) ?_
  refine pj_ishl C d_Mo_packetInt_19 (pc' := 20) rfl ?_
  refine pj_ior C d_Mo_packetInt_20 (pc' := 21) rfl ?_
  refine pj_aload_n C d_Mo_packetInt_21 (pc' := 22) (i := 0) (x := b + 217) rfl rfl rfl ?_
  refine fg_Model_38_Model C tk_217 d_Mo_packetInt_22 (pc' := 25) rfl ?_
  refine pj_iload_n C d_Mo_packetInt_25 (pc' := 26) (i := 1) (x := x1) rfl rfl rfl ?_
  refine pj_iconst C d_Mo_packetInt_26 (pc' := 27) rfl (v := 2) (by decide) ?_
  refine pj_iadd C d_Mo_packetInt_27 (pc' := 28) rfl ?_
  refine pj_iald C (pj_lt tk_227 (by decide)) (fun E u => ka_22 tk_227) d_Mo_packetInt_28 (pc' := 29) rfl h (fun h => ?_)
  refine pj_bipush C d_Mo_packetInt_29 (pc' := 31) rfl (v := 8) (by decide) ?_
  refine pj_ishl C d_Mo_packetInt_31 (pc' := 32) rfl ?_
  refine pj_ior C d_Mo_packetInt_32 (pc' := 33) rfl ?_
  refine pj_aload_n C d_Mo_packetInt_33 (pc' := 34) (i := 0) (x := b + 217) rfl rfl rfl ?_
  refine fg_Model_38_Model C tk_217 d_Mo_packetInt_34 (pc' := 37) rfl ?_
  refine pj_iload_n C d_Mo_packetInt_37 (pc' := 38) (i := 1) (x := x1) rfl rfl rfl ?_
  refine pj_iconst C d_Mo_packetInt_38 (pc' := 39) rfl (v := 3) (by decide) ?_
  refine pj_iadd C d_Mo_packetInt_39 (pc' := 40) rfl ?_
  refine pj_iald C (pj_lt tk_227 (by decide)) (fun E u => ka_22 tk_227) d_Mo_packetInt_40 (pc' := 41) rfl h (fun h => ?_)
  refine pj_ior C d_Mo_packetInt_41 (pc' := 42) rfl ?_
  exact pj_iret C hE d_Mo_packetInt_42 ⟨_, rfl, h⟩
def pw_Mo_packetInt (u : pj_M) (x1 : Int32) (K : Int32 → pj_M → Prop) : Prop := pb_Mo_packetInt_0  K u x1
theorem pc_Mo_packetInt (l : Launch) (D : va_G) (E : Nat → ClassId) {b : Nat} {u : pj_M} {x1 : Int32} {K : Int32 → pj_M → Prop}  (h : pw_Mo_packetInt u x1 K) : pj_C l y_Mo_packetInt c_Mo_packetInt 2 (some .int) rm_Mo_packetInt D E b [.ref (b + 217), .int x1] u (pj_Ki K) := by
  refine pj_met (own := R_Mo) (by decide +kernel) rfl (Nat.le_of_ble_eq_true rfl) (fun g hE C => ?_)
  unfold pw_Mo_packetInt at h
  show pj_J g (pj_N g b u) 0 [some (.ref (b + 217)), some (.int x1)] []
  exact pj_cut (pj_le_s (pj_le_s pj_le_e)) (pt_Mo_packetInt_0 C hE   h)
/-! Model.toRow(I)V -/
theorem fp_Model_221_Model {g : pj_G} {b : Nat} {cc : ByteArray} {nL : Nat} {ret : Option FieldType} {rm : Room} {u : pj_M} {pc pc' : Nat} {vs : List (Option Value)} {st : List Value} (C : pj_X g cc nL R_Mo ret rm) {i : Nat} {x : Int32} {P : pj_M → Prop} (t : pj_T i = 11)  (hdg : decode cc pc = .ok (.putfield 221, 3)) (hp : pc + 3 = pc') (h : pj_put u i 11 x P) (kk : ∀ u', P u' → pj_J g (pj_N g b u') pc' vs st) : pj_J g (pj_N g b u) pc vs (.int x :: .ref (b + i) :: st) :=
  pj_putI C cl_Model hin_Model ty_Model tyok_Model nm_Model (k := 11) (Nat.le_of_ble_eq_true rfl) wm_1135 (Or.inl rfl) rfl (ty := .int) (by decide +kernel) rfl rfl (pj_lt t (by decide)) (fun E u => ko_11 t) (F := fun f => [.int (f 0), .ref (b + 218), .ref (b + 219), .ref (b + 220), .int (f 4), .ref (b + 221), .ref (b + 222), .ref (b + 223), .ref (b + 224), .int (f 9), .ref (b + 225), .int (f 11), .ref (b + 226), .int (f 13), .int (f 14), .int (f 15), .int (f 16), .ref (b + 227), .int (f 18), .ref (b + 228), .ref (b + 229), .ref (b + 230), .ref (b + 231), .ref (b + 232), .ref (b + 233), .ref (b + 234), .ref (b + 235), .ref (b + 236), .ref (b + 237), .ref (b + 238), .ref (b + 239), .ref (b + 240), .ref (b + 241), .ref (b + 242), .ref (b + 243), .ref (b + 244), .ref (b + 245), .ref (b + 246), .ref (b + 247), .ref (b + 248), .ref (b + 249), .ref (b + 250), .ref (b + 251), .ref (b + 252), .ref (b + 253), .ref (b + 254), .ref (b + 255), .ref (b + 256), .ref (b + 257), .ref (b + 258), .ref (b + 259), .ref (b + 260), .ref (b + 261), .ref (b + 262), .ref (b + 263), .ref (b + 264), .ref (b + 265), .ref (b + 266), .ref (b + 267), .ref (b + 268), .ref (b + 269), .ref (b + 270), .ref (b + 271), .ref (b + 272), .ref (b + 273), .ref (b + 274), .ref (b + 275), .ref (b + 276), .int (f 68), .int (f 69), .ref (b + 277), .ref (b + 278)]) (fun _ => Nat.le_of_ble_eq_true rfl) (fun _ _ => rfl) hdg hp h kk
def rm_Mo_toRow : Room := { frames := 0, cells := 0, slots := 0, locals := 0 }
def pb_Mo_toRow_0  (K : pj_M → Prop) (u : pj_M) (x1 : Int32) : Prop := vp_in (u 217 11) 48 ∧ pj_put u 226 (u 217 11).toNatClampNeg (x1 &&& 255) fun u1 => (pj_put u1 217 11 ((u1 217 11) + 1) fun u2 => (K u2))
set_option maxHeartbeats 1000000 in
theorem pt_Mo_toRow_0 {g : pj_G} {b : Nat} (C : pj_X g c_Mo_toRow 2 R_Mo none rm_Mo_toRow) {K : pj_M → Prop} (hE : pj_E g b (pj_Kv K))   {u : pj_M} {x1 : Int32}   (h : pb_Mo_toRow_0  K u x1) : pj_J g (pj_N g b u) 0 [some (.ref (b + 217)), some (.int x1)] [] := by
  unfold pb_Mo_toRow_0 at h
  refine pj_aload_n C d_Mo_toRow_0 (pc' := 1) (i := 0) (x := b + 217) rfl rfl rfl ?_
  refine fg_Model_35_Model C tk_217 d_Mo_toRow_1 (pc' := 4) rfl ?_
  refine pj_aload_n C d_Mo_toRow_4 (pc' := 5) (i := 0) (x := b + 217) rfl rfl rfl ?_
  refine fg_Model_221_Model C tk_217 d_Mo_toRow_5 (pc' := 8) rfl ?_
  refine pj_iload_n C d_Mo_toRow_8 (pc' := 9) (i := 1) (x := x1) rfl rfl rfl ?_
  refine pj_sipush C d_Mo_toRow_9 (pc' := 12) rfl (v := 255) (by decide) ?_
  refine pj_iand C d_Mo_toRow_12 (pc' := 13) rfl ?_
  refine pj_iast C (pj_lt tk_226 (by decide)) (fun E u => ka_22 tk_226) d_Mo_toRow_13 (pc' := 14) rfl h (fun u1 h => ?_)
  refine pj_aload_n C d_Mo_toRow_14 (pc' := 15) (i := 0) (x := b + 217) rfl rfl rfl ?_
  refine pj_dup C d_Mo_toRow_15 (pc' := 16) rfl rfl ?_
  refine fg_Model_221_Model C tk_217 d_Mo_toRow_16 (pc' := 19) rfl ?_
  refine pj_iconst C d_Mo_toRow_19 (pc' := 20) rfl (v := 1) (by decide) ?_
  refine pj_iadd C d_Mo_toRow_20 (pc' := 21) rfl ?_
  refine fp_Model_221_Model C tk_217  d_Mo_toRow_21 (pc' := 24) rfl h (fun u2 h => ?_)
  exact pj_vret C hE d_Mo_toRow_24 ⟨rfl, h⟩
def pw_Mo_toRow (u : pj_M) (x1 : Int32) (K : pj_M → Prop) : Prop := pb_Mo_toRow_0  K u x1
theorem pc_Mo_toRow (l : Launch) (D : va_G) (E : Nat → ClassId) {b : Nat} {u : pj_M} {x1 : Int32} {K : pj_M → Prop}  (h : pw_Mo_toRow u x1 K) : pj_C l y_Mo_toRow c_Mo_toRow 2 none rm_Mo_toRow D E b [.ref (b + 217), .int x1] u (pj_Kv K) := by
  refine pj_met (own := R_Mo) (by decide +kernel) rfl (Nat.le_of_ble_eq_true rfl) (fun g hE C => ?_)
  unfold pw_Mo_toRow at h
  show pj_J g (pj_N g b u) 0 [some (.ref (b + 217)), some (.int x1)] []
  exact pj_cut (pj_le_s (pj_le_s pj_le_e)) (pt_Mo_toRow_0 C hE   h)
/-! Model.intoRow(II)V -/
def rm_Mo_intoRow : Room := { frames := 0, cells := 0, slots := 0, locals := 0 }
def pb_Mo_intoRow_34  (K : pj_M → Prop) (u : pj_M)  : Prop := K u
set_option maxHeartbeats 1000000 in
theorem pt_Mo_intoRow_34 {g : pj_G} {b : Nat} (C : pj_X g c_Mo_intoRow 4 R_Mo none rm_Mo_intoRow) {K : pj_M → Prop} (hE : pj_E g b (pj_Kv K))   {u : pj_M}    (h : pb_Mo_intoRow_34  K u ) : pj_J g (pj_N g b u) 34 [none, none, none, none] [] := by
  unfold pb_Mo_intoRow_34 at h
  exact pj_vret C hE d_Mo_intoRow_34 ⟨rfl, h⟩
def pb_Mo_intoRow_7 (R2 : pj_M → Int32 → Prop) (K : pj_M → Prop) (u : pj_M) (x1 : Int32) (x2 : Int32) (x3 : Int32) : Prop := vp_in (x1 + x3) 48 ∧ pj_put u 226 (x1 + x3).toNatClampNeg ((x2 >>> ((24 - (8 * x3)) &&& 31)) &&& 255) fun u1 => (R2 u1 (x3 + 1))
set_option maxHeartbeats 1000000 in
theorem pt_Mo_intoRow_7 {g : pj_G} {b : Nat} (C : pj_X g c_Mo_intoRow 4 R_Mo none rm_Mo_intoRow) {K : pj_M → Prop} (hE : pj_E g b (pj_Kv K)) {R2 : pj_M → Int32 → Prop}  {u : pj_M} {x1 : Int32} {x2 : Int32} {x3 : Int32} (hR2 : ∀ (u : pj_M) (x3 : Int32), R2 u x3 → pj_J g (pj_N g b u) 2 [some (.ref (b + 217)), some (.int x1), some (.int x2), some (.int x3)] [])  (h : pb_Mo_intoRow_7 R2 K u x1 x2 x3) : pj_J g (pj_N g b u) 7 [some (.ref (b + 217)), some (.int x1), some (.int x2), some (.int x3)] [] := by
  unfold pb_Mo_intoRow_7 at h
  refine pj_aload_n C d_Mo_intoRow_7 (pc' := 8) (i := 0) (x := b + 217) rfl rfl rfl ?_
  refine fg_Model_35_Model C tk_217 d_Mo_intoRow_8 (pc' := 11) rfl ?_
  refine pj_iload_n C d_Mo_intoRow_11 (pc' := 12) (i := 1) (x := x1) rfl rfl rfl ?_
  refine pj_iload_n C d_Mo_intoRow_12 (pc' := 13) (i := 3) (x := x3) rfl rfl rfl ?_
  refine pj_iadd C d_Mo_intoRow_13 (pc' := 14) rfl ?_
  refine pj_iload_n C d_Mo_intoRow_14 (pc' := 15) (i := 2) (x := x2) rfl rfl rfl ?_
  refine pj_bipush C d_Mo_intoRow_15 (pc' := 17) rfl (v := 24) (by decide) ?_
  refine pj_bipush C d_Mo_intoRow_17 (pc' := 19) rfl (v := 8) (by decide) ?_
  refine pj_iload_n C d_Mo_intoRow_19 (pc' := 20) (i := 3) (x := x3) rfl rfl rfl ?_
  refine pj_imul C d_Mo_intoRow_20 (pc' := 21) rfl ?_
  refine pj_isub C d_Mo_intoRow_21 (pc' := 22) rfl ?_
  refine pj_ishr C d_Mo_intoRow_22 (pc' := 23) rfl ?_
  refine pj_sipush C d_Mo_intoRow_23 (pc' := 26) rfl (v := 255) (by decide) ?_
  refine pj_iand C d_Mo_intoRow_26 (pc' := 27) rfl ?_
  refine pj_iast C (pj_lt tk_226 (by decide)) (fun E u => ka_22 tk_226) d_Mo_intoRow_27 (pc' := 28) rfl h (fun u1 h => ?_)
  refine pj_iinc C d_Mo_intoRow_28 (pc' := 31) (x := x3) (d := 1) (vs' := [some (.ref (b + 217)), some (.int x1), some (.int x2), some (.int (x3 + 1))]) rfl rfl (Nat.le_of_ble_eq_true rfl) rfl (by decide) rfl ?_
  refine pj_goto C d_Mo_intoRow_31 (tgt := 2) (by decide) ?_
  exact pj_cut (pj_le_s (pj_le_s (pj_le_s (pj_le_s pj_le_e)))) (hR2 _ _ h)
def pb_Mo_intoRow_2b (R2 : pj_M → Int32 → Prop) (K : pj_M → Prop) (u : pj_M) (x1 : Int32) (x2 : Int32) (x3 : Int32) : Prop := ((4 ≤ x3) → (pb_Mo_intoRow_34  K u )) ∧ (¬ (4 ≤ x3) → (pb_Mo_intoRow_7 R2 K u x1 x2 x3))
set_option maxHeartbeats 1000000 in
theorem pt_Mo_intoRow_2b {g : pj_G} {b : Nat} (C : pj_X g c_Mo_intoRow 4 R_Mo none rm_Mo_intoRow) {K : pj_M → Prop} (hE : pj_E g b (pj_Kv K)) {R2 : pj_M → Int32 → Prop}  {u : pj_M} {x1 : Int32} {x2 : Int32} {x3 : Int32} (hR2 : ∀ (u : pj_M) (x3 : Int32), R2 u x3 → pj_J g (pj_N g b u) 2 [some (.ref (b + 217)), some (.int x1), some (.int x2), some (.int x3)] [])  (h : pb_Mo_intoRow_2b R2 K u x1 x2 x3) : pj_J g (pj_N g b u) 2 [some (.ref (b + 217)), some (.int x1), some (.int x2), some (.int x3)] [] := by
  unfold pb_Mo_intoRow_2b at h
  refine pj_iload_n C d_Mo_intoRow_2 (pc' := 3) (i := 3) (x := x3) rfl rfl rfl ?_
  refine pj_iconst C d_Mo_intoRow_3 (pc' := 4) rfl (v := 4) (by decide) ?_
  refine pj_icmp_ge C d_Mo_intoRow_4 (pc' := 7) rfl (tgt := 34) (by decide) h (fun h => ?_) (fun h => ?_)
  · exact pj_cut (pj_le_n (pj_le_n (pj_le_n (pj_le_n pj_le_e)))) (pt_Mo_intoRow_34 C hE   h)
  · exact pj_cut (pj_le_s (pj_le_s (pj_le_s (pj_le_s pj_le_e)))) (pt_Mo_intoRow_7 C hE hR2  h)
def pb_Mo_intoRow_2  (K : pj_M → Prop) (x1 : Int32) (x2 : Int32) : Nat → pj_M → Int32 → Prop
  | 0 => fun _ _ => False
  | n + 1 => fun u x3 => pb_Mo_intoRow_2b (pb_Mo_intoRow_2  K x1 x2 n) K u x1 x2 x3
theorem pt_Mo_intoRow_2 {g : pj_G} {b : Nat} (C : pj_X g c_Mo_intoRow 4 R_Mo none rm_Mo_intoRow) {K : pj_M → Prop} (hE : pj_E g b (pj_Kv K))  {x1 : Int32} {x2 : Int32}   : ∀ (n : Nat) (u : pj_M) (x3 : Int32), pb_Mo_intoRow_2  K x1 x2 n u x3 → pj_J g (pj_N g b u) 2 [some (.ref (b + 217)), some (.int x1), some (.int x2), some (.int x3)] [] := by
  intro n
  induction n with
  | zero => intro u x3 h; exact False.elim h
  | succ n ih =>
    intro u x3 h
    exact (pt_Mo_intoRow_2b C hE ih  h)
def pb_Mo_intoRow_0  (K : pj_M → Prop) (u : pj_M) (x1 : Int32) (x2 : Int32) : Prop := ∃ n, pb_Mo_intoRow_2  K x1 x2 n u 0
set_option maxHeartbeats 1000000 in
theorem pt_Mo_intoRow_0 {g : pj_G} {b : Nat} (C : pj_X g c_Mo_intoRow 4 R_Mo none rm_Mo_intoRow) {K : pj_M → Prop} (hE : pj_E g b (pj_Kv K))   {u : pj_M} {x1 : Int32} {x2 : Int32}   (h : pb_Mo_intoRow_0  K u x1 x2) : pj_J g (pj_N g b u) 0 [some (.ref (b + 217)), some (.int x1), some (.int x2), none] [] := by
  unfold pb_Mo_intoRow_0 at h
  refine pj_iconst C d_Mo_intoRow_0 (pc' := 1) rfl (v := 0) (by decide) ?_
  refine pj_istore_n C d_Mo_intoRow_1 (pc' := 2) (i := 3) (vs' := [some (.ref (b + 217)), some (.int x1), some (.int x2), some (.int 0)]) rfl rfl (Nat.le_of_ble_eq_true rfl) (Nat.le_of_ble_eq_true rfl) rfl rfl ?_
  obtain ⟨n, h⟩ := h
  exact pj_cut (pj_le_s (pj_le_s (pj_le_s (pj_le_s pj_le_e)))) (pt_Mo_intoRow_2 C hE   n _ _ h)
def pw_Mo_intoRow (u : pj_M) (x1 : Int32) (x2 : Int32) (K : pj_M → Prop) : Prop := pb_Mo_intoRow_0  K u x1 x2
theorem pc_Mo_intoRow (l : Launch) (D : va_G) (E : Nat → ClassId) {b : Nat} {u : pj_M} {x1 : Int32} {x2 : Int32} {K : pj_M → Prop}  (h : pw_Mo_intoRow u x1 x2 K) : pj_C l y_Mo_intoRow c_Mo_intoRow 4 none rm_Mo_intoRow D E b [.ref (b + 217), .int x1, .int x2] u (pj_Kv K) := by
  refine pj_met (own := R_Mo) (by decide +kernel) rfl (Nat.le_of_ble_eq_true rfl) (fun g hE C => ?_)
  unfold pw_Mo_intoRow at h
  show pj_J g (pj_N g b u) 0 [some (.ref (b + 217)), some (.int x1), some (.int x2), none] []
  exact pj_cut (pj_le_s (pj_le_s (pj_le_s (pj_le_n pj_le_e)))) (pt_Mo_intoRow_0 C hE   h)
/-! Model.send(II)V -/
theorem fg_Model_230_Model {g : pj_G} {b : Nat} {cc : ByteArray} {nL : Nat} {ret : Option FieldType} {rm : Room} {u : pj_M} {pc pc' : Nat} {vs : List (Option Value)} {st : List Value} (C : pj_X g cc nL R_Mo ret rm) {i : Nat} (t : pj_T i = 11) (hdg : decode cc pc = .ok (.getfield 230, 3)) (hp : pc + 3 = pc') (kk : pj_J g (pj_N g b u) pc' vs (.int (u i 4) :: st)) : pj_J g (pj_N g b u) pc vs (.ref (b + i) :: st) :=
  pj_get C cl_Model hin_Model (k := 4) (Nat.le_of_ble_eq_true rfl) wm_1128 (Or.inl rfl) (pj_lt t (by decide)) (fun E => ko_11 t) rfl hdg hp kk
theorem fg_Model_20_Model {g : pj_G} {b : Nat} {cc : ByteArray} {nL : Nat} {ret : Option FieldType} {rm : Room} {u : pj_M} {pc pc' : Nat} {vs : List (Option Value)} {st : List Value} (C : pj_X g cc nL R_Mo ret rm) {i : Nat} (t : pj_T i = 11) (hdg : decode cc pc = .ok (.getfield 20, 3)) (hp : pc + 3 = pc') (kk : pj_J g (pj_N g b u) pc' vs (.ref (b + 221) :: st)) : pj_J g (pj_N g b u) pc vs (.ref (b + i) :: st) :=
  pj_get C cl_Model hin_Model (k := 5) (Nat.le_of_ble_eq_true rfl) wm_1129 (Or.inl rfl) (pj_lt t (by decide)) (fun E => ko_11 t) rfl hdg hp kk
theorem fg_Model_23_Model {g : pj_G} {b : Nat} {cc : ByteArray} {nL : Nat} {ret : Option FieldType} {rm : Room} {u : pj_M} {pc pc' : Nat} {vs : List (Option Value)} {st : List Value} (C : pj_X g cc nL R_Mo ret rm) {i : Nat} (t : pj_T i = 11) (hdg : decode cc pc = .ok (.getfield 23, 3)) (hp : pc + 3 = pc') (kk : pj_J g (pj_N g b u) pc' vs (.ref (b + 222) :: st)) : pj_J g (pj_N g b u) pc vs (.ref (b + i) :: st) :=
  pj_get C cl_Model hin_Model (k := 6) (Nat.le_of_ble_eq_true rfl) wm_1130 (Or.inl rfl) (pj_lt t (by decide)) (fun E => ko_11 t) rfl hdg hp kk
theorem fg_Model_26_Model {g : pj_G} {b : Nat} {cc : ByteArray} {nL : Nat} {ret : Option FieldType} {rm : Room} {u : pj_M} {pc pc' : Nat} {vs : List (Option Value)} {st : List Value} (C : pj_X g cc nL R_Mo ret rm) {i : Nat} (t : pj_T i = 11) (hdg : decode cc pc = .ok (.getfield 26, 3)) (hp : pc + 3 = pc') (kk : pj_J g (pj_N g b u) pc' vs (.ref (b + 223) :: st)) : pj_J g (pj_N g b u) pc vs (.ref (b + i) :: st) :=
  pj_get C cl_Model hin_Model (k := 7) (Nat.le_of_ble_eq_true rfl) wm_1131 (Or.inl rfl) (pj_lt t (by decide)) (fun E => ko_11 t) rfl hdg hp kk
theorem fg_Model_29_Model {g : pj_G} {b : Nat} {cc : ByteArray} {nL : Nat} {ret : Option FieldType} {rm : Room} {u : pj_M} {pc pc' : Nat} {vs : List (Option Value)} {st : List Value} (C : pj_X g cc nL R_Mo ret rm) {i : Nat} (t : pj_T i = 11) (hdg : decode cc pc = .ok (.getfield 29, 3)) (hp : pc + 3 = pc') (kk : pj_J g (pj_N g b u) pc' vs (.ref (b + 224) :: st)) : pj_J g (pj_N g b u) pc vs (.ref (b + i) :: st) :=
  pj_get C cl_Model hin_Model (k := 8) (Nat.le_of_ble_eq_true rfl) wm_1132 (Or.inl rfl) (pj_lt t (by decide)) (fun E => ko_11 t) rfl hdg hp kk
theorem fp_Model_230_Model {g : pj_G} {b : Nat} {cc : ByteArray} {nL : Nat} {ret : Option FieldType} {rm : Room} {u : pj_M} {pc pc' : Nat} {vs : List (Option Value)} {st : List Value} (C : pj_X g cc nL R_Mo ret rm) {i : Nat} {x : Int32} {P : pj_M → Prop} (t : pj_T i = 11)  (hdg : decode cc pc = .ok (.putfield 230, 3)) (hp : pc + 3 = pc') (h : pj_put u i 4 x P) (kk : ∀ u', P u' → pj_J g (pj_N g b u') pc' vs st) : pj_J g (pj_N g b u) pc vs (.int x :: .ref (b + i) :: st) :=
  pj_putI C cl_Model hin_Model ty_Model tyok_Model nm_Model (k := 4) (Nat.le_of_ble_eq_true rfl) wm_1128 (Or.inl rfl) rfl (ty := .int) (by decide +kernel) rfl rfl (pj_lt t (by decide)) (fun E u => ko_11 t) (F := fun f => [.int (f 0), .ref (b + 218), .ref (b + 219), .ref (b + 220), .int (f 4), .ref (b + 221), .ref (b + 222), .ref (b + 223), .ref (b + 224), .int (f 9), .ref (b + 225), .int (f 11), .ref (b + 226), .int (f 13), .int (f 14), .int (f 15), .int (f 16), .ref (b + 227), .int (f 18), .ref (b + 228), .ref (b + 229), .ref (b + 230), .ref (b + 231), .ref (b + 232), .ref (b + 233), .ref (b + 234), .ref (b + 235), .ref (b + 236), .ref (b + 237), .ref (b + 238), .ref (b + 239), .ref (b + 240), .ref (b + 241), .ref (b + 242), .ref (b + 243), .ref (b + 244), .ref (b + 245), .ref (b + 246), .ref (b + 247), .ref (b + 248), .ref (b + 249), .ref (b + 250), .ref (b + 251), .ref (b + 252), .ref (b + 253), .ref (b + 254), .ref (b + 255), .ref (b + 256), .ref (b + 257), .ref (b + 258), .ref (b + 259), .ref (b + 260), .ref (b + 261), .ref (b + 262), .ref (b + 263), .ref (b + 264), .ref (b + 265), .ref (b + 266), .ref (b + 267), .ref (b + 268), .ref (b + 269), .ref (b + 270), .ref (b + 271), .ref (b + 272), .ref (b + 273), .ref (b + 274), .ref (b + 275), .ref (b + 276), .int (f 68), .int (f 69), .ref (b + 277), .ref (b + 278)]) (fun _ => Nat.le_of_ble_eq_true rfl) (fun _ _ => rfl) hdg hp h kk
def rm_Mo_send : Room := { frames := 0, cells := 0, slots := 0, locals := 0 }
def pb_Mo_send_79  (K : pj_M → Prop) (u : pj_M)  : Prop := pj_put u 217 4 ((u 217 4) + 1) fun u1 => (K u1)
set_option maxHeartbeats 1000000 in
theorem pt_Mo_send_79 {g : pj_G} {b : Nat} (C : pj_X g c_Mo_send 4 R_Mo none rm_Mo_send) {K : pj_M → Prop} (hE : pj_E g b (pj_Kv K))   {u : pj_M}    (h : pb_Mo_send_79  K u ) : pj_J g (pj_N g b u) 79 [some (.ref (b + 217)), none, none, none] [] := by
  unfold pb_Mo_send_79 at h
  refine pj_aload_n C d_Mo_send_79 (pc' := 80) (i := 0) (x := b + 217) rfl rfl rfl ?_
  refine pj_dup C d_Mo_send_80 (pc' := 81) rfl rfl ?_
  refine fg_Model_230_Model C tk_217 d_Mo_send_81 (pc' := 84) rfl ?_
  refine pj_iconst C d_Mo_send_84 (pc' := 85) rfl (v := 1) (by decide) ?_
  refine pj_iadd C d_Mo_send_85 (pc' := 86) rfl ?_
  refine fp_Model_230_Model C tk_217  d_Mo_send_86 (pc' := 89) rfl h (fun u1 h => ?_)
  exact pj_vret C hE d_Mo_send_89 ⟨rfl, h⟩
def pb_Mo_send_53 (R45 : pj_M → Int32 → Prop) (K : pj_M → Prop) (u : pj_M) (x3 : Int32) : Prop := vp_in x3 48 ∧ (vp_in ((48 * (u 217 4)) + x3) 1920 ∧ pj_put u 224 ((48 * (u 217 4)) + x3).toNatClampNeg (u 226 x3.toNatClampNeg) fun u1 => (R45 u1 (x3 + 1)))
set_option maxHeartbeats 1000000 in
theorem pt_Mo_send_53 {g : pj_G} {b : Nat} (C : pj_X g c_Mo_send 4 R_Mo none rm_Mo_send) {K : pj_M → Prop} (hE : pj_E g b (pj_Kv K)) {R45 : pj_M → Int32 → Prop}  {u : pj_M} {x3 : Int32} (hR45 : ∀ (u : pj_M) (x3 : Int32), R45 u x3 → pj_J g (pj_N g b u) 45 [some (.ref (b + 217)), none, none, some (.int x3)] [])  (h : pb_Mo_send_53 R45 K u x3) : pj_J g (pj_N g b u) 53 [some (.ref (b + 217)), none, none, some (.int x3)] [] := by
  unfold pb_Mo_send_53 at h
  refine pj_aload_n C d_Mo_send_53 (pc' := 54) (i := 0) (x := b + 217) rfl rfl rfl ?_
  refine fg_Model_29_Model C tk_217 d_Mo_send_54 (pc' := 57) rfl ?_
  refine pj_bipush C d_Mo_send_57 (pc' := 59) rfl (v := 48) (by decide) ?_
  refine pj_aload_n C d_Mo_send_59 (pc' := 60) (i := 0) (x := b + 217) rfl rfl rfl ?_
  refine fg_Model_230_Model C tk_217 d_Mo_send_60 (pc' := 63) rfl ?_
  refine pj_imul C d_Mo_send_63 (pc' := 64) rfl ?_
  refine pj_iload_n C d_Mo_send_64 (pc' := 65) (i := 3) (x := x3) rfl rfl rfl ?_
  refine pj_iadd C d_Mo_send_65 (pc' := 66) rfl ?_
  refine pj_aload_n C d_Mo_send_66 (pc' := 67) (i := 0) (x := b + 217) rfl rfl rfl ?_
  refine fg_Model_35_Model C tk_217 d_Mo_send_67 (pc' := 70) rfl ?_
  refine pj_iload_n C d_Mo_send_70 (pc' := 71) (i := 3) (x := x3) rfl rfl rfl ?_
  refine pj_iald C (pj_lt tk_226 (by decide)) (fun E u => ka_22 tk_226) d_Mo_send_71 (pc' := 72) rfl h (fun h => ?_)
  refine pj_iast C (pj_lt tk_224 (by decide)) (fun E u => ka_37 tk_224) d_Mo_send_72 (pc' := 73) rfl h (fun u1 h => ?_)
  refine pj_iinc C d_Mo_send_73 (pc' := 76) (x := x3) (d := 1) (vs' := [some (.ref (b + 217)), none, none, some (.int (x3 + 1))]) rfl rfl (Nat.le_of_ble_eq_true rfl) rfl (by decide) rfl ?_
  refine pj_goto C d_Mo_send_76 (tgt := 45) (by decide) ?_
  exact pj_cut (pj_le_s (pj_le_n (pj_le_n (pj_le_s pj_le_e)))) (hR45 _ _ h)
def pb_Mo_send_45b (R45 : pj_M → Int32 → Prop) (K : pj_M → Prop) (u : pj_M) (x3 : Int32) : Prop := (((u 217 11) ≤ x3) → (pb_Mo_send_79  K u )) ∧ (¬ ((u 217 11) ≤ x3) → (pb_Mo_send_53 R45 K u x3))
set_option maxHeartbeats 1000000 in
theorem pt_Mo_send_45b {g : pj_G} {b : Nat} (C : pj_X g c_Mo_send 4 R_Mo none rm_Mo_send) {K : pj_M → Prop} (hE : pj_E g b (pj_Kv K)) {R45 : pj_M → Int32 → Prop}  {u : pj_M} {x3 : Int32} (hR45 : ∀ (u : pj_M) (x3 : Int32), R45 u x3 → pj_J g (pj_N g b u) 45 [some (.ref (b + 217)), none, none, some (.int x3)] [])  (h : pb_Mo_send_45b R45 K u x3) : pj_J g (pj_N g b u) 45 [some (.ref (b + 217)), none, none, some (.int x3)] [] := by
  unfold pb_Mo_send_45b at h
  refine pj_iload_n C d_Mo_send_45 (pc' := 46) (i := 3) (x := x3) rfl rfl rfl ?_
  refine pj_aload_n C d_Mo_send_46 (pc' := 47) (i := 0) (x := b + 217) rfl rfl rfl ?_
  refine fg_Model_221_Model C tk_217 d_Mo_send_47 (pc' := 50) rfl ?_
  refine pj_icmp_ge C d_Mo_send_50 (pc' := 53) rfl (tgt := 79) (by decide) h (fun h => ?_) (fun h => ?_)
  · exact pj_cut (pj_le_s (pj_le_n (pj_le_n (pj_le_n pj_le_e)))) (pt_Mo_send_79 C hE   h)
  · exact pj_cut (pj_le_s (pj_le_n (pj_le_n (pj_le_s pj_le_e)))) (pt_Mo_send_53 C hE hR45  h)
def pb_Mo_send_45  (K : pj_M → Prop)  : Nat → pj_M → Int32 → Prop
  | 0 => fun _ _ => False
  | n + 1 => fun u x3 => pb_Mo_send_45b (pb_Mo_send_45  K  n) K u x3
theorem pt_Mo_send_45 {g : pj_G} {b : Nat} (C : pj_X g c_Mo_send 4 R_Mo none rm_Mo_send) {K : pj_M → Prop} (hE : pj_E g b (pj_Kv K))     : ∀ (n : Nat) (u : pj_M) (x3 : Int32), pb_Mo_send_45  K  n u x3 → pj_J g (pj_N g b u) 45 [some (.ref (b + 217)), none, none, some (.int x3)] [] := by
  intro n
  induction n with
  | zero => intro u x3 h; exact False.elim h
  | succ n ih =>
    intro u x3 h
    exact (pt_Mo_send_45b C hE ih  h)
def pb_Mo_send_10  (K : pj_M → Prop) (u : pj_M) (x1 : Int32) (x2 : Int32) : Prop := vp_in (u 217 4) 40 ∧ pj_put u 221 (u 217 4).toNatClampNeg x1 fun u1 => (vp_in (u1 217 4) 40 ∧ pj_put u1 222 (u1 217 4).toNatClampNeg x2 fun u2 => (vp_in (u2 217 4) 40 ∧ pj_put u2 223 (u2 217 4).toNatClampNeg (u2 217 11) fun u3 => (∃ n, pb_Mo_send_45  K  n u3 0)))
set_option maxHeartbeats 1000000 in
theorem pt_Mo_send_10 {g : pj_G} {b : Nat} (C : pj_X g c_Mo_send 4 R_Mo none rm_Mo_send) {K : pj_M → Prop} (hE : pj_E g b (pj_Kv K))   {u : pj_M} {x1 : Int32} {x2 : Int32}   (h : pb_Mo_send_10  K u x1 x2) : pj_J g (pj_N g b u) 10 [some (.ref (b + 217)), some (.int x1), some (.int x2), none] [] := by
  unfold pb_Mo_send_10 at h
  refine pj_aload_n C d_Mo_send_10 (pc' := 11) (i := 0) (x := b + 217) rfl rfl rfl ?_
  refine fg_Model_20_Model C tk_217 d_Mo_send_11 (pc' := 14) rfl ?_
  refine pj_aload_n C d_Mo_send_14 (pc' := 15) (i := 0) (x := b + 217) rfl rfl rfl ?_
  refine fg_Model_230_Model C tk_217 d_Mo_send_15 (pc' := 18) rfl ?_
  refine pj_iload_n C d_Mo_send_18 (pc' := 19) (i := 1) (x := x1) rfl rfl rfl ?_
  refine pj_iast C (pj_lt tk_221 (by decide)) (fun E u => ka_21 tk_221) d_Mo_send_19 (pc' := 20) rfl h (fun u1 h => ?_)
  refine pj_aload_n C d_Mo_send_20 (pc' := 21) (i := 0) (x := b + 217) rfl rfl rfl ?_
  refine fg_Model_23_Model C tk_217 d_Mo_send_21 (pc' := 24) rfl ?_
  refine pj_aload_n C d_Mo_send_24 (pc' := 25) (i := 0) (x := b + 217) rfl rfl rfl ?_
  refine fg_Model_230_Model C tk_217 d_Mo_send_25 (pc' := 28) rfl ?_
  refine pj_iload_n C d_Mo_send_28 (pc' := 29) (i := 2) (x := x2) rfl rfl rfl ?_
  refine pj_iast C (pj_lt tk_222 (by decide)) (fun E u => ka_21 tk_222) d_Mo_send_29 (pc' := 30) rfl h (fun u2 h => ?_)
  refine pj_aload_n C d_Mo_send_30 (pc' := 31) (i := 0) (x := b + 217) rfl rfl rfl ?_
  refine fg_Model_26_Model C tk_217 d_Mo_send_31 (pc' := 34) rfl ?_
  refine pj_aload_n C d_Mo_send_34 (pc' := 35) (i := 0) (x := b + 217) rfl rfl rfl ?_
  refine fg_Model_230_Model C tk_217 d_Mo_send_35 (pc' := 38) rfl ?_
  refine pj_aload_n C d_Mo_send_38 (pc' := 39) (i := 0) (x := b + 217) rfl rfl rfl ?_
  refine fg_Model_221_Model C tk_217 d_Mo_send_39 (pc' := 42) rfl ?_
  refine pj_iast C (pj_lt tk_223 (by decide)) (fun E u => ka_21 tk_223) d_Mo_send_42 (pc' := 43) rfl h (fun u3 h => ?_)
  refine pj_iconst C d_Mo_send_43 (pc' := 44) rfl (v := 0) (by decide) ?_
  refine pj_istore_n C d_Mo_send_44 (pc' := 45) (i := 3) (vs' := [some (.ref (b + 217)), some (.int x1), some (.int x2), some (.int 0)]) rfl rfl (Nat.le_of_ble_eq_true rfl) (Nat.le_of_ble_eq_true rfl) rfl rfl ?_
  obtain ⟨n, h⟩ := h
  exact pj_cut (pj_le_s (pj_le_n (pj_le_n (pj_le_s pj_le_e)))) (pt_Mo_send_45 C hE   n _ _ h)
def pb_Mo_send_9  (K : pj_M → Prop) (u : pj_M)  : Prop := K u
set_option maxHeartbeats 1000000 in
theorem pt_Mo_send_9 {g : pj_G} {b : Nat} (C : pj_X g c_Mo_send 4 R_Mo none rm_Mo_send) {K : pj_M → Prop} (hE : pj_E g b (pj_Kv K))   {u : pj_M}    (h : pb_Mo_send_9  K u ) : pj_J g (pj_N g b u) 9 [none, none, none, none] [] := by
  unfold pb_Mo_send_9 at h
  exact pj_vret C hE d_Mo_send_9 ⟨rfl, h⟩
def pb_Mo_send_0  (K : pj_M → Prop) (u : pj_M) (x1 : Int32) (x2 : Int32) : Prop := (((u 217 4) = 40) → (pb_Mo_send_9  K u )) ∧ (¬ ((u 217 4) = 40) → (pb_Mo_send_10  K u x1 x2))
set_option maxHeartbeats 1000000 in
theorem pt_Mo_send_0 {g : pj_G} {b : Nat} (C : pj_X g c_Mo_send 4 R_Mo none rm_Mo_send) {K : pj_M → Prop} (hE : pj_E g b (pj_Kv K))   {u : pj_M} {x1 : Int32} {x2 : Int32}   (h : pb_Mo_send_0  K u x1 x2) : pj_J g (pj_N g b u) 0 [some (.ref (b + 217)), some (.int x1), some (.int x2), none] [] := by
  unfold pb_Mo_send_0 at h
  refine pj_aload_n C d_Mo_send_0 (pc' := 1) (i := 0) (x := b + 217) rfl rfl rfl ?_
  refine fg_Model_230_Model C tk_217 d_Mo_send_1 (pc' := 4) rfl ?_
  refine pj_bipush C d_Mo_send_4 (pc' := 6) rfl (v := 40) (by decide) ?_
  refine pj_icmp_ne C d_Mo_send_6 (pc' := 9) rfl (tgt := 10) (by decide) h (fun h => ?_) (fun h => ?_)
  · exact pj_cut (pj_le_s (pj_le_s (pj_le_s (pj_le_n pj_le_e)))) (pt_Mo_send_10 C hE   h)
  · exact pj_cut (pj_le_n (pj_le_n (pj_le_n (pj_le_n pj_le_e)))) (pt_Mo_send_9 C hE   h)
def pw_Mo_send (u : pj_M) (x1 : Int32) (x2 : Int32) (K : pj_M → Prop) : Prop := pb_Mo_send_0  K u x1 x2
theorem pc_Mo_send (l : Launch) (D : va_G) (E : Nat → ClassId) {b : Nat} {u : pj_M} {x1 : Int32} {x2 : Int32} {K : pj_M → Prop}  (h : pw_Mo_send u x1 x2 K) : pj_C l y_Mo_send c_Mo_send 4 none rm_Mo_send D E b [.ref (b + 217), .int x1, .int x2] u (pj_Kv K) := by
  refine pj_met (own := R_Mo) (by decide +kernel) rfl (Nat.le_of_ble_eq_true rfl) (fun g hE C => ?_)
  unfold pw_Mo_send at h
  show pj_J g (pj_N g b u) 0 [some (.ref (b + 217)), some (.int x1), some (.int x2), none] []
  exact pj_cut (pj_le_s (pj_le_s (pj_le_s (pj_le_n pj_le_e)))) (pt_Mo_send_0 C hE   h)
/-! Model.packet(III)V -/
theorem fp_Model_233_Model {g : pj_G} {b : Nat} {cc : ByteArray} {nL : Nat} {ret : Option FieldType} {rm : Room} {u : pj_M} {pc pc' : Nat} {vs : List (Option Value)} {st : List Value} (C : pj_X g cc nL R_Mo ret rm) {i : Nat} {x : Int32} {P : pj_M → Prop} (t : pj_T i = 11)  (hdg : decode cc pc = .ok (.putfield 233, 3)) (hp : pc + 3 = pc') (h : pj_put u i 16 x P) (kk : ∀ u', P u' → pj_J g (pj_N g b u') pc' vs st) : pj_J g (pj_N g b u) pc vs (.int x :: .ref (b + i) :: st) :=
  pj_putI C cl_Model hin_Model ty_Model tyok_Model nm_Model (k := 16) (Nat.le_of_ble_eq_true rfl) wm_1140 (Or.inl rfl) rfl (ty := .int) (by decide +kernel) rfl rfl (pj_lt t (by decide)) (fun E u => ko_11 t) (F := fun f => [.int (f 0), .ref (b + 218), .ref (b + 219), .ref (b + 220), .int (f 4), .ref (b + 221), .ref (b + 222), .ref (b + 223), .ref (b + 224), .int (f 9), .ref (b + 225), .int (f 11), .ref (b + 226), .int (f 13), .int (f 14), .int (f 15), .int (f 16), .ref (b + 227), .int (f 18), .ref (b + 228), .ref (b + 229), .ref (b + 230), .ref (b + 231), .ref (b + 232), .ref (b + 233), .ref (b + 234), .ref (b + 235), .ref (b + 236), .ref (b + 237), .ref (b + 238), .ref (b + 239), .ref (b + 240), .ref (b + 241), .ref (b + 242), .ref (b + 243), .ref (b + 244), .ref (b + 245), .ref (b + 246), .ref (b + 247), .ref (b + 248), .ref (b + 249), .ref (b + 250), .ref (b + 251), .ref (b + 252), .ref (b + 253), .ref (b + 254), .ref (b + 255), .ref (b + 256), .ref (b + 257), .ref (b + 258), .ref (b + 259), .ref (b + 260), .ref (b + 261), .ref (b + 262), .ref (b + 263), .ref (b + 264), .ref (b + 265), .ref (b + 266), .ref (b + 267), .ref (b + 268), .ref (b + 269), .ref (b + 270), .ref (b + 271), .ref (b + 272), .ref (b + 273), .ref (b + 274), .ref (b + 275), .ref (b + 276), .int (f 68), .int (f 69), .ref (b + 277), .ref (b + 278)]) (fun _ => Nat.le_of_ble_eq_true rfl) (fun _ _ => rfl) hdg hp h kk
theorem fg_Model_233_Model {g : pj_G} {b : Nat} {cc : ByteArray} {nL : Nat} {ret : Option FieldType} {rm : Room} {u : pj_M} {pc pc' : Nat} {vs : List (Option Value)} {st : List Value} (C : pj_X g cc nL R_Mo ret rm) {i : Nat} (t : pj_T i = 11) (hdg : decode cc pc = .ok (.getfield 233, 3)) (hp : pc + 3 = pc') (kk : pj_J g (pj_N g b u) pc' vs (.int (u i 16) :: st)) : pj_J g (pj_N g b u) pc vs (.ref (b + i) :: st) :=
  pj_get C cl_Model hin_Model (k := 16) (Nat.le_of_ble_eq_true rfl) wm_1140 (Or.inl rfl) (pj_lt t (by decide)) (fun E => ko_11 t) rfl hdg hp kk
def rm_Mo_packet : Room := { frames := 0, cells := 0, slots := 0, locals := 0 }
def pb_Mo_packet_36  (K : pj_M → Prop) (u : pj_M) (s0 : Int32) : Prop := pj_put u 217 16 s0 fun u1 => (vp_in 2 48 ∧ pj_put u1 227 (2 : Int32).toNatClampNeg (u1 217 16) fun u2 => (K u2))
set_option maxHeartbeats 1000000 in
theorem pt_Mo_packet_36 {g : pj_G} {b : Nat} (C : pj_X g c_Mo_packet 4 R_Mo none rm_Mo_packet) {K : pj_M → Prop} (hE : pj_E g b (pj_Kv K))   {u : pj_M} {s0 : Int32}   (h : pb_Mo_packet_36  K u s0) : pj_J g (pj_N g b u) 36 [some (.ref (b + 217)), none, none, none] [.int s0, .ref (b + 217)] := by
  unfold pb_Mo_packet_36 at h
  refine fp_Model_233_Model C tk_217  d_Mo_packet_36 (pc' := 39) rfl h (fun u1 h => ?_)
  refine pj_aload_n C d_Mo_packet_39 (pc' := 40) (i := 0) (x := b + 217) rfl rfl rfl ?_
  refine fg_Model_38_Model C tk_217 d_Mo_packet_40 (pc' := 43) rfl ?_
  refine pj_iconst C d_Mo_packet_43 (pc' := 44) rfl (v := 2) (by decide) ?_
  refine pj_aload_n C d_Mo_packet_44 (pc' := 45) (i := 0) (x := b + 217) rfl rfl rfl ?_
  refine fg_Model_233_Model C tk_217 d_Mo_packet_45 (pc' := 48) rfl ?_
  refine pj_iast C (pj_lt tk_227 (by decide)) (fun E u => ka_22 tk_227) d_Mo_packet_48 (pc' := 49) rfl h (fun u2 h => ?_)
  exact pj_vret C hE d_Mo_packet_49 ⟨rfl, h⟩
def pb_Mo_packet_35  (K : pj_M → Prop) (u : pj_M)  : Prop := pb_Mo_packet_36  K u 3
set_option maxHeartbeats 1000000 in
theorem pt_Mo_packet_35 {g : pj_G} {b : Nat} (C : pj_X g c_Mo_packet 4 R_Mo none rm_Mo_packet) {K : pj_M → Prop} (hE : pj_E g b (pj_Kv K))   {u : pj_M}    (h : pb_Mo_packet_35  K u ) : pj_J g (pj_N g b u) 35 [some (.ref (b + 217)), none, none, none] [.ref (b + 217)] := by
  unfold pb_Mo_packet_35 at h
  refine pj_iconst C d_Mo_packet_35 (pc' := 36) rfl (v := 3) (by decide) ?_
  exact pj_cut (pj_le_s (pj_le_n (pj_le_n (pj_le_n pj_le_e)))) (pt_Mo_packet_36 C hE   h)
def pb_Mo_packet_31  (K : pj_M → Prop) (u : pj_M)  : Prop := pb_Mo_packet_36  K u 4
set_option maxHeartbeats 1000000 in
theorem pt_Mo_packet_31 {g : pj_G} {b : Nat} (C : pj_X g c_Mo_packet 4 R_Mo none rm_Mo_packet) {K : pj_M → Prop} (hE : pj_E g b (pj_Kv K))   {u : pj_M}    (h : pb_Mo_packet_31  K u ) : pj_J g (pj_N g b u) 31 [some (.ref (b + 217)), none, none, none] [.ref (b + 217)] := by
  unfold pb_Mo_packet_31 at h
  refine pj_iconst C d_Mo_packet_31 (pc' := 32) rfl (v := 4) (by decide) ?_
  refine pj_goto C d_Mo_packet_32 (tgt := 36) (by decide) ?_
  exact pj_cut (pj_le_s (pj_le_n (pj_le_n (pj_le_n pj_le_e)))) (pt_Mo_packet_36 C hE   h)
def pb_Mo_packet_0  (K : pj_M → Prop) (u : pj_M) (x1 : Int32) (x2 : Int32) (x3 : Int32) : Prop := vp_in 0 48 ∧ pj_put u 227 (0 : Int32).toNatClampNeg x1 fun u1 => (vp_in 1 48 ∧ pj_put u1 227 (1 : Int32).toNatClampNeg (x2 &&& 255) fun u2 => (vp_in 3 48 ∧ pj_put u2 227 (3 : Int32).toNatClampNeg x3 fun u3 => (((3 ≤ x1) → (pb_Mo_packet_35  K u3 )) ∧ (¬ (3 ≤ x1) → (pb_Mo_packet_31  K u3 )))))
set_option maxHeartbeats 1000000 in
theorem pt_Mo_packet_0 {g : pj_G} {b : Nat} (C : pj_X g c_Mo_packet 4 R_Mo none rm_Mo_packet) {K : pj_M → Prop} (hE : pj_E g b (pj_Kv K))   {u : pj_M} {x1 : Int32} {x2 : Int32} {x3 : Int32}   (h : pb_Mo_packet_0  K u x1 x2 x3) : pj_J g (pj_N g b u) 0 [some (.ref (b + 217)), some (.int x1), some (.int x2), some (.int x3)] [] := by
  unfold pb_Mo_packet_0 at h
  refine pj_aload_n C d_Mo_packet_0 (pc' := 1) (i := 0) (x := b + 217) rfl rfl rfl ?_
  refine fg_Model_38_Model C tk_217 d_Mo_packet_1 (pc' := 4) rfl ?_
  refine pj_iconst C d_Mo_packet_4 (pc' := 5) rfl (v := 0) (by decide) ?_
  refine pj_iload_n C d_Mo_packet_5 (pc' := 6) (i := 1) (x := x1) rfl rfl rfl ?_
  refine pj_iast C (pj_lt tk_227 (by decide)) (fun E u => ka_22 tk_227) d_Mo_packet_6 (pc' := 7) rfl h (fun u1 h => ?_)
  refine pj_aload_n C d_Mo_packet_7 (pc' := 8) (i := 0) (x := b + 217) rfl rfl rfl ?_
  refine fg_Model_38_Model C tk_217 d_Mo_packet_8 (pc' := 11) rfl ?_
  refine pj_iconst C d_Mo_packet_11 (pc' := 12) rfl (v := 1) (by decide) ?_
  refine pj_iload_n C d_Mo_packet_12 (pc' := 13) (i := 2) (x := x2) rfl rfl rfl ?_
  refine pj_sipush C d_Mo_packet_13 (pc' := 16) rfl (v := 255) (by decide) ?_
  refine pj_iand C d_Mo_packet_16 (pc' := 17) rfl ?_
  refine pj_iast C (pj_lt tk_227 (by decide)) (fun E u => ka_22 tk_227) d_Mo_packet_17 (pc' := 18) rfl h (fun u2 h => ?_)
  refine pj_aload_n C d_Mo_packet_18 (pc' := 19) (i := 0) (x := b + 217) rfl rfl rfl ?_
  refine fg_Model_38_Model C tk_217 d_Mo_packet_19 (pc' := 22) rfl ?_
  refine pj_iconst C d_Mo_packet_22 (pc' := 23) rfl (v := 3) (by decide) ?_
  refine pj_iload_n C d_Mo_packet_23 (pc' := 24) (i := 3) (x := x3) rfl rfl rfl ?_
  refine pj_iast C (pj_lt tk_227 (by decide)) (fun E u => ka_22 tk_227) d_Mo_packet_24 (pc' := 25) rfl h (fun u3 h => ?_)
  refine pj_aload_n C d_Mo_packet_25 (pc' := 26) (i := 0) (x := b + 217) rfl rfl rfl ?_
  refine pj_iload_n C d_Mo_packet_26 (pc' := 27) (i := 1) (x := x1) rfl rfl rfl ?_
  refine pj_iconst C d_Mo_packet_27 (pc' := 28) rfl (v := 3) (by decide) ?_
  refine pj_icmp_ge C d_Mo_packet_28 (pc' := 31) rfl (tgt := 35) (by decide) h (fun h => ?_) (fun h => ?_)
  · exact pj_cut (pj_le_s (pj_le_n (pj_le_n (pj_le_n pj_le_e)))) (pt_Mo_packet_35 C hE   h)
  · exact pj_cut (pj_le_s (pj_le_n (pj_le_n (pj_le_n pj_le_e)))) (pt_Mo_packet_31 C hE   h)
def pw_Mo_packet (u : pj_M) (x1 : Int32) (x2 : Int32) (x3 : Int32) (K : pj_M → Prop) : Prop := pb_Mo_packet_0  K u x1 x2 x3
theorem pc_Mo_packet (l : Launch) (D : va_G) (E : Nat → ClassId) {b : Nat} {u : pj_M} {x1 : Int32} {x2 : Int32} {x3 : Int32} {K : pj_M → Prop}  (h : pw_Mo_packet u x1 x2 x3 K) : pj_C l y_Mo_packet c_Mo_packet 4 none rm_Mo_packet D E b [.ref (b + 217), .int x1, .int x2, .int x3] u (pj_Kv K) := by
  refine pj_met (own := R_Mo) (by decide +kernel) rfl (Nat.le_of_ble_eq_true rfl) (fun g hE C => ?_)
  unfold pw_Mo_packet at h
  show pj_J g (pj_N g b u) 0 [some (.ref (b + 217)), some (.int x1), some (.int x2), some (.int x3)] []
  exact pj_cut (pj_le_s (pj_le_s (pj_le_s (pj_le_s pj_le_e)))) (pt_Mo_packet_0 C hE   h)
/-! Model.addData(I)V -/
def rm_Mo_addData : Room := { frames := 0, cells := 0, slots := 0, locals := 0 }
def pb_Mo_addData_0  (K : pj_M → Prop) (u : pj_M) (x1 : Int32) : Prop := vp_in (u 217 16) 48 ∧ pj_put u 227 (u 217 16).toNatClampNeg (x1 &&& 255) fun u1 => (pj_put u1 217 16 ((u1 217 16) + 1) fun u2 => (vp_in 2 48 ∧ pj_put u2 227 (2 : Int32).toNatClampNeg (u2 217 16) fun u3 => (K u3)))
set_option maxHeartbeats 1000000 in
theorem pt_Mo_addData_0 {g : pj_G} {b : Nat} (C : pj_X g c_Mo_addData 2 R_Mo none rm_Mo_addData) {K : pj_M → Prop} (hE : pj_E g b (pj_Kv K))   {u : pj_M} {x1 : Int32}   (h : pb_Mo_addData_0  K u x1) : pj_J g (pj_N g b u) 0 [some (.ref (b + 217)), some (.int x1)] [] := by
  unfold pb_Mo_addData_0 at h
  refine pj_aload_n C d_Mo_addData_0 (pc' := 1) (i := 0) (x := b + 217) rfl rfl rfl ?_
  refine fg_Model_38_Model C tk_217 d_Mo_addData_1 (pc' := 4) rfl ?_
  refine pj_aload_n C d_Mo_addData_4 (pc' := 5) (i := 0) (x := b + 217) rfl rfl rfl ?_
  refine fg_Model_233_Model C tk_217 d_Mo_addData_5 (pc' := 8) rfl ?_
  refine pj_iload_n C d_Mo_addData_8 (pc' := 9) (i := 1) (x := x1) rfl rfl rfl ?_
  refine pj_sipush C d_Mo_addData_9 (pc' := 12) rfl (v := 255) (by decide) ?_
  refine pj_iand C d_Mo_addData_12 (pc' := 13) rfl ?_
  refine pj_iast C (pj_lt tk_227 (by decide)) (fun E u => ka_22 tk_227) d_Mo_addData_13 (pc' := 14) rfl h (fun u1 h => ?_)
  refine pj_aload_n C d_Mo_addData_14 (pc' := 15) (i := 0) (x := b + 217) rfl rfl rfl ?_
  refine pj_dup C d_Mo_addData_15 (pc' := 16) rfl rfl ?_
  refine fg_Model_233_Model C tk_217 d_Mo_addData_16 (pc' := 19) rfl ?_
  refine pj_iconst C d_Mo_addData_19 (pc' := 20) rfl (v := 1) (by decide) ?_
  refine pj_iadd C d_Mo_addData_20 (pc' := 21) rfl ?_
  refine fp_Model_233_Model C tk_217  d_Mo_addData_21 (pc' := 24) rfl h (fun u2 h => ?_)
  refine pj_aload_n C d_Mo_addData_24 (pc' := 25) (i := 0) (x := b + 217) rfl rfl rfl ?_
  refine fg_Model_38_Model C tk_217 d_Mo_addData_25 (pc' := 28) rfl ?_
  refine pj_iconst C d_Mo_addData_28 (pc' := 29) rfl (v := 2) (by decide) ?_
  refine pj_aload_n C d_Mo_addData_29 (pc' := 30) (i := 0) (x := b + 217) rfl rfl rfl ?_
  refine fg_Model_233_Model C tk_217 d_Mo_addData_30 (pc' := 33) rfl ?_
  refine pj_iast C (pj_lt tk_227 (by decide)) (fun E u => ka_22 tk_227) d_Mo_addData_33 (pc' := 34) rfl h (fun u3 h => ?_)
  exact pj_vret C hE d_Mo_addData_34 ⟨rfl, h⟩
def pw_Mo_addData (u : pj_M) (x1 : Int32) (K : pj_M → Prop) : Prop := pb_Mo_addData_0  K u x1
theorem pc_Mo_addData (l : Launch) (D : va_G) (E : Nat → ClassId) {b : Nat} {u : pj_M} {x1 : Int32} {K : pj_M → Prop}  (h : pw_Mo_addData u x1 K) : pj_C l y_Mo_addData c_Mo_addData 2 none rm_Mo_addData D E b [.ref (b + 217), .int x1] u (pj_Kv K) := by
  refine pj_met (own := R_Mo) (by decide +kernel) rfl (Nat.le_of_ble_eq_true rfl) (fun g hE C => ?_)
  unfold pw_Mo_addData at h
  show pj_J g (pj_N g b u) 0 [some (.ref (b + 217)), some (.int x1)] []
  exact pj_cut (pj_le_s (pj_le_s pj_le_e)) (pt_Mo_addData_0 C hE   h)
/-! Model.addDataInt(I)V -/
theorem ck_Model_236_Model {g : pj_G} {b : Nat} {cc : ByteArray} {nL : Nat} {ret : Option FieldType} {rm : Room} {u : pj_M} {pc pc' : Nat} {vs : List (Option Value)} {st : List Value} (C : pj_X g cc nL R_Mo ret rm) {x1 : Int32} {K : pj_M → Prop}  (h : pw_Mo_addData u x1 K) (hdg : decode cc pc = .ok (.invokevirtual 236, 3)) (hp : pc + 3 = pc') (hR : rm_Mo_addData.frames + 1 ≤ rm.frames ∧ 8 + (2 + 11) + rm_Mo_addData.locals ≤ rm.locals) (h8 : (st.map fun v => v.category).sum ≤ 8) (kk : ∀ u', K u' → pj_J g (pj_N g b u') pc' vs st) : pj_J g (pj_N g b u) pc vs (.int x1 :: .ref (b + 217) :: st) :=
  pj_callV C (As := [.int x1]) (fun l D E => pc_Mo_addData l D E  h) rfl rfl cl_Model (pj_lt tk_217 (by decide)) (fun E => ko_11 tk_217) wm_1488 wm_1490 wm_67 wm_103 wm_1491 (by decide +kernel) (n := 1) rfl hR rfl h8 hdg hp (fun v u' hq => by obtain ⟨rfl, hk⟩ := hq; exact kk u' hk)
def rm_Mo_addDataInt : Room := { frames := 1, cells := 0, slots := 0, locals := 21 }
def pb_Mo_addDataInt_20  (K : pj_M → Prop) (u : pj_M)  : Prop := K u
set_option maxHeartbeats 1000000 in
theorem pt_Mo_addDataInt_20 {g : pj_G} {b : Nat} (C : pj_X g c_Mo_addDataInt 3 R_Mo none rm_Mo_addDataInt) {K : pj_M → Prop} (hE : pj_E g b (pj_Kv K))   {u : pj_M}    (h : pb_Mo_addDataInt_20  K u ) : pj_J g (pj_N g b u) 20 [none, none, none] [] := by
  unfold pb_Mo_addDataInt_20 at h
  exact pj_vret C hE d_Mo_addDataInt_20 ⟨rfl, h⟩
def pb_Mo_addDataInt_7 (R3 : pj_M → Int32 → Prop) (K : pj_M → Prop) (u : pj_M) (x1 : Int32) (x2 : Int32) : Prop := pw_Mo_addData u (x1 >>> (x2 &&& 31)) fun u1 => (R3 u1 (x2 + (-8)))
set_option maxHeartbeats 1000000 in
theorem pt_Mo_addDataInt_7 {g : pj_G} {b : Nat} (C : pj_X g c_Mo_addDataInt 3 R_Mo none rm_Mo_addDataInt) {K : pj_M → Prop} (hE : pj_E g b (pj_Kv K)) {R3 : pj_M → Int32 → Prop}  {u : pj_M} {x1 : Int32} {x2 : Int32} (hR3 : ∀ (u : pj_M) (x2 : Int32), R3 u x2 → pj_J g (pj_N g b u) 3 [some (.ref (b + 217)), some (.int x1), some (.int x2)] [])  (h : pb_Mo_addDataInt_7 R3 K u x1 x2) : pj_J g (pj_N g b u) 7 [some (.ref (b + 217)), some (.int x1), some (.int x2)] [] := by
  unfold pb_Mo_addDataInt_7 at h
  refine pj_aload_n C d_Mo_addDataInt_7 (pc' := 8) (i := 0) (x := b + 217) rfl rfl rfl ?_
  refine pj_iload_n C d_Mo_addDataInt_8 (pc' := 9) (i := 1) (x := x1) rfl rfl rfl ?_
  refine pj_iload_n C d_Mo_addDataInt_9 (pc' := 10) (i := 2) (x := x2) rfl rfl rfl ?_
  refine pj_ishr C d_Mo_addDataInt_10 (pc' := 11) rfl ?_
  refine ck_Model_236_Model C  h d_Mo_addDataInt_11 (pc' := 14) rfl ⟨Nat.le_of_ble_eq_true rfl, Nat.le_of_ble_eq_true rfl⟩ (Nat.le_of_ble_eq_true rfl) (fun u1 h => ?_)
  refine pj_iinc C d_Mo_addDataInt_14 (pc' := 17) (x := x2) (d := (-8)) (vs' := [some (.ref (b + 217)), some (.int x1), some (.int (x2 + (-8)))]) rfl rfl (Nat.le_of_ble_eq_true rfl) rfl (by decide) rfl ?_
  refine pj_goto C d_Mo_addDataInt_17 (tgt := 3) (by decide) ?_
  exact pj_cut (pj_le_s (pj_le_s (pj_le_s pj_le_e))) (hR3 _ _ h)
def pb_Mo_addDataInt_3b (R3 : pj_M → Int32 → Prop) (K : pj_M → Prop) (u : pj_M) (x1 : Int32) (x2 : Int32) : Prop := ((x2 < 0) → (pb_Mo_addDataInt_20  K u )) ∧ (¬ (x2 < 0) → (pb_Mo_addDataInt_7 R3 K u x1 x2))
set_option maxHeartbeats 1000000 in
theorem pt_Mo_addDataInt_3b {g : pj_G} {b : Nat} (C : pj_X g c_Mo_addDataInt 3 R_Mo none rm_Mo_addDataInt) {K : pj_M → Prop} (hE : pj_E g b (pj_Kv K)) {R3 : pj_M → Int32 → Prop}  {u : pj_M} {x1 : Int32} {x2 : Int32} (hR3 : ∀ (u : pj_M) (x2 : Int32), R3 u x2 → pj_J g (pj_N g b u) 3 [some (.ref (b + 217)), some (.int x1), some (.int x2)] [])  (h : pb_Mo_addDataInt_3b R3 K u x1 x2) : pj_J g (pj_N g b u) 3 [some (.ref (b + 217)), some (.int x1), some (.int x2)] [] := by
  unfold pb_Mo_addDataInt_3b at h
  refine pj_iload_n C d_Mo_addDataInt_3 (pc' := 4) (i := 2) (x := x2) rfl rfl rfl ?_
  refine pj_if_lt C d_Mo_addDataInt_4 (pc' := 7) rfl (tgt := 20) (by decide) h (fun h => ?_) (fun h => ?_)
  · exact pj_cut (pj_le_n (pj_le_n (pj_le_n pj_le_e))) (pt_Mo_addDataInt_20 C hE   h)
  · exact pj_cut (pj_le_s (pj_le_s (pj_le_s pj_le_e))) (pt_Mo_addDataInt_7 C hE hR3  h)
def pb_Mo_addDataInt_3  (K : pj_M → Prop) (x1 : Int32) : Nat → pj_M → Int32 → Prop
  | 0 => fun _ _ => False
  | n + 1 => fun u x2 => pb_Mo_addDataInt_3b (pb_Mo_addDataInt_3  K x1 n) K u x1 x2
theorem pt_Mo_addDataInt_3 {g : pj_G} {b : Nat} (C : pj_X g c_Mo_addDataInt 3 R_Mo none rm_Mo_addDataInt) {K : pj_M → Prop} (hE : pj_E g b (pj_Kv K))  {x1 : Int32}   : ∀ (n : Nat) (u : pj_M) (x2 : Int32), pb_Mo_addDataInt_3  K x1 n u x2 → pj_J g (pj_N g b u) 3 [some (.ref (b + 217)), some (.int x1), some (.int x2)] [] := by
  intro n
  induction n with
  | zero => intro u x2 h; exact False.elim h
  | succ n ih =>
    intro u x2 h
    exact (pt_Mo_addDataInt_3b C hE ih  h)
def pb_Mo_addDataInt_0  (K : pj_M → Prop) (u : pj_M) (x1 : Int32) : Prop := ∃ n, pb_Mo_addDataInt_3  K x1 n u 24
set_option maxHeartbeats 1000000 in
theorem pt_Mo_addDataInt_0 {g : pj_G} {b : Nat} (C : pj_X g c_Mo_addDataInt 3 R_Mo none rm_Mo_addDataInt) {K : pj_M → Prop} (hE : pj_E g b (pj_Kv K))   {u : pj_M} {x1 : Int32}   (h : pb_Mo_addDataInt_0  K u x1) : pj_J g (pj_N g b u) 0 [some (.ref (b + 217)), some (.int x1), none] [] := by
  unfold pb_Mo_addDataInt_0 at h
  refine pj_bipush C d_Mo_addDataInt_0 (pc' := 2) rfl (v := 24) (by decide) ?_
  refine pj_istore_n C d_Mo_addDataInt_2 (pc' := 3) (i := 2) (vs' := [some (.ref (b + 217)), some (.int x1), some (.int 24)]) rfl rfl (Nat.le_of_ble_eq_true rfl) (Nat.le_of_ble_eq_true rfl) rfl rfl ?_
  obtain ⟨n, h⟩ := h
  exact pj_cut (pj_le_s (pj_le_s (pj_le_s pj_le_e))) (pt_Mo_addDataInt_3 C hE   n _ _ h)
def pw_Mo_addDataInt (u : pj_M) (x1 : Int32) (K : pj_M → Prop) : Prop := pb_Mo_addDataInt_0  K u x1
theorem pc_Mo_addDataInt (l : Launch) (D : va_G) (E : Nat → ClassId) {b : Nat} {u : pj_M} {x1 : Int32} {K : pj_M → Prop}  (h : pw_Mo_addDataInt u x1 K) : pj_C l y_Mo_addDataInt c_Mo_addDataInt 3 none rm_Mo_addDataInt D E b [.ref (b + 217), .int x1] u (pj_Kv K) := by
  refine pj_met (own := R_Mo) (by decide +kernel) rfl (Nat.le_of_ble_eq_true rfl) (fun g hE C => ?_)
  unfold pw_Mo_addDataInt at h
  show pj_J g (pj_N g b u) 0 [some (.ref (b + 217)), some (.int x1), none] []
  exact pj_cut (pj_le_s (pj_le_s (pj_le_n pj_le_e))) (pt_Mo_addDataInt_0 C hE   h)
/-! Model.sendFrame(II)V -/
theorem ck_Model_239_Model {g : pj_G} {b : Nat} {cc : ByteArray} {nL : Nat} {ret : Option FieldType} {rm : Room} {u : pj_M} {pc pc' : Nat} {vs : List (Option Value)} {st : List Value} (C : pj_X g cc nL R_Mo ret rm) {x1 : Int32} {K : pj_M → Prop}  (h : pw_Mo_toRow u x1 K) (hdg : decode cc pc = .ok (.invokevirtual 239, 3)) (hp : pc + 3 = pc') (hR : rm_Mo_toRow.frames + 1 ≤ rm.frames ∧ 8 + (2 + 11) + rm_Mo_toRow.locals ≤ rm.locals) (h8 : (st.map fun v => v.category).sum ≤ 8) (kk : ∀ u', K u' → pj_J g (pj_N g b u') pc' vs st) : pj_J g (pj_N g b u) pc vs (.int x1 :: .ref (b + 217) :: st) :=
  pj_callV C (As := [.int x1]) (fun l D E => pc_Mo_toRow l D E  h) rfl rfl cl_Model (pj_lt tk_217 (by decide)) (fun E => ko_11 tk_217) wm_1358 wm_1360 wm_39 wm_103 wm_1361 (by decide +kernel) (n := 1) rfl hR rfl h8 hdg hp (fun v u' hq => by obtain ⟨rfl, hk⟩ := hq; exact kk u' hk)
theorem ck_Model_242_Model {g : pj_G} {b : Nat} {cc : ByteArray} {nL : Nat} {ret : Option FieldType} {rm : Room} {u : pj_M} {pc pc' : Nat} {vs : List (Option Value)} {st : List Value} (C : pj_X g cc nL R_Mo ret rm) {x1 : Int32} {x2 : Int32} {K : pj_M → Prop}  (h : pw_Mo_send u x1 x2 K) (hdg : decode cc pc = .ok (.invokevirtual 242, 3)) (hp : pc + 3 = pc') (hR : rm_Mo_send.frames + 1 ≤ rm.frames ∧ 8 + (4 + 11) + rm_Mo_send.locals ≤ rm.locals) (h8 : (st.map fun v => v.category).sum ≤ 8) (kk : ∀ u', K u' → pj_J g (pj_N g b u') pc' vs st) : pj_J g (pj_N g b u) pc vs (.int x2 :: .int x1 :: .ref (b + 217) :: st) :=
  pj_callV C (As := [.int x1, .int x2]) (fun l D E => pc_Mo_send l D E  h) rfl rfl cl_Model (pj_lt tk_217 (by decide)) (fun E => ko_11 tk_217) wm_1362 wm_1364 wm_40 wm_103 wm_1365 (by decide +kernel) (n := 2) rfl hR rfl h8 hdg hp (fun v u' hq => by obtain ⟨rfl, hk⟩ := hq; exact kk u' hk)
def rm_Mo_sendFrame : Room := { frames := 1, cells := 0, slots := 0, locals := 23 }
def pb_Mo_sendFrame_36  (K : pj_M → Prop) (u : pj_M) (x1 : Int32) (x2 : Int32) : Prop := pw_Mo_send u x1 x2 fun u1 => (K u1)
set_option maxHeartbeats 1000000 in
theorem pt_Mo_sendFrame_36 {g : pj_G} {b : Nat} (C : pj_X g c_Mo_sendFrame 4 R_Mo none rm_Mo_sendFrame) {K : pj_M → Prop} (hE : pj_E g b (pj_Kv K))   {u : pj_M} {x1 : Int32} {x2 : Int32}   (h : pb_Mo_sendFrame_36  K u x1 x2) : pj_J g (pj_N g b u) 36 [some (.ref (b + 217)), some (.int x1), some (.int x2), none] [] := by
  unfold pb_Mo_sendFrame_36 at h
  refine pj_aload_n C d_Mo_sendFrame_36 (pc' := 37) (i := 0) (x := b + 217) rfl rfl rfl ?_
  refine pj_iload_n C d_Mo_sendFrame_37 (pc' := 38) (i := 1) (x := x1) rfl rfl rfl ?_
  refine pj_iload_n C d_Mo_sendFrame_38 (pc' := 39) (i := 2) (x := x2) rfl rfl rfl ?_
  refine ck_Model_242_Model C  h d_Mo_sendFrame_39 (pc' := 42) rfl ⟨Nat.le_of_ble_eq_true rfl, Nat.le_of_ble_eq_true rfl⟩ (Nat.le_of_ble_eq_true rfl) (fun u1 h => ?_)
  exact pj_vret C hE d_Mo_sendFrame_42 ⟨rfl, h⟩
def pb_Mo_sendFrame_20 (R12 : pj_M → Int32 → Prop) (K : pj_M → Prop) (u : pj_M) (x1 : Int32) (x2 : Int32) (x3 : Int32) : Prop := vp_in x3 48 ∧ (pw_Mo_toRow u (u 227 x3.toNatClampNeg) fun u1 => (R12 u1 (x3 + 1)))
set_option maxHeartbeats 1000000 in
theorem pt_Mo_sendFrame_20 {g : pj_G} {b : Nat} (C : pj_X g c_Mo_sendFrame 4 R_Mo none rm_Mo_sendFrame) {K : pj_M → Prop} (hE : pj_E g b (pj_Kv K)) {R12 : pj_M → Int32 → Prop}  {u : pj_M} {x1 : Int32} {x2 : Int32} {x3 : Int32} (hR12 : ∀ (u : pj_M) (x3 : Int32), R12 u x3 → pj_J g (pj_N g b u) 12 [some (.ref (b + 217)), some (.int x1), some (.int x2), some (.int x3)] [])  (h : pb_Mo_sendFrame_20 R12 K u x1 x2 x3) : pj_J g (pj_N g b u) 20 [some (.ref (b + 217)), some (.int x1), some (.int x2), some (.int x3)] [] := by
  unfold pb_Mo_sendFrame_20 at h
  refine pj_aload_n C d_Mo_sendFrame_20 (pc' := 21) (i := 0) (x := b + 217) rfl rfl rfl ?_
  refine pj_aload_n C d_Mo_sendFrame_21 (pc' := 22) (i := 0) (x := b + 217) rfl rfl rfl ?_
  refine fg_Model_38_Model C tk_217 d_Mo_sendFrame_22 (pc' := 25) rfl ?_
  refine pj_iload_n C d_Mo_sendFrame_25 (pc' := 26) (i := 3) (x := x3) rfl rfl rfl ?_
  refine pj_iald C (pj_lt tk_227 (by decide)) (fun E u => ka_22 tk_227) d_Mo_sendFrame_26 (pc' := 27) rfl h (fun h => ?_)
  refine ck_Model_239_Model C  h d_Mo_sendFrame_27 (pc' := 30) rfl ⟨Nat.le_of_ble_eq_true rfl, Nat.le_of_ble_eq_true rfl⟩ (Nat.le_of_ble_eq_true rfl) (fun u1 h => ?_)
  refine pj_iinc C d_Mo_sendFrame_30 (pc' := 33) (x := x3) (d := 1) (vs' := [some (.ref (b + 217)), some (.int x1), some (.int x2), some (.int (x3 + 1))]) rfl rfl (Nat.le_of_ble_eq_true rfl) rfl (by decide) rfl ?_
  refine pj_goto C d_Mo_sendFrame_33 (tgt := 12) (by decide) ?_
  exact pj_cut (pj_le_s (pj_le_s (pj_le_s (pj_le_s pj_le_e)))) (hR12 _ _ h)
def pb_Mo_sendFrame_12b (R12 : pj_M → Int32 → Prop) (K : pj_M → Prop) (u : pj_M) (x1 : Int32) (x2 : Int32) (x3 : Int32) : Prop := (((u 217 16) ≤ x3) → (pb_Mo_sendFrame_36  K u x1 x2)) ∧ (¬ ((u 217 16) ≤ x3) → (pb_Mo_sendFrame_20 R12 K u x1 x2 x3))
set_option maxHeartbeats 1000000 in
theorem pt_Mo_sendFrame_12b {g : pj_G} {b : Nat} (C : pj_X g c_Mo_sendFrame 4 R_Mo none rm_Mo_sendFrame) {K : pj_M → Prop} (hE : pj_E g b (pj_Kv K)) {R12 : pj_M → Int32 → Prop}  {u : pj_M} {x1 : Int32} {x2 : Int32} {x3 : Int32} (hR12 : ∀ (u : pj_M) (x3 : Int32), R12 u x3 → pj_J g (pj_N g b u) 12 [some (.ref (b + 217)), some (.int x1), some (.int x2), some (.int x3)] [])  (h : pb_Mo_sendFrame_12b R12 K u x1 x2 x3) : pj_J g (pj_N g b u) 12 [some (.ref (b + 217)), some (.int x1), some (.int x2), some (.int x3)] [] := by
  unfold pb_Mo_sendFrame_12b at h
  refine pj_iload_n C d_Mo_sendFrame_12 (pc' := 13) (i := 3) (x := x3) rfl rfl rfl ?_
  refine pj_aload_n C d_Mo_sendFrame_13 (pc' := 14) (i := 0) (x := b + 217) rfl rfl rfl ?_
  refine fg_Model_233_Model C tk_217 d_Mo_sendFrame_14 (pc' := 17) rfl ?_
  refine pj_icmp_ge C d_Mo_sendFrame_17 (pc' := 20) rfl (tgt := 36) (by decide) h (fun h => ?_) (fun h => ?_)
  · exact pj_cut (pj_le_s (pj_le_s (pj_le_s (pj_le_n pj_le_e)))) (pt_Mo_sendFrame_36 C hE   h)
  · exact pj_cut (pj_le_s (pj_le_s (pj_le_s (pj_le_s pj_le_e)))) (pt_Mo_sendFrame_20 C hE hR12  h)
def pb_Mo_sendFrame_12  (K : pj_M → Prop) (x1 : Int32) (x2 : Int32) : Nat → pj_M → Int32 → Prop
  | 0 => fun _ _ => False
  | n + 1 => fun u x3 => pb_Mo_sendFrame_12b (pb_Mo_sendFrame_12  K x1 x2 n) K u x1 x2 x3
theorem pt_Mo_sendFrame_12 {g : pj_G} {b : Nat} (C : pj_X g c_Mo_sendFrame 4 R_Mo none rm_Mo_sendFrame) {K : pj_M → Prop} (hE : pj_E g b (pj_Kv K))  {x1 : Int32} {x2 : Int32}   : ∀ (n : Nat) (u : pj_M) (x3 : Int32), pb_Mo_sendFrame_12  K x1 x2 n u x3 → pj_J g (pj_N g b u) 12 [some (.ref (b + 217)), some (.int x1), some (.int x2), some (.int x3)] [] := by
  intro n
  induction n with
  | zero => intro u x3 h; exact False.elim h
  | succ n ih =>
    intro u x3 h
    exact (pt_Mo_sendFrame_12b C hE ih  h)
def pb_Mo_sendFrame_0  (K : pj_M → Prop) (u : pj_M) (x1 : Int32) (x2 : Int32) : Prop := pj_put u 217 11 0 fun u1 => (pw_Mo_toRow u1 0 fun u2 => (∃ n, pb_Mo_sendFrame_12  K x1 x2 n u2 0))
set_option maxHeartbeats 1000000 in
theorem pt_Mo_sendFrame_0 {g : pj_G} {b : Nat} (C : pj_X g c_Mo_sendFrame 4 R_Mo none rm_Mo_sendFrame) {K : pj_M → Prop} (hE : pj_E g b (pj_Kv K))   {u : pj_M} {x1 : Int32} {x2 : Int32}   (h : pb_Mo_sendFrame_0  K u x1 x2) : pj_J g (pj_N g b u) 0 [some (.ref (b + 217)), some (.int x1), some (.int x2), none] [] := by
  unfold pb_Mo_sendFrame_0 at h
  refine pj_aload_n C d_Mo_sendFrame_0 (pc' := 1) (i := 0) (x := b + 217) rfl rfl rfl ?_
  refine pj_iconst C d_Mo_sendFrame_1 (pc' := 2) rfl (v := 0) (by decide) ?_
  refine fp_Model_221_Model C tk_217  d_Mo_sendFrame_2 (pc' := 5) rfl h (fun u1 h => ?_)
  refine pj_aload_n C d_Mo_sendFrame_5 (pc' := 6) (i := 0) (x := b + 217) rfl rfl rfl ?_
  refine pj_iconst C d_Mo_sendFrame_6 (pc' := 7) rfl (v := 0) (by decide) ?_
  refine ck_Model_239_Model C  h d_Mo_sendFrame_7 (pc' := 10) rfl ⟨Nat.le_of_ble_eq_true rfl, Nat.le_of_ble_eq_true rfl⟩ (Nat.le_of_ble_eq_true rfl) (fun u2 h => ?_)
  refine pj_iconst C d_Mo_sendFrame_10 (pc' := 11) rfl (v := 0) (by decide) ?_
  refine pj_istore_n C d_Mo_sendFrame_11 (pc' := 12) (i := 3) (vs' := [some (.ref (b + 217)), some (.int x1), some (.int x2), some (.int 0)]) rfl rfl (Nat.le_of_ble_eq_true rfl) (Nat.le_of_ble_eq_true rfl) rfl rfl ?_
  obtain ⟨n, h⟩ := h
  exact pj_cut (pj_le_s (pj_le_s (pj_le_s (pj_le_s pj_le_e)))) (pt_Mo_sendFrame_12 C hE   n _ _ h)
def pw_Mo_sendFrame (u : pj_M) (x1 : Int32) (x2 : Int32) (K : pj_M → Prop) : Prop := pb_Mo_sendFrame_0  K u x1 x2
theorem pc_Mo_sendFrame (l : Launch) (D : va_G) (E : Nat → ClassId) {b : Nat} {u : pj_M} {x1 : Int32} {x2 : Int32} {K : pj_M → Prop}  (h : pw_Mo_sendFrame u x1 x2 K) : pj_C l y_Mo_sendFrame c_Mo_sendFrame 4 none rm_Mo_sendFrame D E b [.ref (b + 217), .int x1, .int x2] u (pj_Kv K) := by
  refine pj_met (own := R_Mo) (by decide +kernel) rfl (Nat.le_of_ble_eq_true rfl) (fun g hE C => ?_)
  unfold pw_Mo_sendFrame at h
  show pj_J g (pj_N g b u) 0 [some (.ref (b + 217)), some (.int x1), some (.int x2), none] []
  exact pj_cut (pj_le_s (pj_le_s (pj_le_s (pj_le_n pj_le_e)))) (pt_Mo_sendFrame_0 C hE   h)
/-! Model.rightPacket()Z -/
def rm_Mo_rightPacket : Room := { frames := 0, cells := 0, slots := 0, locals := 0 }
def pb_Mo_rightPacket_30  (K : Int32 → pj_M → Prop) (u : pj_M)  : Prop := K 0 u
set_option maxHeartbeats 1000000 in
theorem pt_Mo_rightPacket_30 {g : pj_G} {b : Nat} (C : pj_X g c_Mo_rightPacket 1 R_Mo (some .boolean) rm_Mo_rightPacket) {K : Int32 → pj_M → Prop} (hE : pj_E g b (pj_Ki K))   {u : pj_M}    (h : pb_Mo_rightPacket_30  K u ) : pj_J g (pj_N g b u) 30 [none] [] := by
  unfold pb_Mo_rightPacket_30 at h
  refine pj_iconst C d_Mo_rightPacket_30 (pc' := 31) rfl (v := 0) (by decide) ?_
  exact pj_zret C hE d_Mo_rightPacket_31 pj_bi0 ⟨_, rfl, h⟩
def pb_Mo_rightPacket_93  (K : Int32 → pj_M → Prop) (u : pj_M) (s0 : Int32) : Prop := pj_bi s0 ∧ K s0 u
set_option maxHeartbeats 1000000 in
theorem pt_Mo_rightPacket_93 {g : pj_G} {b : Nat} (C : pj_X g c_Mo_rightPacket 1 R_Mo (some .boolean) rm_Mo_rightPacket) {K : Int32 → pj_M → Prop} (hE : pj_E g b (pj_Ki K))   {u : pj_M} {s0 : Int32}   (h : pb_Mo_rightPacket_93  K u s0) : pj_J g (pj_N g b u) 93 [none] [.int s0] := by
  unfold pb_Mo_rightPacket_93 at h
  exact pj_zret C hE d_Mo_rightPacket_93 h.1 ⟨_, rfl, h.2⟩
def pb_Mo_rightPacket_88  (K : Int32 → pj_M → Prop) (u : pj_M)  : Prop := pb_Mo_rightPacket_93  K u 1
set_option maxHeartbeats 1000000 in
theorem pt_Mo_rightPacket_88 {g : pj_G} {b : Nat} (C : pj_X g c_Mo_rightPacket 1 R_Mo (some .boolean) rm_Mo_rightPacket) {K : Int32 → pj_M → Prop} (hE : pj_E g b (pj_Ki K))   {u : pj_M}    (h : pb_Mo_rightPacket_88  K u ) : pj_J g (pj_N g b u) 88 [none] [] := by
  unfold pb_Mo_rightPacket_88 at h
  refine pj_iconst C d_Mo_rightPacket_88 (pc' := 89) rfl (v := 1) (by decide) ?_
  refine pj_goto C d_Mo_rightPacket_89 (tgt := 93) (by decide) ?_
  exact pj_cut (pj_le_n pj_le_e) (pt_Mo_rightPacket_93 C hE   h)
def pb_Mo_rightPacket_92  (K : Int32 → pj_M → Prop) (u : pj_M)  : Prop := pb_Mo_rightPacket_93  K u 0
set_option maxHeartbeats 1000000 in
theorem pt_Mo_rightPacket_92 {g : pj_G} {b : Nat} (C : pj_X g c_Mo_rightPacket 1 R_Mo (some .boolean) rm_Mo_rightPacket) {K : Int32 → pj_M → Prop} (hE : pj_E g b (pj_Ki K))   {u : pj_M}    (h : pb_Mo_rightPacket_92  K u ) : pj_J g (pj_N g b u) 92 [none] [] := by
  unfold pb_Mo_rightPacket_92 at h
  refine pj_iconst C d_Mo_rightPacket_92 (pc' := 93) rfl (v := 0) (by decide) ?_
  exact pj_cut (pj_le_n pj_le_e) (pt_Mo_rightPacket_93 C hE   h)
def pb_Mo_rightPacket_80  (K : Int32 → pj_M → Prop) (u : pj_M)  : Prop := (((u 217 16) = 3) → (pb_Mo_rightPacket_88  K u )) ∧ (¬ ((u 217 16) = 3) → (pb_Mo_rightPacket_92  K u ))
set_option maxHeartbeats 1000000 in
theorem pt_Mo_rightPacket_80 {g : pj_G} {b : Nat} (C : pj_X g c_Mo_rightPacket 1 R_Mo (some .boolean) rm_Mo_rightPacket) {K : Int32 → pj_M → Prop} (hE : pj_E g b (pj_Ki K))   {u : pj_M}    (h : pb_Mo_rightPacket_80  K u ) : pj_J g (pj_N g b u) 80 [some (.ref (b + 217))] [] := by
  unfold pb_Mo_rightPacket_80 at h
  refine pj_aload_n C d_Mo_rightPacket_80 (pc' := 81) (i := 0) (x := b + 217) rfl rfl rfl ?_
  refine fg_Model_233_Model C tk_217 d_Mo_rightPacket_81 (pc' := 84) rfl ?_
  refine pj_iconst C d_Mo_rightPacket_84 (pc' := 85) rfl (v := 3) (by decide) ?_
  refine pj_icmp_ne C d_Mo_rightPacket_85 (pc' := 88) rfl (tgt := 92) (by decide) h (fun h => ?_) (fun h => ?_)
  · exact pj_cut (pj_le_n pj_le_e) (pt_Mo_rightPacket_92 C hE   h)
  · exact pj_cut (pj_le_n pj_le_e) (pt_Mo_rightPacket_88 C hE   h)
def pb_Mo_rightPacket_70  (K : Int32 → pj_M → Prop) (u : pj_M)  : Prop := vp_in 0 48 ∧ ((((u 227 (0 : Int32).toNatClampNeg) = 4) → (pb_Mo_rightPacket_80  K u )) ∧ (¬ ((u 227 (0 : Int32).toNatClampNeg) = 4) → (pb_Mo_rightPacket_92  K u )))
set_option maxHeartbeats 1000000 in
theorem pt_Mo_rightPacket_70 {g : pj_G} {b : Nat} (C : pj_X g c_Mo_rightPacket 1 R_Mo (some .boolean) rm_Mo_rightPacket) {K : Int32 → pj_M → Prop} (hE : pj_E g b (pj_Ki K))   {u : pj_M}    (h : pb_Mo_rightPacket_70  K u ) : pj_J g (pj_N g b u) 70 [some (.ref (b + 217))] [] := by
  unfold pb_Mo_rightPacket_70 at h
  refine pj_aload_n C d_Mo_rightPacket_70 (pc' := 71) (i := 0) (x := b + 217) rfl rfl rfl ?_
  refine fg_Model_38_Model C tk_217 d_Mo_rightPacket_71 (pc' := 74) rfl ?_
  refine pj_iconst C d_Mo_rightPacket_74 (pc' := 75) rfl (v := 0) (by decide) ?_
  refine pj_iald C (pj_lt tk_227 (by decide)) (fun E u => ka_22 tk_227) d_Mo_rightPacket_75 (pc' := 76) rfl h (fun h => ?_)
  refine pj_iconst C d_Mo_rightPacket_76 (pc' := 77) rfl (v := 4) (by decide) ?_
  refine pj_icmp_ne C d_Mo_rightPacket_77 (pc' := 80) rfl (tgt := 92) (by decide) h (fun h => ?_) (fun h => ?_)
  · exact pj_cut (pj_le_n pj_le_e) (pt_Mo_rightPacket_92 C hE   h)
  · exact pj_cut (pj_le_s pj_le_e) (pt_Mo_rightPacket_80 C hE   h)
def pb_Mo_rightPacket_60  (K : Int32 → pj_M → Prop) (u : pj_M)  : Prop := vp_in 0 48 ∧ ((((u 227 (0 : Int32).toNatClampNeg) = 3) → (pb_Mo_rightPacket_80  K u )) ∧ (¬ ((u 227 (0 : Int32).toNatClampNeg) = 3) → (pb_Mo_rightPacket_70  K u )))
set_option maxHeartbeats 1000000 in
theorem pt_Mo_rightPacket_60 {g : pj_G} {b : Nat} (C : pj_X g c_Mo_rightPacket 1 R_Mo (some .boolean) rm_Mo_rightPacket) {K : Int32 → pj_M → Prop} (hE : pj_E g b (pj_Ki K))   {u : pj_M}    (h : pb_Mo_rightPacket_60  K u ) : pj_J g (pj_N g b u) 60 [some (.ref (b + 217))] [] := by
  unfold pb_Mo_rightPacket_60 at h
  refine pj_aload_n C d_Mo_rightPacket_60 (pc' := 61) (i := 0) (x := b + 217) rfl rfl rfl ?_
  refine fg_Model_38_Model C tk_217 d_Mo_rightPacket_61 (pc' := 64) rfl ?_
  refine pj_iconst C d_Mo_rightPacket_64 (pc' := 65) rfl (v := 0) (by decide) ?_
  refine pj_iald C (pj_lt tk_227 (by decide)) (fun E u => ka_22 tk_227) d_Mo_rightPacket_65 (pc' := 66) rfl h (fun h => ?_)
  refine pj_iconst C d_Mo_rightPacket_66 (pc' := 67) rfl (v := 3) (by decide) ?_
  refine pj_icmp_eq C d_Mo_rightPacket_67 (pc' := 70) rfl (tgt := 80) (by decide) h (fun h => ?_) (fun h => ?_)
  · exact pj_cut (pj_le_s pj_le_e) (pt_Mo_rightPacket_80 C hE   h)
  · exact pj_cut (pj_le_s pj_le_e) (pt_Mo_rightPacket_70 C hE   h)
def pb_Mo_rightPacket_52  (K : Int32 → pj_M → Prop) (u : pj_M)  : Prop := ((3 < (u 217 16)) → (pb_Mo_rightPacket_88  K u )) ∧ (¬ (3 < (u 217 16)) → (pb_Mo_rightPacket_60  K u ))
set_option maxHeartbeats 1000000 in
theorem pt_Mo_rightPacket_52 {g : pj_G} {b : Nat} (C : pj_X g c_Mo_rightPacket 1 R_Mo (some .boolean) rm_Mo_rightPacket) {K : Int32 → pj_M → Prop} (hE : pj_E g b (pj_Ki K))   {u : pj_M}    (h : pb_Mo_rightPacket_52  K u ) : pj_J g (pj_N g b u) 52 [some (.ref (b + 217))] [] := by
  unfold pb_Mo_rightPacket_52 at h
  refine pj_aload_n C d_Mo_rightPacket_52 (pc' := 53) (i := 0) (x := b + 217) rfl rfl rfl ?_
  refine fg_Model_233_Model C tk_217 d_Mo_rightPacket_53 (pc' := 56) rfl ?_
  refine pj_iconst C d_Mo_rightPacket_56 (pc' := 57) rfl (v := 3) (by decide) ?_
  refine pj_icmp_gt C d_Mo_rightPacket_57 (pc' := 60) rfl (tgt := 88) (by decide) h (fun h => ?_) (fun h => ?_)
  · exact pj_cut (pj_le_n pj_le_e) (pt_Mo_rightPacket_88 C hE   h)
  · exact pj_cut (pj_le_s pj_le_e) (pt_Mo_rightPacket_60 C hE   h)
def pb_Mo_rightPacket_42  (K : Int32 → pj_M → Prop) (u : pj_M)  : Prop := vp_in 0 48 ∧ ((((u 227 (0 : Int32).toNatClampNeg) = 2) → (pb_Mo_rightPacket_52  K u )) ∧ (¬ ((u 227 (0 : Int32).toNatClampNeg) = 2) → (pb_Mo_rightPacket_60  K u )))
set_option maxHeartbeats 1000000 in
theorem pt_Mo_rightPacket_42 {g : pj_G} {b : Nat} (C : pj_X g c_Mo_rightPacket 1 R_Mo (some .boolean) rm_Mo_rightPacket) {K : Int32 → pj_M → Prop} (hE : pj_E g b (pj_Ki K))   {u : pj_M}    (h : pb_Mo_rightPacket_42  K u ) : pj_J g (pj_N g b u) 42 [some (.ref (b + 217))] [] := by
  unfold pb_Mo_rightPacket_42 at h
  refine pj_aload_n C d_Mo_rightPacket_42 (pc' := 43) (i := 0) (x := b + 217) rfl rfl rfl ?_
  refine fg_Model_38_Model C tk_217 d_Mo_rightPacket_43 (pc' := 46) rfl ?_
  refine pj_iconst C d_Mo_rightPacket_46 (pc' := 47) rfl (v := 0) (by decide) ?_
  refine pj_iald C (pj_lt tk_227 (by decide)) (fun E u => ka_22 tk_227) d_Mo_rightPacket_47 (pc' := 48) rfl h (fun h => ?_)
  refine pj_iconst C d_Mo_rightPacket_48 (pc' := 49) rfl (v := 2) (by decide) ?_
  refine pj_icmp_ne C d_Mo_rightPacket_49 (pc' := 52) rfl (tgt := 60) (by decide) h (fun h => ?_) (fun h => ?_)
  · exact pj_cut (pj_le_s pj_le_e) (pt_Mo_rightPacket_60 C hE   h)
  · exact pj_cut (pj_le_s pj_le_e) (pt_Mo_rightPacket_52 C hE   h)
def pb_Mo_rightPacket_32  (K : Int32 → pj_M → Prop) (u : pj_M)  : Prop := vp_in 0 48 ∧ ((((u 227 (0 : Int32).toNatClampNeg) = 1) → (pb_Mo_rightPacket_52  K u )) ∧ (¬ ((u 227 (0 : Int32).toNatClampNeg) = 1) → (pb_Mo_rightPacket_42  K u )))
set_option maxHeartbeats 1000000 in
theorem pt_Mo_rightPacket_32 {g : pj_G} {b : Nat} (C : pj_X g c_Mo_rightPacket 1 R_Mo (some .boolean) rm_Mo_rightPacket) {K : Int32 → pj_M → Prop} (hE : pj_E g b (pj_Ki K))   {u : pj_M}    (h : pb_Mo_rightPacket_32  K u ) : pj_J g (pj_N g b u) 32 [some (.ref (b + 217))] [] := by
  unfold pb_Mo_rightPacket_32 at h
  refine pj_aload_n C d_Mo_rightPacket_32 (pc' := 33) (i := 0) (x := b + 217) rfl rfl rfl ?_
  refine fg_Model_38_Model C tk_217 d_Mo_rightPacket_33 (pc' := 36) rfl ?_
  refine pj_iconst C d_Mo_rightPacket_36 (pc' := 37) rfl (v := 0) (by decide) ?_
  refine pj_iald C (pj_lt tk_227 (by decide)) (fun E u => ka_22 tk_227) d_Mo_rightPacket_37 (pc' := 38) rfl h (fun h => ?_)
  refine pj_iconst C d_Mo_rightPacket_38 (pc' := 39) rfl (v := 1) (by decide) ?_
  refine pj_icmp_eq C d_Mo_rightPacket_39 (pc' := 42) rfl (tgt := 52) (by decide) h (fun h => ?_) (fun h => ?_)
  · exact pj_cut (pj_le_s pj_le_e) (pt_Mo_rightPacket_52 C hE   h)
  · exact pj_cut (pj_le_s pj_le_e) (pt_Mo_rightPacket_42 C hE   h)
def pb_Mo_rightPacket_17  (K : Int32 → pj_M → Prop) (u : pj_M)  : Prop := vp_in 2 48 ∧ ((((u 227 (2 : Int32).toNatClampNeg) = (u 217 16)) → (pb_Mo_rightPacket_32  K u )) ∧ (¬ ((u 227 (2 : Int32).toNatClampNeg) = (u 217 16)) → (pb_Mo_rightPacket_30  K u )))
set_option maxHeartbeats 1000000 in
theorem pt_Mo_rightPacket_17 {g : pj_G} {b : Nat} (C : pj_X g c_Mo_rightPacket 1 R_Mo (some .boolean) rm_Mo_rightPacket) {K : Int32 → pj_M → Prop} (hE : pj_E g b (pj_Ki K))   {u : pj_M}    (h : pb_Mo_rightPacket_17  K u ) : pj_J g (pj_N g b u) 17 [some (.ref (b + 217))] [] := by
  unfold pb_Mo_rightPacket_17 at h
  refine pj_aload_n C d_Mo_rightPacket_17 (pc' := 18) (i := 0) (x := b + 217) rfl rfl rfl ?_
  refine fg_Model_38_Model C tk_217 d_Mo_rightPacket_18 (pc' := 21) rfl ?_
  refine pj_iconst C d_Mo_rightPacket_21 (pc' := 22) rfl (v := 2) (by decide) ?_
  refine pj_iald C (pj_lt tk_227 (by decide)) (fun E u => ka_22 tk_227) d_Mo_rightPacket_22 (pc' := 23) rfl h (fun h => ?_)
  refine pj_aload_n C d_Mo_rightPacket_23 (pc' := 24) (i := 0) (x := b + 217) rfl rfl rfl ?_
  refine fg_Model_233_Model C tk_217 d_Mo_rightPacket_24 (pc' := 27) rfl ?_
  refine pj_icmp_eq C d_Mo_rightPacket_27 (pc' := 30) rfl (tgt := 32) (by decide) h (fun h => ?_) (fun h => ?_)
  · exact pj_cut (pj_le_s pj_le_e) (pt_Mo_rightPacket_32 C hE   h)
  · exact pj_cut (pj_le_n pj_le_e) (pt_Mo_rightPacket_30 C hE   h)
def pb_Mo_rightPacket_8  (K : Int32 → pj_M → Prop) (u : pj_M)  : Prop := ((20 < (u 217 16)) → (pb_Mo_rightPacket_30  K u )) ∧ (¬ (20 < (u 217 16)) → (pb_Mo_rightPacket_17  K u ))
set_option maxHeartbeats 1000000 in
theorem pt_Mo_rightPacket_8 {g : pj_G} {b : Nat} (C : pj_X g c_Mo_rightPacket 1 R_Mo (some .boolean) rm_Mo_rightPacket) {K : Int32 → pj_M → Prop} (hE : pj_E g b (pj_Ki K))   {u : pj_M}    (h : pb_Mo_rightPacket_8  K u ) : pj_J g (pj_N g b u) 8 [some (.ref (b + 217))] [] := by
  unfold pb_Mo_rightPacket_8 at h
  refine pj_aload_n C d_Mo_rightPacket_8 (pc' := 9) (i := 0) (x := b + 217) rfl rfl rfl ?_
  refine fg_Model_233_Model C tk_217 d_Mo_rightPacket_9 (pc' := 12) rfl ?_
  refine pj_bipush C d_Mo_rightPacket_12 (pc' := 14) rfl (v := 20) (by decide) ?_
  refine pj_icmp_gt C d_Mo_rightPacket_14 (pc' := 17) rfl (tgt := 30) (by decide) h (fun h => ?_) (fun h => ?_)
  · exact pj_cut (pj_le_n pj_le_e) (pt_Mo_rightPacket_30 C hE   h)
  · exact pj_cut (pj_le_s pj_le_e) (pt_Mo_rightPacket_17 C hE   h)
def pb_Mo_rightPacket_0  (K : Int32 → pj_M → Prop) (u : pj_M)  : Prop := (((u 217 16) < 3) → (pb_Mo_rightPacket_30  K u )) ∧ (¬ ((u 217 16) < 3) → (pb_Mo_rightPacket_8  K u ))
set_option maxHeartbeats 1000000 in
theorem pt_Mo_rightPacket_0 {g : pj_G} {b : Nat} (C : pj_X g c_Mo_rightPacket 1 R_Mo (some .boolean) rm_Mo_rightPacket) {K : Int32 → pj_M → Prop} (hE : pj_E g b (pj_Ki K))   {u : pj_M}    (h : pb_Mo_rightPacket_0  K u ) : pj_J g (pj_N g b u) 0 [some (.ref (b + 217))] [] := by
  unfold pb_Mo_rightPacket_0 at h
  refine pj_aload_n C d_Mo_rightPacket_0 (pc' := 1) (i := 0) (x := b + 217) rfl rfl rfl ?_
  refine fg_Model_233_Model C tk_217 d_Mo_rightPacket_1 (pc' := 4) rfl ?_
  refine pj_iconst C d_Mo_rightPacket_4 (pc' := 5) rfl (v := 3) (by decide) ?_
  refine pj_icmp_lt C d_Mo_rightPacket_5 (pc' := 8) rfl (tgt := 30) (by decide) h (fun h => ?_) (fun h => ?_)
  · exact pj_cut (pj_le_n pj_le_e) (pt_Mo_rightPacket_30 C hE   h)
  · exact pj_cut (pj_le_s pj_le_e) (pt_Mo_rightPacket_8 C hE   h)
def pw_Mo_rightPacket (u : pj_M)  (K : Int32 → pj_M → Prop) : Prop := pb_Mo_rightPacket_0  K u 
theorem pc_Mo_rightPacket (l : Launch) (D : va_G) (E : Nat → ClassId) {b : Nat} {u : pj_M}  {K : Int32 → pj_M → Prop}  (h : pw_Mo_rightPacket u  K) : pj_C l y_Mo_rightPacket c_Mo_rightPacket 1 (some .boolean) rm_Mo_rightPacket D E b [.ref (b + 217)] u (pj_Ki K) := by
  refine pj_met (own := R_Mo) (by decide +kernel) rfl (Nat.le_of_ble_eq_true rfl) (fun g hE C => ?_)
  unfold pw_Mo_rightPacket at h
  show pj_J g (pj_N g b u) 0 [some (.ref (b + 217))] []
  exact pj_cut (pj_le_s pj_le_e) (pt_Mo_rightPacket_0 C hE   h)
/-! Model.frame()I -/
theorem ck_Model_246_Model {g : pj_G} {b : Nat} {cc : ByteArray} {nL : Nat} {ret : Option FieldType} {rm : Room} {u : pj_M} {pc pc' : Nat} {vs : List (Option Value)} {st : List Value} (C : pj_X g cc nL R_Mo ret rm)  {K : Int32 → pj_M → Prop}  (h : pw_Mo_rightPacket u  K) (hdg : decode cc pc = .ok (.invokevirtual 246, 3)) (hp : pc + 3 = pc') (hR : rm_Mo_rightPacket.frames + 1 ≤ rm.frames ∧ 8 + (1 + 11) + rm_Mo_rightPacket.locals ≤ rm.locals) (h8 : (st.map fun v => v.category).sum ≤ 8) (kk : ∀ r u', K r u' → pj_J g (pj_N g b u') pc' vs (.int r :: st)) : pj_J g (pj_N g b u) pc vs (.ref (b + 217) :: st) :=
  pj_callV C (As := []) (fun l D E => pc_Mo_rightPacket l D E  h) rfl rfl cl_Model (pj_lt tk_217 (by decide)) (fun E => ko_11 tk_217) wm_1476 wm_1478 wm_64 wm_103 wm_1479 (by decide +kernel) (n := 0) rfl hR rfl h8 hdg hp (fun v u' hq => by obtain ⟨r, rfl, hk⟩ := hq; exact kk r u' hk)
def rm_Mo_frame : Room := { frames := 1, cells := 0, slots := 0, locals := 20 }
def pb_Mo_frame_109  (K : Int32 → pj_M → Prop) (u : pj_M) (s0 : Int32) : Prop := K s0 u
set_option maxHeartbeats 1000000 in
theorem pt_Mo_frame_109 {g : pj_G} {b : Nat} (C : pj_X g c_Mo_frame 2 R_Mo (some .int) rm_Mo_frame) {K : Int32 → pj_M → Prop} (hE : pj_E g b (pj_Ki K))   {u : pj_M} {s0 : Int32}   (h : pb_Mo_frame_109  K u s0) : pj_J g (pj_N g b u) 109 [none, none] [.int s0] := by
  unfold pb_Mo_frame_109 at h
  exact pj_iret C hE d_Mo_frame_109 ⟨_, rfl, h⟩
def pb_Mo_frame_108  (K : Int32 → pj_M → Prop) (u : pj_M)  : Prop := pb_Mo_frame_109  K u ((-1))
set_option maxHeartbeats 1000000 in
theorem pt_Mo_frame_108 {g : pj_G} {b : Nat} (C : pj_X g c_Mo_frame 2 R_Mo (some .int) rm_Mo_frame) {K : Int32 → pj_M → Prop} (hE : pj_E g b (pj_Ki K))   {u : pj_M}    (h : pb_Mo_frame_108  K u ) : pj_J g (pj_N g b u) 108 [none, none] [] := by
  unfold pb_Mo_frame_108 at h
  refine pj_iconst C d_Mo_frame_108 (pc' := 109) rfl (v := (-1)) (by decide) ?_
  exact pj_cut (pj_le_n (pj_le_n pj_le_e)) (pt_Mo_frame_109 C hE   h)
def pb_Mo_frame_104  (K : Int32 → pj_M → Prop) (u : pj_M)  : Prop := pb_Mo_frame_109  K u 0
set_option maxHeartbeats 1000000 in
theorem pt_Mo_frame_104 {g : pj_G} {b : Nat} (C : pj_X g c_Mo_frame 2 R_Mo (some .int) rm_Mo_frame) {K : Int32 → pj_M → Prop} (hE : pj_E g b (pj_Ki K))   {u : pj_M}    (h : pb_Mo_frame_104  K u ) : pj_J g (pj_N g b u) 104 [none, none] [] := by
  unfold pb_Mo_frame_104 at h
  refine pj_iconst C d_Mo_frame_104 (pc' := 105) rfl (v := 0) (by decide) ?_
  refine pj_goto C d_Mo_frame_105 (tgt := 109) (by decide) ?_
  exact pj_cut (pj_le_n (pj_le_n pj_le_e)) (pt_Mo_frame_109 C hE   h)
def pb_Mo_frame_97  (K : Int32 → pj_M → Prop) (u : pj_M)  : Prop := pw_Mo_rightPacket u  fun r2 u1 => (((r2 = 0) → (pb_Mo_frame_108  K u1 )) ∧ (¬ (r2 = 0) → (pb_Mo_frame_104  K u1 )))
set_option maxHeartbeats 1000000 in
theorem pt_Mo_frame_97 {g : pj_G} {b : Nat} (C : pj_X g c_Mo_frame 2 R_Mo (some .int) rm_Mo_frame) {K : Int32 → pj_M → Prop} (hE : pj_E g b (pj_Ki K))   {u : pj_M}    (h : pb_Mo_frame_97  K u ) : pj_J g (pj_N g b u) 97 [some (.ref (b + 217)), none] [] := by
  unfold pb_Mo_frame_97 at h
  refine pj_aload_n C d_Mo_frame_97 (pc' := 98) (i := 0) (x := b + 217) rfl rfl rfl ?_
  refine ck_Model_246_Model C  h d_Mo_frame_98 (pc' := 101) rfl ⟨Nat.le_of_ble_eq_true rfl, Nat.le_of_ble_eq_true rfl⟩ (Nat.le_of_ble_eq_true rfl) (fun r2 u1 h => ?_)
  refine pj_if_eq C d_Mo_frame_101 (pc' := 104) rfl (tgt := 108) (by decide) h (fun h => ?_) (fun h => ?_)
  · exact pj_cut (pj_le_n (pj_le_n pj_le_e)) (pt_Mo_frame_108 C hE   h)
  · exact pj_cut (pj_le_n (pj_le_n pj_le_e)) (pt_Mo_frame_104 C hE   h)
def pb_Mo_frame_88  (K : Int32 → pj_M → Prop) (u : pj_M)  : Prop := vp_in 0 48 ∧ ((((u 226 (0 : Int32).toNatClampNeg) = 0) → (pb_Mo_frame_97  K u )) ∧ (¬ ((u 226 (0 : Int32).toNatClampNeg) = 0) → (pb_Mo_frame_108  K u )))
set_option maxHeartbeats 1000000 in
theorem pt_Mo_frame_88 {g : pj_G} {b : Nat} (C : pj_X g c_Mo_frame 2 R_Mo (some .int) rm_Mo_frame) {K : Int32 → pj_M → Prop} (hE : pj_E g b (pj_Ki K))   {u : pj_M}    (h : pb_Mo_frame_88  K u ) : pj_J g (pj_N g b u) 88 [some (.ref (b + 217)), none] [] := by
  unfold pb_Mo_frame_88 at h
  refine pj_aload_n C d_Mo_frame_88 (pc' := 89) (i := 0) (x := b + 217) rfl rfl rfl ?_
  refine fg_Model_35_Model C tk_217 d_Mo_frame_89 (pc' := 92) rfl ?_
  refine pj_iconst C d_Mo_frame_92 (pc' := 93) rfl (v := 0) (by decide) ?_
  refine pj_iald C (pj_lt tk_226 (by decide)) (fun E u => ka_22 tk_226) d_Mo_frame_93 (pc' := 94) rfl h (fun h => ?_)
  refine pj_if_ne C d_Mo_frame_94 (pc' := 97) rfl (tgt := 108) (by decide) h (fun h => ?_) (fun h => ?_)
  · exact pj_cut (pj_le_n (pj_le_n pj_le_e)) (pt_Mo_frame_108 C hE   h)
  · exact pj_cut (pj_le_s (pj_le_n pj_le_e)) (pt_Mo_frame_97 C hE   h)
def pb_Mo_frame_81  (K : Int32 → pj_M → Prop) (u : pj_M)  : Prop := (((u 217 11) ≤ 0) → (pb_Mo_frame_108  K u )) ∧ (¬ ((u 217 11) ≤ 0) → (pb_Mo_frame_88  K u ))
set_option maxHeartbeats 1000000 in
theorem pt_Mo_frame_81 {g : pj_G} {b : Nat} (C : pj_X g c_Mo_frame 2 R_Mo (some .int) rm_Mo_frame) {K : Int32 → pj_M → Prop} (hE : pj_E g b (pj_Ki K))   {u : pj_M}    (h : pb_Mo_frame_81  K u ) : pj_J g (pj_N g b u) 81 [some (.ref (b + 217)), none] [] := by
  unfold pb_Mo_frame_81 at h
  refine pj_aload_n C d_Mo_frame_81 (pc' := 82) (i := 0) (x := b + 217) rfl rfl rfl ?_
  refine fg_Model_221_Model C tk_217 d_Mo_frame_82 (pc' := 85) rfl ?_
  refine pj_if_le C d_Mo_frame_85 (pc' := 88) rfl (tgt := 108) (by decide) h (fun h => ?_) (fun h => ?_)
  · exact pj_cut (pj_le_n (pj_le_n pj_le_e)) (pt_Mo_frame_108 C hE   h)
  · exact pj_cut (pj_le_s (pj_le_n pj_le_e)) (pt_Mo_frame_88 C hE   h)
def pb_Mo_frame_50 (R42 : pj_M → Int32 → Prop) (K : Int32 → pj_M → Prop) (u : pj_M) (x1 : Int32) : Prop := vp_in x1 48 ∧ (vp_in (u 217 16) 48 ∧ pj_put u 227 (u 217 16).toNatClampNeg (u 226 x1.toNatClampNeg) fun u1 => (pj_put u1 217 16 ((u1 217 16) + 1) fun u2 => (R42 u2 (x1 + 1))))
set_option maxHeartbeats 1000000 in
theorem pt_Mo_frame_50 {g : pj_G} {b : Nat} (C : pj_X g c_Mo_frame 2 R_Mo (some .int) rm_Mo_frame) {K : Int32 → pj_M → Prop} (hE : pj_E g b (pj_Ki K)) {R42 : pj_M → Int32 → Prop}  {u : pj_M} {x1 : Int32} (hR42 : ∀ (u : pj_M) (x1 : Int32), R42 u x1 → pj_J g (pj_N g b u) 42 [some (.ref (b + 217)), some (.int x1)] [])  (h : pb_Mo_frame_50 R42 K u x1) : pj_J g (pj_N g b u) 50 [some (.ref (b + 217)), some (.int x1)] [] := by
  unfold pb_Mo_frame_50 at h
  refine pj_aload_n C d_Mo_frame_50 (pc' := 51) (i := 0) (x := b + 217) rfl rfl rfl ?_
  refine fg_Model_38_Model C tk_217 d_Mo_frame_51 (pc' := 54) rfl ?_
  refine pj_aload_n C d_Mo_frame_54 (pc' := 55) (i := 0) (x := b + 217) rfl rfl rfl ?_
  refine fg_Model_233_Model C tk_217 d_Mo_frame_55 (pc' := 58) rfl ?_
  refine pj_aload_n C d_Mo_frame_58 (pc' := 59) (i := 0) (x := b + 217) rfl rfl rfl ?_
  refine fg_Model_35_Model C tk_217 d_Mo_frame_59 (pc' := 62) rfl ?_
  refine pj_iload_n C d_Mo_frame_62 (pc' := 63) (i := 1) (x := x1) rfl rfl rfl ?_
  refine pj_iald C (pj_lt tk_226 (by decide)) (fun E u => ka_22 tk_226) d_Mo_frame_63 (pc' := 64) rfl h (fun h => ?_)
  refine pj_iast C (pj_lt tk_227 (by decide)) (fun E u => ka_22 tk_227) d_Mo_frame_64 (pc' := 65) rfl h (fun u1 h => ?_)
  refine pj_aload_n C d_Mo_frame_65 (pc' := 66) (i := 0) (x := b + 217) rfl rfl rfl ?_
  refine pj_dup C d_Mo_frame_66 (pc' := 67) rfl rfl ?_
  refine fg_Model_233_Model C tk_217 d_Mo_frame_67 (pc' := 70) rfl ?_
  refine pj_iconst C d_Mo_frame_70 (pc' := 71) rfl (v := 1) (by decide) ?_
  refine pj_iadd C d_Mo_frame_71 (pc' := 72) rfl ?_
  refine fp_Model_233_Model C tk_217  d_Mo_frame_72 (pc' := 75) rfl h (fun u2 h => ?_)
  refine pj_iinc C d_Mo_frame_75 (pc' := 78) (x := x1) (d := 1) (vs' := [some (.ref (b + 217)), some (.int (x1 + 1))]) rfl rfl (Nat.le_of_ble_eq_true rfl) rfl (by decide) rfl ?_
  refine pj_goto C d_Mo_frame_78 (tgt := 42) (by decide) ?_
  exact pj_cut (pj_le_s (pj_le_s pj_le_e)) (hR42 _ _ h)
def pb_Mo_frame_42b (R42 : pj_M → Int32 → Prop) (K : Int32 → pj_M → Prop) (u : pj_M) (x1 : Int32) : Prop := (((u 217 11) ≤ x1) → (pb_Mo_frame_81  K u )) ∧ (¬ ((u 217 11) ≤ x1) → (pb_Mo_frame_50 R42 K u x1))
set_option maxHeartbeats 1000000 in
theorem pt_Mo_frame_42b {g : pj_G} {b : Nat} (C : pj_X g c_Mo_frame 2 R_Mo (some .int) rm_Mo_frame) {K : Int32 → pj_M → Prop} (hE : pj_E g b (pj_Ki K)) {R42 : pj_M → Int32 → Prop}  {u : pj_M} {x1 : Int32} (hR42 : ∀ (u : pj_M) (x1 : Int32), R42 u x1 → pj_J g (pj_N g b u) 42 [some (.ref (b + 217)), some (.int x1)] [])  (h : pb_Mo_frame_42b R42 K u x1) : pj_J g (pj_N g b u) 42 [some (.ref (b + 217)), some (.int x1)] [] := by
  unfold pb_Mo_frame_42b at h
  refine pj_iload_n C d_Mo_frame_42 (pc' := 43) (i := 1) (x := x1) rfl rfl rfl ?_
  refine pj_aload_n C d_Mo_frame_43 (pc' := 44) (i := 0) (x := b + 217) rfl rfl rfl ?_
  refine fg_Model_221_Model C tk_217 d_Mo_frame_44 (pc' := 47) rfl ?_
  refine pj_icmp_ge C d_Mo_frame_47 (pc' := 50) rfl (tgt := 81) (by decide) h (fun h => ?_) (fun h => ?_)
  · exact pj_cut (pj_le_s (pj_le_n pj_le_e)) (pt_Mo_frame_81 C hE   h)
  · exact pj_cut (pj_le_s (pj_le_s pj_le_e)) (pt_Mo_frame_50 C hE hR42  h)
def pb_Mo_frame_42  (K : Int32 → pj_M → Prop)  : Nat → pj_M → Int32 → Prop
  | 0 => fun _ _ => False
  | n + 1 => fun u x1 => pb_Mo_frame_42b (pb_Mo_frame_42  K  n) K u x1
theorem pt_Mo_frame_42 {g : pj_G} {b : Nat} (C : pj_X g c_Mo_frame 2 R_Mo (some .int) rm_Mo_frame) {K : Int32 → pj_M → Prop} (hE : pj_E g b (pj_Ki K))     : ∀ (n : Nat) (u : pj_M) (x1 : Int32), pb_Mo_frame_42  K  n u x1 → pj_J g (pj_N g b u) 42 [some (.ref (b + 217)), some (.int x1)] [] := by
  intro n
  induction n with
  | zero => intro u x1 h; exact False.elim h
  | succ n ih =>
    intro u x1 h
    exact (pt_Mo_frame_42b C hE ih  h)
def pb_Mo_frame_35  (K : Int32 → pj_M → Prop) (u : pj_M)  : Prop := pj_put u 217 16 0 fun u1 => (∃ n, pb_Mo_frame_42  K  n u1 1)
set_option maxHeartbeats 1000000 in
theorem pt_Mo_frame_35 {g : pj_G} {b : Nat} (C : pj_X g c_Mo_frame 2 R_Mo (some .int) rm_Mo_frame) {K : Int32 → pj_M → Prop} (hE : pj_E g b (pj_Ki K))   {u : pj_M}    (h : pb_Mo_frame_35  K u ) : pj_J g (pj_N g b u) 35 [some (.ref (b + 217)), none] [] := by
  unfold pb_Mo_frame_35 at h
  refine pj_aload_n C d_Mo_frame_35 (pc' := 36) (i := 0) (x := b + 217) rfl rfl rfl ?_
  refine pj_iconst C d_Mo_frame_36 (pc' := 37) rfl (v := 0) (by decide) ?_
  refine fp_Model_233_Model C tk_217  d_Mo_frame_37 (pc' := 40) rfl h (fun u1 h => ?_)
  refine pj_iconst C d_Mo_frame_40 (pc' := 41) rfl (v := 1) (by decide) ?_
  refine pj_istore_n C d_Mo_frame_41 (pc' := 42) (i := 1) (vs' := [some (.ref (b + 217)), some (.int 1)]) rfl rfl (Nat.le_of_ble_eq_true rfl) (Nat.le_of_ble_eq_true rfl) rfl rfl ?_
  obtain ⟨n, h⟩ := h
  exact pj_cut (pj_le_s (pj_le_s pj_le_e)) (pt_Mo_frame_42 C hE   n _ _ h)
def pb_Mo_frame_28  (K : Int32 → pj_M → Prop) (u : pj_M)  : Prop := vp_in 0 48 ∧ (K (u 226 (0 : Int32).toNatClampNeg) u)
set_option maxHeartbeats 1000000 in
theorem pt_Mo_frame_28 {g : pj_G} {b : Nat} (C : pj_X g c_Mo_frame 2 R_Mo (some .int) rm_Mo_frame) {K : Int32 → pj_M → Prop} (hE : pj_E g b (pj_Ki K))   {u : pj_M}    (h : pb_Mo_frame_28  K u ) : pj_J g (pj_N g b u) 28 [some (.ref (b + 217)), none] [] := by
  unfold pb_Mo_frame_28 at h
  refine pj_aload_n C d_Mo_frame_28 (pc' := 29) (i := 0) (x := b + 217) rfl rfl rfl ?_
  refine fg_Model_35_Model C tk_217 d_Mo_frame_29 (pc' := 32) rfl ?_
  refine pj_iconst C d_Mo_frame_32 (pc' := 33) rfl (v := 0) (by decide) ?_
  refine pj_iald C (pj_lt tk_226 (by decide)) (fun E u => ka_22 tk_226) d_Mo_frame_33 (pc' := 34) rfl h (fun h => ?_)
  exact pj_iret C hE d_Mo_frame_34 ⟨_, rfl, h⟩
def pb_Mo_frame_18  (K : Int32 → pj_M → Prop) (u : pj_M)  : Prop := vp_in 0 48 ∧ ((((u 226 (0 : Int32).toNatClampNeg) = 2) → (pb_Mo_frame_28  K u )) ∧ (¬ ((u 226 (0 : Int32).toNatClampNeg) = 2) → (pb_Mo_frame_35  K u )))
set_option maxHeartbeats 1000000 in
theorem pt_Mo_frame_18 {g : pj_G} {b : Nat} (C : pj_X g c_Mo_frame 2 R_Mo (some .int) rm_Mo_frame) {K : Int32 → pj_M → Prop} (hE : pj_E g b (pj_Ki K))   {u : pj_M}    (h : pb_Mo_frame_18  K u ) : pj_J g (pj_N g b u) 18 [some (.ref (b + 217)), none] [] := by
  unfold pb_Mo_frame_18 at h
  refine pj_aload_n C d_Mo_frame_18 (pc' := 19) (i := 0) (x := b + 217) rfl rfl rfl ?_
  refine fg_Model_35_Model C tk_217 d_Mo_frame_19 (pc' := 22) rfl ?_
  refine pj_iconst C d_Mo_frame_22 (pc' := 23) rfl (v := 0) (by decide) ?_
  refine pj_iald C (pj_lt tk_226 (by decide)) (fun E u => ka_22 tk_226) d_Mo_frame_23 (pc' := 24) rfl h (fun h => ?_)
  refine pj_iconst C d_Mo_frame_24 (pc' := 25) rfl (v := 2) (by decide) ?_
  refine pj_icmp_ne C d_Mo_frame_25 (pc' := 28) rfl (tgt := 35) (by decide) h (fun h => ?_) (fun h => ?_)
  · exact pj_cut (pj_le_s (pj_le_n pj_le_e)) (pt_Mo_frame_35 C hE   h)
  · exact pj_cut (pj_le_s (pj_le_n pj_le_e)) (pt_Mo_frame_28 C hE   h)
def pb_Mo_frame_8  (K : Int32 → pj_M → Prop) (u : pj_M)  : Prop := vp_in 0 48 ∧ ((((u 226 (0 : Int32).toNatClampNeg) = 1) → (pb_Mo_frame_28  K u )) ∧ (¬ ((u 226 (0 : Int32).toNatClampNeg) = 1) → (pb_Mo_frame_18  K u )))
set_option maxHeartbeats 1000000 in
theorem pt_Mo_frame_8 {g : pj_G} {b : Nat} (C : pj_X g c_Mo_frame 2 R_Mo (some .int) rm_Mo_frame) {K : Int32 → pj_M → Prop} (hE : pj_E g b (pj_Ki K))   {u : pj_M}    (h : pb_Mo_frame_8  K u ) : pj_J g (pj_N g b u) 8 [some (.ref (b + 217)), none] [] := by
  unfold pb_Mo_frame_8 at h
  refine pj_aload_n C d_Mo_frame_8 (pc' := 9) (i := 0) (x := b + 217) rfl rfl rfl ?_
  refine fg_Model_35_Model C tk_217 d_Mo_frame_9 (pc' := 12) rfl ?_
  refine pj_iconst C d_Mo_frame_12 (pc' := 13) rfl (v := 0) (by decide) ?_
  refine pj_iald C (pj_lt tk_226 (by decide)) (fun E u => ka_22 tk_226) d_Mo_frame_13 (pc' := 14) rfl h (fun h => ?_)
  refine pj_iconst C d_Mo_frame_14 (pc' := 15) rfl (v := 1) (by decide) ?_
  refine pj_icmp_eq C d_Mo_frame_15 (pc' := 18) rfl (tgt := 28) (by decide) h (fun h => ?_) (fun h => ?_)
  · exact pj_cut (pj_le_s (pj_le_n pj_le_e)) (pt_Mo_frame_28 C hE   h)
  · exact pj_cut (pj_le_s (pj_le_n pj_le_e)) (pt_Mo_frame_18 C hE   h)
def pb_Mo_frame_0  (K : Int32 → pj_M → Prop) (u : pj_M)  : Prop := (((u 217 11) = 1) → (pb_Mo_frame_8  K u )) ∧ (¬ ((u 217 11) = 1) → (pb_Mo_frame_35  K u ))
set_option maxHeartbeats 1000000 in
theorem pt_Mo_frame_0 {g : pj_G} {b : Nat} (C : pj_X g c_Mo_frame 2 R_Mo (some .int) rm_Mo_frame) {K : Int32 → pj_M → Prop} (hE : pj_E g b (pj_Ki K))   {u : pj_M}    (h : pb_Mo_frame_0  K u ) : pj_J g (pj_N g b u) 0 [some (.ref (b + 217)), none] [] := by
  unfold pb_Mo_frame_0 at h
  refine pj_aload_n C d_Mo_frame_0 (pc' := 1) (i := 0) (x := b + 217) rfl rfl rfl ?_
  refine fg_Model_221_Model C tk_217 d_Mo_frame_1 (pc' := 4) rfl ?_
  refine pj_iconst C d_Mo_frame_4 (pc' := 5) rfl (v := 1) (by decide) ?_
  refine pj_icmp_ne C d_Mo_frame_5 (pc' := 8) rfl (tgt := 35) (by decide) h (fun h => ?_) (fun h => ?_)
  · exact pj_cut (pj_le_s (pj_le_n pj_le_e)) (pt_Mo_frame_35 C hE   h)
  · exact pj_cut (pj_le_s (pj_le_n pj_le_e)) (pt_Mo_frame_8 C hE   h)
def pw_Mo_frame (u : pj_M)  (K : Int32 → pj_M → Prop) : Prop := pb_Mo_frame_0  K u 
theorem pc_Mo_frame (l : Launch) (D : va_G) (E : Nat → ClassId) {b : Nat} {u : pj_M}  {K : Int32 → pj_M → Prop}  (h : pw_Mo_frame u  K) : pj_C l y_Mo_frame c_Mo_frame 2 (some .int) rm_Mo_frame D E b [.ref (b + 217)] u (pj_Ki K) := by
  refine pj_met (own := R_Mo) (by decide +kernel) rfl (Nat.le_of_ble_eq_true rfl) (fun g hE C => ?_)
  unfold pw_Mo_frame at h
  show pj_J g (pj_N g b u) 0 [some (.ref (b + 217)), none] []
  exact pj_cut (pj_le_s (pj_le_n pj_le_e)) (pt_Mo_frame_0 C hE   h)
/-! Model.attribute(II)Z -/
theorem fg_Model_250_Model {g : pj_G} {b : Nat} {cc : ByteArray} {nL : Nat} {ret : Option FieldType} {rm : Room} {u : pj_M} {pc pc' : Nat} {vs : List (Option Value)} {st : List Value} (C : pj_X g cc nL R_Mo ret rm) {i : Nat} (t : pj_T i = 11) (hdg : decode cc pc = .ok (.getfield 250, 3)) (hp : pc + 3 = pc') (kk : pj_J g (pj_N g b u) pc' vs (.int (u i 13) :: st)) : pj_J g (pj_N g b u) pc vs (.ref (b + i) :: st) :=
  pj_get C cl_Model hin_Model (k := 13) (Nat.le_of_ble_eq_true rfl) wm_1137 (Or.inl rfl) (pj_lt t (by decide)) (fun E => ko_11 t) rfl hdg hp kk
theorem fp_Model_250_Model {g : pj_G} {b : Nat} {cc : ByteArray} {nL : Nat} {ret : Option FieldType} {rm : Room} {u : pj_M} {pc pc' : Nat} {vs : List (Option Value)} {st : List Value} (C : pj_X g cc nL R_Mo ret rm) {i : Nat} {x : Int32} {P : pj_M → Prop} (t : pj_T i = 11)  (hdg : decode cc pc = .ok (.putfield 250, 3)) (hp : pc + 3 = pc') (h : pj_put u i 13 x P) (kk : ∀ u', P u' → pj_J g (pj_N g b u') pc' vs st) : pj_J g (pj_N g b u) pc vs (.int x :: .ref (b + i) :: st) :=
  pj_putI C cl_Model hin_Model ty_Model tyok_Model nm_Model (k := 13) (Nat.le_of_ble_eq_true rfl) wm_1137 (Or.inl rfl) rfl (ty := .int) (by decide +kernel) rfl rfl (pj_lt t (by decide)) (fun E u => ko_11 t) (F := fun f => [.int (f 0), .ref (b + 218), .ref (b + 219), .ref (b + 220), .int (f 4), .ref (b + 221), .ref (b + 222), .ref (b + 223), .ref (b + 224), .int (f 9), .ref (b + 225), .int (f 11), .ref (b + 226), .int (f 13), .int (f 14), .int (f 15), .int (f 16), .ref (b + 227), .int (f 18), .ref (b + 228), .ref (b + 229), .ref (b + 230), .ref (b + 231), .ref (b + 232), .ref (b + 233), .ref (b + 234), .ref (b + 235), .ref (b + 236), .ref (b + 237), .ref (b + 238), .ref (b + 239), .ref (b + 240), .ref (b + 241), .ref (b + 242), .ref (b + 243), .ref (b + 244), .ref (b + 245), .ref (b + 246), .ref (b + 247), .ref (b + 248), .ref (b + 249), .ref (b + 250), .ref (b + 251), .ref (b + 252), .ref (b + 253), .ref (b + 254), .ref (b + 255), .ref (b + 256), .ref (b + 257), .ref (b + 258), .ref (b + 259), .ref (b + 260), .ref (b + 261), .ref (b + 262), .ref (b + 263), .ref (b + 264), .ref (b + 265), .ref (b + 266), .ref (b + 267), .ref (b + 268), .ref (b + 269), .ref (b + 270), .ref (b + 271), .ref (b + 272), .ref (b + 273), .ref (b + 274), .ref (b + 275), .ref (b + 276), .int (f 68), .int (f 69), .ref (b + 277), .ref (b + 278)]) (fun _ => Nat.le_of_ble_eq_true rfl) (fun _ _ => rfl) hdg hp h kk
theorem fg_Model_253_Model {g : pj_G} {b : Nat} {cc : ByteArray} {nL : Nat} {ret : Option FieldType} {rm : Room} {u : pj_M} {pc pc' : Nat} {vs : List (Option Value)} {st : List Value} (C : pj_X g cc nL R_Mo ret rm) {i : Nat} (t : pj_T i = 11) (hdg : decode cc pc = .ok (.getfield 253, 3)) (hp : pc + 3 = pc') (kk : pj_J g (pj_N g b u) pc' vs (.int (u i 14) :: st)) : pj_J g (pj_N g b u) pc vs (.ref (b + i) :: st) :=
  pj_get C cl_Model hin_Model (k := 14) (Nat.le_of_ble_eq_true rfl) wm_1138 (Or.inl rfl) (pj_lt t (by decide)) (fun E => ko_11 t) rfl hdg hp kk
theorem fp_Model_253_Model {g : pj_G} {b : Nat} {cc : ByteArray} {nL : Nat} {ret : Option FieldType} {rm : Room} {u : pj_M} {pc pc' : Nat} {vs : List (Option Value)} {st : List Value} (C : pj_X g cc nL R_Mo ret rm) {i : Nat} {x : Int32} {P : pj_M → Prop} (t : pj_T i = 11)  (hdg : decode cc pc = .ok (.putfield 253, 3)) (hp : pc + 3 = pc') (h : pj_put u i 14 x P) (kk : ∀ u', P u' → pj_J g (pj_N g b u') pc' vs st) : pj_J g (pj_N g b u) pc vs (.int x :: .ref (b + i) :: st) :=
  pj_putI C cl_Model hin_Model ty_Model tyok_Model nm_Model (k := 14) (Nat.le_of_ble_eq_true rfl) wm_1138 (Or.inl rfl) rfl (ty := .int) (by decide +kernel) rfl rfl (pj_lt t (by decide)) (fun E u => ko_11 t) (F := fun f => [.int (f 0), .ref (b + 218), .ref (b + 219), .ref (b + 220), .int (f 4), .ref (b + 221), .ref (b + 222), .ref (b + 223), .ref (b + 224), .int (f 9), .ref (b + 225), .int (f 11), .ref (b + 226), .int (f 13), .int (f 14), .int (f 15), .int (f 16), .ref (b + 227), .int (f 18), .ref (b + 228), .ref (b + 229), .ref (b + 230), .ref (b + 231), .ref (b + 232), .ref (b + 233), .ref (b + 234), .ref (b + 235), .ref (b + 236), .ref (b + 237), .ref (b + 238), .ref (b + 239), .ref (b + 240), .ref (b + 241), .ref (b + 242), .ref (b + 243), .ref (b + 244), .ref (b + 245), .ref (b + 246), .ref (b + 247), .ref (b + 248), .ref (b + 249), .ref (b + 250), .ref (b + 251), .ref (b + 252), .ref (b + 253), .ref (b + 254), .ref (b + 255), .ref (b + 256), .ref (b + 257), .ref (b + 258), .ref (b + 259), .ref (b + 260), .ref (b + 261), .ref (b + 262), .ref (b + 263), .ref (b + 264), .ref (b + 265), .ref (b + 266), .ref (b + 267), .ref (b + 268), .ref (b + 269), .ref (b + 270), .ref (b + 271), .ref (b + 272), .ref (b + 273), .ref (b + 274), .ref (b + 275), .ref (b + 276), .int (f 68), .int (f 69), .ref (b + 277), .ref (b + 278)]) (fun _ => Nat.le_of_ble_eq_true rfl) (fun _ _ => rfl) hdg hp h kk
theorem fp_Model_224_Model {g : pj_G} {b : Nat} {cc : ByteArray} {nL : Nat} {ret : Option FieldType} {rm : Room} {u : pj_M} {pc pc' : Nat} {vs : List (Option Value)} {st : List Value} (C : pj_X g cc nL R_Mo ret rm) {i : Nat} {x : Int32} {P : pj_M → Prop} (t : pj_T i = 11)  (hdg : decode cc pc = .ok (.putfield 224, 3)) (hp : pc + 3 = pc') (h : pj_put u i 15 x P) (kk : ∀ u', P u' → pj_J g (pj_N g b u') pc' vs st) : pj_J g (pj_N g b u) pc vs (.int x :: .ref (b + i) :: st) :=
  pj_putI C cl_Model hin_Model ty_Model tyok_Model nm_Model (k := 15) (Nat.le_of_ble_eq_true rfl) wm_1139 (Or.inl rfl) rfl (ty := .int) (by decide +kernel) rfl rfl (pj_lt t (by decide)) (fun E u => ko_11 t) (F := fun f => [.int (f 0), .ref (b + 218), .ref (b + 219), .ref (b + 220), .int (f 4), .ref (b + 221), .ref (b + 222), .ref (b + 223), .ref (b + 224), .int (f 9), .ref (b + 225), .int (f 11), .ref (b + 226), .int (f 13), .int (f 14), .int (f 15), .int (f 16), .ref (b + 227), .int (f 18), .ref (b + 228), .ref (b + 229), .ref (b + 230), .ref (b + 231), .ref (b + 232), .ref (b + 233), .ref (b + 234), .ref (b + 235), .ref (b + 236), .ref (b + 237), .ref (b + 238), .ref (b + 239), .ref (b + 240), .ref (b + 241), .ref (b + 242), .ref (b + 243), .ref (b + 244), .ref (b + 245), .ref (b + 246), .ref (b + 247), .ref (b + 248), .ref (b + 249), .ref (b + 250), .ref (b + 251), .ref (b + 252), .ref (b + 253), .ref (b + 254), .ref (b + 255), .ref (b + 256), .ref (b + 257), .ref (b + 258), .ref (b + 259), .ref (b + 260), .ref (b + 261), .ref (b + 262), .ref (b + 263), .ref (b + 264), .ref (b + 265), .ref (b + 266), .ref (b + 267), .ref (b + 268), .ref (b + 269), .ref (b + 270), .ref (b + 271), .ref (b + 272), .ref (b + 273), .ref (b + 274), .ref (b + 275), .ref (b + 276), .int (f 68), .int (f 69), .ref (b + 277), .ref (b + 278)]) (fun _ => Nat.le_of_ble_eq_true rfl) (fun _ _ => rfl) hdg hp h kk
def rm_Mo_attribute : Room := { frames := 0, cells := 0, slots := 0, locals := 0 }
def pb_Mo_attribute_122  (K : Int32 → pj_M → Prop) (u : pj_M)  : Prop := K 0 u
set_option maxHeartbeats 1000000 in
theorem pt_Mo_attribute_122 {g : pj_G} {b : Nat} (C : pj_X g c_Mo_attribute 5 R_Mo (some .boolean) rm_Mo_attribute) {K : Int32 → pj_M → Prop} (hE : pj_E g b (pj_Ki K))   {u : pj_M}    (h : pb_Mo_attribute_122  K u ) : pj_J g (pj_N g b u) 122 [none, none, none, none, none] [] := by
  unfold pb_Mo_attribute_122 at h
  refine pj_iconst C d_Mo_attribute_122 (pc' := 123) rfl (v := 0) (by decide) ?_
  exact pj_zret C hE d_Mo_attribute_123 pj_bi0 ⟨_, rfl, h⟩
def pb_Mo_attribute_169  (K : Int32 → pj_M → Prop) (u : pj_M)  : Prop := K 1 u
set_option maxHeartbeats 1000000 in
theorem pt_Mo_attribute_169 {g : pj_G} {b : Nat} (C : pj_X g c_Mo_attribute 5 R_Mo (some .boolean) rm_Mo_attribute) {K : Int32 → pj_M → Prop} (hE : pj_E g b (pj_Ki K))   {u : pj_M}    (h : pb_Mo_attribute_169  K u ) : pj_J g (pj_N g b u) 169 [none, none, none, none, none] [] := by
  unfold pb_Mo_attribute_169 at h
  refine pj_iconst C d_Mo_attribute_169 (pc' := 170) rfl (v := 1) (by decide) ?_
  exact pj_zret C hE d_Mo_attribute_170 pj_bi1 ⟨_, rfl, h⟩
def pb_Mo_attribute_137 (R129 : pj_M → Int32 → Prop) (K : Int32 → pj_M → Prop) (u : pj_M) (x1 : Int32) (x2 : Int32) (x4 : Int32) : Prop := vp_in x4 48 ∧ (vp_in (u 217 16) 48 ∧ pj_put u 227 (u 217 16).toNatClampNeg (u 226 x4.toNatClampNeg) fun u1 => (pj_put u1 217 16 ((u1 217 16) + 1) fun u2 => (R129 u2 (x4 + 1))))
set_option maxHeartbeats 1000000 in
theorem pt_Mo_attribute_137 {g : pj_G} {b : Nat} (C : pj_X g c_Mo_attribute 5 R_Mo (some .boolean) rm_Mo_attribute) {K : Int32 → pj_M → Prop} (hE : pj_E g b (pj_Ki K)) {R129 : pj_M → Int32 → Prop}  {u : pj_M} {x1 : Int32} {x2 : Int32} {x4 : Int32} (hR129 : ∀ (u : pj_M) (x4 : Int32), R129 u x4 → pj_J g (pj_N g b u) 129 [some (.ref (b + 217)), some (.int x1), some (.int x2), none, some (.int x4)] [])  (h : pb_Mo_attribute_137 R129 K u x1 x2 x4) : pj_J g (pj_N g b u) 137 [some (.ref (b + 217)), some (.int x1), some (.int x2), none, some (.int x4)] [] := by
  unfold pb_Mo_attribute_137 at h
  refine pj_aload_n C d_Mo_attribute_137 (pc' := 138) (i := 0) (x := b + 217) rfl rfl rfl ?_
  refine fg_Model_38_Model C tk_217 d_Mo_attribute_138 (pc' := 141) rfl ?_
  refine pj_aload_n C d_Mo_attribute_141 (pc' := 142) (i := 0) (x := b + 217) rfl rfl rfl ?_
  refine fg_Model_233_Model C tk_217 d_Mo_attribute_142 (pc' := 145) rfl ?_
  refine pj_aload_n C d_Mo_attribute_145 (pc' := 146) (i := 0) (x := b + 217) rfl rfl rfl ?_
  refine fg_Model_35_Model C tk_217 d_Mo_attribute_146 (pc' := 149) rfl ?_
  refine pj_iload C d_Mo_attribute_149 (pc' := 151) (i := 4) (x := x4) rfl rfl ?_
  refine pj_iald C (pj_lt tk_226 (by decide)) (fun E u => ka_22 tk_226) d_Mo_attribute_151 (pc' := 152) rfl h (fun h => ?_)
  refine pj_iast C (pj_lt tk_227 (by decide)) (fun E u => ka_22 tk_227) d_Mo_attribute_152 (pc' := 153) rfl h (fun u1 h => ?_)
  refine pj_aload_n C d_Mo_attribute_153 (pc' := 154) (i := 0) (x := b + 217) rfl rfl rfl ?_
  refine pj_dup C d_Mo_attribute_154 (pc' := 155) rfl rfl ?_
  refine fg_Model_233_Model C tk_217 d_Mo_attribute_155 (pc' := 158) rfl ?_
  refine pj_iconst C d_Mo_attribute_158 (pc' := 159) rfl (v := 1) (by decide) ?_
  refine pj_iadd C d_Mo_attribute_159 (pc' := 160) rfl ?_
  refine fp_Model_233_Model C tk_217  d_Mo_attribute_160 (pc' := 163) rfl h (fun u2 h => ?_)
  refine pj_iinc C d_Mo_attribute_163 (pc' := 166) (x := x4) (d := 1) (vs' := [some (.ref (b + 217)), some (.int x1), some (.int x2), none, some (.int (x4 + 1))]) rfl rfl (Nat.le_of_ble_eq_true rfl) rfl (by decide) rfl ?_
  refine pj_goto C d_Mo_attribute_166 (tgt := 129) (by decide) ?_
  exact pj_cut (pj_le_s (pj_le_s (pj_le_s (pj_le_n (pj_le_s pj_le_e))))) (hR129 _ _ h)
def pb_Mo_attribute_129b (R129 : pj_M → Int32 → Prop) (K : Int32 → pj_M → Prop) (u : pj_M) (x1 : Int32) (x2 : Int32) (x4 : Int32) : Prop := (((x1 + x2) ≤ x4) → (pb_Mo_attribute_169  K u )) ∧ (¬ ((x1 + x2) ≤ x4) → (pb_Mo_attribute_137 R129 K u x1 x2 x4))
set_option maxHeartbeats 1000000 in
theorem pt_Mo_attribute_129b {g : pj_G} {b : Nat} (C : pj_X g c_Mo_attribute 5 R_Mo (some .boolean) rm_Mo_attribute) {K : Int32 → pj_M → Prop} (hE : pj_E g b (pj_Ki K)) {R129 : pj_M → Int32 → Prop}  {u : pj_M} {x1 : Int32} {x2 : Int32} {x4 : Int32} (hR129 : ∀ (u : pj_M) (x4 : Int32), R129 u x4 → pj_J g (pj_N g b u) 129 [some (.ref (b + 217)), some (.int x1), some (.int x2), none, some (.int x4)] [])  (h : pb_Mo_attribute_129b R129 K u x1 x2 x4) : pj_J g (pj_N g b u) 129 [some (.ref (b + 217)), some (.int x1), some (.int x2), none, some (.int x4)] [] := by
  unfold pb_Mo_attribute_129b at h
  refine pj_iload C d_Mo_attribute_129 (pc' := 131) (i := 4) (x := x4) rfl rfl ?_
  refine pj_iload_n C d_Mo_attribute_131 (pc' := 132) (i := 1) (x := x1) rfl rfl rfl ?_
  refine pj_iload_n C d_Mo_attribute_132 (pc' := 133) (i := 2) (x := x2) rfl rfl rfl ?_
  refine pj_iadd C d_Mo_attribute_133 (pc' := 134) rfl ?_
  refine pj_icmp_ge C d_Mo_attribute_134 (pc' := 137) rfl (tgt := 169) (by decide) h (fun h => ?_) (fun h => ?_)
  · exact pj_cut (pj_le_n (pj_le_n (pj_le_n (pj_le_n (pj_le_n pj_le_e))))) (pt_Mo_attribute_169 C hE   h)
  · exact pj_cut (pj_le_s (pj_le_s (pj_le_s (pj_le_n (pj_le_s pj_le_e))))) (pt_Mo_attribute_137 C hE hR129  h)
def pb_Mo_attribute_129  (K : Int32 → pj_M → Prop) (x1 : Int32) (x2 : Int32) : Nat → pj_M → Int32 → Prop
  | 0 => fun _ _ => False
  | n + 1 => fun u x4 => pb_Mo_attribute_129b (pb_Mo_attribute_129  K x1 x2 n) K u x1 x2 x4
theorem pt_Mo_attribute_129 {g : pj_G} {b : Nat} (C : pj_X g c_Mo_attribute 5 R_Mo (some .boolean) rm_Mo_attribute) {K : Int32 → pj_M → Prop} (hE : pj_E g b (pj_Ki K))  {x1 : Int32} {x2 : Int32}   : ∀ (n : Nat) (u : pj_M) (x4 : Int32), pb_Mo_attribute_129  K x1 x2 n u x4 → pj_J g (pj_N g b u) 129 [some (.ref (b + 217)), some (.int x1), some (.int x2), none, some (.int x4)] [] := by
  intro n
  induction n with
  | zero => intro u x4 h; exact False.elim h
  | succ n ih =>
    intro u x4 h
    exact (pt_Mo_attribute_129b C hE ih  h)
def pb_Mo_attribute_124  (K : Int32 → pj_M → Prop) (u : pj_M) (x1 : Int32) (x2 : Int32) : Prop := pj_let (x1 + 2) fun y1 => (∃ n, pb_Mo_attribute_129  K x1 x2 n u y1)
set_option maxHeartbeats 1000000 in
theorem pt_Mo_attribute_124 {g : pj_G} {b : Nat} (C : pj_X g c_Mo_attribute 5 R_Mo (some .boolean) rm_Mo_attribute) {K : Int32 → pj_M → Prop} (hE : pj_E g b (pj_Ki K))   {u : pj_M} {x1 : Int32} {x2 : Int32}   (h : pb_Mo_attribute_124  K u x1 x2) : pj_J g (pj_N g b u) 124 [some (.ref (b + 217)), some (.int x1), some (.int x2), none, none] [] := by
  unfold pb_Mo_attribute_124 at h
  refine pj_iload_n C d_Mo_attribute_124 (pc' := 125) (i := 1) (x := x1) rfl rfl rfl ?_
  refine pj_iconst C d_Mo_attribute_125 (pc' := 126) rfl (v := 2) (by decide) ?_
  refine pj_iadd C d_Mo_attribute_126 (pc' := 127) rfl ?_
  refine pj_name h (fun y1 h => ?_)
  refine pj_istore C d_Mo_attribute_127 (pc' := 129) (i := 4) (vs' := [some (.ref (b + 217)), some (.int x1), some (.int x2), none, some (.int y1)]) rfl (Nat.le_of_ble_eq_true rfl) (Nat.le_of_ble_eq_true rfl) rfl rfl ?_
  obtain ⟨n, h⟩ := h
  exact pj_cut (pj_le_s (pj_le_s (pj_le_s (pj_le_n (pj_le_s pj_le_e))))) (pt_Mo_attribute_129 C hE   n _ _ h)
def pb_Mo_attribute_116  (K : Int32 → pj_M → Prop) (u : pj_M) (x1 : Int32) (x2 : Int32) : Prop := ((x2 ≤ 10) → (pb_Mo_attribute_124  K u x1 x2)) ∧ (¬ (x2 ≤ 10) → (pb_Mo_attribute_122  K u ))
set_option maxHeartbeats 1000000 in
theorem pt_Mo_attribute_116 {g : pj_G} {b : Nat} (C : pj_X g c_Mo_attribute 5 R_Mo (some .boolean) rm_Mo_attribute) {K : Int32 → pj_M → Prop} (hE : pj_E g b (pj_Ki K))   {u : pj_M} {x1 : Int32} {x2 : Int32}   (h : pb_Mo_attribute_116  K u x1 x2) : pj_J g (pj_N g b u) 116 [some (.ref (b + 217)), some (.int x1), some (.int x2), none, none] [] := by
  unfold pb_Mo_attribute_116 at h
  refine pj_iload_n C d_Mo_attribute_116 (pc' := 117) (i := 2) (x := x2) rfl rfl rfl ?_
  refine pj_bipush C d_Mo_attribute_117 (pc' := 119) rfl (v := 10) (by decide) ?_
  refine pj_icmp_le C d_Mo_attribute_119 (pc' := 122) rfl (tgt := 124) (by decide) h (fun h => ?_) (fun h => ?_)
  · exact pj_cut (pj_le_s (pj_le_s (pj_le_s (pj_le_n (pj_le_n pj_le_e))))) (pt_Mo_attribute_124 C hE   h)
  · exact pj_cut (pj_le_n (pj_le_n (pj_le_n (pj_le_n (pj_le_n pj_le_e))))) (pt_Mo_attribute_122 C hE   h)
def pb_Mo_attribute_110  (K : Int32 → pj_M → Prop) (u : pj_M) (x1 : Int32) (x2 : Int32) (x3 : Int32) : Prop := ((x3 = 79) → (pb_Mo_attribute_116  K u x1 x2)) ∧ (¬ (x3 = 79) → (pb_Mo_attribute_122  K u ))
set_option maxHeartbeats 1000000 in
theorem pt_Mo_attribute_110 {g : pj_G} {b : Nat} (C : pj_X g c_Mo_attribute 5 R_Mo (some .boolean) rm_Mo_attribute) {K : Int32 → pj_M → Prop} (hE : pj_E g b (pj_Ki K))   {u : pj_M} {x1 : Int32} {x2 : Int32} {x3 : Int32}   (h : pb_Mo_attribute_110  K u x1 x2 x3) : pj_J g (pj_N g b u) 110 [some (.ref (b + 217)), some (.int x1), some (.int x2), some (.int x3), none] [] := by
  unfold pb_Mo_attribute_110 at h
  refine pj_iload_n C d_Mo_attribute_110 (pc' := 111) (i := 3) (x := x3) rfl rfl rfl ?_
  refine pj_bipush C d_Mo_attribute_111 (pc' := 113) rfl (v := 79) (by decide) ?_
  refine pj_icmp_ne C d_Mo_attribute_113 (pc' := 116) rfl (tgt := 122) (by decide) h (fun h => ?_) (fun h => ?_)
  · exact pj_cut (pj_le_n (pj_le_n (pj_le_n (pj_le_n (pj_le_n pj_le_e))))) (pt_Mo_attribute_122 C hE   h)
  · exact pj_cut (pj_le_s (pj_le_s (pj_le_s (pj_le_n (pj_le_n pj_le_e))))) (pt_Mo_attribute_116 C hE   h)
def pb_Mo_attribute_101  (K : Int32 → pj_M → Prop) (u : pj_M) (x1 : Int32) : Prop := pj_put u 217 15 (x1 + 2) fun u1 => (K 1 u1)
set_option maxHeartbeats 1000000 in
theorem pt_Mo_attribute_101 {g : pj_G} {b : Nat} (C : pj_X g c_Mo_attribute 5 R_Mo (some .boolean) rm_Mo_attribute) {K : Int32 → pj_M → Prop} (hE : pj_E g b (pj_Ki K))   {u : pj_M} {x1 : Int32}   (h : pb_Mo_attribute_101  K u x1) : pj_J g (pj_N g b u) 101 [some (.ref (b + 217)), some (.int x1), none, none, none] [] := by
  unfold pb_Mo_attribute_101 at h
  refine pj_aload_n C d_Mo_attribute_101 (pc' := 102) (i := 0) (x := b + 217) rfl rfl rfl ?_
  refine pj_iload_n C d_Mo_attribute_102 (pc' := 103) (i := 1) (x := x1) rfl rfl rfl ?_
  refine pj_iconst C d_Mo_attribute_103 (pc' := 104) rfl (v := 2) (by decide) ?_
  refine pj_iadd C d_Mo_attribute_104 (pc' := 105) rfl ?_
  refine fp_Model_224_Model C tk_217  d_Mo_attribute_105 (pc' := 108) rfl h (fun u1 h => ?_)
  refine pj_iconst C d_Mo_attribute_108 (pc' := 109) rfl (v := 1) (by decide) ?_
  exact pj_zret C hE d_Mo_attribute_109 pj_bi1 ⟨_, rfl, h⟩
def pb_Mo_attribute_94  (K : Int32 → pj_M → Prop) (u : pj_M) (x1 : Int32) (x2 : Int32) (x3 : Int32) : Prop := ((0 ≤ (u 217 15)) → (pb_Mo_attribute_110  K u x1 x2 x3)) ∧ (¬ (0 ≤ (u 217 15)) → (pb_Mo_attribute_101  K u x1))
set_option maxHeartbeats 1000000 in
theorem pt_Mo_attribute_94 {g : pj_G} {b : Nat} (C : pj_X g c_Mo_attribute 5 R_Mo (some .boolean) rm_Mo_attribute) {K : Int32 → pj_M → Prop} (hE : pj_E g b (pj_Ki K))   {u : pj_M} {x1 : Int32} {x2 : Int32} {x3 : Int32}   (h : pb_Mo_attribute_94  K u x1 x2 x3) : pj_J g (pj_N g b u) 94 [some (.ref (b + 217)), some (.int x1), some (.int x2), some (.int x3), none] [] := by
  unfold pb_Mo_attribute_94 at h
  refine pj_aload_n C d_Mo_attribute_94 (pc' := 95) (i := 0) (x := b + 217) rfl rfl rfl ?_
  refine fg_Model_224_Model C tk_217 d_Mo_attribute_95 (pc' := 98) rfl ?_
  refine pj_if_ge C d_Mo_attribute_98 (pc' := 101) rfl (tgt := 110) (by decide) h (fun h => ?_) (fun h => ?_)
  · exact pj_cut (pj_le_s (pj_le_s (pj_le_s (pj_le_s (pj_le_n pj_le_e))))) (pt_Mo_attribute_110 C hE   h)
  · exact pj_cut (pj_le_s (pj_le_s (pj_le_n (pj_le_n (pj_le_n pj_le_e))))) (pt_Mo_attribute_101 C hE   h)
def pb_Mo_attribute_88  (K : Int32 → pj_M → Prop) (u : pj_M) (x1 : Int32) (x2 : Int32) (x3 : Int32) : Prop := ((x2 = 6) → (pb_Mo_attribute_94  K u x1 x2 x3)) ∧ (¬ (x2 = 6) → (pb_Mo_attribute_110  K u x1 x2 x3))
set_option maxHeartbeats 1000000 in
theorem pt_Mo_attribute_88 {g : pj_G} {b : Nat} (C : pj_X g c_Mo_attribute 5 R_Mo (some .boolean) rm_Mo_attribute) {K : Int32 → pj_M → Prop} (hE : pj_E g b (pj_Ki K))   {u : pj_M} {x1 : Int32} {x2 : Int32} {x3 : Int32}   (h : pb_Mo_attribute_88  K u x1 x2 x3) : pj_J g (pj_N g b u) 88 [some (.ref (b + 217)), some (.int x1), some (.int x2), some (.int x3), none] [] := by
  unfold pb_Mo_attribute_88 at h
  refine pj_iload_n C d_Mo_attribute_88 (pc' := 89) (i := 2) (x := x2) rfl rfl rfl ?_
  refine pj_bipush C d_Mo_attribute_89 (pc' := 91) rfl (v := 6) (by decide) ?_
  refine pj_icmp_ne C d_Mo_attribute_91 (pc' := 94) rfl (tgt := 110) (by decide) h (fun h => ?_) (fun h => ?_)
  · exact pj_cut (pj_le_s (pj_le_s (pj_le_s (pj_le_s (pj_le_n pj_le_e))))) (pt_Mo_attribute_110 C hE   h)
  · exact pj_cut (pj_le_s (pj_le_s (pj_le_s (pj_le_s (pj_le_n pj_le_e))))) (pt_Mo_attribute_94 C hE   h)
def pb_Mo_attribute_82  (K : Int32 → pj_M → Prop) (u : pj_M) (x1 : Int32) (x2 : Int32) (x3 : Int32) : Prop := ((x3 = 80) → (pb_Mo_attribute_88  K u x1 x2 x3)) ∧ (¬ (x3 = 80) → (pb_Mo_attribute_110  K u x1 x2 x3))
set_option maxHeartbeats 1000000 in
theorem pt_Mo_attribute_82 {g : pj_G} {b : Nat} (C : pj_X g c_Mo_attribute 5 R_Mo (some .boolean) rm_Mo_attribute) {K : Int32 → pj_M → Prop} (hE : pj_E g b (pj_Ki K))   {u : pj_M} {x1 : Int32} {x2 : Int32} {x3 : Int32}   (h : pb_Mo_attribute_82  K u x1 x2 x3) : pj_J g (pj_N g b u) 82 [some (.ref (b + 217)), some (.int x1), some (.int x2), some (.int x3), none] [] := by
  unfold pb_Mo_attribute_82 at h
  refine pj_iload_n C d_Mo_attribute_82 (pc' := 83) (i := 3) (x := x3) rfl rfl rfl ?_
  refine pj_bipush C d_Mo_attribute_83 (pc' := 85) rfl (v := 80) (by decide) ?_
  refine pj_icmp_ne C d_Mo_attribute_85 (pc' := 88) rfl (tgt := 110) (by decide) h (fun h => ?_) (fun h => ?_)
  · exact pj_cut (pj_le_s (pj_le_s (pj_le_s (pj_le_s (pj_le_n pj_le_e))))) (pt_Mo_attribute_110 C hE   h)
  · exact pj_cut (pj_le_s (pj_le_s (pj_le_s (pj_le_s (pj_le_n pj_le_e))))) (pt_Mo_attribute_88 C hE   h)
def pb_Mo_attribute_56  (K : Int32 → pj_M → Prop) (u : pj_M) (x1 : Int32) : Prop := vp_in (x1 + 2) 48 ∧ (vp_in (x1 + 3) 48 ∧ (pj_put u 217 14 (((u 226 (x1 + 2).toNatClampNeg) <<< (8 &&& 31)) ||| (u 226 (x1 + 3).toNatClampNeg)) fun u1 => (K 1 u1)))
set_option maxHeartbeats 1000000 in
theorem pt_Mo_attribute_56 {g : pj_G} {b : Nat} (C : pj_X g c_Mo_attribute 5 R_Mo (some .boolean) rm_Mo_attribute) {K : Int32 → pj_M → Prop} (hE : pj_E g b (pj_Ki K))   {u : pj_M} {x1 : Int32}   (h : pb_Mo_attribute_56  K u x1) : pj_J g (pj_N g b u) 56 [some (.ref (b + 217)), some (.int x1), none, none, none] [] := by
  unfold pb_Mo_attribute_56 at h
  refine pj_aload_n C d_Mo_attribute_56 (pc' := 57) (i := 0) (x := b + 217) rfl rfl rfl ?_
  refine pj_aload_n C d_Mo_attribute_57 (pc' := 58) (i := 0) (x := b + 217) rfl rfl rfl ?_
  refine fg_Model_35_Model C tk_217 d_Mo_attribute_58 (pc' := 61) rfl ?_
  refine pj_iload_n C d_Mo_attribute_61 (pc' := 62) (i := 1) (x := x1) rfl rfl rfl ?_
  refine pj_iconst C d_Mo_attribute_62 (pc' := 63) rfl (v := 2) (by decide) ?_
  refine pj_iadd C d_Mo_attribute_63 (pc' := 64) rfl ?_
  refine pj_iald C (pj_lt tk_226 (by decide)) (fun E u => ka_22 tk_226) d_Mo_attribute_64 (pc' := 65) rfl h (fun h => ?_)
  refine pj_bipush C d_Mo_attribute_65 (pc' := 67) rfl (v := 8) (by decide) ?_
  refine pj_ishl C d_Mo_attribute_67 (pc' := 68) rfl ?_
  refine pj_aload_n C d_Mo_attribute_68 (pc' := 69) (i := 0) (x := b + 217) rfl rfl rfl ?_
  refine fg_Model_35_Model C tk_217 d_Mo_attribute_69 (pc' := 72) rfl ?_
  refine pj_iload_n C d_Mo_attribute_72 (pc' := 73) (i := 1) (x := x1) rfl rfl rfl ?_
  refine pj_iconst C d_Mo_attribute_73 (pc' := 74) rfl (v := 3) (by decide) ?_
  refine pj_iadd C d_Mo_attribute_74 (pc' := 75) rfl ?_
  refine pj_iald C (pj_lt tk_226 (by decide)) (fun E u => ka_22 tk_226) d_Mo_attribute_75 (pc' := 76) rfl h (fun h => ?_)
  refine pj_ior C d_Mo_attribute_76 (pc' := 77) rfl ?_
  refine fp_Model_253_Model C tk_217  d_Mo_attribute_77 (pc' := 80) rfl h (fun u1 h => ?_)
  refine pj_iconst C d_Mo_attribute_80 (pc' := 81) rfl (v := 1) (by decide) ?_
  exact pj_zret C hE d_Mo_attribute_81 pj_bi1 ⟨_, rfl, h⟩
def pb_Mo_attribute_49  (K : Int32 → pj_M → Prop) (u : pj_M) (x1 : Int32) (x2 : Int32) (x3 : Int32) : Prop := ((0 ≤ (u 217 14)) → (pb_Mo_attribute_82  K u x1 x2 x3)) ∧ (¬ (0 ≤ (u 217 14)) → (pb_Mo_attribute_56  K u x1))
set_option maxHeartbeats 1000000 in
theorem pt_Mo_attribute_49 {g : pj_G} {b : Nat} (C : pj_X g c_Mo_attribute 5 R_Mo (some .boolean) rm_Mo_attribute) {K : Int32 → pj_M → Prop} (hE : pj_E g b (pj_Ki K))   {u : pj_M} {x1 : Int32} {x2 : Int32} {x3 : Int32}   (h : pb_Mo_attribute_49  K u x1 x2 x3) : pj_J g (pj_N g b u) 49 [some (.ref (b + 217)), some (.int x1), some (.int x2), some (.int x3), none] [] := by
  unfold pb_Mo_attribute_49 at h
  refine pj_aload_n C d_Mo_attribute_49 (pc' := 50) (i := 0) (x := b + 217) rfl rfl rfl ?_
  refine fg_Model_253_Model C tk_217 d_Mo_attribute_50 (pc' := 53) rfl ?_
  refine pj_if_ge C d_Mo_attribute_53 (pc' := 56) rfl (tgt := 82) (by decide) h (fun h => ?_) (fun h => ?_)
  · exact pj_cut (pj_le_s (pj_le_s (pj_le_s (pj_le_s (pj_le_n pj_le_e))))) (pt_Mo_attribute_82 C hE   h)
  · exact pj_cut (pj_le_s (pj_le_s (pj_le_n (pj_le_n (pj_le_n pj_le_e))))) (pt_Mo_attribute_56 C hE   h)
def pb_Mo_attribute_44  (K : Int32 → pj_M → Prop) (u : pj_M) (x1 : Int32) (x2 : Int32) (x3 : Int32) : Prop := ((x2 = 4) → (pb_Mo_attribute_49  K u x1 x2 x3)) ∧ (¬ (x2 = 4) → (pb_Mo_attribute_82  K u x1 x2 x3))
set_option maxHeartbeats 1000000 in
theorem pt_Mo_attribute_44 {g : pj_G} {b : Nat} (C : pj_X g c_Mo_attribute 5 R_Mo (some .boolean) rm_Mo_attribute) {K : Int32 → pj_M → Prop} (hE : pj_E g b (pj_Ki K))   {u : pj_M} {x1 : Int32} {x2 : Int32} {x3 : Int32}   (h : pb_Mo_attribute_44  K u x1 x2 x3) : pj_J g (pj_N g b u) 44 [some (.ref (b + 217)), some (.int x1), some (.int x2), some (.int x3), none] [] := by
  unfold pb_Mo_attribute_44 at h
  refine pj_iload_n C d_Mo_attribute_44 (pc' := 45) (i := 2) (x := x2) rfl rfl rfl ?_
  refine pj_iconst C d_Mo_attribute_45 (pc' := 46) rfl (v := 4) (by decide) ?_
  refine pj_icmp_ne C d_Mo_attribute_46 (pc' := 49) rfl (tgt := 82) (by decide) h (fun h => ?_) (fun h => ?_)
  · exact pj_cut (pj_le_s (pj_le_s (pj_le_s (pj_le_s (pj_le_n pj_le_e))))) (pt_Mo_attribute_82 C hE   h)
  · exact pj_cut (pj_le_s (pj_le_s (pj_le_s (pj_le_s (pj_le_n pj_le_e))))) (pt_Mo_attribute_49 C hE   h)
def pb_Mo_attribute_38  (K : Int32 → pj_M → Prop) (u : pj_M) (x1 : Int32) (x2 : Int32) (x3 : Int32) : Prop := ((x3 = 24) → (pb_Mo_attribute_44  K u x1 x2 x3)) ∧ (¬ (x3 = 24) → (pb_Mo_attribute_82  K u x1 x2 x3))
set_option maxHeartbeats 1000000 in
theorem pt_Mo_attribute_38 {g : pj_G} {b : Nat} (C : pj_X g c_Mo_attribute 5 R_Mo (some .boolean) rm_Mo_attribute) {K : Int32 → pj_M → Prop} (hE : pj_E g b (pj_Ki K))   {u : pj_M} {x1 : Int32} {x2 : Int32} {x3 : Int32}   (h : pb_Mo_attribute_38  K u x1 x2 x3) : pj_J g (pj_N g b u) 38 [some (.ref (b + 217)), some (.int x1), some (.int x2), some (.int x3), none] [] := by
  unfold pb_Mo_attribute_38 at h
  refine pj_iload_n C d_Mo_attribute_38 (pc' := 39) (i := 3) (x := x3) rfl rfl rfl ?_
  refine pj_bipush C d_Mo_attribute_39 (pc' := 41) rfl (v := 24) (by decide) ?_
  refine pj_icmp_ne C d_Mo_attribute_41 (pc' := 44) rfl (tgt := 82) (by decide) h (fun h => ?_) (fun h => ?_)
  · exact pj_cut (pj_le_s (pj_le_s (pj_le_s (pj_le_s (pj_le_n pj_le_e))))) (pt_Mo_attribute_82 C hE   h)
  · exact pj_cut (pj_le_s (pj_le_s (pj_le_s (pj_le_s (pj_le_n pj_le_e))))) (pt_Mo_attribute_44 C hE   h)
def pb_Mo_attribute_24  (K : Int32 → pj_M → Prop) (u : pj_M) (x1 : Int32) : Prop := vp_in (x1 + 2) 48 ∧ (pj_put u 217 13 (u 226 (x1 + 2).toNatClampNeg) fun u1 => (K 1 u1))
set_option maxHeartbeats 1000000 in
theorem pt_Mo_attribute_24 {g : pj_G} {b : Nat} (C : pj_X g c_Mo_attribute 5 R_Mo (some .boolean) rm_Mo_attribute) {K : Int32 → pj_M → Prop} (hE : pj_E g b (pj_Ki K))   {u : pj_M} {x1 : Int32}   (h : pb_Mo_attribute_24  K u x1) : pj_J g (pj_N g b u) 24 [some (.ref (b + 217)), some (.int x1), none, none, none] [] := by
  unfold pb_Mo_attribute_24 at h
  refine pj_aload_n C d_Mo_attribute_24 (pc' := 25) (i := 0) (x := b + 217) rfl rfl rfl ?_
  refine pj_aload_n C d_Mo_attribute_25 (pc' := 26) (i := 0) (x := b + 217) rfl rfl rfl ?_
  refine fg_Model_35_Model C tk_217 d_Mo_attribute_26 (pc' := 29) rfl ?_
  refine pj_iload_n C d_Mo_attribute_29 (pc' := 30) (i := 1) (x := x1) rfl rfl rfl ?_
  refine pj_iconst C d_Mo_attribute_30 (pc' := 31) rfl (v := 2) (by decide) ?_
  refine pj_iadd C d_Mo_attribute_31 (pc' := 32) rfl ?_
  refine pj_iald C (pj_lt tk_226 (by decide)) (fun E u => ka_22 tk_226) d_Mo_attribute_32 (pc' := 33) rfl h (fun h => ?_)
  refine fp_Model_250_Model C tk_217  d_Mo_attribute_33 (pc' := 36) rfl h (fun u1 h => ?_)
  refine pj_iconst C d_Mo_attribute_36 (pc' := 37) rfl (v := 1) (by decide) ?_
  exact pj_zret C hE d_Mo_attribute_37 pj_bi1 ⟨_, rfl, h⟩
def pb_Mo_attribute_17  (K : Int32 → pj_M → Prop) (u : pj_M) (x1 : Int32) (x2 : Int32) (x3 : Int32) : Prop := ((0 ≤ (u 217 13)) → (pb_Mo_attribute_38  K u x1 x2 x3)) ∧ (¬ (0 ≤ (u 217 13)) → (pb_Mo_attribute_24  K u x1))
set_option maxHeartbeats 1000000 in
theorem pt_Mo_attribute_17 {g : pj_G} {b : Nat} (C : pj_X g c_Mo_attribute 5 R_Mo (some .boolean) rm_Mo_attribute) {K : Int32 → pj_M → Prop} (hE : pj_E g b (pj_Ki K))   {u : pj_M} {x1 : Int32} {x2 : Int32} {x3 : Int32}   (h : pb_Mo_attribute_17  K u x1 x2 x3) : pj_J g (pj_N g b u) 17 [some (.ref (b + 217)), some (.int x1), some (.int x2), some (.int x3), none] [] := by
  unfold pb_Mo_attribute_17 at h
  refine pj_aload_n C d_Mo_attribute_17 (pc' := 18) (i := 0) (x := b + 217) rfl rfl rfl ?_
  refine fg_Model_250_Model C tk_217 d_Mo_attribute_18 (pc' := 21) rfl ?_
  refine pj_if_ge C d_Mo_attribute_21 (pc' := 24) rfl (tgt := 38) (by decide) h (fun h => ?_) (fun h => ?_)
  · exact pj_cut (pj_le_s (pj_le_s (pj_le_s (pj_le_s (pj_le_n pj_le_e))))) (pt_Mo_attribute_38 C hE   h)
  · exact pj_cut (pj_le_s (pj_le_s (pj_le_n (pj_le_n (pj_le_n pj_le_e))))) (pt_Mo_attribute_24 C hE   h)
def pb_Mo_attribute_12  (K : Int32 → pj_M → Prop) (u : pj_M) (x1 : Int32) (x2 : Int32) (x3 : Int32) : Prop := ((x2 = 3) → (pb_Mo_attribute_17  K u x1 x2 x3)) ∧ (¬ (x2 = 3) → (pb_Mo_attribute_38  K u x1 x2 x3))
set_option maxHeartbeats 1000000 in
theorem pt_Mo_attribute_12 {g : pj_G} {b : Nat} (C : pj_X g c_Mo_attribute 5 R_Mo (some .boolean) rm_Mo_attribute) {K : Int32 → pj_M → Prop} (hE : pj_E g b (pj_Ki K))   {u : pj_M} {x1 : Int32} {x2 : Int32} {x3 : Int32}   (h : pb_Mo_attribute_12  K u x1 x2 x3) : pj_J g (pj_N g b u) 12 [some (.ref (b + 217)), some (.int x1), some (.int x2), some (.int x3), none] [] := by
  unfold pb_Mo_attribute_12 at h
  refine pj_iload_n C d_Mo_attribute_12 (pc' := 13) (i := 2) (x := x2) rfl rfl rfl ?_
  refine pj_iconst C d_Mo_attribute_13 (pc' := 14) rfl (v := 3) (by decide) ?_
  refine pj_icmp_ne C d_Mo_attribute_14 (pc' := 17) rfl (tgt := 38) (by decide) h (fun h => ?_) (fun h => ?_)
  · exact pj_cut (pj_le_s (pj_le_s (pj_le_s (pj_le_s (pj_le_n pj_le_e))))) (pt_Mo_attribute_38 C hE   h)
  · exact pj_cut (pj_le_s (pj_le_s (pj_le_s (pj_le_s (pj_le_n pj_le_e))))) (pt_Mo_attribute_17 C hE   h)
def pb_Mo_attribute_0  (K : Int32 → pj_M → Prop) (u : pj_M) (x1 : Int32) (x2 : Int32) : Prop := vp_in x1 48 ∧ (pj_let (u 226 x1.toNatClampNeg) fun y1 => (((y1 = 1) → (pb_Mo_attribute_12  K u x1 x2 y1)) ∧ (¬ (y1 = 1) → (pb_Mo_attribute_38  K u x1 x2 y1))))
set_option maxHeartbeats 1000000 in
theorem pt_Mo_attribute_0 {g : pj_G} {b : Nat} (C : pj_X g c_Mo_attribute 5 R_Mo (some .boolean) rm_Mo_attribute) {K : Int32 → pj_M → Prop} (hE : pj_E g b (pj_Ki K))   {u : pj_M} {x1 : Int32} {x2 : Int32}   (h : pb_Mo_attribute_0  K u x1 x2) : pj_J g (pj_N g b u) 0 [some (.ref (b + 217)), some (.int x1), some (.int x2), none, none] [] := by
  unfold pb_Mo_attribute_0 at h
  refine pj_aload_n C d_Mo_attribute_0 (pc' := 1) (i := 0) (x := b + 217) rfl rfl rfl ?_
  refine fg_Model_35_Model C tk_217 d_Mo_attribute_1 (pc' := 4) rfl ?_
  refine pj_iload_n C d_Mo_attribute_4 (pc' := 5) (i := 1) (x := x1) rfl rfl rfl ?_
  refine pj_iald C (pj_lt tk_226 (by decide)) (fun E u => ka_22 tk_226) d_Mo_attribute_5 (pc' := 6) rfl h (fun h => ?_)
  refine pj_name h (fun y1 h => ?_)
  refine pj_istore_n C d_Mo_attribute_6 (pc' := 7) (i := 3) (vs' := [some (.ref (b + 217)), some (.int x1), some (.int x2), some (.int y1), none]) rfl rfl (Nat.le_of_ble_eq_true rfl) (Nat.le_of_ble_eq_true rfl) rfl rfl ?_
  refine pj_iload_n C d_Mo_attribute_7 (pc' := 8) (i := 3) (x := y1) rfl rfl rfl ?_
  refine pj_iconst C d_Mo_attribute_8 (pc' := 9) rfl (v := 1) (by decide) ?_
  refine pj_icmp_ne C d_Mo_attribute_9 (pc' := 12) rfl (tgt := 38) (by decide) h (fun h => ?_) (fun h => ?_)
  · exact pj_cut (pj_le_s (pj_le_s (pj_le_s (pj_le_s (pj_le_n pj_le_e))))) (pt_Mo_attribute_38 C hE   h)
  · exact pj_cut (pj_le_s (pj_le_s (pj_le_s (pj_le_s (pj_le_n pj_le_e))))) (pt_Mo_attribute_12 C hE   h)
def pw_Mo_attribute (u : pj_M) (x1 : Int32) (x2 : Int32) (K : Int32 → pj_M → Prop) : Prop := pb_Mo_attribute_0  K u x1 x2
theorem pc_Mo_attribute (l : Launch) (D : va_G) (E : Nat → ClassId) {b : Nat} {u : pj_M} {x1 : Int32} {x2 : Int32} {K : Int32 → pj_M → Prop}  (h : pw_Mo_attribute u x1 x2 K) : pj_C l y_Mo_attribute c_Mo_attribute 5 (some .boolean) rm_Mo_attribute D E b [.ref (b + 217), .int x1, .int x2] u (pj_Ki K) := by
  refine pj_met (own := R_Mo) (by decide +kernel) rfl (Nat.le_of_ble_eq_true rfl) (fun g hE C => ?_)
  unfold pw_Mo_attribute at h
  show pj_J g (pj_N g b u) 0 [some (.ref (b + 217)), some (.int x1), some (.int x2), none, none] []
  exact pj_cut (pj_le_s (pj_le_s (pj_le_s (pj_le_n (pj_le_n pj_le_e))))) (pt_Mo_attribute_0 C hE   h)
/-! Model.rightGram()Z -/
theorem ck_Model_256_Model {g : pj_G} {b : Nat} {cc : ByteArray} {nL : Nat} {ret : Option FieldType} {rm : Room} {u : pj_M} {pc pc' : Nat} {vs : List (Option Value)} {st : List Value} (C : pj_X g cc nL R_Mo ret rm) {x1 : Int32} {x2 : Int32} {K : Int32 → pj_M → Prop}  (h : pw_Mo_attribute u x1 x2 K) (hdg : decode cc pc = .ok (.invokevirtual 256, 3)) (hp : pc + 3 = pc') (hR : rm_Mo_attribute.frames + 1 ≤ rm.frames ∧ 8 + (5 + 11) + rm_Mo_attribute.locals ≤ rm.locals) (h8 : (st.map fun v => v.category).sum ≤ 8) (kk : ∀ r u', K r u' → pj_J g (pj_N g b u') pc' vs (.int r :: st)) : pj_J g (pj_N g b u) pc vs (.int x2 :: .int x1 :: .ref (b + 217) :: st) :=
  pj_callV C (As := [.int x1, .int x2]) (fun l D E => pc_Mo_attribute l D E  h) rfl rfl cl_Model (pj_lt tk_217 (by decide)) (fun E => ko_11 tk_217) wm_1524 wm_1526 wm_76 wm_103 wm_1527 (by decide +kernel) (n := 2) rfl hR rfl h8 hdg hp (fun v u' hq => by obtain ⟨r, rfl, hk⟩ := hq; exact kk r u' hk)
def rm_Mo_rightGram : Room := { frames := 1, cells := 0, slots := 0, locals := 24 }
def pb_Mo_rightGram_42  (K : Int32 → pj_M → Prop) (u : pj_M)  : Prop := K 0 u
set_option maxHeartbeats 1000000 in
theorem pt_Mo_rightGram_42 {g : pj_G} {b : Nat} (C : pj_X g c_Mo_rightGram 3 R_Mo (some .boolean) rm_Mo_rightGram) {K : Int32 → pj_M → Prop} (hE : pj_E g b (pj_Ki K))   {u : pj_M}    (h : pb_Mo_rightGram_42  K u ) : pj_J g (pj_N g b u) 42 [none, none, none] [] := by
  unfold pb_Mo_rightGram_42 at h
  refine pj_iconst C d_Mo_rightGram_42 (pc' := 43) rfl (v := 0) (by decide) ?_
  exact pj_zret C hE d_Mo_rightGram_43 pj_bi0 ⟨_, rfl, h⟩
def pb_Mo_rightGram_130  (K : Int32 → pj_M → Prop) (u : pj_M) (s0 : Int32) : Prop := pj_bi s0 ∧ K s0 u
set_option maxHeartbeats 1000000 in
theorem pt_Mo_rightGram_130 {g : pj_G} {b : Nat} (C : pj_X g c_Mo_rightGram 3 R_Mo (some .boolean) rm_Mo_rightGram) {K : Int32 → pj_M → Prop} (hE : pj_E g b (pj_Ki K))   {u : pj_M} {s0 : Int32}   (h : pb_Mo_rightGram_130  K u s0) : pj_J g (pj_N g b u) 130 [none, none, none] [.int s0] := by
  unfold pb_Mo_rightGram_130 at h
  exact pj_zret C hE d_Mo_rightGram_130 h.1 ⟨_, rfl, h.2⟩
def pb_Mo_rightGram_129  (K : Int32 → pj_M → Prop) (u : pj_M)  : Prop := pb_Mo_rightGram_130  K u 0
set_option maxHeartbeats 1000000 in
theorem pt_Mo_rightGram_129 {g : pj_G} {b : Nat} (C : pj_X g c_Mo_rightGram 3 R_Mo (some .boolean) rm_Mo_rightGram) {K : Int32 → pj_M → Prop} (hE : pj_E g b (pj_Ki K))   {u : pj_M}    (h : pb_Mo_rightGram_129  K u ) : pj_J g (pj_N g b u) 129 [none, none, none] [] := by
  unfold pb_Mo_rightGram_129 at h
  refine pj_iconst C d_Mo_rightGram_129 (pc' := 130) rfl (v := 0) (by decide) ?_
  exact pj_cut (pj_le_n (pj_le_n (pj_le_n pj_le_e))) (pt_Mo_rightGram_130 C hE   h)
def pb_Mo_rightGram_125  (K : Int32 → pj_M → Prop) (u : pj_M)  : Prop := pb_Mo_rightGram_130  K u 1
set_option maxHeartbeats 1000000 in
theorem pt_Mo_rightGram_125 {g : pj_G} {b : Nat} (C : pj_X g c_Mo_rightGram 3 R_Mo (some .boolean) rm_Mo_rightGram) {K : Int32 → pj_M → Prop} (hE : pj_E g b (pj_Ki K))   {u : pj_M}    (h : pb_Mo_rightGram_125  K u ) : pj_J g (pj_N g b u) 125 [none, none, none] [] := by
  unfold pb_Mo_rightGram_125 at h
  refine pj_iconst C d_Mo_rightGram_125 (pc' := 126) rfl (v := 1) (by decide) ?_
  refine pj_goto C d_Mo_rightGram_126 (tgt := 130) (by decide) ?_
  exact pj_cut (pj_le_n (pj_le_n (pj_le_n pj_le_e))) (pt_Mo_rightGram_130 C hE   h)
def pb_Mo_rightGram_118  (K : Int32 → pj_M → Prop) (u : pj_M)  : Prop := pw_Mo_rightPacket u  fun r2 u1 => (((r2 = 0) → (pb_Mo_rightGram_129  K u1 )) ∧ (¬ (r2 = 0) → (pb_Mo_rightGram_125  K u1 )))
set_option maxHeartbeats 1000000 in
theorem pt_Mo_rightGram_118 {g : pj_G} {b : Nat} (C : pj_X g c_Mo_rightGram 3 R_Mo (some .boolean) rm_Mo_rightGram) {K : Int32 → pj_M → Prop} (hE : pj_E g b (pj_Ki K))   {u : pj_M}    (h : pb_Mo_rightGram_118  K u ) : pj_J g (pj_N g b u) 118 [some (.ref (b + 217)), none, none] [] := by
  unfold pb_Mo_rightGram_118 at h
  refine pj_aload_n C d_Mo_rightGram_118 (pc' := 119) (i := 0) (x := b + 217) rfl rfl rfl ?_
  refine ck_Model_246_Model C  h d_Mo_rightGram_119 (pc' := 122) rfl ⟨Nat.le_of_ble_eq_true rfl, Nat.le_of_ble_eq_true rfl⟩ (Nat.le_of_ble_eq_true rfl) (fun r2 u1 h => ?_)
  refine pj_if_eq C d_Mo_rightGram_122 (pc' := 125) rfl (tgt := 129) (by decide) h (fun h => ?_) (fun h => ?_)
  · exact pj_cut (pj_le_n (pj_le_n (pj_le_n pj_le_e))) (pt_Mo_rightGram_129 C hE   h)
  · exact pj_cut (pj_le_n (pj_le_n (pj_le_n pj_le_e))) (pt_Mo_rightGram_125 C hE   h)
def pb_Mo_rightGram_111  (K : Int32 → pj_M → Prop) (u : pj_M)  : Prop := (((u 217 15) < 0) → (pb_Mo_rightGram_129  K u )) ∧ (¬ ((u 217 15) < 0) → (pb_Mo_rightGram_118  K u ))
set_option maxHeartbeats 1000000 in
theorem pt_Mo_rightGram_111 {g : pj_G} {b : Nat} (C : pj_X g c_Mo_rightGram 3 R_Mo (some .boolean) rm_Mo_rightGram) {K : Int32 → pj_M → Prop} (hE : pj_E g b (pj_Ki K))   {u : pj_M}    (h : pb_Mo_rightGram_111  K u ) : pj_J g (pj_N g b u) 111 [some (.ref (b + 217)), none, none] [] := by
  unfold pb_Mo_rightGram_111 at h
  refine pj_aload_n C d_Mo_rightGram_111 (pc' := 112) (i := 0) (x := b + 217) rfl rfl rfl ?_
  refine fg_Model_224_Model C tk_217 d_Mo_rightGram_112 (pc' := 115) rfl ?_
  refine pj_if_lt C d_Mo_rightGram_115 (pc' := 118) rfl (tgt := 129) (by decide) h (fun h => ?_) (fun h => ?_)
  · exact pj_cut (pj_le_n (pj_le_n (pj_le_n pj_le_e))) (pt_Mo_rightGram_129 C hE   h)
  · exact pj_cut (pj_le_s (pj_le_n (pj_le_n pj_le_e))) (pt_Mo_rightGram_118 C hE   h)
def pb_Mo_rightGram_102  (K : Int32 → pj_M → Prop) (u : pj_M)  : Prop := K 0 u
set_option maxHeartbeats 1000000 in
theorem pt_Mo_rightGram_102 {g : pj_G} {b : Nat} (C : pj_X g c_Mo_rightGram 3 R_Mo (some .boolean) rm_Mo_rightGram) {K : Int32 → pj_M → Prop} (hE : pj_E g b (pj_Ki K))   {u : pj_M}    (h : pb_Mo_rightGram_102  K u ) : pj_J g (pj_N g b u) 102 [none, none, none] [] := by
  unfold pb_Mo_rightGram_102 at h
  refine pj_iconst C d_Mo_rightGram_102 (pc' := 103) rfl (v := 0) (by decide) ?_
  exact pj_zret C hE d_Mo_rightGram_103 pj_bi0 ⟨_, rfl, h⟩
def pb_Mo_rightGram_104 (R47 : pj_M → Int32 → Prop) (K : Int32 → pj_M → Prop) (u : pj_M) (x1 : Int32) (x2 : Int32) : Prop := pj_let (x1 + x2) fun y1 => (R47 u y1)
set_option maxHeartbeats 1000000 in
theorem pt_Mo_rightGram_104 {g : pj_G} {b : Nat} (C : pj_X g c_Mo_rightGram 3 R_Mo (some .boolean) rm_Mo_rightGram) {K : Int32 → pj_M → Prop} (hE : pj_E g b (pj_Ki K)) {R47 : pj_M → Int32 → Prop}  {u : pj_M} {x1 : Int32} {x2 : Int32} (hR47 : ∀ (u : pj_M) (x1 : Int32), R47 u x1 → pj_J g (pj_N g b u) 47 [some (.ref (b + 217)), some (.int x1), none] [])  (h : pb_Mo_rightGram_104 R47 K u x1 x2) : pj_J g (pj_N g b u) 104 [some (.ref (b + 217)), some (.int x1), some (.int x2)] [] := by
  unfold pb_Mo_rightGram_104 at h
  refine pj_iload_n C d_Mo_rightGram_104 (pc' := 105) (i := 1) (x := x1) rfl rfl rfl ?_
  refine pj_iload_n C d_Mo_rightGram_105 (pc' := 106) (i := 2) (x := x2) rfl rfl rfl ?_
  refine pj_iadd C d_Mo_rightGram_106 (pc' := 107) rfl ?_
  refine pj_name h (fun y1 h => ?_)
  refine pj_istore_n C d_Mo_rightGram_107 (pc' := 108) (i := 1) (vs' := [some (.ref (b + 217)), some (.int y1), some (.int x2)]) rfl rfl (Nat.le_of_ble_eq_true rfl) (Nat.le_of_ble_eq_true rfl) rfl rfl ?_
  refine pj_goto C d_Mo_rightGram_108 (tgt := 47) (by decide) ?_
  exact pj_cut (pj_le_s (pj_le_s (pj_le_n pj_le_e))) (hR47 _ _ h)
def pb_Mo_rightGram_93 (R47 : pj_M → Int32 → Prop) (K : Int32 → pj_M → Prop) (u : pj_M) (x1 : Int32) (x2 : Int32) : Prop := pw_Mo_attribute u x1 x2 fun r2 u1 => (((r2 = 0) → (pb_Mo_rightGram_102  K u1 )) ∧ (¬ (r2 = 0) → (pb_Mo_rightGram_104 R47 K u1 x1 x2)))
set_option maxHeartbeats 1000000 in
theorem pt_Mo_rightGram_93 {g : pj_G} {b : Nat} (C : pj_X g c_Mo_rightGram 3 R_Mo (some .boolean) rm_Mo_rightGram) {K : Int32 → pj_M → Prop} (hE : pj_E g b (pj_Ki K)) {R47 : pj_M → Int32 → Prop}  {u : pj_M} {x1 : Int32} {x2 : Int32} (hR47 : ∀ (u : pj_M) (x1 : Int32), R47 u x1 → pj_J g (pj_N g b u) 47 [some (.ref (b + 217)), some (.int x1), none] [])  (h : pb_Mo_rightGram_93 R47 K u x1 x2) : pj_J g (pj_N g b u) 93 [some (.ref (b + 217)), some (.int x1), some (.int x2)] [] := by
  unfold pb_Mo_rightGram_93 at h
  refine pj_aload_n C d_Mo_rightGram_93 (pc' := 94) (i := 0) (x := b + 217) rfl rfl rfl ?_
  refine pj_iload_n C d_Mo_rightGram_94 (pc' := 95) (i := 1) (x := x1) rfl rfl rfl ?_
  refine pj_iload_n C d_Mo_rightGram_95 (pc' := 96) (i := 2) (x := x2) rfl rfl rfl ?_
  refine ck_Model_256_Model C  h d_Mo_rightGram_96 (pc' := 99) rfl ⟨Nat.le_of_ble_eq_true rfl, Nat.le_of_ble_eq_true rfl⟩ (Nat.le_of_ble_eq_true rfl) (fun r2 u1 h => ?_)
  refine pj_if_ne C d_Mo_rightGram_99 (pc' := 102) rfl (tgt := 104) (by decide) h (fun h => ?_) (fun h => ?_)
  · exact pj_cut (pj_le_s (pj_le_s (pj_le_s pj_le_e))) (pt_Mo_rightGram_104 C hE hR47  h)
  · exact pj_cut (pj_le_n (pj_le_n (pj_le_n pj_le_e))) (pt_Mo_rightGram_102 C hE   h)
def pb_Mo_rightGram_83 (R47 : pj_M → Int32 → Prop) (K : Int32 → pj_M → Prop) (u : pj_M) (x1 : Int32) (x2 : Int32) : Prop := (((u 217 11) < (x1 + x2)) → (pb_Mo_rightGram_102  K u )) ∧ (¬ ((u 217 11) < (x1 + x2)) → (pb_Mo_rightGram_93 R47 K u x1 x2))
set_option maxHeartbeats 1000000 in
theorem pt_Mo_rightGram_83 {g : pj_G} {b : Nat} (C : pj_X g c_Mo_rightGram 3 R_Mo (some .boolean) rm_Mo_rightGram) {K : Int32 → pj_M → Prop} (hE : pj_E g b (pj_Ki K)) {R47 : pj_M → Int32 → Prop}  {u : pj_M} {x1 : Int32} {x2 : Int32} (hR47 : ∀ (u : pj_M) (x1 : Int32), R47 u x1 → pj_J g (pj_N g b u) 47 [some (.ref (b + 217)), some (.int x1), none] [])  (h : pb_Mo_rightGram_83 R47 K u x1 x2) : pj_J g (pj_N g b u) 83 [some (.ref (b + 217)), some (.int x1), some (.int x2)] [] := by
  unfold pb_Mo_rightGram_83 at h
  refine pj_iload_n C d_Mo_rightGram_83 (pc' := 84) (i := 1) (x := x1) rfl rfl rfl ?_
  refine pj_iload_n C d_Mo_rightGram_84 (pc' := 85) (i := 2) (x := x2) rfl rfl rfl ?_
  refine pj_iadd C d_Mo_rightGram_85 (pc' := 86) rfl ?_
  refine pj_aload_n C d_Mo_rightGram_86 (pc' := 87) (i := 0) (x := b + 217) rfl rfl rfl ?_
  refine fg_Model_221_Model C tk_217 d_Mo_rightGram_87 (pc' := 90) rfl ?_
  refine pj_icmp_gt C d_Mo_rightGram_90 (pc' := 93) rfl (tgt := 102) (by decide) h (fun h => ?_) (fun h => ?_)
  · exact pj_cut (pj_le_n (pj_le_n (pj_le_n pj_le_e))) (pt_Mo_rightGram_102 C hE   h)
  · exact pj_cut (pj_le_s (pj_le_s (pj_le_s pj_le_e))) (pt_Mo_rightGram_93 C hE hR47  h)
def pb_Mo_rightGram_77 (R47 : pj_M → Int32 → Prop) (K : Int32 → pj_M → Prop) (u : pj_M) (x1 : Int32) (s0 : Int32) : Prop := ((s0 < 3) → (pb_Mo_rightGram_102  K u )) ∧ (¬ (s0 < 3) → (pb_Mo_rightGram_83 R47 K u x1 s0))
set_option maxHeartbeats 1000000 in
theorem pt_Mo_rightGram_77 {g : pj_G} {b : Nat} (C : pj_X g c_Mo_rightGram 3 R_Mo (some .boolean) rm_Mo_rightGram) {K : Int32 → pj_M → Prop} (hE : pj_E g b (pj_Ki K)) {R47 : pj_M → Int32 → Prop}  {u : pj_M} {x1 : Int32} {s0 : Int32} (hR47 : ∀ (u : pj_M) (x1 : Int32), R47 u x1 → pj_J g (pj_N g b u) 47 [some (.ref (b + 217)), some (.int x1), none] [])  (h : pb_Mo_rightGram_77 R47 K u x1 s0) : pj_J g (pj_N g b u) 77 [some (.ref (b + 217)), some (.int x1), none] [.int s0] := by
  unfold pb_Mo_rightGram_77 at h
  refine pj_istore_n C d_Mo_rightGram_77 (pc' := 78) (i := 2) (vs' := [some (.ref (b + 217)), some (.int x1), some (.int s0)]) rfl rfl (Nat.le_of_ble_eq_true rfl) (Nat.le_of_ble_eq_true rfl) rfl rfl ?_
  refine pj_iload_n C d_Mo_rightGram_78 (pc' := 79) (i := 2) (x := s0) rfl rfl rfl ?_
  refine pj_iconst C d_Mo_rightGram_79 (pc' := 80) rfl (v := 3) (by decide) ?_
  refine pj_icmp_lt C d_Mo_rightGram_80 (pc' := 83) rfl (tgt := 102) (by decide) h (fun h => ?_) (fun h => ?_)
  · exact pj_cut (pj_le_n (pj_le_n (pj_le_n pj_le_e))) (pt_Mo_rightGram_102 C hE   h)
  · exact pj_cut (pj_le_s (pj_le_s (pj_le_s pj_le_e))) (pt_Mo_rightGram_83 C hE hR47  h)
def pb_Mo_rightGram_76 (R47 : pj_M → Int32 → Prop) (K : Int32 → pj_M → Prop) (u : pj_M) (x1 : Int32) : Prop := pb_Mo_rightGram_77 R47 K u x1 0
set_option maxHeartbeats 1000000 in
theorem pt_Mo_rightGram_76 {g : pj_G} {b : Nat} (C : pj_X g c_Mo_rightGram 3 R_Mo (some .boolean) rm_Mo_rightGram) {K : Int32 → pj_M → Prop} (hE : pj_E g b (pj_Ki K)) {R47 : pj_M → Int32 → Prop}  {u : pj_M} {x1 : Int32} (hR47 : ∀ (u : pj_M) (x1 : Int32), R47 u x1 → pj_J g (pj_N g b u) 47 [some (.ref (b + 217)), some (.int x1), none] [])  (h : pb_Mo_rightGram_76 R47 K u x1) : pj_J g (pj_N g b u) 76 [some (.ref (b + 217)), some (.int x1), none] [] := by
  unfold pb_Mo_rightGram_76 at h
  refine pj_iconst C d_Mo_rightGram_76 (pc' := 77) rfl (v := 0) (by decide) ?_
  exact pj_cut (pj_le_s (pj_le_s (pj_le_n pj_le_e))) (pt_Mo_rightGram_77 C hE hR47  h)
def pb_Mo_rightGram_65 (R47 : pj_M → Int32 → Prop) (K : Int32 → pj_M → Prop) (u : pj_M) (x1 : Int32) : Prop := vp_in (x1 + 1) 48 ∧ (pb_Mo_rightGram_77 R47 K u x1 (u 226 (x1 + 1).toNatClampNeg))
set_option maxHeartbeats 1000000 in
theorem pt_Mo_rightGram_65 {g : pj_G} {b : Nat} (C : pj_X g c_Mo_rightGram 3 R_Mo (some .boolean) rm_Mo_rightGram) {K : Int32 → pj_M → Prop} (hE : pj_E g b (pj_Ki K)) {R47 : pj_M → Int32 → Prop}  {u : pj_M} {x1 : Int32} (hR47 : ∀ (u : pj_M) (x1 : Int32), R47 u x1 → pj_J g (pj_N g b u) 47 [some (.ref (b + 217)), some (.int x1), none] [])  (h : pb_Mo_rightGram_65 R47 K u x1) : pj_J g (pj_N g b u) 65 [some (.ref (b + 217)), some (.int x1), none] [] := by
  unfold pb_Mo_rightGram_65 at h
  refine pj_aload_n C d_Mo_rightGram_65 (pc' := 66) (i := 0) (x := b + 217) rfl rfl rfl ?_
  refine fg_Model_35_Model C tk_217 d_Mo_rightGram_66 (pc' := 69) rfl ?_
  refine pj_iload_n C d_Mo_rightGram_69 (pc' := 70) (i := 1) (x := x1) rfl rfl rfl ?_
  refine pj_iconst C d_Mo_rightGram_70 (pc' := 71) rfl (v := 1) (by decide) ?_
  refine pj_iadd C d_Mo_rightGram_71 (pc' := 72) rfl ?_
  refine pj_iald C (pj_lt tk_226 (by decide)) (fun E u => ka_22 tk_226) d_Mo_rightGram_72 (pc' := 73) rfl h (fun h => ?_)
  refine pj_goto C d_Mo_rightGram_73 (tgt := 77) (by decide) ?_
  exact pj_cut (pj_le_s (pj_le_s (pj_le_n pj_le_e))) (pt_Mo_rightGram_77 C hE hR47  h)
def pb_Mo_rightGram_55 (R47 : pj_M → Int32 → Prop) (K : Int32 → pj_M → Prop) (u : pj_M) (x1 : Int32) : Prop := (((u 217 11) ≤ (x1 + 1)) → (pb_Mo_rightGram_76 R47 K u x1)) ∧ (¬ ((u 217 11) ≤ (x1 + 1)) → (pb_Mo_rightGram_65 R47 K u x1))
set_option maxHeartbeats 1000000 in
theorem pt_Mo_rightGram_55 {g : pj_G} {b : Nat} (C : pj_X g c_Mo_rightGram 3 R_Mo (some .boolean) rm_Mo_rightGram) {K : Int32 → pj_M → Prop} (hE : pj_E g b (pj_Ki K)) {R47 : pj_M → Int32 → Prop}  {u : pj_M} {x1 : Int32} (hR47 : ∀ (u : pj_M) (x1 : Int32), R47 u x1 → pj_J g (pj_N g b u) 47 [some (.ref (b + 217)), some (.int x1), none] [])  (h : pb_Mo_rightGram_55 R47 K u x1) : pj_J g (pj_N g b u) 55 [some (.ref (b + 217)), some (.int x1), none] [] := by
  unfold pb_Mo_rightGram_55 at h
  refine pj_iload_n C d_Mo_rightGram_55 (pc' := 56) (i := 1) (x := x1) rfl rfl rfl ?_
  refine pj_iconst C d_Mo_rightGram_56 (pc' := 57) rfl (v := 1) (by decide) ?_
  refine pj_iadd C d_Mo_rightGram_57 (pc' := 58) rfl ?_
  refine pj_aload_n C d_Mo_rightGram_58 (pc' := 59) (i := 0) (x := b + 217) rfl rfl rfl ?_
  refine fg_Model_221_Model C tk_217 d_Mo_rightGram_59 (pc' := 62) rfl ?_
  refine pj_icmp_ge C d_Mo_rightGram_62 (pc' := 65) rfl (tgt := 76) (by decide) h (fun h => ?_) (fun h => ?_)
  · exact pj_cut (pj_le_s (pj_le_s (pj_le_n pj_le_e))) (pt_Mo_rightGram_76 C hE hR47  h)
  · exact pj_cut (pj_le_s (pj_le_s (pj_le_n pj_le_e))) (pt_Mo_rightGram_65 C hE hR47  h)
def pb_Mo_rightGram_47b (R47 : pj_M → Int32 → Prop) (K : Int32 → pj_M → Prop) (u : pj_M) (x1 : Int32) : Prop := (((u 217 11) ≤ x1) → (pb_Mo_rightGram_111  K u )) ∧ (¬ ((u 217 11) ≤ x1) → (pb_Mo_rightGram_55 R47 K u x1))
set_option maxHeartbeats 1000000 in
theorem pt_Mo_rightGram_47b {g : pj_G} {b : Nat} (C : pj_X g c_Mo_rightGram 3 R_Mo (some .boolean) rm_Mo_rightGram) {K : Int32 → pj_M → Prop} (hE : pj_E g b (pj_Ki K)) {R47 : pj_M → Int32 → Prop}  {u : pj_M} {x1 : Int32} (hR47 : ∀ (u : pj_M) (x1 : Int32), R47 u x1 → pj_J g (pj_N g b u) 47 [some (.ref (b + 217)), some (.int x1), none] [])  (h : pb_Mo_rightGram_47b R47 K u x1) : pj_J g (pj_N g b u) 47 [some (.ref (b + 217)), some (.int x1), none] [] := by
  unfold pb_Mo_rightGram_47b at h
  refine pj_iload_n C d_Mo_rightGram_47 (pc' := 48) (i := 1) (x := x1) rfl rfl rfl ?_
  refine pj_aload_n C d_Mo_rightGram_48 (pc' := 49) (i := 0) (x := b + 217) rfl rfl rfl ?_
  refine fg_Model_221_Model C tk_217 d_Mo_rightGram_49 (pc' := 52) rfl ?_
  refine pj_icmp_ge C d_Mo_rightGram_52 (pc' := 55) rfl (tgt := 111) (by decide) h (fun h => ?_) (fun h => ?_)
  · exact pj_cut (pj_le_s (pj_le_n (pj_le_n pj_le_e))) (pt_Mo_rightGram_111 C hE   h)
  · exact pj_cut (pj_le_s (pj_le_s (pj_le_n pj_le_e))) (pt_Mo_rightGram_55 C hE hR47  h)
def pb_Mo_rightGram_47  (K : Int32 → pj_M → Prop)  : Nat → pj_M → Int32 → Prop
  | 0 => fun _ _ => False
  | n + 1 => fun u x1 => pb_Mo_rightGram_47b (pb_Mo_rightGram_47  K  n) K u x1
theorem pt_Mo_rightGram_47 {g : pj_G} {b : Nat} (C : pj_X g c_Mo_rightGram 3 R_Mo (some .boolean) rm_Mo_rightGram) {K : Int32 → pj_M → Prop} (hE : pj_E g b (pj_Ki K))     : ∀ (n : Nat) (u : pj_M) (x1 : Int32), pb_Mo_rightGram_47  K  n u x1 → pj_J g (pj_N g b u) 47 [some (.ref (b + 217)), some (.int x1), none] [] := by
  intro n
  induction n with
  | zero => intro u x1 h; exact False.elim h
  | succ n ih =>
    intro u x1 h
    exact (pt_Mo_rightGram_47b C hE ih  h)
def pb_Mo_rightGram_44  (K : Int32 → pj_M → Prop) (u : pj_M)  : Prop := ∃ n, pb_Mo_rightGram_47  K  n u 7
set_option maxHeartbeats 1000000 in
theorem pt_Mo_rightGram_44 {g : pj_G} {b : Nat} (C : pj_X g c_Mo_rightGram 3 R_Mo (some .boolean) rm_Mo_rightGram) {K : Int32 → pj_M → Prop} (hE : pj_E g b (pj_Ki K))   {u : pj_M}    (h : pb_Mo_rightGram_44  K u ) : pj_J g (pj_N g b u) 44 [some (.ref (b + 217)), none, none] [] := by
  unfold pb_Mo_rightGram_44 at h
  refine pj_bipush C d_Mo_rightGram_44 (pc' := 46) rfl (v := 7) (by decide) ?_
  refine pj_istore_n C d_Mo_rightGram_46 (pc' := 47) (i := 1) (vs' := [some (.ref (b + 217)), some (.int 7), none]) rfl rfl (Nat.le_of_ble_eq_true rfl) (Nat.le_of_ble_eq_true rfl) rfl rfl ?_
  obtain ⟨n, h⟩ := h
  exact pj_cut (pj_le_s (pj_le_s (pj_le_n pj_le_e))) (pt_Mo_rightGram_47 C hE   n _ _ h)
def pb_Mo_rightGram_29  (K : Int32 → pj_M → Prop) (u : pj_M)  : Prop := vp_in 2 48 ∧ ((((u 226 (2 : Int32).toNatClampNeg) = (u 217 11)) → (pb_Mo_rightGram_44  K u )) ∧ (¬ ((u 226 (2 : Int32).toNatClampNeg) = (u 217 11)) → (pb_Mo_rightGram_42  K u )))
set_option maxHeartbeats 1000000 in
theorem pt_Mo_rightGram_29 {g : pj_G} {b : Nat} (C : pj_X g c_Mo_rightGram 3 R_Mo (some .boolean) rm_Mo_rightGram) {K : Int32 → pj_M → Prop} (hE : pj_E g b (pj_Ki K))   {u : pj_M}    (h : pb_Mo_rightGram_29  K u ) : pj_J g (pj_N g b u) 29 [some (.ref (b + 217)), none, none] [] := by
  unfold pb_Mo_rightGram_29 at h
  refine pj_aload_n C d_Mo_rightGram_29 (pc' := 30) (i := 0) (x := b + 217) rfl rfl rfl ?_
  refine fg_Model_35_Model C tk_217 d_Mo_rightGram_30 (pc' := 33) rfl ?_
  refine pj_iconst C d_Mo_rightGram_33 (pc' := 34) rfl (v := 2) (by decide) ?_
  refine pj_iald C (pj_lt tk_226 (by decide)) (fun E u => ka_22 tk_226) d_Mo_rightGram_34 (pc' := 35) rfl h (fun h => ?_)
  refine pj_aload_n C d_Mo_rightGram_35 (pc' := 36) (i := 0) (x := b + 217) rfl rfl rfl ?_
  refine fg_Model_221_Model C tk_217 d_Mo_rightGram_36 (pc' := 39) rfl ?_
  refine pj_icmp_eq C d_Mo_rightGram_39 (pc' := 42) rfl (tgt := 44) (by decide) h (fun h => ?_) (fun h => ?_)
  · exact pj_cut (pj_le_s (pj_le_n (pj_le_n pj_le_e))) (pt_Mo_rightGram_44 C hE   h)
  · exact pj_cut (pj_le_n (pj_le_n (pj_le_n pj_le_e))) (pt_Mo_rightGram_42 C hE   h)
def pb_Mo_rightGram_0  (K : Int32 → pj_M → Prop) (u : pj_M)  : Prop := pj_put u 217 13 ((-1)) fun u1 => (pj_put u1 217 14 ((-1)) fun u2 => (pj_put u2 217 15 ((-1)) fun u3 => (pj_put u3 217 16 0 fun u4 => ((((u4 217 11) < 7) → (pb_Mo_rightGram_42  K u4 )) ∧ (¬ ((u4 217 11) < 7) → (pb_Mo_rightGram_29  K u4 ))))))
set_option maxHeartbeats 1000000 in
theorem pt_Mo_rightGram_0 {g : pj_G} {b : Nat} (C : pj_X g c_Mo_rightGram 3 R_Mo (some .boolean) rm_Mo_rightGram) {K : Int32 → pj_M → Prop} (hE : pj_E g b (pj_Ki K))   {u : pj_M}    (h : pb_Mo_rightGram_0  K u ) : pj_J g (pj_N g b u) 0 [some (.ref (b + 217)), none, none] [] := by
  unfold pb_Mo_rightGram_0 at h
  refine pj_aload_n C d_Mo_rightGram_0 (pc' := 1) (i := 0) (x := b + 217) rfl rfl rfl ?_
  refine pj_iconst C d_Mo_rightGram_1 (pc' := 2) rfl (v := (-1)) (by decide) ?_
  refine fp_Model_250_Model C tk_217  d_Mo_rightGram_2 (pc' := 5) rfl h (fun u1 h => ?_)
  refine pj_aload_n C d_Mo_rightGram_5 (pc' := 6) (i := 0) (x := b + 217) rfl rfl rfl ?_
  refine pj_iconst C d_Mo_rightGram_6 (pc' := 7) rfl (v := (-1)) (by decide) ?_
  refine fp_Model_253_Model C tk_217  d_Mo_rightGram_7 (pc' := 10) rfl h (fun u2 h => ?_)
  refine pj_aload_n C d_Mo_rightGram_10 (pc' := 11) (i := 0) (x := b + 217) rfl rfl rfl ?_
  refine pj_iconst C d_Mo_rightGram_11 (pc' := 12) rfl (v := (-1)) (by decide) ?_
  refine fp_Model_224_Model C tk_217  d_Mo_rightGram_12 (pc' := 15) rfl h (fun u3 h => ?_)
  refine pj_aload_n C d_Mo_rightGram_15 (pc' := 16) (i := 0) (x := b + 217) rfl rfl rfl ?_
  refine pj_iconst C d_Mo_rightGram_16 (pc' := 17) rfl (v := 0) (by decide) ?_
  refine fp_Model_233_Model C tk_217  d_Mo_rightGram_17 (pc' := 20) rfl h (fun u4 h => ?_)
  refine pj_aload_n C d_Mo_rightGram_20 (pc' := 21) (i := 0) (x := b + 217) rfl rfl rfl ?_
  refine fg_Model_221_Model C tk_217 d_Mo_rightGram_21 (pc' := 24) rfl ?_
  refine pj_bipush C d_Mo_rightGram_24 (pc' := 26) rfl (v := 7) (by decide) ?_
  refine pj_icmp_lt C d_Mo_rightGram_26 (pc' := 29) rfl (tgt := 42) (by decide) h (fun h => ?_) (fun h => ?_)
  · exact pj_cut (pj_le_n (pj_le_n (pj_le_n pj_le_e))) (pt_Mo_rightGram_42 C hE   h)
  · exact pj_cut (pj_le_s (pj_le_n (pj_le_n pj_le_e))) (pt_Mo_rightGram_29 C hE   h)
def pw_Mo_rightGram (u : pj_M)  (K : Int32 → pj_M → Prop) : Prop := pb_Mo_rightGram_0  K u 
theorem pc_Mo_rightGram (l : Launch) (D : va_G) (E : Nat → ClassId) {b : Nat} {u : pj_M}  {K : Int32 → pj_M → Prop}  (h : pw_Mo_rightGram u  K) : pj_C l y_Mo_rightGram c_Mo_rightGram 3 (some .boolean) rm_Mo_rightGram D E b [.ref (b + 217)] u (pj_Ki K) := by
  refine pj_met (own := R_Mo) (by decide +kernel) rfl (Nat.le_of_ble_eq_true rfl) (fun g hE C => ?_)
  unfold pw_Mo_rightGram at h
  show pj_J g (pj_N g b u) 0 [some (.ref (b + 217)), none, none] []
  exact pj_cut (pj_le_s (pj_le_n (pj_le_n pj_le_e))) (pt_Mo_rightGram_0 C hE   h)
/-! Model.gram(IIIII)V -/
theorem ck_Model_260_Model {g : pj_G} {b : Nat} {cc : ByteArray} {nL : Nat} {ret : Option FieldType} {rm : Room} {u : pj_M} {pc pc' : Nat} {vs : List (Option Value)} {st : List Value} (C : pj_X g cc nL R_Mo ret rm) {x1 : Int32} {K : Int32 → pj_M → Prop}  (h : pw_Mo_sealWith u x1 K) (hdg : decode cc pc = .ok (.invokevirtual 260, 3)) (hp : pc + 3 = pc') (hR : rm_Mo_sealWith.frames + 1 ≤ rm.frames ∧ 8 + (3 + 11) + rm_Mo_sealWith.locals ≤ rm.locals) (h8 : (st.map fun v => v.category).sum ≤ 8) (kk : ∀ r u', K r u' → pj_J g (pj_N g b u') pc' vs (.int r :: st)) : pj_J g (pj_N g b u) pc vs (.int x1 :: .ref (b + 217) :: st) :=
  pj_callV C (As := [.int x1]) (fun l D E => pc_Mo_sealWith l D E  h) rfl rfl cl_Model (pj_lt tk_217 (by decide)) (fun E => ko_11 tk_217) wm_1436 wm_1438 wm_55 wm_103 wm_1439 (by decide +kernel) (n := 1) rfl hR rfl h8 hdg hp (fun v u' hq => by obtain ⟨r, rfl, hk⟩ := hq; exact kk r u' hk)
theorem ck_Model_264_Model {g : pj_G} {b : Nat} {cc : ByteArray} {nL : Nat} {ret : Option FieldType} {rm : Room} {u : pj_M} {pc pc' : Nat} {vs : List (Option Value)} {st : List Value} (C : pj_X g cc nL R_Mo ret rm) {x1 : Int32} {x2 : Int32} {K : pj_M → Prop}  (h : pw_Mo_intoRow u x1 x2 K) (hdg : decode cc pc = .ok (.invokevirtual 264, 3)) (hp : pc + 3 = pc') (hR : rm_Mo_intoRow.frames + 1 ≤ rm.frames ∧ 8 + (4 + 11) + rm_Mo_intoRow.locals ≤ rm.locals) (h8 : (st.map fun v => v.category).sum ≤ 8) (kk : ∀ u', K u' → pj_J g (pj_N g b u') pc' vs st) : pj_J g (pj_N g b u) pc vs (.int x2 :: .int x1 :: .ref (b + 217) :: st) :=
  pj_callV C (As := [.int x1, .int x2]) (fun l D E => pc_Mo_intoRow l D E  h) rfl rfl cl_Model (pj_lt tk_217 (by decide)) (fun E => ko_11 tk_217) wm_1448 wm_1450 wm_58 wm_103 wm_1451 (by decide +kernel) (n := 2) rfl hR rfl h8 hdg hp (fun v u' hq => by obtain ⟨rfl, hk⟩ := hq; exact kk u' hk)
def rm_Mo_gram : Room := { frames := 4, cells := 0, slots := 0, locals := 87 }
def pb_Mo_gram_208  (K : pj_M → Prop) (u : pj_M) (x3 : Int32) : Prop := vp_in 2 48 ∧ pj_put u 226 (2 : Int32).toNatClampNeg (u 217 11) fun u1 => (pw_Mo_sealWith u1 x3 fun r3 u2 => (pw_Mo_intoRow u2 (u1 217 15) r3 fun u4 => (K u4)))
set_option maxHeartbeats 1000000 in
theorem pt_Mo_gram_208 {g : pj_G} {b : Nat} (C : pj_X g c_Mo_gram 7 R_Mo none rm_Mo_gram) {K : pj_M → Prop} (hE : pj_E g b (pj_Kv K))   {u : pj_M} {x3 : Int32}   (h : pb_Mo_gram_208  K u x3) : pj_J g (pj_N g b u) 208 [some (.ref (b + 217)), none, none, some (.int x3), none, none, none] [] := by
  unfold pb_Mo_gram_208 at h
  refine pj_aload_n C d_Mo_gram_208 (pc' := 209) (i := 0) (x := b + 217) rfl rfl rfl ?_
  refine fg_Model_35_Model C tk_217 d_Mo_gram_209 (pc' := 212) rfl ?_
  refine pj_iconst C d_Mo_gram_212 (pc' := 213) rfl (v := 2) (by decide) ?_
  refine pj_aload_n C d_Mo_gram_213 (pc' := 214) (i := 0) (x := b + 217) rfl rfl rfl ?_
  refine fg_Model_221_Model C tk_217 d_Mo_gram_214 (pc' := 217) rfl ?_
  refine pj_iast C (pj_lt tk_226 (by decide)) (fun E u => ka_22 tk_226) d_Mo_gram_217 (pc' := 218) rfl h (fun u1 h => ?_)
  refine pj_aload_n C d_Mo_gram_218 (pc' := 219) (i := 0) (x := b + 217) rfl rfl rfl ?_
  refine pj_aload_n C d_Mo_gram_219 (pc' := 220) (i := 0) (x := b + 217) rfl rfl rfl ?_
  refine fg_Model_224_Model C tk_217 d_Mo_gram_220 (pc' := 223) rfl ?_
  refine pj_aload_n C d_Mo_gram_223 (pc' := 224) (i := 0) (x := b + 217) rfl rfl rfl ?_
  refine pj_iload_n C d_Mo_gram_224 (pc' := 225) (i := 3) (x := x3) rfl rfl rfl ?_
  refine ck_Model_260_Model C  h d_Mo_gram_225 (pc' := 228) rfl ⟨Nat.le_of_ble_eq_true rfl, Nat.le_of_ble_eq_true rfl⟩ (Nat.le_of_ble_eq_true rfl) (fun r3 u2 h => ?_)
  refine ck_Model_264_Model C  h d_Mo_gram_228 (pc' := 231) rfl ⟨Nat.le_of_ble_eq_true rfl, Nat.le_of_ble_eq_true rfl⟩ (Nat.le_of_ble_eq_true rfl) (fun u4 h => ?_)
  exact pj_vret C hE d_Mo_gram_231 ⟨rfl, h⟩
def pb_Mo_gram_197 (R191 : pj_M → Int32 → Prop) (K : pj_M → Prop) (u : pj_M) (x3 : Int32) (x6 : Int32) : Prop := pw_Mo_toRow u 0 fun u1 => (R191 u1 (x6 + 1))
set_option maxHeartbeats 1000000 in
theorem pt_Mo_gram_197 {g : pj_G} {b : Nat} (C : pj_X g c_Mo_gram 7 R_Mo none rm_Mo_gram) {K : pj_M → Prop} (hE : pj_E g b (pj_Kv K)) {R191 : pj_M → Int32 → Prop}  {u : pj_M} {x3 : Int32} {x6 : Int32} (hR191 : ∀ (u : pj_M) (x6 : Int32), R191 u x6 → pj_J g (pj_N g b u) 191 [some (.ref (b + 217)), none, none, some (.int x3), none, none, some (.int x6)] [])  (h : pb_Mo_gram_197 R191 K u x3 x6) : pj_J g (pj_N g b u) 197 [some (.ref (b + 217)), none, none, some (.int x3), none, none, some (.int x6)] [] := by
  unfold pb_Mo_gram_197 at h
  refine pj_aload_n C d_Mo_gram_197 (pc' := 198) (i := 0) (x := b + 217) rfl rfl rfl ?_
  refine pj_iconst C d_Mo_gram_198 (pc' := 199) rfl (v := 0) (by decide) ?_
  refine ck_Model_239_Model C  h d_Mo_gram_199 (pc' := 202) rfl ⟨Nat.le_of_ble_eq_true rfl, Nat.le_of_ble_eq_true rfl⟩ (Nat.le_of_ble_eq_true rfl) (fun u1 h => ?_)
  refine pj_iinc C d_Mo_gram_202 (pc' := 205) (x := x6) (d := 1) (vs' := [some (.ref (b + 217)), none, none, some (.int x3), none, none, some (.int (x6 + 1))]) rfl rfl (Nat.le_of_ble_eq_true rfl) rfl (by decide) rfl ?_
  refine pj_goto C d_Mo_gram_205 (tgt := 191) (by decide) ?_
  exact pj_cut (pj_le_s (pj_le_n (pj_le_n (pj_le_s (pj_le_n (pj_le_n (pj_le_s pj_le_e))))))) (hR191 _ _ h)
def pb_Mo_gram_191b (R191 : pj_M → Int32 → Prop) (K : pj_M → Prop) (u : pj_M) (x3 : Int32) (x6 : Int32) : Prop := ((4 ≤ x6) → (pb_Mo_gram_208  K u x3)) ∧ (¬ (4 ≤ x6) → (pb_Mo_gram_197 R191 K u x3 x6))
set_option maxHeartbeats 1000000 in
theorem pt_Mo_gram_191b {g : pj_G} {b : Nat} (C : pj_X g c_Mo_gram 7 R_Mo none rm_Mo_gram) {K : pj_M → Prop} (hE : pj_E g b (pj_Kv K)) {R191 : pj_M → Int32 → Prop}  {u : pj_M} {x3 : Int32} {x6 : Int32} (hR191 : ∀ (u : pj_M) (x6 : Int32), R191 u x6 → pj_J g (pj_N g b u) 191 [some (.ref (b + 217)), none, none, some (.int x3), none, none, some (.int x6)] [])  (h : pb_Mo_gram_191b R191 K u x3 x6) : pj_J g (pj_N g b u) 191 [some (.ref (b + 217)), none, none, some (.int x3), none, none, some (.int x6)] [] := by
  unfold pb_Mo_gram_191b at h
  refine pj_iload C d_Mo_gram_191 (pc' := 193) (i := 6) (x := x6) rfl rfl ?_
  refine pj_iconst C d_Mo_gram_193 (pc' := 194) rfl (v := 4) (by decide) ?_
  refine pj_icmp_ge C d_Mo_gram_194 (pc' := 197) rfl (tgt := 208) (by decide) h (fun h => ?_) (fun h => ?_)
  · exact pj_cut (pj_le_s (pj_le_n (pj_le_n (pj_le_s (pj_le_n (pj_le_n (pj_le_n pj_le_e))))))) (pt_Mo_gram_208 C hE   h)
  · exact pj_cut (pj_le_s (pj_le_n (pj_le_n (pj_le_s (pj_le_n (pj_le_n (pj_le_s pj_le_e))))))) (pt_Mo_gram_197 C hE hR191  h)
def pb_Mo_gram_191  (K : pj_M → Prop) (x3 : Int32) : Nat → pj_M → Int32 → Prop
  | 0 => fun _ _ => False
  | n + 1 => fun u x6 => pb_Mo_gram_191b (pb_Mo_gram_191  K x3 n) K u x3 x6
theorem pt_Mo_gram_191 {g : pj_G} {b : Nat} (C : pj_X g c_Mo_gram 7 R_Mo none rm_Mo_gram) {K : pj_M → Prop} (hE : pj_E g b (pj_Kv K))  {x3 : Int32}   : ∀ (n : Nat) (u : pj_M) (x6 : Int32), pb_Mo_gram_191  K x3 n u x6 → pj_J g (pj_N g b u) 191 [some (.ref (b + 217)), none, none, some (.int x3), none, none, some (.int x6)] [] := by
  intro n
  induction n with
  | zero => intro u x6 h; exact False.elim h
  | succ n ih =>
    intro u x6 h
    exact (pt_Mo_gram_191b C hE ih  h)
def pb_Mo_gram_168  (K : pj_M → Prop) (u : pj_M) (x3 : Int32) : Prop := pw_Mo_toRow u 80 fun u1 => (pw_Mo_toRow u1 6 fun u2 => (pj_put u2 217 15 (u2 217 11) fun u3 => (∃ n, pb_Mo_gram_191  K x3 n u3 0)))
set_option maxHeartbeats 1000000 in
theorem pt_Mo_gram_168 {g : pj_G} {b : Nat} (C : pj_X g c_Mo_gram 7 R_Mo none rm_Mo_gram) {K : pj_M → Prop} (hE : pj_E g b (pj_Kv K))   {u : pj_M} {x3 : Int32}   (h : pb_Mo_gram_168  K u x3) : pj_J g (pj_N g b u) 168 [some (.ref (b + 217)), none, none, some (.int x3), none, none, none] [] := by
  unfold pb_Mo_gram_168 at h
  refine pj_aload_n C d_Mo_gram_168 (pc' := 169) (i := 0) (x := b + 217) rfl rfl rfl ?_
  refine pj_bipush C d_Mo_gram_169 (pc' := 171) rfl (v := 80) (by decide) ?_
  refine ck_Model_239_Model C  h d_Mo_gram_171 (pc' := 174) rfl ⟨Nat.le_of_ble_eq_true rfl, Nat.le_of_ble_eq_true rfl⟩ (Nat.le_of_ble_eq_true rfl) (fun u1 h => ?_)
  refine pj_aload_n C d_Mo_gram_174 (pc' := 175) (i := 0) (x := b + 217) rfl rfl rfl ?_
  refine pj_bipush C d_Mo_gram_175 (pc' := 177) rfl (v := 6) (by decide) ?_
  refine ck_Model_239_Model C  h d_Mo_gram_177 (pc' := 180) rfl ⟨Nat.le_of_ble_eq_true rfl, Nat.le_of_ble_eq_true rfl⟩ (Nat.le_of_ble_eq_true rfl) (fun u2 h => ?_)
  refine pj_aload_n C d_Mo_gram_180 (pc' := 181) (i := 0) (x := b + 217) rfl rfl rfl ?_
  refine pj_aload_n C d_Mo_gram_181 (pc' := 182) (i := 0) (x := b + 217) rfl rfl rfl ?_
  refine fg_Model_221_Model C tk_217 d_Mo_gram_182 (pc' := 185) rfl ?_
  refine fp_Model_224_Model C tk_217  d_Mo_gram_185 (pc' := 188) rfl h (fun u3 h => ?_)
  refine pj_iconst C d_Mo_gram_188 (pc' := 189) rfl (v := 0) (by decide) ?_
  refine pj_istore C d_Mo_gram_189 (pc' := 191) (i := 6) (vs' := [some (.ref (b + 217)), none, none, some (.int x3), none, none, some (.int 0)]) rfl (Nat.le_of_ble_eq_true rfl) (Nat.le_of_ble_eq_true rfl) rfl rfl ?_
  obtain ⟨n, h⟩ := h
  exact pj_cut (pj_le_s (pj_le_n (pj_le_n (pj_le_s (pj_le_n (pj_le_n (pj_le_s pj_le_e))))))) (pt_Mo_gram_191 C hE   n _ _ h)
def pb_Mo_gram_151 (R98 : pj_M → Int32 → Prop) (K : pj_M → Prop) (u : pj_M) (x3 : Int32) (x6 : Int32) : Prop := vp_in x6 48 ∧ (pw_Mo_toRow u (u 227 x6.toNatClampNeg) fun u1 => (R98 u1 (x6 + 1)))
set_option maxHeartbeats 1000000 in
theorem pt_Mo_gram_151 {g : pj_G} {b : Nat} (C : pj_X g c_Mo_gram 7 R_Mo none rm_Mo_gram) {K : pj_M → Prop} (hE : pj_E g b (pj_Kv K)) {R98 : pj_M → Int32 → Prop}  {u : pj_M} {x3 : Int32} {x6 : Int32} (hR98 : ∀ (u : pj_M) (x6 : Int32), R98 u x6 → pj_J g (pj_N g b u) 98 [some (.ref (b + 217)), none, none, some (.int x3), none, none, some (.int x6)] [])  (h : pb_Mo_gram_151 R98 K u x3 x6) : pj_J g (pj_N g b u) 151 [some (.ref (b + 217)), none, none, some (.int x3), none, none, some (.int x6)] [] := by
  unfold pb_Mo_gram_151 at h
  refine pj_aload_n C d_Mo_gram_151 (pc' := 152) (i := 0) (x := b + 217) rfl rfl rfl ?_
  refine pj_aload_n C d_Mo_gram_152 (pc' := 153) (i := 0) (x := b + 217) rfl rfl rfl ?_
  refine fg_Model_38_Model C tk_217 d_Mo_gram_153 (pc' := 156) rfl ?_
  refine pj_iload C d_Mo_gram_156 (pc' := 158) (i := 6) (x := x6) rfl rfl ?_
  refine pj_iald C (pj_lt tk_227 (by decide)) (fun E u => ka_22 tk_227) d_Mo_gram_158 (pc' := 159) rfl h (fun h => ?_)
  refine ck_Model_239_Model C  h d_Mo_gram_159 (pc' := 162) rfl ⟨Nat.le_of_ble_eq_true rfl, Nat.le_of_ble_eq_true rfl⟩ (Nat.le_of_ble_eq_true rfl) (fun u1 h => ?_)
  refine pj_iinc C d_Mo_gram_162 (pc' := 165) (x := x6) (d := 1) (vs' := [some (.ref (b + 217)), none, none, some (.int x3), none, none, some (.int (x6 + 1))]) rfl rfl (Nat.le_of_ble_eq_true rfl) rfl (by decide) rfl ?_
  refine pj_goto C d_Mo_gram_165 (tgt := 98) (by decide) ?_
  exact pj_cut (pj_le_s (pj_le_n (pj_le_n (pj_le_s (pj_le_n (pj_le_n (pj_le_s pj_le_e))))))) (hR98 _ _ h)
def pb_Mo_gram_147 (R98 : pj_M → Int32 → Prop) (K : pj_M → Prop) (u : pj_M) (x3 : Int32) (x6 : Int32) (s0 : Int32) (s1 : Int32) : Prop := pw_Mo_toRow u (s1 + s0) fun u1 => (pb_Mo_gram_151 R98 K u1 x3 x6)
set_option maxHeartbeats 1000000 in
theorem pt_Mo_gram_147 {g : pj_G} {b : Nat} (C : pj_X g c_Mo_gram 7 R_Mo none rm_Mo_gram) {K : pj_M → Prop} (hE : pj_E g b (pj_Kv K)) {R98 : pj_M → Int32 → Prop}  {u : pj_M} {x3 : Int32} {x6 : Int32} {s0 : Int32} {s1 : Int32} (hR98 : ∀ (u : pj_M) (x6 : Int32), R98 u x6 → pj_J g (pj_N g b u) 98 [some (.ref (b + 217)), none, none, some (.int x3), none, none, some (.int x6)] [])  (h : pb_Mo_gram_147 R98 K u x3 x6 s0 s1) : pj_J g (pj_N g b u) 147 [some (.ref (b + 217)), none, none, some (.int x3), none, none, some (.int x6)] [.int s0, .int s1, .ref (b + 217)] := by
  unfold pb_Mo_gram_147 at h
  refine pj_iadd C d_Mo_gram_147 (pc' := 148) rfl ?_
  refine ck_Model_239_Model C  h d_Mo_gram_148 (pc' := 151) rfl ⟨Nat.le_of_ble_eq_true rfl, Nat.le_of_ble_eq_true rfl⟩ (Nat.le_of_ble_eq_true rfl) (fun u1 h => ?_)
  exact pj_cut (pj_le_s (pj_le_n (pj_le_n (pj_le_s (pj_le_n (pj_le_n (pj_le_s pj_le_e))))))) (pt_Mo_gram_151 C hE hR98  h)
def pb_Mo_gram_145 (R98 : pj_M → Int32 → Prop) (K : pj_M → Prop) (u : pj_M) (x3 : Int32) (x6 : Int32) (s0 : Int32) : Prop := pb_Mo_gram_147 R98 K u x3 x6 8 s0
set_option maxHeartbeats 1000000 in
theorem pt_Mo_gram_145 {g : pj_G} {b : Nat} (C : pj_X g c_Mo_gram 7 R_Mo none rm_Mo_gram) {K : pj_M → Prop} (hE : pj_E g b (pj_Kv K)) {R98 : pj_M → Int32 → Prop}  {u : pj_M} {x3 : Int32} {x6 : Int32} {s0 : Int32} (hR98 : ∀ (u : pj_M) (x6 : Int32), R98 u x6 → pj_J g (pj_N g b u) 98 [some (.ref (b + 217)), none, none, some (.int x3), none, none, some (.int x6)] [])  (h : pb_Mo_gram_145 R98 K u x3 x6 s0) : pj_J g (pj_N g b u) 145 [some (.ref (b + 217)), none, none, some (.int x3), none, none, some (.int x6)] [.int s0, .ref (b + 217)] := by
  unfold pb_Mo_gram_145 at h
  refine pj_bipush C d_Mo_gram_145 (pc' := 147) rfl (v := 8) (by decide) ?_
  exact pj_cut (pj_le_s (pj_le_n (pj_le_n (pj_le_s (pj_le_n (pj_le_n (pj_le_s pj_le_e))))))) (pt_Mo_gram_147 C hE hR98  h)
def pb_Mo_gram_135 (R98 : pj_M → Int32 → Prop) (K : pj_M → Prop) (u : pj_M) (x3 : Int32) (x6 : Int32) (s0 : Int32) : Prop := pb_Mo_gram_147 R98 K u x3 x6 ((u 217 16) - x6) s0
set_option maxHeartbeats 1000000 in
theorem pt_Mo_gram_135 {g : pj_G} {b : Nat} (C : pj_X g c_Mo_gram 7 R_Mo none rm_Mo_gram) {K : pj_M → Prop} (hE : pj_E g b (pj_Kv K)) {R98 : pj_M → Int32 → Prop}  {u : pj_M} {x3 : Int32} {x6 : Int32} {s0 : Int32} (hR98 : ∀ (u : pj_M) (x6 : Int32), R98 u x6 → pj_J g (pj_N g b u) 98 [some (.ref (b + 217)), none, none, some (.int x3), none, none, some (.int x6)] [])  (h : pb_Mo_gram_135 R98 K u x3 x6 s0) : pj_J g (pj_N g b u) 135 [some (.ref (b + 217)), none, none, some (.int x3), none, none, some (.int x6)] [.int s0, .ref (b + 217)] := by
  unfold pb_Mo_gram_135 at h
  refine pj_aload_n C d_Mo_gram_135 (pc' := 136) (i := 0) (x := b + 217) rfl rfl rfl ?_
  refine fg_Model_233_Model C tk_217 d_Mo_gram_136 (pc' := 139) rfl ?_
  refine pj_iload C d_Mo_gram_139 (pc' := 141) (i := 6) (x := x6) rfl rfl ?_
  refine pj_isub C d_Mo_gram_141 (pc' := 142) rfl ?_
  refine pj_goto C d_Mo_gram_142 (tgt := 147) (by decide) ?_
  exact pj_cut (pj_le_s (pj_le_n (pj_le_n (pj_le_s (pj_le_n (pj_le_n (pj_le_s pj_le_e))))))) (pt_Mo_gram_147 C hE hR98  h)
def pb_Mo_gram_115 (R98 : pj_M → Int32 → Prop) (K : pj_M → Prop) (u : pj_M) (x3 : Int32) (x6 : Int32) : Prop := pw_Mo_toRow u 79 fun u1 => (((8 ≤ ((u1 217 16) - x6)) → (pb_Mo_gram_145 R98 K u1 x3 x6 2)) ∧ (¬ (8 ≤ ((u1 217 16) - x6)) → (pb_Mo_gram_135 R98 K u1 x3 x6 2)))
set_option maxHeartbeats 1000000 in
theorem pt_Mo_gram_115 {g : pj_G} {b : Nat} (C : pj_X g c_Mo_gram 7 R_Mo none rm_Mo_gram) {K : pj_M → Prop} (hE : pj_E g b (pj_Kv K)) {R98 : pj_M → Int32 → Prop}  {u : pj_M} {x3 : Int32} {x6 : Int32} (hR98 : ∀ (u : pj_M) (x6 : Int32), R98 u x6 → pj_J g (pj_N g b u) 98 [some (.ref (b + 217)), none, none, some (.int x3), none, none, some (.int x6)] [])  (h : pb_Mo_gram_115 R98 K u x3 x6) : pj_J g (pj_N g b u) 115 [some (.ref (b + 217)), none, none, some (.int x3), none, none, some (.int x6)] [] := by
  unfold pb_Mo_gram_115 at h
  refine pj_aload_n C d_Mo_gram_115 (pc' := 116) (i := 0) (x := b + 217) rfl rfl rfl ?_
  refine pj_bipush C d_Mo_gram_116 (pc' := 118) rfl (v := 79) (by decide) ?_
  refine ck_Model_239_Model C  h d_Mo_gram_118 (pc' := 121) rfl ⟨Nat.le_of_ble_eq_true rfl, Nat.le_of_ble_eq_true rfl⟩ (Nat.le_of_ble_eq_true rfl) (fun u1 h => ?_)
  refine pj_aload_n C d_Mo_gram_121 (pc' := 122) (i := 0) (x := b + 217) rfl rfl rfl ?_
  refine pj_iconst C d_Mo_gram_122 (pc' := 123) rfl (v := 2) (by decide) ?_
  refine pj_aload_n C d_Mo_gram_123 (pc' := 124) (i := 0) (x := b + 217) rfl rfl rfl ?_
  refine fg_Model_233_Model C tk_217 d_Mo_gram_124 (pc' := 127) rfl ?_
  refine pj_iload C d_Mo_gram_127 (pc' := 129) (i := 6) (x := x6) rfl rfl ?_
  refine pj_isub C d_Mo_gram_129 (pc' := 130) rfl ?_
  refine pj_bipush C d_Mo_gram_130 (pc' := 132) rfl (v := 8) (by decide) ?_
  refine pj_icmp_ge C d_Mo_gram_132 (pc' := 135) rfl (tgt := 145) (by decide) h (fun h => ?_) (fun h => ?_)
  · exact pj_cut (pj_le_s (pj_le_n (pj_le_n (pj_le_s (pj_le_n (pj_le_n (pj_le_s pj_le_e))))))) (pt_Mo_gram_145 C hE hR98  h)
  · exact pj_cut (pj_le_s (pj_le_n (pj_le_n (pj_le_s (pj_le_n (pj_le_n (pj_le_s pj_le_e))))))) (pt_Mo_gram_135 C hE hR98  h)
def pb_Mo_gram_107 (R98 : pj_M → Int32 → Prop) (K : pj_M → Prop) (u : pj_M) (x3 : Int32) (x6 : Int32) : Prop := (((x6 - x6 / 8 * 8) = 0) → (pb_Mo_gram_115 R98 K u x3 x6)) ∧ (¬ ((x6 - x6 / 8 * 8) = 0) → (pb_Mo_gram_151 R98 K u x3 x6))
set_option maxHeartbeats 1000000 in
theorem pt_Mo_gram_107 {g : pj_G} {b : Nat} (C : pj_X g c_Mo_gram 7 R_Mo none rm_Mo_gram) {K : pj_M → Prop} (hE : pj_E g b (pj_Kv K)) {R98 : pj_M → Int32 → Prop}  {u : pj_M} {x3 : Int32} {x6 : Int32} (hR98 : ∀ (u : pj_M) (x6 : Int32), R98 u x6 → pj_J g (pj_N g b u) 98 [some (.ref (b + 217)), none, none, some (.int x3), none, none, some (.int x6)] [])  (h : pb_Mo_gram_107 R98 K u x3 x6) : pj_J g (pj_N g b u) 107 [some (.ref (b + 217)), none, none, some (.int x3), none, none, some (.int x6)] [] := by
  unfold pb_Mo_gram_107 at h
  refine pj_iload C d_Mo_gram_107 (pc' := 109) (i := 6) (x := x6) rfl rfl ?_
  refine pj_bipush C d_Mo_gram_109 (pc' := 111) rfl (v := 8) (by decide) ?_
  refine pj_irem C d_Mo_gram_111 (pc' := 112) rfl (by decide) ?_
  refine pj_if_ne C d_Mo_gram_112 (pc' := 115) rfl (tgt := 151) (by decide) h (fun h => ?_) (fun h => ?_)
  · exact pj_cut (pj_le_s (pj_le_n (pj_le_n (pj_le_s (pj_le_n (pj_le_n (pj_le_s pj_le_e))))))) (pt_Mo_gram_151 C hE hR98  h)
  · exact pj_cut (pj_le_s (pj_le_n (pj_le_n (pj_le_s (pj_le_n (pj_le_n (pj_le_s pj_le_e))))))) (pt_Mo_gram_115 C hE hR98  h)
def pb_Mo_gram_98b (R98 : pj_M → Int32 → Prop) (K : pj_M → Prop) (u : pj_M) (x3 : Int32) (x6 : Int32) : Prop := (((u 217 16) ≤ x6) → (pb_Mo_gram_168  K u x3)) ∧ (¬ ((u 217 16) ≤ x6) → (pb_Mo_gram_107 R98 K u x3 x6))
set_option maxHeartbeats 1000000 in
theorem pt_Mo_gram_98b {g : pj_G} {b : Nat} (C : pj_X g c_Mo_gram 7 R_Mo none rm_Mo_gram) {K : pj_M → Prop} (hE : pj_E g b (pj_Kv K)) {R98 : pj_M → Int32 → Prop}  {u : pj_M} {x3 : Int32} {x6 : Int32} (hR98 : ∀ (u : pj_M) (x6 : Int32), R98 u x6 → pj_J g (pj_N g b u) 98 [some (.ref (b + 217)), none, none, some (.int x3), none, none, some (.int x6)] [])  (h : pb_Mo_gram_98b R98 K u x3 x6) : pj_J g (pj_N g b u) 98 [some (.ref (b + 217)), none, none, some (.int x3), none, none, some (.int x6)] [] := by
  unfold pb_Mo_gram_98b at h
  refine pj_iload C d_Mo_gram_98 (pc' := 100) (i := 6) (x := x6) rfl rfl ?_
  refine pj_aload_n C d_Mo_gram_100 (pc' := 101) (i := 0) (x := b + 217) rfl rfl rfl ?_
  refine fg_Model_233_Model C tk_217 d_Mo_gram_101 (pc' := 104) rfl ?_
  refine pj_icmp_ge C d_Mo_gram_104 (pc' := 107) rfl (tgt := 168) (by decide) h (fun h => ?_) (fun h => ?_)
  · exact pj_cut (pj_le_s (pj_le_n (pj_le_n (pj_le_s (pj_le_n (pj_le_n (pj_le_n pj_le_e))))))) (pt_Mo_gram_168 C hE   h)
  · exact pj_cut (pj_le_s (pj_le_n (pj_le_n (pj_le_s (pj_le_n (pj_le_n (pj_le_s pj_le_e))))))) (pt_Mo_gram_107 C hE hR98  h)
def pb_Mo_gram_98  (K : pj_M → Prop) (x3 : Int32) : Nat → pj_M → Int32 → Prop
  | 0 => fun _ _ => False
  | n + 1 => fun u x6 => pb_Mo_gram_98b (pb_Mo_gram_98  K x3 n) K u x3 x6
theorem pt_Mo_gram_98 {g : pj_G} {b : Nat} (C : pj_X g c_Mo_gram 7 R_Mo none rm_Mo_gram) {K : pj_M → Prop} (hE : pj_E g b (pj_Kv K))  {x3 : Int32}   : ∀ (n : Nat) (u : pj_M) (x6 : Int32), pb_Mo_gram_98  K x3 n u x6 → pj_J g (pj_N g b u) 98 [some (.ref (b + 217)), none, none, some (.int x3), none, none, some (.int x6)] [] := by
  intro n
  induction n with
  | zero => intro u x6 h; exact False.elim h
  | succ n ih =>
    intro u x6 h
    exact (pt_Mo_gram_98b C hE ih  h)
def pb_Mo_gram_95  (K : pj_M → Prop) (u : pj_M) (x3 : Int32) : Prop := ∃ n, pb_Mo_gram_98  K x3 n u 0
set_option maxHeartbeats 1000000 in
theorem pt_Mo_gram_95 {g : pj_G} {b : Nat} (C : pj_X g c_Mo_gram 7 R_Mo none rm_Mo_gram) {K : pj_M → Prop} (hE : pj_E g b (pj_Kv K))   {u : pj_M} {x3 : Int32}   (h : pb_Mo_gram_95  K u x3) : pj_J g (pj_N g b u) 95 [some (.ref (b + 217)), none, none, some (.int x3), none, none, none] [] := by
  unfold pb_Mo_gram_95 at h
  refine pj_iconst C d_Mo_gram_95 (pc' := 96) rfl (v := 0) (by decide) ?_
  refine pj_istore C d_Mo_gram_96 (pc' := 98) (i := 6) (vs' := [some (.ref (b + 217)), none, none, some (.int x3), none, none, some (.int 0)]) rfl (Nat.le_of_ble_eq_true rfl) (Nat.le_of_ble_eq_true rfl) rfl rfl ?_
  obtain ⟨n, h⟩ := h
  exact pj_cut (pj_le_s (pj_le_n (pj_le_n (pj_le_s (pj_le_n (pj_le_n (pj_le_s pj_le_e))))))) (pt_Mo_gram_98 C hE   n _ _ h)
def pb_Mo_gram_69  (K : pj_M → Prop) (u : pj_M) (x3 : Int32) (x5 : Int32) : Prop := pw_Mo_toRow u 24 fun u1 => (pw_Mo_toRow u1 4 fun u2 => (pw_Mo_toRow u2 (x5 >>> (8 &&& 31)) fun u3 => (pw_Mo_toRow u3 x5 fun u4 => (pb_Mo_gram_95  K u4 x3))))
set_option maxHeartbeats 1000000 in
theorem pt_Mo_gram_69 {g : pj_G} {b : Nat} (C : pj_X g c_Mo_gram 7 R_Mo none rm_Mo_gram) {K : pj_M → Prop} (hE : pj_E g b (pj_Kv K))   {u : pj_M} {x3 : Int32} {x5 : Int32}   (h : pb_Mo_gram_69  K u x3 x5) : pj_J g (pj_N g b u) 69 [some (.ref (b + 217)), none, none, some (.int x3), none, some (.int x5), none] [] := by
  unfold pb_Mo_gram_69 at h
  refine pj_aload_n C d_Mo_gram_69 (pc' := 70) (i := 0) (x := b + 217) rfl rfl rfl ?_
  refine pj_bipush C d_Mo_gram_70 (pc' := 72) rfl (v := 24) (by decide) ?_
  refine ck_Model_239_Model C  h d_Mo_gram_72 (pc' := 75) rfl ⟨Nat.le_of_ble_eq_true rfl, Nat.le_of_ble_eq_true rfl⟩ (Nat.le_of_ble_eq_true rfl) (fun u1 h => ?_)
  refine pj_aload_n C d_Mo_gram_75 (pc' := 76) (i := 0) (x := b + 217) rfl rfl rfl ?_
  refine pj_iconst C d_Mo_gram_76 (pc' := 77) rfl (v := 4) (by decide) ?_
  refine ck_Model_239_Model C  h d_Mo_gram_77 (pc' := 80) rfl ⟨Nat.le_of_ble_eq_true rfl, Nat.le_of_ble_eq_true rfl⟩ (Nat.le_of_ble_eq_true rfl) (fun u2 h => ?_)
  refine pj_aload_n C d_Mo_gram_80 (pc' := 81) (i := 0) (x := b + 217) rfl rfl rfl ?_
  refine pj_iload C d_Mo_gram_81 (pc' := 83) (i := 5) (x := x5) rfl rfl ?_
  refine pj_bipush C d_Mo_gram_83 (pc' := 85) rfl (v := 8) (by decide) ?_
  refine pj_ishr C d_Mo_gram_85 (pc' := 86) rfl ?_
  refine ck_Model_239_Model C  h d_Mo_gram_86 (pc' := 89) rfl ⟨Nat.le_of_ble_eq_true rfl, Nat.le_of_ble_eq_true rfl⟩ (Nat.le_of_ble_eq_true rfl) (fun u3 h => ?_)
  refine pj_aload_n C d_Mo_gram_89 (pc' := 90) (i := 0) (x := b + 217) rfl rfl rfl ?_
  refine pj_iload C d_Mo_gram_90 (pc' := 92) (i := 5) (x := x5) rfl rfl ?_
  refine ck_Model_239_Model C  h d_Mo_gram_92 (pc' := 95) rfl ⟨Nat.le_of_ble_eq_true rfl, Nat.le_of_ble_eq_true rfl⟩ (Nat.le_of_ble_eq_true rfl) (fun u4 h => ?_)
  exact pj_cut (pj_le_s (pj_le_n (pj_le_n (pj_le_s (pj_le_n (pj_le_n (pj_le_n pj_le_e))))))) (pt_Mo_gram_95 C hE   h)
def pb_Mo_gram_64  (K : pj_M → Prop) (u : pj_M) (x3 : Int32) (x5 : Int32) : Prop := ((x5 < 0) → (pb_Mo_gram_95  K u x3)) ∧ (¬ (x5 < 0) → (pb_Mo_gram_69  K u x3 x5))
set_option maxHeartbeats 1000000 in
theorem pt_Mo_gram_64 {g : pj_G} {b : Nat} (C : pj_X g c_Mo_gram 7 R_Mo none rm_Mo_gram) {K : pj_M → Prop} (hE : pj_E g b (pj_Kv K))   {u : pj_M} {x3 : Int32} {x5 : Int32}   (h : pb_Mo_gram_64  K u x3 x5) : pj_J g (pj_N g b u) 64 [some (.ref (b + 217)), none, none, some (.int x3), none, some (.int x5), none] [] := by
  unfold pb_Mo_gram_64 at h
  refine pj_iload C d_Mo_gram_64 (pc' := 66) (i := 5) (x := x5) rfl rfl ?_
  refine pj_if_lt C d_Mo_gram_66 (pc' := 69) rfl (tgt := 95) (by decide) h (fun h => ?_) (fun h => ?_)
  · exact pj_cut (pj_le_s (pj_le_n (pj_le_n (pj_le_s (pj_le_n (pj_le_n (pj_le_n pj_le_e))))))) (pt_Mo_gram_95 C hE   h)
  · exact pj_cut (pj_le_s (pj_le_n (pj_le_n (pj_le_s (pj_le_n (pj_le_s (pj_le_n pj_le_e))))))) (pt_Mo_gram_69 C hE   h)
def pb_Mo_gram_48  (K : pj_M → Prop) (u : pj_M) (x3 : Int32) (x4 : Int32) (x5 : Int32) : Prop := pw_Mo_toRow u 1 fun u1 => (pw_Mo_toRow u1 3 fun u2 => (pw_Mo_toRow u2 x4 fun u3 => (pb_Mo_gram_64  K u3 x3 x5)))
set_option maxHeartbeats 1000000 in
theorem pt_Mo_gram_48 {g : pj_G} {b : Nat} (C : pj_X g c_Mo_gram 7 R_Mo none rm_Mo_gram) {K : pj_M → Prop} (hE : pj_E g b (pj_Kv K))   {u : pj_M} {x3 : Int32} {x4 : Int32} {x5 : Int32}   (h : pb_Mo_gram_48  K u x3 x4 x5) : pj_J g (pj_N g b u) 48 [some (.ref (b + 217)), none, none, some (.int x3), some (.int x4), some (.int x5), none] [] := by
  unfold pb_Mo_gram_48 at h
  refine pj_aload_n C d_Mo_gram_48 (pc' := 49) (i := 0) (x := b + 217) rfl rfl rfl ?_
  refine pj_iconst C d_Mo_gram_49 (pc' := 50) rfl (v := 1) (by decide) ?_
  refine ck_Model_239_Model C  h d_Mo_gram_50 (pc' := 53) rfl ⟨Nat.le_of_ble_eq_true rfl, Nat.le_of_ble_eq_true rfl⟩ (Nat.le_of_ble_eq_true rfl) (fun u1 h => ?_)
  refine pj_aload_n C d_Mo_gram_53 (pc' := 54) (i := 0) (x := b + 217) rfl rfl rfl ?_
  refine pj_iconst C d_Mo_gram_54 (pc' := 55) rfl (v := 3) (by decide) ?_
  refine ck_Model_239_Model C  h d_Mo_gram_55 (pc' := 58) rfl ⟨Nat.le_of_ble_eq_true rfl, Nat.le_of_ble_eq_true rfl⟩ (Nat.le_of_ble_eq_true rfl) (fun u2 h => ?_)
  refine pj_aload_n C d_Mo_gram_58 (pc' := 59) (i := 0) (x := b + 217) rfl rfl rfl ?_
  refine pj_iload C d_Mo_gram_59 (pc' := 61) (i := 4) (x := x4) rfl rfl ?_
  refine ck_Model_239_Model C  h d_Mo_gram_61 (pc' := 64) rfl ⟨Nat.le_of_ble_eq_true rfl, Nat.le_of_ble_eq_true rfl⟩ (Nat.le_of_ble_eq_true rfl) (fun u3 h => ?_)
  exact pj_cut (pj_le_s (pj_le_n (pj_le_n (pj_le_s (pj_le_n (pj_le_s (pj_le_n pj_le_e))))))) (pt_Mo_gram_64 C hE   h)
def pb_Mo_gram_43  (K : pj_M → Prop) (u : pj_M) (x3 : Int32) (x4 : Int32) (x5 : Int32) : Prop := ((x4 < 0) → (pb_Mo_gram_64  K u x3 x5)) ∧ (¬ (x4 < 0) → (pb_Mo_gram_48  K u x3 x4 x5))
set_option maxHeartbeats 1000000 in
theorem pt_Mo_gram_43 {g : pj_G} {b : Nat} (C : pj_X g c_Mo_gram 7 R_Mo none rm_Mo_gram) {K : pj_M → Prop} (hE : pj_E g b (pj_Kv K))   {u : pj_M} {x3 : Int32} {x4 : Int32} {x5 : Int32}   (h : pb_Mo_gram_43  K u x3 x4 x5) : pj_J g (pj_N g b u) 43 [some (.ref (b + 217)), none, none, some (.int x3), some (.int x4), some (.int x5), none] [] := by
  unfold pb_Mo_gram_43 at h
  refine pj_iload C d_Mo_gram_43 (pc' := 45) (i := 4) (x := x4) rfl rfl ?_
  refine pj_if_lt C d_Mo_gram_45 (pc' := 48) rfl (tgt := 64) (by decide) h (fun h => ?_) (fun h => ?_)
  · exact pj_cut (pj_le_s (pj_le_n (pj_le_n (pj_le_s (pj_le_n (pj_le_s (pj_le_n pj_le_e))))))) (pt_Mo_gram_64 C hE   h)
  · exact pj_cut (pj_le_s (pj_le_n (pj_le_n (pj_le_s (pj_le_s (pj_le_s (pj_le_n pj_le_e))))))) (pt_Mo_gram_48 C hE   h)
def pb_Mo_gram_29 (R24 : pj_M → Int32 → Prop) (K : pj_M → Prop) (u : pj_M) (x3 : Int32) (x4 : Int32) (x5 : Int32) (x6 : Int32) : Prop := pw_Mo_toRow u (x3 >>> (x6 &&& 31)) fun u1 => (R24 u1 (x6 + (-8)))
set_option maxHeartbeats 1000000 in
theorem pt_Mo_gram_29 {g : pj_G} {b : Nat} (C : pj_X g c_Mo_gram 7 R_Mo none rm_Mo_gram) {K : pj_M → Prop} (hE : pj_E g b (pj_Kv K)) {R24 : pj_M → Int32 → Prop}  {u : pj_M} {x3 : Int32} {x4 : Int32} {x5 : Int32} {x6 : Int32} (hR24 : ∀ (u : pj_M) (x6 : Int32), R24 u x6 → pj_J g (pj_N g b u) 24 [some (.ref (b + 217)), none, none, some (.int x3), some (.int x4), some (.int x5), some (.int x6)] [])  (h : pb_Mo_gram_29 R24 K u x3 x4 x5 x6) : pj_J g (pj_N g b u) 29 [some (.ref (b + 217)), none, none, some (.int x3), some (.int x4), some (.int x5), some (.int x6)] [] := by
  unfold pb_Mo_gram_29 at h
  refine pj_aload_n C d_Mo_gram_29 (pc' := 30) (i := 0) (x := b + 217) rfl rfl rfl ?_
  refine pj_iload_n C d_Mo_gram_30 (pc' := 31) (i := 3) (x := x3) rfl rfl rfl ?_
  refine pj_iload C d_Mo_gram_31 (pc' := 33) (i := 6) (x := x6) rfl rfl ?_
  refine pj_ishr C d_Mo_gram_33 (pc' := 34) rfl ?_
  refine ck_Model_239_Model C  h d_Mo_gram_34 (pc' := 37) rfl ⟨Nat.le_of_ble_eq_true rfl, Nat.le_of_ble_eq_true rfl⟩ (Nat.le_of_ble_eq_true rfl) (fun u1 h => ?_)
  refine pj_iinc C d_Mo_gram_37 (pc' := 40) (x := x6) (d := (-8)) (vs' := [some (.ref (b + 217)), none, none, some (.int x3), some (.int x4), some (.int x5), some (.int (x6 + (-8)))]) rfl rfl (Nat.le_of_ble_eq_true rfl) rfl (by decide) rfl ?_
  refine pj_goto C d_Mo_gram_40 (tgt := 24) (by decide) ?_
  exact pj_cut (pj_le_s (pj_le_n (pj_le_n (pj_le_s (pj_le_s (pj_le_s (pj_le_s pj_le_e))))))) (hR24 _ _ h)
def pb_Mo_gram_24b (R24 : pj_M → Int32 → Prop) (K : pj_M → Prop) (u : pj_M) (x3 : Int32) (x4 : Int32) (x5 : Int32) (x6 : Int32) : Prop := ((x6 < 0) → (pb_Mo_gram_43  K u x3 x4 x5)) ∧ (¬ (x6 < 0) → (pb_Mo_gram_29 R24 K u x3 x4 x5 x6))
set_option maxHeartbeats 1000000 in
theorem pt_Mo_gram_24b {g : pj_G} {b : Nat} (C : pj_X g c_Mo_gram 7 R_Mo none rm_Mo_gram) {K : pj_M → Prop} (hE : pj_E g b (pj_Kv K)) {R24 : pj_M → Int32 → Prop}  {u : pj_M} {x3 : Int32} {x4 : Int32} {x5 : Int32} {x6 : Int32} (hR24 : ∀ (u : pj_M) (x6 : Int32), R24 u x6 → pj_J g (pj_N g b u) 24 [some (.ref (b + 217)), none, none, some (.int x3), some (.int x4), some (.int x5), some (.int x6)] [])  (h : pb_Mo_gram_24b R24 K u x3 x4 x5 x6) : pj_J g (pj_N g b u) 24 [some (.ref (b + 217)), none, none, some (.int x3), some (.int x4), some (.int x5), some (.int x6)] [] := by
  unfold pb_Mo_gram_24b at h
  refine pj_iload C d_Mo_gram_24 (pc' := 26) (i := 6) (x := x6) rfl rfl ?_
  refine pj_if_lt C d_Mo_gram_26 (pc' := 29) rfl (tgt := 43) (by decide) h (fun h => ?_) (fun h => ?_)
  · exact pj_cut (pj_le_s (pj_le_n (pj_le_n (pj_le_s (pj_le_s (pj_le_s (pj_le_n pj_le_e))))))) (pt_Mo_gram_43 C hE   h)
  · exact pj_cut (pj_le_s (pj_le_n (pj_le_n (pj_le_s (pj_le_s (pj_le_s (pj_le_s pj_le_e))))))) (pt_Mo_gram_29 C hE hR24  h)
def pb_Mo_gram_24  (K : pj_M → Prop) (x3 : Int32) (x4 : Int32) (x5 : Int32) : Nat → pj_M → Int32 → Prop
  | 0 => fun _ _ => False
  | n + 1 => fun u x6 => pb_Mo_gram_24b (pb_Mo_gram_24  K x3 x4 x5 n) K u x3 x4 x5 x6
theorem pt_Mo_gram_24 {g : pj_G} {b : Nat} (C : pj_X g c_Mo_gram 7 R_Mo none rm_Mo_gram) {K : pj_M → Prop} (hE : pj_E g b (pj_Kv K))  {x3 : Int32} {x4 : Int32} {x5 : Int32}   : ∀ (n : Nat) (u : pj_M) (x6 : Int32), pb_Mo_gram_24  K x3 x4 x5 n u x6 → pj_J g (pj_N g b u) 24 [some (.ref (b + 217)), none, none, some (.int x3), some (.int x4), some (.int x5), some (.int x6)] [] := by
  intro n
  induction n with
  | zero => intro u x6 h; exact False.elim h
  | succ n ih =>
    intro u x6 h
    exact (pt_Mo_gram_24b C hE ih  h)
def pb_Mo_gram_0  (K : pj_M → Prop) (u : pj_M) (x1 : Int32) (x2 : Int32) (x3 : Int32) (x4 : Int32) (x5 : Int32) : Prop := pj_put u 217 11 0 fun u1 => (pw_Mo_toRow u1 x1 fun u2 => (pw_Mo_toRow u2 x2 fun u3 => (pw_Mo_toRow u3 0 fun u4 => (∃ n, pb_Mo_gram_24  K x3 x4 x5 n u4 24))))
set_option maxHeartbeats 1000000 in
theorem pt_Mo_gram_0 {g : pj_G} {b : Nat} (C : pj_X g c_Mo_gram 7 R_Mo none rm_Mo_gram) {K : pj_M → Prop} (hE : pj_E g b (pj_Kv K))   {u : pj_M} {x1 : Int32} {x2 : Int32} {x3 : Int32} {x4 : Int32} {x5 : Int32}   (h : pb_Mo_gram_0  K u x1 x2 x3 x4 x5) : pj_J g (pj_N g b u) 0 [some (.ref (b + 217)), some (.int x1), some (.int x2), some (.int x3), some (.int x4), some (.int x5), none] [] := by
  unfold pb_Mo_gram_0 at h
  refine pj_aload_n C d_Mo_gram_0 (pc' := 1) (i := 0) (x := b + 217) rfl rfl rfl ?_
  refine pj_iconst C d_Mo_gram_1 (pc' := 2) rfl (v := 0) (by decide) ?_
  refine fp_Model_221_Model C tk_217  d_Mo_gram_2 (pc' := 5) rfl h (fun u1 h => ?_)
  refine pj_aload_n C d_Mo_gram_5 (pc' := 6) (i := 0) (x := b + 217) rfl rfl rfl ?_
  refine pj_iload_n C d_Mo_gram_6 (pc' := 7) (i := 1) (x := x1) rfl rfl rfl ?_
  refine ck_Model_239_Model C  h d_Mo_gram_7 (pc' := 10) rfl ⟨Nat.le_of_ble_eq_true rfl, Nat.le_of_ble_eq_true rfl⟩ (Nat.le_of_ble_eq_true rfl) (fun u2 h => ?_)
  refine pj_aload_n C d_Mo_gram_10 (pc' := 11) (i := 0) (x := b + 217) rfl rfl rfl ?_
  refine pj_iload_n C d_Mo_gram_11 (pc' := 12) (i := 2) (x := x2) rfl rfl rfl ?_
  refine ck_Model_239_Model C  h d_Mo_gram_12 (pc' := 15) rfl ⟨Nat.le_of_ble_eq_true rfl, Nat.le_of_ble_eq_true rfl⟩ (Nat.le_of_ble_eq_true rfl) (fun u3 h => ?_)
  refine pj_aload_n C d_Mo_gram_15 (pc' := 16) (i := 0) (x := b + 217) rfl rfl rfl ?_
  refine pj_iconst C d_Mo_gram_16 (pc' := 17) rfl (v := 0) (by decide) ?_
  refine ck_Model_239_Model C  h d_Mo_gram_17 (pc' := 20) rfl ⟨Nat.le_of_ble_eq_true rfl, Nat.le_of_ble_eq_true rfl⟩ (Nat.le_of_ble_eq_true rfl) (fun u4 h => ?_)
  refine pj_bipush C d_Mo_gram_20 (pc' := 22) rfl (v := 24) (by decide) ?_
  refine pj_istore C d_Mo_gram_22 (pc' := 24) (i := 6) (vs' := [some (.ref (b + 217)), some (.int x1), some (.int x2), some (.int x3), some (.int x4), some (.int x5), some (.int 24)]) rfl (Nat.le_of_ble_eq_true rfl) (Nat.le_of_ble_eq_true rfl) rfl rfl ?_
  obtain ⟨n, h⟩ := h
  exact pj_cut (pj_le_s (pj_le_n (pj_le_n (pj_le_s (pj_le_s (pj_le_s (pj_le_s pj_le_e))))))) (pt_Mo_gram_24 C hE   n _ _ h)
def pw_Mo_gram (u : pj_M) (x1 : Int32) (x2 : Int32) (x3 : Int32) (x4 : Int32) (x5 : Int32) (K : pj_M → Prop) : Prop := pb_Mo_gram_0  K u x1 x2 x3 x4 x5
theorem pc_Mo_gram (l : Launch) (D : va_G) (E : Nat → ClassId) {b : Nat} {u : pj_M} {x1 : Int32} {x2 : Int32} {x3 : Int32} {x4 : Int32} {x5 : Int32} {K : pj_M → Prop}  (h : pw_Mo_gram u x1 x2 x3 x4 x5 K) : pj_C l y_Mo_gram c_Mo_gram 7 none rm_Mo_gram D E b [.ref (b + 217), .int x1, .int x2, .int x3, .int x4, .int x5] u (pj_Kv K) := by
  refine pj_met (own := R_Mo) (by decide +kernel) rfl (Nat.le_of_ble_eq_true rfl) (fun g hE C => ?_)
  unfold pw_Mo_gram at h
  show pj_J g (pj_N g b u) 0 [some (.ref (b + 217)), some (.int x1), some (.int x2), some (.int x3), some (.int x4), some (.int x5), none] []
  exact pj_cut (pj_le_s (pj_le_s (pj_le_s (pj_le_s (pj_le_s (pj_le_s (pj_le_n pj_le_e))))))) (pt_Mo_gram_0 C hE   h)
/-! Model.user(III)Z -/
theorem fg_Model_7_Model {g : pj_G} {b : Nat} {cc : ByteArray} {nL : Nat} {ret : Option FieldType} {rm : Room} {u : pj_M} {pc pc' : Nat} {vs : List (Option Value)} {st : List Value} (C : pj_X g cc nL R_Mo ret rm) {i : Nat} (t : pj_T i = 11) (hdg : decode cc pc = .ok (.getfield 7, 3)) (hp : pc + 3 = pc') (kk : pj_J g (pj_N g b u) pc' vs (.ref (b + 218) :: st)) : pj_J g (pj_N g b u) pc vs (.ref (b + i) :: st) :=
  pj_get C cl_Model hin_Model (k := 1) (Nat.le_of_ble_eq_true rfl) wm_1125 (Or.inl rfl) (pj_lt t (by decide)) (fun E => ko_11 t) rfl hdg hp kk
theorem fg_Model_13_Model {g : pj_G} {b : Nat} {cc : ByteArray} {nL : Nat} {ret : Option FieldType} {rm : Room} {u : pj_M} {pc pc' : Nat} {vs : List (Option Value)} {st : List Value} (C : pj_X g cc nL R_Mo ret rm) {i : Nat} (t : pj_T i = 11) (hdg : decode cc pc = .ok (.getfield 13, 3)) (hp : pc + 3 = pc') (kk : pj_J g (pj_N g b u) pc' vs (.ref (b + 219) :: st)) : pj_J g (pj_N g b u) pc vs (.ref (b + i) :: st) :=
  pj_get C cl_Model hin_Model (k := 2) (Nat.le_of_ble_eq_true rfl) wm_1126 (Or.inl rfl) (pj_lt t (by decide)) (fun E => ko_11 t) rfl hdg hp kk
theorem fg_Model_17_Model {g : pj_G} {b : Nat} {cc : ByteArray} {nL : Nat} {ret : Option FieldType} {rm : Room} {u : pj_M} {pc pc' : Nat} {vs : List (Option Value)} {st : List Value} (C : pj_X g cc nL R_Mo ret rm) {i : Nat} (t : pj_T i = 11) (hdg : decode cc pc = .ok (.getfield 17, 3)) (hp : pc + 3 = pc') (kk : pj_J g (pj_N g b u) pc' vs (.ref (b + 220) :: st)) : pj_J g (pj_N g b u) pc vs (.ref (b + i) :: st) :=
  pj_get C cl_Model hin_Model (k := 3) (Nat.le_of_ble_eq_true rfl) wm_1127 (Or.inl rfl) (pj_lt t (by decide)) (fun E => ko_11 t) rfl hdg hp kk
def rm_Mo_user : Room := { frames := 0, cells := 0, slots := 0, locals := 0 }
def pb_Mo_user_20  (K : Int32 → pj_M → Prop) (u : pj_M)  : Prop := K 0 u
set_option maxHeartbeats 1000000 in
theorem pt_Mo_user_20 {g : pj_G} {b : Nat} (C : pj_X g c_Mo_user 4 R_Mo (some .boolean) rm_Mo_user) {K : Int32 → pj_M → Prop} (hE : pj_E g b (pj_Ki K))   {u : pj_M}    (h : pb_Mo_user_20  K u ) : pj_J g (pj_N g b u) 20 [none, none, none, none] [] := by
  unfold pb_Mo_user_20 at h
  refine pj_iconst C d_Mo_user_20 (pc' := 21) rfl (v := 0) (by decide) ?_
  exact pj_zret C hE d_Mo_user_21 pj_bi0 ⟨_, rfl, h⟩
def pb_Mo_user_22  (K : Int32 → pj_M → Prop) (u : pj_M) (x1 : Int32) (x2 : Int32) (x3 : Int32) : Prop := vp_in x1 8 ∧ pj_put u 218 x1.toNatClampNeg (vp_nar .boolean 1) fun u1 => (vp_in x1 8 ∧ pj_put u1 219 x1.toNatClampNeg x2 fun u2 => (vp_in x1 8 ∧ pj_put u2 220 x1.toNatClampNeg x3 fun u3 => (K 1 u3)))
set_option maxHeartbeats 1000000 in
theorem pt_Mo_user_22 {g : pj_G} {b : Nat} (C : pj_X g c_Mo_user 4 R_Mo (some .boolean) rm_Mo_user) {K : Int32 → pj_M → Prop} (hE : pj_E g b (pj_Ki K))   {u : pj_M} {x1 : Int32} {x2 : Int32} {x3 : Int32}   (h : pb_Mo_user_22  K u x1 x2 x3) : pj_J g (pj_N g b u) 22 [some (.ref (b + 217)), some (.int x1), some (.int x2), some (.int x3)] [] := by
  unfold pb_Mo_user_22 at h
  refine pj_aload_n C d_Mo_user_22 (pc' := 23) (i := 0) (x := b + 217) rfl rfl rfl ?_
  refine fg_Model_7_Model C tk_217 d_Mo_user_23 (pc' := 26) rfl ?_
  refine pj_iload_n C d_Mo_user_26 (pc' := 27) (i := 1) (x := x1) rfl rfl rfl ?_
  refine pj_iconst C d_Mo_user_27 (pc' := 28) rfl (v := 1) (by decide) ?_
  refine pj_zast C (pj_lt tk_218 (by decide)) (fun E u => ka_30 tk_218) d_Mo_user_28 (pc' := 29) rfl h (fun u1 h => ?_)
  refine pj_aload_n C d_Mo_user_29 (pc' := 30) (i := 0) (x := b + 217) rfl rfl rfl ?_
  refine fg_Model_13_Model C tk_217 d_Mo_user_30 (pc' := 33) rfl ?_
  refine pj_iload_n C d_Mo_user_33 (pc' := 34) (i := 1) (x := x1) rfl rfl rfl ?_
  refine pj_iload_n C d_Mo_user_34 (pc' := 35) (i := 2) (x := x2) rfl rfl rfl ?_
  refine pj_iast C (pj_lt tk_219 (by decide)) (fun E u => ka_20 tk_219) d_Mo_user_35 (pc' := 36) rfl h (fun u2 h => ?_)
  refine pj_aload_n C d_Mo_user_36 (pc' := 37) (i := 0) (x := b + 217) rfl rfl rfl ?_
  refine fg_Model_17_Model C tk_217 d_Mo_user_37 (pc' := 40) rfl ?_
  refine pj_iload_n C d_Mo_user_40 (pc' := 41) (i := 1) (x := x1) rfl rfl rfl ?_
  refine pj_iload_n C d_Mo_user_41 (pc' := 42) (i := 3) (x := x3) rfl rfl rfl ?_
  refine pj_iast C (pj_lt tk_220 (by decide)) (fun E u => ka_20 tk_220) d_Mo_user_42 (pc' := 43) rfl h (fun u3 h => ?_)
  refine pj_iconst C d_Mo_user_43 (pc' := 44) rfl (v := 1) (by decide) ?_
  exact pj_zret C hE d_Mo_user_44 pj_bi1 ⟨_, rfl, h⟩
def pb_Mo_user_15  (K : Int32 → pj_M → Prop) (u : pj_M) (x1 : Int32) (x2 : Int32) (x3 : Int32) : Prop := ((x3 ≤ 3) → (pb_Mo_user_22  K u x1 x2 x3)) ∧ (¬ (x3 ≤ 3) → (pb_Mo_user_20  K u ))
set_option maxHeartbeats 1000000 in
theorem pt_Mo_user_15 {g : pj_G} {b : Nat} (C : pj_X g c_Mo_user 4 R_Mo (some .boolean) rm_Mo_user) {K : Int32 → pj_M → Prop} (hE : pj_E g b (pj_Ki K))   {u : pj_M} {x1 : Int32} {x2 : Int32} {x3 : Int32}   (h : pb_Mo_user_15  K u x1 x2 x3) : pj_J g (pj_N g b u) 15 [some (.ref (b + 217)), some (.int x1), some (.int x2), some (.int x3)] [] := by
  unfold pb_Mo_user_15 at h
  refine pj_iload_n C d_Mo_user_15 (pc' := 16) (i := 3) (x := x3) rfl rfl rfl ?_
  refine pj_iconst C d_Mo_user_16 (pc' := 17) rfl (v := 3) (by decide) ?_
  refine pj_icmp_le C d_Mo_user_17 (pc' := 20) rfl (tgt := 22) (by decide) h (fun h => ?_) (fun h => ?_)
  · exact pj_cut (pj_le_s (pj_le_s (pj_le_s (pj_le_s pj_le_e)))) (pt_Mo_user_22 C hE   h)
  · exact pj_cut (pj_le_n (pj_le_n (pj_le_n (pj_le_n pj_le_e)))) (pt_Mo_user_20 C hE   h)
def pb_Mo_user_10  (K : Int32 → pj_M → Prop) (u : pj_M) (x1 : Int32) (x2 : Int32) (x3 : Int32) : Prop := ((x3 < 1) → (pb_Mo_user_20  K u )) ∧ (¬ (x3 < 1) → (pb_Mo_user_15  K u x1 x2 x3))
set_option maxHeartbeats 1000000 in
theorem pt_Mo_user_10 {g : pj_G} {b : Nat} (C : pj_X g c_Mo_user 4 R_Mo (some .boolean) rm_Mo_user) {K : Int32 → pj_M → Prop} (hE : pj_E g b (pj_Ki K))   {u : pj_M} {x1 : Int32} {x2 : Int32} {x3 : Int32}   (h : pb_Mo_user_10  K u x1 x2 x3) : pj_J g (pj_N g b u) 10 [some (.ref (b + 217)), some (.int x1), some (.int x2), some (.int x3)] [] := by
  unfold pb_Mo_user_10 at h
  refine pj_iload_n C d_Mo_user_10 (pc' := 11) (i := 3) (x := x3) rfl rfl rfl ?_
  refine pj_iconst C d_Mo_user_11 (pc' := 12) rfl (v := 1) (by decide) ?_
  refine pj_icmp_lt C d_Mo_user_12 (pc' := 15) rfl (tgt := 20) (by decide) h (fun h => ?_) (fun h => ?_)
  · exact pj_cut (pj_le_n (pj_le_n (pj_le_n (pj_le_n pj_le_e)))) (pt_Mo_user_20 C hE   h)
  · exact pj_cut (pj_le_s (pj_le_s (pj_le_s (pj_le_s pj_le_e)))) (pt_Mo_user_15 C hE   h)
def pb_Mo_user_4  (K : Int32 → pj_M → Prop) (u : pj_M) (x1 : Int32) (x2 : Int32) (x3 : Int32) : Prop := ((7 < x1) → (pb_Mo_user_20  K u )) ∧ (¬ (7 < x1) → (pb_Mo_user_10  K u x1 x2 x3))
set_option maxHeartbeats 1000000 in
theorem pt_Mo_user_4 {g : pj_G} {b : Nat} (C : pj_X g c_Mo_user 4 R_Mo (some .boolean) rm_Mo_user) {K : Int32 → pj_M → Prop} (hE : pj_E g b (pj_Ki K))   {u : pj_M} {x1 : Int32} {x2 : Int32} {x3 : Int32}   (h : pb_Mo_user_4  K u x1 x2 x3) : pj_J g (pj_N g b u) 4 [some (.ref (b + 217)), some (.int x1), some (.int x2), some (.int x3)] [] := by
  unfold pb_Mo_user_4 at h
  refine pj_iload_n C d_Mo_user_4 (pc' := 5) (i := 1) (x := x1) rfl rfl rfl ?_
  refine pj_bipush C d_Mo_user_5 (pc' := 7) rfl (v := 7) (by decide) ?_
  refine pj_icmp_gt C d_Mo_user_7 (pc' := 10) rfl (tgt := 20) (by decide) h (fun h => ?_) (fun h => ?_)
  · exact pj_cut (pj_le_n (pj_le_n (pj_le_n (pj_le_n pj_le_e)))) (pt_Mo_user_20 C hE   h)
  · exact pj_cut (pj_le_s (pj_le_s (pj_le_s (pj_le_s pj_le_e)))) (pt_Mo_user_10 C hE   h)
def pb_Mo_user_0  (K : Int32 → pj_M → Prop) (u : pj_M) (x1 : Int32) (x2 : Int32) (x3 : Int32) : Prop := ((x1 < 0) → (pb_Mo_user_20  K u )) ∧ (¬ (x1 < 0) → (pb_Mo_user_4  K u x1 x2 x3))
set_option maxHeartbeats 1000000 in
theorem pt_Mo_user_0 {g : pj_G} {b : Nat} (C : pj_X g c_Mo_user 4 R_Mo (some .boolean) rm_Mo_user) {K : Int32 → pj_M → Prop} (hE : pj_E g b (pj_Ki K))   {u : pj_M} {x1 : Int32} {x2 : Int32} {x3 : Int32}   (h : pb_Mo_user_0  K u x1 x2 x3) : pj_J g (pj_N g b u) 0 [some (.ref (b + 217)), some (.int x1), some (.int x2), some (.int x3)] [] := by
  unfold pb_Mo_user_0 at h
  refine pj_iload_n C d_Mo_user_0 (pc' := 1) (i := 1) (x := x1) rfl rfl rfl ?_
  refine pj_if_lt C d_Mo_user_1 (pc' := 4) rfl (tgt := 20) (by decide) h (fun h => ?_) (fun h => ?_)
  · exact pj_cut (pj_le_n (pj_le_n (pj_le_n (pj_le_n pj_le_e)))) (pt_Mo_user_20 C hE   h)
  · exact pj_cut (pj_le_s (pj_le_s (pj_le_s (pj_le_s pj_le_e)))) (pt_Mo_user_4 C hE   h)
def pw_Mo_user (u : pj_M) (x1 : Int32) (x2 : Int32) (x3 : Int32) (K : Int32 → pj_M → Prop) : Prop := pb_Mo_user_0  K u x1 x2 x3
theorem pc_Mo_user (l : Launch) (D : va_G) (E : Nat → ClassId) {b : Nat} {u : pj_M} {x1 : Int32} {x2 : Int32} {x3 : Int32} {K : Int32 → pj_M → Prop}  (h : pw_Mo_user u x1 x2 x3 K) : pj_C l y_Mo_user c_Mo_user 4 (some .boolean) rm_Mo_user D E b [.ref (b + 217), .int x1, .int x2, .int x3] u (pj_Ki K) := by
  refine pj_met (own := R_Mo) (by decide +kernel) rfl (Nat.le_of_ble_eq_true rfl) (fun g hE C => ?_)
  unfold pw_Mo_user at h
  show pj_J g (pj_N g b u) 0 [some (.ref (b + 217)), some (.int x1), some (.int x2), some (.int x3)] []
  exact pj_cut (pj_le_s (pj_le_s (pj_le_s (pj_le_s pj_le_e)))) (pt_Mo_user_0 C hE   h)
/-! Model.fresh(I)V -/
theorem fg_Model_50_Model {g : pj_G} {b : Nat} {cc : ByteArray} {nL : Nat} {ret : Option FieldType} {rm : Room} {u : pj_M} {pc pc' : Nat} {vs : List (Option Value)} {st : List Value} (C : pj_X g cc nL R_Mo ret rm) {i : Nat} (t : pj_T i = 11) (hdg : decode cc pc = .ok (.getfield 50, 3)) (hp : pc + 3 = pc') (kk : pj_J g (pj_N g b u) pc' vs (.ref (b + 231) :: st)) : pj_J g (pj_N g b u) pc vs (.ref (b + i) :: st) :=
  pj_get C cl_Model hin_Model (k := 22) (Nat.le_of_ble_eq_true rfl) wm_1146 (Or.inl rfl) (pj_lt t (by decide)) (fun E => ko_11 t) rfl hdg hp kk
theorem fg_Model_62_Model {g : pj_G} {b : Nat} {cc : ByteArray} {nL : Nat} {ret : Option FieldType} {rm : Room} {u : pj_M} {pc pc' : Nat} {vs : List (Option Value)} {st : List Value} (C : pj_X g cc nL R_Mo ret rm) {i : Nat} (t : pj_T i = 11) (hdg : decode cc pc = .ok (.getfield 62, 3)) (hp : pc + 3 = pc') (kk : pj_J g (pj_N g b u) pc' vs (.ref (b + 235) :: st)) : pj_J g (pj_N g b u) pc vs (.ref (b + i) :: st) :=
  pj_get C cl_Model hin_Model (k := 26) (Nat.le_of_ble_eq_true rfl) wm_1150 (Or.inl rfl) (pj_lt t (by decide)) (fun E => ko_11 t) rfl hdg hp kk
theorem fg_Model_56_Model {g : pj_G} {b : Nat} {cc : ByteArray} {nL : Nat} {ret : Option FieldType} {rm : Room} {u : pj_M} {pc pc' : Nat} {vs : List (Option Value)} {st : List Value} (C : pj_X g cc nL R_Mo ret rm) {i : Nat} (t : pj_T i = 11) (hdg : decode cc pc = .ok (.getfield 56, 3)) (hp : pc + 3 = pc') (kk : pj_J g (pj_N g b u) pc' vs (.ref (b + 233) :: st)) : pj_J g (pj_N g b u) pc vs (.ref (b + i) :: st) :=
  pj_get C cl_Model hin_Model (k := 24) (Nat.le_of_ble_eq_true rfl) wm_1148 (Or.inl rfl) (pj_lt t (by decide)) (fun E => ko_11 t) rfl hdg hp kk
theorem fg_Model_59_Model {g : pj_G} {b : Nat} {cc : ByteArray} {nL : Nat} {ret : Option FieldType} {rm : Room} {u : pj_M} {pc pc' : Nat} {vs : List (Option Value)} {st : List Value} (C : pj_X g cc nL R_Mo ret rm) {i : Nat} (t : pj_T i = 11) (hdg : decode cc pc = .ok (.getfield 59, 3)) (hp : pc + 3 = pc') (kk : pj_J g (pj_N g b u) pc' vs (.ref (b + 234) :: st)) : pj_J g (pj_N g b u) pc vs (.ref (b + i) :: st) :=
  pj_get C cl_Model hin_Model (k := 25) (Nat.le_of_ble_eq_true rfl) wm_1149 (Or.inl rfl) (pj_lt t (by decide)) (fun E => ko_11 t) rfl hdg hp kk
def rm_Mo_fresh : Room := { frames := 0, cells := 0, slots := 0, locals := 0 }
def pb_Mo_fresh_0  (K : pj_M → Prop) (u : pj_M) (x1 : Int32) : Prop := vp_in x1 4 ∧ pj_put u 231 x1.toNatClampNeg 0 fun u1 => (vp_in x1 4 ∧ pj_put u1 235 x1.toNatClampNeg (vp_nar .boolean 0) fun u2 => (vp_in x1 4 ∧ pj_put u2 233 x1.toNatClampNeg (vp_nar .boolean 0) fun u3 => (vp_in x1 4 ∧ pj_put u3 234 x1.toNatClampNeg 0 fun u4 => (K u4))))
set_option maxHeartbeats 1000000 in
theorem pt_Mo_fresh_0 {g : pj_G} {b : Nat} (C : pj_X g c_Mo_fresh 2 R_Mo none rm_Mo_fresh) {K : pj_M → Prop} (hE : pj_E g b (pj_Kv K))   {u : pj_M} {x1 : Int32}   (h : pb_Mo_fresh_0  K u x1) : pj_J g (pj_N g b u) 0 [some (.ref (b + 217)), some (.int x1)] [] := by
  unfold pb_Mo_fresh_0 at h
  refine pj_aload_n C d_Mo_fresh_0 (pc' := 1) (i := 0) (x := b + 217) rfl rfl rfl ?_
  refine fg_Model_50_Model C tk_217 d_Mo_fresh_1 (pc' := 4) rfl ?_
  refine pj_iload_n C d_Mo_fresh_4 (pc' := 5) (i := 1) (x := x1) rfl rfl rfl ?_
  refine pj_iconst C d_Mo_fresh_5 (pc' := 6) rfl (v := 0) (by decide) ?_
  refine pj_iast C (pj_lt tk_231 (by decide)) (fun E u => ka_23 tk_231) d_Mo_fresh_6 (pc' := 7) rfl h (fun u1 h => ?_)
  refine pj_aload_n C d_Mo_fresh_7 (pc' := 8) (i := 0) (x := b + 217) rfl rfl rfl ?_
  refine fg_Model_62_Model C tk_217 d_Mo_fresh_8 (pc' := 11) rfl ?_
  refine pj_iload_n C d_Mo_fresh_11 (pc' := 12) (i := 1) (x := x1) rfl rfl rfl ?_
  refine pj_iconst C d_Mo_fresh_12 (pc' := 13) rfl (v := 0) (by decide) ?_
  refine pj_zast C (pj_lt tk_235 (by decide)) (fun E u => ka_31 tk_235) d_Mo_fresh_13 (pc' := 14) rfl h (fun u2 h => ?_)
  refine pj_aload_n C d_Mo_fresh_14 (pc' := 15) (i := 0) (x := b + 217) rfl rfl rfl ?_
  refine fg_Model_56_Model C tk_217 d_Mo_fresh_15 (pc' := 18) rfl ?_
  refine pj_iload_n C d_Mo_fresh_18 (pc' := 19) (i := 1) (x := x1) rfl rfl rfl ?_
  refine pj_iconst C d_Mo_fresh_19 (pc' := 20) rfl (v := 0) (by decide) ?_
  refine pj_zast C (pj_lt tk_233 (by decide)) (fun E u => ka_31 tk_233) d_Mo_fresh_20 (pc' := 21) rfl h (fun u3 h => ?_)
  refine pj_aload_n C d_Mo_fresh_21 (pc' := 22) (i := 0) (x := b + 217) rfl rfl rfl ?_
  refine fg_Model_59_Model C tk_217 d_Mo_fresh_22 (pc' := 25) rfl ?_
  refine pj_iload_n C d_Mo_fresh_25 (pc' := 26) (i := 1) (x := x1) rfl rfl rfl ?_
  refine pj_iconst C d_Mo_fresh_26 (pc' := 27) rfl (v := 0) (by decide) ?_
  refine pj_iast C (pj_lt tk_234 (by decide)) (fun E u => ka_23 tk_234) d_Mo_fresh_27 (pc' := 28) rfl h (fun u4 h => ?_)
  exact pj_vret C hE d_Mo_fresh_28 ⟨rfl, h⟩
def pw_Mo_fresh (u : pj_M) (x1 : Int32) (K : pj_M → Prop) : Prop := pb_Mo_fresh_0  K u x1
theorem pc_Mo_fresh (l : Launch) (D : va_G) (E : Nat → ClassId) {b : Nat} {u : pj_M} {x1 : Int32} {K : pj_M → Prop}  (h : pw_Mo_fresh u x1 K) : pj_C l y_Mo_fresh c_Mo_fresh 2 none rm_Mo_fresh D E b [.ref (b + 217), .int x1] u (pj_Kv K) := by
  refine pj_met (own := R_Mo) (by decide +kernel) rfl (Nat.le_of_ble_eq_true rfl) (fun g hE C => ?_)
  unfold pw_Mo_fresh at h
  show pj_J g (pj_N g b u) 0 [some (.ref (b + 217)), some (.int x1)] []
  exact pj_cut (pj_le_s (pj_le_s pj_le_e)) (pt_Mo_fresh_0 C hE   h)
/-! Model.host(IIII)Z -/
theorem fg_Model_41_Model {g : pj_G} {b : Nat} {cc : ByteArray} {nL : Nat} {ret : Option FieldType} {rm : Room} {u : pj_M} {pc pc' : Nat} {vs : List (Option Value)} {st : List Value} (C : pj_X g cc nL R_Mo ret rm) {i : Nat} (t : pj_T i = 11) (hdg : decode cc pc = .ok (.getfield 41, 3)) (hp : pc + 3 = pc') (kk : pj_J g (pj_N g b u) pc' vs (.ref (b + 228) :: st)) : pj_J g (pj_N g b u) pc vs (.ref (b + i) :: st) :=
  pj_get C cl_Model hin_Model (k := 19) (Nat.le_of_ble_eq_true rfl) wm_1143 (Or.inl rfl) (pj_lt t (by decide)) (fun E => ko_11 t) rfl hdg hp kk
theorem fg_Model_44_Model {g : pj_G} {b : Nat} {cc : ByteArray} {nL : Nat} {ret : Option FieldType} {rm : Room} {u : pj_M} {pc pc' : Nat} {vs : List (Option Value)} {st : List Value} (C : pj_X g cc nL R_Mo ret rm) {i : Nat} (t : pj_T i = 11) (hdg : decode cc pc = .ok (.getfield 44, 3)) (hp : pc + 3 = pc') (kk : pj_J g (pj_N g b u) pc' vs (.ref (b + 229) :: st)) : pj_J g (pj_N g b u) pc vs (.ref (b + i) :: st) :=
  pj_get C cl_Model hin_Model (k := 20) (Nat.le_of_ble_eq_true rfl) wm_1144 (Or.inl rfl) (pj_lt t (by decide)) (fun E => ko_11 t) rfl hdg hp kk
theorem fg_Model_47_Model {g : pj_G} {b : Nat} {cc : ByteArray} {nL : Nat} {ret : Option FieldType} {rm : Room} {u : pj_M} {pc pc' : Nat} {vs : List (Option Value)} {st : List Value} (C : pj_X g cc nL R_Mo ret rm) {i : Nat} (t : pj_T i = 11) (hdg : decode cc pc = .ok (.getfield 47, 3)) (hp : pc + 3 = pc') (kk : pj_J g (pj_N g b u) pc' vs (.ref (b + 230) :: st)) : pj_J g (pj_N g b u) pc vs (.ref (b + i) :: st) :=
  pj_get C cl_Model hin_Model (k := 21) (Nat.le_of_ble_eq_true rfl) wm_1145 (Or.inl rfl) (pj_lt t (by decide)) (fun E => ko_11 t) rfl hdg hp kk
theorem ck_Model_267_Model {g : pj_G} {b : Nat} {cc : ByteArray} {nL : Nat} {ret : Option FieldType} {rm : Room} {u : pj_M} {pc pc' : Nat} {vs : List (Option Value)} {st : List Value} (C : pj_X g cc nL R_Mo ret rm) {x1 : Int32} {K : pj_M → Prop}  (h : pw_Mo_fresh u x1 K) (hdg : decode cc pc = .ok (.invokevirtual 267, 3)) (hp : pc + 3 = pc') (hR : rm_Mo_fresh.frames + 1 ≤ rm.frames ∧ 8 + (2 + 11) + rm_Mo_fresh.locals ≤ rm.locals) (h8 : (st.map fun v => v.category).sum ≤ 8) (kk : ∀ u', K u' → pj_J g (pj_N g b u') pc' vs st) : pj_J g (pj_N g b u) pc vs (.int x1 :: .ref (b + 217) :: st) :=
  pj_callV C (As := [.int x1]) (fun l D E => pc_Mo_fresh l D E  h) rfl rfl cl_Model (pj_lt tk_217 (by decide)) (fun E => ko_11 tk_217) wm_1350 wm_1352 wm_38 wm_103 wm_1353 (by decide +kernel) (n := 1) rfl hR rfl h8 hdg hp (fun v u' hq => by obtain ⟨rfl, hk⟩ := hq; exact kk u' hk)
def rm_Mo_host : Room := { frames := 1, cells := 0, slots := 0, locals := 21 }
def pb_Mo_host_31  (K : Int32 → pj_M → Prop) (u : pj_M)  : Prop := K 0 u
set_option maxHeartbeats 1000000 in
theorem pt_Mo_host_31 {g : pj_G} {b : Nat} (C : pj_X g c_Mo_host 5 R_Mo (some .boolean) rm_Mo_host) {K : Int32 → pj_M → Prop} (hE : pj_E g b (pj_Ki K))   {u : pj_M}    (h : pb_Mo_host_31  K u ) : pj_J g (pj_N g b u) 31 [none, none, none, none, none] [] := by
  unfold pb_Mo_host_31 at h
  refine pj_iconst C d_Mo_host_31 (pc' := 32) rfl (v := 0) (by decide) ?_
  exact pj_zret C hE d_Mo_host_32 pj_bi0 ⟨_, rfl, h⟩
def pb_Mo_host_33  (K : Int32 → pj_M → Prop) (u : pj_M) (x1 : Int32) (x2 : Int32) (x3 : Int32) (x4 : Int32) : Prop := vp_in x1 4 ∧ pj_put u 228 x1.toNatClampNeg x2 fun u1 => (vp_in x1 4 ∧ pj_put u1 229 x1.toNatClampNeg x3 fun u2 => (vp_in x1 4 ∧ pj_put u2 230 x1.toNatClampNeg x4 fun u3 => (pw_Mo_fresh u3 x1 fun u4 => (K 1 u4))))
set_option maxHeartbeats 1000000 in
theorem pt_Mo_host_33 {g : pj_G} {b : Nat} (C : pj_X g c_Mo_host 5 R_Mo (some .boolean) rm_Mo_host) {K : Int32 → pj_M → Prop} (hE : pj_E g b (pj_Ki K))   {u : pj_M} {x1 : Int32} {x2 : Int32} {x3 : Int32} {x4 : Int32}   (h : pb_Mo_host_33  K u x1 x2 x3 x4) : pj_J g (pj_N g b u) 33 [some (.ref (b + 217)), some (.int x1), some (.int x2), some (.int x3), some (.int x4)] [] := by
  unfold pb_Mo_host_33 at h
  refine pj_aload_n C d_Mo_host_33 (pc' := 34) (i := 0) (x := b + 217) rfl rfl rfl ?_
  refine fg_Model_41_Model C tk_217 d_Mo_host_34 (pc' := 37) rfl ?_
  refine pj_iload_n C d_Mo_host_37 (pc' := 38) (i := 1) (x := x1) rfl rfl rfl ?_
  refine pj_iload_n C d_Mo_host_38 (pc' := 39) (i := 2) (x := x2) rfl rfl rfl ?_
  refine pj_iast C (pj_lt tk_228 (by decide)) (fun E u => ka_23 tk_228) d_Mo_host_39 (pc' := 40) rfl h (fun u1 h => ?_)
  refine pj_aload_n C d_Mo_host_40 (pc' := 41) (i := 0) (x := b + 217) rfl rfl rfl ?_
  refine fg_Model_44_Model C tk_217 d_Mo_host_41 (pc' := 44) rfl ?_
  refine pj_iload_n C d_Mo_host_44 (pc' := 45) (i := 1) (x := x1) rfl rfl rfl ?_
  refine pj_iload_n C d_Mo_host_45 (pc' := 46) (i := 3) (x := x3) rfl rfl rfl ?_
  refine pj_iast C (pj_lt tk_229 (by decide)) (fun E u => ka_23 tk_229) d_Mo_host_46 (pc' := 47) rfl h (fun u2 h => ?_)
  refine pj_aload_n C d_Mo_host_47 (pc' := 48) (i := 0) (x := b + 217) rfl rfl rfl ?_
  refine fg_Model_47_Model C tk_217 d_Mo_host_48 (pc' := 51) rfl ?_
  refine pj_iload_n C d_Mo_host_51 (pc' := 52) (i := 1) (x := x1) rfl rfl rfl ?_
  refine pj_iload C d_Mo_host_52 (pc' := 54) (i := 4) (x := x4) rfl rfl ?_
  refine pj_iast C (pj_lt tk_230 (by decide)) (fun E u => ka_23 tk_230) d_Mo_host_54 (pc' := 55) rfl h (fun u3 h => ?_)
  refine pj_aload_n C d_Mo_host_55 (pc' := 56) (i := 0) (x := b + 217) rfl rfl rfl ?_
  refine pj_iload_n C d_Mo_host_56 (pc' := 57) (i := 1) (x := x1) rfl rfl rfl ?_
  refine ck_Model_267_Model C  h d_Mo_host_57 (pc' := 60) rfl ⟨Nat.le_of_ble_eq_true rfl, Nat.le_of_ble_eq_true rfl⟩ (Nat.le_of_ble_eq_true rfl) (fun u4 h => ?_)
  refine pj_iconst C d_Mo_host_60 (pc' := 61) rfl (v := 1) (by decide) ?_
  exact pj_zret C hE d_Mo_host_61 pj_bi1 ⟨_, rfl, h⟩
def pb_Mo_host_25  (K : Int32 → pj_M → Prop) (u : pj_M) (x1 : Int32) (x2 : Int32) (x3 : Int32) (x4 : Int32) : Prop := ((x4 ≤ 3) → (pb_Mo_host_33  K u x1 x2 x3 x4)) ∧ (¬ (x4 ≤ 3) → (pb_Mo_host_31  K u ))
set_option maxHeartbeats 1000000 in
theorem pt_Mo_host_25 {g : pj_G} {b : Nat} (C : pj_X g c_Mo_host 5 R_Mo (some .boolean) rm_Mo_host) {K : Int32 → pj_M → Prop} (hE : pj_E g b (pj_Ki K))   {u : pj_M} {x1 : Int32} {x2 : Int32} {x3 : Int32} {x4 : Int32}   (h : pb_Mo_host_25  K u x1 x2 x3 x4) : pj_J g (pj_N g b u) 25 [some (.ref (b + 217)), some (.int x1), some (.int x2), some (.int x3), some (.int x4)] [] := by
  unfold pb_Mo_host_25 at h
  refine pj_iload C d_Mo_host_25 (pc' := 27) (i := 4) (x := x4) rfl rfl ?_
  refine pj_iconst C d_Mo_host_27 (pc' := 28) rfl (v := 3) (by decide) ?_
  refine pj_icmp_le C d_Mo_host_28 (pc' := 31) rfl (tgt := 33) (by decide) h (fun h => ?_) (fun h => ?_)
  · exact pj_cut (pj_le_s (pj_le_s (pj_le_s (pj_le_s (pj_le_s pj_le_e))))) (pt_Mo_host_33 C hE   h)
  · exact pj_cut (pj_le_n (pj_le_n (pj_le_n (pj_le_n (pj_le_n pj_le_e))))) (pt_Mo_host_31 C hE   h)
def pb_Mo_host_20  (K : Int32 → pj_M → Prop) (u : pj_M) (x1 : Int32) (x2 : Int32) (x3 : Int32) (x4 : Int32) : Prop := ((x4 < 0) → (pb_Mo_host_31  K u )) ∧ (¬ (x4 < 0) → (pb_Mo_host_25  K u x1 x2 x3 x4))
set_option maxHeartbeats 1000000 in
theorem pt_Mo_host_20 {g : pj_G} {b : Nat} (C : pj_X g c_Mo_host 5 R_Mo (some .boolean) rm_Mo_host) {K : Int32 → pj_M → Prop} (hE : pj_E g b (pj_Ki K))   {u : pj_M} {x1 : Int32} {x2 : Int32} {x3 : Int32} {x4 : Int32}   (h : pb_Mo_host_20  K u x1 x2 x3 x4) : pj_J g (pj_N g b u) 20 [some (.ref (b + 217)), some (.int x1), some (.int x2), some (.int x3), some (.int x4)] [] := by
  unfold pb_Mo_host_20 at h
  refine pj_iload C d_Mo_host_20 (pc' := 22) (i := 4) (x := x4) rfl rfl ?_
  refine pj_if_lt C d_Mo_host_22 (pc' := 25) rfl (tgt := 31) (by decide) h (fun h => ?_) (fun h => ?_)
  · exact pj_cut (pj_le_n (pj_le_n (pj_le_n (pj_le_n (pj_le_n pj_le_e))))) (pt_Mo_host_31 C hE   h)
  · exact pj_cut (pj_le_s (pj_le_s (pj_le_s (pj_le_s (pj_le_s pj_le_e))))) (pt_Mo_host_25 C hE   h)
def pb_Mo_host_14  (K : Int32 → pj_M → Prop) (u : pj_M) (x1 : Int32) (x2 : Int32) (x3 : Int32) (x4 : Int32) : Prop := ((7 < x2) → (pb_Mo_host_31  K u )) ∧ (¬ (7 < x2) → (pb_Mo_host_20  K u x1 x2 x3 x4))
set_option maxHeartbeats 1000000 in
theorem pt_Mo_host_14 {g : pj_G} {b : Nat} (C : pj_X g c_Mo_host 5 R_Mo (some .boolean) rm_Mo_host) {K : Int32 → pj_M → Prop} (hE : pj_E g b (pj_Ki K))   {u : pj_M} {x1 : Int32} {x2 : Int32} {x3 : Int32} {x4 : Int32}   (h : pb_Mo_host_14  K u x1 x2 x3 x4) : pj_J g (pj_N g b u) 14 [some (.ref (b + 217)), some (.int x1), some (.int x2), some (.int x3), some (.int x4)] [] := by
  unfold pb_Mo_host_14 at h
  refine pj_iload_n C d_Mo_host_14 (pc' := 15) (i := 2) (x := x2) rfl rfl rfl ?_
  refine pj_bipush C d_Mo_host_15 (pc' := 17) rfl (v := 7) (by decide) ?_
  refine pj_icmp_gt C d_Mo_host_17 (pc' := 20) rfl (tgt := 31) (by decide) h (fun h => ?_) (fun h => ?_)
  · exact pj_cut (pj_le_n (pj_le_n (pj_le_n (pj_le_n (pj_le_n pj_le_e))))) (pt_Mo_host_31 C hE   h)
  · exact pj_cut (pj_le_s (pj_le_s (pj_le_s (pj_le_s (pj_le_s pj_le_e))))) (pt_Mo_host_20 C hE   h)
def pb_Mo_host_9  (K : Int32 → pj_M → Prop) (u : pj_M) (x1 : Int32) (x2 : Int32) (x3 : Int32) (x4 : Int32) : Prop := ((x2 < ((-1))) → (pb_Mo_host_31  K u )) ∧ (¬ (x2 < ((-1))) → (pb_Mo_host_14  K u x1 x2 x3 x4))
set_option maxHeartbeats 1000000 in
theorem pt_Mo_host_9 {g : pj_G} {b : Nat} (C : pj_X g c_Mo_host 5 R_Mo (some .boolean) rm_Mo_host) {K : Int32 → pj_M → Prop} (hE : pj_E g b (pj_Ki K))   {u : pj_M} {x1 : Int32} {x2 : Int32} {x3 : Int32} {x4 : Int32}   (h : pb_Mo_host_9  K u x1 x2 x3 x4) : pj_J g (pj_N g b u) 9 [some (.ref (b + 217)), some (.int x1), some (.int x2), some (.int x3), some (.int x4)] [] := by
  unfold pb_Mo_host_9 at h
  refine pj_iload_n C d_Mo_host_9 (pc' := 10) (i := 2) (x := x2) rfl rfl rfl ?_
  refine pj_iconst C d_Mo_host_10 (pc' := 11) rfl (v := (-1)) (by decide) ?_
  refine pj_icmp_lt C d_Mo_host_11 (pc' := 14) rfl (tgt := 31) (by decide) h (fun h => ?_) (fun h => ?_)
  · exact pj_cut (pj_le_n (pj_le_n (pj_le_n (pj_le_n (pj_le_n pj_le_e))))) (pt_Mo_host_31 C hE   h)
  · exact pj_cut (pj_le_s (pj_le_s (pj_le_s (pj_le_s (pj_le_s pj_le_e))))) (pt_Mo_host_14 C hE   h)
def pb_Mo_host_4  (K : Int32 → pj_M → Prop) (u : pj_M) (x1 : Int32) (x2 : Int32) (x3 : Int32) (x4 : Int32) : Prop := ((3 < x1) → (pb_Mo_host_31  K u )) ∧ (¬ (3 < x1) → (pb_Mo_host_9  K u x1 x2 x3 x4))
set_option maxHeartbeats 1000000 in
theorem pt_Mo_host_4 {g : pj_G} {b : Nat} (C : pj_X g c_Mo_host 5 R_Mo (some .boolean) rm_Mo_host) {K : Int32 → pj_M → Prop} (hE : pj_E g b (pj_Ki K))   {u : pj_M} {x1 : Int32} {x2 : Int32} {x3 : Int32} {x4 : Int32}   (h : pb_Mo_host_4  K u x1 x2 x3 x4) : pj_J g (pj_N g b u) 4 [some (.ref (b + 217)), some (.int x1), some (.int x2), some (.int x3), some (.int x4)] [] := by
  unfold pb_Mo_host_4 at h
  refine pj_iload_n C d_Mo_host_4 (pc' := 5) (i := 1) (x := x1) rfl rfl rfl ?_
  refine pj_iconst C d_Mo_host_5 (pc' := 6) rfl (v := 3) (by decide) ?_
  refine pj_icmp_gt C d_Mo_host_6 (pc' := 9) rfl (tgt := 31) (by decide) h (fun h => ?_) (fun h => ?_)
  · exact pj_cut (pj_le_n (pj_le_n (pj_le_n (pj_le_n (pj_le_n pj_le_e))))) (pt_Mo_host_31 C hE   h)
  · exact pj_cut (pj_le_s (pj_le_s (pj_le_s (pj_le_s (pj_le_s pj_le_e))))) (pt_Mo_host_9 C hE   h)
def pb_Mo_host_0  (K : Int32 → pj_M → Prop) (u : pj_M) (x1 : Int32) (x2 : Int32) (x3 : Int32) (x4 : Int32) : Prop := ((x1 < 0) → (pb_Mo_host_31  K u )) ∧ (¬ (x1 < 0) → (pb_Mo_host_4  K u x1 x2 x3 x4))
set_option maxHeartbeats 1000000 in
theorem pt_Mo_host_0 {g : pj_G} {b : Nat} (C : pj_X g c_Mo_host 5 R_Mo (some .boolean) rm_Mo_host) {K : Int32 → pj_M → Prop} (hE : pj_E g b (pj_Ki K))   {u : pj_M} {x1 : Int32} {x2 : Int32} {x3 : Int32} {x4 : Int32}   (h : pb_Mo_host_0  K u x1 x2 x3 x4) : pj_J g (pj_N g b u) 0 [some (.ref (b + 217)), some (.int x1), some (.int x2), some (.int x3), some (.int x4)] [] := by
  unfold pb_Mo_host_0 at h
  refine pj_iload_n C d_Mo_host_0 (pc' := 1) (i := 1) (x := x1) rfl rfl rfl ?_
  refine pj_if_lt C d_Mo_host_1 (pc' := 4) rfl (tgt := 31) (by decide) h (fun h => ?_) (fun h => ?_)
  · exact pj_cut (pj_le_n (pj_le_n (pj_le_n (pj_le_n (pj_le_n pj_le_e))))) (pt_Mo_host_31 C hE   h)
  · exact pj_cut (pj_le_s (pj_le_s (pj_le_s (pj_le_s (pj_le_s pj_le_e))))) (pt_Mo_host_4 C hE   h)
def pw_Mo_host (u : pj_M) (x1 : Int32) (x2 : Int32) (x3 : Int32) (x4 : Int32) (K : Int32 → pj_M → Prop) : Prop := pb_Mo_host_0  K u x1 x2 x3 x4
theorem pc_Mo_host (l : Launch) (D : va_G) (E : Nat → ClassId) {b : Nat} {u : pj_M} {x1 : Int32} {x2 : Int32} {x3 : Int32} {x4 : Int32} {K : Int32 → pj_M → Prop}  (h : pw_Mo_host u x1 x2 x3 x4 K) : pj_C l y_Mo_host c_Mo_host 5 (some .boolean) rm_Mo_host D E b [.ref (b + 217), .int x1, .int x2, .int x3, .int x4] u (pj_Ki K) := by
  refine pj_met (own := R_Mo) (by decide +kernel) rfl (Nat.le_of_ble_eq_true rfl) (fun g hE C => ?_)
  unfold pw_Mo_host at h
  show pj_J g (pj_N g b u) 0 [some (.ref (b + 217)), some (.int x1), some (.int x2), some (.int x3), some (.int x4)] []
  exact pj_cut (pj_le_s (pj_le_s (pj_le_s (pj_le_s (pj_le_s pj_le_e))))) (pt_Mo_host_0 C hE   h)
/-! Model.start(IZ)Z -/
def rm_Mo_start : Room := { frames := 1, cells := 0, slots := 0, locals := 23 }
def pb_Mo_start_18  (K : Int32 → pj_M → Prop) (u : pj_M)  : Prop := K 0 u
set_option maxHeartbeats 1000000 in
theorem pt_Mo_start_18 {g : pj_G} {b : Nat} (C : pj_X g c_Mo_start 3 R_Mo (some .boolean) rm_Mo_start) {K : Int32 → pj_M → Prop} (hE : pj_E g b (pj_Ki K))   {u : pj_M}    (h : pb_Mo_start_18  K u ) : pj_J g (pj_N g b u) 18 [none, none, none] [] := by
  unfold pb_Mo_start_18 at h
  refine pj_iconst C d_Mo_start_18 (pc' := 19) rfl (v := 0) (by decide) ?_
  exact pj_zret C hE d_Mo_start_19 pj_bi0 ⟨_, rfl, h⟩
def pb_Mo_start_40  (K : Int32 → pj_M → Prop) (u : pj_M) (x1 : Int32) (s0 : Int32) : Prop := pw_Mo_toRow u s0 fun u1 => (pw_Mo_send u1 0 x1 fun u2 => (K 1 u2))
set_option maxHeartbeats 1000000 in
theorem pt_Mo_start_40 {g : pj_G} {b : Nat} (C : pj_X g c_Mo_start 3 R_Mo (some .boolean) rm_Mo_start) {K : Int32 → pj_M → Prop} (hE : pj_E g b (pj_Ki K))   {u : pj_M} {x1 : Int32} {s0 : Int32}   (h : pb_Mo_start_40  K u x1 s0) : pj_J g (pj_N g b u) 40 [some (.ref (b + 217)), some (.int x1), none] [.int s0, .ref (b + 217)] := by
  unfold pb_Mo_start_40 at h
  refine ck_Model_239_Model C  h d_Mo_start_40 (pc' := 43) rfl ⟨Nat.le_of_ble_eq_true rfl, Nat.le_of_ble_eq_true rfl⟩ (Nat.le_of_ble_eq_true rfl) (fun u1 h => ?_)
  refine pj_aload_n C d_Mo_start_43 (pc' := 44) (i := 0) (x := b + 217) rfl rfl rfl ?_
  refine pj_iconst C d_Mo_start_44 (pc' := 45) rfl (v := 0) (by decide) ?_
  refine pj_iload_n C d_Mo_start_45 (pc' := 46) (i := 1) (x := x1) rfl rfl rfl ?_
  refine ck_Model_242_Model C  h d_Mo_start_46 (pc' := 49) rfl ⟨Nat.le_of_ble_eq_true rfl, Nat.le_of_ble_eq_true rfl⟩ (Nat.le_of_ble_eq_true rfl) (fun u2 h => ?_)
  refine pj_iconst C d_Mo_start_49 (pc' := 50) rfl (v := 1) (by decide) ?_
  exact pj_zret C hE d_Mo_start_50 pj_bi1 ⟨_, rfl, h⟩
def pb_Mo_start_39  (K : Int32 → pj_M → Prop) (u : pj_M) (x1 : Int32) : Prop := pb_Mo_start_40  K u x1 2
set_option maxHeartbeats 1000000 in
theorem pt_Mo_start_39 {g : pj_G} {b : Nat} (C : pj_X g c_Mo_start 3 R_Mo (some .boolean) rm_Mo_start) {K : Int32 → pj_M → Prop} (hE : pj_E g b (pj_Ki K))   {u : pj_M} {x1 : Int32}   (h : pb_Mo_start_39  K u x1) : pj_J g (pj_N g b u) 39 [some (.ref (b + 217)), some (.int x1), none] [.ref (b + 217)] := by
  unfold pb_Mo_start_39 at h
  refine pj_iconst C d_Mo_start_39 (pc' := 40) rfl (v := 2) (by decide) ?_
  exact pj_cut (pj_le_s (pj_le_s (pj_le_n pj_le_e))) (pt_Mo_start_40 C hE   h)
def pb_Mo_start_35  (K : Int32 → pj_M → Prop) (u : pj_M) (x1 : Int32) : Prop := pb_Mo_start_40  K u x1 1
set_option maxHeartbeats 1000000 in
theorem pt_Mo_start_35 {g : pj_G} {b : Nat} (C : pj_X g c_Mo_start 3 R_Mo (some .boolean) rm_Mo_start) {K : Int32 → pj_M → Prop} (hE : pj_E g b (pj_Ki K))   {u : pj_M} {x1 : Int32}   (h : pb_Mo_start_35  K u x1) : pj_J g (pj_N g b u) 35 [some (.ref (b + 217)), some (.int x1), none] [.ref (b + 217)] := by
  unfold pb_Mo_start_35 at h
  refine pj_iconst C d_Mo_start_35 (pc' := 36) rfl (v := 1) (by decide) ?_
  refine pj_goto C d_Mo_start_36 (tgt := 40) (by decide) ?_
  exact pj_cut (pj_le_s (pj_le_s (pj_le_n pj_le_e))) (pt_Mo_start_40 C hE   h)
def pb_Mo_start_20  (K : Int32 → pj_M → Prop) (u : pj_M) (x1 : Int32) (x2 : Int32) : Prop := pw_Mo_fresh u x1 fun u1 => (pj_put u1 217 11 0 fun u2 => (((x2 = 0) → (pb_Mo_start_39  K u2 x1)) ∧ (¬ (x2 = 0) → (pb_Mo_start_35  K u2 x1))))
set_option maxHeartbeats 1000000 in
theorem pt_Mo_start_20 {g : pj_G} {b : Nat} (C : pj_X g c_Mo_start 3 R_Mo (some .boolean) rm_Mo_start) {K : Int32 → pj_M → Prop} (hE : pj_E g b (pj_Ki K))   {u : pj_M} {x1 : Int32} {x2 : Int32}   (h : pb_Mo_start_20  K u x1 x2) : pj_J g (pj_N g b u) 20 [some (.ref (b + 217)), some (.int x1), some (.int x2)] [] := by
  unfold pb_Mo_start_20 at h
  refine pj_aload_n C d_Mo_start_20 (pc' := 21) (i := 0) (x := b + 217) rfl rfl rfl ?_
  refine pj_iload_n C d_Mo_start_21 (pc' := 22) (i := 1) (x := x1) rfl rfl rfl ?_
  refine ck_Model_267_Model C  h d_Mo_start_22 (pc' := 25) rfl ⟨Nat.le_of_ble_eq_true rfl, Nat.le_of_ble_eq_true rfl⟩ (Nat.le_of_ble_eq_true rfl) (fun u1 h => ?_)
  refine pj_aload_n C d_Mo_start_25 (pc' := 26) (i := 0) (x := b + 217) rfl rfl rfl ?_
  refine pj_iconst C d_Mo_start_26 (pc' := 27) rfl (v := 0) (by decide) ?_
  refine fp_Model_221_Model C tk_217  d_Mo_start_27 (pc' := 30) rfl h (fun u2 h => ?_)
  refine pj_aload_n C d_Mo_start_30 (pc' := 31) (i := 0) (x := b + 217) rfl rfl rfl ?_
  refine pj_iload_n C d_Mo_start_31 (pc' := 32) (i := 2) (x := x2) rfl rfl rfl ?_
  refine pj_if_eq C d_Mo_start_32 (pc' := 35) rfl (tgt := 39) (by decide) h (fun h => ?_) (fun h => ?_)
  · exact pj_cut (pj_le_s (pj_le_s (pj_le_n pj_le_e))) (pt_Mo_start_39 C hE   h)
  · exact pj_cut (pj_le_s (pj_le_s (pj_le_n pj_le_e))) (pt_Mo_start_35 C hE   h)
def pb_Mo_start_9  (K : Int32 → pj_M → Prop) (u : pj_M) (x1 : Int32) (x2 : Int32) : Prop := vp_in x1 4 ∧ (((0 ≤ (u 228 x1.toNatClampNeg)) → (pb_Mo_start_20  K u x1 x2)) ∧ (¬ (0 ≤ (u 228 x1.toNatClampNeg)) → (pb_Mo_start_18  K u )))
set_option maxHeartbeats 1000000 in
theorem pt_Mo_start_9 {g : pj_G} {b : Nat} (C : pj_X g c_Mo_start 3 R_Mo (some .boolean) rm_Mo_start) {K : Int32 → pj_M → Prop} (hE : pj_E g b (pj_Ki K))   {u : pj_M} {x1 : Int32} {x2 : Int32}   (h : pb_Mo_start_9  K u x1 x2) : pj_J g (pj_N g b u) 9 [some (.ref (b + 217)), some (.int x1), some (.int x2)] [] := by
  unfold pb_Mo_start_9 at h
  refine pj_aload_n C d_Mo_start_9 (pc' := 10) (i := 0) (x := b + 217) rfl rfl rfl ?_
  refine fg_Model_41_Model C tk_217 d_Mo_start_10 (pc' := 13) rfl ?_
  refine pj_iload_n C d_Mo_start_13 (pc' := 14) (i := 1) (x := x1) rfl rfl rfl ?_
  refine pj_iald C (pj_lt tk_228 (by decide)) (fun E u => ka_23 tk_228) d_Mo_start_14 (pc' := 15) rfl h (fun h => ?_)
  refine pj_if_ge C d_Mo_start_15 (pc' := 18) rfl (tgt := 20) (by decide) h (fun h => ?_) (fun h => ?_)
  · exact pj_cut (pj_le_s (pj_le_s (pj_le_s pj_le_e))) (pt_Mo_start_20 C hE   h)
  · exact pj_cut (pj_le_n (pj_le_n (pj_le_n pj_le_e))) (pt_Mo_start_18 C hE   h)
def pb_Mo_start_4  (K : Int32 → pj_M → Prop) (u : pj_M) (x1 : Int32) (x2 : Int32) : Prop := ((3 < x1) → (pb_Mo_start_18  K u )) ∧ (¬ (3 < x1) → (pb_Mo_start_9  K u x1 x2))
set_option maxHeartbeats 1000000 in
theorem pt_Mo_start_4 {g : pj_G} {b : Nat} (C : pj_X g c_Mo_start 3 R_Mo (some .boolean) rm_Mo_start) {K : Int32 → pj_M → Prop} (hE : pj_E g b (pj_Ki K))   {u : pj_M} {x1 : Int32} {x2 : Int32}   (h : pb_Mo_start_4  K u x1 x2) : pj_J g (pj_N g b u) 4 [some (.ref (b + 217)), some (.int x1), some (.int x2)] [] := by
  unfold pb_Mo_start_4 at h
  refine pj_iload_n C d_Mo_start_4 (pc' := 5) (i := 1) (x := x1) rfl rfl rfl ?_
  refine pj_iconst C d_Mo_start_5 (pc' := 6) rfl (v := 3) (by decide) ?_
  refine pj_icmp_gt C d_Mo_start_6 (pc' := 9) rfl (tgt := 18) (by decide) h (fun h => ?_) (fun h => ?_)
  · exact pj_cut (pj_le_n (pj_le_n (pj_le_n pj_le_e))) (pt_Mo_start_18 C hE   h)
  · exact pj_cut (pj_le_s (pj_le_s (pj_le_s pj_le_e))) (pt_Mo_start_9 C hE   h)
def pb_Mo_start_0  (K : Int32 → pj_M → Prop) (u : pj_M) (x1 : Int32) (x2 : Int32) : Prop := ((x1 < 0) → (pb_Mo_start_18  K u )) ∧ (¬ (x1 < 0) → (pb_Mo_start_4  K u x1 x2))
set_option maxHeartbeats 1000000 in
theorem pt_Mo_start_0 {g : pj_G} {b : Nat} (C : pj_X g c_Mo_start 3 R_Mo (some .boolean) rm_Mo_start) {K : Int32 → pj_M → Prop} (hE : pj_E g b (pj_Ki K))   {u : pj_M} {x1 : Int32} {x2 : Int32}   (h : pb_Mo_start_0  K u x1 x2) : pj_J g (pj_N g b u) 0 [some (.ref (b + 217)), some (.int x1), some (.int x2)] [] := by
  unfold pb_Mo_start_0 at h
  refine pj_iload_n C d_Mo_start_0 (pc' := 1) (i := 1) (x := x1) rfl rfl rfl ?_
  refine pj_if_lt C d_Mo_start_1 (pc' := 4) rfl (tgt := 18) (by decide) h (fun h => ?_) (fun h => ?_)
  · exact pj_cut (pj_le_n (pj_le_n (pj_le_n pj_le_e))) (pt_Mo_start_18 C hE   h)
  · exact pj_cut (pj_le_s (pj_le_s (pj_le_s pj_le_e))) (pt_Mo_start_4 C hE   h)
def pw_Mo_start (u : pj_M) (x1 : Int32) (x2 : Int32) (K : Int32 → pj_M → Prop) : Prop := pb_Mo_start_0  K u x1 x2
theorem pc_Mo_start (l : Launch) (D : va_G) (E : Nat → ClassId) {b : Nat} {u : pj_M} {x1 : Int32} {x2 : Int32} {K : Int32 → pj_M → Prop}  (h : pw_Mo_start u x1 x2 K) : pj_C l y_Mo_start c_Mo_start 3 (some .boolean) rm_Mo_start D E b [.ref (b + 217), .int x1, .int x2] u (pj_Ki K) := by
  refine pj_met (own := R_Mo) (by decide +kernel) rfl (Nat.le_of_ble_eq_true rfl) (fun g hE C => ?_)
  unfold pw_Mo_start at h
  show pj_J g (pj_N g b u) 0 [some (.ref (b + 217)), some (.int x1), some (.int x2)] []
  exact pj_cut (pj_le_s (pj_le_s (pj_le_s pj_le_e))) (pt_Mo_start_0 C hE   h)
/-! Model.mutual(I)Z -/
theorem fg_Model_65_Model {g : pj_G} {b : Nat} {cc : ByteArray} {nL : Nat} {ret : Option FieldType} {rm : Room} {u : pj_M} {pc pc' : Nat} {vs : List (Option Value)} {st : List Value} (C : pj_X g cc nL R_Mo ret rm) {i : Nat} (t : pj_T i = 11) (hdg : decode cc pc = .ok (.getfield 65, 3)) (hp : pc + 3 = pc') (kk : pj_J g (pj_N g b u) pc' vs (.ref (b + 236) :: st)) : pj_J g (pj_N g b u) pc vs (.ref (b + i) :: st) :=
  pj_get C cl_Model hin_Model (k := 27) (Nat.le_of_ble_eq_true rfl) wm_1151 (Or.inl rfl) (pj_lt t (by decide)) (fun E => ko_11 t) rfl hdg hp kk
theorem fg_Model_68_Model {g : pj_G} {b : Nat} {cc : ByteArray} {nL : Nat} {ret : Option FieldType} {rm : Room} {u : pj_M} {pc pc' : Nat} {vs : List (Option Value)} {st : List Value} (C : pj_X g cc nL R_Mo ret rm) {i : Nat} (t : pj_T i = 11) (hdg : decode cc pc = .ok (.getfield 68, 3)) (hp : pc + 3 = pc') (kk : pj_J g (pj_N g b u) pc' vs (.ref (b + 237) :: st)) : pj_J g (pj_N g b u) pc vs (.ref (b + i) :: st) :=
  pj_get C cl_Model hin_Model (k := 28) (Nat.le_of_ble_eq_true rfl) wm_1152 (Or.inl rfl) (pj_lt t (by decide)) (fun E => ko_11 t) rfl hdg hp kk
theorem fg_Model_71_Model {g : pj_G} {b : Nat} {cc : ByteArray} {nL : Nat} {ret : Option FieldType} {rm : Room} {u : pj_M} {pc pc' : Nat} {vs : List (Option Value)} {st : List Value} (C : pj_X g cc nL R_Mo ret rm) {i : Nat} (t : pj_T i = 11) (hdg : decode cc pc = .ok (.getfield 71, 3)) (hp : pc + 3 = pc') (kk : pj_J g (pj_N g b u) pc' vs (.ref (b + 238) :: st)) : pj_J g (pj_N g b u) pc vs (.ref (b + i) :: st) :=
  pj_get C cl_Model hin_Model (k := 29) (Nat.le_of_ble_eq_true rfl) wm_1153 (Or.inl rfl) (pj_lt t (by decide)) (fun E => ko_11 t) rfl hdg hp kk
theorem ck_Model_283_Model {g : pj_G} {b : Nat} {cc : ByteArray} {nL : Nat} {ret : Option FieldType} {rm : Room} {u : pj_M} {pc pc' : Nat} {vs : List (Option Value)} {st : List Value} (C : pj_X g cc nL R_Mo ret rm) {x1 : Int32} {K : Int32 → pj_M → Prop}  (h : pw_Mo_packetInt u x1 K) (hdg : decode cc pc = .ok (.invokevirtual 283, 3)) (hp : pc + 3 = pc') (hR : rm_Mo_packetInt.frames + 1 ≤ rm.frames ∧ 8 + (2 + 11) + rm_Mo_packetInt.locals ≤ rm.locals) (h8 : (st.map fun v => v.category).sum ≤ 8) (kk : ∀ r u', K r u' → pj_J g (pj_N g b u') pc' vs (.int r :: st)) : pj_J g (pj_N g b u) pc vs (.int x1 :: .ref (b + 217) :: st) :=
  pj_callV C (As := [.int x1]) (fun l D E => pc_Mo_packetInt l D E  h) rfl rfl cl_Model (pj_lt tk_217 (by decide)) (fun E => ko_11 tk_217) wm_1492 wm_1494 wm_68 wm_103 wm_1495 (by decide +kernel) (n := 1) rfl hR rfl h8 hdg hp (fun v u' hq => by obtain ⟨r, rfl, hk⟩ := hq; exact kk r u' hk)
theorem ck_Model_297_Model {g : pj_G} {b : Nat} {cc : ByteArray} {nL : Nat} {ret : Option FieldType} {rm : Room} {u : pj_M} {pc pc' : Nat} {vs : List (Option Value)} {st : List Value} (C : pj_X g cc nL R_Mo ret rm) {x1 : Int32} {x2 : Int32} {x3 : Int32} {K : Int32 → pj_M → Prop}  (h : pw_Mo_mixed u x1 x2 x3 K) (hdg : decode cc pc = .ok (.invokevirtual 297, 3)) (hp : pc + 3 = pc') (hR : rm_Mo_mixed.frames + 1 ≤ rm.frames ∧ 8 + (4 + 11) + rm_Mo_mixed.locals ≤ rm.locals) (h8 : (st.map fun v => v.category).sum ≤ 8) (kk : ∀ r u', K r u' → pj_J g (pj_N g b u') pc' vs (.int r :: st)) : pj_J g (pj_N g b u) pc vs (.int x3 :: .int x2 :: .int x1 :: .ref (b + 217) :: st) :=
  pj_callV C (As := [.int x1, .int x2, .int x3]) (fun l D E => pc_Mo_mixed l D E  h) rfl rfl cl_Model (pj_lt tk_217 (by decide)) (fun E => ko_11 tk_217) wm_1508 wm_1510 wm_72 wm_103 wm_1511 (by decide +kernel) (n := 3) rfl hR rfl h8 hdg hp (fun v u' hq => by obtain ⟨r, rfl, hk⟩ := hq; exact kk r u' hk)
theorem ck_Model_300_Model {g : pj_G} {b : Nat} {cc : ByteArray} {nL : Nat} {ret : Option FieldType} {rm : Room} {u : pj_M} {pc pc' : Nat} {vs : List (Option Value)} {st : List Value} (C : pj_X g cc nL R_Mo ret rm) {x1 : Int32} {x2 : Int32} {x3 : Int32} {x4 : Int32} {K : Int32 → pj_M → Prop}  (h : pw_Mo_mac u x1 x2 x3 x4 K) (hdg : decode cc pc = .ok (.invokevirtual 300, 3)) (hp : pc + 3 = pc') (hR : rm_Mo_mac.frames + 1 ≤ rm.frames ∧ 8 + (5 + 11) + rm_Mo_mac.locals ≤ rm.locals) (h8 : (st.map fun v => v.category).sum ≤ 8) (kk : ∀ r u', K r u' → pj_J g (pj_N g b u') pc' vs (.int r :: st)) : pj_J g (pj_N g b u) pc vs (.int x4 :: .int x3 :: .int x2 :: .int x1 :: .ref (b + 217) :: st) :=
  pj_callV C (As := [.int x1, .int x2, .int x3, .int x4]) (fun l D E => pc_Mo_mac l D E  h) rfl rfl cl_Model (pj_lt tk_217 (by decide)) (fun E => ko_11 tk_217) wm_1512 wm_1514 wm_73 wm_103 wm_1515 (by decide +kernel) (n := 4) rfl hR rfl h8 hdg hp (fun v u' hq => by obtain ⟨r, rfl, hk⟩ := hq; exact kk r u' hk)
theorem ck_Model_279_Model {g : pj_G} {b : Nat} {cc : ByteArray} {nL : Nat} {ret : Option FieldType} {rm : Room} {u : pj_M} {pc pc' : Nat} {vs : List (Option Value)} {st : List Value} (C : pj_X g cc nL R_Mo ret rm) {x1 : Int32} {x2 : Int32} {x3 : Int32} {K : pj_M → Prop}  (h : pw_Mo_packet u x1 x2 x3 K) (hdg : decode cc pc = .ok (.invokevirtual 279, 3)) (hp : pc + 3 = pc') (hR : rm_Mo_packet.frames + 1 ≤ rm.frames ∧ 8 + (4 + 11) + rm_Mo_packet.locals ≤ rm.locals) (h8 : (st.map fun v => v.category).sum ≤ 8) (kk : ∀ u', K u' → pj_J g (pj_N g b u') pc' vs st) : pj_J g (pj_N g b u) pc vs (.int x3 :: .int x2 :: .int x1 :: .ref (b + 217) :: st) :=
  pj_callV C (As := [.int x1, .int x2, .int x3]) (fun l D E => pc_Mo_packet l D E  h) rfl rfl cl_Model (pj_lt tk_217 (by decide)) (fun E => ko_11 tk_217) wm_1378 wm_1380 wm_42 wm_103 wm_1381 (by decide +kernel) (n := 3) rfl hR rfl h8 hdg hp (fun v u' hq => by obtain ⟨rfl, hk⟩ := hq; exact kk u' hk)
theorem ck_Model_290_Model {g : pj_G} {b : Nat} {cc : ByteArray} {nL : Nat} {ret : Option FieldType} {rm : Room} {u : pj_M} {pc pc' : Nat} {vs : List (Option Value)} {st : List Value} (C : pj_X g cc nL R_Mo ret rm) {x1 : Int32} {K : pj_M → Prop}  (h : pw_Mo_addDataInt u x1 K) (hdg : decode cc pc = .ok (.invokevirtual 290, 3)) (hp : pc + 3 = pc') (hR : rm_Mo_addDataInt.frames + 1 ≤ rm.frames ∧ 8 + (3 + 11) + rm_Mo_addDataInt.locals ≤ rm.locals) (h8 : (st.map fun v => v.category).sum ≤ 8) (kk : ∀ u', K u' → pj_J g (pj_N g b u') pc' vs st) : pj_J g (pj_N g b u) pc vs (.int x1 :: .ref (b + 217) :: st) :=
  pj_callV C (As := [.int x1]) (fun l D E => pc_Mo_addDataInt l D E  h) rfl rfl cl_Model (pj_lt tk_217 (by decide)) (fun E => ko_11 tk_217) wm_1500 wm_1502 wm_70 wm_103 wm_1503 (by decide +kernel) (n := 1) rfl hR rfl h8 hdg hp (fun v u' hq => by obtain ⟨rfl, hk⟩ := hq; exact kk u' hk)
def rm_Mo_mutual : Room := { frames := 4, cells := 0, slots := 0, locals := 89 }
def pb_Mo_mutual_169  (K : Int32 → pj_M → Prop) (u : pj_M)  : Prop := K 0 u
set_option maxHeartbeats 1000000 in
theorem pt_Mo_mutual_169 {g : pj_G} {b : Nat} (C : pj_X g c_Mo_mutual 5 R_Mo (some .boolean) rm_Mo_mutual) {K : Int32 → pj_M → Prop} (hE : pj_E g b (pj_Ki K))   {u : pj_M}    (h : pb_Mo_mutual_169  K u ) : pj_J g (pj_N g b u) 169 [none, none, none, none, none] [] := by
  unfold pb_Mo_mutual_169 at h
  refine pj_iconst C d_Mo_mutual_169 (pc' := 170) rfl (v := 0) (by decide) ?_
  exact pj_zret C hE d_Mo_mutual_170 pj_bi0 ⟨_, rfl, h⟩
def pb_Mo_mutual_171  (K : Int32 → pj_M → Prop) (u : pj_M) (x1 : Int32) : Prop := vp_in x1 4 ∧ pj_put u 233 x1.toNatClampNeg (vp_nar .boolean 1) fun u1 => (vp_in x1 4 ∧ (vp_in x1 4 ∧ (vp_in x1 4 ∧ (pw_Mo_mac u1 (u1 229 x1.toNatClampNeg) 4 (u1 236 x1.toNatClampNeg) (u1 237 x1.toNatClampNeg) fun r3 u2 => (vp_in 1 48 ∧ (pw_Mo_packet u2 2 (u2 227 (1 : Int32).toNatClampNeg) 51 fun u4 => (pw_Mo_addData u4 4 fun u5 => (pw_Mo_addDataInt u5 r3 fun u6 => (K 1 u6)))))))))
set_option maxHeartbeats 1000000 in
theorem pt_Mo_mutual_171 {g : pj_G} {b : Nat} (C : pj_X g c_Mo_mutual 5 R_Mo (some .boolean) rm_Mo_mutual) {K : Int32 → pj_M → Prop} (hE : pj_E g b (pj_Ki K))   {u : pj_M} {x1 : Int32}   (h : pb_Mo_mutual_171  K u x1) : pj_J g (pj_N g b u) 171 [some (.ref (b + 217)), some (.int x1), none, none, none] [] := by
  unfold pb_Mo_mutual_171 at h
  refine pj_aload_n C d_Mo_mutual_171 (pc' := 172) (i := 0) (x := b + 217) rfl rfl rfl ?_
  refine fg_Model_56_Model C tk_217 d_Mo_mutual_172 (pc' := 175) rfl ?_
  refine pj_iload_n C d_Mo_mutual_175 (pc' := 176) (i := 1) (x := x1) rfl rfl rfl ?_
  refine pj_iconst C d_Mo_mutual_176 (pc' := 177) rfl (v := 1) (by decide) ?_
  refine pj_zast C (pj_lt tk_233 (by decide)) (fun E u => ka_31 tk_233) d_Mo_mutual_177 (pc' := 178) rfl h (fun u1 h => ?_)
  refine pj_aload_n C d_Mo_mutual_178 (pc' := 179) (i := 0) (x := b + 217) rfl rfl rfl ?_
  refine pj_aload_n C d_Mo_mutual_179 (pc' := 180) (i := 0) (x := b + 217) rfl rfl rfl ?_
  refine fg_Model_44_Model C tk_217 d_Mo_mutual_180 (pc' := 183) rfl ?_
  refine pj_iload_n C d_Mo_mutual_183 (pc' := 184) (i := 1) (x := x1) rfl rfl rfl ?_
  refine pj_iald C (pj_lt tk_229 (by decide)) (fun E u => ka_23 tk_229) d_Mo_mutual_184 (pc' := 185) rfl h (fun h => ?_)
  refine pj_iconst C d_Mo_mutual_185 (pc' := 186) rfl (v := 4) (by decide) ?_
  refine pj_aload_n C d_Mo_mutual_186 (pc' := 187) (i := 0) (x := b + 217) rfl rfl rfl ?_
  refine fg_Model_65_Model C tk_217 d_Mo_mutual_187 (pc' := 190) rfl ?_
  refine pj_iload_n C d_Mo_mutual_190 (pc' := 191) (i := 1) (x := x1) rfl rfl rfl ?_
  refine pj_iald C (pj_lt tk_236 (by decide)) (fun E u => ka_23 tk_236) d_Mo_mutual_191 (pc' := 192) rfl h (fun h => ?_)
  refine pj_aload_n C d_Mo_mutual_192 (pc' := 193) (i := 0) (x := b + 217) rfl rfl rfl ?_
  refine fg_Model_68_Model C tk_217 d_Mo_mutual_193 (pc' := 196) rfl ?_
  refine pj_iload_n C d_Mo_mutual_196 (pc' := 197) (i := 1) (x := x1) rfl rfl rfl ?_
  refine pj_iald C (pj_lt tk_237 (by decide)) (fun E u => ka_23 tk_237) d_Mo_mutual_197 (pc' := 198) rfl h (fun h => ?_)
  refine ck_Model_300_Model C  h d_Mo_mutual_198 (pc' := 201) rfl ⟨Nat.le_of_ble_eq_true rfl, Nat.le_of_ble_eq_true rfl⟩ (Nat.le_of_ble_eq_true rfl) (fun r3 u2 h => ?_)
  refine pj_istore C d_Mo_mutual_201 (pc' := 203) (i := 4) (vs' := [some (.ref (b + 217)), some (.int x1), none, none, some (.int r3)]) rfl (Nat.le_of_ble_eq_true rfl) (Nat.le_of_ble_eq_true rfl) rfl rfl ?_
  refine pj_aload_n C d_Mo_mutual_203 (pc' := 204) (i := 0) (x := b + 217) rfl rfl rfl ?_
  refine pj_iconst C d_Mo_mutual_204 (pc' := 205) rfl (v := 2) (by decide) ?_
  refine pj_aload_n C d_Mo_mutual_205 (pc' := 206) (i := 0) (x := b + 217) rfl rfl rfl ?_
  refine fg_Model_38_Model C tk_217 d_Mo_mutual_206 (pc' := 209) rfl ?_
  refine pj_iconst C d_Mo_mutual_209 (pc' := 210) rfl (v := 1) (by decide) ?_
  refine pj_iald C (pj_lt tk_227 (by decide)) (fun E u => ka_22 tk_227) d_Mo_mutual_210 (pc' := 211) rfl h (fun h => ?_)
  refine pj_bipush C d_Mo_mutual_211 (pc' := 213) rfl (v := 51) (by decide) ?_
  refine ck_Model_279_Model C  h d_Mo_mutual_213 (pc' := 216) rfl ⟨Nat.le_of_ble_eq_true rfl, Nat.le_of_ble_eq_true rfl⟩ (Nat.le_of_ble_eq_true rfl) (fun u4 h => ?_)
  refine pj_aload_n C d_Mo_mutual_216 (pc' := 217) (i := 0) (x := b + 217) rfl rfl rfl ?_
  refine pj_iconst C d_Mo_mutual_217 (pc' := 218) rfl (v := 4) (by decide) ?_
  refine ck_Model_236_Model C  h d_Mo_mutual_218 (pc' := 221) rfl ⟨Nat.le_of_ble_eq_true rfl, Nat.le_of_ble_eq_true rfl⟩ (Nat.le_of_ble_eq_true rfl) (fun u5 h => ?_)
  refine pj_aload_n C d_Mo_mutual_221 (pc' := 222) (i := 0) (x := b + 217) rfl rfl rfl ?_
  refine pj_iload C d_Mo_mutual_222 (pc' := 224) (i := 4) (x := r3) rfl rfl ?_
  refine ck_Model_290_Model C  h d_Mo_mutual_224 (pc' := 227) rfl ⟨Nat.le_of_ble_eq_true rfl, Nat.le_of_ble_eq_true rfl⟩ (Nat.le_of_ble_eq_true rfl) (fun u6 h => ?_)
  refine pj_iconst C d_Mo_mutual_227 (pc' := 228) rfl (v := 1) (by decide) ?_
  exact pj_zret C hE d_Mo_mutual_228 pj_bi1 ⟨_, rfl, h⟩
def pb_Mo_mutual_142  (K : Int32 → pj_M → Prop) (u : pj_M) (x1 : Int32) (x3 : Int32) : Prop := vp_in x1 4 ∧ (vp_in x1 4 ∧ (vp_in x1 4 ∧ (pw_Mo_mac u (u 229 x1.toNatClampNeg) 3 (u 237 x1.toNatClampNeg) (u 236 x1.toNatClampNeg) fun r2 u1 => (((x3 = r2) → (pb_Mo_mutual_171  K u1 x1)) ∧ (¬ (x3 = r2) → (pb_Mo_mutual_169  K u1 ))))))
set_option maxHeartbeats 1000000 in
theorem pt_Mo_mutual_142 {g : pj_G} {b : Nat} (C : pj_X g c_Mo_mutual 5 R_Mo (some .boolean) rm_Mo_mutual) {K : Int32 → pj_M → Prop} (hE : pj_E g b (pj_Ki K))   {u : pj_M} {x1 : Int32} {x3 : Int32}   (h : pb_Mo_mutual_142  K u x1 x3) : pj_J g (pj_N g b u) 142 [some (.ref (b + 217)), some (.int x1), none, some (.int x3), none] [] := by
  unfold pb_Mo_mutual_142 at h
  refine pj_iload_n C d_Mo_mutual_142 (pc' := 143) (i := 3) (x := x3) rfl rfl rfl ?_
  refine pj_aload_n C d_Mo_mutual_143 (pc' := 144) (i := 0) (x := b + 217) rfl rfl rfl ?_
  refine pj_aload_n C d_Mo_mutual_144 (pc' := 145) (i := 0) (x := b + 217) rfl rfl rfl ?_
  refine fg_Model_44_Model C tk_217 d_Mo_mutual_145 (pc' := 148) rfl ?_
  refine pj_iload_n C d_Mo_mutual_148 (pc' := 149) (i := 1) (x := x1) rfl rfl rfl ?_
  refine pj_iald C (pj_lt tk_229 (by decide)) (fun E u => ka_23 tk_229) d_Mo_mutual_149 (pc' := 150) rfl h (fun h => ?_)
  refine pj_iconst C d_Mo_mutual_150 (pc' := 151) rfl (v := 3) (by decide) ?_
  refine pj_aload_n C d_Mo_mutual_151 (pc' := 152) (i := 0) (x := b + 217) rfl rfl rfl ?_
  refine fg_Model_68_Model C tk_217 d_Mo_mutual_152 (pc' := 155) rfl ?_
  refine pj_iload_n C d_Mo_mutual_155 (pc' := 156) (i := 1) (x := x1) rfl rfl rfl ?_
  refine pj_iald C (pj_lt tk_237 (by decide)) (fun E u => ka_23 tk_237) d_Mo_mutual_156 (pc' := 157) rfl h (fun h => ?_)
  refine pj_aload_n C d_Mo_mutual_157 (pc' := 158) (i := 0) (x := b + 217) rfl rfl rfl ?_
  refine fg_Model_65_Model C tk_217 d_Mo_mutual_158 (pc' := 161) rfl ?_
  refine pj_iload_n C d_Mo_mutual_161 (pc' := 162) (i := 1) (x := x1) rfl rfl rfl ?_
  refine pj_iald C (pj_lt tk_236 (by decide)) (fun E u => ka_23 tk_236) d_Mo_mutual_162 (pc' := 163) rfl h (fun h => ?_)
  refine ck_Model_300_Model C  h d_Mo_mutual_163 (pc' := 166) rfl ⟨Nat.le_of_ble_eq_true rfl, Nat.le_of_ble_eq_true rfl⟩ (Nat.le_of_ble_eq_true rfl) (fun r2 u1 h => ?_)
  refine pj_icmp_eq C d_Mo_mutual_166 (pc' := 169) rfl (tgt := 171) (by decide) h (fun h => ?_) (fun h => ?_)
  · exact pj_cut (pj_le_s (pj_le_s (pj_le_n (pj_le_n (pj_le_n pj_le_e))))) (pt_Mo_mutual_171 C hE   h)
  · exact pj_cut (pj_le_n (pj_le_n (pj_le_n (pj_le_n (pj_le_n pj_le_e))))) (pt_Mo_mutual_169 C hE   h)
def pb_Mo_mutual_133  (K : Int32 → pj_M → Prop) (u : pj_M) (x1 : Int32) (x3 : Int32) : Prop := vp_in x1 4 ∧ ((((u 235 x1.toNatClampNeg) = 0) → (pb_Mo_mutual_169  K u )) ∧ (¬ ((u 235 x1.toNatClampNeg) = 0) → (pb_Mo_mutual_142  K u x1 x3)))
set_option maxHeartbeats 1000000 in
theorem pt_Mo_mutual_133 {g : pj_G} {b : Nat} (C : pj_X g c_Mo_mutual 5 R_Mo (some .boolean) rm_Mo_mutual) {K : Int32 → pj_M → Prop} (hE : pj_E g b (pj_Ki K))   {u : pj_M} {x1 : Int32} {x3 : Int32}   (h : pb_Mo_mutual_133  K u x1 x3) : pj_J g (pj_N g b u) 133 [some (.ref (b + 217)), some (.int x1), none, some (.int x3), none] [] := by
  unfold pb_Mo_mutual_133 at h
  refine pj_aload_n C d_Mo_mutual_133 (pc' := 134) (i := 0) (x := b + 217) rfl rfl rfl ?_
  refine fg_Model_62_Model C tk_217 d_Mo_mutual_134 (pc' := 137) rfl ?_
  refine pj_iload_n C d_Mo_mutual_137 (pc' := 138) (i := 1) (x := x1) rfl rfl rfl ?_
  refine pj_zald C (pj_lt tk_235 (by decide)) (fun E u => ka_31 tk_235) d_Mo_mutual_138 (pc' := 139) rfl h (fun h => ?_)
  refine pj_if_eq C d_Mo_mutual_139 (pc' := 142) rfl (tgt := 169) (by decide) h (fun h => ?_) (fun h => ?_)
  · exact pj_cut (pj_le_n (pj_le_n (pj_le_n (pj_le_n (pj_le_n pj_le_e))))) (pt_Mo_mutual_169 C hE   h)
  · exact pj_cut (pj_le_s (pj_le_s (pj_le_n (pj_le_s (pj_le_n pj_le_e))))) (pt_Mo_mutual_142 C hE   h)
def pb_Mo_mutual_128  (K : Int32 → pj_M → Prop) (u : pj_M) (x1 : Int32) (x2 : Int32) (x3 : Int32) : Prop := ((x2 = 3) → (pb_Mo_mutual_133  K u x1 x3)) ∧ (¬ (x2 = 3) → (pb_Mo_mutual_169  K u ))
set_option maxHeartbeats 1000000 in
theorem pt_Mo_mutual_128 {g : pj_G} {b : Nat} (C : pj_X g c_Mo_mutual 5 R_Mo (some .boolean) rm_Mo_mutual) {K : Int32 → pj_M → Prop} (hE : pj_E g b (pj_Ki K))   {u : pj_M} {x1 : Int32} {x2 : Int32} {x3 : Int32}   (h : pb_Mo_mutual_128  K u x1 x2 x3) : pj_J g (pj_N g b u) 128 [some (.ref (b + 217)), some (.int x1), some (.int x2), some (.int x3), none] [] := by
  unfold pb_Mo_mutual_128 at h
  refine pj_iload_n C d_Mo_mutual_128 (pc' := 129) (i := 2) (x := x2) rfl rfl rfl ?_
  refine pj_iconst C d_Mo_mutual_129 (pc' := 130) rfl (v := 3) (by decide) ?_
  refine pj_icmp_ne C d_Mo_mutual_130 (pc' := 133) rfl (tgt := 169) (by decide) h (fun h => ?_) (fun h => ?_)
  · exact pj_cut (pj_le_n (pj_le_n (pj_le_n (pj_le_n (pj_le_n pj_le_e))))) (pt_Mo_mutual_169 C hE   h)
  · exact pj_cut (pj_le_s (pj_le_s (pj_le_n (pj_le_s (pj_le_n pj_le_e))))) (pt_Mo_mutual_133 C hE   h)
def pb_Mo_mutual_18  (K : Int32 → pj_M → Prop) (u : pj_M) (x1 : Int32) (x3 : Int32) : Prop := vp_in x1 4 ∧ pj_put u 233 x1.toNatClampNeg (vp_nar .boolean 0) fun u1 => (vp_in x1 4 ∧ pj_put u1 235 x1.toNatClampNeg (vp_nar .boolean 1) fun u2 => (vp_in x1 4 ∧ pj_put u2 236 x1.toNatClampNeg x3 fun u3 => (vp_in x1 4 ∧ (vp_in x1 4 ∧ (pw_Mo_mixed u3 (u3 229 x1.toNatClampNeg) x1 (u3 238 x1.toNatClampNeg) fun r5 u4 => (vp_in x1 4 ∧ pj_put u4 237 x1.toNatClampNeg r5 fun u6 => (vp_in x1 4 ∧ (vp_in x1 4 ∧ pj_put u6 238 x1.toNatClampNeg ((u6 238 x1.toNatClampNeg) + 1) fun u7 => (vp_in x1 4 ∧ (vp_in x1 4 ∧ (pw_Mo_mac u7 (u7 229 x1.toNatClampNeg) 2 x3 (u7 237 x1.toNatClampNeg) fun r9 u8 => (vp_in 1 48 ∧ (pw_Mo_packet u8 2 (u8 227 (1 : Int32).toNatClampNeg) 51 fun u10 => (pw_Mo_addData u10 2 fun u11 => (vp_in x1 4 ∧ (pw_Mo_addDataInt u11 (u11 237 x1.toNatClampNeg) fun u12 => (pw_Mo_addDataInt u12 r9 fun u13 => (K 1 u13))))))))))))))))))
set_option maxHeartbeats 1000000 in
theorem pt_Mo_mutual_18 {g : pj_G} {b : Nat} (C : pj_X g c_Mo_mutual 5 R_Mo (some .boolean) rm_Mo_mutual) {K : Int32 → pj_M → Prop} (hE : pj_E g b (pj_Ki K))   {u : pj_M} {x1 : Int32} {x3 : Int32}   (h : pb_Mo_mutual_18  K u x1 x3) : pj_J g (pj_N g b u) 18 [some (.ref (b + 217)), some (.int x1), none, some (.int x3), none] [] := by
  unfold pb_Mo_mutual_18 at h
  refine pj_aload_n C d_Mo_mutual_18 (pc' := 19) (i := 0) (x := b + 217) rfl rfl rfl ?_
  refine fg_Model_56_Model C tk_217 d_Mo_mutual_19 (pc' := 22) rfl ?_
  refine pj_iload_n C d_Mo_mutual_22 (pc' := 23) (i := 1) (x := x1) rfl rfl rfl ?_
  refine pj_iconst C d_Mo_mutual_23 (pc' := 24) rfl (v := 0) (by decide) ?_
  refine pj_zast C (pj_lt tk_233 (by decide)) (fun E u => ka_31 tk_233) d_Mo_mutual_24 (pc' := 25) rfl h (fun u1 h => ?_)
  refine pj_aload_n C d_Mo_mutual_25 (pc' := 26) (i := 0) (x := b + 217) rfl rfl rfl ?_
  refine fg_Model_62_Model C tk_217 d_Mo_mutual_26 (pc' := 29) rfl ?_
  refine pj_iload_n C d_Mo_mutual_29 (pc' := 30) (i := 1) (x := x1) rfl rfl rfl ?_
  refine pj_iconst C d_Mo_mutual_30 (pc' := 31) rfl (v := 1) (by decide) ?_
  refine pj_zast C (pj_lt tk_235 (by decide)) (fun E u => ka_31 tk_235) d_Mo_mutual_31 (pc' := 32) rfl h (fun u2 h => ?_)
  refine pj_aload_n C d_Mo_mutual_32 (pc' := 33) (i := 0) (x := b + 217) rfl rfl rfl ?_
  refine fg_Model_65_Model C tk_217 d_Mo_mutual_33 (pc' := 36) rfl ?_
  refine pj_iload_n C d_Mo_mutual_36 (pc' := 37) (i := 1) (x := x1) rfl rfl rfl ?_
  refine pj_iload_n C d_Mo_mutual_37 (pc' := 38) (i := 3) (x := x3) rfl rfl rfl ?_
  refine pj_iast C (pj_lt tk_236 (by decide)) (fun E u => ka_23 tk_236) d_Mo_mutual_38 (pc' := 39) rfl h (fun u3 h => ?_)
  refine pj_aload_n C d_Mo_mutual_39 (pc' := 40) (i := 0) (x := b + 217) rfl rfl rfl ?_
  refine fg_Model_68_Model C tk_217 d_Mo_mutual_40 (pc' := 43) rfl ?_
  refine pj_iload_n C d_Mo_mutual_43 (pc' := 44) (i := 1) (x := x1) rfl rfl rfl ?_
  refine pj_aload_n C d_Mo_mutual_44 (pc' := 45) (i := 0) (x := b + 217) rfl rfl rfl ?_
  refine pj_aload_n C d_Mo_mutual_45 (pc' := 46) (i := 0) (x := b + 217) rfl rfl rfl ?_
  refine fg_Model_44_Model C tk_217 d_Mo_mutual_46 (pc' := 49) rfl ?_
  refine pj_iload_n C d_Mo_mutual_49 (pc' := 50) (i := 1) (x := x1) rfl rfl rfl ?_
  refine pj_iald C (pj_lt tk_229 (by decide)) (fun E u => ka_23 tk_229) d_Mo_mutual_50 (pc' := 51) rfl h (fun h => ?_)
  refine pj_iload_n C d_Mo_mutual_51 (pc' := 52) (i := 1) (x := x1) rfl rfl rfl ?_
  refine pj_aload_n C d_Mo_mutual_52 (pc' := 53) (i := 0) (x := b + 217) rfl rfl rfl ?_
  refine fg_Model_71_Model C tk_217 d_Mo_mutual_53 (pc' := 56) rfl ?_
  refine pj_iload_n C d_Mo_mutual_56 (pc' := 57) (i := 1) (x := x1) rfl rfl rfl ?_
  refine pj_iald C (pj_lt tk_238 (by decide)) (fun E u => ka_23 tk_238) d_Mo_mutual_57 (pc' := 58) rfl h (fun h => ?_)
  refine ck_Model_297_Model C  h d_Mo_mutual_58 (pc' := 61) rfl ⟨Nat.le_of_ble_eq_true rfl, Nat.le_of_ble_eq_true rfl⟩ (Nat.le_of_ble_eq_true rfl) (fun r5 u4 h => ?_)
  refine pj_iast C (pj_lt tk_237 (by decide)) (fun E u => ka_23 tk_237) d_Mo_mutual_61 (pc' := 62) rfl h (fun u6 h => ?_)
  refine pj_aload_n C d_Mo_mutual_62 (pc' := 63) (i := 0) (x := b + 217) rfl rfl rfl ?_
  refine fg_Model_71_Model C tk_217 d_Mo_mutual_63 (pc' := 66) rfl ?_
  refine pj_iload_n C d_Mo_mutual_66 (pc' := 67) (i := 1) (x := x1) rfl rfl rfl ?_
  refine pj_dup2_11 C d_Mo_mutual_67 (pc' := 68) rfl rfl rfl ?_
  refine pj_iald C (pj_lt tk_238 (by decide)) (fun E u => ka_23 tk_238) d_Mo_mutual_68 (pc' := 69) rfl h (fun h => ?_)
  refine pj_iconst C d_Mo_mutual_69 (pc' := 70) rfl (v := 1) (by decide) ?_
  refine pj_iadd C d_Mo_mutual_70 (pc' := 71) rfl ?_
  refine pj_iast C (pj_lt tk_238 (by decide)) (fun E u => ka_23 tk_238) d_Mo_mutual_71 (pc' := 72) rfl h (fun u7 h => ?_)
  refine pj_aload_n C d_Mo_mutual_72 (pc' := 73) (i := 0) (x := b + 217) rfl rfl rfl ?_
  refine pj_aload_n C d_Mo_mutual_73 (pc' := 74) (i := 0) (x := b + 217) rfl rfl rfl ?_
  refine fg_Model_44_Model C tk_217 d_Mo_mutual_74 (pc' := 77) rfl ?_
  refine pj_iload_n C d_Mo_mutual_77 (pc' := 78) (i := 1) (x := x1) rfl rfl rfl ?_
  refine pj_iald C (pj_lt tk_229 (by decide)) (fun E u => ka_23 tk_229) d_Mo_mutual_78 (pc' := 79) rfl h (fun h => ?_)
  refine pj_iconst C d_Mo_mutual_79 (pc' := 80) rfl (v := 2) (by decide) ?_
  refine pj_iload_n C d_Mo_mutual_80 (pc' := 81) (i := 3) (x := x3) rfl rfl rfl ?_
  refine pj_aload_n C d_Mo_mutual_81 (pc' := 82) (i := 0) (x := b + 217) rfl rfl rfl ?_
  refine fg_Model_68_Model C tk_217 d_Mo_mutual_82 (pc' := 85) rfl ?_
  refine pj_iload_n C d_Mo_mutual_85 (pc' := 86) (i := 1) (x := x1) rfl rfl rfl ?_
  refine pj_iald C (pj_lt tk_237 (by decide)) (fun E u => ka_23 tk_237) d_Mo_mutual_86 (pc' := 87) rfl h (fun h => ?_)
  refine ck_Model_300_Model C  h d_Mo_mutual_87 (pc' := 90) rfl ⟨Nat.le_of_ble_eq_true rfl, Nat.le_of_ble_eq_true rfl⟩ (Nat.le_of_ble_eq_true rfl) (fun r9 u8 h => ?_)
  refine pj_istore C d_Mo_mutual_90 (pc' := 92) (i := 4) (vs' := [some (.ref (b + 217)), some (.int x1), none, some (.int x3), some (.int r9)]) rfl (Nat.le_of_ble_eq_true rfl) (Nat.le_of_ble_eq_true rfl) rfl rfl ?_
  refine pj_aload_n C d_Mo_mutual_92 (pc' := 93) (i := 0) (x := b + 217) rfl rfl rfl ?_
  refine pj_iconst C d_Mo_mutual_93 (pc' := 94) rfl (v := 2) (by decide) ?_
  refine pj_aload_n C d_Mo_mutual_94 (pc' := 95) (i := 0) (x := b + 217) rfl rfl rfl ?_
  refine fg_Model_38_Model C tk_217 d_Mo_mutual_95 (pc' := 98) rfl ?_
  refine pj_iconst C d_Mo_mutual_98 (pc' := 99) rfl (v := 1) (by decide) ?_
  refine pj_iald C (pj_lt tk_227 (by decide)) (fun E u => ka_22 tk_227) d_Mo_mutual_99 (pc' := 100) rfl h (fun h => ?_)
  refine pj_bipush C d_Mo_mutual_100 (pc' := 102) rfl (v := 51) (by decide) ?_
  refine ck_Model_279_Model C  h d_Mo_mutual_102 (pc' := 105) rfl ⟨Nat.le_of_ble_eq_true rfl, Nat.le_of_ble_eq_true rfl⟩ (Nat.le_of_ble_eq_true rfl) (fun u10 h => ?_)
  refine pj_aload_n C d_Mo_mutual_105 (pc' := 106) (i := 0) (x := b + 217) rfl rfl rfl ?_
  refine pj_iconst C d_Mo_mutual_106 (pc' := 107) rfl (v := 2) (by decide) ?_
  refine ck_Model_236_Model C  h d_Mo_mutual_107 (pc' := 110) rfl ⟨Nat.le_of_ble_eq_true rfl, Nat.le_of_ble_eq_true rfl⟩ (Nat.le_of_ble_eq_true rfl) (fun u11 h => ?_)
  refine pj_aload_n C d_Mo_mutual_110 (pc' := 111) (i := 0) (x := b + 217) rfl rfl rfl ?_
  refine pj_aload_n C d_Mo_mutual_111 (pc' := 112) (i := 0) (x := b + 217) rfl rfl rfl ?_
  refine fg_Model_68_Model C tk_217 d_Mo_mutual_112 (pc' := 115) rfl ?_
  refine pj_iload_n C d_Mo_mutual_115 (pc' := 116) (i := 1) (x := x1) rfl rfl rfl ?_
  refine pj_iald C (pj_lt tk_237 (by decide)) (fun E u => ka_23 tk_237) d_Mo_mutual_116 (pc' := 117) rfl h (fun h => ?_)
  refine ck_Model_290_Model C  h d_Mo_mutual_117 (pc' := 120) rfl ⟨Nat.le_of_ble_eq_true rfl, Nat.le_of_ble_eq_true rfl⟩ (Nat.le_of_ble_eq_true rfl) (fun u12 h => ?_)
  refine pj_aload_n C d_Mo_mutual_120 (pc' := 121) (i := 0) (x := b + 217) rfl rfl rfl ?_
  refine pj_iload C d_Mo_mutual_121 (pc' := 123) (i := 4) (x := r9) rfl rfl ?_
  refine ck_Model_290_Model C  h d_Mo_mutual_123 (pc' := 126) rfl ⟨Nat.le_of_ble_eq_true rfl, Nat.le_of_ble_eq_true rfl⟩ (Nat.le_of_ble_eq_true rfl) (fun u13 h => ?_)
  refine pj_iconst C d_Mo_mutual_126 (pc' := 127) rfl (v := 1) (by decide) ?_
  exact pj_zret C hE d_Mo_mutual_127 pj_bi1 ⟨_, rfl, h⟩
def pb_Mo_mutual_0  (K : Int32 → pj_M → Prop) (u : pj_M) (x1 : Int32) : Prop := vp_in 4 48 ∧ (pj_let (u 227 (4 : Int32).toNatClampNeg) fun y1 => (pw_Mo_packetInt u 5 fun r3 u2 => (((y1 = 1) → (pb_Mo_mutual_18  K u2 x1 r3)) ∧ (¬ (y1 = 1) → (pb_Mo_mutual_128  K u2 x1 y1 r3)))))
set_option maxHeartbeats 1000000 in
theorem pt_Mo_mutual_0 {g : pj_G} {b : Nat} (C : pj_X g c_Mo_mutual 5 R_Mo (some .boolean) rm_Mo_mutual) {K : Int32 → pj_M → Prop} (hE : pj_E g b (pj_Ki K))   {u : pj_M} {x1 : Int32}   (h : pb_Mo_mutual_0  K u x1) : pj_J g (pj_N g b u) 0 [some (.ref (b + 217)), some (.int x1), none, none, none] [] := by
  unfold pb_Mo_mutual_0 at h
  refine pj_aload_n C d_Mo_mutual_0 (pc' := 1) (i := 0) (x := b + 217) rfl rfl rfl ?_
  refine fg_Model_38_Model C tk_217 d_Mo_mutual_1 (pc' := 4) rfl ?_
  refine pj_iconst C d_Mo_mutual_4 (pc' := 5) rfl (v := 4) (by decide) ?_
  refine pj_iald C (pj_lt tk_227 (by decide)) (fun E u => ka_22 tk_227) d_Mo_mutual_5 (pc' := 6) rfl h (fun h => ?_)
  refine pj_name h (fun y1 h => ?_)
  refine pj_istore_n C d_Mo_mutual_6 (pc' := 7) (i := 2) (vs' := [some (.ref (b + 217)), some (.int x1), some (.int y1), none, none]) rfl rfl (Nat.le_of_ble_eq_true rfl) (Nat.le_of_ble_eq_true rfl) rfl rfl ?_
  refine pj_aload_n C d_Mo_mutual_7 (pc' := 8) (i := 0) (x := b + 217) rfl rfl rfl ?_
  refine pj_iconst C d_Mo_mutual_8 (pc' := 9) rfl (v := 5) (by decide) ?_
  refine ck_Model_283_Model C  h d_Mo_mutual_9 (pc' := 12) rfl ⟨Nat.le_of_ble_eq_true rfl, Nat.le_of_ble_eq_true rfl⟩ (Nat.le_of_ble_eq_true rfl) (fun r3 u2 h => ?_)
  refine pj_istore_n C d_Mo_mutual_12 (pc' := 13) (i := 3) (vs' := [some (.ref (b + 217)), some (.int x1), some (.int y1), some (.int r3), none]) rfl rfl (Nat.le_of_ble_eq_true rfl) (Nat.le_of_ble_eq_true rfl) rfl rfl ?_
  refine pj_iload_n C d_Mo_mutual_13 (pc' := 14) (i := 2) (x := y1) rfl rfl rfl ?_
  refine pj_iconst C d_Mo_mutual_14 (pc' := 15) rfl (v := 1) (by decide) ?_
  refine pj_icmp_ne C d_Mo_mutual_15 (pc' := 18) rfl (tgt := 128) (by decide) h (fun h => ?_) (fun h => ?_)
  · exact pj_cut (pj_le_s (pj_le_s (pj_le_s (pj_le_s (pj_le_n pj_le_e))))) (pt_Mo_mutual_128 C hE   h)
  · exact pj_cut (pj_le_s (pj_le_s (pj_le_n (pj_le_s (pj_le_n pj_le_e))))) (pt_Mo_mutual_18 C hE   h)
def pw_Mo_mutual (u : pj_M) (x1 : Int32) (K : Int32 → pj_M → Prop) : Prop := pb_Mo_mutual_0  K u x1
theorem pc_Mo_mutual (l : Launch) (D : va_G) (E : Nat → ClassId) {b : Nat} {u : pj_M} {x1 : Int32} {K : Int32 → pj_M → Prop}  (h : pw_Mo_mutual u x1 K) : pj_C l y_Mo_mutual c_Mo_mutual 5 (some .boolean) rm_Mo_mutual D E b [.ref (b + 217), .int x1] u (pj_Ki K) := by
  refine pj_met (own := R_Mo) (by decide +kernel) rfl (Nat.le_of_ble_eq_true rfl) (fun g hE C => ?_)
  unfold pw_Mo_mutual at h
  show pj_J g (pj_N g b u) 0 [some (.ref (b + 217)), some (.int x1), none, none, none] []
  exact pj_cut (pj_le_s (pj_le_s (pj_le_n (pj_le_n (pj_le_n pj_le_e))))) (pt_Mo_mutual_0 C hE   h)
/-! Model.requested(I)V -/
theorem fg_Model_53_Model {g : pj_G} {b : Nat} {cc : ByteArray} {nL : Nat} {ret : Option FieldType} {rm : Room} {u : pj_M} {pc pc' : Nat} {vs : List (Option Value)} {st : List Value} (C : pj_X g cc nL R_Mo ret rm) {i : Nat} (t : pj_T i = 11) (hdg : decode cc pc = .ok (.getfield 53, 3)) (hp : pc + 3 = pc') (kk : pj_J g (pj_N g b u) pc' vs (.ref (b + 232) :: st)) : pj_J g (pj_N g b u) pc vs (.ref (b + i) :: st) :=
  pj_get C cl_Model hin_Model (k := 23) (Nat.le_of_ble_eq_true rfl) wm_1147 (Or.inl rfl) (pj_lt t (by decide)) (fun E => ko_11 t) rfl hdg hp kk
theorem ck_Model_276_Model {g : pj_G} {b : Nat} {cc : ByteArray} {nL : Nat} {ret : Option FieldType} {rm : Room} {u : pj_M} {pc pc' : Nat} {vs : List (Option Value)} {st : List Value} (C : pj_X g cc nL R_Mo ret rm) {x1 : Int32} {x2 : Int32} {K : pj_M → Prop}  (h : pw_Mo_sendFrame u x1 x2 K) (hdg : decode cc pc = .ok (.invokevirtual 276, 3)) (hp : pc + 3 = pc') (hR : rm_Mo_sendFrame.frames + 1 ≤ rm.frames ∧ 8 + (4 + 11) + rm_Mo_sendFrame.locals ≤ rm.locals) (h8 : (st.map fun v => v.category).sum ≤ 8) (kk : ∀ u', K u' → pj_J g (pj_N g b u') pc' vs st) : pj_J g (pj_N g b u) pc vs (.int x2 :: .int x1 :: .ref (b + 217) :: st) :=
  pj_callV C (As := [.int x1, .int x2]) (fun l D E => pc_Mo_sendFrame l D E  h) rfl rfl cl_Model (pj_lt tk_217 (by decide)) (fun E => ko_11 tk_217) wm_1390 wm_1392 wm_45 wm_103 wm_1393 (by decide +kernel) (n := 2) rfl hR rfl h8 hdg hp (fun v u' hq => by obtain ⟨rfl, hk⟩ := hq; exact kk u' hk)
theorem ck_Model_286_Model {g : pj_G} {b : Nat} {cc : ByteArray} {nL : Nat} {ret : Option FieldType} {rm : Room} {u : pj_M} {pc pc' : Nat} {vs : List (Option Value)} {st : List Value} (C : pj_X g cc nL R_Mo ret rm) {x1 : Int32} {x2 : Int32} {x3 : Int32} {K : Int32 → pj_M → Prop}  (h : pw_Mo_proved u x1 x2 x3 K) (hdg : decode cc pc = .ok (.invokevirtual 286, 3)) (hp : pc + 3 = pc') (hR : rm_Mo_proved.frames + 1 ≤ rm.frames ∧ 8 + (4 + 11) + rm_Mo_proved.locals ≤ rm.locals) (h8 : (st.map fun v => v.category).sum ≤ 8) (kk : ∀ r u', K r u' → pj_J g (pj_N g b u') pc' vs (.int r :: st)) : pj_J g (pj_N g b u) pc vs (.int x3 :: .int x2 :: .int x1 :: .ref (b + 217) :: st) :=
  pj_callV C (As := [.int x1, .int x2, .int x3]) (fun l D E => pc_Mo_proved l D E  h) rfl rfl cl_Model (pj_lt tk_217 (by decide)) (fun E => ko_11 tk_217) wm_1496 wm_1498 wm_69 wm_103 wm_1499 (by decide +kernel) (n := 3) rfl hR rfl h8 hdg hp (fun v u' hq => by obtain ⟨r, rfl, hk⟩ := hq; exact kk r u' hk)
theorem ck_Model_293_Model {g : pj_G} {b : Nat} {cc : ByteArray} {nL : Nat} {ret : Option FieldType} {rm : Room} {u : pj_M} {pc pc' : Nat} {vs : List (Option Value)} {st : List Value} (C : pj_X g cc nL R_Mo ret rm) {x1 : Int32} {K : Int32 → pj_M → Prop}  (h : pw_Mo_mutual u x1 K) (hdg : decode cc pc = .ok (.invokevirtual 293, 3)) (hp : pc + 3 = pc') (hR : rm_Mo_mutual.frames + 1 ≤ rm.frames ∧ 8 + (5 + 11) + rm_Mo_mutual.locals ≤ rm.locals) (h8 : (st.map fun v => v.category).sum ≤ 8) (kk : ∀ r u', K r u' → pj_J g (pj_N g b u') pc' vs (.int r :: st)) : pj_J g (pj_N g b u) pc vs (.int x1 :: .ref (b + 217) :: st) :=
  pj_callV C (As := [.int x1]) (fun l D E => pc_Mo_mutual l D E  h) rfl rfl cl_Model (pj_lt tk_217 (by decide)) (fun E => ko_11 tk_217) wm_1504 wm_1506 wm_71 wm_103 wm_1507 (by decide +kernel) (n := 1) rfl hR rfl h8 hdg hp (fun v u' hq => by obtain ⟨r, rfl, hk⟩ := hq; exact kk r u' hk)
def rm_Mo_requested : Room := { frames := 5, cells := 0, slots := 0, locals := 113 }
def pb_Mo_requested_384  (K : pj_M → Prop) (u : pj_M)  : Prop := K u
set_option maxHeartbeats 1000000 in
theorem pt_Mo_requested_384 {g : pj_G} {b : Nat} (C : pj_X g c_Mo_requested 6 R_Mo none rm_Mo_requested) {K : pj_M → Prop} (hE : pj_E g b (pj_Kv K))   {u : pj_M}    (h : pb_Mo_requested_384  K u ) : pj_J g (pj_N g b u) 384 [none, none, none, none, none, none] [] := by
  unfold pb_Mo_requested_384 at h
  exact pj_vret C hE d_Mo_requested_384 ⟨rfl, h⟩
def pb_Mo_requested_378  (K : pj_M → Prop) (u : pj_M) (x1 : Int32) : Prop := pw_Mo_sendFrame u 0 x1 fun u1 => (pb_Mo_requested_384  K u1 )
set_option maxHeartbeats 1000000 in
theorem pt_Mo_requested_378 {g : pj_G} {b : Nat} (C : pj_X g c_Mo_requested 6 R_Mo none rm_Mo_requested) {K : pj_M → Prop} (hE : pj_E g b (pj_Kv K))   {u : pj_M} {x1 : Int32}   (h : pb_Mo_requested_378  K u x1) : pj_J g (pj_N g b u) 378 [some (.ref (b + 217)), some (.int x1), none, none, none, none] [] := by
  unfold pb_Mo_requested_378 at h
  refine pj_aload_n C d_Mo_requested_378 (pc' := 379) (i := 0) (x := b + 217) rfl rfl rfl ?_
  refine pj_iconst C d_Mo_requested_379 (pc' := 380) rfl (v := 0) (by decide) ?_
  refine pj_iload_n C d_Mo_requested_380 (pc' := 381) (i := 1) (x := x1) rfl rfl rfl ?_
  refine ck_Model_276_Model C  h d_Mo_requested_381 (pc' := 384) rfl ⟨Nat.le_of_ble_eq_true rfl, Nat.le_of_ble_eq_true rfl⟩ (Nat.le_of_ble_eq_true rfl) (fun u1 h => ?_)
  exact pj_cut (pj_le_n (pj_le_n (pj_le_n (pj_le_n (pj_le_n (pj_le_n pj_le_e)))))) (pt_Mo_requested_384 C hE   h)
def pb_Mo_requested_353 (R344 : pj_M → Int32 → Prop) (K : pj_M → Prop) (u : pj_M) (x1 : Int32) (x5 : Int32) : Prop := vp_in x5 48 ∧ (vp_in ((20 * x1) + x5) 80 ∧ pj_put u 232 ((20 * x1) + x5).toNatClampNeg (u 227 x5.toNatClampNeg) fun u1 => (R344 u1 (x5 + 1)))
set_option maxHeartbeats 1000000 in
theorem pt_Mo_requested_353 {g : pj_G} {b : Nat} (C : pj_X g c_Mo_requested 6 R_Mo none rm_Mo_requested) {K : pj_M → Prop} (hE : pj_E g b (pj_Kv K)) {R344 : pj_M → Int32 → Prop}  {u : pj_M} {x1 : Int32} {x5 : Int32} (hR344 : ∀ (u : pj_M) (x5 : Int32), R344 u x5 → pj_J g (pj_N g b u) 344 [some (.ref (b + 217)), some (.int x1), none, none, none, some (.int x5)] [])  (h : pb_Mo_requested_353 R344 K u x1 x5) : pj_J g (pj_N g b u) 353 [some (.ref (b + 217)), some (.int x1), none, none, none, some (.int x5)] [] := by
  unfold pb_Mo_requested_353 at h
  refine pj_aload_n C d_Mo_requested_353 (pc' := 354) (i := 0) (x := b + 217) rfl rfl rfl ?_
  refine fg_Model_53_Model C tk_217 d_Mo_requested_354 (pc' := 357) rfl ?_
  refine pj_bipush C d_Mo_requested_357 (pc' := 359) rfl (v := 20) (by decide) ?_
  refine pj_iload_n C d_Mo_requested_359 (pc' := 360) (i := 1) (x := x1) rfl rfl rfl ?_
  refine pj_imul C d_Mo_requested_360 (pc' := 361) rfl ?_
  refine pj_iload C d_Mo_requested_361 (pc' := 363) (i := 5) (x := x5) rfl rfl ?_
  refine pj_iadd C d_Mo_requested_363 (pc' := 364) rfl ?_
  refine pj_aload_n C d_Mo_requested_364 (pc' := 365) (i := 0) (x := b + 217) rfl rfl rfl ?_
  refine fg_Model_38_Model C tk_217 d_Mo_requested_365 (pc' := 368) rfl ?_
  refine pj_iload C d_Mo_requested_368 (pc' := 370) (i := 5) (x := x5) rfl rfl ?_
  refine pj_iald C (pj_lt tk_227 (by decide)) (fun E u => ka_22 tk_227) d_Mo_requested_370 (pc' := 371) rfl h (fun h => ?_)
  refine pj_iast C (pj_lt tk_232 (by decide)) (fun E u => ka_35 tk_232) d_Mo_requested_371 (pc' := 372) rfl h (fun u1 h => ?_)
  refine pj_iinc C d_Mo_requested_372 (pc' := 375) (x := x5) (d := 1) (vs' := [some (.ref (b + 217)), some (.int x1), none, none, none, some (.int (x5 + 1))]) rfl rfl (Nat.le_of_ble_eq_true rfl) rfl (by decide) rfl ?_
  refine pj_goto C d_Mo_requested_375 (tgt := 344) (by decide) ?_
  exact pj_cut (pj_le_s (pj_le_s (pj_le_n (pj_le_n (pj_le_n (pj_le_s pj_le_e)))))) (hR344 _ _ h)
def pb_Mo_requested_344b (R344 : pj_M → Int32 → Prop) (K : pj_M → Prop) (u : pj_M) (x1 : Int32) (x5 : Int32) : Prop := (((u 217 16) ≤ x5) → (pb_Mo_requested_378  K u x1)) ∧ (¬ ((u 217 16) ≤ x5) → (pb_Mo_requested_353 R344 K u x1 x5))
set_option maxHeartbeats 1000000 in
theorem pt_Mo_requested_344b {g : pj_G} {b : Nat} (C : pj_X g c_Mo_requested 6 R_Mo none rm_Mo_requested) {K : pj_M → Prop} (hE : pj_E g b (pj_Kv K)) {R344 : pj_M → Int32 → Prop}  {u : pj_M} {x1 : Int32} {x5 : Int32} (hR344 : ∀ (u : pj_M) (x5 : Int32), R344 u x5 → pj_J g (pj_N g b u) 344 [some (.ref (b + 217)), some (.int x1), none, none, none, some (.int x5)] [])  (h : pb_Mo_requested_344b R344 K u x1 x5) : pj_J g (pj_N g b u) 344 [some (.ref (b + 217)), some (.int x1), none, none, none, some (.int x5)] [] := by
  unfold pb_Mo_requested_344b at h
  refine pj_iload C d_Mo_requested_344 (pc' := 346) (i := 5) (x := x5) rfl rfl ?_
  refine pj_aload_n C d_Mo_requested_346 (pc' := 347) (i := 0) (x := b + 217) rfl rfl rfl ?_
  refine fg_Model_233_Model C tk_217 d_Mo_requested_347 (pc' := 350) rfl ?_
  refine pj_icmp_ge C d_Mo_requested_350 (pc' := 353) rfl (tgt := 378) (by decide) h (fun h => ?_) (fun h => ?_)
  · exact pj_cut (pj_le_s (pj_le_s (pj_le_n (pj_le_n (pj_le_n (pj_le_n pj_le_e)))))) (pt_Mo_requested_378 C hE   h)
  · exact pj_cut (pj_le_s (pj_le_s (pj_le_n (pj_le_n (pj_le_n (pj_le_s pj_le_e)))))) (pt_Mo_requested_353 C hE hR344  h)
def pb_Mo_requested_344  (K : pj_M → Prop) (x1 : Int32) : Nat → pj_M → Int32 → Prop
  | 0 => fun _ _ => False
  | n + 1 => fun u x5 => pb_Mo_requested_344b (pb_Mo_requested_344  K x1 n) K u x1 x5
theorem pt_Mo_requested_344 {g : pj_G} {b : Nat} (C : pj_X g c_Mo_requested 6 R_Mo none rm_Mo_requested) {K : pj_M → Prop} (hE : pj_E g b (pj_Kv K))  {x1 : Int32}   : ∀ (n : Nat) (u : pj_M) (x5 : Int32), pb_Mo_requested_344  K x1 n u x5 → pj_J g (pj_N g b u) 344 [some (.ref (b + 217)), some (.int x1), none, none, none, some (.int x5)] [] := by
  intro n
  induction n with
  | zero => intro u x5 h; exact False.elim h
  | succ n ih =>
    intro u x5 h
    exact (pt_Mo_requested_344b C hE ih  h)
def pb_Mo_requested_331  (K : pj_M → Prop) (u : pj_M) (x1 : Int32) : Prop := vp_in x1 4 ∧ pj_put u 231 x1.toNatClampNeg (u 217 16) fun u1 => (∃ n, pb_Mo_requested_344  K x1 n u1 0)
set_option maxHeartbeats 1000000 in
theorem pt_Mo_requested_331 {g : pj_G} {b : Nat} (C : pj_X g c_Mo_requested 6 R_Mo none rm_Mo_requested) {K : pj_M → Prop} (hE : pj_E g b (pj_Kv K))   {u : pj_M} {x1 : Int32}   (h : pb_Mo_requested_331  K u x1) : pj_J g (pj_N g b u) 331 [some (.ref (b + 217)), some (.int x1), none, none, none, none] [] := by
  unfold pb_Mo_requested_331 at h
  refine pj_aload_n C d_Mo_requested_331 (pc' := 332) (i := 0) (x := b + 217) rfl rfl rfl ?_
  refine fg_Model_50_Model C tk_217 d_Mo_requested_332 (pc' := 335) rfl ?_
  refine pj_iload_n C d_Mo_requested_335 (pc' := 336) (i := 1) (x := x1) rfl rfl rfl ?_
  refine pj_aload_n C d_Mo_requested_336 (pc' := 337) (i := 0) (x := b + 217) rfl rfl rfl ?_
  refine fg_Model_233_Model C tk_217 d_Mo_requested_337 (pc' := 340) rfl ?_
  refine pj_iast C (pj_lt tk_231 (by decide)) (fun E u => ka_23 tk_231) d_Mo_requested_340 (pc' := 341) rfl h (fun u1 h => ?_)
  refine pj_iconst C d_Mo_requested_341 (pc' := 342) rfl (v := 0) (by decide) ?_
  refine pj_istore C d_Mo_requested_342 (pc' := 344) (i := 5) (vs' := [some (.ref (b + 217)), some (.int x1), none, none, none, some (.int 0)]) rfl (Nat.le_of_ble_eq_true rfl) (Nat.le_of_ble_eq_true rfl) rfl rfl ?_
  obtain ⟨n, h⟩ := h
  exact pj_cut (pj_le_s (pj_le_s (pj_le_n (pj_le_n (pj_le_n (pj_le_s pj_le_e)))))) (pt_Mo_requested_344 C hE   n _ _ h)
def pb_Mo_requested_326  (K : pj_M → Prop) (u : pj_M) (x1 : Int32) (x4 : Int32) : Prop := ((x4 = 0) → (pb_Mo_requested_384  K u )) ∧ (¬ (x4 = 0) → (pb_Mo_requested_331  K u x1))
set_option maxHeartbeats 1000000 in
theorem pt_Mo_requested_326 {g : pj_G} {b : Nat} (C : pj_X g c_Mo_requested 6 R_Mo none rm_Mo_requested) {K : pj_M → Prop} (hE : pj_E g b (pj_Kv K))   {u : pj_M} {x1 : Int32} {x4 : Int32}   (h : pb_Mo_requested_326  K u x1 x4) : pj_J g (pj_N g b u) 326 [some (.ref (b + 217)), some (.int x1), none, none, some (.int x4), none] [] := by
  unfold pb_Mo_requested_326 at h
  refine pj_iload C d_Mo_requested_326 (pc' := 328) (i := 4) (x := x4) rfl rfl ?_
  refine pj_if_eq C d_Mo_requested_328 (pc' := 331) rfl (tgt := 384) (by decide) h (fun h => ?_) (fun h => ?_)
  · exact pj_cut (pj_le_n (pj_le_n (pj_le_n (pj_le_n (pj_le_n (pj_le_n pj_le_e)))))) (pt_Mo_requested_384 C hE   h)
  · exact pj_cut (pj_le_s (pj_le_s (pj_le_n (pj_le_n (pj_le_n (pj_le_n pj_le_e)))))) (pt_Mo_requested_331 C hE   h)
def pb_Mo_requested_324  (K : pj_M → Prop) (u : pj_M) (x1 : Int32) (s0 : Int32) : Prop := pb_Mo_requested_326  K u x1 s0
set_option maxHeartbeats 1000000 in
theorem pt_Mo_requested_324 {g : pj_G} {b : Nat} (C : pj_X g c_Mo_requested 6 R_Mo none rm_Mo_requested) {K : pj_M → Prop} (hE : pj_E g b (pj_Kv K))   {u : pj_M} {x1 : Int32} {s0 : Int32}   (h : pb_Mo_requested_324  K u x1 s0) : pj_J g (pj_N g b u) 324 [some (.ref (b + 217)), some (.int x1), none, none, none, none] [.int s0] := by
  unfold pb_Mo_requested_324 at h
  refine pj_istore C d_Mo_requested_324 (pc' := 326) (i := 4) (vs' := [some (.ref (b + 217)), some (.int x1), none, none, some (.int s0), none]) rfl (Nat.le_of_ble_eq_true rfl) (Nat.le_of_ble_eq_true rfl) rfl rfl ?_
  exact pj_cut (pj_le_s (pj_le_s (pj_le_n (pj_le_n (pj_le_s (pj_le_n pj_le_e)))))) (pt_Mo_requested_326 C hE   h)
def pb_Mo_requested_323  (K : pj_M → Prop) (u : pj_M) (x1 : Int32) : Prop := pb_Mo_requested_324  K u x1 0
set_option maxHeartbeats 1000000 in
theorem pt_Mo_requested_323 {g : pj_G} {b : Nat} (C : pj_X g c_Mo_requested 6 R_Mo none rm_Mo_requested) {K : pj_M → Prop} (hE : pj_E g b (pj_Kv K))   {u : pj_M} {x1 : Int32}   (h : pb_Mo_requested_323  K u x1) : pj_J g (pj_N g b u) 323 [some (.ref (b + 217)), some (.int x1), none, none, none, none] [] := by
  unfold pb_Mo_requested_323 at h
  refine pj_iconst C d_Mo_requested_323 (pc' := 324) rfl (v := 0) (by decide) ?_
  exact pj_cut (pj_le_s (pj_le_s (pj_le_n (pj_le_n (pj_le_n (pj_le_n pj_le_e)))))) (pt_Mo_requested_324 C hE   h)
def pb_Mo_requested_319  (K : pj_M → Prop) (u : pj_M) (x1 : Int32) : Prop := pb_Mo_requested_324  K u x1 1
set_option maxHeartbeats 1000000 in
theorem pt_Mo_requested_319 {g : pj_G} {b : Nat} (C : pj_X g c_Mo_requested 6 R_Mo none rm_Mo_requested) {K : pj_M → Prop} (hE : pj_E g b (pj_Kv K))   {u : pj_M} {x1 : Int32}   (h : pb_Mo_requested_319  K u x1) : pj_J g (pj_N g b u) 319 [some (.ref (b + 217)), some (.int x1), none, none, none, none] [] := by
  unfold pb_Mo_requested_319 at h
  refine pj_iconst C d_Mo_requested_319 (pc' := 320) rfl (v := 1) (by decide) ?_
  refine pj_goto C d_Mo_requested_320 (tgt := 324) (by decide) ?_
  exact pj_cut (pj_le_s (pj_le_s (pj_le_n (pj_le_n (pj_le_n (pj_le_n pj_le_e)))))) (pt_Mo_requested_324 C hE   h)
def pb_Mo_requested_311  (K : pj_M → Prop) (u : pj_M) (x1 : Int32) : Prop := pw_Mo_mutual u x1 fun r2 u1 => (((r2 = 0) → (pb_Mo_requested_323  K u1 x1)) ∧ (¬ (r2 = 0) → (pb_Mo_requested_319  K u1 x1)))
set_option maxHeartbeats 1000000 in
theorem pt_Mo_requested_311 {g : pj_G} {b : Nat} (C : pj_X g c_Mo_requested 6 R_Mo none rm_Mo_requested) {K : pj_M → Prop} (hE : pj_E g b (pj_Kv K))   {u : pj_M} {x1 : Int32}   (h : pb_Mo_requested_311  K u x1) : pj_J g (pj_N g b u) 311 [some (.ref (b + 217)), some (.int x1), none, none, none, none] [] := by
  unfold pb_Mo_requested_311 at h
  refine pj_aload_n C d_Mo_requested_311 (pc' := 312) (i := 0) (x := b + 217) rfl rfl rfl ?_
  refine pj_iload_n C d_Mo_requested_312 (pc' := 313) (i := 1) (x := x1) rfl rfl rfl ?_
  refine ck_Model_293_Model C  h d_Mo_requested_313 (pc' := 316) rfl ⟨Nat.le_of_ble_eq_true rfl, Nat.le_of_ble_eq_true rfl⟩ (Nat.le_of_ble_eq_true rfl) (fun r2 u1 h => ?_)
  refine pj_if_eq C d_Mo_requested_316 (pc' := 319) rfl (tgt := 323) (by decide) h (fun h => ?_) (fun h => ?_)
  · exact pj_cut (pj_le_s (pj_le_s (pj_le_n (pj_le_n (pj_le_n (pj_le_n pj_le_e)))))) (pt_Mo_requested_323 C hE   h)
  · exact pj_cut (pj_le_s (pj_le_s (pj_le_n (pj_le_n (pj_le_n (pj_le_n pj_le_e)))))) (pt_Mo_requested_319 C hE   h)
def pb_Mo_requested_302  (K : pj_M → Prop) (u : pj_M) (x1 : Int32) : Prop := (((u 217 16) = 9) → (pb_Mo_requested_311  K u x1)) ∧ (¬ ((u 217 16) = 9) → (pb_Mo_requested_323  K u x1))
set_option maxHeartbeats 1000000 in
theorem pt_Mo_requested_302 {g : pj_G} {b : Nat} (C : pj_X g c_Mo_requested 6 R_Mo none rm_Mo_requested) {K : pj_M → Prop} (hE : pj_E g b (pj_Kv K))   {u : pj_M} {x1 : Int32}   (h : pb_Mo_requested_302  K u x1) : pj_J g (pj_N g b u) 302 [some (.ref (b + 217)), some (.int x1), none, none, none, none] [] := by
  unfold pb_Mo_requested_302 at h
  refine pj_aload_n C d_Mo_requested_302 (pc' := 303) (i := 0) (x := b + 217) rfl rfl rfl ?_
  refine fg_Model_233_Model C tk_217 d_Mo_requested_303 (pc' := 306) rfl ?_
  refine pj_bipush C d_Mo_requested_306 (pc' := 308) rfl (v := 9) (by decide) ?_
  refine pj_icmp_ne C d_Mo_requested_308 (pc' := 311) rfl (tgt := 323) (by decide) h (fun h => ?_) (fun h => ?_)
  · exact pj_cut (pj_le_s (pj_le_s (pj_le_n (pj_le_n (pj_le_n (pj_le_n pj_le_e)))))) (pt_Mo_requested_323 C hE   h)
  · exact pj_cut (pj_le_s (pj_le_s (pj_le_n (pj_le_n (pj_le_n (pj_le_n pj_le_e)))))) (pt_Mo_requested_311 C hE   h)
def pb_Mo_requested_296  (K : pj_M → Prop) (u : pj_M) (x1 : Int32) (x2 : Int32) : Prop := ((x2 = 51) → (pb_Mo_requested_302  K u x1)) ∧ (¬ (x2 = 51) → (pb_Mo_requested_323  K u x1))
set_option maxHeartbeats 1000000 in
theorem pt_Mo_requested_296 {g : pj_G} {b : Nat} (C : pj_X g c_Mo_requested 6 R_Mo none rm_Mo_requested) {K : pj_M → Prop} (hE : pj_E g b (pj_Kv K))   {u : pj_M} {x1 : Int32} {x2 : Int32}   (h : pb_Mo_requested_296  K u x1 x2) : pj_J g (pj_N g b u) 296 [some (.ref (b + 217)), some (.int x1), some (.int x2), none, none, none] [] := by
  unfold pb_Mo_requested_296 at h
  refine pj_iload_n C d_Mo_requested_296 (pc' := 297) (i := 2) (x := x2) rfl rfl rfl ?_
  refine pj_bipush C d_Mo_requested_297 (pc' := 299) rfl (v := 51) (by decide) ?_
  refine pj_icmp_ne C d_Mo_requested_299 (pc' := 302) rfl (tgt := 323) (by decide) h (fun h => ?_) (fun h => ?_)
  · exact pj_cut (pj_le_s (pj_le_s (pj_le_n (pj_le_n (pj_le_n (pj_le_n pj_le_e)))))) (pt_Mo_requested_323 C hE   h)
  · exact pj_cut (pj_le_s (pj_le_s (pj_le_n (pj_le_n (pj_le_n (pj_le_n pj_le_e)))))) (pt_Mo_requested_302 C hE   h)
def pb_Mo_requested_245  (K : pj_M → Prop) (u : pj_M) (x1 : Int32) (x4 : Int32) : Prop := vp_in 1 48 ∧ (vp_in x1 4 ∧ (pw_Mo_packetInt u 4 fun r2 u1 => (pw_Mo_proved u1 (u 227 (1 : Int32).toNatClampNeg) (u 229 x1.toNatClampNeg) r2 fun r4 u3 => (vp_in x1 4 ∧ pj_put u3 233 x1.toNatClampNeg (vp_nar .boolean 1) fun u5 => (vp_in 1 48 ∧ (pw_Mo_packet u5 2 (u5 227 (1 : Int32).toNatClampNeg) 4 fun u6 => (pw_Mo_addDataInt u6 r4 fun u7 => (pb_Mo_requested_326  K u7 x1 x4))))))))
set_option maxHeartbeats 1000000 in
theorem pt_Mo_requested_245 {g : pj_G} {b : Nat} (C : pj_X g c_Mo_requested 6 R_Mo none rm_Mo_requested) {K : pj_M → Prop} (hE : pj_E g b (pj_Kv K))   {u : pj_M} {x1 : Int32} {x4 : Int32}   (h : pb_Mo_requested_245  K u x1 x4) : pj_J g (pj_N g b u) 245 [some (.ref (b + 217)), some (.int x1), none, none, some (.int x4), none] [] := by
  unfold pb_Mo_requested_245 at h
  refine pj_aload_n C d_Mo_requested_245 (pc' := 246) (i := 0) (x := b + 217) rfl rfl rfl ?_
  refine pj_aload_n C d_Mo_requested_246 (pc' := 247) (i := 0) (x := b + 217) rfl rfl rfl ?_
  refine fg_Model_38_Model C tk_217 d_Mo_requested_247 (pc' := 250) rfl ?_
  refine pj_iconst C d_Mo_requested_250 (pc' := 251) rfl (v := 1) (by decide) ?_
  refine pj_iald C (pj_lt tk_227 (by decide)) (fun E u => ka_22 tk_227) d_Mo_requested_251 (pc' := 252) rfl h (fun h => ?_)
  refine pj_aload_n C d_Mo_requested_252 (pc' := 253) (i := 0) (x := b + 217) rfl rfl rfl ?_
  refine fg_Model_44_Model C tk_217 d_Mo_requested_253 (pc' := 256) rfl ?_
  refine pj_iload_n C d_Mo_requested_256 (pc' := 257) (i := 1) (x := x1) rfl rfl rfl ?_
  refine pj_iald C (pj_lt tk_229 (by decide)) (fun E u => ka_23 tk_229) d_Mo_requested_257 (pc' := 258) rfl h (fun h => ?_)
  refine pj_aload_n C d_Mo_requested_258 (pc' := 259) (i := 0) (x := b + 217) rfl rfl rfl ?_
  refine pj_iconst C d_Mo_requested_259 (pc' := 260) rfl (v := 4) (by decide) ?_
  refine ck_Model_283_Model C  h d_Mo_requested_260 (pc' := 263) rfl ⟨Nat.le_of_ble_eq_true rfl, Nat.le_of_ble_eq_true rfl⟩ (Nat.le_of_ble_eq_true rfl) (fun r2 u1 h => ?_)
  refine ck_Model_286_Model C  h d_Mo_requested_263 (pc' := 266) rfl ⟨Nat.le_of_ble_eq_true rfl, Nat.le_of_ble_eq_true rfl⟩ (Nat.le_of_ble_eq_true rfl) (fun r4 u3 h => ?_)
  refine pj_istore C d_Mo_requested_266 (pc' := 268) (i := 5) (vs' := [some (.ref (b + 217)), some (.int x1), none, none, some (.int x4), some (.int r4)]) rfl (Nat.le_of_ble_eq_true rfl) (Nat.le_of_ble_eq_true rfl) rfl rfl ?_
  refine pj_aload_n C d_Mo_requested_268 (pc' := 269) (i := 0) (x := b + 217) rfl rfl rfl ?_
  refine fg_Model_56_Model C tk_217 d_Mo_requested_269 (pc' := 272) rfl ?_
  refine pj_iload_n C d_Mo_requested_272 (pc' := 273) (i := 1) (x := x1) rfl rfl rfl ?_
  refine pj_iconst C d_Mo_requested_273 (pc' := 274) rfl (v := 1) (by decide) ?_
  refine pj_zast C (pj_lt tk_233 (by decide)) (fun E u => ka_31 tk_233) d_Mo_requested_274 (pc' := 275) rfl h (fun u5 h => ?_)
  refine pj_aload_n C d_Mo_requested_275 (pc' := 276) (i := 0) (x := b + 217) rfl rfl rfl ?_
  refine pj_iconst C d_Mo_requested_276 (pc' := 277) rfl (v := 2) (by decide) ?_
  refine pj_aload_n C d_Mo_requested_277 (pc' := 278) (i := 0) (x := b + 217) rfl rfl rfl ?_
  refine fg_Model_38_Model C tk_217 d_Mo_requested_278 (pc' := 281) rfl ?_
  refine pj_iconst C d_Mo_requested_281 (pc' := 282) rfl (v := 1) (by decide) ?_
  refine pj_iald C (pj_lt tk_227 (by decide)) (fun E u => ka_22 tk_227) d_Mo_requested_282 (pc' := 283) rfl h (fun h => ?_)
  refine pj_iconst C d_Mo_requested_283 (pc' := 284) rfl (v := 4) (by decide) ?_
  refine ck_Model_279_Model C  h d_Mo_requested_284 (pc' := 287) rfl ⟨Nat.le_of_ble_eq_true rfl, Nat.le_of_ble_eq_true rfl⟩ (Nat.le_of_ble_eq_true rfl) (fun u6 h => ?_)
  refine pj_aload_n C d_Mo_requested_287 (pc' := 288) (i := 0) (x := b + 217) rfl rfl rfl ?_
  refine pj_iload C d_Mo_requested_288 (pc' := 290) (i := 5) (x := r4) rfl rfl ?_
  refine ck_Model_290_Model C  h d_Mo_requested_290 (pc' := 293) rfl ⟨Nat.le_of_ble_eq_true rfl, Nat.le_of_ble_eq_true rfl⟩ (Nat.le_of_ble_eq_true rfl) (fun u7 h => ?_)
  refine pj_goto C d_Mo_requested_293 (tgt := 326) (by decide) ?_
  exact pj_cut (pj_le_s (pj_le_s (pj_le_n (pj_le_n (pj_le_s (pj_le_n pj_le_e)))))) (pt_Mo_requested_326 C hE   h)
def pb_Mo_requested_236  (K : pj_M → Prop) (u : pj_M) (x1 : Int32) (x2 : Int32) (x4 : Int32) : Prop := (((u 217 16) = 8) → (pb_Mo_requested_245  K u x1 x4)) ∧ (¬ ((u 217 16) = 8) → (pb_Mo_requested_296  K u x1 x2))
set_option maxHeartbeats 1000000 in
theorem pt_Mo_requested_236 {g : pj_G} {b : Nat} (C : pj_X g c_Mo_requested 6 R_Mo none rm_Mo_requested) {K : pj_M → Prop} (hE : pj_E g b (pj_Kv K))   {u : pj_M} {x1 : Int32} {x2 : Int32} {x4 : Int32}   (h : pb_Mo_requested_236  K u x1 x2 x4) : pj_J g (pj_N g b u) 236 [some (.ref (b + 217)), some (.int x1), some (.int x2), none, some (.int x4), none] [] := by
  unfold pb_Mo_requested_236 at h
  refine pj_aload_n C d_Mo_requested_236 (pc' := 237) (i := 0) (x := b + 217) rfl rfl rfl ?_
  refine fg_Model_233_Model C tk_217 d_Mo_requested_237 (pc' := 240) rfl ?_
  refine pj_bipush C d_Mo_requested_240 (pc' := 242) rfl (v := 8) (by decide) ?_
  refine pj_icmp_ne C d_Mo_requested_242 (pc' := 245) rfl (tgt := 296) (by decide) h (fun h => ?_) (fun h => ?_)
  · exact pj_cut (pj_le_s (pj_le_s (pj_le_s (pj_le_n (pj_le_n (pj_le_n pj_le_e)))))) (pt_Mo_requested_296 C hE   h)
  · exact pj_cut (pj_le_s (pj_le_s (pj_le_n (pj_le_n (pj_le_s (pj_le_n pj_le_e)))))) (pt_Mo_requested_245 C hE   h)
def pb_Mo_requested_231  (K : pj_M → Prop) (u : pj_M) (x1 : Int32) (x2 : Int32) (x4 : Int32) : Prop := ((x2 = 4) → (pb_Mo_requested_236  K u x1 x2 x4)) ∧ (¬ (x2 = 4) → (pb_Mo_requested_296  K u x1 x2))
set_option maxHeartbeats 1000000 in
theorem pt_Mo_requested_231 {g : pj_G} {b : Nat} (C : pj_X g c_Mo_requested 6 R_Mo none rm_Mo_requested) {K : pj_M → Prop} (hE : pj_E g b (pj_Kv K))   {u : pj_M} {x1 : Int32} {x2 : Int32} {x4 : Int32}   (h : pb_Mo_requested_231  K u x1 x2 x4) : pj_J g (pj_N g b u) 231 [some (.ref (b + 217)), some (.int x1), some (.int x2), none, some (.int x4), none] [] := by
  unfold pb_Mo_requested_231 at h
  refine pj_iload_n C d_Mo_requested_231 (pc' := 232) (i := 2) (x := x2) rfl rfl rfl ?_
  refine pj_iconst C d_Mo_requested_232 (pc' := 233) rfl (v := 4) (by decide) ?_
  refine pj_icmp_ne C d_Mo_requested_233 (pc' := 236) rfl (tgt := 296) (by decide) h (fun h => ?_) (fun h => ?_)
  · exact pj_cut (pj_le_s (pj_le_s (pj_le_s (pj_le_n (pj_le_n (pj_le_n pj_le_e)))))) (pt_Mo_requested_296 C hE   h)
  · exact pj_cut (pj_le_s (pj_le_s (pj_le_s (pj_le_n (pj_le_s (pj_le_n pj_le_e)))))) (pt_Mo_requested_236 C hE   h)
def pb_Mo_requested_225  (K : pj_M → Prop) (u : pj_M) (x1 : Int32) (x4 : Int32) (s0 : Int32) : Prop := pw_Mo_addData u s0 fun u1 => (pb_Mo_requested_326  K u1 x1 x4)
set_option maxHeartbeats 1000000 in
theorem pt_Mo_requested_225 {g : pj_G} {b : Nat} (C : pj_X g c_Mo_requested 6 R_Mo none rm_Mo_requested) {K : pj_M → Prop} (hE : pj_E g b (pj_Kv K))   {u : pj_M} {x1 : Int32} {x4 : Int32} {s0 : Int32}   (h : pb_Mo_requested_225  K u x1 x4 s0) : pj_J g (pj_N g b u) 225 [some (.ref (b + 217)), some (.int x1), none, none, some (.int x4), none] [.int s0, .ref (b + 217)] := by
  unfold pb_Mo_requested_225 at h
  refine ck_Model_236_Model C  h d_Mo_requested_225 (pc' := 228) rfl ⟨Nat.le_of_ble_eq_true rfl, Nat.le_of_ble_eq_true rfl⟩ (Nat.le_of_ble_eq_true rfl) (fun u1 h => ?_)
  refine pj_goto C d_Mo_requested_228 (tgt := 326) (by decide) ?_
  exact pj_cut (pj_le_s (pj_le_s (pj_le_n (pj_le_n (pj_le_s (pj_le_n pj_le_e)))))) (pt_Mo_requested_326 C hE   h)
def pb_Mo_requested_224  (K : pj_M → Prop) (u : pj_M) (x1 : Int32) (x4 : Int32) : Prop := pb_Mo_requested_225  K u x1 x4 0
set_option maxHeartbeats 1000000 in
theorem pt_Mo_requested_224 {g : pj_G} {b : Nat} (C : pj_X g c_Mo_requested 6 R_Mo none rm_Mo_requested) {K : pj_M → Prop} (hE : pj_E g b (pj_Kv K))   {u : pj_M} {x1 : Int32} {x4 : Int32}   (h : pb_Mo_requested_224  K u x1 x4) : pj_J g (pj_N g b u) 224 [some (.ref (b + 217)), some (.int x1), none, none, some (.int x4), none] [.ref (b + 217)] := by
  unfold pb_Mo_requested_224 at h
  refine pj_iconst C d_Mo_requested_224 (pc' := 225) rfl (v := 0) (by decide) ?_
  exact pj_cut (pj_le_s (pj_le_s (pj_le_n (pj_le_n (pj_le_s (pj_le_n pj_le_e)))))) (pt_Mo_requested_225 C hE   h)
def pb_Mo_requested_219  (K : pj_M → Prop) (u : pj_M) (x1 : Int32) (x4 : Int32) : Prop := pb_Mo_requested_225  K u x1 x4 51
set_option maxHeartbeats 1000000 in
theorem pt_Mo_requested_219 {g : pj_G} {b : Nat} (C : pj_X g c_Mo_requested 6 R_Mo none rm_Mo_requested) {K : pj_M → Prop} (hE : pj_E g b (pj_Kv K))   {u : pj_M} {x1 : Int32} {x4 : Int32}   (h : pb_Mo_requested_219  K u x1 x4) : pj_J g (pj_N g b u) 219 [some (.ref (b + 217)), some (.int x1), none, none, some (.int x4), none] [.ref (b + 217)] := by
  unfold pb_Mo_requested_219 at h
  refine pj_bipush C d_Mo_requested_219 (pc' := 221) rfl (v := 51) (by decide) ?_
  refine pj_goto C d_Mo_requested_221 (tgt := 225) (by decide) ?_
  exact pj_cut (pj_le_s (pj_le_s (pj_le_n (pj_le_n (pj_le_s (pj_le_n pj_le_e)))))) (pt_Mo_requested_225 C hE   h)
def pb_Mo_requested_208  (K : pj_M → Prop) (u : pj_M) (x1 : Int32) (x4 : Int32) : Prop := vp_in x1 4 ∧ (((((u 230 x1.toNatClampNeg) &&& 2) = 0) → (pb_Mo_requested_224  K u x1 x4)) ∧ (¬ (((u 230 x1.toNatClampNeg) &&& 2) = 0) → (pb_Mo_requested_219  K u x1 x4)))
set_option maxHeartbeats 1000000 in
theorem pt_Mo_requested_208 {g : pj_G} {b : Nat} (C : pj_X g c_Mo_requested 6 R_Mo none rm_Mo_requested) {K : pj_M → Prop} (hE : pj_E g b (pj_Kv K))   {u : pj_M} {x1 : Int32} {x4 : Int32}   (h : pb_Mo_requested_208  K u x1 x4) : pj_J g (pj_N g b u) 208 [some (.ref (b + 217)), some (.int x1), none, none, some (.int x4), none] [.ref (b + 217)] := by
  unfold pb_Mo_requested_208 at h
  refine pj_aload_n C d_Mo_requested_208 (pc' := 209) (i := 0) (x := b + 217) rfl rfl rfl ?_
  refine fg_Model_47_Model C tk_217 d_Mo_requested_209 (pc' := 212) rfl ?_
  refine pj_iload_n C d_Mo_requested_212 (pc' := 213) (i := 1) (x := x1) rfl rfl rfl ?_
  refine pj_iald C (pj_lt tk_230 (by decide)) (fun E u => ka_23 tk_230) d_Mo_requested_213 (pc' := 214) rfl h (fun h => ?_)
  refine pj_iconst C d_Mo_requested_214 (pc' := 215) rfl (v := 2) (by decide) ?_
  refine pj_iand C d_Mo_requested_215 (pc' := 216) rfl ?_
  refine pj_if_eq C d_Mo_requested_216 (pc' := 219) rfl (tgt := 224) (by decide) h (fun h => ?_) (fun h => ?_)
  · exact pj_cut (pj_le_s (pj_le_s (pj_le_n (pj_le_n (pj_le_s (pj_le_n pj_le_e)))))) (pt_Mo_requested_224 C hE   h)
  · exact pj_cut (pj_le_s (pj_le_s (pj_le_n (pj_le_n (pj_le_s (pj_le_n pj_le_e)))))) (pt_Mo_requested_219 C hE   h)
def pb_Mo_requested_204  (K : pj_M → Prop) (u : pj_M) (x1 : Int32) (x4 : Int32) : Prop := pb_Mo_requested_225  K u x1 x4 4
set_option maxHeartbeats 1000000 in
theorem pt_Mo_requested_204 {g : pj_G} {b : Nat} (C : pj_X g c_Mo_requested 6 R_Mo none rm_Mo_requested) {K : pj_M → Prop} (hE : pj_E g b (pj_Kv K))   {u : pj_M} {x1 : Int32} {x4 : Int32}   (h : pb_Mo_requested_204  K u x1 x4) : pj_J g (pj_N g b u) 204 [some (.ref (b + 217)), some (.int x1), none, none, some (.int x4), none] [.ref (b + 217)] := by
  unfold pb_Mo_requested_204 at h
  refine pj_iconst C d_Mo_requested_204 (pc' := 205) rfl (v := 4) (by decide) ?_
  refine pj_goto C d_Mo_requested_205 (tgt := 225) (by decide) ?_
  exact pj_cut (pj_le_s (pj_le_s (pj_le_n (pj_le_n (pj_le_s (pj_le_n pj_le_e)))))) (pt_Mo_requested_225 C hE   h)
def pb_Mo_requested_180  (K : pj_M → Prop) (u : pj_M) (x1 : Int32) (x4 : Int32) : Prop := vp_in 1 48 ∧ (pw_Mo_packet u 2 (u 227 (1 : Int32).toNatClampNeg) 3 fun u1 => (vp_in x1 4 ∧ (((((u1 230 x1.toNatClampNeg) &&& 1) = 0) → (pb_Mo_requested_208  K u1 x1 x4)) ∧ (¬ (((u1 230 x1.toNatClampNeg) &&& 1) = 0) → (pb_Mo_requested_204  K u1 x1 x4)))))
set_option maxHeartbeats 1000000 in
theorem pt_Mo_requested_180 {g : pj_G} {b : Nat} (C : pj_X g c_Mo_requested 6 R_Mo none rm_Mo_requested) {K : pj_M → Prop} (hE : pj_E g b (pj_Kv K))   {u : pj_M} {x1 : Int32} {x4 : Int32}   (h : pb_Mo_requested_180  K u x1 x4) : pj_J g (pj_N g b u) 180 [some (.ref (b + 217)), some (.int x1), none, none, some (.int x4), none] [] := by
  unfold pb_Mo_requested_180 at h
  refine pj_aload_n C d_Mo_requested_180 (pc' := 181) (i := 0) (x := b + 217) rfl rfl rfl ?_
  refine pj_iconst C d_Mo_requested_181 (pc' := 182) rfl (v := 2) (by decide) ?_
  refine pj_aload_n C d_Mo_requested_182 (pc' := 183) (i := 0) (x := b + 217) rfl rfl rfl ?_
  refine fg_Model_38_Model C tk_217 d_Mo_requested_183 (pc' := 186) rfl ?_
  refine pj_iconst C d_Mo_requested_186 (pc' := 187) rfl (v := 1) (by decide) ?_
  refine pj_iald C (pj_lt tk_227 (by decide)) (fun E u => ka_22 tk_227) d_Mo_requested_187 (pc' := 188) rfl h (fun h => ?_)
  refine pj_iconst C d_Mo_requested_188 (pc' := 189) rfl (v := 3) (by decide) ?_
  refine ck_Model_279_Model C  h d_Mo_requested_189 (pc' := 192) rfl ⟨Nat.le_of_ble_eq_true rfl, Nat.le_of_ble_eq_true rfl⟩ (Nat.le_of_ble_eq_true rfl) (fun u1 h => ?_)
  refine pj_aload_n C d_Mo_requested_192 (pc' := 193) (i := 0) (x := b + 217) rfl rfl rfl ?_
  refine pj_aload_n C d_Mo_requested_193 (pc' := 194) (i := 0) (x := b + 217) rfl rfl rfl ?_
  refine fg_Model_47_Model C tk_217 d_Mo_requested_194 (pc' := 197) rfl ?_
  refine pj_iload_n C d_Mo_requested_197 (pc' := 198) (i := 1) (x := x1) rfl rfl rfl ?_
  refine pj_iald C (pj_lt tk_230 (by decide)) (fun E u => ka_23 tk_230) d_Mo_requested_198 (pc' := 199) rfl h (fun h => ?_)
  refine pj_iconst C d_Mo_requested_199 (pc' := 200) rfl (v := 1) (by decide) ?_
  refine pj_iand C d_Mo_requested_200 (pc' := 201) rfl ?_
  refine pj_if_eq C d_Mo_requested_201 (pc' := 204) rfl (tgt := 208) (by decide) h (fun h => ?_) (fun h => ?_)
  · exact pj_cut (pj_le_s (pj_le_s (pj_le_n (pj_le_n (pj_le_s (pj_le_n pj_le_e)))))) (pt_Mo_requested_208 C hE   h)
  · exact pj_cut (pj_le_s (pj_le_s (pj_le_n (pj_le_n (pj_le_s (pj_le_n pj_le_e)))))) (pt_Mo_requested_204 C hE   h)
def pb_Mo_requested_176  (K : pj_M → Prop) (u : pj_M) (x1 : Int32) (x2 : Int32) (x3 : Int32) (x4 : Int32) : Prop := ((x3 = 0) → (pb_Mo_requested_180  K u x1 x4)) ∧ (¬ (x3 = 0) → (pb_Mo_requested_231  K u x1 x2 x4))
set_option maxHeartbeats 1000000 in
theorem pt_Mo_requested_176 {g : pj_G} {b : Nat} (C : pj_X g c_Mo_requested 6 R_Mo none rm_Mo_requested) {K : pj_M → Prop} (hE : pj_E g b (pj_Kv K))   {u : pj_M} {x1 : Int32} {x2 : Int32} {x3 : Int32} {x4 : Int32}   (h : pb_Mo_requested_176  K u x1 x2 x3 x4) : pj_J g (pj_N g b u) 176 [some (.ref (b + 217)), some (.int x1), some (.int x2), some (.int x3), some (.int x4), none] [] := by
  unfold pb_Mo_requested_176 at h
  refine pj_iload_n C d_Mo_requested_176 (pc' := 177) (i := 3) (x := x3) rfl rfl rfl ?_
  refine pj_if_ne C d_Mo_requested_177 (pc' := 180) rfl (tgt := 231) (by decide) h (fun h => ?_) (fun h => ?_)
  · exact pj_cut (pj_le_s (pj_le_s (pj_le_s (pj_le_n (pj_le_s (pj_le_n pj_le_e)))))) (pt_Mo_requested_231 C hE   h)
  · exact pj_cut (pj_le_s (pj_le_s (pj_le_n (pj_le_n (pj_le_s (pj_le_n pj_le_e)))))) (pt_Mo_requested_180 C hE   h)
def pb_Mo_requested_170  (K : pj_M → Prop) (u : pj_M) (x1 : Int32) (x2 : Int32) (x3 : Int32) (x4 : Int32) : Prop := ((x2 = 51) → (pb_Mo_requested_176  K u x1 x2 x3 x4)) ∧ (¬ (x2 = 51) → (pb_Mo_requested_231  K u x1 x2 x4))
set_option maxHeartbeats 1000000 in
theorem pt_Mo_requested_170 {g : pj_G} {b : Nat} (C : pj_X g c_Mo_requested 6 R_Mo none rm_Mo_requested) {K : pj_M → Prop} (hE : pj_E g b (pj_Kv K))   {u : pj_M} {x1 : Int32} {x2 : Int32} {x3 : Int32} {x4 : Int32}   (h : pb_Mo_requested_170  K u x1 x2 x3 x4) : pj_J g (pj_N g b u) 170 [some (.ref (b + 217)), some (.int x1), some (.int x2), some (.int x3), some (.int x4), none] [] := by
  unfold pb_Mo_requested_170 at h
  refine pj_iload_n C d_Mo_requested_170 (pc' := 171) (i := 2) (x := x2) rfl rfl rfl ?_
  refine pj_bipush C d_Mo_requested_171 (pc' := 173) rfl (v := 51) (by decide) ?_
  refine pj_icmp_ne C d_Mo_requested_173 (pc' := 176) rfl (tgt := 231) (by decide) h (fun h => ?_) (fun h => ?_)
  · exact pj_cut (pj_le_s (pj_le_s (pj_le_s (pj_le_n (pj_le_s (pj_le_n pj_le_e)))))) (pt_Mo_requested_231 C hE   h)
  · exact pj_cut (pj_le_s (pj_le_s (pj_le_s (pj_le_s (pj_le_s (pj_le_n pj_le_e)))))) (pt_Mo_requested_176 C hE   h)
def pb_Mo_requested_165  (K : pj_M → Prop) (u : pj_M) (x1 : Int32) (x2 : Int32) (x3 : Int32) (x4 : Int32) : Prop := ((x2 = 4) → (pb_Mo_requested_176  K u x1 x2 x3 x4)) ∧ (¬ (x2 = 4) → (pb_Mo_requested_170  K u x1 x2 x3 x4))
set_option maxHeartbeats 1000000 in
theorem pt_Mo_requested_165 {g : pj_G} {b : Nat} (C : pj_X g c_Mo_requested 6 R_Mo none rm_Mo_requested) {K : pj_M → Prop} (hE : pj_E g b (pj_Kv K))   {u : pj_M} {x1 : Int32} {x2 : Int32} {x3 : Int32} {x4 : Int32}   (h : pb_Mo_requested_165  K u x1 x2 x3 x4) : pj_J g (pj_N g b u) 165 [some (.ref (b + 217)), some (.int x1), some (.int x2), some (.int x3), some (.int x4), none] [] := by
  unfold pb_Mo_requested_165 at h
  refine pj_iload_n C d_Mo_requested_165 (pc' := 166) (i := 2) (x := x2) rfl rfl rfl ?_
  refine pj_iconst C d_Mo_requested_166 (pc' := 167) rfl (v := 4) (by decide) ?_
  refine pj_icmp_eq C d_Mo_requested_167 (pc' := 170) rfl (tgt := 176) (by decide) h (fun h => ?_) (fun h => ?_)
  · exact pj_cut (pj_le_s (pj_le_s (pj_le_s (pj_le_s (pj_le_s (pj_le_n pj_le_e)))))) (pt_Mo_requested_176 C hE   h)
  · exact pj_cut (pj_le_s (pj_le_s (pj_le_s (pj_le_s (pj_le_s (pj_le_n pj_le_e)))))) (pt_Mo_requested_170 C hE   h)
def pb_Mo_requested_133  (K : pj_M → Prop) (u : pj_M) (x1 : Int32) (x4 : Int32) : Prop := vp_in x1 4 ∧ pj_put u 233 x1.toNatClampNeg (vp_nar .boolean 0) fun u1 => (vp_in 1 48 ∧ (pw_Mo_packet u1 2 (u1 227 (1 : Int32).toNatClampNeg) 1 fun u2 => (vp_in x1 4 ∧ (pw_Mo_addData u2 (u2 228 x1.toNatClampNeg) fun u3 => (pb_Mo_requested_326  K u3 x1 x4)))))
set_option maxHeartbeats 1000000 in
theorem pt_Mo_requested_133 {g : pj_G} {b : Nat} (C : pj_X g c_Mo_requested 6 R_Mo none rm_Mo_requested) {K : pj_M → Prop} (hE : pj_E g b (pj_Kv K))   {u : pj_M} {x1 : Int32} {x4 : Int32}   (h : pb_Mo_requested_133  K u x1 x4) : pj_J g (pj_N g b u) 133 [some (.ref (b + 217)), some (.int x1), none, none, some (.int x4), none] [] := by
  unfold pb_Mo_requested_133 at h
  refine pj_aload_n C d_Mo_requested_133 (pc' := 134) (i := 0) (x := b + 217) rfl rfl rfl ?_
  refine fg_Model_56_Model C tk_217 d_Mo_requested_134 (pc' := 137) rfl ?_
  refine pj_iload_n C d_Mo_requested_137 (pc' := 138) (i := 1) (x := x1) rfl rfl rfl ?_
  refine pj_iconst C d_Mo_requested_138 (pc' := 139) rfl (v := 0) (by decide) ?_
  refine pj_zast C (pj_lt tk_233 (by decide)) (fun E u => ka_31 tk_233) d_Mo_requested_139 (pc' := 140) rfl h (fun u1 h => ?_)
  refine pj_aload_n C d_Mo_requested_140 (pc' := 141) (i := 0) (x := b + 217) rfl rfl rfl ?_
  refine pj_iconst C d_Mo_requested_141 (pc' := 142) rfl (v := 2) (by decide) ?_
  refine pj_aload_n C d_Mo_requested_142 (pc' := 143) (i := 0) (x := b + 217) rfl rfl rfl ?_
  refine fg_Model_38_Model C tk_217 d_Mo_requested_143 (pc' := 146) rfl ?_
  refine pj_iconst C d_Mo_requested_146 (pc' := 147) rfl (v := 1) (by decide) ?_
  refine pj_iald C (pj_lt tk_227 (by decide)) (fun E u => ka_22 tk_227) d_Mo_requested_147 (pc' := 148) rfl h (fun h => ?_)
  refine pj_iconst C d_Mo_requested_148 (pc' := 149) rfl (v := 1) (by decide) ?_
  refine ck_Model_279_Model C  h d_Mo_requested_149 (pc' := 152) rfl ⟨Nat.le_of_ble_eq_true rfl, Nat.le_of_ble_eq_true rfl⟩ (Nat.le_of_ble_eq_true rfl) (fun u2 h => ?_)
  refine pj_aload_n C d_Mo_requested_152 (pc' := 153) (i := 0) (x := b + 217) rfl rfl rfl ?_
  refine pj_aload_n C d_Mo_requested_153 (pc' := 154) (i := 0) (x := b + 217) rfl rfl rfl ?_
  refine fg_Model_41_Model C tk_217 d_Mo_requested_154 (pc' := 157) rfl ?_
  refine pj_iload_n C d_Mo_requested_157 (pc' := 158) (i := 1) (x := x1) rfl rfl rfl ?_
  refine pj_iald C (pj_lt tk_228 (by decide)) (fun E u => ka_23 tk_228) d_Mo_requested_158 (pc' := 159) rfl h (fun h => ?_)
  refine ck_Model_236_Model C  h d_Mo_requested_159 (pc' := 162) rfl ⟨Nat.le_of_ble_eq_true rfl, Nat.le_of_ble_eq_true rfl⟩ (Nat.le_of_ble_eq_true rfl) (fun u3 h => ?_)
  refine pj_goto C d_Mo_requested_162 (tgt := 326) (by decide) ?_
  exact pj_cut (pj_le_s (pj_le_s (pj_le_n (pj_le_n (pj_le_s (pj_le_n pj_le_e)))))) (pt_Mo_requested_326 C hE   h)
def pb_Mo_requested_124  (K : pj_M → Prop) (u : pj_M) (x1 : Int32) (x2 : Int32) (s0 : Int32) : Prop := ((x2 = 1) → (pb_Mo_requested_133  K u x1 1)) ∧ (¬ (x2 = 1) → (pb_Mo_requested_165  K u x1 x2 s0 1))
set_option maxHeartbeats 1000000 in
theorem pt_Mo_requested_124 {g : pj_G} {b : Nat} (C : pj_X g c_Mo_requested 6 R_Mo none rm_Mo_requested) {K : pj_M → Prop} (hE : pj_E g b (pj_Kv K))   {u : pj_M} {x1 : Int32} {x2 : Int32} {s0 : Int32}   (h : pb_Mo_requested_124  K u x1 x2 s0) : pj_J g (pj_N g b u) 124 [some (.ref (b + 217)), some (.int x1), some (.int x2), none, none, none] [.int s0] := by
  unfold pb_Mo_requested_124 at h
  refine pj_istore_n C d_Mo_requested_124 (pc' := 125) (i := 3) (vs' := [some (.ref (b + 217)), some (.int x1), some (.int x2), some (.int s0), none, none]) rfl rfl (Nat.le_of_ble_eq_true rfl) (Nat.le_of_ble_eq_true rfl) rfl rfl ?_
  refine pj_iconst C d_Mo_requested_125 (pc' := 126) rfl (v := 1) (by decide) ?_
  refine pj_istore C d_Mo_requested_126 (pc' := 128) (i := 4) (vs' := [some (.ref (b + 217)), some (.int x1), some (.int x2), some (.int s0), some (.int 1), none]) rfl (Nat.le_of_ble_eq_true rfl) (Nat.le_of_ble_eq_true rfl) rfl rfl ?_
  refine pj_iload_n C d_Mo_requested_128 (pc' := 129) (i := 2) (x := x2) rfl rfl rfl ?_
  refine pj_iconst C d_Mo_requested_129 (pc' := 130) rfl (v := 1) (by decide) ?_
  refine pj_icmp_ne C d_Mo_requested_130 (pc' := 133) rfl (tgt := 165) (by decide) h (fun h => ?_) (fun h => ?_)
  · exact pj_cut (pj_le_s (pj_le_s (pj_le_s (pj_le_s (pj_le_s (pj_le_n pj_le_e)))))) (pt_Mo_requested_165 C hE   h)
  · exact pj_cut (pj_le_s (pj_le_s (pj_le_n (pj_le_n (pj_le_s (pj_le_n pj_le_e)))))) (pt_Mo_requested_133 C hE   h)
def pb_Mo_requested_123  (K : pj_M → Prop) (u : pj_M) (x1 : Int32) (x2 : Int32) : Prop := pb_Mo_requested_124  K u x1 x2 0
set_option maxHeartbeats 1000000 in
theorem pt_Mo_requested_123 {g : pj_G} {b : Nat} (C : pj_X g c_Mo_requested 6 R_Mo none rm_Mo_requested) {K : pj_M → Prop} (hE : pj_E g b (pj_Kv K))   {u : pj_M} {x1 : Int32} {x2 : Int32}   (h : pb_Mo_requested_123  K u x1 x2) : pj_J g (pj_N g b u) 123 [some (.ref (b + 217)), some (.int x1), some (.int x2), none, none, none] [] := by
  unfold pb_Mo_requested_123 at h
  refine pj_iconst C d_Mo_requested_123 (pc' := 124) rfl (v := 0) (by decide) ?_
  exact pj_cut (pj_le_s (pj_le_s (pj_le_s (pj_le_n (pj_le_n (pj_le_n pj_le_e)))))) (pt_Mo_requested_124 C hE   h)
def pb_Mo_requested_119  (K : pj_M → Prop) (u : pj_M) (x1 : Int32) (x2 : Int32) : Prop := pb_Mo_requested_124  K u x1 x2 1
set_option maxHeartbeats 1000000 in
theorem pt_Mo_requested_119 {g : pj_G} {b : Nat} (C : pj_X g c_Mo_requested 6 R_Mo none rm_Mo_requested) {K : pj_M → Prop} (hE : pj_E g b (pj_Kv K))   {u : pj_M} {x1 : Int32} {x2 : Int32}   (h : pb_Mo_requested_119  K u x1 x2) : pj_J g (pj_N g b u) 119 [some (.ref (b + 217)), some (.int x1), some (.int x2), none, none, none] [] := by
  unfold pb_Mo_requested_119 at h
  refine pj_iconst C d_Mo_requested_119 (pc' := 120) rfl (v := 1) (by decide) ?_
  refine pj_goto C d_Mo_requested_120 (tgt := 124) (by decide) ?_
  exact pj_cut (pj_le_s (pj_le_s (pj_le_s (pj_le_n (pj_le_n (pj_le_n pj_le_e)))))) (pt_Mo_requested_124 C hE   h)
def pb_Mo_requested_108  (K : pj_M → Prop) (u : pj_M) (x1 : Int32) (x2 : Int32) : Prop := vp_in x1 4 ∧ (((((u 230 x1.toNatClampNeg) &&& 2) = 0) → (pb_Mo_requested_123  K u x1 x2)) ∧ (¬ (((u 230 x1.toNatClampNeg) &&& 2) = 0) → (pb_Mo_requested_119  K u x1 x2)))
set_option maxHeartbeats 1000000 in
theorem pt_Mo_requested_108 {g : pj_G} {b : Nat} (C : pj_X g c_Mo_requested 6 R_Mo none rm_Mo_requested) {K : pj_M → Prop} (hE : pj_E g b (pj_Kv K))   {u : pj_M} {x1 : Int32} {x2 : Int32}   (h : pb_Mo_requested_108  K u x1 x2) : pj_J g (pj_N g b u) 108 [some (.ref (b + 217)), some (.int x1), some (.int x2), none, none, none] [] := by
  unfold pb_Mo_requested_108 at h
  refine pj_aload_n C d_Mo_requested_108 (pc' := 109) (i := 0) (x := b + 217) rfl rfl rfl ?_
  refine fg_Model_47_Model C tk_217 d_Mo_requested_109 (pc' := 112) rfl ?_
  refine pj_iload_n C d_Mo_requested_112 (pc' := 113) (i := 1) (x := x1) rfl rfl rfl ?_
  refine pj_iald C (pj_lt tk_230 (by decide)) (fun E u => ka_23 tk_230) d_Mo_requested_113 (pc' := 114) rfl h (fun h => ?_)
  refine pj_iconst C d_Mo_requested_114 (pc' := 115) rfl (v := 2) (by decide) ?_
  refine pj_iand C d_Mo_requested_115 (pc' := 116) rfl ?_
  refine pj_if_eq C d_Mo_requested_116 (pc' := 119) rfl (tgt := 123) (by decide) h (fun h => ?_) (fun h => ?_)
  · exact pj_cut (pj_le_s (pj_le_s (pj_le_s (pj_le_n (pj_le_n (pj_le_n pj_le_e)))))) (pt_Mo_requested_123 C hE   h)
  · exact pj_cut (pj_le_s (pj_le_s (pj_le_s (pj_le_n (pj_le_n (pj_le_n pj_le_e)))))) (pt_Mo_requested_119 C hE   h)
def pb_Mo_requested_102  (K : pj_M → Prop) (u : pj_M) (x1 : Int32) (x2 : Int32) : Prop := ((x2 = 51) → (pb_Mo_requested_108  K u x1 x2)) ∧ (¬ (x2 = 51) → (pb_Mo_requested_123  K u x1 x2))
set_option maxHeartbeats 1000000 in
theorem pt_Mo_requested_102 {g : pj_G} {b : Nat} (C : pj_X g c_Mo_requested 6 R_Mo none rm_Mo_requested) {K : pj_M → Prop} (hE : pj_E g b (pj_Kv K))   {u : pj_M} {x1 : Int32} {x2 : Int32}   (h : pb_Mo_requested_102  K u x1 x2) : pj_J g (pj_N g b u) 102 [some (.ref (b + 217)), some (.int x1), some (.int x2), none, none, none] [] := by
  unfold pb_Mo_requested_102 at h
  refine pj_iload_n C d_Mo_requested_102 (pc' := 103) (i := 2) (x := x2) rfl rfl rfl ?_
  refine pj_bipush C d_Mo_requested_103 (pc' := 105) rfl (v := 51) (by decide) ?_
  refine pj_icmp_ne C d_Mo_requested_105 (pc' := 108) rfl (tgt := 123) (by decide) h (fun h => ?_) (fun h => ?_)
  · exact pj_cut (pj_le_s (pj_le_s (pj_le_s (pj_le_n (pj_le_n (pj_le_n pj_le_e)))))) (pt_Mo_requested_123 C hE   h)
  · exact pj_cut (pj_le_s (pj_le_s (pj_le_s (pj_le_n (pj_le_n (pj_le_n pj_le_e)))))) (pt_Mo_requested_108 C hE   h)
def pb_Mo_requested_91  (K : pj_M → Prop) (u : pj_M) (x1 : Int32) (x2 : Int32) : Prop := vp_in x1 4 ∧ (((((u 230 x1.toNatClampNeg) &&& 1) = 0) → (pb_Mo_requested_102  K u x1 x2)) ∧ (¬ (((u 230 x1.toNatClampNeg) &&& 1) = 0) → (pb_Mo_requested_119  K u x1 x2)))
set_option maxHeartbeats 1000000 in
theorem pt_Mo_requested_91 {g : pj_G} {b : Nat} (C : pj_X g c_Mo_requested 6 R_Mo none rm_Mo_requested) {K : pj_M → Prop} (hE : pj_E g b (pj_Kv K))   {u : pj_M} {x1 : Int32} {x2 : Int32}   (h : pb_Mo_requested_91  K u x1 x2) : pj_J g (pj_N g b u) 91 [some (.ref (b + 217)), some (.int x1), some (.int x2), none, none, none] [] := by
  unfold pb_Mo_requested_91 at h
  refine pj_aload_n C d_Mo_requested_91 (pc' := 92) (i := 0) (x := b + 217) rfl rfl rfl ?_
  refine fg_Model_47_Model C tk_217 d_Mo_requested_92 (pc' := 95) rfl ?_
  refine pj_iload_n C d_Mo_requested_95 (pc' := 96) (i := 1) (x := x1) rfl rfl rfl ?_
  refine pj_iald C (pj_lt tk_230 (by decide)) (fun E u => ka_23 tk_230) d_Mo_requested_96 (pc' := 97) rfl h (fun h => ?_)
  refine pj_iconst C d_Mo_requested_97 (pc' := 98) rfl (v := 1) (by decide) ?_
  refine pj_iand C d_Mo_requested_98 (pc' := 99) rfl ?_
  refine pj_if_ne C d_Mo_requested_99 (pc' := 102) rfl (tgt := 119) (by decide) h (fun h => ?_) (fun h => ?_)
  · exact pj_cut (pj_le_s (pj_le_s (pj_le_s (pj_le_n (pj_le_n (pj_le_n pj_le_e)))))) (pt_Mo_requested_119 C hE   h)
  · exact pj_cut (pj_le_s (pj_le_s (pj_le_s (pj_le_n (pj_le_n (pj_le_n pj_le_e)))))) (pt_Mo_requested_102 C hE   h)
def pb_Mo_requested_79  (K : pj_M → Prop) (u : pj_M) (x1 : Int32) : Prop := vp_in 3 48 ∧ (pj_let (u 227 (3 : Int32).toNatClampNeg) fun y1 => (((y1 = 4) → (pb_Mo_requested_91  K u x1 y1)) ∧ (¬ (y1 = 4) → (pb_Mo_requested_102  K u x1 y1))))
set_option maxHeartbeats 1000000 in
theorem pt_Mo_requested_79 {g : pj_G} {b : Nat} (C : pj_X g c_Mo_requested 6 R_Mo none rm_Mo_requested) {K : pj_M → Prop} (hE : pj_E g b (pj_Kv K))   {u : pj_M} {x1 : Int32}   (h : pb_Mo_requested_79  K u x1) : pj_J g (pj_N g b u) 79 [some (.ref (b + 217)), some (.int x1), none, none, none, none] [] := by
  unfold pb_Mo_requested_79 at h
  refine pj_aload_n C d_Mo_requested_79 (pc' := 80) (i := 0) (x := b + 217) rfl rfl rfl ?_
  refine fg_Model_38_Model C tk_217 d_Mo_requested_80 (pc' := 83) rfl ?_
  refine pj_iconst C d_Mo_requested_83 (pc' := 84) rfl (v := 3) (by decide) ?_
  refine pj_iald C (pj_lt tk_227 (by decide)) (fun E u => ka_22 tk_227) d_Mo_requested_84 (pc' := 85) rfl h (fun h => ?_)
  refine pj_name h (fun y1 h => ?_)
  refine pj_istore_n C d_Mo_requested_85 (pc' := 86) (i := 2) (vs' := [some (.ref (b + 217)), some (.int x1), some (.int y1), none, none, none]) rfl rfl (Nat.le_of_ble_eq_true rfl) (Nat.le_of_ble_eq_true rfl) rfl rfl ?_
  refine pj_iload_n C d_Mo_requested_86 (pc' := 87) (i := 2) (x := y1) rfl rfl rfl ?_
  refine pj_iconst C d_Mo_requested_87 (pc' := 88) rfl (v := 4) (by decide) ?_
  refine pj_icmp_ne C d_Mo_requested_88 (pc' := 91) rfl (tgt := 102) (by decide) h (fun h => ?_) (fun h => ?_)
  · exact pj_cut (pj_le_s (pj_le_s (pj_le_s (pj_le_n (pj_le_n (pj_le_n pj_le_e)))))) (pt_Mo_requested_102 C hE   h)
  · exact pj_cut (pj_le_s (pj_le_s (pj_le_s (pj_le_n (pj_le_n (pj_le_n pj_le_e)))))) (pt_Mo_requested_91 C hE   h)
def pb_Mo_requested_72  (K : pj_M → Prop) (u : pj_M) (x1 : Int32) : Prop := pw_Mo_sendFrame u 0 x1 fun u1 => (K u1)
set_option maxHeartbeats 1000000 in
theorem pt_Mo_requested_72 {g : pj_G} {b : Nat} (C : pj_X g c_Mo_requested 6 R_Mo none rm_Mo_requested) {K : pj_M → Prop} (hE : pj_E g b (pj_Kv K))   {u : pj_M} {x1 : Int32}   (h : pb_Mo_requested_72  K u x1) : pj_J g (pj_N g b u) 72 [some (.ref (b + 217)), some (.int x1), none, none, none, none] [] := by
  unfold pb_Mo_requested_72 at h
  refine pj_aload_n C d_Mo_requested_72 (pc' := 73) (i := 0) (x := b + 217) rfl rfl rfl ?_
  refine pj_iconst C d_Mo_requested_73 (pc' := 74) rfl (v := 0) (by decide) ?_
  refine pj_iload_n C d_Mo_requested_74 (pc' := 75) (i := 1) (x := x1) rfl rfl rfl ?_
  refine ck_Model_276_Model C  h d_Mo_requested_75 (pc' := 78) rfl ⟨Nat.le_of_ble_eq_true rfl, Nat.le_of_ble_eq_true rfl⟩ (Nat.le_of_ble_eq_true rfl) (fun u1 h => ?_)
  exact pj_vret C hE d_Mo_requested_78 ⟨rfl, h⟩
def pb_Mo_requested_49 (R41 : pj_M → Int32 → Prop) (K : pj_M → Prop) (u : pj_M) (x1 : Int32) (x2 : Int32) : Prop := vp_in ((20 * x1) + x2) 80 ∧ (vp_in x2 48 ∧ pj_put u 227 x2.toNatClampNeg (u 232 ((20 * x1) + x2).toNatClampNeg) fun u1 => (R41 u1 (x2 + 1)))
set_option maxHeartbeats 1000000 in
theorem pt_Mo_requested_49 {g : pj_G} {b : Nat} (C : pj_X g c_Mo_requested 6 R_Mo none rm_Mo_requested) {K : pj_M → Prop} (hE : pj_E g b (pj_Kv K)) {R41 : pj_M → Int32 → Prop}  {u : pj_M} {x1 : Int32} {x2 : Int32} (hR41 : ∀ (u : pj_M) (x2 : Int32), R41 u x2 → pj_J g (pj_N g b u) 41 [some (.ref (b + 217)), some (.int x1), some (.int x2), none, none, none] [])  (h : pb_Mo_requested_49 R41 K u x1 x2) : pj_J g (pj_N g b u) 49 [some (.ref (b + 217)), some (.int x1), some (.int x2), none, none, none] [] := by
  unfold pb_Mo_requested_49 at h
  refine pj_aload_n C d_Mo_requested_49 (pc' := 50) (i := 0) (x := b + 217) rfl rfl rfl ?_
  refine fg_Model_38_Model C tk_217 d_Mo_requested_50 (pc' := 53) rfl ?_
  refine pj_iload_n C d_Mo_requested_53 (pc' := 54) (i := 2) (x := x2) rfl rfl rfl ?_
  refine pj_aload_n C d_Mo_requested_54 (pc' := 55) (i := 0) (x := b + 217) rfl rfl rfl ?_
  refine fg_Model_53_Model C tk_217 d_Mo_requested_55 (pc' := 58) rfl ?_
  refine pj_bipush C d_Mo_requested_58 (pc' := 60) rfl (v := 20) (by decide) ?_
  refine pj_iload_n C d_Mo_requested_60 (pc' := 61) (i := 1) (x := x1) rfl rfl rfl ?_
  refine pj_imul C d_Mo_requested_61 (pc' := 62) rfl ?_
  refine pj_iload_n C d_Mo_requested_62 (pc' := 63) (i := 2) (x := x2) rfl rfl rfl ?_
  refine pj_iadd C d_Mo_requested_63 (pc' := 64) rfl ?_
  refine pj_iald C (pj_lt tk_232 (by decide)) (fun E u => ka_35 tk_232) d_Mo_requested_64 (pc' := 65) rfl h (fun h => ?_)
  refine pj_iast C (pj_lt tk_227 (by decide)) (fun E u => ka_22 tk_227) d_Mo_requested_65 (pc' := 66) rfl h (fun u1 h => ?_)
  refine pj_iinc C d_Mo_requested_66 (pc' := 69) (x := x2) (d := 1) (vs' := [some (.ref (b + 217)), some (.int x1), some (.int (x2 + 1)), none, none, none]) rfl rfl (Nat.le_of_ble_eq_true rfl) rfl (by decide) rfl ?_
  refine pj_goto C d_Mo_requested_69 (tgt := 41) (by decide) ?_
  exact pj_cut (pj_le_s (pj_le_s (pj_le_s (pj_le_n (pj_le_n (pj_le_n pj_le_e)))))) (hR41 _ _ h)
def pb_Mo_requested_41b (R41 : pj_M → Int32 → Prop) (K : pj_M → Prop) (u : pj_M) (x1 : Int32) (x2 : Int32) : Prop := (((u 217 16) ≤ x2) → (pb_Mo_requested_72  K u x1)) ∧ (¬ ((u 217 16) ≤ x2) → (pb_Mo_requested_49 R41 K u x1 x2))
set_option maxHeartbeats 1000000 in
theorem pt_Mo_requested_41b {g : pj_G} {b : Nat} (C : pj_X g c_Mo_requested 6 R_Mo none rm_Mo_requested) {K : pj_M → Prop} (hE : pj_E g b (pj_Kv K)) {R41 : pj_M → Int32 → Prop}  {u : pj_M} {x1 : Int32} {x2 : Int32} (hR41 : ∀ (u : pj_M) (x2 : Int32), R41 u x2 → pj_J g (pj_N g b u) 41 [some (.ref (b + 217)), some (.int x1), some (.int x2), none, none, none] [])  (h : pb_Mo_requested_41b R41 K u x1 x2) : pj_J g (pj_N g b u) 41 [some (.ref (b + 217)), some (.int x1), some (.int x2), none, none, none] [] := by
  unfold pb_Mo_requested_41b at h
  refine pj_iload_n C d_Mo_requested_41 (pc' := 42) (i := 2) (x := x2) rfl rfl rfl ?_
  refine pj_aload_n C d_Mo_requested_42 (pc' := 43) (i := 0) (x := b + 217) rfl rfl rfl ?_
  refine fg_Model_233_Model C tk_217 d_Mo_requested_43 (pc' := 46) rfl ?_
  refine pj_icmp_ge C d_Mo_requested_46 (pc' := 49) rfl (tgt := 72) (by decide) h (fun h => ?_) (fun h => ?_)
  · exact pj_cut (pj_le_s (pj_le_s (pj_le_n (pj_le_n (pj_le_n (pj_le_n pj_le_e)))))) (pt_Mo_requested_72 C hE   h)
  · exact pj_cut (pj_le_s (pj_le_s (pj_le_s (pj_le_n (pj_le_n (pj_le_n pj_le_e)))))) (pt_Mo_requested_49 C hE hR41  h)
def pb_Mo_requested_41  (K : pj_M → Prop) (x1 : Int32) : Nat → pj_M → Int32 → Prop
  | 0 => fun _ _ => False
  | n + 1 => fun u x2 => pb_Mo_requested_41b (pb_Mo_requested_41  K x1 n) K u x1 x2
theorem pt_Mo_requested_41 {g : pj_G} {b : Nat} (C : pj_X g c_Mo_requested 6 R_Mo none rm_Mo_requested) {K : pj_M → Prop} (hE : pj_E g b (pj_Kv K))  {x1 : Int32}   : ∀ (n : Nat) (u : pj_M) (x2 : Int32), pb_Mo_requested_41  K x1 n u x2 → pj_J g (pj_N g b u) 41 [some (.ref (b + 217)), some (.int x1), some (.int x2), none, none, none] [] := by
  intro n
  induction n with
  | zero => intro u x2 h; exact False.elim h
  | succ n ih =>
    intro u x2 h
    exact (pt_Mo_requested_41b C hE ih  h)
def pb_Mo_requested_29  (K : pj_M → Prop) (u : pj_M) (x1 : Int32) : Prop := vp_in x1 4 ∧ (pj_put u 217 16 (u 231 x1.toNatClampNeg) fun u1 => (∃ n, pb_Mo_requested_41  K x1 n u1 0))
set_option maxHeartbeats 1000000 in
theorem pt_Mo_requested_29 {g : pj_G} {b : Nat} (C : pj_X g c_Mo_requested 6 R_Mo none rm_Mo_requested) {K : pj_M → Prop} (hE : pj_E g b (pj_Kv K))   {u : pj_M} {x1 : Int32}   (h : pb_Mo_requested_29  K u x1) : pj_J g (pj_N g b u) 29 [some (.ref (b + 217)), some (.int x1), none, none, none, none] [] := by
  unfold pb_Mo_requested_29 at h
  refine pj_aload_n C d_Mo_requested_29 (pc' := 30) (i := 0) (x := b + 217) rfl rfl rfl ?_
  refine pj_aload_n C d_Mo_requested_30 (pc' := 31) (i := 0) (x := b + 217) rfl rfl rfl ?_
  refine fg_Model_50_Model C tk_217 d_Mo_requested_31 (pc' := 34) rfl ?_
  refine pj_iload_n C d_Mo_requested_34 (pc' := 35) (i := 1) (x := x1) rfl rfl rfl ?_
  refine pj_iald C (pj_lt tk_231 (by decide)) (fun E u => ka_23 tk_231) d_Mo_requested_35 (pc' := 36) rfl h (fun h => ?_)
  refine fp_Model_233_Model C tk_217  d_Mo_requested_36 (pc' := 39) rfl h (fun u1 h => ?_)
  refine pj_iconst C d_Mo_requested_39 (pc' := 40) rfl (v := 0) (by decide) ?_
  refine pj_istore_n C d_Mo_requested_40 (pc' := 41) (i := 2) (vs' := [some (.ref (b + 217)), some (.int x1), some (.int 0), none, none, none]) rfl rfl (Nat.le_of_ble_eq_true rfl) (Nat.le_of_ble_eq_true rfl) rfl rfl ?_
  obtain ⟨n, h⟩ := h
  exact pj_cut (pj_le_s (pj_le_s (pj_le_s (pj_le_n (pj_le_n (pj_le_n pj_le_e)))))) (pt_Mo_requested_41 C hE   n _ _ h)
def pb_Mo_requested_9  (K : pj_M → Prop) (u : pj_M) (x1 : Int32) : Prop := vp_in ((20 * x1) + 1) 80 ∧ (vp_in 1 48 ∧ ((((u 232 ((20 * x1) + 1).toNatClampNeg) = (u 227 (1 : Int32).toNatClampNeg)) → (pb_Mo_requested_29  K u x1)) ∧ (¬ ((u 232 ((20 * x1) + 1).toNatClampNeg) = (u 227 (1 : Int32).toNatClampNeg)) → (pb_Mo_requested_79  K u x1))))
set_option maxHeartbeats 1000000 in
theorem pt_Mo_requested_9 {g : pj_G} {b : Nat} (C : pj_X g c_Mo_requested 6 R_Mo none rm_Mo_requested) {K : pj_M → Prop} (hE : pj_E g b (pj_Kv K))   {u : pj_M} {x1 : Int32}   (h : pb_Mo_requested_9  K u x1) : pj_J g (pj_N g b u) 9 [some (.ref (b + 217)), some (.int x1), none, none, none, none] [] := by
  unfold pb_Mo_requested_9 at h
  refine pj_aload_n C d_Mo_requested_9 (pc' := 10) (i := 0) (x := b + 217) rfl rfl rfl ?_
  refine fg_Model_53_Model C tk_217 d_Mo_requested_10 (pc' := 13) rfl ?_
  refine pj_bipush C d_Mo_requested_13 (pc' := 15) rfl (v := 20) (by decide) ?_
  refine pj_iload_n C d_Mo_requested_15 (pc' := 16) (i := 1) (x := x1) rfl rfl rfl ?_
  refine pj_imul C d_Mo_requested_16 (pc' := 17) rfl ?_
  refine pj_iconst C d_Mo_requested_17 (pc' := 18) rfl (v := 1) (by decide) ?_
  refine pj_iadd C d_Mo_requested_18 (pc' := 19) rfl ?_
  refine pj_iald C (pj_lt tk_232 (by decide)) (fun E u => ka_35 tk_232) d_Mo_requested_19 (pc' := 20) rfl h (fun h => ?_)
  refine pj_aload_n C d_Mo_requested_20 (pc' := 21) (i := 0) (x := b + 217) rfl rfl rfl ?_
  refine fg_Model_38_Model C tk_217 d_Mo_requested_21 (pc' := 24) rfl ?_
  refine pj_iconst C d_Mo_requested_24 (pc' := 25) rfl (v := 1) (by decide) ?_
  refine pj_iald C (pj_lt tk_227 (by decide)) (fun E u => ka_22 tk_227) d_Mo_requested_25 (pc' := 26) rfl h (fun h => ?_)
  refine pj_icmp_ne C d_Mo_requested_26 (pc' := 29) rfl (tgt := 79) (by decide) h (fun h => ?_) (fun h => ?_)
  · exact pj_cut (pj_le_s (pj_le_s (pj_le_n (pj_le_n (pj_le_n (pj_le_n pj_le_e)))))) (pt_Mo_requested_79 C hE   h)
  · exact pj_cut (pj_le_s (pj_le_s (pj_le_n (pj_le_n (pj_le_n (pj_le_n pj_le_e)))))) (pt_Mo_requested_29 C hE   h)
def pb_Mo_requested_0  (K : pj_M → Prop) (u : pj_M) (x1 : Int32) : Prop := vp_in x1 4 ∧ ((((u 231 x1.toNatClampNeg) ≤ 0) → (pb_Mo_requested_79  K u x1)) ∧ (¬ ((u 231 x1.toNatClampNeg) ≤ 0) → (pb_Mo_requested_9  K u x1)))
set_option maxHeartbeats 1000000 in
theorem pt_Mo_requested_0 {g : pj_G} {b : Nat} (C : pj_X g c_Mo_requested 6 R_Mo none rm_Mo_requested) {K : pj_M → Prop} (hE : pj_E g b (pj_Kv K))   {u : pj_M} {x1 : Int32}   (h : pb_Mo_requested_0  K u x1) : pj_J g (pj_N g b u) 0 [some (.ref (b + 217)), some (.int x1), none, none, none, none] [] := by
  unfold pb_Mo_requested_0 at h
  refine pj_aload_n C d_Mo_requested_0 (pc' := 1) (i := 0) (x := b + 217) rfl rfl rfl ?_
  refine fg_Model_50_Model C tk_217 d_Mo_requested_1 (pc' := 4) rfl ?_
  refine pj_iload_n C d_Mo_requested_4 (pc' := 5) (i := 1) (x := x1) rfl rfl rfl ?_
  refine pj_iald C (pj_lt tk_231 (by decide)) (fun E u => ka_23 tk_231) d_Mo_requested_5 (pc' := 6) rfl h (fun h => ?_)
  refine pj_if_le C d_Mo_requested_6 (pc' := 9) rfl (tgt := 79) (by decide) h (fun h => ?_) (fun h => ?_)
  · exact pj_cut (pj_le_s (pj_le_s (pj_le_n (pj_le_n (pj_le_n (pj_le_n pj_le_e)))))) (pt_Mo_requested_79 C hE   h)
  · exact pj_cut (pj_le_s (pj_le_s (pj_le_n (pj_le_n (pj_le_n (pj_le_n pj_le_e)))))) (pt_Mo_requested_9 C hE   h)
def pw_Mo_requested (u : pj_M) (x1 : Int32) (K : pj_M → Prop) : Prop := pb_Mo_requested_0  K u x1
theorem pc_Mo_requested (l : Launch) (D : va_G) (E : Nat → ClassId) {b : Nat} {u : pj_M} {x1 : Int32} {K : pj_M → Prop}  (h : pw_Mo_requested u x1 K) : pj_C l y_Mo_requested c_Mo_requested 6 none rm_Mo_requested D E b [.ref (b + 217), .int x1] u (pj_Kv K) := by
  refine pj_met (own := R_Mo) (by decide +kernel) rfl (Nat.le_of_ble_eq_true rfl) (fun g hE C => ?_)
  unfold pw_Mo_requested at h
  show pj_J g (pj_N g b u) 0 [some (.ref (b + 217)), some (.int x1), none, none, none, none] []
  exact pj_cut (pj_le_s (pj_le_s (pj_le_n (pj_le_n (pj_le_n (pj_le_n pj_le_e)))))) (pt_Mo_requested_0 C hE   h)
/-! Model.hostTakes(I)V -/
theorem fg_Model_188_Model {g : pj_G} {b : Nat} {cc : ByteArray} {nL : Nat} {ret : Option FieldType} {rm : Room} {u : pj_M} {pc pc' : Nat} {vs : List (Option Value)} {st : List Value} (C : pj_X g cc nL R_Mo ret rm) {i : Nat} (t : pj_T i = 11) (hdg : decode cc pc = .ok (.getfield 188, 3)) (hp : pc + 3 = pc') (kk : pj_J g (pj_N g b u) pc' vs (.ref (b + 277) :: st)) : pj_J g (pj_N g b u) pc vs (.ref (b + i) :: st) :=
  pj_get C cl_Model hin_Model (k := 70) (Nat.le_of_ble_eq_true rfl) wm_1194 (Or.inl rfl) (pj_lt t (by decide)) (fun E => ko_11 t) rfl hdg hp kk
theorem ck_Model_270_Model {g : pj_G} {b : Nat} {cc : ByteArray} {nL : Nat} {ret : Option FieldType} {rm : Room} {u : pj_M} {pc pc' : Nat} {vs : List (Option Value)} {st : List Value} (C : pj_X g cc nL R_Mo ret rm)  {K : Int32 → pj_M → Prop}  (h : pw_Mo_frame u  K) (hdg : decode cc pc = .ok (.invokevirtual 270, 3)) (hp : pc + 3 = pc') (hR : rm_Mo_frame.frames + 1 ≤ rm.frames ∧ 8 + (2 + 11) + rm_Mo_frame.locals ≤ rm.locals) (h8 : (st.map fun v => v.category).sum ≤ 8) (kk : ∀ r u', K r u' → pj_J g (pj_N g b u') pc' vs (.int r :: st)) : pj_J g (pj_N g b u) pc vs (.ref (b + 217) :: st) :=
  pj_callV C (As := []) (fun l D E => pc_Mo_frame l D E  h) rfl rfl cl_Model (pj_lt tk_217 (by decide)) (fun E => ko_11 tk_217) wm_1472 wm_1474 wm_63 wm_103 wm_1475 (by decide +kernel) (n := 0) rfl hR rfl h8 hdg hp (fun v u' hq => by obtain ⟨r, rfl, hk⟩ := hq; exact kk r u' hk)
theorem ck_Model_273_Model {g : pj_G} {b : Nat} {cc : ByteArray} {nL : Nat} {ret : Option FieldType} {rm : Room} {u : pj_M} {pc pc' : Nat} {vs : List (Option Value)} {st : List Value} (C : pj_X g cc nL R_Mo ret rm) {x1 : Int32} {K : pj_M → Prop}  (h : pw_Mo_requested u x1 K) (hdg : decode cc pc = .ok (.invokevirtual 273, 3)) (hp : pc + 3 = pc') (hR : rm_Mo_requested.frames + 1 ≤ rm.frames ∧ 8 + (6 + 11) + rm_Mo_requested.locals ≤ rm.locals) (h8 : (st.map fun v => v.category).sum ≤ 8) (kk : ∀ u', K u' → pj_J g (pj_N g b u') pc' vs st) : pj_J g (pj_N g b u) pc vs (.int x1 :: .ref (b + 217) :: st) :=
  pj_callV C (As := [.int x1]) (fun l D E => pc_Mo_requested l D E  h) rfl rfl cl_Model (pj_lt tk_217 (by decide)) (fun E => ko_11 tk_217) wm_1484 wm_1486 wm_66 wm_103 wm_1487 (by decide +kernel) (n := 1) rfl hR rfl h8 hdg hp (fun v u' hq => by obtain ⟨rfl, hk⟩ := hq; exact kk u' hk)
def rm_Mo_hostTakes : Room := { frames := 6, cells := 0, slots := 0, locals := 138 }
def pb_Mo_hostTakes_114  (K : pj_M → Prop) (u : pj_M)  : Prop := K u
set_option maxHeartbeats 1000000 in
theorem pt_Mo_hostTakes_114 {g : pj_G} {b : Nat} (C : pj_X g c_Mo_hostTakes 3 R_Mo none rm_Mo_hostTakes) {K : pj_M → Prop} (hE : pj_E g b (pj_Kv K))   {u : pj_M}    (h : pb_Mo_hostTakes_114  K u ) : pj_J g (pj_N g b u) 114 [none, none, none] [] := by
  unfold pb_Mo_hostTakes_114 at h
  exact pj_vret C hE d_Mo_hostTakes_114 ⟨rfl, h⟩
def pb_Mo_hostTakes_100  (K : pj_M → Prop) (u : pj_M) (x1 : Int32) : Prop := vp_in x1 4 ∧ pj_put u 234 x1.toNatClampNeg 2 fun u1 => (vp_in x1 4 ∧ pj_put u1 233 x1.toNatClampNeg (vp_nar .boolean 0) fun u2 => (pb_Mo_hostTakes_114  K u2 ))
set_option maxHeartbeats 1000000 in
theorem pt_Mo_hostTakes_100 {g : pj_G} {b : Nat} (C : pj_X g c_Mo_hostTakes 3 R_Mo none rm_Mo_hostTakes) {K : pj_M → Prop} (hE : pj_E g b (pj_Kv K))   {u : pj_M} {x1 : Int32}   (h : pb_Mo_hostTakes_100  K u x1) : pj_J g (pj_N g b u) 100 [some (.ref (b + 217)), some (.int x1), none] [] := by
  unfold pb_Mo_hostTakes_100 at h
  refine pj_aload_n C d_Mo_hostTakes_100 (pc' := 101) (i := 0) (x := b + 217) rfl rfl rfl ?_
  refine fg_Model_59_Model C tk_217 d_Mo_hostTakes_101 (pc' := 104) rfl ?_
  refine pj_iload_n C d_Mo_hostTakes_104 (pc' := 105) (i := 1) (x := x1) rfl rfl rfl ?_
  refine pj_iconst C d_Mo_hostTakes_105 (pc' := 106) rfl (v := 2) (by decide) ?_
  refine pj_iast C (pj_lt tk_234 (by decide)) (fun E u => ka_23 tk_234) d_Mo_hostTakes_106 (pc' := 107) rfl h (fun u1 h => ?_)
  refine pj_aload_n C d_Mo_hostTakes_107 (pc' := 108) (i := 0) (x := b + 217) rfl rfl rfl ?_
  refine fg_Model_56_Model C tk_217 d_Mo_hostTakes_108 (pc' := 111) rfl ?_
  refine pj_iload_n C d_Mo_hostTakes_111 (pc' := 112) (i := 1) (x := x1) rfl rfl rfl ?_
  refine pj_iconst C d_Mo_hostTakes_112 (pc' := 113) rfl (v := 0) (by decide) ?_
  refine pj_zast C (pj_lt tk_233 (by decide)) (fun E u => ka_31 tk_233) d_Mo_hostTakes_113 (pc' := 114) rfl h (fun u2 h => ?_)
  exact pj_cut (pj_le_n (pj_le_n (pj_le_n pj_le_e))) (pt_Mo_hostTakes_114 C hE   h)
def pb_Mo_hostTakes_90  (K : pj_M → Prop) (u : pj_M) (x1 : Int32) : Prop := vp_in 0 48 ∧ ((((u 227 (0 : Int32).toNatClampNeg) = 4) → (pb_Mo_hostTakes_100  K u x1)) ∧ (¬ ((u 227 (0 : Int32).toNatClampNeg) = 4) → (pb_Mo_hostTakes_114  K u )))
set_option maxHeartbeats 1000000 in
theorem pt_Mo_hostTakes_90 {g : pj_G} {b : Nat} (C : pj_X g c_Mo_hostTakes 3 R_Mo none rm_Mo_hostTakes) {K : pj_M → Prop} (hE : pj_E g b (pj_Kv K))   {u : pj_M} {x1 : Int32}   (h : pb_Mo_hostTakes_90  K u x1) : pj_J g (pj_N g b u) 90 [some (.ref (b + 217)), some (.int x1), none] [] := by
  unfold pb_Mo_hostTakes_90 at h
  refine pj_aload_n C d_Mo_hostTakes_90 (pc' := 91) (i := 0) (x := b + 217) rfl rfl rfl ?_
  refine fg_Model_38_Model C tk_217 d_Mo_hostTakes_91 (pc' := 94) rfl ?_
  refine pj_iconst C d_Mo_hostTakes_94 (pc' := 95) rfl (v := 0) (by decide) ?_
  refine pj_iald C (pj_lt tk_227 (by decide)) (fun E u => ka_22 tk_227) d_Mo_hostTakes_95 (pc' := 96) rfl h (fun h => ?_)
  refine pj_iconst C d_Mo_hostTakes_96 (pc' := 97) rfl (v := 4) (by decide) ?_
  refine pj_icmp_ne C d_Mo_hostTakes_97 (pc' := 100) rfl (tgt := 114) (by decide) h (fun h => ?_) (fun h => ?_)
  · exact pj_cut (pj_le_n (pj_le_n (pj_le_n pj_le_e))) (pt_Mo_hostTakes_114 C hE   h)
  · exact pj_cut (pj_le_s (pj_le_s (pj_le_n pj_le_e))) (pt_Mo_hostTakes_100 C hE   h)
def pb_Mo_hostTakes_86  (K : pj_M → Prop) (u : pj_M) (s0 : Int32) (s1 : Int32) : Prop := vp_in s1 4 ∧ pj_put u 234 s1.toNatClampNeg s0 fun u1 => (pb_Mo_hostTakes_114  K u1 )
set_option maxHeartbeats 1000000 in
theorem pt_Mo_hostTakes_86 {g : pj_G} {b : Nat} (C : pj_X g c_Mo_hostTakes 3 R_Mo none rm_Mo_hostTakes) {K : pj_M → Prop} (hE : pj_E g b (pj_Kv K))   {u : pj_M} {s0 : Int32} {s1 : Int32}   (h : pb_Mo_hostTakes_86  K u s0 s1) : pj_J g (pj_N g b u) 86 [none, none, none] [.int s0, .int s1, .ref (b + 234)] := by
  unfold pb_Mo_hostTakes_86 at h
  refine pj_iast C (pj_lt tk_234 (by decide)) (fun E u => ka_23 tk_234) d_Mo_hostTakes_86 (pc' := 87) rfl h (fun u1 h => ?_)
  refine pj_goto C d_Mo_hostTakes_87 (tgt := 114) (by decide) ?_
  exact pj_cut (pj_le_n (pj_le_n (pj_le_n pj_le_e))) (pt_Mo_hostTakes_114 C hE   h)
def pb_Mo_hostTakes_80  (K : pj_M → Prop) (u : pj_M) (x1 : Int32) (s0 : Int32) : Prop := vp_in x1 4 ∧ (pb_Mo_hostTakes_86  K u (u 234 x1.toNatClampNeg) s0)
set_option maxHeartbeats 1000000 in
theorem pt_Mo_hostTakes_80 {g : pj_G} {b : Nat} (C : pj_X g c_Mo_hostTakes 3 R_Mo none rm_Mo_hostTakes) {K : pj_M → Prop} (hE : pj_E g b (pj_Kv K))   {u : pj_M} {x1 : Int32} {s0 : Int32}   (h : pb_Mo_hostTakes_80  K u x1 s0) : pj_J g (pj_N g b u) 80 [some (.ref (b + 217)), some (.int x1), none] [.int s0, .ref (b + 234)] := by
  unfold pb_Mo_hostTakes_80 at h
  refine pj_aload_n C d_Mo_hostTakes_80 (pc' := 81) (i := 0) (x := b + 217) rfl rfl rfl ?_
  refine fg_Model_59_Model C tk_217 d_Mo_hostTakes_81 (pc' := 84) rfl ?_
  refine pj_iload_n C d_Mo_hostTakes_84 (pc' := 85) (i := 1) (x := x1) rfl rfl rfl ?_
  refine pj_iald C (pj_lt tk_234 (by decide)) (fun E u => ka_23 tk_234) d_Mo_hostTakes_85 (pc' := 86) rfl h (fun h => ?_)
  exact pj_cut (pj_le_n (pj_le_n (pj_le_n pj_le_e))) (pt_Mo_hostTakes_86 C hE   h)
def pb_Mo_hostTakes_76  (K : pj_M → Prop) (u : pj_M) (s0 : Int32) : Prop := pb_Mo_hostTakes_86  K u 1 s0
set_option maxHeartbeats 1000000 in
theorem pt_Mo_hostTakes_76 {g : pj_G} {b : Nat} (C : pj_X g c_Mo_hostTakes 3 R_Mo none rm_Mo_hostTakes) {K : pj_M → Prop} (hE : pj_E g b (pj_Kv K))   {u : pj_M} {s0 : Int32}   (h : pb_Mo_hostTakes_76  K u s0) : pj_J g (pj_N g b u) 76 [none, none, none] [.int s0, .ref (b + 234)] := by
  unfold pb_Mo_hostTakes_76 at h
  refine pj_iconst C d_Mo_hostTakes_76 (pc' := 77) rfl (v := 1) (by decide) ?_
  refine pj_goto C d_Mo_hostTakes_77 (tgt := 86) (by decide) ?_
  exact pj_cut (pj_le_n (pj_le_n (pj_le_n pj_le_e))) (pt_Mo_hostTakes_86 C hE   h)
def pb_Mo_hostTakes_62  (K : pj_M → Prop) (u : pj_M) (x1 : Int32) : Prop := vp_in x1 4 ∧ ((((u 233 x1.toNatClampNeg) = 0) → (pb_Mo_hostTakes_80  K u x1 x1)) ∧ (¬ ((u 233 x1.toNatClampNeg) = 0) → (pb_Mo_hostTakes_76  K u x1)))
set_option maxHeartbeats 1000000 in
theorem pt_Mo_hostTakes_62 {g : pj_G} {b : Nat} (C : pj_X g c_Mo_hostTakes 3 R_Mo none rm_Mo_hostTakes) {K : pj_M → Prop} (hE : pj_E g b (pj_Kv K))   {u : pj_M} {x1 : Int32}   (h : pb_Mo_hostTakes_62  K u x1) : pj_J g (pj_N g b u) 62 [some (.ref (b + 217)), some (.int x1), none] [] := by
  unfold pb_Mo_hostTakes_62 at h
  refine pj_aload_n C d_Mo_hostTakes_62 (pc' := 63) (i := 0) (x := b + 217) rfl rfl rfl ?_
  refine fg_Model_59_Model C tk_217 d_Mo_hostTakes_63 (pc' := 66) rfl ?_
  refine pj_iload_n C d_Mo_hostTakes_66 (pc' := 67) (i := 1) (x := x1) rfl rfl rfl ?_
  refine pj_aload_n C d_Mo_hostTakes_67 (pc' := 68) (i := 0) (x := b + 217) rfl rfl rfl ?_
  refine fg_Model_56_Model C tk_217 d_Mo_hostTakes_68 (pc' := 71) rfl ?_
  refine pj_iload_n C d_Mo_hostTakes_71 (pc' := 72) (i := 1) (x := x1) rfl rfl rfl ?_
  refine pj_zald C (pj_lt tk_233 (by decide)) (fun E u => ka_31 tk_233) d_Mo_hostTakes_72 (pc' := 73) rfl h (fun h => ?_)
  refine pj_if_eq C d_Mo_hostTakes_73 (pc' := 76) rfl (tgt := 80) (by decide) h (fun h => ?_) (fun h => ?_)
  · exact pj_cut (pj_le_s (pj_le_s (pj_le_n pj_le_e))) (pt_Mo_hostTakes_80 C hE   h)
  · exact pj_cut (pj_le_n (pj_le_n (pj_le_n pj_le_e))) (pt_Mo_hostTakes_76 C hE   h)
def pb_Mo_hostTakes_52  (K : pj_M → Prop) (u : pj_M) (x1 : Int32) : Prop := vp_in 0 48 ∧ ((((u 227 (0 : Int32).toNatClampNeg) = 3) → (pb_Mo_hostTakes_62  K u x1)) ∧ (¬ ((u 227 (0 : Int32).toNatClampNeg) = 3) → (pb_Mo_hostTakes_90  K u x1)))
set_option maxHeartbeats 1000000 in
theorem pt_Mo_hostTakes_52 {g : pj_G} {b : Nat} (C : pj_X g c_Mo_hostTakes 3 R_Mo none rm_Mo_hostTakes) {K : pj_M → Prop} (hE : pj_E g b (pj_Kv K))   {u : pj_M} {x1 : Int32}   (h : pb_Mo_hostTakes_52  K u x1) : pj_J g (pj_N g b u) 52 [some (.ref (b + 217)), some (.int x1), none] [] := by
  unfold pb_Mo_hostTakes_52 at h
  refine pj_aload_n C d_Mo_hostTakes_52 (pc' := 53) (i := 0) (x := b + 217) rfl rfl rfl ?_
  refine fg_Model_38_Model C tk_217 d_Mo_hostTakes_53 (pc' := 56) rfl ?_
  refine pj_iconst C d_Mo_hostTakes_56 (pc' := 57) rfl (v := 0) (by decide) ?_
  refine pj_iald C (pj_lt tk_227 (by decide)) (fun E u => ka_22 tk_227) d_Mo_hostTakes_57 (pc' := 58) rfl h (fun h => ?_)
  refine pj_iconst C d_Mo_hostTakes_58 (pc' := 59) rfl (v := 3) (by decide) ?_
  refine pj_icmp_ne C d_Mo_hostTakes_59 (pc' := 62) rfl (tgt := 90) (by decide) h (fun h => ?_) (fun h => ?_)
  · exact pj_cut (pj_le_s (pj_le_s (pj_le_n pj_le_e))) (pt_Mo_hostTakes_90 C hE   h)
  · exact pj_cut (pj_le_s (pj_le_s (pj_le_n pj_le_e))) (pt_Mo_hostTakes_62 C hE   h)
def pb_Mo_hostTakes_44  (K : pj_M → Prop) (u : pj_M) (x1 : Int32) : Prop := pw_Mo_requested u x1 fun u1 => (pb_Mo_hostTakes_114  K u1 )
set_option maxHeartbeats 1000000 in
theorem pt_Mo_hostTakes_44 {g : pj_G} {b : Nat} (C : pj_X g c_Mo_hostTakes 3 R_Mo none rm_Mo_hostTakes) {K : pj_M → Prop} (hE : pj_E g b (pj_Kv K))   {u : pj_M} {x1 : Int32}   (h : pb_Mo_hostTakes_44  K u x1) : pj_J g (pj_N g b u) 44 [some (.ref (b + 217)), some (.int x1), none] [] := by
  unfold pb_Mo_hostTakes_44 at h
  refine pj_aload_n C d_Mo_hostTakes_44 (pc' := 45) (i := 0) (x := b + 217) rfl rfl rfl ?_
  refine pj_iload_n C d_Mo_hostTakes_45 (pc' := 46) (i := 1) (x := x1) rfl rfl rfl ?_
  refine ck_Model_273_Model C  h d_Mo_hostTakes_46 (pc' := 49) rfl ⟨Nat.le_of_ble_eq_true rfl, Nat.le_of_ble_eq_true rfl⟩ (Nat.le_of_ble_eq_true rfl) (fun u1 h => ?_)
  refine pj_goto C d_Mo_hostTakes_49 (tgt := 114) (by decide) ?_
  exact pj_cut (pj_le_n (pj_le_n (pj_le_n pj_le_e))) (pt_Mo_hostTakes_114 C hE   h)
def pb_Mo_hostTakes_34  (K : pj_M → Prop) (u : pj_M) (x1 : Int32) : Prop := vp_in 0 48 ∧ ((((u 227 (0 : Int32).toNatClampNeg) = 1) → (pb_Mo_hostTakes_44  K u x1)) ∧ (¬ ((u 227 (0 : Int32).toNatClampNeg) = 1) → (pb_Mo_hostTakes_52  K u x1)))
set_option maxHeartbeats 1000000 in
theorem pt_Mo_hostTakes_34 {g : pj_G} {b : Nat} (C : pj_X g c_Mo_hostTakes 3 R_Mo none rm_Mo_hostTakes) {K : pj_M → Prop} (hE : pj_E g b (pj_Kv K))   {u : pj_M} {x1 : Int32}   (h : pb_Mo_hostTakes_34  K u x1) : pj_J g (pj_N g b u) 34 [some (.ref (b + 217)), some (.int x1), none] [] := by
  unfold pb_Mo_hostTakes_34 at h
  refine pj_aload_n C d_Mo_hostTakes_34 (pc' := 35) (i := 0) (x := b + 217) rfl rfl rfl ?_
  refine fg_Model_38_Model C tk_217 d_Mo_hostTakes_35 (pc' := 38) rfl ?_
  refine pj_iconst C d_Mo_hostTakes_38 (pc' := 39) rfl (v := 0) (by decide) ?_
  refine pj_iald C (pj_lt tk_227 (by decide)) (fun E u => ka_22 tk_227) d_Mo_hostTakes_39 (pc' := 40) rfl h (fun h => ?_)
  refine pj_iconst C d_Mo_hostTakes_40 (pc' := 41) rfl (v := 1) (by decide) ?_
  refine pj_icmp_ne C d_Mo_hostTakes_41 (pc' := 44) rfl (tgt := 52) (by decide) h (fun h => ?_) (fun h => ?_)
  · exact pj_cut (pj_le_s (pj_le_s (pj_le_n pj_le_e))) (pt_Mo_hostTakes_52 C hE   h)
  · exact pj_cut (pj_le_s (pj_le_s (pj_le_n pj_le_e))) (pt_Mo_hostTakes_44 C hE   h)
def pb_Mo_hostTakes_33  (K : pj_M → Prop) (u : pj_M)  : Prop := K u
set_option maxHeartbeats 1000000 in
theorem pt_Mo_hostTakes_33 {g : pj_G} {b : Nat} (C : pj_X g c_Mo_hostTakes 3 R_Mo none rm_Mo_hostTakes) {K : pj_M → Prop} (hE : pj_E g b (pj_Kv K))   {u : pj_M}    (h : pb_Mo_hostTakes_33  K u ) : pj_J g (pj_N g b u) 33 [none, none, none] [] := by
  unfold pb_Mo_hostTakes_33 at h
  exact pj_vret C hE d_Mo_hostTakes_33 ⟨rfl, h⟩
def pb_Mo_hostTakes_29  (K : pj_M → Prop) (u : pj_M) (x1 : Int32) (x2 : Int32) : Prop := ((x2 = 0) → (pb_Mo_hostTakes_34  K u x1)) ∧ (¬ (x2 = 0) → (pb_Mo_hostTakes_33  K u ))
set_option maxHeartbeats 1000000 in
theorem pt_Mo_hostTakes_29 {g : pj_G} {b : Nat} (C : pj_X g c_Mo_hostTakes 3 R_Mo none rm_Mo_hostTakes) {K : pj_M → Prop} (hE : pj_E g b (pj_Kv K))   {u : pj_M} {x1 : Int32} {x2 : Int32}   (h : pb_Mo_hostTakes_29  K u x1 x2) : pj_J g (pj_N g b u) 29 [some (.ref (b + 217)), some (.int x1), some (.int x2)] [] := by
  unfold pb_Mo_hostTakes_29 at h
  refine pj_iload_n C d_Mo_hostTakes_29 (pc' := 30) (i := 2) (x := x2) rfl rfl rfl ?_
  refine pj_if_eq C d_Mo_hostTakes_30 (pc' := 33) rfl (tgt := 34) (by decide) h (fun h => ?_) (fun h => ?_)
  · exact pj_cut (pj_le_s (pj_le_s (pj_le_n pj_le_e))) (pt_Mo_hostTakes_34 C hE   h)
  · exact pj_cut (pj_le_n (pj_le_n (pj_le_n pj_le_e))) (pt_Mo_hostTakes_33 C hE   h)
def pb_Mo_hostTakes_19  (K : pj_M → Prop) (u : pj_M) (x1 : Int32) (x2 : Int32) : Prop := vp_in 1 3 ∧ (vp_in 1 3 ∧ pj_put u 277 (1 : Int32).toNatClampNeg ((u 277 (1 : Int32).toNatClampNeg) + 1) fun u1 => (pb_Mo_hostTakes_29  K u1 x1 x2))
set_option maxHeartbeats 1000000 in
theorem pt_Mo_hostTakes_19 {g : pj_G} {b : Nat} (C : pj_X g c_Mo_hostTakes 3 R_Mo none rm_Mo_hostTakes) {K : pj_M → Prop} (hE : pj_E g b (pj_Kv K))   {u : pj_M} {x1 : Int32} {x2 : Int32}   (h : pb_Mo_hostTakes_19  K u x1 x2) : pj_J g (pj_N g b u) 19 [some (.ref (b + 217)), some (.int x1), some (.int x2)] [] := by
  unfold pb_Mo_hostTakes_19 at h
  refine pj_aload_n C d_Mo_hostTakes_19 (pc' := 20) (i := 0) (x := b + 217) rfl rfl rfl ?_
  refine fg_Model_188_Model C tk_217 d_Mo_hostTakes_20 (pc' := 23) rfl ?_
  refine pj_iconst C d_Mo_hostTakes_23 (pc' := 24) rfl (v := 1) (by decide) ?_
  refine pj_dup2_11 C d_Mo_hostTakes_24 (pc' := 25) rfl rfl rfl ?_
  refine pj_iald C (pj_lt tk_277 (by decide)) (fun E u => ka_34 tk_277) d_Mo_hostTakes_25 (pc' := 26) rfl h (fun h => ?_)
  refine pj_iconst C d_Mo_hostTakes_26 (pc' := 27) rfl (v := 1) (by decide) ?_
  refine pj_iadd C d_Mo_hostTakes_27 (pc' := 28) rfl ?_
  refine pj_iast C (pj_lt tk_277 (by decide)) (fun E u => ka_34 tk_277) d_Mo_hostTakes_28 (pc' := 29) rfl h (fun u1 h => ?_)
  exact pj_cut (pj_le_s (pj_le_s (pj_le_s pj_le_e))) (pt_Mo_hostTakes_29 C hE   h)
def pb_Mo_hostTakes_10  (K : pj_M → Prop) (u : pj_M) (x1 : Int32) : Prop := pw_Mo_frame u  fun r2 u1 => (((0 ≤ r2) → (pb_Mo_hostTakes_29  K u1 x1 r2)) ∧ (¬ (0 ≤ r2) → (pb_Mo_hostTakes_19  K u1 x1 r2)))
set_option maxHeartbeats 1000000 in
theorem pt_Mo_hostTakes_10 {g : pj_G} {b : Nat} (C : pj_X g c_Mo_hostTakes 3 R_Mo none rm_Mo_hostTakes) {K : pj_M → Prop} (hE : pj_E g b (pj_Kv K))   {u : pj_M} {x1 : Int32}   (h : pb_Mo_hostTakes_10  K u x1) : pj_J g (pj_N g b u) 10 [some (.ref (b + 217)), some (.int x1), none] [] := by
  unfold pb_Mo_hostTakes_10 at h
  refine pj_aload_n C d_Mo_hostTakes_10 (pc' := 11) (i := 0) (x := b + 217) rfl rfl rfl ?_
  refine ck_Model_270_Model C  h d_Mo_hostTakes_11 (pc' := 14) rfl ⟨Nat.le_of_ble_eq_true rfl, Nat.le_of_ble_eq_true rfl⟩ (Nat.le_of_ble_eq_true rfl) (fun r2 u1 h => ?_)
  refine pj_istore_n C d_Mo_hostTakes_14 (pc' := 15) (i := 2) (vs' := [some (.ref (b + 217)), some (.int x1), some (.int r2)]) rfl rfl (Nat.le_of_ble_eq_true rfl) (Nat.le_of_ble_eq_true rfl) rfl rfl ?_
  refine pj_iload_n C d_Mo_hostTakes_15 (pc' := 16) (i := 2) (x := r2) rfl rfl rfl ?_
  refine pj_if_ge C d_Mo_hostTakes_16 (pc' := 19) rfl (tgt := 29) (by decide) h (fun h => ?_) (fun h => ?_)
  · exact pj_cut (pj_le_s (pj_le_s (pj_le_s pj_le_e))) (pt_Mo_hostTakes_29 C hE   h)
  · exact pj_cut (pj_le_s (pj_le_s (pj_le_s pj_le_e))) (pt_Mo_hostTakes_19 C hE   h)
def pb_Mo_hostTakes_9  (K : pj_M → Prop) (u : pj_M)  : Prop := K u
set_option maxHeartbeats 1000000 in
theorem pt_Mo_hostTakes_9 {g : pj_G} {b : Nat} (C : pj_X g c_Mo_hostTakes 3 R_Mo none rm_Mo_hostTakes) {K : pj_M → Prop} (hE : pj_E g b (pj_Kv K))   {u : pj_M}    (h : pb_Mo_hostTakes_9  K u ) : pj_J g (pj_N g b u) 9 [none, none, none] [] := by
  unfold pb_Mo_hostTakes_9 at h
  exact pj_vret C hE d_Mo_hostTakes_9 ⟨rfl, h⟩
def pb_Mo_hostTakes_0  (K : pj_M → Prop) (u : pj_M) (x1 : Int32) : Prop := vp_in x1 4 ∧ (((0 ≤ (u 228 x1.toNatClampNeg)) → (pb_Mo_hostTakes_10  K u x1)) ∧ (¬ (0 ≤ (u 228 x1.toNatClampNeg)) → (pb_Mo_hostTakes_9  K u )))
set_option maxHeartbeats 1000000 in
theorem pt_Mo_hostTakes_0 {g : pj_G} {b : Nat} (C : pj_X g c_Mo_hostTakes 3 R_Mo none rm_Mo_hostTakes) {K : pj_M → Prop} (hE : pj_E g b (pj_Kv K))   {u : pj_M} {x1 : Int32}   (h : pb_Mo_hostTakes_0  K u x1) : pj_J g (pj_N g b u) 0 [some (.ref (b + 217)), some (.int x1), none] [] := by
  unfold pb_Mo_hostTakes_0 at h
  refine pj_aload_n C d_Mo_hostTakes_0 (pc' := 1) (i := 0) (x := b + 217) rfl rfl rfl ?_
  refine fg_Model_41_Model C tk_217 d_Mo_hostTakes_1 (pc' := 4) rfl ?_
  refine pj_iload_n C d_Mo_hostTakes_4 (pc' := 5) (i := 1) (x := x1) rfl rfl rfl ?_
  refine pj_iald C (pj_lt tk_228 (by decide)) (fun E u => ka_23 tk_228) d_Mo_hostTakes_5 (pc' := 6) rfl h (fun h => ?_)
  refine pj_if_ge C d_Mo_hostTakes_6 (pc' := 9) rfl (tgt := 10) (by decide) h (fun h => ?_) (fun h => ?_)
  · exact pj_cut (pj_le_s (pj_le_s (pj_le_n pj_le_e))) (pt_Mo_hostTakes_10 C hE   h)
  · exact pj_cut (pj_le_n (pj_le_n (pj_le_n pj_le_e))) (pt_Mo_hostTakes_9 C hE   h)
def pw_Mo_hostTakes (u : pj_M) (x1 : Int32) (K : pj_M → Prop) : Prop := pb_Mo_hostTakes_0  K u x1
theorem pc_Mo_hostTakes (l : Launch) (D : va_G) (E : Nat → ClassId) {b : Nat} {u : pj_M} {x1 : Int32} {K : pj_M → Prop}  (h : pw_Mo_hostTakes u x1 K) : pj_C l y_Mo_hostTakes c_Mo_hostTakes 3 none rm_Mo_hostTakes D E b [.ref (b + 217), .int x1] u (pj_Kv K) := by
  refine pj_met (own := R_Mo) (by decide +kernel) rfl (Nat.le_of_ble_eq_true rfl) (fun g hE C => ?_)
  unfold pw_Mo_hostTakes at h
  show pj_J g (pj_N g b u) 0 [some (.ref (b + 217)), some (.int x1), none] []
  exact pj_cut (pj_le_s (pj_le_s (pj_le_n pj_le_e))) (pt_Mo_hostTakes_0 C hE   h)
/-! Model.power(IZ)Z -/
theorem fg_Model_74_Model {g : pj_G} {b : Nat} {cc : ByteArray} {nL : Nat} {ret : Option FieldType} {rm : Room} {u : pj_M} {pc pc' : Nat} {vs : List (Option Value)} {st : List Value} (C : pj_X g cc nL R_Mo ret rm) {i : Nat} (t : pj_T i = 11) (hdg : decode cc pc = .ok (.getfield 74, 3)) (hp : pc + 3 = pc') (kk : pj_J g (pj_N g b u) pc' vs (.ref (b + 239) :: st)) : pj_J g (pj_N g b u) pc vs (.ref (b + i) :: st) :=
  pj_get C cl_Model hin_Model (k := 30) (Nat.le_of_ble_eq_true rfl) wm_1154 (Or.inl rfl) (pj_lt t (by decide)) (fun E => ko_11 t) rfl hdg hp kk
theorem fg_Model_83_Model {g : pj_G} {b : Nat} {cc : ByteArray} {nL : Nat} {ret : Option FieldType} {rm : Room} {u : pj_M} {pc pc' : Nat} {vs : List (Option Value)} {st : List Value} (C : pj_X g cc nL R_Mo ret rm) {i : Nat} (t : pj_T i = 11) (hdg : decode cc pc = .ok (.getfield 83, 3)) (hp : pc + 3 = pc') (kk : pj_J g (pj_N g b u) pc' vs (.ref (b + 242) :: st)) : pj_J g (pj_N g b u) pc vs (.ref (b + i) :: st) :=
  pj_get C cl_Model hin_Model (k := 33) (Nat.le_of_ble_eq_true rfl) wm_1157 (Or.inl rfl) (pj_lt t (by decide)) (fun E => ko_11 t) rfl hdg hp kk
theorem fg_Model_110_Model {g : pj_G} {b : Nat} {cc : ByteArray} {nL : Nat} {ret : Option FieldType} {rm : Room} {u : pj_M} {pc pc' : Nat} {vs : List (Option Value)} {st : List Value} (C : pj_X g cc nL R_Mo ret rm) {i : Nat} (t : pj_T i = 11) (hdg : decode cc pc = .ok (.getfield 110, 3)) (hp : pc + 3 = pc') (kk : pj_J g (pj_N g b u) pc' vs (.ref (b + 251) :: st)) : pj_J g (pj_N g b u) pc vs (.ref (b + i) :: st) :=
  pj_get C cl_Model hin_Model (k := 42) (Nat.le_of_ble_eq_true rfl) wm_1166 (Or.inl rfl) (pj_lt t (by decide)) (fun E => ko_11 t) rfl hdg hp kk
def rm_Mo_power : Room := { frames := 0, cells := 0, slots := 0, locals := 0 }
def pb_Mo_power_19  (K : Int32 → pj_M → Prop) (u : pj_M)  : Prop := K 0 u
set_option maxHeartbeats 1000000 in
theorem pt_Mo_power_19 {g : pj_G} {b : Nat} (C : pj_X g c_Mo_power 3 R_Mo (some .boolean) rm_Mo_power) {K : Int32 → pj_M → Prop} (hE : pj_E g b (pj_Ki K))   {u : pj_M}    (h : pb_Mo_power_19  K u ) : pj_J g (pj_N g b u) 19 [none, none, none] [] := by
  unfold pb_Mo_power_19 at h
  refine pj_iconst C d_Mo_power_19 (pc' := 20) rfl (v := 0) (by decide) ?_
  exact pj_zret C hE d_Mo_power_20 pj_bi0 ⟨_, rfl, h⟩
def pb_Mo_power_35  (K : Int32 → pj_M → Prop) (u : pj_M) (x1 : Int32) (s0 : Int32) (s1 : Int32) : Prop := vp_in s1 2 ∧ pj_put u 239 s1.toNatClampNeg (vp_nar .boolean s0) fun u1 => (vp_in x1 2 ∧ pj_put u1 242 x1.toNatClampNeg 0 fun u2 => (vp_in x1 2 ∧ pj_put u2 251 x1.toNatClampNeg 0 fun u3 => (K 1 u3)))
set_option maxHeartbeats 1000000 in
theorem pt_Mo_power_35 {g : pj_G} {b : Nat} (C : pj_X g c_Mo_power 3 R_Mo (some .boolean) rm_Mo_power) {K : Int32 → pj_M → Prop} (hE : pj_E g b (pj_Ki K))   {u : pj_M} {x1 : Int32} {s0 : Int32} {s1 : Int32}   (h : pb_Mo_power_35  K u x1 s0 s1) : pj_J g (pj_N g b u) 35 [some (.ref (b + 217)), some (.int x1), none] [.int s0, .int s1, .ref (b + 239)] := by
  unfold pb_Mo_power_35 at h
  refine pj_zast C (pj_lt tk_239 (by decide)) (fun E u => ka_32 tk_239) d_Mo_power_35 (pc' := 36) rfl h (fun u1 h => ?_)
  refine pj_aload_n C d_Mo_power_36 (pc' := 37) (i := 0) (x := b + 217) rfl rfl rfl ?_
  refine fg_Model_83_Model C tk_217 d_Mo_power_37 (pc' := 40) rfl ?_
  refine pj_iload_n C d_Mo_power_40 (pc' := 41) (i := 1) (x := x1) rfl rfl rfl ?_
  refine pj_iconst C d_Mo_power_41 (pc' := 42) rfl (v := 0) (by decide) ?_
  refine pj_iast C (pj_lt tk_242 (by decide)) (fun E u => ka_33 tk_242) d_Mo_power_42 (pc' := 43) rfl h (fun u2 h => ?_)
  refine pj_aload_n C d_Mo_power_43 (pc' := 44) (i := 0) (x := b + 217) rfl rfl rfl ?_
  refine fg_Model_110_Model C tk_217 d_Mo_power_44 (pc' := 47) rfl ?_
  refine pj_iload_n C d_Mo_power_47 (pc' := 48) (i := 1) (x := x1) rfl rfl rfl ?_
  refine pj_iconst C d_Mo_power_48 (pc' := 49) rfl (v := 0) (by decide) ?_
  refine pj_iast C (pj_lt tk_251 (by decide)) (fun E u => ka_33 tk_251) d_Mo_power_49 (pc' := 50) rfl h (fun u3 h => ?_)
  refine pj_iconst C d_Mo_power_50 (pc' := 51) rfl (v := 1) (by decide) ?_
  exact pj_zret C hE d_Mo_power_51 pj_bi1 ⟨_, rfl, h⟩
def pb_Mo_power_34  (K : Int32 → pj_M → Prop) (u : pj_M) (x1 : Int32) (s0 : Int32) : Prop := pb_Mo_power_35  K u x1 0 s0
set_option maxHeartbeats 1000000 in
theorem pt_Mo_power_34 {g : pj_G} {b : Nat} (C : pj_X g c_Mo_power 3 R_Mo (some .boolean) rm_Mo_power) {K : Int32 → pj_M → Prop} (hE : pj_E g b (pj_Ki K))   {u : pj_M} {x1 : Int32} {s0 : Int32}   (h : pb_Mo_power_34  K u x1 s0) : pj_J g (pj_N g b u) 34 [some (.ref (b + 217)), some (.int x1), none] [.int s0, .ref (b + 239)] := by
  unfold pb_Mo_power_34 at h
  refine pj_iconst C d_Mo_power_34 (pc' := 35) rfl (v := 0) (by decide) ?_
  exact pj_cut (pj_le_s (pj_le_s (pj_le_n pj_le_e))) (pt_Mo_power_35 C hE   h)
def pb_Mo_power_30  (K : Int32 → pj_M → Prop) (u : pj_M) (x1 : Int32) (s0 : Int32) : Prop := pb_Mo_power_35  K u x1 1 s0
set_option maxHeartbeats 1000000 in
theorem pt_Mo_power_30 {g : pj_G} {b : Nat} (C : pj_X g c_Mo_power 3 R_Mo (some .boolean) rm_Mo_power) {K : Int32 → pj_M → Prop} (hE : pj_E g b (pj_Ki K))   {u : pj_M} {x1 : Int32} {s0 : Int32}   (h : pb_Mo_power_30  K u x1 s0) : pj_J g (pj_N g b u) 30 [some (.ref (b + 217)), some (.int x1), none] [.int s0, .ref (b + 239)] := by
  unfold pb_Mo_power_30 at h
  refine pj_iconst C d_Mo_power_30 (pc' := 31) rfl (v := 1) (by decide) ?_
  refine pj_goto C d_Mo_power_31 (tgt := 35) (by decide) ?_
  exact pj_cut (pj_le_s (pj_le_s (pj_le_n pj_le_e))) (pt_Mo_power_35 C hE   h)
def pb_Mo_power_21  (K : Int32 → pj_M → Prop) (u : pj_M) (x1 : Int32) (x2 : Int32) : Prop := ((x2 = 0) → (pb_Mo_power_30  K u x1 x1)) ∧ (¬ (x2 = 0) → (pb_Mo_power_34  K u x1 x1))
set_option maxHeartbeats 1000000 in
theorem pt_Mo_power_21 {g : pj_G} {b : Nat} (C : pj_X g c_Mo_power 3 R_Mo (some .boolean) rm_Mo_power) {K : Int32 → pj_M → Prop} (hE : pj_E g b (pj_Ki K))   {u : pj_M} {x1 : Int32} {x2 : Int32}   (h : pb_Mo_power_21  K u x1 x2) : pj_J g (pj_N g b u) 21 [some (.ref (b + 217)), some (.int x1), some (.int x2)] [] := by
  unfold pb_Mo_power_21 at h
  refine pj_aload_n C d_Mo_power_21 (pc' := 22) (i := 0) (x := b + 217) rfl rfl rfl ?_
  refine fg_Model_74_Model C tk_217 d_Mo_power_22 (pc' := 25) rfl ?_
  refine pj_iload_n C d_Mo_power_25 (pc' := 26) (i := 1) (x := x1) rfl rfl rfl ?_
  refine pj_iload_n C d_Mo_power_26 (pc' := 27) (i := 2) (x := x2) rfl rfl rfl ?_
  refine pj_if_ne C d_Mo_power_27 (pc' := 30) rfl (tgt := 34) (by decide) h (fun h => ?_) (fun h => ?_)
  · exact pj_cut (pj_le_s (pj_le_s (pj_le_n pj_le_e))) (pt_Mo_power_34 C hE   h)
  · exact pj_cut (pj_le_s (pj_le_s (pj_le_n pj_le_e))) (pt_Mo_power_30 C hE   h)
def pb_Mo_power_9  (K : Int32 → pj_M → Prop) (u : pj_M) (x1 : Int32) (x2 : Int32) : Prop := vp_in x1 2 ∧ ((((u 239 x1.toNatClampNeg) = x2) → (pb_Mo_power_21  K u x1 x2)) ∧ (¬ ((u 239 x1.toNatClampNeg) = x2) → (pb_Mo_power_19  K u )))
set_option maxHeartbeats 1000000 in
theorem pt_Mo_power_9 {g : pj_G} {b : Nat} (C : pj_X g c_Mo_power 3 R_Mo (some .boolean) rm_Mo_power) {K : Int32 → pj_M → Prop} (hE : pj_E g b (pj_Ki K))   {u : pj_M} {x1 : Int32} {x2 : Int32}   (h : pb_Mo_power_9  K u x1 x2) : pj_J g (pj_N g b u) 9 [some (.ref (b + 217)), some (.int x1), some (.int x2)] [] := by
  unfold pb_Mo_power_9 at h
  refine pj_aload_n C d_Mo_power_9 (pc' := 10) (i := 0) (x := b + 217) rfl rfl rfl ?_
  refine fg_Model_74_Model C tk_217 d_Mo_power_10 (pc' := 13) rfl ?_
  refine pj_iload_n C d_Mo_power_13 (pc' := 14) (i := 1) (x := x1) rfl rfl rfl ?_
  refine pj_zald C (pj_lt tk_239 (by decide)) (fun E u => ka_32 tk_239) d_Mo_power_14 (pc' := 15) rfl h (fun h => ?_)
  refine pj_iload_n C d_Mo_power_15 (pc' := 16) (i := 2) (x := x2) rfl rfl rfl ?_
  refine pj_icmp_eq C d_Mo_power_16 (pc' := 19) rfl (tgt := 21) (by decide) h (fun h => ?_) (fun h => ?_)
  · exact pj_cut (pj_le_s (pj_le_s (pj_le_s pj_le_e))) (pt_Mo_power_21 C hE   h)
  · exact pj_cut (pj_le_n (pj_le_n (pj_le_n pj_le_e))) (pt_Mo_power_19 C hE   h)
def pb_Mo_power_4  (K : Int32 → pj_M → Prop) (u : pj_M) (x1 : Int32) (x2 : Int32) : Prop := ((1 < x1) → (pb_Mo_power_19  K u )) ∧ (¬ (1 < x1) → (pb_Mo_power_9  K u x1 x2))
set_option maxHeartbeats 1000000 in
theorem pt_Mo_power_4 {g : pj_G} {b : Nat} (C : pj_X g c_Mo_power 3 R_Mo (some .boolean) rm_Mo_power) {K : Int32 → pj_M → Prop} (hE : pj_E g b (pj_Ki K))   {u : pj_M} {x1 : Int32} {x2 : Int32}   (h : pb_Mo_power_4  K u x1 x2) : pj_J g (pj_N g b u) 4 [some (.ref (b + 217)), some (.int x1), some (.int x2)] [] := by
  unfold pb_Mo_power_4 at h
  refine pj_iload_n C d_Mo_power_4 (pc' := 5) (i := 1) (x := x1) rfl rfl rfl ?_
  refine pj_iconst C d_Mo_power_5 (pc' := 6) rfl (v := 1) (by decide) ?_
  refine pj_icmp_gt C d_Mo_power_6 (pc' := 9) rfl (tgt := 19) (by decide) h (fun h => ?_) (fun h => ?_)
  · exact pj_cut (pj_le_n (pj_le_n (pj_le_n pj_le_e))) (pt_Mo_power_19 C hE   h)
  · exact pj_cut (pj_le_s (pj_le_s (pj_le_s pj_le_e))) (pt_Mo_power_9 C hE   h)
def pb_Mo_power_0  (K : Int32 → pj_M → Prop) (u : pj_M) (x1 : Int32) (x2 : Int32) : Prop := ((x1 < 0) → (pb_Mo_power_19  K u )) ∧ (¬ (x1 < 0) → (pb_Mo_power_4  K u x1 x2))
set_option maxHeartbeats 1000000 in
theorem pt_Mo_power_0 {g : pj_G} {b : Nat} (C : pj_X g c_Mo_power 3 R_Mo (some .boolean) rm_Mo_power) {K : Int32 → pj_M → Prop} (hE : pj_E g b (pj_Ki K))   {u : pj_M} {x1 : Int32} {x2 : Int32}   (h : pb_Mo_power_0  K u x1 x2) : pj_J g (pj_N g b u) 0 [some (.ref (b + 217)), some (.int x1), some (.int x2)] [] := by
  unfold pb_Mo_power_0 at h
  refine pj_iload_n C d_Mo_power_0 (pc' := 1) (i := 1) (x := x1) rfl rfl rfl ?_
  refine pj_if_lt C d_Mo_power_1 (pc' := 4) rfl (tgt := 19) (by decide) h (fun h => ?_) (fun h => ?_)
  · exact pj_cut (pj_le_n (pj_le_n (pj_le_n pj_le_e))) (pt_Mo_power_19 C hE   h)
  · exact pj_cut (pj_le_s (pj_le_s (pj_le_s pj_le_e))) (pt_Mo_power_4 C hE   h)
def pw_Mo_power (u : pj_M) (x1 : Int32) (x2 : Int32) (K : Int32 → pj_M → Prop) : Prop := pb_Mo_power_0  K u x1 x2
theorem pc_Mo_power (l : Launch) (D : va_G) (E : Nat → ClassId) {b : Nat} {u : pj_M} {x1 : Int32} {x2 : Int32} {K : Int32 → pj_M → Prop}  (h : pw_Mo_power u x1 x2 K) : pj_C l y_Mo_power c_Mo_power 3 (some .boolean) rm_Mo_power D E b [.ref (b + 217), .int x1, .int x2] u (pj_Ki K) := by
  refine pj_met (own := R_Mo) (by decide +kernel) rfl (Nat.le_of_ble_eq_true rfl) (fun g hE C => ?_)
  unfold pw_Mo_power at h
  show pj_J g (pj_N g b u) 0 [some (.ref (b + 217)), some (.int x1), some (.int x2)] []
  exact pj_cut (pj_le_s (pj_le_s (pj_le_s pj_le_e))) (pt_Mo_power_0 C hE   h)
/-! Model.sessionOf(II)I -/
theorem fg_Model_86_Model {g : pj_G} {b : Nat} {cc : ByteArray} {nL : Nat} {ret : Option FieldType} {rm : Room} {u : pj_M} {pc pc' : Nat} {vs : List (Option Value)} {st : List Value} (C : pj_X g cc nL R_Mo ret rm) {i : Nat} (t : pj_T i = 11) (hdg : decode cc pc = .ok (.getfield 86, 3)) (hp : pc + 3 = pc') (kk : pj_J g (pj_N g b u) pc' vs (.ref (b + 243) :: st)) : pj_J g (pj_N g b u) pc vs (.ref (b + i) :: st) :=
  pj_get C cl_Model hin_Model (k := 34) (Nat.le_of_ble_eq_true rfl) wm_1158 (Or.inl rfl) (pj_lt t (by decide)) (fun E => ko_11 t) rfl hdg hp kk
def rm_Mo_sessionOf : Room := { frames := 0, cells := 0, slots := 0, locals := 0 }
def pb_Mo_sessionOf_36  (K : Int32 → pj_M → Prop) (u : pj_M)  : Prop := K ((-1)) u
set_option maxHeartbeats 1000000 in
theorem pt_Mo_sessionOf_36 {g : pj_G} {b : Nat} (C : pj_X g c_Mo_sessionOf 4 R_Mo (some .int) rm_Mo_sessionOf) {K : Int32 → pj_M → Prop} (hE : pj_E g b (pj_Ki K))   {u : pj_M}    (h : pb_Mo_sessionOf_36  K u ) : pj_J g (pj_N g b u) 36 [none, none, none, none] [] := by
  unfold pb_Mo_sessionOf_36 at h
  refine pj_iconst C d_Mo_sessionOf_36 (pc' := 37) rfl (v := (-1)) (by decide) ?_
  exact pj_iret C hE d_Mo_sessionOf_37 ⟨_, rfl, h⟩
def pb_Mo_sessionOf_30 (R4 : pj_M → Int32 → Prop) (K : Int32 → pj_M → Prop) (u : pj_M) (x1 : Int32) (x2 : Int32) (x3 : Int32) : Prop := R4 u (x3 + 1)
set_option maxHeartbeats 1000000 in
theorem pt_Mo_sessionOf_30 {g : pj_G} {b : Nat} (C : pj_X g c_Mo_sessionOf 4 R_Mo (some .int) rm_Mo_sessionOf) {K : Int32 → pj_M → Prop} (hE : pj_E g b (pj_Ki K)) {R4 : pj_M → Int32 → Prop}  {u : pj_M} {x1 : Int32} {x2 : Int32} {x3 : Int32} (hR4 : ∀ (u : pj_M) (x3 : Int32), R4 u x3 → pj_J g (pj_N g b u) 4 [some (.ref (b + 217)), some (.int x1), some (.int x2), some (.int x3)] [])  (h : pb_Mo_sessionOf_30 R4 K u x1 x2 x3) : pj_J g (pj_N g b u) 30 [some (.ref (b + 217)), some (.int x1), some (.int x2), some (.int x3)] [] := by
  unfold pb_Mo_sessionOf_30 at h
  refine pj_iinc C d_Mo_sessionOf_30 (pc' := 33) (x := x3) (d := 1) (vs' := [some (.ref (b + 217)), some (.int x1), some (.int x2), some (.int (x3 + 1))]) rfl rfl (Nat.le_of_ble_eq_true rfl) rfl (by decide) rfl ?_
  refine pj_goto C d_Mo_sessionOf_33 (tgt := 4) (by decide) ?_
  exact pj_cut (pj_le_s (pj_le_s (pj_le_s (pj_le_s pj_le_e)))) (hR4 _ _ h)
def pb_Mo_sessionOf_28  (K : Int32 → pj_M → Prop) (u : pj_M) (x3 : Int32) : Prop := K x3 u
set_option maxHeartbeats 1000000 in
theorem pt_Mo_sessionOf_28 {g : pj_G} {b : Nat} (C : pj_X g c_Mo_sessionOf 4 R_Mo (some .int) rm_Mo_sessionOf) {K : Int32 → pj_M → Prop} (hE : pj_E g b (pj_Ki K))   {u : pj_M} {x3 : Int32}   (h : pb_Mo_sessionOf_28  K u x3) : pj_J g (pj_N g b u) 28 [none, none, none, some (.int x3)] [] := by
  unfold pb_Mo_sessionOf_28 at h
  refine pj_iload_n C d_Mo_sessionOf_28 (pc' := 29) (i := 3) (x := x3) rfl rfl rfl ?_
  exact pj_iret C hE d_Mo_sessionOf_29 ⟨_, rfl, h⟩
def pb_Mo_sessionOf_18 (R4 : pj_M → Int32 → Prop) (K : Int32 → pj_M → Prop) (u : pj_M) (x1 : Int32) (x2 : Int32) (x3 : Int32) : Prop := vp_in x3 8 ∧ ((((u 243 x3.toNatClampNeg) = x2) → (pb_Mo_sessionOf_28  K u x3)) ∧ (¬ ((u 243 x3.toNatClampNeg) = x2) → (pb_Mo_sessionOf_30 R4 K u x1 x2 x3)))
set_option maxHeartbeats 1000000 in
theorem pt_Mo_sessionOf_18 {g : pj_G} {b : Nat} (C : pj_X g c_Mo_sessionOf 4 R_Mo (some .int) rm_Mo_sessionOf) {K : Int32 → pj_M → Prop} (hE : pj_E g b (pj_Ki K)) {R4 : pj_M → Int32 → Prop}  {u : pj_M} {x1 : Int32} {x2 : Int32} {x3 : Int32} (hR4 : ∀ (u : pj_M) (x3 : Int32), R4 u x3 → pj_J g (pj_N g b u) 4 [some (.ref (b + 217)), some (.int x1), some (.int x2), some (.int x3)] [])  (h : pb_Mo_sessionOf_18 R4 K u x1 x2 x3) : pj_J g (pj_N g b u) 18 [some (.ref (b + 217)), some (.int x1), some (.int x2), some (.int x3)] [] := by
  unfold pb_Mo_sessionOf_18 at h
  refine pj_aload_n C d_Mo_sessionOf_18 (pc' := 19) (i := 0) (x := b + 217) rfl rfl rfl ?_
  refine fg_Model_86_Model C tk_217 d_Mo_sessionOf_19 (pc' := 22) rfl ?_
  refine pj_iload_n C d_Mo_sessionOf_22 (pc' := 23) (i := 3) (x := x3) rfl rfl rfl ?_
  refine pj_iald C (pj_lt tk_243 (by decide)) (fun E u => ka_20 tk_243) d_Mo_sessionOf_23 (pc' := 24) rfl h (fun h => ?_)
  refine pj_iload_n C d_Mo_sessionOf_24 (pc' := 25) (i := 2) (x := x2) rfl rfl rfl ?_
  refine pj_icmp_ne C d_Mo_sessionOf_25 (pc' := 28) rfl (tgt := 30) (by decide) h (fun h => ?_) (fun h => ?_)
  · exact pj_cut (pj_le_s (pj_le_s (pj_le_s (pj_le_s pj_le_e)))) (pt_Mo_sessionOf_30 C hE hR4  h)
  · exact pj_cut (pj_le_n (pj_le_n (pj_le_n (pj_le_s pj_le_e)))) (pt_Mo_sessionOf_28 C hE   h)
def pb_Mo_sessionOf_4b (R4 : pj_M → Int32 → Prop) (K : Int32 → pj_M → Prop) (u : pj_M) (x1 : Int32) (x2 : Int32) (x3 : Int32) : Prop := vp_in x1 2 ∧ (((((4 * x1) + (u 242 x1.toNatClampNeg)) ≤ x3) → (pb_Mo_sessionOf_36  K u )) ∧ (¬ (((4 * x1) + (u 242 x1.toNatClampNeg)) ≤ x3) → (pb_Mo_sessionOf_18 R4 K u x1 x2 x3)))
set_option maxHeartbeats 1000000 in
theorem pt_Mo_sessionOf_4b {g : pj_G} {b : Nat} (C : pj_X g c_Mo_sessionOf 4 R_Mo (some .int) rm_Mo_sessionOf) {K : Int32 → pj_M → Prop} (hE : pj_E g b (pj_Ki K)) {R4 : pj_M → Int32 → Prop}  {u : pj_M} {x1 : Int32} {x2 : Int32} {x3 : Int32} (hR4 : ∀ (u : pj_M) (x3 : Int32), R4 u x3 → pj_J g (pj_N g b u) 4 [some (.ref (b + 217)), some (.int x1), some (.int x2), some (.int x3)] [])  (h : pb_Mo_sessionOf_4b R4 K u x1 x2 x3) : pj_J g (pj_N g b u) 4 [some (.ref (b + 217)), some (.int x1), some (.int x2), some (.int x3)] [] := by
  unfold pb_Mo_sessionOf_4b at h
  refine pj_iload_n C d_Mo_sessionOf_4 (pc' := 5) (i := 3) (x := x3) rfl rfl rfl ?_
  refine pj_iconst C d_Mo_sessionOf_5 (pc' := 6) rfl (v := 4) (by decide) ?_
  refine pj_iload_n C d_Mo_sessionOf_6 (pc' := 7) (i := 1) (x := x1) rfl rfl rfl ?_
  refine pj_imul C d_Mo_sessionOf_7 (pc' := 8) rfl ?_
  refine pj_aload_n C d_Mo_sessionOf_8 (pc' := 9) (i := 0) (x := b + 217) rfl rfl rfl ?_
  refine fg_Model_83_Model C tk_217 d_Mo_sessionOf_9 (pc' := 12) rfl ?_
  refine pj_iload_n C d_Mo_sessionOf_12 (pc' := 13) (i := 1) (x := x1) rfl rfl rfl ?_
  refine pj_iald C (pj_lt tk_242 (by decide)) (fun E u => ka_33 tk_242) d_Mo_sessionOf_13 (pc' := 14) rfl h (fun h => ?_)
  refine pj_iadd C d_Mo_sessionOf_14 (pc' := 15) rfl ?_
  refine pj_icmp_ge C d_Mo_sessionOf_15 (pc' := 18) rfl (tgt := 36) (by decide) h (fun h => ?_) (fun h => ?_)
  · exact pj_cut (pj_le_n (pj_le_n (pj_le_n (pj_le_n pj_le_e)))) (pt_Mo_sessionOf_36 C hE   h)
  · exact pj_cut (pj_le_s (pj_le_s (pj_le_s (pj_le_s pj_le_e)))) (pt_Mo_sessionOf_18 C hE hR4  h)
def pb_Mo_sessionOf_4  (K : Int32 → pj_M → Prop) (x1 : Int32) (x2 : Int32) : Nat → pj_M → Int32 → Prop
  | 0 => fun _ _ => False
  | n + 1 => fun u x3 => pb_Mo_sessionOf_4b (pb_Mo_sessionOf_4  K x1 x2 n) K u x1 x2 x3
theorem pt_Mo_sessionOf_4 {g : pj_G} {b : Nat} (C : pj_X g c_Mo_sessionOf 4 R_Mo (some .int) rm_Mo_sessionOf) {K : Int32 → pj_M → Prop} (hE : pj_E g b (pj_Ki K))  {x1 : Int32} {x2 : Int32}   : ∀ (n : Nat) (u : pj_M) (x3 : Int32), pb_Mo_sessionOf_4  K x1 x2 n u x3 → pj_J g (pj_N g b u) 4 [some (.ref (b + 217)), some (.int x1), some (.int x2), some (.int x3)] [] := by
  intro n
  induction n with
  | zero => intro u x3 h; exact False.elim h
  | succ n ih =>
    intro u x3 h
    exact (pt_Mo_sessionOf_4b C hE ih  h)
def pb_Mo_sessionOf_0  (K : Int32 → pj_M → Prop) (u : pj_M) (x1 : Int32) (x2 : Int32) : Prop := pj_let (4 * x1) fun y1 => (∃ n, pb_Mo_sessionOf_4  K x1 x2 n u y1)
set_option maxHeartbeats 1000000 in
theorem pt_Mo_sessionOf_0 {g : pj_G} {b : Nat} (C : pj_X g c_Mo_sessionOf 4 R_Mo (some .int) rm_Mo_sessionOf) {K : Int32 → pj_M → Prop} (hE : pj_E g b (pj_Ki K))   {u : pj_M} {x1 : Int32} {x2 : Int32}   (h : pb_Mo_sessionOf_0  K u x1 x2) : pj_J g (pj_N g b u) 0 [some (.ref (b + 217)), some (.int x1), some (.int x2), none] [] := by
  unfold pb_Mo_sessionOf_0 at h
  refine pj_iconst C d_Mo_sessionOf_0 (pc' := 1) rfl (v := 4) (by decide) ?_
  refine pj_iload_n C d_Mo_sessionOf_1 (pc' := 2) (i := 1) (x := x1) rfl rfl rfl ?_
  refine pj_imul C d_Mo_sessionOf_2 (pc' := 3) rfl ?_
  refine pj_name h (fun y1 h => ?_)
  refine pj_istore_n C d_Mo_sessionOf_3 (pc' := 4) (i := 3) (vs' := [some (.ref (b + 217)), some (.int x1), some (.int x2), some (.int y1)]) rfl rfl (Nat.le_of_ble_eq_true rfl) (Nat.le_of_ble_eq_true rfl) rfl rfl ?_
  obtain ⟨n, h⟩ := h
  exact pj_cut (pj_le_s (pj_le_s (pj_le_s (pj_le_s pj_le_e)))) (pt_Mo_sessionOf_4 C hE   n _ _ h)
def pw_Mo_sessionOf (u : pj_M) (x1 : Int32) (x2 : Int32) (K : Int32 → pj_M → Prop) : Prop := pb_Mo_sessionOf_0  K u x1 x2
theorem pc_Mo_sessionOf (l : Launch) (D : va_G) (E : Nat → ClassId) {b : Nat} {u : pj_M} {x1 : Int32} {x2 : Int32} {K : Int32 → pj_M → Prop}  (h : pw_Mo_sessionOf u x1 x2 K) : pj_C l y_Mo_sessionOf c_Mo_sessionOf 4 (some .int) rm_Mo_sessionOf D E b [.ref (b + 217), .int x1, .int x2] u (pj_Ki K) := by
  refine pj_met (own := R_Mo) (by decide +kernel) rfl (Nat.le_of_ble_eq_true rfl) (fun g hE C => ?_)
  unfold pw_Mo_sessionOf at h
  show pj_J g (pj_N g b u) 0 [some (.ref (b + 217)), some (.int x1), some (.int x2), none] []
  exact pj_cut (pj_le_s (pj_le_s (pj_le_s (pj_le_n pj_le_e)))) (pt_Mo_sessionOf_0 C hE   h)
/-! Model.endSession(II)V -/
theorem fg_Model_89_Model {g : pj_G} {b : Nat} {cc : ByteArray} {nL : Nat} {ret : Option FieldType} {rm : Room} {u : pj_M} {pc pc' : Nat} {vs : List (Option Value)} {st : List Value} (C : pj_X g cc nL R_Mo ret rm) {i : Nat} (t : pj_T i = 11) (hdg : decode cc pc = .ok (.getfield 89, 3)) (hp : pc + 3 = pc') (kk : pj_J g (pj_N g b u) pc' vs (.ref (b + 244) :: st)) : pj_J g (pj_N g b u) pc vs (.ref (b + i) :: st) :=
  pj_get C cl_Model hin_Model (k := 35) (Nat.le_of_ble_eq_true rfl) wm_1159 (Or.inl rfl) (pj_lt t (by decide)) (fun E => ko_11 t) rfl hdg hp kk
theorem fg_Model_92_Model {g : pj_G} {b : Nat} {cc : ByteArray} {nL : Nat} {ret : Option FieldType} {rm : Room} {u : pj_M} {pc pc' : Nat} {vs : List (Option Value)} {st : List Value} (C : pj_X g cc nL R_Mo ret rm) {i : Nat} (t : pj_T i = 11) (hdg : decode cc pc = .ok (.getfield 92, 3)) (hp : pc + 3 = pc') (kk : pj_J g (pj_N g b u) pc' vs (.ref (b + 245) :: st)) : pj_J g (pj_N g b u) pc vs (.ref (b + i) :: st) :=
  pj_get C cl_Model hin_Model (k := 36) (Nat.le_of_ble_eq_true rfl) wm_1160 (Or.inl rfl) (pj_lt t (by decide)) (fun E => ko_11 t) rfl hdg hp kk
theorem fg_Model_95_Model {g : pj_G} {b : Nat} {cc : ByteArray} {nL : Nat} {ret : Option FieldType} {rm : Room} {u : pj_M} {pc pc' : Nat} {vs : List (Option Value)} {st : List Value} (C : pj_X g cc nL R_Mo ret rm) {i : Nat} (t : pj_T i = 11) (hdg : decode cc pc = .ok (.getfield 95, 3)) (hp : pc + 3 = pc') (kk : pj_J g (pj_N g b u) pc' vs (.ref (b + 246) :: st)) : pj_J g (pj_N g b u) pc vs (.ref (b + i) :: st) :=
  pj_get C cl_Model hin_Model (k := 37) (Nat.le_of_ble_eq_true rfl) wm_1161 (Or.inl rfl) (pj_lt t (by decide)) (fun E => ko_11 t) rfl hdg hp kk
theorem fg_Model_98_Model {g : pj_G} {b : Nat} {cc : ByteArray} {nL : Nat} {ret : Option FieldType} {rm : Room} {u : pj_M} {pc pc' : Nat} {vs : List (Option Value)} {st : List Value} (C : pj_X g cc nL R_Mo ret rm) {i : Nat} (t : pj_T i = 11) (hdg : decode cc pc = .ok (.getfield 98, 3)) (hp : pc + 3 = pc') (kk : pj_J g (pj_N g b u) pc' vs (.ref (b + 247) :: st)) : pj_J g (pj_N g b u) pc vs (.ref (b + i) :: st) :=
  pj_get C cl_Model hin_Model (k := 38) (Nat.le_of_ble_eq_true rfl) wm_1162 (Or.inl rfl) (pj_lt t (by decide)) (fun E => ko_11 t) rfl hdg hp kk
theorem fg_Model_101_Model {g : pj_G} {b : Nat} {cc : ByteArray} {nL : Nat} {ret : Option FieldType} {rm : Room} {u : pj_M} {pc pc' : Nat} {vs : List (Option Value)} {st : List Value} (C : pj_X g cc nL R_Mo ret rm) {i : Nat} (t : pj_T i = 11) (hdg : decode cc pc = .ok (.getfield 101, 3)) (hp : pc + 3 = pc') (kk : pj_J g (pj_N g b u) pc' vs (.ref (b + 248) :: st)) : pj_J g (pj_N g b u) pc vs (.ref (b + i) :: st) :=
  pj_get C cl_Model hin_Model (k := 39) (Nat.le_of_ble_eq_true rfl) wm_1163 (Or.inl rfl) (pj_lt t (by decide)) (fun E => ko_11 t) rfl hdg hp kk
theorem fg_Model_104_Model {g : pj_G} {b : Nat} {cc : ByteArray} {nL : Nat} {ret : Option FieldType} {rm : Room} {u : pj_M} {pc pc' : Nat} {vs : List (Option Value)} {st : List Value} (C : pj_X g cc nL R_Mo ret rm) {i : Nat} (t : pj_T i = 11) (hdg : decode cc pc = .ok (.getfield 104, 3)) (hp : pc + 3 = pc') (kk : pj_J g (pj_N g b u) pc' vs (.ref (b + 249) :: st)) : pj_J g (pj_N g b u) pc vs (.ref (b + i) :: st) :=
  pj_get C cl_Model hin_Model (k := 40) (Nat.le_of_ble_eq_true rfl) wm_1164 (Or.inl rfl) (pj_lt t (by decide)) (fun E => ko_11 t) rfl hdg hp kk
theorem fg_Model_107_Model {g : pj_G} {b : Nat} {cc : ByteArray} {nL : Nat} {ret : Option FieldType} {rm : Room} {u : pj_M} {pc pc' : Nat} {vs : List (Option Value)} {st : List Value} (C : pj_X g cc nL R_Mo ret rm) {i : Nat} (t : pj_T i = 11) (hdg : decode cc pc = .ok (.getfield 107, 3)) (hp : pc + 3 = pc') (kk : pj_J g (pj_N g b u) pc' vs (.ref (b + 250) :: st)) : pj_J g (pj_N g b u) pc vs (.ref (b + i) :: st) :=
  pj_get C cl_Model hin_Model (k := 41) (Nat.le_of_ble_eq_true rfl) wm_1165 (Or.inl rfl) (pj_lt t (by decide)) (fun E => ko_11 t) rfl hdg hp kk
def rm_Mo_endSession : Room := { frames := 0, cells := 0, slots := 0, locals := 0 }
def pb_Mo_endSession_144  (K : pj_M → Prop) (u : pj_M)  : Prop := K u
set_option maxHeartbeats 1000000 in
theorem pt_Mo_endSession_144 {g : pj_G} {b : Nat} (C : pj_X g c_Mo_endSession 4 R_Mo none rm_Mo_endSession) {K : pj_M → Prop} (hE : pj_E g b (pj_Kv K))   {u : pj_M}    (h : pb_Mo_endSession_144  K u ) : pj_J g (pj_N g b u) 144 [none, none, none, none] [] := by
  unfold pb_Mo_endSession_144 at h
  exact pj_vret C hE d_Mo_endSession_144 ⟨rfl, h⟩
def pb_Mo_endSession_26 (R12 : pj_M → Int32 → Prop) (K : pj_M → Prop) (u : pj_M) (x1 : Int32) (x3 : Int32) : Prop := vp_in (x3 + 1) 8 ∧ (vp_in x3 8 ∧ pj_put u 243 x3.toNatClampNeg (u 243 (x3 + 1).toNatClampNeg) fun u1 => (vp_in (x3 + 1) 8 ∧ (vp_in x3 8 ∧ pj_put u1 244 x3.toNatClampNeg (u1 244 (x3 + 1).toNatClampNeg) fun u2 => (vp_in (x3 + 1) 8 ∧ (vp_in x3 8 ∧ pj_put u2 245 x3.toNatClampNeg (u2 245 (x3 + 1).toNatClampNeg) fun u3 => (vp_in (x3 + 1) 8 ∧ (vp_in x3 8 ∧ pj_put u3 246 x3.toNatClampNeg (u3 246 (x3 + 1).toNatClampNeg) fun u4 => (vp_in (x3 + 1) 8 ∧ (vp_in x3 8 ∧ pj_put u4 247 x3.toNatClampNeg (u4 247 (x3 + 1).toNatClampNeg) fun u5 => (vp_in (x3 + 1) 8 ∧ (vp_in x3 8 ∧ pj_put u5 248 x3.toNatClampNeg (u5 248 (x3 + 1).toNatClampNeg) fun u6 => (vp_in (x3 + 1) 8 ∧ (vp_in x3 8 ∧ pj_put u6 249 x3.toNatClampNeg (vp_nar .boolean (u6 249 (x3 + 1).toNatClampNeg)) fun u7 => (vp_in (x3 + 1) 8 ∧ (vp_in x3 8 ∧ pj_put u7 250 x3.toNatClampNeg (u7 250 (x3 + 1).toNatClampNeg) fun u8 => (R12 u8 (x3 + 1)))))))))))))))))
set_option maxHeartbeats 1000000 in
theorem pt_Mo_endSession_26 {g : pj_G} {b : Nat} (C : pj_X g c_Mo_endSession 4 R_Mo none rm_Mo_endSession) {K : pj_M → Prop} (hE : pj_E g b (pj_Kv K)) {R12 : pj_M → Int32 → Prop}  {u : pj_M} {x1 : Int32} {x3 : Int32} (hR12 : ∀ (u : pj_M) (x3 : Int32), R12 u x3 → pj_J g (pj_N g b u) 12 [some (.ref (b + 217)), some (.int x1), none, some (.int x3)] [])  (h : pb_Mo_endSession_26 R12 K u x1 x3) : pj_J g (pj_N g b u) 26 [some (.ref (b + 217)), some (.int x1), none, some (.int x3)] [] := by
  unfold pb_Mo_endSession_26 at h
  refine pj_aload_n C d_Mo_endSession_26 (pc' := 27) (i := 0) (x := b + 217) rfl rfl rfl ?_
  refine fg_Model_86_Model C tk_217 d_Mo_endSession_27 (pc' := 30) rfl ?_
  refine pj_iload_n C d_Mo_endSession_30 (pc' := 31) (i := 3) (x := x3) rfl rfl rfl ?_
  refine pj_aload_n C d_Mo_endSession_31 (pc' := 32) (i := 0) (x := b + 217) rfl rfl rfl ?_
  refine fg_Model_86_Model C tk_217 d_Mo_endSession_32 (pc' := 35) rfl ?_
  refine pj_iload_n C d_Mo_endSession_35 (pc' := 36) (i := 3) (x := x3) rfl rfl rfl ?_
  refine pj_iconst C d_Mo_endSession_36 (pc' := 37) rfl (v := 1) (by decide) ?_
  refine pj_iadd C d_Mo_endSession_37 (pc' := 38) rfl ?_
  refine pj_iald C (pj_lt tk_243 (by decide)) (fun E u => ka_20 tk_243) d_Mo_endSession_38 (pc' := 39) rfl h (fun h => ?_)
  refine pj_iast C (pj_lt tk_243 (by decide)) (fun E u => ka_20 tk_243) d_Mo_endSession_39 (pc' := 40) rfl h (fun u1 h => ?_)
  refine pj_aload_n C d_Mo_endSession_40 (pc' := 41) (i := 0) (x := b + 217) rfl rfl rfl ?_
  refine fg_Model_89_Model C tk_217 d_Mo_endSession_41 (pc' := 44) rfl ?_
  refine pj_iload_n C d_Mo_endSession_44 (pc' := 45) (i := 3) (x := x3) rfl rfl rfl ?_
  refine pj_aload_n C d_Mo_endSession_45 (pc' := 46) (i := 0) (x := b + 217) rfl rfl rfl ?_
  refine fg_Model_89_Model C tk_217 d_Mo_endSession_46 (pc' := 49) rfl ?_
  refine pj_iload_n C d_Mo_endSession_49 (pc' := 50) (i := 3) (x := x3) rfl rfl rfl ?_
  refine pj_iconst C d_Mo_endSession_50 (pc' := 51) rfl (v := 1) (by decide) ?_
  refine pj_iadd C d_Mo_endSession_51 (pc' := 52) rfl ?_
  refine pj_iald C (pj_lt tk_244 (by decide)) (fun E u => ka_20 tk_244) d_Mo_endSession_52 (pc' := 53) rfl h (fun h => ?_)
  refine pj_iast C (pj_lt tk_244 (by decide)) (fun E u => ka_20 tk_244) d_Mo_endSession_53 (pc' := 54) rfl h (fun u2 h => ?_)
  refine pj_aload_n C d_Mo_endSession_54 (pc' := 55) (i := 0) (x := b + 217) rfl rfl rfl ?_
  refine fg_Model_92_Model C tk_217 d_Mo_endSession_55 (pc' := 58) rfl ?_
  refine pj_iload_n C d_Mo_endSession_58 (pc' := 59) (i := 3) (x := x3) rfl rfl rfl ?_
  refine pj_aload_n C d_Mo_endSession_59 (pc' := 60) (i := 0) (x := b + 217) rfl rfl rfl ?_
  refine fg_Model_92_Model C tk_217 d_Mo_endSession_60 (pc' := 63) rfl ?_
  refine pj_iload_n C d_Mo_endSession_63 (pc' := 64) (i := 3) (x := x3) rfl rfl rfl ?_
  refine pj_iconst C d_Mo_endSession_64 (pc' := 65) rfl (v := 1) (by decide) ?_
  refine pj_iadd C d_Mo_endSession_65 (pc' := 66) rfl ?_
  refine pj_iald C (pj_lt tk_245 (by decide)) (fun E u => ka_20 tk_245) d_Mo_endSession_66 (pc' := 67) rfl h (fun h => ?_)
  refine pj_iast C (pj_lt tk_245 (by decide)) (fun E u => ka_20 tk_245) d_Mo_endSession_67 (pc' := 68) rfl h (fun u3 h => ?_)
  refine pj_aload_n C d_Mo_endSession_68 (pc' := 69) (i := 0) (x := b + 217) rfl rfl rfl ?_
  refine fg_Model_95_Model C tk_217 d_Mo_endSession_69 (pc' := 72) rfl ?_
  refine pj_iload_n C d_Mo_endSession_72 (pc' := 73) (i := 3) (x := x3) rfl rfl rfl ?_
  refine pj_aload_n C d_Mo_endSession_73 (pc' := 74) (i := 0) (x := b + 217) rfl rfl rfl ?_
  refine fg_Model_95_Model C tk_217 d_Mo_endSession_74 (pc' := 77) rfl ?_
  refine pj_iload_n C d_Mo_endSession_77 (pc' := 78) (i := 3) (x := x3) rfl rfl rfl ?_
  refine pj_iconst C d_Mo_endSession_78 (pc' := 79) rfl (v := 1) (by decide) ?_
  refine pj_iadd C d_Mo_endSession_79 (pc' := 80) rfl ?_
  refine pj_iald C (pj_lt tk_246 (by decide)) (fun E u => ka_20 tk_246) d_Mo_endSession_80 (pc' := 81) rfl h (fun h => ?_)
  refine pj_iast C (pj_lt tk_246 (by decide)) (fun E u => ka_20 tk_246) d_Mo_endSession_81 (pc' := 82) rfl h (fun u4 h => ?_)
  refine pj_aload_n C d_Mo_endSession_82 (pc' := 83) (i := 0) (x := b + 217) rfl rfl rfl ?_
  refine fg_Model_98_Model C tk_217 d_Mo_endSession_83 (pc' := 86) rfl ?_
  refine pj_iload_n C d_Mo_endSession_86 (pc' := 87) (i := 3) (x := x3) rfl rfl rfl ?_
  refine pj_aload_n C d_Mo_endSession_87 (pc' := 88) (i := 0) (x := b + 217) rfl rfl rfl ?_
  refine fg_Model_98_Model C tk_217 d_Mo_endSession_88 (pc' := 91) rfl ?_
  refine pj_iload_n C d_Mo_endSession_91 (pc' := 92) (i := 3) (x := x3) rfl rfl rfl ?_
  refine pj_iconst C d_Mo_endSession_92 (pc' := 93) rfl (v := 1) (by decide) ?_
  refine pj_iadd C d_Mo_endSession_93 (pc' := 94) rfl ?_
  refine pj_iald C (pj_lt tk_247 (by decide)) (fun E u => ka_20 tk_247) d_Mo_endSession_94 (pc' := 95) rfl h (fun h => ?_)
  refine pj_iast C (pj_lt tk_247 (by decide)) (fun E u => ka_20 tk_247) d_Mo_endSession_95 (pc' := 96) rfl h (fun u5 h => ?_)
  refine pj_aload_n C d_Mo_endSession_96 (pc' := 97) (i := 0) (x := b + 217) rfl rfl rfl ?_
  refine fg_Model_101_Model C tk_217 d_Mo_endSession_97 (pc' := 100) rfl ?_
  refine pj_iload_n C d_Mo_endSession_100 (pc' := 101) (i := 3) (x := x3) rfl rfl rfl ?_
  refine pj_aload_n C d_Mo_endSession_101 (pc' := 102) (i := 0) (x := b + 217) rfl rfl rfl ?_
  refine fg_Model_101_Model C tk_217 d_Mo_endSession_102 (pc' := 105) rfl ?_
  refine pj_iload_n C d_Mo_endSession_105 (pc' := 106) (i := 3) (x := x3) rfl rfl rfl ?_
  refine pj_iconst C d_Mo_endSession_106 (pc' := 107) rfl (v := 1) (by decide) ?_
  refine pj_iadd C d_Mo_endSession_107 (pc' := 108) rfl ?_
  refine pj_iald C (pj_lt tk_248 (by decide)) (fun E u => ka_20 tk_248) d_Mo_endSession_108 (pc' := 109) rfl h (fun h => ?_)
  refine pj_iast C (pj_lt tk_248 (by decide)) (fun E u => ka_20 tk_248) d_Mo_endSession_109 (pc' := 110) rfl h (fun u6 h => ?_)
  refine pj_aload_n C d_Mo_endSession_110 (pc' := 111) (i := 0) (x := b + 217) rfl rfl rfl ?_
  refine fg_Model_104_Model C tk_217 d_Mo_endSession_111 (pc' := 114) rfl ?_
  refine pj_iload_n C d_Mo_endSession_114 (pc' := 115) (i := 3) (x := x3) rfl rfl rfl ?_
  refine pj_aload_n C d_Mo_endSession_115 (pc' := 116) (i := 0) (x := b + 217) rfl rfl rfl ?_
  refine fg_Model_104_Model C tk_217 d_Mo_endSession_116 (pc' := 119) rfl ?_
  refine pj_iload_n C d_Mo_endSession_119 (pc' := 120) (i := 3) (x := x3) rfl rfl rfl ?_
  refine pj_iconst C d_Mo_endSession_120 (pc' := 121) rfl (v := 1) (by decide) ?_
  refine pj_iadd C d_Mo_endSession_121 (pc' := 122) rfl ?_
  refine pj_zald C (pj_lt tk_249 (by decide)) (fun E u => ka_30 tk_249) d_Mo_endSession_122 (pc' := 123) rfl h (fun h => ?_)
  refine pj_zast C (pj_lt tk_249 (by decide)) (fun E u => ka_30 tk_249) d_Mo_endSession_123 (pc' := 124) rfl h (fun u7 h => ?_)
  refine pj_aload_n C d_Mo_endSession_124 (pc' := 125) (i := 0) (x := b + 217) rfl rfl rfl ?_
  refine fg_Model_107_Model C tk_217 d_Mo_endSession_125 (pc' := 128) rfl ?_
  refine pj_iload_n C d_Mo_endSession_128 (pc' := 129) (i := 3) (x := x3) rfl rfl rfl ?_
  refine pj_aload_n C d_Mo_endSession_129 (pc' := 130) (i := 0) (x := b + 217) rfl rfl rfl ?_
  refine fg_Model_107_Model C tk_217 d_Mo_endSession_130 (pc' := 133) rfl ?_
  refine pj_iload_n C d_Mo_endSession_133 (pc' := 134) (i := 3) (x := x3) rfl rfl rfl ?_
  refine pj_iconst C d_Mo_endSession_134 (pc' := 135) rfl (v := 1) (by decide) ?_
  refine pj_iadd C d_Mo_endSession_135 (pc' := 136) rfl ?_
  refine pj_iald C (pj_lt tk_250 (by decide)) (fun E u => ka_20 tk_250) d_Mo_endSession_136 (pc' := 137) rfl h (fun h => ?_)
  refine pj_iast C (pj_lt tk_250 (by decide)) (fun E u => ka_20 tk_250) d_Mo_endSession_137 (pc' := 138) rfl h (fun u8 h => ?_)
  refine pj_iinc C d_Mo_endSession_138 (pc' := 141) (x := x3) (d := 1) (vs' := [some (.ref (b + 217)), some (.int x1), none, some (.int (x3 + 1))]) rfl rfl (Nat.le_of_ble_eq_true rfl) rfl (by decide) rfl ?_
  refine pj_goto C d_Mo_endSession_141 (tgt := 12) (by decide) ?_
  exact pj_cut (pj_le_s (pj_le_s (pj_le_n (pj_le_s pj_le_e)))) (hR12 _ _ h)
def pb_Mo_endSession_12b (R12 : pj_M → Int32 → Prop) (K : pj_M → Prop) (u : pj_M) (x1 : Int32) (x3 : Int32) : Prop := vp_in x1 2 ∧ (((((4 * x1) + (u 242 x1.toNatClampNeg)) ≤ x3) → (pb_Mo_endSession_144  K u )) ∧ (¬ (((4 * x1) + (u 242 x1.toNatClampNeg)) ≤ x3) → (pb_Mo_endSession_26 R12 K u x1 x3)))
set_option maxHeartbeats 1000000 in
theorem pt_Mo_endSession_12b {g : pj_G} {b : Nat} (C : pj_X g c_Mo_endSession 4 R_Mo none rm_Mo_endSession) {K : pj_M → Prop} (hE : pj_E g b (pj_Kv K)) {R12 : pj_M → Int32 → Prop}  {u : pj_M} {x1 : Int32} {x3 : Int32} (hR12 : ∀ (u : pj_M) (x3 : Int32), R12 u x3 → pj_J g (pj_N g b u) 12 [some (.ref (b + 217)), some (.int x1), none, some (.int x3)] [])  (h : pb_Mo_endSession_12b R12 K u x1 x3) : pj_J g (pj_N g b u) 12 [some (.ref (b + 217)), some (.int x1), none, some (.int x3)] [] := by
  unfold pb_Mo_endSession_12b at h
  refine pj_iload_n C d_Mo_endSession_12 (pc' := 13) (i := 3) (x := x3) rfl rfl rfl ?_
  refine pj_iconst C d_Mo_endSession_13 (pc' := 14) rfl (v := 4) (by decide) ?_
  refine pj_iload_n C d_Mo_endSession_14 (pc' := 15) (i := 1) (x := x1) rfl rfl rfl ?_
  refine pj_imul C d_Mo_endSession_15 (pc' := 16) rfl ?_
  refine pj_aload_n C d_Mo_endSession_16 (pc' := 17) (i := 0) (x := b + 217) rfl rfl rfl ?_
  refine fg_Model_83_Model C tk_217 d_Mo_endSession_17 (pc' := 20) rfl ?_
  refine pj_iload_n C d_Mo_endSession_20 (pc' := 21) (i := 1) (x := x1) rfl rfl rfl ?_
  refine pj_iald C (pj_lt tk_242 (by decide)) (fun E u => ka_33 tk_242) d_Mo_endSession_21 (pc' := 22) rfl h (fun h => ?_)
  refine pj_iadd C d_Mo_endSession_22 (pc' := 23) rfl ?_
  refine pj_icmp_ge C d_Mo_endSession_23 (pc' := 26) rfl (tgt := 144) (by decide) h (fun h => ?_) (fun h => ?_)
  · exact pj_cut (pj_le_n (pj_le_n (pj_le_n (pj_le_n pj_le_e)))) (pt_Mo_endSession_144 C hE   h)
  · exact pj_cut (pj_le_s (pj_le_s (pj_le_n (pj_le_s pj_le_e)))) (pt_Mo_endSession_26 C hE hR12  h)
def pb_Mo_endSession_12  (K : pj_M → Prop) (x1 : Int32) : Nat → pj_M → Int32 → Prop
  | 0 => fun _ _ => False
  | n + 1 => fun u x3 => pb_Mo_endSession_12b (pb_Mo_endSession_12  K x1 n) K u x1 x3
theorem pt_Mo_endSession_12 {g : pj_G} {b : Nat} (C : pj_X g c_Mo_endSession 4 R_Mo none rm_Mo_endSession) {K : pj_M → Prop} (hE : pj_E g b (pj_Kv K))  {x1 : Int32}   : ∀ (n : Nat) (u : pj_M) (x3 : Int32), pb_Mo_endSession_12  K x1 n u x3 → pj_J g (pj_N g b u) 12 [some (.ref (b + 217)), some (.int x1), none, some (.int x3)] [] := by
  intro n
  induction n with
  | zero => intro u x3 h; exact False.elim h
  | succ n ih =>
    intro u x3 h
    exact (pt_Mo_endSession_12b C hE ih  h)
def pb_Mo_endSession_0  (K : pj_M → Prop) (u : pj_M) (x1 : Int32) (x2 : Int32) : Prop := vp_in x1 2 ∧ (vp_in x1 2 ∧ pj_put u 242 x1.toNatClampNeg ((u 242 x1.toNatClampNeg) - 1) fun u1 => (∃ n, pb_Mo_endSession_12  K x1 n u1 x2))
set_option maxHeartbeats 1000000 in
theorem pt_Mo_endSession_0 {g : pj_G} {b : Nat} (C : pj_X g c_Mo_endSession 4 R_Mo none rm_Mo_endSession) {K : pj_M → Prop} (hE : pj_E g b (pj_Kv K))   {u : pj_M} {x1 : Int32} {x2 : Int32}   (h : pb_Mo_endSession_0  K u x1 x2) : pj_J g (pj_N g b u) 0 [some (.ref (b + 217)), some (.int x1), some (.int x2), none] [] := by
  unfold pb_Mo_endSession_0 at h
  refine pj_aload_n C d_Mo_endSession_0 (pc' := 1) (i := 0) (x := b + 217) rfl rfl rfl ?_
  refine fg_Model_83_Model C tk_217 d_Mo_endSession_1 (pc' := 4) rfl ?_
  refine pj_iload_n C d_Mo_endSession_4 (pc' := 5) (i := 1) (x := x1) rfl rfl rfl ?_
  refine pj_dup2_11 C d_Mo_endSession_5 (pc' := 6) rfl rfl rfl ?_
  refine pj_iald C (pj_lt tk_242 (by decide)) (fun E u => ka_33 tk_242) d_Mo_endSession_6 (pc' := 7) rfl h (fun h => ?_)
  refine pj_iconst C d_Mo_endSession_7 (pc' := 8) rfl (v := 1) (by decide) ?_
  refine pj_isub C d_Mo_endSession_8 (pc' := 9) rfl ?_
  refine pj_iast C (pj_lt tk_242 (by decide)) (fun E u => ka_33 tk_242) d_Mo_endSession_9 (pc' := 10) rfl h (fun u1 h => ?_)
  refine pj_iload_n C d_Mo_endSession_10 (pc' := 11) (i := 2) (x := x2) rfl rfl rfl ?_
  refine pj_istore_n C d_Mo_endSession_11 (pc' := 12) (i := 3) (vs' := [some (.ref (b + 217)), some (.int x1), some (.int x2), some (.int x2)]) rfl rfl (Nat.le_of_ble_eq_true rfl) (Nat.le_of_ble_eq_true rfl) rfl rfl ?_
  obtain ⟨n, h⟩ := h
  exact pj_cut (pj_le_s (pj_le_s (pj_le_n (pj_le_s pj_le_e)))) (pt_Mo_endSession_12 C hE   n _ _ h)
def pw_Mo_endSession (u : pj_M) (x1 : Int32) (x2 : Int32) (K : pj_M → Prop) : Prop := pb_Mo_endSession_0  K u x1 x2
theorem pc_Mo_endSession (l : Launch) (D : va_G) (E : Nat → ClassId) {b : Nat} {u : pj_M} {x1 : Int32} {x2 : Int32} {K : pj_M → Prop}  (h : pw_Mo_endSession u x1 x2 K) : pj_C l y_Mo_endSession c_Mo_endSession 4 none rm_Mo_endSession D E b [.ref (b + 217), .int x1, .int x2] u (pj_Kv K) := by
  refine pj_met (own := R_Mo) (by decide +kernel) rfl (Nat.le_of_ble_eq_true rfl) (fun g hE C => ?_)
  unfold pw_Mo_endSession at h
  show pj_J g (pj_N g b u) 0 [some (.ref (b + 217)), some (.int x1), some (.int x2), none] []
  exact pj_cut (pj_le_s (pj_le_s (pj_le_s (pj_le_n pj_le_e)))) (pt_Mo_endSession_0 C hE   h)
/-! Model.sendAnswer(II)V -/
theorem fg_Model_125_Model {g : pj_G} {b : Nat} {cc : ByteArray} {nL : Nat} {ret : Option FieldType} {rm : Room} {u : pj_M} {pc pc' : Nat} {vs : List (Option Value)} {st : List Value} (C : pj_X g cc nL R_Mo ret rm) {i : Nat} (t : pj_T i = 11) (hdg : decode cc pc = .ok (.getfield 125, 3)) (hp : pc + 3 = pc') (kk : pj_J g (pj_N g b u) pc' vs (.ref (b + 256) :: st)) : pj_J g (pj_N g b u) pc vs (.ref (b + i) :: st) :=
  pj_get C cl_Model hin_Model (k := 47) (Nat.le_of_ble_eq_true rfl) wm_1171 (Or.inl rfl) (pj_lt t (by decide)) (fun E => ko_11 t) rfl hdg hp kk
theorem fg_Model_128_Model {g : pj_G} {b : Nat} {cc : ByteArray} {nL : Nat} {ret : Option FieldType} {rm : Room} {u : pj_M} {pc pc' : Nat} {vs : List (Option Value)} {st : List Value} (C : pj_X g cc nL R_Mo ret rm) {i : Nat} (t : pj_T i = 11) (hdg : decode cc pc = .ok (.getfield 128, 3)) (hp : pc + 3 = pc') (kk : pj_J g (pj_N g b u) pc' vs (.ref (b + 257) :: st)) : pj_J g (pj_N g b u) pc vs (.ref (b + i) :: st) :=
  pj_get C cl_Model hin_Model (k := 48) (Nat.le_of_ble_eq_true rfl) wm_1172 (Or.inl rfl) (pj_lt t (by decide)) (fun E => ko_11 t) rfl hdg hp kk
theorem fg_Model_119_Model {g : pj_G} {b : Nat} {cc : ByteArray} {nL : Nat} {ret : Option FieldType} {rm : Room} {u : pj_M} {pc pc' : Nat} {vs : List (Option Value)} {st : List Value} (C : pj_X g cc nL R_Mo ret rm) {i : Nat} (t : pj_T i = 11) (hdg : decode cc pc = .ok (.getfield 119, 3)) (hp : pc + 3 = pc') (kk : pj_J g (pj_N g b u) pc' vs (.ref (b + 254) :: st)) : pj_J g (pj_N g b u) pc vs (.ref (b + i) :: st) :=
  pj_get C cl_Model hin_Model (k := 45) (Nat.le_of_ble_eq_true rfl) wm_1169 (Or.inl rfl) (pj_lt t (by decide)) (fun E => ko_11 t) rfl hdg hp kk
theorem fg_Model_113_Model {g : pj_G} {b : Nat} {cc : ByteArray} {nL : Nat} {ret : Option FieldType} {rm : Room} {u : pj_M} {pc pc' : Nat} {vs : List (Option Value)} {st : List Value} (C : pj_X g cc nL R_Mo ret rm) {i : Nat} (t : pj_T i = 11) (hdg : decode cc pc = .ok (.getfield 113, 3)) (hp : pc + 3 = pc') (kk : pj_J g (pj_N g b u) pc' vs (.ref (b + 252) :: st)) : pj_J g (pj_N g b u) pc vs (.ref (b + i) :: st) :=
  pj_get C cl_Model hin_Model (k := 43) (Nat.le_of_ble_eq_true rfl) wm_1167 (Or.inl rfl) (pj_lt t (by decide)) (fun E => ko_11 t) rfl hdg hp kk
theorem fg_Model_116_Model {g : pj_G} {b : Nat} {cc : ByteArray} {nL : Nat} {ret : Option FieldType} {rm : Room} {u : pj_M} {pc pc' : Nat} {vs : List (Option Value)} {st : List Value} (C : pj_X g cc nL R_Mo ret rm) {i : Nat} (t : pj_T i = 11) (hdg : decode cc pc = .ok (.getfield 116, 3)) (hp : pc + 3 = pc') (kk : pj_J g (pj_N g b u) pc' vs (.ref (b + 253) :: st)) : pj_J g (pj_N g b u) pc vs (.ref (b + i) :: st) :=
  pj_get C cl_Model hin_Model (k := 44) (Nat.le_of_ble_eq_true rfl) wm_1168 (Or.inl rfl) (pj_lt t (by decide)) (fun E => ko_11 t) rfl hdg hp kk
theorem fg_Model_122_Model {g : pj_G} {b : Nat} {cc : ByteArray} {nL : Nat} {ret : Option FieldType} {rm : Room} {u : pj_M} {pc pc' : Nat} {vs : List (Option Value)} {st : List Value} (C : pj_X g cc nL R_Mo ret rm) {i : Nat} (t : pj_T i = 11) (hdg : decode cc pc = .ok (.getfield 122, 3)) (hp : pc + 3 = pc') (kk : pj_J g (pj_N g b u) pc' vs (.ref (b + 255) :: st)) : pj_J g (pj_N g b u) pc vs (.ref (b + i) :: st) :=
  pj_get C cl_Model hin_Model (k := 46) (Nat.le_of_ble_eq_true rfl) wm_1170 (Or.inl rfl) (pj_lt t (by decide)) (fun E => ko_11 t) rfl hdg hp kk
theorem ck_Model_316_Model {g : pj_G} {b : Nat} {cc : ByteArray} {nL : Nat} {ret : Option FieldType} {rm : Room} {u : pj_M} {pc pc' : Nat} {vs : List (Option Value)} {st : List Value} (C : pj_X g cc nL R_Mo ret rm) {x1 : Int32} {x2 : Int32} {x3 : Int32} {x4 : Int32} {x5 : Int32} {K : pj_M → Prop}  (h : pw_Mo_gram u x1 x2 x3 x4 x5 K) (hdg : decode cc pc = .ok (.invokevirtual 316, 3)) (hp : pc + 3 = pc') (hR : rm_Mo_gram.frames + 1 ≤ rm.frames ∧ 8 + (7 + 11) + rm_Mo_gram.locals ≤ rm.locals) (h8 : (st.map fun v => v.category).sum ≤ 8) (kk : ∀ u', K u' → pj_J g (pj_N g b u') pc' vs st) : pj_J g (pj_N g b u) pc vs (.int x5 :: .int x4 :: .int x3 :: .int x2 :: .int x1 :: .ref (b + 217) :: st) :=
  pj_callV C (As := [.int x1, .int x2, .int x3, .int x4, .int x5]) (fun l D E => pc_Mo_gram l D E  h) rfl rfl cl_Model (pj_lt tk_217 (by decide)) (fun E => ko_11 tk_217) wm_1432 wm_1434 wm_54 wm_103 wm_1435 (by decide +kernel) (n := 5) rfl hR rfl h8 hdg hp (fun v u' hq => by obtain ⟨rfl, hk⟩ := hq; exact kk u' hk)
theorem ck_Model_320_Model {g : pj_G} {b : Nat} {cc : ByteArray} {nL : Nat} {ret : Option FieldType} {rm : Room} {u : pj_M} {pc pc' : Nat} {vs : List (Option Value)} {st : List Value} (C : pj_X g cc nL R_Mo ret rm) {x1 : Int32} {K : Int32 → pj_M → Prop}  (h : pw_Mo_authWith u x1 K) (hdg : decode cc pc = .ok (.invokevirtual 320, 3)) (hp : pc + 3 = pc') (hR : rm_Mo_authWith.frames + 1 ≤ rm.frames ∧ 8 + (3 + 11) + rm_Mo_authWith.locals ≤ rm.locals) (h8 : (st.map fun v => v.category).sum ≤ 8) (kk : ∀ r u', K r u' → pj_J g (pj_N g b u') pc' vs (.int r :: st)) : pj_J g (pj_N g b u) pc vs (.int x1 :: .ref (b + 217) :: st) :=
  pj_callV C (As := [.int x1]) (fun l D E => pc_Mo_authWith l D E  h) rfl rfl cl_Model (pj_lt tk_217 (by decide)) (fun E => ko_11 tk_217) wm_1536 wm_1538 wm_79 wm_103 wm_1539 (by decide +kernel) (n := 1) rfl hR rfl h8 hdg hp (fun v u' hq => by obtain ⟨r, rfl, hk⟩ := hq; exact kk r u' hk)
def rm_Mo_sendAnswer : Room := { frames := 5, cells := 0, slots := 0, locals := 113 }
def pb_Mo_sendAnswer_43  (K : pj_M → Prop) (u : pj_M) (x1 : Int32) (x2 : Int32) : Prop := vp_in x2 8 ∧ (vp_in x2 8 ∧ (vp_in x2 8 ∧ (vp_in x2 8 ∧ (pw_Mo_gram u (u 254 x2.toNatClampNeg) (u 252 x2.toNatClampNeg) (u 253 x2.toNatClampNeg) ((-1)) (u 255 x2.toNatClampNeg) fun u1 => (vp_in x2 8 ∧ (pw_Mo_authWith u1 (u1 253 x2.toNatClampNeg) fun r3 u2 => (pw_Mo_intoRow u2 3 r3 fun u4 => (pw_Mo_send u4 3 x1 fun u5 => (K u5)))))))))
set_option maxHeartbeats 1000000 in
theorem pt_Mo_sendAnswer_43 {g : pj_G} {b : Nat} (C : pj_X g c_Mo_sendAnswer 4 R_Mo none rm_Mo_sendAnswer) {K : pj_M → Prop} (hE : pj_E g b (pj_Kv K))   {u : pj_M} {x1 : Int32} {x2 : Int32}   (h : pb_Mo_sendAnswer_43  K u x1 x2) : pj_J g (pj_N g b u) 43 [some (.ref (b + 217)), some (.int x1), some (.int x2), none] [] := by
  unfold pb_Mo_sendAnswer_43 at h
  refine pj_aload_n C d_Mo_sendAnswer_43 (pc' := 44) (i := 0) (x := b + 217) rfl rfl rfl ?_
  refine pj_aload_n C d_Mo_sendAnswer_44 (pc' := 45) (i := 0) (x := b + 217) rfl rfl rfl ?_
  refine fg_Model_119_Model C tk_217 d_Mo_sendAnswer_45 (pc' := 48) rfl ?_
  refine pj_iload_n C d_Mo_sendAnswer_48 (pc' := 49) (i := 2) (x := x2) rfl rfl rfl ?_
  refine pj_iald C (pj_lt tk_254 (by decide)) (fun E u => ka_20 tk_254) d_Mo_sendAnswer_49 (pc' := 50) rfl h (fun h => ?_)
  refine pj_aload_n C d_Mo_sendAnswer_50 (pc' := 51) (i := 0) (x := b + 217) rfl rfl rfl ?_
  refine fg_Model_113_Model C tk_217 d_Mo_sendAnswer_51 (pc' := 54) rfl ?_
  refine pj_iload_n C d_Mo_sendAnswer_54 (pc' := 55) (i := 2) (x := x2) rfl rfl rfl ?_
  refine pj_iald C (pj_lt tk_252 (by decide)) (fun E u => ka_20 tk_252) d_Mo_sendAnswer_55 (pc' := 56) rfl h (fun h => ?_)
  refine pj_aload_n C d_Mo_sendAnswer_56 (pc' := 57) (i := 0) (x := b + 217) rfl rfl rfl ?_
  refine fg_Model_116_Model C tk_217 d_Mo_sendAnswer_57 (pc' := 60) rfl ?_
  refine pj_iload_n C d_Mo_sendAnswer_60 (pc' := 61) (i := 2) (x := x2) rfl rfl rfl ?_
  refine pj_iald C (pj_lt tk_253 (by decide)) (fun E u => ka_20 tk_253) d_Mo_sendAnswer_61 (pc' := 62) rfl h (fun h => ?_)
  refine pj_iconst C d_Mo_sendAnswer_62 (pc' := 63) rfl (v := (-1)) (by decide) ?_
  refine pj_aload_n C d_Mo_sendAnswer_63 (pc' := 64) (i := 0) (x := b + 217) rfl rfl rfl ?_
  refine fg_Model_122_Model C tk_217 d_Mo_sendAnswer_64 (pc' := 67) rfl ?_
  refine pj_iload_n C d_Mo_sendAnswer_67 (pc' := 68) (i := 2) (x := x2) rfl rfl rfl ?_
  refine pj_iald C (pj_lt tk_255 (by decide)) (fun E u => ka_20 tk_255) d_Mo_sendAnswer_68 (pc' := 69) rfl h (fun h => ?_)
  refine ck_Model_316_Model C  h d_Mo_sendAnswer_69 (pc' := 72) rfl ⟨Nat.le_of_ble_eq_true rfl, Nat.le_of_ble_eq_true rfl⟩ (Nat.le_of_ble_eq_true rfl) (fun u1 h => ?_)
  refine pj_aload_n C d_Mo_sendAnswer_72 (pc' := 73) (i := 0) (x := b + 217) rfl rfl rfl ?_
  refine pj_iconst C d_Mo_sendAnswer_73 (pc' := 74) rfl (v := 3) (by decide) ?_
  refine pj_aload_n C d_Mo_sendAnswer_74 (pc' := 75) (i := 0) (x := b + 217) rfl rfl rfl ?_
  refine pj_aload_n C d_Mo_sendAnswer_75 (pc' := 76) (i := 0) (x := b + 217) rfl rfl rfl ?_
  refine fg_Model_116_Model C tk_217 d_Mo_sendAnswer_76 (pc' := 79) rfl ?_
  refine pj_iload_n C d_Mo_sendAnswer_79 (pc' := 80) (i := 2) (x := x2) rfl rfl rfl ?_
  refine pj_iald C (pj_lt tk_253 (by decide)) (fun E u => ka_20 tk_253) d_Mo_sendAnswer_80 (pc' := 81) rfl h (fun h => ?_)
  refine ck_Model_320_Model C  h d_Mo_sendAnswer_81 (pc' := 84) rfl ⟨Nat.le_of_ble_eq_true rfl, Nat.le_of_ble_eq_true rfl⟩ (Nat.le_of_ble_eq_true rfl) (fun r3 u2 h => ?_)
  refine ck_Model_264_Model C  h d_Mo_sendAnswer_84 (pc' := 87) rfl ⟨Nat.le_of_ble_eq_true rfl, Nat.le_of_ble_eq_true rfl⟩ (Nat.le_of_ble_eq_true rfl) (fun u4 h => ?_)
  refine pj_aload_n C d_Mo_sendAnswer_87 (pc' := 88) (i := 0) (x := b + 217) rfl rfl rfl ?_
  refine pj_iconst C d_Mo_sendAnswer_88 (pc' := 89) rfl (v := 3) (by decide) ?_
  refine pj_iload_n C d_Mo_sendAnswer_89 (pc' := 90) (i := 1) (x := x1) rfl rfl rfl ?_
  refine ck_Model_242_Model C  h d_Mo_sendAnswer_90 (pc' := 93) rfl ⟨Nat.le_of_ble_eq_true rfl, Nat.le_of_ble_eq_true rfl⟩ (Nat.le_of_ble_eq_true rfl) (fun u5 h => ?_)
  exact pj_vret C hE d_Mo_sendAnswer_93 ⟨rfl, h⟩
def pb_Mo_sendAnswer_20 (R12 : pj_M → Int32 → Prop) (K : pj_M → Prop) (u : pj_M) (x1 : Int32) (x2 : Int32) (x3 : Int32) : Prop := vp_in ((20 * x2) + x3) 160 ∧ (vp_in x3 48 ∧ pj_put u 227 x3.toNatClampNeg (u 257 ((20 * x2) + x3).toNatClampNeg) fun u1 => (R12 u1 (x3 + 1)))
set_option maxHeartbeats 1000000 in
theorem pt_Mo_sendAnswer_20 {g : pj_G} {b : Nat} (C : pj_X g c_Mo_sendAnswer 4 R_Mo none rm_Mo_sendAnswer) {K : pj_M → Prop} (hE : pj_E g b (pj_Kv K)) {R12 : pj_M → Int32 → Prop}  {u : pj_M} {x1 : Int32} {x2 : Int32} {x3 : Int32} (hR12 : ∀ (u : pj_M) (x3 : Int32), R12 u x3 → pj_J g (pj_N g b u) 12 [some (.ref (b + 217)), some (.int x1), some (.int x2), some (.int x3)] [])  (h : pb_Mo_sendAnswer_20 R12 K u x1 x2 x3) : pj_J g (pj_N g b u) 20 [some (.ref (b + 217)), some (.int x1), some (.int x2), some (.int x3)] [] := by
  unfold pb_Mo_sendAnswer_20 at h
  refine pj_aload_n C d_Mo_sendAnswer_20 (pc' := 21) (i := 0) (x := b + 217) rfl rfl rfl ?_
  refine fg_Model_38_Model C tk_217 d_Mo_sendAnswer_21 (pc' := 24) rfl ?_
  refine pj_iload_n C d_Mo_sendAnswer_24 (pc' := 25) (i := 3) (x := x3) rfl rfl rfl ?_
  refine pj_aload_n C d_Mo_sendAnswer_25 (pc' := 26) (i := 0) (x := b + 217) rfl rfl rfl ?_
  refine fg_Model_128_Model C tk_217 d_Mo_sendAnswer_26 (pc' := 29) rfl ?_
  refine pj_bipush C d_Mo_sendAnswer_29 (pc' := 31) rfl (v := 20) (by decide) ?_
  refine pj_iload_n C d_Mo_sendAnswer_31 (pc' := 32) (i := 2) (x := x2) rfl rfl rfl ?_
  refine pj_imul C d_Mo_sendAnswer_32 (pc' := 33) rfl ?_
  refine pj_iload_n C d_Mo_sendAnswer_33 (pc' := 34) (i := 3) (x := x3) rfl rfl rfl ?_
  refine pj_iadd C d_Mo_sendAnswer_34 (pc' := 35) rfl ?_
  refine pj_iald C (pj_lt tk_257 (by decide)) (fun E u => ka_36 tk_257) d_Mo_sendAnswer_35 (pc' := 36) rfl h (fun h => ?_)
  refine pj_iast C (pj_lt tk_227 (by decide)) (fun E u => ka_22 tk_227) d_Mo_sendAnswer_36 (pc' := 37) rfl h (fun u1 h => ?_)
  refine pj_iinc C d_Mo_sendAnswer_37 (pc' := 40) (x := x3) (d := 1) (vs' := [some (.ref (b + 217)), some (.int x1), some (.int x2), some (.int (x3 + 1))]) rfl rfl (Nat.le_of_ble_eq_true rfl) rfl (by decide) rfl ?_
  refine pj_goto C d_Mo_sendAnswer_40 (tgt := 12) (by decide) ?_
  exact pj_cut (pj_le_s (pj_le_s (pj_le_s (pj_le_s pj_le_e)))) (hR12 _ _ h)
def pb_Mo_sendAnswer_12b (R12 : pj_M → Int32 → Prop) (K : pj_M → Prop) (u : pj_M) (x1 : Int32) (x2 : Int32) (x3 : Int32) : Prop := (((u 217 16) ≤ x3) → (pb_Mo_sendAnswer_43  K u x1 x2)) ∧ (¬ ((u 217 16) ≤ x3) → (pb_Mo_sendAnswer_20 R12 K u x1 x2 x3))
set_option maxHeartbeats 1000000 in
theorem pt_Mo_sendAnswer_12b {g : pj_G} {b : Nat} (C : pj_X g c_Mo_sendAnswer 4 R_Mo none rm_Mo_sendAnswer) {K : pj_M → Prop} (hE : pj_E g b (pj_Kv K)) {R12 : pj_M → Int32 → Prop}  {u : pj_M} {x1 : Int32} {x2 : Int32} {x3 : Int32} (hR12 : ∀ (u : pj_M) (x3 : Int32), R12 u x3 → pj_J g (pj_N g b u) 12 [some (.ref (b + 217)), some (.int x1), some (.int x2), some (.int x3)] [])  (h : pb_Mo_sendAnswer_12b R12 K u x1 x2 x3) : pj_J g (pj_N g b u) 12 [some (.ref (b + 217)), some (.int x1), some (.int x2), some (.int x3)] [] := by
  unfold pb_Mo_sendAnswer_12b at h
  refine pj_iload_n C d_Mo_sendAnswer_12 (pc' := 13) (i := 3) (x := x3) rfl rfl rfl ?_
  refine pj_aload_n C d_Mo_sendAnswer_13 (pc' := 14) (i := 0) (x := b + 217) rfl rfl rfl ?_
  refine fg_Model_233_Model C tk_217 d_Mo_sendAnswer_14 (pc' := 17) rfl ?_
  refine pj_icmp_ge C d_Mo_sendAnswer_17 (pc' := 20) rfl (tgt := 43) (by decide) h (fun h => ?_) (fun h => ?_)
  · exact pj_cut (pj_le_s (pj_le_s (pj_le_s (pj_le_n pj_le_e)))) (pt_Mo_sendAnswer_43 C hE   h)
  · exact pj_cut (pj_le_s (pj_le_s (pj_le_s (pj_le_s pj_le_e)))) (pt_Mo_sendAnswer_20 C hE hR12  h)
def pb_Mo_sendAnswer_12  (K : pj_M → Prop) (x1 : Int32) (x2 : Int32) : Nat → pj_M → Int32 → Prop
  | 0 => fun _ _ => False
  | n + 1 => fun u x3 => pb_Mo_sendAnswer_12b (pb_Mo_sendAnswer_12  K x1 x2 n) K u x1 x2 x3
theorem pt_Mo_sendAnswer_12 {g : pj_G} {b : Nat} (C : pj_X g c_Mo_sendAnswer 4 R_Mo none rm_Mo_sendAnswer) {K : pj_M → Prop} (hE : pj_E g b (pj_Kv K))  {x1 : Int32} {x2 : Int32}   : ∀ (n : Nat) (u : pj_M) (x3 : Int32), pb_Mo_sendAnswer_12  K x1 x2 n u x3 → pj_J g (pj_N g b u) 12 [some (.ref (b + 217)), some (.int x1), some (.int x2), some (.int x3)] [] := by
  intro n
  induction n with
  | zero => intro u x3 h; exact False.elim h
  | succ n ih =>
    intro u x3 h
    exact (pt_Mo_sendAnswer_12b C hE ih  h)
def pb_Mo_sendAnswer_0  (K : pj_M → Prop) (u : pj_M) (x1 : Int32) (x2 : Int32) : Prop := vp_in x2 8 ∧ (pj_put u 217 16 (u 256 x2.toNatClampNeg) fun u1 => (∃ n, pb_Mo_sendAnswer_12  K x1 x2 n u1 0))
set_option maxHeartbeats 1000000 in
theorem pt_Mo_sendAnswer_0 {g : pj_G} {b : Nat} (C : pj_X g c_Mo_sendAnswer 4 R_Mo none rm_Mo_sendAnswer) {K : pj_M → Prop} (hE : pj_E g b (pj_Kv K))   {u : pj_M} {x1 : Int32} {x2 : Int32}   (h : pb_Mo_sendAnswer_0  K u x1 x2) : pj_J g (pj_N g b u) 0 [some (.ref (b + 217)), some (.int x1), some (.int x2), none] [] := by
  unfold pb_Mo_sendAnswer_0 at h
  refine pj_aload_n C d_Mo_sendAnswer_0 (pc' := 1) (i := 0) (x := b + 217) rfl rfl rfl ?_
  refine pj_aload_n C d_Mo_sendAnswer_1 (pc' := 2) (i := 0) (x := b + 217) rfl rfl rfl ?_
  refine fg_Model_125_Model C tk_217 d_Mo_sendAnswer_2 (pc' := 5) rfl ?_
  refine pj_iload_n C d_Mo_sendAnswer_5 (pc' := 6) (i := 2) (x := x2) rfl rfl rfl ?_
  refine pj_iald C (pj_lt tk_256 (by decide)) (fun E u => ka_20 tk_256) d_Mo_sendAnswer_6 (pc' := 7) rfl h (fun h => ?_)
  refine fp_Model_233_Model C tk_217  d_Mo_sendAnswer_7 (pc' := 10) rfl h (fun u1 h => ?_)
  refine pj_iconst C d_Mo_sendAnswer_10 (pc' := 11) rfl (v := 0) (by decide) ?_
  refine pj_istore_n C d_Mo_sendAnswer_11 (pc' := 12) (i := 3) (vs' := [some (.ref (b + 217)), some (.int x1), some (.int x2), some (.int 0)]) rfl rfl (Nat.le_of_ble_eq_true rfl) (Nat.le_of_ble_eq_true rfl) rfl rfl ?_
  obtain ⟨n, h⟩ := h
  exact pj_cut (pj_le_s (pj_le_s (pj_le_s (pj_le_s pj_le_e)))) (pt_Mo_sendAnswer_12 C hE   n _ _ h)
def pw_Mo_sendAnswer (u : pj_M) (x1 : Int32) (x2 : Int32) (K : pj_M → Prop) : Prop := pb_Mo_sendAnswer_0  K u x1 x2
theorem pc_Mo_sendAnswer (l : Launch) (D : va_G) (E : Nat → ClassId) {b : Nat} {u : pj_M} {x1 : Int32} {x2 : Int32} {K : pj_M → Prop}  (h : pw_Mo_sendAnswer u x1 x2 K) : pj_C l y_Mo_sendAnswer c_Mo_sendAnswer 4 none rm_Mo_sendAnswer D E b [.ref (b + 217), .int x1, .int x2] u (pj_Kv K) := by
  refine pj_met (own := R_Mo) (by decide +kernel) rfl (Nat.le_of_ble_eq_true rfl) (fun g hE C => ?_)
  unfold pw_Mo_sendAnswer at h
  show pj_J g (pj_N g b u) 0 [some (.ref (b + 217)), some (.int x1), some (.int x2), none] []
  exact pj_cut (pj_le_s (pj_le_s (pj_le_s (pj_le_n pj_le_e)))) (pt_Mo_sendAnswer_0 C hE   h)
/-! Model.request(II)V -/
def rm_Mo_request : Room := { frames := 1, cells := 0, slots := 0, locals := 23 }
def pb_Mo_request_0  (K : pj_M → Prop) (u : pj_M) (x1 : Int32) (x2 : Int32) : Prop := vp_in 1 48 ∧ (vp_in x1 8 ∧ pj_put u 247 x1.toNatClampNeg (((u 227 (1 : Int32).toNatClampNeg) + 1) &&& 255) fun u1 => (vp_in x1 8 ∧ (pw_Mo_packet u1 1 (u1 247 x1.toNatClampNeg) x2 fun u2 => (vp_in x1 8 ∧ (pj_put u2 217 14 (u2 243 x1.toNatClampNeg) fun u3 => (K u3))))))
set_option maxHeartbeats 1000000 in
theorem pt_Mo_request_0 {g : pj_G} {b : Nat} (C : pj_X g c_Mo_request 3 R_Mo none rm_Mo_request) {K : pj_M → Prop} (hE : pj_E g b (pj_Kv K))   {u : pj_M} {x1 : Int32} {x2 : Int32}   (h : pb_Mo_request_0  K u x1 x2) : pj_J g (pj_N g b u) 0 [some (.ref (b + 217)), some (.int x1), some (.int x2)] [] := by
  unfold pb_Mo_request_0 at h
  refine pj_aload_n C d_Mo_request_0 (pc' := 1) (i := 0) (x := b + 217) rfl rfl rfl ?_
  refine fg_Model_98_Model C tk_217 d_Mo_request_1 (pc' := 4) rfl ?_
  refine pj_iload_n C d_Mo_request_4 (pc' := 5) (i := 1) (x := x1) rfl rfl rfl ?_
  refine pj_aload_n C d_Mo_request_5 (pc' := 6) (i := 0) (x := b + 217) rfl rfl rfl ?_
  refine fg_Model_38_Model C tk_217 d_Mo_request_6 (pc' := 9) rfl ?_
  refine pj_iconst C d_Mo_request_9 (pc' := 10) rfl (v := 1) (by decide) ?_
  refine pj_iald C (pj_lt tk_227 (by decide)) (fun E u => ka_22 tk_227) d_Mo_request_10 (pc' := 11) rfl h (fun h => ?_)
  refine pj_iconst C d_Mo_request_11 (pc' := 12) rfl (v := 1) (by decide) ?_
  refine pj_iadd C d_Mo_request_12 (pc' := 13) rfl ?_
  refine pj_sipush C d_Mo_request_13 (pc' := 16) rfl (v := 255) (by decide) ?_
  refine pj_iand C d_Mo_request_16 (pc' := 17) rfl ?_
  refine pj_iast C (pj_lt tk_247 (by decide)) (fun E u => ka_20 tk_247) d_Mo_request_17 (pc' := 18) rfl h (fun u1 h => ?_)
  refine pj_aload_n C d_Mo_request_18 (pc' := 19) (i := 0) (x := b + 217) rfl rfl rfl ?_
  refine pj_iconst C d_Mo_request_19 (pc' := 20) rfl (v := 1) (by decide) ?_
  refine pj_aload_n C d_Mo_request_20 (pc' := 21) (i := 0) (x := b + 217) rfl rfl rfl ?_
  refine fg_Model_98_Model C tk_217 d_Mo_request_21 (pc' := 24) rfl ?_
  refine pj_iload_n C d_Mo_request_24 (pc' := 25) (i := 1) (x := x1) rfl rfl rfl ?_
  refine pj_iald C (pj_lt tk_247 (by decide)) (fun E u => ka_20 tk_247) d_Mo_request_25 (pc' := 26) rfl h (fun h => ?_)
  refine pj_iload_n C d_Mo_request_26 (pc' := 27) (i := 2) (x := x2) rfl rfl rfl ?_
  refine ck_Model_279_Model C  h d_Mo_request_27 (pc' := 30) rfl ⟨Nat.le_of_ble_eq_true rfl, Nat.le_of_ble_eq_true rfl⟩ (Nat.le_of_ble_eq_true rfl) (fun u2 h => ?_)
  refine pj_aload_n C d_Mo_request_30 (pc' := 31) (i := 0) (x := b + 217) rfl rfl rfl ?_
  refine pj_aload_n C d_Mo_request_31 (pc' := 32) (i := 0) (x := b + 217) rfl rfl rfl ?_
  refine fg_Model_86_Model C tk_217 d_Mo_request_32 (pc' := 35) rfl ?_
  refine pj_iload_n C d_Mo_request_35 (pc' := 36) (i := 1) (x := x1) rfl rfl rfl ?_
  refine pj_iald C (pj_lt tk_243 (by decide)) (fun E u => ka_20 tk_243) d_Mo_request_36 (pc' := 37) rfl h (fun h => ?_)
  refine fp_Model_253_Model C tk_217  d_Mo_request_37 (pc' := 40) rfl h (fun u3 h => ?_)
  exact pj_vret C hE d_Mo_request_40 ⟨rfl, h⟩
def pw_Mo_request (u : pj_M) (x1 : Int32) (x2 : Int32) (K : pj_M → Prop) : Prop := pb_Mo_request_0  K u x1 x2
theorem pc_Mo_request (l : Launch) (D : va_G) (E : Nat → ClassId) {b : Nat} {u : pj_M} {x1 : Int32} {x2 : Int32} {K : pj_M → Prop}  (h : pw_Mo_request u x1 x2 K) : pj_C l y_Mo_request c_Mo_request 3 none rm_Mo_request D E b [.ref (b + 217), .int x1, .int x2] u (pj_Kv K) := by
  refine pj_met (own := R_Mo) (by decide +kernel) rfl (Nat.le_of_ble_eq_true rfl) (fun g hE C => ?_)
  unfold pw_Mo_request at h
  show pj_J g (pj_N g b u) 0 [some (.ref (b + 217)), some (.int x1), some (.int x2)] []
  exact pj_cut (pj_le_s (pj_le_s (pj_le_s pj_le_e))) (pt_Mo_request_0 C hE   h)
/-! Model.begin(III)V -/
theorem fg_Model_80_Model {g : pj_G} {b : Nat} {cc : ByteArray} {nL : Nat} {ret : Option FieldType} {rm : Room} {u : pj_M} {pc pc' : Nat} {vs : List (Option Value)} {st : List Value} (C : pj_X g cc nL R_Mo ret rm) {i : Nat} (t : pj_T i = 11) (hdg : decode cc pc = .ok (.getfield 80, 3)) (hp : pc + 3 = pc') (kk : pj_J g (pj_N g b u) pc' vs (.ref (b + 241) :: st)) : pj_J g (pj_N g b u) pc vs (.ref (b + i) :: st) :=
  pj_get C cl_Model hin_Model (k := 32) (Nat.le_of_ble_eq_true rfl) wm_1156 (Or.inl rfl) (pj_lt t (by decide)) (fun E => ko_11 t) rfl hdg hp kk
theorem ck_Model_342_Model {g : pj_G} {b : Nat} {cc : ByteArray} {nL : Nat} {ret : Option FieldType} {rm : Room} {u : pj_M} {pc pc' : Nat} {vs : List (Option Value)} {st : List Value} (C : pj_X g cc nL R_Mo ret rm) {x1 : Int32} {x2 : Int32} {K : pj_M → Prop}  (h : pw_Mo_request u x1 x2 K) (hdg : decode cc pc = .ok (.invokevirtual 342, 3)) (hp : pc + 3 = pc') (hR : rm_Mo_request.frames + 1 ≤ rm.frames ∧ 8 + (3 + 11) + rm_Mo_request.locals ≤ rm.locals) (h8 : (st.map fun v => v.category).sum ≤ 8) (kk : ∀ u', K u' → pj_J g (pj_N g b u') pc' vs st) : pj_J g (pj_N g b u) pc vs (.int x2 :: .int x1 :: .ref (b + 217) :: st) :=
  pj_callV C (As := [.int x1, .int x2]) (fun l D E => pc_Mo_request l D E  h) rfl rfl cl_Model (pj_lt tk_217 (by decide)) (fun E => ko_11 tk_217) wm_1561 wm_1563 wm_85 wm_103 wm_1564 (by decide +kernel) (n := 2) rfl hR rfl h8 hdg hp (fun v u' hq => by obtain ⟨rfl, hk⟩ := hq; exact kk u' hk)
def rm_Mo_begin : Room := { frames := 3, cells := 0, slots := 0, locals := 66 }
def pb_Mo_begin_88  (K : pj_M → Prop) (u : pj_M) (x2 : Int32) : Prop := vp_in x2 8 ∧ (pw_Mo_addDataInt u (u 248 x2.toNatClampNeg) fun u1 => (K u1))
set_option maxHeartbeats 1000000 in
theorem pt_Mo_begin_88 {g : pj_G} {b : Nat} (C : pj_X g c_Mo_begin 4 R_Mo none rm_Mo_begin) {K : pj_M → Prop} (hE : pj_E g b (pj_Kv K))   {u : pj_M} {x2 : Int32}   (h : pb_Mo_begin_88  K u x2) : pj_J g (pj_N g b u) 88 [some (.ref (b + 217)), none, some (.int x2), none] [] := by
  unfold pb_Mo_begin_88 at h
  refine pj_aload_n C d_Mo_begin_88 (pc' := 89) (i := 0) (x := b + 217) rfl rfl rfl ?_
  refine pj_aload_n C d_Mo_begin_89 (pc' := 90) (i := 0) (x := b + 217) rfl rfl rfl ?_
  refine fg_Model_101_Model C tk_217 d_Mo_begin_90 (pc' := 93) rfl ?_
  refine pj_iload_n C d_Mo_begin_93 (pc' := 94) (i := 2) (x := x2) rfl rfl rfl ?_
  refine pj_iald C (pj_lt tk_248 (by decide)) (fun E u => ka_20 tk_248) d_Mo_begin_94 (pc' := 95) rfl h (fun h => ?_)
  refine ck_Model_290_Model C  h d_Mo_begin_95 (pc' := 98) rfl ⟨Nat.le_of_ble_eq_true rfl, Nat.le_of_ble_eq_true rfl⟩ (Nat.le_of_ble_eq_true rfl) (fun u1 h => ?_)
  exact pj_vret C hE d_Mo_begin_98 ⟨rfl, h⟩
def pb_Mo_begin_83  (K : pj_M → Prop) (u : pj_M) (x2 : Int32) : Prop := pw_Mo_addData u 1 fun u1 => (pb_Mo_begin_88  K u1 x2)
set_option maxHeartbeats 1000000 in
theorem pt_Mo_begin_83 {g : pj_G} {b : Nat} (C : pj_X g c_Mo_begin 4 R_Mo none rm_Mo_begin) {K : pj_M → Prop} (hE : pj_E g b (pj_Kv K))   {u : pj_M} {x2 : Int32}   (h : pb_Mo_begin_83  K u x2) : pj_J g (pj_N g b u) 83 [some (.ref (b + 217)), none, some (.int x2), none] [] := by
  unfold pb_Mo_begin_83 at h
  refine pj_aload_n C d_Mo_begin_83 (pc' := 84) (i := 0) (x := b + 217) rfl rfl rfl ?_
  refine pj_iconst C d_Mo_begin_84 (pc' := 85) rfl (v := 1) (by decide) ?_
  refine ck_Model_236_Model C  h d_Mo_begin_85 (pc' := 88) rfl ⟨Nat.le_of_ble_eq_true rfl, Nat.le_of_ble_eq_true rfl⟩ (Nat.le_of_ble_eq_true rfl) (fun u1 h => ?_)
  exact pj_cut (pj_le_s (pj_le_n (pj_le_s (pj_le_n pj_le_e)))) (pt_Mo_begin_88 C hE   h)
def pb_Mo_begin_75  (K : pj_M → Prop) (u : pj_M) (x2 : Int32) (x3 : Int32) (s0 : Int32) (s1 : Int32) : Prop := pw_Mo_request u s1 s0 fun u1 => (((x3 = 2) → (pb_Mo_begin_83  K u1 x2)) ∧ (¬ (x3 = 2) → (pb_Mo_begin_88  K u1 x2)))
set_option maxHeartbeats 1000000 in
theorem pt_Mo_begin_75 {g : pj_G} {b : Nat} (C : pj_X g c_Mo_begin 4 R_Mo none rm_Mo_begin) {K : pj_M → Prop} (hE : pj_E g b (pj_Kv K))   {u : pj_M} {x2 : Int32} {x3 : Int32} {s0 : Int32} {s1 : Int32}   (h : pb_Mo_begin_75  K u x2 x3 s0 s1) : pj_J g (pj_N g b u) 75 [some (.ref (b + 217)), none, some (.int x2), some (.int x3)] [.int s0, .int s1, .ref (b + 217)] := by
  unfold pb_Mo_begin_75 at h
  refine ck_Model_342_Model C  h d_Mo_begin_75 (pc' := 78) rfl ⟨Nat.le_of_ble_eq_true rfl, Nat.le_of_ble_eq_true rfl⟩ (Nat.le_of_ble_eq_true rfl) (fun u1 h => ?_)
  refine pj_iload_n C d_Mo_begin_78 (pc' := 79) (i := 3) (x := x3) rfl rfl rfl ?_
  refine pj_iconst C d_Mo_begin_79 (pc' := 80) rfl (v := 2) (by decide) ?_
  refine pj_icmp_ne C d_Mo_begin_80 (pc' := 83) rfl (tgt := 88) (by decide) h (fun h => ?_) (fun h => ?_)
  · exact pj_cut (pj_le_s (pj_le_n (pj_le_s (pj_le_n pj_le_e)))) (pt_Mo_begin_88 C hE   h)
  · exact pj_cut (pj_le_s (pj_le_n (pj_le_s (pj_le_n pj_le_e)))) (pt_Mo_begin_83 C hE   h)
def pb_Mo_begin_73  (K : pj_M → Prop) (u : pj_M) (x2 : Int32) (x3 : Int32) (s0 : Int32) : Prop := pb_Mo_begin_75  K u x2 x3 51 s0
set_option maxHeartbeats 1000000 in
theorem pt_Mo_begin_73 {g : pj_G} {b : Nat} (C : pj_X g c_Mo_begin 4 R_Mo none rm_Mo_begin) {K : pj_M → Prop} (hE : pj_E g b (pj_Kv K))   {u : pj_M} {x2 : Int32} {x3 : Int32} {s0 : Int32}   (h : pb_Mo_begin_73  K u x2 x3 s0) : pj_J g (pj_N g b u) 73 [some (.ref (b + 217)), none, some (.int x2), some (.int x3)] [.int s0, .ref (b + 217)] := by
  unfold pb_Mo_begin_73 at h
  refine pj_bipush C d_Mo_begin_73 (pc' := 75) rfl (v := 51) (by decide) ?_
  exact pj_cut (pj_le_s (pj_le_n (pj_le_s (pj_le_s pj_le_e)))) (pt_Mo_begin_75 C hE   h)
def pb_Mo_begin_69  (K : pj_M → Prop) (u : pj_M) (x2 : Int32) (x3 : Int32) (s0 : Int32) : Prop := pb_Mo_begin_75  K u x2 x3 4 s0
set_option maxHeartbeats 1000000 in
theorem pt_Mo_begin_69 {g : pj_G} {b : Nat} (C : pj_X g c_Mo_begin 4 R_Mo none rm_Mo_begin) {K : pj_M → Prop} (hE : pj_E g b (pj_Kv K))   {u : pj_M} {x2 : Int32} {x3 : Int32} {s0 : Int32}   (h : pb_Mo_begin_69  K u x2 x3 s0) : pj_J g (pj_N g b u) 69 [some (.ref (b + 217)), none, some (.int x2), some (.int x3)] [.int s0, .ref (b + 217)] := by
  unfold pb_Mo_begin_69 at h
  refine pj_iconst C d_Mo_begin_69 (pc' := 70) rfl (v := 4) (by decide) ?_
  refine pj_goto C d_Mo_begin_70 (tgt := 75) (by decide) ?_
  exact pj_cut (pj_le_s (pj_le_n (pj_le_s (pj_le_s pj_le_e)))) (pt_Mo_begin_75 C hE   h)
def pb_Mo_begin_0  (K : pj_M → Prop) (u : pj_M) (x1 : Int32) (x2 : Int32) (x3 : Int32) : Prop := vp_in x2 8 ∧ pj_put u 245 x2.toNatClampNeg x3 fun u1 => (vp_in x2 8 ∧ (vp_in x2 8 ∧ pj_put u1 246 x2.toNatClampNeg ((u1 246 x2.toNatClampNeg) ||| x3) fun u2 => (vp_in x2 8 ∧ pj_put u2 249 x2.toNatClampNeg (vp_nar .boolean 0) fun u3 => (vp_in x2 8 ∧ (vp_in (u3 244 x2.toNatClampNeg) 8 ∧ (vp_in x1 2 ∧ (pw_Mo_mixed u3 (u3 219 (u3 244 x2.toNatClampNeg).toNatClampNeg) x1 (u3 241 x1.toNatClampNeg) fun r5 u4 => (vp_in x2 8 ∧ pj_put u4 248 x2.toNatClampNeg r5 fun u6 => (vp_in x1 2 ∧ (vp_in x1 2 ∧ pj_put u6 241 x1.toNatClampNeg ((u6 241 x1.toNatClampNeg) + 1) fun u7 => (((x3 = 1) → (pb_Mo_begin_69  K u7 x2 x3 x2)) ∧ (¬ (x3 = 1) → (pb_Mo_begin_73  K u7 x2 x3 x2)))))))))))))
set_option maxHeartbeats 1000000 in
theorem pt_Mo_begin_0 {g : pj_G} {b : Nat} (C : pj_X g c_Mo_begin 4 R_Mo none rm_Mo_begin) {K : pj_M → Prop} (hE : pj_E g b (pj_Kv K))   {u : pj_M} {x1 : Int32} {x2 : Int32} {x3 : Int32}   (h : pb_Mo_begin_0  K u x1 x2 x3) : pj_J g (pj_N g b u) 0 [some (.ref (b + 217)), some (.int x1), some (.int x2), some (.int x3)] [] := by
  unfold pb_Mo_begin_0 at h
  refine pj_aload_n C d_Mo_begin_0 (pc' := 1) (i := 0) (x := b + 217) rfl rfl rfl ?_
  refine fg_Model_92_Model C tk_217 d_Mo_begin_1 (pc' := 4) rfl ?_
  refine pj_iload_n C d_Mo_begin_4 (pc' := 5) (i := 2) (x := x2) rfl rfl rfl ?_
  refine pj_iload_n C d_Mo_begin_5 (pc' := 6) (i := 3) (x := x3) rfl rfl rfl ?_
  refine pj_iast C (pj_lt tk_245 (by decide)) (fun E u => ka_20 tk_245) d_Mo_begin_6 (pc' := 7) rfl h (fun u1 h => ?_)
  refine pj_aload_n C d_Mo_begin_7 (pc' := 8) (i := 0) (x := b + 217) rfl rfl rfl ?_
  refine fg_Model_95_Model C tk_217 d_Mo_begin_8 (pc' := 11) rfl ?_
  refine pj_iload_n C d_Mo_begin_11 (pc' := 12) (i := 2) (x := x2) rfl rfl rfl ?_
  refine pj_dup2_11 C d_Mo_begin_12 (pc' := 13) rfl rfl rfl ?_
  refine pj_iald C (pj_lt tk_246 (by decide)) (fun E u => ka_20 tk_246) d_Mo_begin_13 (pc' := 14) rfl h (fun h => ?_)
  refine pj_iload_n C d_Mo_begin_14 (pc' := 15) (i := 3) (x := x3) rfl rfl rfl ?_
  refine pj_ior C d_Mo_begin_15 (pc' := 16) rfl ?_
  refine pj_iast C (pj_lt tk_246 (by decide)) (fun E u => ka_20 tk_246) d_Mo_begin_16 (pc' := 17) rfl h (fun u2 h => ?_)
  refine pj_aload_n C d_Mo_begin_17 (pc' := 18) (i := 0) (x := b + 217) rfl rfl rfl ?_
  refine fg_Model_104_Model C tk_217 d_Mo_begin_18 (pc' := 21) rfl ?_
  refine pj_iload_n C d_Mo_begin_21 (pc' := 22) (i := 2) (x := x2) rfl rfl rfl ?_
  refine pj_iconst C d_Mo_begin_22 (pc' := 23) rfl (v := 0) (by decide) ?_
  refine pj_zast C (pj_lt tk_249 (by decide)) (fun E u => ka_30 tk_249) d_Mo_begin_23 (pc' := 24) rfl h (fun u3 h => ?_)
  refine pj_aload_n C d_Mo_begin_24 (pc' := 25) (i := 0) (x := b + 217) rfl rfl rfl ?_
  refine fg_Model_101_Model C tk_217 d_Mo_begin_25 (pc' := 28) rfl ?_
  refine pj_iload_n C d_Mo_begin_28 (pc' := 29) (i := 2) (x := x2) rfl rfl rfl ?_
  refine pj_aload_n C d_Mo_begin_29 (pc' := 30) (i := 0) (x := b + 217) rfl rfl rfl ?_
  refine pj_aload_n C d_Mo_begin_30 (pc' := 31) (i := 0) (x := b + 217) rfl rfl rfl ?_
  refine fg_Model_13_Model C tk_217 d_Mo_begin_31 (pc' := 34) rfl ?_
  refine pj_aload_n C d_Mo_begin_34 (pc' := 35) (i := 0) (x := b + 217) rfl rfl rfl ?_
  refine fg_Model_89_Model C tk_217 d_Mo_begin_35 (pc' := 38) rfl ?_
  refine pj_iload_n C d_Mo_begin_38 (pc' := 39) (i := 2) (x := x2) rfl rfl rfl ?_
  refine pj_iald C (pj_lt tk_244 (by decide)) (fun E u => ka_20 tk_244) d_Mo_begin_39 (pc' := 40) rfl h (fun h => ?_)
  refine pj_iald C (pj_lt tk_219 (by decide)) (fun E u => ka_20 tk_219) d_Mo_begin_40 (pc' := 41) rfl h (fun h => ?_)
  refine pj_iload_n C d_Mo_begin_41 (pc' := 42) (i := 1) (x := x1) rfl rfl rfl ?_
  refine pj_aload_n C d_Mo_begin_42 (pc' := 43) (i := 0) (x := b + 217) rfl rfl rfl ?_
  refine fg_Model_80_Model C tk_217 d_Mo_begin_43 (pc' := 46) rfl ?_
  refine pj_iload_n C d_Mo_begin_46 (pc' := 47) (i := 1) (x := x1) rfl rfl rfl ?_
  refine pj_iald C (pj_lt tk_241 (by decide)) (fun E u => ka_33 tk_241) d_Mo_begin_47 (pc' := 48) rfl h (fun h => ?_)
  refine ck_Model_297_Model C  h d_Mo_begin_48 (pc' := 51) rfl ⟨Nat.le_of_ble_eq_true rfl, Nat.le_of_ble_eq_true rfl⟩ (Nat.le_of_ble_eq_true rfl) (fun r5 u4 h => ?_)
  refine pj_iast C (pj_lt tk_248 (by decide)) (fun E u => ka_20 tk_248) d_Mo_begin_51 (pc' := 52) rfl h (fun u6 h => ?_)
  refine pj_aload_n C d_Mo_begin_52 (pc' := 53) (i := 0) (x := b + 217) rfl rfl rfl ?_
  refine fg_Model_80_Model C tk_217 d_Mo_begin_53 (pc' := 56) rfl ?_
  refine pj_iload_n C d_Mo_begin_56 (pc' := 57) (i := 1) (x := x1) rfl rfl rfl ?_
  refine pj_dup2_11 C d_Mo_begin_57 (pc' := 58) rfl rfl rfl ?_
  refine pj_iald C (pj_lt tk_241 (by decide)) (fun E u => ka_33 tk_241) d_Mo_begin_58 (pc' := 59) rfl h (fun h => ?_)
  refine pj_iconst C d_Mo_begin_59 (pc' := 60) rfl (v := 1) (by decide) ?_
  refine pj_iadd C d_Mo_begin_60 (pc' := 61) rfl ?_
  refine pj_iast C (pj_lt tk_241 (by decide)) (fun E u => ka_33 tk_241) d_Mo_begin_61 (pc' := 62) rfl h (fun u7 h => ?_)
  refine pj_aload_n C d_Mo_begin_62 (pc' := 63) (i := 0) (x := b + 217) rfl rfl rfl ?_
  refine pj_iload_n C d_Mo_begin_63 (pc' := 64) (i := 2) (x := x2) rfl rfl rfl ?_
  refine pj_iload_n C d_Mo_begin_64 (pc' := 65) (i := 3) (x := x3) rfl rfl rfl ?_
  refine pj_iconst C d_Mo_begin_65 (pc' := 66) rfl (v := 1) (by decide) ?_
  refine pj_icmp_ne C d_Mo_begin_66 (pc' := 69) rfl (tgt := 73) (by decide) h (fun h => ?_) (fun h => ?_)
  · exact pj_cut (pj_le_s (pj_le_n (pj_le_s (pj_le_s pj_le_e)))) (pt_Mo_begin_73 C hE   h)
  · exact pj_cut (pj_le_s (pj_le_n (pj_le_s (pj_le_s pj_le_e)))) (pt_Mo_begin_69 C hE   h)
def pw_Mo_begin (u : pj_M) (x1 : Int32) (x2 : Int32) (x3 : Int32) (K : pj_M → Prop) : Prop := pb_Mo_begin_0  K u x1 x2 x3
theorem pc_Mo_begin (l : Launch) (D : va_G) (E : Nat → ClassId) {b : Nat} {u : pj_M} {x1 : Int32} {x2 : Int32} {x3 : Int32} {K : pj_M → Prop}  (h : pw_Mo_begin u x1 x2 x3 K) : pj_C l y_Mo_begin c_Mo_begin 4 none rm_Mo_begin D E b [.ref (b + 217), .int x1, .int x2, .int x3] u (pj_Kv K) := by
  refine pj_met (own := R_Mo) (by decide +kernel) rfl (Nat.le_of_ble_eq_true rfl) (fun g hE C => ?_)
  unfold pw_Mo_begin at h
  show pj_J g (pj_N g b u) 0 [some (.ref (b + 217)), some (.int x1), some (.int x2), some (.int x3)] []
  exact pj_cut (pj_le_s (pj_le_s (pj_le_s (pj_le_s pj_le_e)))) (pt_Mo_begin_0 C hE   h)
/-! Model.identified(I)I -/
theorem fg_Model_77_Model {g : pj_G} {b : Nat} {cc : ByteArray} {nL : Nat} {ret : Option FieldType} {rm : Room} {u : pj_M} {pc pc' : Nat} {vs : List (Option Value)} {st : List Value} (C : pj_X g cc nL R_Mo ret rm) {i : Nat} (t : pj_T i = 11) (hdg : decode cc pc = .ok (.getfield 77, 3)) (hp : pc + 3 = pc') (kk : pj_J g (pj_N g b u) pc' vs (.ref (b + 240) :: st)) : pj_J g (pj_N g b u) pc vs (.ref (b + i) :: st) :=
  pj_get C cl_Model hin_Model (k := 31) (Nat.le_of_ble_eq_true rfl) wm_1155 (Or.inl rfl) (pj_lt t (by decide)) (fun E => ko_11 t) rfl hdg hp kk
theorem ck_Model_335_Model {g : pj_G} {b : Nat} {cc : ByteArray} {nL : Nat} {ret : Option FieldType} {rm : Room} {u : pj_M} {pc pc' : Nat} {vs : List (Option Value)} {st : List Value} (C : pj_X g cc nL R_Mo ret rm) {x1 : Int32} {x2 : Int32} {K : pj_M → Prop}  (h : pw_Mo_endSession u x1 x2 K) (hdg : decode cc pc = .ok (.invokevirtual 335, 3)) (hp : pc + 3 = pc') (hR : rm_Mo_endSession.frames + 1 ≤ rm.frames ∧ 8 + (4 + 11) + rm_Mo_endSession.locals ≤ rm.locals) (h8 : (st.map fun v => v.category).sum ≤ 8) (kk : ∀ u', K u' → pj_J g (pj_N g b u') pc' vs st) : pj_J g (pj_N g b u) pc vs (.int x2 :: .int x1 :: .ref (b + 217) :: st) :=
  pj_callV C (As := [.int x1, .int x2]) (fun l D E => pc_Mo_endSession l D E  h) rfl rfl cl_Model (pj_lt tk_217 (by decide)) (fun E => ko_11 tk_217) wm_1552 wm_1554 wm_83 wm_103 wm_1555 (by decide +kernel) (n := 2) rfl hR rfl h8 hdg hp (fun v u' hq => by obtain ⟨rfl, hk⟩ := hq; exact kk u' hk)
theorem ck_Model_339_Model {g : pj_G} {b : Nat} {cc : ByteArray} {nL : Nat} {ret : Option FieldType} {rm : Room} {u : pj_M} {pc pc' : Nat} {vs : List (Option Value)} {st : List Value} (C : pj_X g cc nL R_Mo ret rm) {x1 : Int32} {x2 : Int32} {x3 : Int32} {K : pj_M → Prop}  (h : pw_Mo_begin u x1 x2 x3 K) (hdg : decode cc pc = .ok (.invokevirtual 339, 3)) (hp : pc + 3 = pc') (hR : rm_Mo_begin.frames + 1 ≤ rm.frames ∧ 8 + (4 + 11) + rm_Mo_begin.locals ≤ rm.locals) (h8 : (st.map fun v => v.category).sum ≤ 8) (kk : ∀ u', K u' → pj_J g (pj_N g b u') pc' vs st) : pj_J g (pj_N g b u) pc vs (.int x3 :: .int x2 :: .int x1 :: .ref (b + 217) :: st) :=
  pj_callV C (As := [.int x1, .int x2, .int x3]) (fun l D E => pc_Mo_begin l D E  h) rfl rfl cl_Model (pj_lt tk_217 (by decide)) (fun E => ko_11 tk_217) wm_1557 wm_1559 wm_84 wm_103 wm_1560 (by decide +kernel) (n := 3) rfl hR rfl h8 hdg hp (fun v u' hq => by obtain ⟨rfl, hk⟩ := hq; exact kk u' hk)
def rm_Mo_identified : Room := { frames := 4, cells := 0, slots := 0, locals := 89 }
def pb_Mo_identified_33  (K : Int32 → pj_M → Prop) (u : pj_M)  : Prop := K 0 u
set_option maxHeartbeats 1000000 in
theorem pt_Mo_identified_33 {g : pj_G} {b : Nat} (C : pj_X g c_Mo_identified 3 R_Mo (some .int) rm_Mo_identified) {K : Int32 → pj_M → Prop} (hE : pj_E g b (pj_Ki K))   {u : pj_M}    (h : pb_Mo_identified_33  K u ) : pj_J g (pj_N g b u) 33 [none, none, none] [] := by
  unfold pb_Mo_identified_33 at h
  refine pj_iconst C d_Mo_identified_33 (pc' := 34) rfl (v := 0) (by decide) ?_
  exact pj_iret C hE d_Mo_identified_34 ⟨_, rfl, h⟩
def pb_Mo_identified_143  (K : Int32 → pj_M → Prop) (u : pj_M) (s0 : Int32) (s1 : Int32) (s2 : Int32) : Prop := pw_Mo_begin u s2 s1 s0 fun u1 => (K 2 u1)
set_option maxHeartbeats 1000000 in
theorem pt_Mo_identified_143 {g : pj_G} {b : Nat} (C : pj_X g c_Mo_identified 3 R_Mo (some .int) rm_Mo_identified) {K : Int32 → pj_M → Prop} (hE : pj_E g b (pj_Ki K))   {u : pj_M} {s0 : Int32} {s1 : Int32} {s2 : Int32}   (h : pb_Mo_identified_143  K u s0 s1 s2) : pj_J g (pj_N g b u) 143 [none, none, none] [.int s0, .int s1, .int s2, .ref (b + 217)] := by
  unfold pb_Mo_identified_143 at h
  refine ck_Model_339_Model C  h d_Mo_identified_143 (pc' := 146) rfl ⟨Nat.le_of_ble_eq_true rfl, Nat.le_of_ble_eq_true rfl⟩ (Nat.le_of_ble_eq_true rfl) (fun u1 h => ?_)
  refine pj_iconst C d_Mo_identified_146 (pc' := 147) rfl (v := 2) (by decide) ?_
  exact pj_iret C hE d_Mo_identified_147 ⟨_, rfl, h⟩
def pb_Mo_identified_142  (K : Int32 → pj_M → Prop) (u : pj_M) (s0 : Int32) (s1 : Int32) : Prop := pb_Mo_identified_143  K u 2 s0 s1
set_option maxHeartbeats 1000000 in
theorem pt_Mo_identified_142 {g : pj_G} {b : Nat} (C : pj_X g c_Mo_identified 3 R_Mo (some .int) rm_Mo_identified) {K : Int32 → pj_M → Prop} (hE : pj_E g b (pj_Ki K))   {u : pj_M} {s0 : Int32} {s1 : Int32}   (h : pb_Mo_identified_142  K u s0 s1) : pj_J g (pj_N g b u) 142 [none, none, none] [.int s0, .int s1, .ref (b + 217)] := by
  unfold pb_Mo_identified_142 at h
  refine pj_iconst C d_Mo_identified_142 (pc' := 143) rfl (v := 2) (by decide) ?_
  exact pj_cut (pj_le_n (pj_le_n (pj_le_n pj_le_e))) (pt_Mo_identified_143 C hE   h)
def pb_Mo_identified_138  (K : Int32 → pj_M → Prop) (u : pj_M) (s0 : Int32) (s1 : Int32) : Prop := pb_Mo_identified_143  K u 1 s0 s1
set_option maxHeartbeats 1000000 in
theorem pt_Mo_identified_138 {g : pj_G} {b : Nat} (C : pj_X g c_Mo_identified 3 R_Mo (some .int) rm_Mo_identified) {K : Int32 → pj_M → Prop} (hE : pj_E g b (pj_Ki K))   {u : pj_M} {s0 : Int32} {s1 : Int32}   (h : pb_Mo_identified_138  K u s0 s1) : pj_J g (pj_N g b u) 138 [none, none, none] [.int s0, .int s1, .ref (b + 217)] := by
  unfold pb_Mo_identified_138 at h
  refine pj_iconst C d_Mo_identified_138 (pc' := 139) rfl (v := 1) (by decide) ?_
  refine pj_goto C d_Mo_identified_139 (tgt := 143) (by decide) ?_
  exact pj_cut (pj_le_n (pj_le_n (pj_le_n pj_le_e))) (pt_Mo_identified_143 C hE   h)
def pb_Mo_identified_53  (K : Int32 → pj_M → Prop) (u : pj_M) (x1 : Int32) : Prop := vp_in x1 2 ∧ (pj_let ((4 * x1) + (u 242 x1.toNatClampNeg)) fun y1 => (vp_in x1 2 ∧ (vp_in x1 2 ∧ pj_put u 242 x1.toNatClampNeg ((u 242 x1.toNatClampNeg) + 1) fun u2 => (vp_in x1 2 ∧ (vp_in y1 8 ∧ pj_put u2 243 y1.toNatClampNeg ((u2 240 x1.toNatClampNeg) &&& 65535) fun u3 => (vp_in x1 2 ∧ (vp_in x1 2 ∧ pj_put u3 240 x1.toNatClampNeg ((u3 240 x1.toNatClampNeg) + 1) fun u4 => (vp_in 4 48 ∧ (vp_in y1 8 ∧ pj_put u4 244 y1.toNatClampNeg (u4 227 (4 : Int32).toNatClampNeg) fun u5 => (vp_in y1 8 ∧ pj_put u5 246 y1.toNatClampNeg 0 fun u6 => (vp_in 4 48 ∧ (vp_in (u6 227 (4 : Int32).toNatClampNeg) 8 ∧ (((((u6 220 (u6 227 (4 : Int32).toNatClampNeg).toNatClampNeg) &&& 1) = 0) → (pb_Mo_identified_142  K u6 y1 x1)) ∧ (¬ (((u6 220 (u6 227 (4 : Int32).toNatClampNeg).toNatClampNeg) &&& 1) = 0) → (pb_Mo_identified_138  K u6 y1 x1)))))))))))))))
set_option maxHeartbeats 1000000 in
theorem pt_Mo_identified_53 {g : pj_G} {b : Nat} (C : pj_X g c_Mo_identified 3 R_Mo (some .int) rm_Mo_identified) {K : Int32 → pj_M → Prop} (hE : pj_E g b (pj_Ki K))   {u : pj_M} {x1 : Int32}   (h : pb_Mo_identified_53  K u x1) : pj_J g (pj_N g b u) 53 [some (.ref (b + 217)), some (.int x1), none] [] := by
  unfold pb_Mo_identified_53 at h
  refine pj_iconst C d_Mo_identified_53 (pc' := 54) rfl (v := 4) (by decide) ?_
  refine pj_iload_n C d_Mo_identified_54 (pc' := 55) (i := 1) (x := x1) rfl rfl rfl ?_
  refine pj_imul C d_Mo_identified_55 (pc' := 56) rfl ?_
  refine pj_aload_n C d_Mo_identified_56 (pc' := 57) (i := 0) (x := b + 217) rfl rfl rfl ?_
  refine fg_Model_83_Model C tk_217 d_Mo_identified_57 (pc' := 60) rfl ?_
  refine pj_iload_n C d_Mo_identified_60 (pc' := 61) (i := 1) (x := x1) rfl rfl rfl ?_
  refine pj_iald C (pj_lt tk_242 (by decide)) (fun E u => ka_33 tk_242) d_Mo_identified_61 (pc' := 62) rfl h (fun h => ?_)
  refine pj_iadd C d_Mo_identified_62 (pc' := 63) rfl ?_
  refine pj_name h (fun y1 h => ?_)
  refine pj_istore_n C d_Mo_identified_63 (pc' := 64) (i := 2) (vs' := [some (.ref (b + 217)), some (.int x1), some (.int y1)]) rfl rfl (Nat.le_of_ble_eq_true rfl) (Nat.le_of_ble_eq_true rfl) rfl rfl ?_
  refine pj_aload_n C d_Mo_identified_64 (pc' := 65) (i := 0) (x := b + 217) rfl rfl rfl ?_
  refine fg_Model_83_Model C tk_217 d_Mo_identified_65 (pc' := 68) rfl ?_
  refine pj_iload_n C d_Mo_identified_68 (pc' := 69) (i := 1) (x := x1) rfl rfl rfl ?_
  refine pj_dup2_11 C d_Mo_identified_69 (pc' := 70) rfl rfl rfl ?_
  refine pj_iald C (pj_lt tk_242 (by decide)) (fun E u => ka_33 tk_242) d_Mo_identified_70 (pc' := 71) rfl h (fun h => ?_)
  refine pj_iconst C d_Mo_identified_71 (pc' := 72) rfl (v := 1) (by decide) ?_
  refine pj_iadd C d_Mo_identified_72 (pc' := 73) rfl ?_
  refine pj_iast C (pj_lt tk_242 (by decide)) (fun E u => ka_33 tk_242) d_Mo_identified_73 (pc' := 74) rfl h (fun u2 h => ?_)
  refine pj_aload_n C d_Mo_identified_74 (pc' := 75) (i := 0) (x := b + 217) rfl rfl rfl ?_
  refine fg_Model_86_Model C tk_217 d_Mo_identified_75 (pc' := 78) rfl ?_
  refine pj_iload_n C d_Mo_identified_78 (pc' := 79) (i := 2) (x := y1) rfl rfl rfl ?_
  refine pj_aload_n C d_Mo_identified_79 (pc' := 80) (i := 0) (x := b + 217) rfl rfl rfl ?_
  refine fg_Model_77_Model C tk_217 d_Mo_identified_80 (pc' := 83) rfl ?_
  refine pj_iload_n C d_Mo_identified_83 (pc' := 84) (i := 1) (x := x1) rfl rfl rfl ?_
  refine pj_iald C (pj_lt tk_240 (by decide)) (fun E u => ka_33 tk_240) d_Mo_identified_84 (pc' := 85) rfl h (fun h => ?_)
  refine pj_ldcw C d_Mo_identified_85 (pc' := 88) rfl (v := 65535) wm_1556 ?_
  refine pj_iand C d_Mo_identified_88 (pc' := 89) rfl ?_
  refine pj_iast C (pj_lt tk_243 (by decide)) (fun E u => ka_20 tk_243) d_Mo_identified_89 (pc' := 90) rfl h (fun u3 h => ?_)
  refine pj_aload_n C d_Mo_identified_90 (pc' := 91) (i := 0) (x := b + 217) rfl rfl rfl ?_
  refine fg_Model_77_Model C tk_217 d_Mo_identified_91 (pc' := 94) rfl ?_
  refine pj_iload_n C d_Mo_identified_94 (pc' := 95) (i := 1) (x := x1) rfl rfl rfl ?_
  refine pj_dup2_11 C d_Mo_identified_95 (pc' := 96) rfl rfl rfl ?_
  refine pj_iald C (pj_lt tk_240 (by decide)) (fun E u => ka_33 tk_240) d_Mo_identified_96 (pc' := 97) rfl h (fun h => ?_)
  refine pj_iconst C d_Mo_identified_97 (pc' := 98) rfl (v := 1) (by decide) ?_
  refine pj_iadd C d_Mo_identified_98 (pc' := 99) rfl ?_
  refine pj_iast C (pj_lt tk_240 (by decide)) (fun E u => ka_33 tk_240) d_Mo_identified_99 (pc' := 100) rfl h (fun u4 h => ?_)
  refine pj_aload_n C d_Mo_identified_100 (pc' := 101) (i := 0) (x := b + 217) rfl rfl rfl ?_
  refine fg_Model_89_Model C tk_217 d_Mo_identified_101 (pc' := 104) rfl ?_
  refine pj_iload_n C d_Mo_identified_104 (pc' := 105) (i := 2) (x := y1) rfl rfl rfl ?_
  refine pj_aload_n C d_Mo_identified_105 (pc' := 106) (i := 0) (x := b + 217) rfl rfl rfl ?_
  refine fg_Model_38_Model C tk_217 d_Mo_identified_106 (pc' := 109) rfl ?_
  refine pj_iconst C d_Mo_identified_109 (pc' := 110) rfl (v := 4) (by decide) ?_
  refine pj_iald C (pj_lt tk_227 (by decide)) (fun E u => ka_22 tk_227) d_Mo_identified_110 (pc' := 111) rfl h (fun h => ?_)
  refine pj_iast C (pj_lt tk_244 (by decide)) (fun E u => ka_20 tk_244) d_Mo_identified_111 (pc' := 112) rfl h (fun u5 h => ?_)
  refine pj_aload_n C d_Mo_identified_112 (pc' := 113) (i := 0) (x := b + 217) rfl rfl rfl ?_
  refine fg_Model_95_Model C tk_217 d_Mo_identified_113 (pc' := 116) rfl ?_
  refine pj_iload_n C d_Mo_identified_116 (pc' := 117) (i := 2) (x := y1) rfl rfl rfl ?_
  refine pj_iconst C d_Mo_identified_117 (pc' := 118) rfl (v := 0) (by decide) ?_
  refine pj_iast C (pj_lt tk_246 (by decide)) (fun E u => ka_20 tk_246) d_Mo_identified_118 (pc' := 119) rfl h (fun u6 h => ?_)
  refine pj_aload_n C d_Mo_identified_119 (pc' := 120) (i := 0) (x := b + 217) rfl rfl rfl ?_
  refine pj_iload_n C d_Mo_identified_120 (pc' := 121) (i := 1) (x := x1) rfl rfl rfl ?_
  refine pj_iload_n C d_Mo_identified_121 (pc' := 122) (i := 2) (x := y1) rfl rfl rfl ?_
  refine pj_aload_n C d_Mo_identified_122 (pc' := 123) (i := 0) (x := b + 217) rfl rfl rfl ?_
  refine fg_Model_17_Model C tk_217 d_Mo_identified_123 (pc' := 126) rfl ?_
  refine pj_aload_n C d_Mo_identified_126 (pc' := 127) (i := 0) (x := b + 217) rfl rfl rfl ?_
  refine fg_Model_38_Model C tk_217 d_Mo_identified_127 (pc' := 130) rfl ?_
  refine pj_iconst C d_Mo_identified_130 (pc' := 131) rfl (v := 4) (by decide) ?_
  refine pj_iald C (pj_lt tk_227 (by decide)) (fun E u => ka_22 tk_227) d_Mo_identified_131 (pc' := 132) rfl h (fun h => ?_)
  refine pj_iald C (pj_lt tk_220 (by decide)) (fun E u => ka_20 tk_220) d_Mo_identified_132 (pc' := 133) rfl h (fun h => ?_)
  refine pj_iconst C d_Mo_identified_133 (pc' := 134) rfl (v := 1) (by decide) ?_
  refine pj_iand C d_Mo_identified_134 (pc' := 135) rfl ?_
  refine pj_if_eq C d_Mo_identified_135 (pc' := 138) rfl (tgt := 142) (by decide) h (fun h => ?_) (fun h => ?_)
  · exact pj_cut (pj_le_n (pj_le_n (pj_le_n pj_le_e))) (pt_Mo_identified_142 C hE   h)
  · exact pj_cut (pj_le_n (pj_le_n (pj_le_n pj_le_e))) (pt_Mo_identified_138 C hE   h)
def pb_Mo_identified_45  (K : Int32 → pj_M → Prop) (u : pj_M) (x1 : Int32) : Prop := pw_Mo_endSession u x1 (4 * x1) fun u1 => (pb_Mo_identified_53  K u1 x1)
set_option maxHeartbeats 1000000 in
theorem pt_Mo_identified_45 {g : pj_G} {b : Nat} (C : pj_X g c_Mo_identified 3 R_Mo (some .int) rm_Mo_identified) {K : Int32 → pj_M → Prop} (hE : pj_E g b (pj_Ki K))   {u : pj_M} {x1 : Int32}   (h : pb_Mo_identified_45  K u x1) : pj_J g (pj_N g b u) 45 [some (.ref (b + 217)), some (.int x1), none] [] := by
  unfold pb_Mo_identified_45 at h
  refine pj_aload_n C d_Mo_identified_45 (pc' := 46) (i := 0) (x := b + 217) rfl rfl rfl ?_
  refine pj_iload_n C d_Mo_identified_46 (pc' := 47) (i := 1) (x := x1) rfl rfl rfl ?_
  refine pj_iconst C d_Mo_identified_47 (pc' := 48) rfl (v := 4) (by decide) ?_
  refine pj_iload_n C d_Mo_identified_48 (pc' := 49) (i := 1) (x := x1) rfl rfl rfl ?_
  refine pj_imul C d_Mo_identified_49 (pc' := 50) rfl ?_
  refine ck_Model_335_Model C  h d_Mo_identified_50 (pc' := 53) rfl ⟨Nat.le_of_ble_eq_true rfl, Nat.le_of_ble_eq_true rfl⟩ (Nat.le_of_ble_eq_true rfl) (fun u1 h => ?_)
  exact pj_cut (pj_le_s (pj_le_s (pj_le_n pj_le_e))) (pt_Mo_identified_53 C hE   h)
def pb_Mo_identified_35  (K : Int32 → pj_M → Prop) (u : pj_M) (x1 : Int32) : Prop := vp_in x1 2 ∧ ((((u 242 x1.toNatClampNeg) = 4) → (pb_Mo_identified_45  K u x1)) ∧ (¬ ((u 242 x1.toNatClampNeg) = 4) → (pb_Mo_identified_53  K u x1)))
set_option maxHeartbeats 1000000 in
theorem pt_Mo_identified_35 {g : pj_G} {b : Nat} (C : pj_X g c_Mo_identified 3 R_Mo (some .int) rm_Mo_identified) {K : Int32 → pj_M → Prop} (hE : pj_E g b (pj_Ki K))   {u : pj_M} {x1 : Int32}   (h : pb_Mo_identified_35  K u x1) : pj_J g (pj_N g b u) 35 [some (.ref (b + 217)), some (.int x1), none] [] := by
  unfold pb_Mo_identified_35 at h
  refine pj_aload_n C d_Mo_identified_35 (pc' := 36) (i := 0) (x := b + 217) rfl rfl rfl ?_
  refine fg_Model_83_Model C tk_217 d_Mo_identified_36 (pc' := 39) rfl ?_
  refine pj_iload_n C d_Mo_identified_39 (pc' := 40) (i := 1) (x := x1) rfl rfl rfl ?_
  refine pj_iald C (pj_lt tk_242 (by decide)) (fun E u => ka_33 tk_242) d_Mo_identified_40 (pc' := 41) rfl h (fun h => ?_)
  refine pj_iconst C d_Mo_identified_41 (pc' := 42) rfl (v := 4) (by decide) ?_
  refine pj_icmp_ne C d_Mo_identified_42 (pc' := 45) rfl (tgt := 53) (by decide) h (fun h => ?_) (fun h => ?_)
  · exact pj_cut (pj_le_s (pj_le_s (pj_le_n pj_le_e))) (pt_Mo_identified_53 C hE   h)
  · exact pj_cut (pj_le_s (pj_le_s (pj_le_n pj_le_e))) (pt_Mo_identified_45 C hE   h)
def pb_Mo_identified_19  (K : Int32 → pj_M → Prop) (u : pj_M) (x1 : Int32) : Prop := vp_in 4 48 ∧ (vp_in (u 227 (4 : Int32).toNatClampNeg) 8 ∧ ((((u 218 (u 227 (4 : Int32).toNatClampNeg).toNatClampNeg) = 0) → (pb_Mo_identified_33  K u )) ∧ (¬ ((u 218 (u 227 (4 : Int32).toNatClampNeg).toNatClampNeg) = 0) → (pb_Mo_identified_35  K u x1))))
set_option maxHeartbeats 1000000 in
theorem pt_Mo_identified_19 {g : pj_G} {b : Nat} (C : pj_X g c_Mo_identified 3 R_Mo (some .int) rm_Mo_identified) {K : Int32 → pj_M → Prop} (hE : pj_E g b (pj_Ki K))   {u : pj_M} {x1 : Int32}   (h : pb_Mo_identified_19  K u x1) : pj_J g (pj_N g b u) 19 [some (.ref (b + 217)), some (.int x1), none] [] := by
  unfold pb_Mo_identified_19 at h
  refine pj_aload_n C d_Mo_identified_19 (pc' := 20) (i := 0) (x := b + 217) rfl rfl rfl ?_
  refine fg_Model_7_Model C tk_217 d_Mo_identified_20 (pc' := 23) rfl ?_
  refine pj_aload_n C d_Mo_identified_23 (pc' := 24) (i := 0) (x := b + 217) rfl rfl rfl ?_
  refine fg_Model_38_Model C tk_217 d_Mo_identified_24 (pc' := 27) rfl ?_
  refine pj_iconst C d_Mo_identified_27 (pc' := 28) rfl (v := 4) (by decide) ?_
  refine pj_iald C (pj_lt tk_227 (by decide)) (fun E u => ka_22 tk_227) d_Mo_identified_28 (pc' := 29) rfl h (fun h => ?_)
  refine pj_zald C (pj_lt tk_218 (by decide)) (fun E u => ka_30 tk_218) d_Mo_identified_29 (pc' := 30) rfl h (fun h => ?_)
  refine pj_if_ne C d_Mo_identified_30 (pc' := 33) rfl (tgt := 35) (by decide) h (fun h => ?_) (fun h => ?_)
  · exact pj_cut (pj_le_s (pj_le_s (pj_le_n pj_le_e))) (pt_Mo_identified_35 C hE   h)
  · exact pj_cut (pj_le_n (pj_le_n (pj_le_n pj_le_e))) (pt_Mo_identified_33 C hE   h)
def pb_Mo_identified_8  (K : Int32 → pj_M → Prop) (u : pj_M) (x1 : Int32) : Prop := vp_in 4 48 ∧ (((7 < (u 227 (4 : Int32).toNatClampNeg)) → (pb_Mo_identified_33  K u )) ∧ (¬ (7 < (u 227 (4 : Int32).toNatClampNeg)) → (pb_Mo_identified_19  K u x1)))
set_option maxHeartbeats 1000000 in
theorem pt_Mo_identified_8 {g : pj_G} {b : Nat} (C : pj_X g c_Mo_identified 3 R_Mo (some .int) rm_Mo_identified) {K : Int32 → pj_M → Prop} (hE : pj_E g b (pj_Ki K))   {u : pj_M} {x1 : Int32}   (h : pb_Mo_identified_8  K u x1) : pj_J g (pj_N g b u) 8 [some (.ref (b + 217)), some (.int x1), none] [] := by
  unfold pb_Mo_identified_8 at h
  refine pj_aload_n C d_Mo_identified_8 (pc' := 9) (i := 0) (x := b + 217) rfl rfl rfl ?_
  refine fg_Model_38_Model C tk_217 d_Mo_identified_9 (pc' := 12) rfl ?_
  refine pj_iconst C d_Mo_identified_12 (pc' := 13) rfl (v := 4) (by decide) ?_
  refine pj_iald C (pj_lt tk_227 (by decide)) (fun E u => ka_22 tk_227) d_Mo_identified_13 (pc' := 14) rfl h (fun h => ?_)
  refine pj_bipush C d_Mo_identified_14 (pc' := 16) rfl (v := 7) (by decide) ?_
  refine pj_icmp_gt C d_Mo_identified_16 (pc' := 19) rfl (tgt := 33) (by decide) h (fun h => ?_) (fun h => ?_)
  · exact pj_cut (pj_le_n (pj_le_n (pj_le_n pj_le_e))) (pt_Mo_identified_33 C hE   h)
  · exact pj_cut (pj_le_s (pj_le_s (pj_le_n pj_le_e))) (pt_Mo_identified_19 C hE   h)
def pb_Mo_identified_0  (K : Int32 → pj_M → Prop) (u : pj_M) (x1 : Int32) : Prop := (((u 217 16) = 5) → (pb_Mo_identified_8  K u x1)) ∧ (¬ ((u 217 16) = 5) → (pb_Mo_identified_33  K u ))
set_option maxHeartbeats 1000000 in
theorem pt_Mo_identified_0 {g : pj_G} {b : Nat} (C : pj_X g c_Mo_identified 3 R_Mo (some .int) rm_Mo_identified) {K : Int32 → pj_M → Prop} (hE : pj_E g b (pj_Ki K))   {u : pj_M} {x1 : Int32}   (h : pb_Mo_identified_0  K u x1) : pj_J g (pj_N g b u) 0 [some (.ref (b + 217)), some (.int x1), none] [] := by
  unfold pb_Mo_identified_0 at h
  refine pj_aload_n C d_Mo_identified_0 (pc' := 1) (i := 0) (x := b + 217) rfl rfl rfl ?_
  refine fg_Model_233_Model C tk_217 d_Mo_identified_1 (pc' := 4) rfl ?_
  refine pj_iconst C d_Mo_identified_4 (pc' := 5) rfl (v := 5) (by decide) ?_
  refine pj_icmp_ne C d_Mo_identified_5 (pc' := 8) rfl (tgt := 33) (by decide) h (fun h => ?_) (fun h => ?_)
  · exact pj_cut (pj_le_n (pj_le_n (pj_le_n pj_le_e))) (pt_Mo_identified_33 C hE   h)
  · exact pj_cut (pj_le_s (pj_le_s (pj_le_n pj_le_e))) (pt_Mo_identified_8 C hE   h)
def pw_Mo_identified (u : pj_M) (x1 : Int32) (K : Int32 → pj_M → Prop) : Prop := pb_Mo_identified_0  K u x1
theorem pc_Mo_identified (l : Launch) (D : va_G) (E : Nat → ClassId) {b : Nat} {u : pj_M} {x1 : Int32} {K : Int32 → pj_M → Prop}  (h : pw_Mo_identified u x1 K) : pj_C l y_Mo_identified c_Mo_identified 3 (some .int) rm_Mo_identified D E b [.ref (b + 217), .int x1] u (pj_Ki K) := by
  refine pj_met (own := R_Mo) (by decide +kernel) rfl (Nat.le_of_ble_eq_true rfl) (fun g hE C => ?_)
  unfold pw_Mo_identified at h
  show pj_J g (pj_N g b u) 0 [some (.ref (b + 217)), some (.int x1), none] []
  exact pj_cut (pj_le_s (pj_le_s (pj_le_n pj_le_e))) (pt_Mo_identified_0 C hE   h)
/-! Model.met(II)I -/
def rm_Mo_met : Room := { frames := 4, cells := 0, slots := 0, locals := 89 }
def pb_Mo_met_278  (K : Int32 → pj_M → Prop) (u : pj_M)  : Prop := K 0 u
set_option maxHeartbeats 1000000 in
theorem pt_Mo_met_278 {g : pj_G} {b : Nat} (C : pj_X g c_Mo_met 6 R_Mo (some .int) rm_Mo_met) {K : Int32 → pj_M → Prop} (hE : pj_E g b (pj_Ki K))   {u : pj_M}    (h : pb_Mo_met_278  K u ) : pj_J g (pj_N g b u) 278 [none, none, none, none, none, none] [] := by
  unfold pb_Mo_met_278 at h
  refine pj_iconst C d_Mo_met_278 (pc' := 279) rfl (v := 0) (by decide) ?_
  exact pj_iret C hE d_Mo_met_279 ⟨_, rfl, h⟩
def pb_Mo_met_280  (K : Int32 → pj_M → Prop) (u : pj_M) (x2 : Int32) (x3 : Int32) : Prop := pw_Mo_packetInt u 5 fun r2 u1 => (vp_in x2 8 ∧ pj_put u1 250 x2.toNatClampNeg r2 fun u3 => (vp_in x2 8 ∧ pj_put u3 249 x2.toNatClampNeg (vp_nar .boolean 1) fun u4 => (pw_Mo_request u4 x2 51 fun u5 => (pw_Mo_addData u5 3 fun u6 => (vp_in x2 8 ∧ (vp_in x2 8 ∧ (pw_Mo_mac u6 x3 3 (u6 250 x2.toNatClampNeg) (u6 248 x2.toNatClampNeg) fun r8 u7 => (pw_Mo_addDataInt u7 r8 fun u9 => (K 2 u9)))))))))
set_option maxHeartbeats 1000000 in
theorem pt_Mo_met_280 {g : pj_G} {b : Nat} (C : pj_X g c_Mo_met 6 R_Mo (some .int) rm_Mo_met) {K : Int32 → pj_M → Prop} (hE : pj_E g b (pj_Ki K))   {u : pj_M} {x2 : Int32} {x3 : Int32}   (h : pb_Mo_met_280  K u x2 x3) : pj_J g (pj_N g b u) 280 [some (.ref (b + 217)), none, some (.int x2), some (.int x3), none, none] [] := by
  unfold pb_Mo_met_280 at h
  refine pj_aload_n C d_Mo_met_280 (pc' := 281) (i := 0) (x := b + 217) rfl rfl rfl ?_
  refine fg_Model_107_Model C tk_217 d_Mo_met_281 (pc' := 284) rfl ?_
  refine pj_iload_n C d_Mo_met_284 (pc' := 285) (i := 2) (x := x2) rfl rfl rfl ?_
  refine pj_aload_n C d_Mo_met_285 (pc' := 286) (i := 0) (x := b + 217) rfl rfl rfl ?_
  refine pj_iconst C d_Mo_met_286 (pc' := 287) rfl (v := 5) (by decide) ?_
  refine ck_Model_283_Model C  h d_Mo_met_287 (pc' := 290) rfl ⟨Nat.le_of_ble_eq_true rfl, Nat.le_of_ble_eq_true rfl⟩ (Nat.le_of_ble_eq_true rfl) (fun r2 u1 h => ?_)
  refine pj_iast C (pj_lt tk_250 (by decide)) (fun E u => ka_20 tk_250) d_Mo_met_290 (pc' := 291) rfl h (fun u3 h => ?_)
  refine pj_aload_n C d_Mo_met_291 (pc' := 292) (i := 0) (x := b + 217) rfl rfl rfl ?_
  refine fg_Model_104_Model C tk_217 d_Mo_met_292 (pc' := 295) rfl ?_
  refine pj_iload_n C d_Mo_met_295 (pc' := 296) (i := 2) (x := x2) rfl rfl rfl ?_
  refine pj_iconst C d_Mo_met_296 (pc' := 297) rfl (v := 1) (by decide) ?_
  refine pj_zast C (pj_lt tk_249 (by decide)) (fun E u => ka_30 tk_249) d_Mo_met_297 (pc' := 298) rfl h (fun u4 h => ?_)
  refine pj_aload_n C d_Mo_met_298 (pc' := 299) (i := 0) (x := b + 217) rfl rfl rfl ?_
  refine pj_iload_n C d_Mo_met_299 (pc' := 300) (i := 2) (x := x2) rfl rfl rfl ?_
  refine pj_bipush C d_Mo_met_300 (pc' := 302) rfl (v := 51) (by decide) ?_
  refine ck_Model_342_Model C  h d_Mo_met_302 (pc' := 305) rfl ⟨Nat.le_of_ble_eq_true rfl, Nat.le_of_ble_eq_true rfl⟩ (Nat.le_of_ble_eq_true rfl) (fun u5 h => ?_)
  refine pj_aload_n C d_Mo_met_305 (pc' := 306) (i := 0) (x := b + 217) rfl rfl rfl ?_
  refine pj_iconst C d_Mo_met_306 (pc' := 307) rfl (v := 3) (by decide) ?_
  refine ck_Model_236_Model C  h d_Mo_met_307 (pc' := 310) rfl ⟨Nat.le_of_ble_eq_true rfl, Nat.le_of_ble_eq_true rfl⟩ (Nat.le_of_ble_eq_true rfl) (fun u6 h => ?_)
  refine pj_aload_n C d_Mo_met_310 (pc' := 311) (i := 0) (x := b + 217) rfl rfl rfl ?_
  refine pj_aload_n C d_Mo_met_311 (pc' := 312) (i := 0) (x := b + 217) rfl rfl rfl ?_
  refine pj_iload_n C d_Mo_met_312 (pc' := 313) (i := 3) (x := x3) rfl rfl rfl ?_
  refine pj_iconst C d_Mo_met_313 (pc' := 314) rfl (v := 3) (by decide) ?_
  refine pj_aload_n C d_Mo_met_314 (pc' := 315) (i := 0) (x := b + 217) rfl rfl rfl ?_
  refine fg_Model_107_Model C tk_217 d_Mo_met_315 (pc' := 318) rfl ?_
  refine pj_iload_n C d_Mo_met_318 (pc' := 319) (i := 2) (x := x2) rfl rfl rfl ?_
  refine pj_iald C (pj_lt tk_250 (by decide)) (fun E u => ka_20 tk_250) d_Mo_met_319 (pc' := 320) rfl h (fun h => ?_)
  refine pj_aload_n C d_Mo_met_320 (pc' := 321) (i := 0) (x := b + 217) rfl rfl rfl ?_
  refine fg_Model_101_Model C tk_217 d_Mo_met_321 (pc' := 324) rfl ?_
  refine pj_iload_n C d_Mo_met_324 (pc' := 325) (i := 2) (x := x2) rfl rfl rfl ?_
  refine pj_iald C (pj_lt tk_248 (by decide)) (fun E u => ka_20 tk_248) d_Mo_met_325 (pc' := 326) rfl h (fun h => ?_)
  refine ck_Model_300_Model C  h d_Mo_met_326 (pc' := 329) rfl ⟨Nat.le_of_ble_eq_true rfl, Nat.le_of_ble_eq_true rfl⟩ (Nat.le_of_ble_eq_true rfl) (fun r8 u7 h => ?_)
  refine ck_Model_290_Model C  h d_Mo_met_329 (pc' := 332) rfl ⟨Nat.le_of_ble_eq_true rfl, Nat.le_of_ble_eq_true rfl⟩ (Nat.le_of_ble_eq_true rfl) (fun u9 h => ?_)
  refine pj_iconst C d_Mo_met_332 (pc' := 333) rfl (v := 2) (by decide) ?_
  exact pj_iret C hE d_Mo_met_333 ⟨_, rfl, h⟩
def pb_Mo_met_252  (K : Int32 → pj_M → Prop) (u : pj_M) (x2 : Int32) (x3 : Int32) : Prop := pw_Mo_packetInt u 9 fun r2 u1 => (vp_in x2 8 ∧ (pw_Mo_packetInt u1 5 fun r4 u3 => (pw_Mo_mac u3 x3 2 (u1 248 x2.toNatClampNeg) r4 fun r6 u5 => (((r2 = r6) → (pb_Mo_met_280  K u5 x2 x3)) ∧ (¬ (r2 = r6) → (pb_Mo_met_278  K u5 ))))))
set_option maxHeartbeats 1000000 in
theorem pt_Mo_met_252 {g : pj_G} {b : Nat} (C : pj_X g c_Mo_met 6 R_Mo (some .int) rm_Mo_met) {K : Int32 → pj_M → Prop} (hE : pj_E g b (pj_Ki K))   {u : pj_M} {x2 : Int32} {x3 : Int32}   (h : pb_Mo_met_252  K u x2 x3) : pj_J g (pj_N g b u) 252 [some (.ref (b + 217)), none, some (.int x2), some (.int x3), none, none] [] := by
  unfold pb_Mo_met_252 at h
  refine pj_aload_n C d_Mo_met_252 (pc' := 253) (i := 0) (x := b + 217) rfl rfl rfl ?_
  refine pj_bipush C d_Mo_met_253 (pc' := 255) rfl (v := 9) (by decide) ?_
  refine ck_Model_283_Model C  h d_Mo_met_255 (pc' := 258) rfl ⟨Nat.le_of_ble_eq_true rfl, Nat.le_of_ble_eq_true rfl⟩ (Nat.le_of_ble_eq_true rfl) (fun r2 u1 h => ?_)
  refine pj_aload_n C d_Mo_met_258 (pc' := 259) (i := 0) (x := b + 217) rfl rfl rfl ?_
  refine pj_iload_n C d_Mo_met_259 (pc' := 260) (i := 3) (x := x3) rfl rfl rfl ?_
  refine pj_iconst C d_Mo_met_260 (pc' := 261) rfl (v := 2) (by decide) ?_
  refine pj_aload_n C d_Mo_met_261 (pc' := 262) (i := 0) (x := b + 217) rfl rfl rfl ?_
  refine fg_Model_101_Model C tk_217 d_Mo_met_262 (pc' := 265) rfl ?_
  refine pj_iload_n C d_Mo_met_265 (pc' := 266) (i := 2) (x := x2) rfl rfl rfl ?_
  refine pj_iald C (pj_lt tk_248 (by decide)) (fun E u => ka_20 tk_248) d_Mo_met_266 (pc' := 267) rfl h (fun h => ?_)
  refine pj_aload_n C d_Mo_met_267 (pc' := 268) (i := 0) (x := b + 217) rfl rfl rfl ?_
  refine pj_iconst C d_Mo_met_268 (pc' := 269) rfl (v := 5) (by decide) ?_
  refine ck_Model_283_Model C  h d_Mo_met_269 (pc' := 272) rfl ⟨Nat.le_of_ble_eq_true rfl, Nat.le_of_ble_eq_true rfl⟩ (Nat.le_of_ble_eq_true rfl) (fun r4 u3 h => ?_)
  refine ck_Model_300_Model C  h d_Mo_met_272 (pc' := 275) rfl ⟨Nat.le_of_ble_eq_true rfl, Nat.le_of_ble_eq_true rfl⟩ (Nat.le_of_ble_eq_true rfl) (fun r6 u5 h => ?_)
  refine pj_icmp_eq C d_Mo_met_275 (pc' := 278) rfl (tgt := 280) (by decide) h (fun h => ?_) (fun h => ?_)
  · exact pj_cut (pj_le_s (pj_le_n (pj_le_s (pj_le_s (pj_le_n (pj_le_n pj_le_e)))))) (pt_Mo_met_280 C hE   h)
  · exact pj_cut (pj_le_n (pj_le_n (pj_le_n (pj_le_n (pj_le_n (pj_le_n pj_le_e)))))) (pt_Mo_met_278 C hE   h)
def pb_Mo_met_242  (K : Int32 → pj_M → Prop) (u : pj_M) (x2 : Int32) (x3 : Int32) : Prop := vp_in 4 48 ∧ ((((u 227 (4 : Int32).toNatClampNeg) = 2) → (pb_Mo_met_252  K u x2 x3)) ∧ (¬ ((u 227 (4 : Int32).toNatClampNeg) = 2) → (pb_Mo_met_278  K u )))
set_option maxHeartbeats 1000000 in
theorem pt_Mo_met_242 {g : pj_G} {b : Nat} (C : pj_X g c_Mo_met 6 R_Mo (some .int) rm_Mo_met) {K : Int32 → pj_M → Prop} (hE : pj_E g b (pj_Ki K))   {u : pj_M} {x2 : Int32} {x3 : Int32}   (h : pb_Mo_met_242  K u x2 x3) : pj_J g (pj_N g b u) 242 [some (.ref (b + 217)), none, some (.int x2), some (.int x3), none, none] [] := by
  unfold pb_Mo_met_242 at h
  refine pj_aload_n C d_Mo_met_242 (pc' := 243) (i := 0) (x := b + 217) rfl rfl rfl ?_
  refine fg_Model_38_Model C tk_217 d_Mo_met_243 (pc' := 246) rfl ?_
  refine pj_iconst C d_Mo_met_246 (pc' := 247) rfl (v := 4) (by decide) ?_
  refine pj_iald C (pj_lt tk_227 (by decide)) (fun E u => ka_22 tk_227) d_Mo_met_247 (pc' := 248) rfl h (fun h => ?_)
  refine pj_iconst C d_Mo_met_248 (pc' := 249) rfl (v := 2) (by decide) ?_
  refine pj_icmp_ne C d_Mo_met_249 (pc' := 252) rfl (tgt := 278) (by decide) h (fun h => ?_) (fun h => ?_)
  · exact pj_cut (pj_le_n (pj_le_n (pj_le_n (pj_le_n (pj_le_n (pj_le_n pj_le_e)))))) (pt_Mo_met_278 C hE   h)
  · exact pj_cut (pj_le_s (pj_le_n (pj_le_s (pj_le_s (pj_le_n (pj_le_n pj_le_e)))))) (pt_Mo_met_252 C hE   h)
def pb_Mo_met_233  (K : Int32 → pj_M → Prop) (u : pj_M) (x2 : Int32) (x3 : Int32) : Prop := (((u 217 16) = 13) → (pb_Mo_met_242  K u x2 x3)) ∧ (¬ ((u 217 16) = 13) → (pb_Mo_met_278  K u ))
set_option maxHeartbeats 1000000 in
theorem pt_Mo_met_233 {g : pj_G} {b : Nat} (C : pj_X g c_Mo_met 6 R_Mo (some .int) rm_Mo_met) {K : Int32 → pj_M → Prop} (hE : pj_E g b (pj_Ki K))   {u : pj_M} {x2 : Int32} {x3 : Int32}   (h : pb_Mo_met_233  K u x2 x3) : pj_J g (pj_N g b u) 233 [some (.ref (b + 217)), none, some (.int x2), some (.int x3), none, none] [] := by
  unfold pb_Mo_met_233 at h
  refine pj_aload_n C d_Mo_met_233 (pc' := 234) (i := 0) (x := b + 217) rfl rfl rfl ?_
  refine fg_Model_233_Model C tk_217 d_Mo_met_234 (pc' := 237) rfl ?_
  refine pj_bipush C d_Mo_met_237 (pc' := 239) rfl (v := 13) (by decide) ?_
  refine pj_icmp_ne C d_Mo_met_239 (pc' := 242) rfl (tgt := 278) (by decide) h (fun h => ?_) (fun h => ?_)
  · exact pj_cut (pj_le_n (pj_le_n (pj_le_n (pj_le_n (pj_le_n (pj_le_n pj_le_e)))))) (pt_Mo_met_278 C hE   h)
  · exact pj_cut (pj_le_s (pj_le_n (pj_le_s (pj_le_s (pj_le_n (pj_le_n pj_le_e)))))) (pt_Mo_met_242 C hE   h)
def pb_Mo_met_232  (K : Int32 → pj_M → Prop) (u : pj_M) (s0 : Int32) : Prop := K s0 u
set_option maxHeartbeats 1000000 in
theorem pt_Mo_met_232 {g : pj_G} {b : Nat} (C : pj_X g c_Mo_met 6 R_Mo (some .int) rm_Mo_met) {K : Int32 → pj_M → Prop} (hE : pj_E g b (pj_Ki K))   {u : pj_M} {s0 : Int32}   (h : pb_Mo_met_232  K u s0) : pj_J g (pj_N g b u) 232 [none, none, none, none, none, none] [.int s0] := by
  unfold pb_Mo_met_232 at h
  exact pj_iret C hE d_Mo_met_232 ⟨_, rfl, h⟩
def pb_Mo_met_231  (K : Int32 → pj_M → Prop) (u : pj_M)  : Prop := pb_Mo_met_232  K u 0
set_option maxHeartbeats 1000000 in
theorem pt_Mo_met_231 {g : pj_G} {b : Nat} (C : pj_X g c_Mo_met 6 R_Mo (some .int) rm_Mo_met) {K : Int32 → pj_M → Prop} (hE : pj_E g b (pj_Ki K))   {u : pj_M}    (h : pb_Mo_met_231  K u ) : pj_J g (pj_N g b u) 231 [none, none, none, none, none, none] [] := by
  unfold pb_Mo_met_231 at h
  refine pj_iconst C d_Mo_met_231 (pc' := 232) rfl (v := 0) (by decide) ?_
  exact pj_cut (pj_le_n (pj_le_n (pj_le_n (pj_le_n (pj_le_n (pj_le_n pj_le_e)))))) (pt_Mo_met_232 C hE   h)
def pb_Mo_met_227  (K : Int32 → pj_M → Prop) (u : pj_M)  : Prop := pb_Mo_met_232  K u 1
set_option maxHeartbeats 1000000 in
theorem pt_Mo_met_227 {g : pj_G} {b : Nat} (C : pj_X g c_Mo_met 6 R_Mo (some .int) rm_Mo_met) {K : Int32 → pj_M → Prop} (hE : pj_E g b (pj_Ki K))   {u : pj_M}    (h : pb_Mo_met_227  K u ) : pj_J g (pj_N g b u) 227 [none, none, none, none, none, none] [] := by
  unfold pb_Mo_met_227 at h
  refine pj_iconst C d_Mo_met_227 (pc' := 228) rfl (v := 1) (by decide) ?_
  refine pj_goto C d_Mo_met_228 (tgt := 232) (by decide) ?_
  exact pj_cut (pj_le_n (pj_le_n (pj_le_n (pj_le_n (pj_le_n (pj_le_n pj_le_e)))))) (pt_Mo_met_232 C hE   h)
def pb_Mo_met_201  (K : Int32 → pj_M → Prop) (u : pj_M) (x2 : Int32) (x3 : Int32) : Prop := pw_Mo_packetInt u 5 fun r2 u1 => (vp_in x2 8 ∧ (vp_in x2 8 ∧ (pw_Mo_mac u1 x3 4 (u1 248 x2.toNatClampNeg) (u1 250 x2.toNatClampNeg) fun r4 u3 => (((r2 = r4) → (pb_Mo_met_227  K u3 )) ∧ (¬ (r2 = r4) → (pb_Mo_met_231  K u3 ))))))
set_option maxHeartbeats 1000000 in
theorem pt_Mo_met_201 {g : pj_G} {b : Nat} (C : pj_X g c_Mo_met 6 R_Mo (some .int) rm_Mo_met) {K : Int32 → pj_M → Prop} (hE : pj_E g b (pj_Ki K))   {u : pj_M} {x2 : Int32} {x3 : Int32}   (h : pb_Mo_met_201  K u x2 x3) : pj_J g (pj_N g b u) 201 [some (.ref (b + 217)), none, some (.int x2), some (.int x3), none, none] [] := by
  unfold pb_Mo_met_201 at h
  refine pj_aload_n C d_Mo_met_201 (pc' := 202) (i := 0) (x := b + 217) rfl rfl rfl ?_
  refine pj_iconst C d_Mo_met_202 (pc' := 203) rfl (v := 5) (by decide) ?_
  refine ck_Model_283_Model C  h d_Mo_met_203 (pc' := 206) rfl ⟨Nat.le_of_ble_eq_true rfl, Nat.le_of_ble_eq_true rfl⟩ (Nat.le_of_ble_eq_true rfl) (fun r2 u1 h => ?_)
  refine pj_aload_n C d_Mo_met_206 (pc' := 207) (i := 0) (x := b + 217) rfl rfl rfl ?_
  refine pj_iload_n C d_Mo_met_207 (pc' := 208) (i := 3) (x := x3) rfl rfl rfl ?_
  refine pj_iconst C d_Mo_met_208 (pc' := 209) rfl (v := 4) (by decide) ?_
  refine pj_aload_n C d_Mo_met_209 (pc' := 210) (i := 0) (x := b + 217) rfl rfl rfl ?_
  refine fg_Model_101_Model C tk_217 d_Mo_met_210 (pc' := 213) rfl ?_
  refine pj_iload_n C d_Mo_met_213 (pc' := 214) (i := 2) (x := x2) rfl rfl rfl ?_
  refine pj_iald C (pj_lt tk_248 (by decide)) (fun E u => ka_20 tk_248) d_Mo_met_214 (pc' := 215) rfl h (fun h => ?_)
  refine pj_aload_n C d_Mo_met_215 (pc' := 216) (i := 0) (x := b + 217) rfl rfl rfl ?_
  refine fg_Model_107_Model C tk_217 d_Mo_met_216 (pc' := 219) rfl ?_
  refine pj_iload_n C d_Mo_met_219 (pc' := 220) (i := 2) (x := x2) rfl rfl rfl ?_
  refine pj_iald C (pj_lt tk_250 (by decide)) (fun E u => ka_20 tk_250) d_Mo_met_220 (pc' := 221) rfl h (fun h => ?_)
  refine ck_Model_300_Model C  h d_Mo_met_221 (pc' := 224) rfl ⟨Nat.le_of_ble_eq_true rfl, Nat.le_of_ble_eq_true rfl⟩ (Nat.le_of_ble_eq_true rfl) (fun r4 u3 h => ?_)
  refine pj_icmp_ne C d_Mo_met_224 (pc' := 227) rfl (tgt := 231) (by decide) h (fun h => ?_) (fun h => ?_)
  · exact pj_cut (pj_le_n (pj_le_n (pj_le_n (pj_le_n (pj_le_n (pj_le_n pj_le_e)))))) (pt_Mo_met_231 C hE   h)
  · exact pj_cut (pj_le_n (pj_le_n (pj_le_n (pj_le_n (pj_le_n (pj_le_n pj_le_e)))))) (pt_Mo_met_227 C hE   h)
def pb_Mo_met_191  (K : Int32 → pj_M → Prop) (u : pj_M) (x2 : Int32) (x3 : Int32) : Prop := vp_in 4 48 ∧ ((((u 227 (4 : Int32).toNatClampNeg) = 4) → (pb_Mo_met_201  K u x2 x3)) ∧ (¬ ((u 227 (4 : Int32).toNatClampNeg) = 4) → (pb_Mo_met_231  K u )))
set_option maxHeartbeats 1000000 in
theorem pt_Mo_met_191 {g : pj_G} {b : Nat} (C : pj_X g c_Mo_met 6 R_Mo (some .int) rm_Mo_met) {K : Int32 → pj_M → Prop} (hE : pj_E g b (pj_Ki K))   {u : pj_M} {x2 : Int32} {x3 : Int32}   (h : pb_Mo_met_191  K u x2 x3) : pj_J g (pj_N g b u) 191 [some (.ref (b + 217)), none, some (.int x2), some (.int x3), none, none] [] := by
  unfold pb_Mo_met_191 at h
  refine pj_aload_n C d_Mo_met_191 (pc' := 192) (i := 0) (x := b + 217) rfl rfl rfl ?_
  refine fg_Model_38_Model C tk_217 d_Mo_met_192 (pc' := 195) rfl ?_
  refine pj_iconst C d_Mo_met_195 (pc' := 196) rfl (v := 4) (by decide) ?_
  refine pj_iald C (pj_lt tk_227 (by decide)) (fun E u => ka_22 tk_227) d_Mo_met_196 (pc' := 197) rfl h (fun h => ?_)
  refine pj_iconst C d_Mo_met_197 (pc' := 198) rfl (v := 4) (by decide) ?_
  refine pj_icmp_ne C d_Mo_met_198 (pc' := 201) rfl (tgt := 231) (by decide) h (fun h => ?_) (fun h => ?_)
  · exact pj_cut (pj_le_n (pj_le_n (pj_le_n (pj_le_n (pj_le_n (pj_le_n pj_le_e)))))) (pt_Mo_met_231 C hE   h)
  · exact pj_cut (pj_le_s (pj_le_n (pj_le_s (pj_le_s (pj_le_n (pj_le_n pj_le_e)))))) (pt_Mo_met_201 C hE   h)
def pb_Mo_met_182  (K : Int32 → pj_M → Prop) (u : pj_M) (x2 : Int32) (x3 : Int32) : Prop := (((u 217 16) = 9) → (pb_Mo_met_191  K u x2 x3)) ∧ (¬ ((u 217 16) = 9) → (pb_Mo_met_231  K u ))
set_option maxHeartbeats 1000000 in
theorem pt_Mo_met_182 {g : pj_G} {b : Nat} (C : pj_X g c_Mo_met 6 R_Mo (some .int) rm_Mo_met) {K : Int32 → pj_M → Prop} (hE : pj_E g b (pj_Ki K))   {u : pj_M} {x2 : Int32} {x3 : Int32}   (h : pb_Mo_met_182  K u x2 x3) : pj_J g (pj_N g b u) 182 [some (.ref (b + 217)), none, some (.int x2), some (.int x3), none, none] [] := by
  unfold pb_Mo_met_182 at h
  refine pj_aload_n C d_Mo_met_182 (pc' := 183) (i := 0) (x := b + 217) rfl rfl rfl ?_
  refine fg_Model_233_Model C tk_217 d_Mo_met_183 (pc' := 186) rfl ?_
  refine pj_bipush C d_Mo_met_186 (pc' := 188) rfl (v := 9) (by decide) ?_
  refine pj_icmp_ne C d_Mo_met_188 (pc' := 191) rfl (tgt := 231) (by decide) h (fun h => ?_) (fun h => ?_)
  · exact pj_cut (pj_le_n (pj_le_n (pj_le_n (pj_le_n (pj_le_n (pj_le_n pj_le_e)))))) (pt_Mo_met_231 C hE   h)
  · exact pj_cut (pj_le_s (pj_le_n (pj_le_s (pj_le_s (pj_le_n (pj_le_n pj_le_e)))))) (pt_Mo_met_191 C hE   h)
def pb_Mo_met_173  (K : Int32 → pj_M → Prop) (u : pj_M) (x2 : Int32) (x3 : Int32) : Prop := vp_in x2 8 ∧ ((((u 249 x2.toNatClampNeg) = 0) → (pb_Mo_met_233  K u x2 x3)) ∧ (¬ ((u 249 x2.toNatClampNeg) = 0) → (pb_Mo_met_182  K u x2 x3)))
set_option maxHeartbeats 1000000 in
theorem pt_Mo_met_173 {g : pj_G} {b : Nat} (C : pj_X g c_Mo_met 6 R_Mo (some .int) rm_Mo_met) {K : Int32 → pj_M → Prop} (hE : pj_E g b (pj_Ki K))   {u : pj_M} {x2 : Int32} {x3 : Int32}   (h : pb_Mo_met_173  K u x2 x3) : pj_J g (pj_N g b u) 173 [some (.ref (b + 217)), none, some (.int x2), some (.int x3), none, none] [] := by
  unfold pb_Mo_met_173 at h
  refine pj_aload_n C d_Mo_met_173 (pc' := 174) (i := 0) (x := b + 217) rfl rfl rfl ?_
  refine fg_Model_104_Model C tk_217 d_Mo_met_174 (pc' := 177) rfl ?_
  refine pj_iload_n C d_Mo_met_177 (pc' := 178) (i := 2) (x := x2) rfl rfl rfl ?_
  refine pj_zald C (pj_lt tk_249 (by decide)) (fun E u => ka_30 tk_249) d_Mo_met_178 (pc' := 179) rfl h (fun h => ?_)
  refine pj_if_eq C d_Mo_met_179 (pc' := 182) rfl (tgt := 233) (by decide) h (fun h => ?_) (fun h => ?_)
  · exact pj_cut (pj_le_s (pj_le_n (pj_le_s (pj_le_s (pj_le_n (pj_le_n pj_le_e)))))) (pt_Mo_met_233 C hE   h)
  · exact pj_cut (pj_le_s (pj_le_n (pj_le_s (pj_le_s (pj_le_n (pj_le_n pj_le_e)))))) (pt_Mo_met_182 C hE   h)
def pb_Mo_met_171  (K : Int32 → pj_M → Prop) (u : pj_M)  : Prop := K 0 u
set_option maxHeartbeats 1000000 in
theorem pt_Mo_met_171 {g : pj_G} {b : Nat} (C : pj_X g c_Mo_met 6 R_Mo (some .int) rm_Mo_met) {K : Int32 → pj_M → Prop} (hE : pj_E g b (pj_Ki K))   {u : pj_M}    (h : pb_Mo_met_171  K u ) : pj_J g (pj_N g b u) 171 [none, none, none, none, none, none] [] := by
  unfold pb_Mo_met_171 at h
  refine pj_iconst C d_Mo_met_171 (pc' := 172) rfl (v := 0) (by decide) ?_
  exact pj_iret C hE d_Mo_met_172 ⟨_, rfl, h⟩
def pb_Mo_met_164  (K : Int32 → pj_M → Prop) (u : pj_M) (x2 : Int32) (x3 : Int32) (x4 : Int32) : Prop := ((x4 = 51) → (pb_Mo_met_173  K u x2 x3)) ∧ (¬ (x4 = 51) → (pb_Mo_met_171  K u ))
set_option maxHeartbeats 1000000 in
theorem pt_Mo_met_164 {g : pj_G} {b : Nat} (C : pj_X g c_Mo_met 6 R_Mo (some .int) rm_Mo_met) {K : Int32 → pj_M → Prop} (hE : pj_E g b (pj_Ki K))   {u : pj_M} {x2 : Int32} {x3 : Int32} {x4 : Int32}   (h : pb_Mo_met_164  K u x2 x3 x4) : pj_J g (pj_N g b u) 164 [some (.ref (b + 217)), none, some (.int x2), some (.int x3), some (.int x4), none] [] := by
  unfold pb_Mo_met_164 at h
  refine pj_iload C d_Mo_met_164 (pc' := 166) (i := 4) (x := x4) rfl rfl ?_
  refine pj_bipush C d_Mo_met_166 (pc' := 168) rfl (v := 51) (by decide) ?_
  refine pj_icmp_eq C d_Mo_met_168 (pc' := 171) rfl (tgt := 173) (by decide) h (fun h => ?_) (fun h => ?_)
  · exact pj_cut (pj_le_s (pj_le_n (pj_le_s (pj_le_s (pj_le_n (pj_le_n pj_le_e)))))) (pt_Mo_met_173 C hE   h)
  · exact pj_cut (pj_le_n (pj_le_n (pj_le_n (pj_le_n (pj_le_n (pj_le_n pj_le_e)))))) (pt_Mo_met_171 C hE   h)
def pb_Mo_met_163  (K : Int32 → pj_M → Prop) (u : pj_M) (s0 : Int32) : Prop := K s0 u
set_option maxHeartbeats 1000000 in
theorem pt_Mo_met_163 {g : pj_G} {b : Nat} (C : pj_X g c_Mo_met 6 R_Mo (some .int) rm_Mo_met) {K : Int32 → pj_M → Prop} (hE : pj_E g b (pj_Ki K))   {u : pj_M} {s0 : Int32}   (h : pb_Mo_met_163  K u s0) : pj_J g (pj_N g b u) 163 [none, none, none, none, none, none] [.int s0] := by
  unfold pb_Mo_met_163 at h
  exact pj_iret C hE d_Mo_met_163 ⟨_, rfl, h⟩
def pb_Mo_met_162  (K : Int32 → pj_M → Prop) (u : pj_M)  : Prop := pb_Mo_met_163  K u 0
set_option maxHeartbeats 1000000 in
theorem pt_Mo_met_162 {g : pj_G} {b : Nat} (C : pj_X g c_Mo_met 6 R_Mo (some .int) rm_Mo_met) {K : Int32 → pj_M → Prop} (hE : pj_E g b (pj_Ki K))   {u : pj_M}    (h : pb_Mo_met_162  K u ) : pj_J g (pj_N g b u) 162 [none, none, none, none, none, none] [] := by
  unfold pb_Mo_met_162 at h
  refine pj_iconst C d_Mo_met_162 (pc' := 163) rfl (v := 0) (by decide) ?_
  exact pj_cut (pj_le_n (pj_le_n (pj_le_n (pj_le_n (pj_le_n (pj_le_n pj_le_e)))))) (pt_Mo_met_163 C hE   h)
def pb_Mo_met_158  (K : Int32 → pj_M → Prop) (u : pj_M)  : Prop := pb_Mo_met_163  K u 1
set_option maxHeartbeats 1000000 in
theorem pt_Mo_met_158 {g : pj_G} {b : Nat} (C : pj_X g c_Mo_met 6 R_Mo (some .int) rm_Mo_met) {K : Int32 → pj_M → Prop} (hE : pj_E g b (pj_Ki K))   {u : pj_M}    (h : pb_Mo_met_158  K u ) : pj_J g (pj_N g b u) 158 [none, none, none, none, none, none] [] := by
  unfold pb_Mo_met_158 at h
  refine pj_iconst C d_Mo_met_158 (pc' := 159) rfl (v := 1) (by decide) ?_
  refine pj_goto C d_Mo_met_159 (tgt := 163) (by decide) ?_
  exact pj_cut (pj_le_n (pj_le_n (pj_le_n (pj_le_n (pj_le_n (pj_le_n pj_le_e)))))) (pt_Mo_met_163 C hE   h)
def pb_Mo_met_133  (K : Int32 → pj_M → Prop) (u : pj_M) (x2 : Int32) (x3 : Int32) : Prop := pw_Mo_packetInt u 4 fun r2 u1 => (vp_in 1 48 ∧ (vp_in x2 8 ∧ (pw_Mo_proved u1 (u1 227 (1 : Int32).toNatClampNeg) x3 (u1 248 x2.toNatClampNeg) fun r4 u3 => (((r2 = r4) → (pb_Mo_met_158  K u3 )) ∧ (¬ (r2 = r4) → (pb_Mo_met_162  K u3 ))))))
set_option maxHeartbeats 1000000 in
theorem pt_Mo_met_133 {g : pj_G} {b : Nat} (C : pj_X g c_Mo_met 6 R_Mo (some .int) rm_Mo_met) {K : Int32 → pj_M → Prop} (hE : pj_E g b (pj_Ki K))   {u : pj_M} {x2 : Int32} {x3 : Int32}   (h : pb_Mo_met_133  K u x2 x3) : pj_J g (pj_N g b u) 133 [some (.ref (b + 217)), none, some (.int x2), some (.int x3), none, none] [] := by
  unfold pb_Mo_met_133 at h
  refine pj_aload_n C d_Mo_met_133 (pc' := 134) (i := 0) (x := b + 217) rfl rfl rfl ?_
  refine pj_iconst C d_Mo_met_134 (pc' := 135) rfl (v := 4) (by decide) ?_
  refine ck_Model_283_Model C  h d_Mo_met_135 (pc' := 138) rfl ⟨Nat.le_of_ble_eq_true rfl, Nat.le_of_ble_eq_true rfl⟩ (Nat.le_of_ble_eq_true rfl) (fun r2 u1 h => ?_)
  refine pj_aload_n C d_Mo_met_138 (pc' := 139) (i := 0) (x := b + 217) rfl rfl rfl ?_
  refine pj_aload_n C d_Mo_met_139 (pc' := 140) (i := 0) (x := b + 217) rfl rfl rfl ?_
  refine fg_Model_38_Model C tk_217 d_Mo_met_140 (pc' := 143) rfl ?_
  refine pj_iconst C d_Mo_met_143 (pc' := 144) rfl (v := 1) (by decide) ?_
  refine pj_iald C (pj_lt tk_227 (by decide)) (fun E u => ka_22 tk_227) d_Mo_met_144 (pc' := 145) rfl h (fun h => ?_)
  refine pj_iload_n C d_Mo_met_145 (pc' := 146) (i := 3) (x := x3) rfl rfl rfl ?_
  refine pj_aload_n C d_Mo_met_146 (pc' := 147) (i := 0) (x := b + 217) rfl rfl rfl ?_
  refine fg_Model_101_Model C tk_217 d_Mo_met_147 (pc' := 150) rfl ?_
  refine pj_iload_n C d_Mo_met_150 (pc' := 151) (i := 2) (x := x2) rfl rfl rfl ?_
  refine pj_iald C (pj_lt tk_248 (by decide)) (fun E u => ka_20 tk_248) d_Mo_met_151 (pc' := 152) rfl h (fun h => ?_)
  refine ck_Model_286_Model C  h d_Mo_met_152 (pc' := 155) rfl ⟨Nat.le_of_ble_eq_true rfl, Nat.le_of_ble_eq_true rfl⟩ (Nat.le_of_ble_eq_true rfl) (fun r4 u3 h => ?_)
  refine pj_icmp_ne C d_Mo_met_155 (pc' := 158) rfl (tgt := 162) (by decide) h (fun h => ?_) (fun h => ?_)
  · exact pj_cut (pj_le_n (pj_le_n (pj_le_n (pj_le_n (pj_le_n (pj_le_n pj_le_e)))))) (pt_Mo_met_162 C hE   h)
  · exact pj_cut (pj_le_n (pj_le_n (pj_le_n (pj_le_n (pj_le_n (pj_le_n pj_le_e)))))) (pt_Mo_met_158 C hE   h)
def pb_Mo_met_124  (K : Int32 → pj_M → Prop) (u : pj_M) (x2 : Int32) (x3 : Int32) : Prop := (((u 217 16) = 8) → (pb_Mo_met_133  K u x2 x3)) ∧ (¬ ((u 217 16) = 8) → (pb_Mo_met_162  K u ))
set_option maxHeartbeats 1000000 in
theorem pt_Mo_met_124 {g : pj_G} {b : Nat} (C : pj_X g c_Mo_met 6 R_Mo (some .int) rm_Mo_met) {K : Int32 → pj_M → Prop} (hE : pj_E g b (pj_Ki K))   {u : pj_M} {x2 : Int32} {x3 : Int32}   (h : pb_Mo_met_124  K u x2 x3) : pj_J g (pj_N g b u) 124 [some (.ref (b + 217)), none, some (.int x2), some (.int x3), none, none] [] := by
  unfold pb_Mo_met_124 at h
  refine pj_aload_n C d_Mo_met_124 (pc' := 125) (i := 0) (x := b + 217) rfl rfl rfl ?_
  refine fg_Model_233_Model C tk_217 d_Mo_met_125 (pc' := 128) rfl ?_
  refine pj_bipush C d_Mo_met_128 (pc' := 130) rfl (v := 8) (by decide) ?_
  refine pj_icmp_ne C d_Mo_met_130 (pc' := 133) rfl (tgt := 162) (by decide) h (fun h => ?_) (fun h => ?_)
  · exact pj_cut (pj_le_n (pj_le_n (pj_le_n (pj_le_n (pj_le_n (pj_le_n pj_le_e)))))) (pt_Mo_met_162 C hE   h)
  · exact pj_cut (pj_le_s (pj_le_n (pj_le_s (pj_le_s (pj_le_n (pj_le_n pj_le_e)))))) (pt_Mo_met_133 C hE   h)
def pb_Mo_met_118  (K : Int32 → pj_M → Prop) (u : pj_M) (x2 : Int32) (x3 : Int32) (x4 : Int32) : Prop := ((x4 = 4) → (pb_Mo_met_124  K u x2 x3)) ∧ (¬ (x4 = 4) → (pb_Mo_met_162  K u ))
set_option maxHeartbeats 1000000 in
theorem pt_Mo_met_118 {g : pj_G} {b : Nat} (C : pj_X g c_Mo_met 6 R_Mo (some .int) rm_Mo_met) {K : Int32 → pj_M → Prop} (hE : pj_E g b (pj_Ki K))   {u : pj_M} {x2 : Int32} {x3 : Int32} {x4 : Int32}   (h : pb_Mo_met_118  K u x2 x3 x4) : pj_J g (pj_N g b u) 118 [some (.ref (b + 217)), none, some (.int x2), some (.int x3), some (.int x4), none] [] := by
  unfold pb_Mo_met_118 at h
  refine pj_iload C d_Mo_met_118 (pc' := 120) (i := 4) (x := x4) rfl rfl ?_
  refine pj_iconst C d_Mo_met_120 (pc' := 121) rfl (v := 4) (by decide) ?_
  refine pj_icmp_ne C d_Mo_met_121 (pc' := 124) rfl (tgt := 162) (by decide) h (fun h => ?_) (fun h => ?_)
  · exact pj_cut (pj_le_n (pj_le_n (pj_le_n (pj_le_n (pj_le_n (pj_le_n pj_le_e)))))) (pt_Mo_met_162 C hE   h)
  · exact pj_cut (pj_le_s (pj_le_n (pj_le_s (pj_le_s (pj_le_n (pj_le_n pj_le_e)))))) (pt_Mo_met_124 C hE   h)
def pb_Mo_met_108  (K : Int32 → pj_M → Prop) (u : pj_M) (x2 : Int32) (x3 : Int32) (x4 : Int32) : Prop := vp_in x2 8 ∧ ((((u 245 x2.toNatClampNeg) = 1) → (pb_Mo_met_118  K u x2 x3 x4)) ∧ (¬ ((u 245 x2.toNatClampNeg) = 1) → (pb_Mo_met_164  K u x2 x3 x4)))
set_option maxHeartbeats 1000000 in
theorem pt_Mo_met_108 {g : pj_G} {b : Nat} (C : pj_X g c_Mo_met 6 R_Mo (some .int) rm_Mo_met) {K : Int32 → pj_M → Prop} (hE : pj_E g b (pj_Ki K))   {u : pj_M} {x2 : Int32} {x3 : Int32} {x4 : Int32}   (h : pb_Mo_met_108  K u x2 x3 x4) : pj_J g (pj_N g b u) 108 [some (.ref (b + 217)), none, some (.int x2), some (.int x3), some (.int x4), none] [] := by
  unfold pb_Mo_met_108 at h
  refine pj_aload_n C d_Mo_met_108 (pc' := 109) (i := 0) (x := b + 217) rfl rfl rfl ?_
  refine fg_Model_92_Model C tk_217 d_Mo_met_109 (pc' := 112) rfl ?_
  refine pj_iload_n C d_Mo_met_112 (pc' := 113) (i := 2) (x := x2) rfl rfl rfl ?_
  refine pj_iald C (pj_lt tk_245 (by decide)) (fun E u => ka_20 tk_245) d_Mo_met_113 (pc' := 114) rfl h (fun h => ?_)
  refine pj_iconst C d_Mo_met_114 (pc' := 115) rfl (v := 1) (by decide) ?_
  refine pj_icmp_ne C d_Mo_met_115 (pc' := 118) rfl (tgt := 164) (by decide) h (fun h => ?_) (fun h => ?_)
  · exact pj_cut (pj_le_s (pj_le_n (pj_le_s (pj_le_s (pj_le_s (pj_le_n pj_le_e)))))) (pt_Mo_met_164 C hE   h)
  · exact pj_cut (pj_le_s (pj_le_n (pj_le_s (pj_le_s (pj_le_s (pj_le_n pj_le_e)))))) (pt_Mo_met_118 C hE   h)
def pb_Mo_met_98  (K : Int32 → pj_M → Prop) (u : pj_M) (x1 : Int32) (x2 : Int32) (x5 : Int32) : Prop := pw_Mo_begin u x1 x2 x5 fun u1 => (K 2 u1)
set_option maxHeartbeats 1000000 in
theorem pt_Mo_met_98 {g : pj_G} {b : Nat} (C : pj_X g c_Mo_met 6 R_Mo (some .int) rm_Mo_met) {K : Int32 → pj_M → Prop} (hE : pj_E g b (pj_Ki K))   {u : pj_M} {x1 : Int32} {x2 : Int32} {x5 : Int32}   (h : pb_Mo_met_98  K u x1 x2 x5) : pj_J g (pj_N g b u) 98 [some (.ref (b + 217)), some (.int x1), some (.int x2), none, none, some (.int x5)] [] := by
  unfold pb_Mo_met_98 at h
  refine pj_aload_n C d_Mo_met_98 (pc' := 99) (i := 0) (x := b + 217) rfl rfl rfl ?_
  refine pj_iload_n C d_Mo_met_99 (pc' := 100) (i := 1) (x := x1) rfl rfl rfl ?_
  refine pj_iload_n C d_Mo_met_100 (pc' := 101) (i := 2) (x := x2) rfl rfl rfl ?_
  refine pj_iload C d_Mo_met_101 (pc' := 103) (i := 5) (x := x5) rfl rfl ?_
  refine ck_Model_339_Model C  h d_Mo_met_103 (pc' := 106) rfl ⟨Nat.le_of_ble_eq_true rfl, Nat.le_of_ble_eq_true rfl⟩ (Nat.le_of_ble_eq_true rfl) (fun u1 h => ?_)
  refine pj_iconst C d_Mo_met_106 (pc' := 107) rfl (v := 2) (by decide) ?_
  exact pj_iret C hE d_Mo_met_107 ⟨_, rfl, h⟩
def pb_Mo_met_96  (K : Int32 → pj_M → Prop) (u : pj_M)  : Prop := K 0 u
set_option maxHeartbeats 1000000 in
theorem pt_Mo_met_96 {g : pj_G} {b : Nat} (C : pj_X g c_Mo_met 6 R_Mo (some .int) rm_Mo_met) {K : Int32 → pj_M → Prop} (hE : pj_E g b (pj_Ki K))   {u : pj_M}    (h : pb_Mo_met_96  K u ) : pj_J g (pj_N g b u) 96 [none, none, none, none, none, none] [] := by
  unfold pb_Mo_met_96 at h
  refine pj_iconst C d_Mo_met_96 (pc' := 97) rfl (v := 0) (by decide) ?_
  exact pj_iret C hE d_Mo_met_97 ⟨_, rfl, h⟩
def pb_Mo_met_68  (K : Int32 → pj_M → Prop) (u : pj_M) (x1 : Int32) (x2 : Int32) (s0 : Int32) : Prop := vp_in x2 8 ∧ (vp_in (u 244 x2.toNatClampNeg) 8 ∧ (vp_in x2 8 ∧ ((((((u 220 (u 244 x2.toNatClampNeg).toNatClampNeg) &&& s0) &&& ((u 246 x2.toNatClampNeg) ^^^ ((-1)))) = 0) → (pb_Mo_met_96  K u )) ∧ (¬ ((((u 220 (u 244 x2.toNatClampNeg).toNatClampNeg) &&& s0) &&& ((u 246 x2.toNatClampNeg) ^^^ ((-1)))) = 0) → (pb_Mo_met_98  K u x1 x2 s0)))))
set_option maxHeartbeats 1000000 in
theorem pt_Mo_met_68 {g : pj_G} {b : Nat} (C : pj_X g c_Mo_met 6 R_Mo (some .int) rm_Mo_met) {K : Int32 → pj_M → Prop} (hE : pj_E g b (pj_Ki K))   {u : pj_M} {x1 : Int32} {x2 : Int32} {s0 : Int32}   (h : pb_Mo_met_68  K u x1 x2 s0) : pj_J g (pj_N g b u) 68 [some (.ref (b + 217)), some (.int x1), some (.int x2), none, none, none] [.int s0] := by
  unfold pb_Mo_met_68 at h
  refine pj_istore C d_Mo_met_68 (pc' := 70) (i := 5) (vs' := [some (.ref (b + 217)), some (.int x1), some (.int x2), none, none, some (.int s0)]) rfl (Nat.le_of_ble_eq_true rfl) (Nat.le_of_ble_eq_true rfl) rfl rfl ?_
  refine pj_aload_n C d_Mo_met_70 (pc' := 71) (i := 0) (x := b + 217) rfl rfl rfl ?_
  refine fg_Model_17_Model C tk_217 d_Mo_met_71 (pc' := 74) rfl ?_
  refine pj_aload_n C d_Mo_met_74 (pc' := 75) (i := 0) (x := b + 217) rfl rfl rfl ?_
  refine fg_Model_89_Model C tk_217 d_Mo_met_75 (pc' := 78) rfl ?_
  refine pj_iload_n C d_Mo_met_78 (pc' := 79) (i := 2) (x := x2) rfl rfl rfl ?_
  refine pj_iald C (pj_lt tk_244 (by decide)) (fun E u => ka_20 tk_244) d_Mo_met_79 (pc' := 80) rfl h (fun h => ?_)
  refine pj_iald C (pj_lt tk_220 (by decide)) (fun E u => ka_20 tk_220) d_Mo_met_80 (pc' := 81) rfl h (fun h => ?_)
  refine pj_iload C d_Mo_met_81 (pc' := 83) (i := 5) (x := s0) rfl rfl ?_
  refine pj_iand C d_Mo_met_83 (pc' := 84) rfl ?_
  refine pj_aload_n C d_Mo_met_84 (pc' := 85) (i := 0) (x := b + 217) rfl rfl rfl ?_
  refine fg_Model_95_Model C tk_217 d_Mo_met_85 (pc' := 88) rfl ?_
  refine pj_iload_n C d_Mo_met_88 (pc' := 89) (i := 2) (x := x2) rfl rfl rfl ?_
  refine pj_iald C (pj_lt tk_246 (by decide)) (fun E u => ka_20 tk_246) d_Mo_met_89 (pc' := 90) rfl h (fun h => ?_)
  refine pj_iconst C d_Mo_met_90 (pc' := 91) rfl (v := (-1)) (by decide) ?_
  refine pj_ixor C d_Mo_met_91 (pc' := 92) rfl ?_
  refine pj_iand C d_Mo_met_92 (pc' := 93) rfl ?_
  refine pj_if_ne C d_Mo_met_93 (pc' := 96) rfl (tgt := 98) (by decide) h (fun h => ?_) (fun h => ?_)
  · exact pj_cut (pj_le_s (pj_le_s (pj_le_s (pj_le_n (pj_le_n (pj_le_s pj_le_e)))))) (pt_Mo_met_98 C hE   h)
  · exact pj_cut (pj_le_n (pj_le_n (pj_le_n (pj_le_n (pj_le_n (pj_le_n pj_le_e)))))) (pt_Mo_met_96 C hE   h)
def pb_Mo_met_67  (K : Int32 → pj_M → Prop) (u : pj_M) (x1 : Int32) (x2 : Int32) : Prop := pb_Mo_met_68  K u x1 x2 0
set_option maxHeartbeats 1000000 in
theorem pt_Mo_met_67 {g : pj_G} {b : Nat} (C : pj_X g c_Mo_met 6 R_Mo (some .int) rm_Mo_met) {K : Int32 → pj_M → Prop} (hE : pj_E g b (pj_Ki K))   {u : pj_M} {x1 : Int32} {x2 : Int32}   (h : pb_Mo_met_67  K u x1 x2) : pj_J g (pj_N g b u) 67 [some (.ref (b + 217)), some (.int x1), some (.int x2), none, none, none] [] := by
  unfold pb_Mo_met_67 at h
  refine pj_iconst C d_Mo_met_67 (pc' := 68) rfl (v := 0) (by decide) ?_
  exact pj_cut (pj_le_s (pj_le_s (pj_le_s (pj_le_n (pj_le_n (pj_le_n pj_le_e)))))) (pt_Mo_met_68 C hE   h)
def pb_Mo_met_63  (K : Int32 → pj_M → Prop) (u : pj_M) (x1 : Int32) (x2 : Int32) : Prop := pb_Mo_met_68  K u x1 x2 2
set_option maxHeartbeats 1000000 in
theorem pt_Mo_met_63 {g : pj_G} {b : Nat} (C : pj_X g c_Mo_met 6 R_Mo (some .int) rm_Mo_met) {K : Int32 → pj_M → Prop} (hE : pj_E g b (pj_Ki K))   {u : pj_M} {x1 : Int32} {x2 : Int32}   (h : pb_Mo_met_63  K u x1 x2) : pj_J g (pj_N g b u) 63 [some (.ref (b + 217)), some (.int x1), some (.int x2), none, none, none] [] := by
  unfold pb_Mo_met_63 at h
  refine pj_iconst C d_Mo_met_63 (pc' := 64) rfl (v := 2) (by decide) ?_
  refine pj_goto C d_Mo_met_64 (tgt := 68) (by decide) ?_
  exact pj_cut (pj_le_s (pj_le_s (pj_le_s (pj_le_n (pj_le_n (pj_le_n pj_le_e)))))) (pt_Mo_met_68 C hE   h)
def pb_Mo_met_52  (K : Int32 → pj_M → Prop) (u : pj_M) (x1 : Int32) (x2 : Int32) : Prop := vp_in 4 48 ∧ ((((u 227 (4 : Int32).toNatClampNeg) = 51) → (pb_Mo_met_63  K u x1 x2)) ∧ (¬ ((u 227 (4 : Int32).toNatClampNeg) = 51) → (pb_Mo_met_67  K u x1 x2)))
set_option maxHeartbeats 1000000 in
theorem pt_Mo_met_52 {g : pj_G} {b : Nat} (C : pj_X g c_Mo_met 6 R_Mo (some .int) rm_Mo_met) {K : Int32 → pj_M → Prop} (hE : pj_E g b (pj_Ki K))   {u : pj_M} {x1 : Int32} {x2 : Int32}   (h : pb_Mo_met_52  K u x1 x2) : pj_J g (pj_N g b u) 52 [some (.ref (b + 217)), some (.int x1), some (.int x2), none, none, none] [] := by
  unfold pb_Mo_met_52 at h
  refine pj_aload_n C d_Mo_met_52 (pc' := 53) (i := 0) (x := b + 217) rfl rfl rfl ?_
  refine fg_Model_38_Model C tk_217 d_Mo_met_53 (pc' := 56) rfl ?_
  refine pj_iconst C d_Mo_met_56 (pc' := 57) rfl (v := 4) (by decide) ?_
  refine pj_iald C (pj_lt tk_227 (by decide)) (fun E u => ka_22 tk_227) d_Mo_met_57 (pc' := 58) rfl h (fun h => ?_)
  refine pj_bipush C d_Mo_met_58 (pc' := 60) rfl (v := 51) (by decide) ?_
  refine pj_icmp_ne C d_Mo_met_60 (pc' := 63) rfl (tgt := 67) (by decide) h (fun h => ?_) (fun h => ?_)
  · exact pj_cut (pj_le_s (pj_le_s (pj_le_s (pj_le_n (pj_le_n (pj_le_n pj_le_e)))))) (pt_Mo_met_67 C hE   h)
  · exact pj_cut (pj_le_s (pj_le_s (pj_le_s (pj_le_n (pj_le_n (pj_le_n pj_le_e)))))) (pt_Mo_met_63 C hE   h)
def pb_Mo_met_48  (K : Int32 → pj_M → Prop) (u : pj_M) (x1 : Int32) (x2 : Int32) : Prop := pb_Mo_met_68  K u x1 x2 1
set_option maxHeartbeats 1000000 in
theorem pt_Mo_met_48 {g : pj_G} {b : Nat} (C : pj_X g c_Mo_met 6 R_Mo (some .int) rm_Mo_met) {K : Int32 → pj_M → Prop} (hE : pj_E g b (pj_Ki K))   {u : pj_M} {x1 : Int32} {x2 : Int32}   (h : pb_Mo_met_48  K u x1 x2) : pj_J g (pj_N g b u) 48 [some (.ref (b + 217)), some (.int x1), some (.int x2), none, none, none] [] := by
  unfold pb_Mo_met_48 at h
  refine pj_iconst C d_Mo_met_48 (pc' := 49) rfl (v := 1) (by decide) ?_
  refine pj_goto C d_Mo_met_49 (tgt := 68) (by decide) ?_
  exact pj_cut (pj_le_s (pj_le_s (pj_le_s (pj_le_n (pj_le_n (pj_le_n pj_le_e)))))) (pt_Mo_met_68 C hE   h)
def pb_Mo_met_38  (K : Int32 → pj_M → Prop) (u : pj_M) (x1 : Int32) (x2 : Int32) : Prop := vp_in 4 48 ∧ ((((u 227 (4 : Int32).toNatClampNeg) = 4) → (pb_Mo_met_48  K u x1 x2)) ∧ (¬ ((u 227 (4 : Int32).toNatClampNeg) = 4) → (pb_Mo_met_52  K u x1 x2)))
set_option maxHeartbeats 1000000 in
theorem pt_Mo_met_38 {g : pj_G} {b : Nat} (C : pj_X g c_Mo_met 6 R_Mo (some .int) rm_Mo_met) {K : Int32 → pj_M → Prop} (hE : pj_E g b (pj_Ki K))   {u : pj_M} {x1 : Int32} {x2 : Int32}   (h : pb_Mo_met_38  K u x1 x2) : pj_J g (pj_N g b u) 38 [some (.ref (b + 217)), some (.int x1), some (.int x2), none, none, none] [] := by
  unfold pb_Mo_met_38 at h
  refine pj_aload_n C d_Mo_met_38 (pc' := 39) (i := 0) (x := b + 217) rfl rfl rfl ?_
  refine fg_Model_38_Model C tk_217 d_Mo_met_39 (pc' := 42) rfl ?_
  refine pj_iconst C d_Mo_met_42 (pc' := 43) rfl (v := 4) (by decide) ?_
  refine pj_iald C (pj_lt tk_227 (by decide)) (fun E u => ka_22 tk_227) d_Mo_met_43 (pc' := 44) rfl h (fun h => ?_)
  refine pj_iconst C d_Mo_met_44 (pc' := 45) rfl (v := 4) (by decide) ?_
  refine pj_icmp_ne C d_Mo_met_45 (pc' := 48) rfl (tgt := 52) (by decide) h (fun h => ?_) (fun h => ?_)
  · exact pj_cut (pj_le_s (pj_le_s (pj_le_s (pj_le_n (pj_le_n (pj_le_n pj_le_e)))))) (pt_Mo_met_52 C hE   h)
  · exact pj_cut (pj_le_s (pj_le_s (pj_le_s (pj_le_n (pj_le_n (pj_le_n pj_le_e)))))) (pt_Mo_met_48 C hE   h)
def pb_Mo_met_34  (K : Int32 → pj_M → Prop) (u : pj_M) (x1 : Int32) (x2 : Int32) : Prop := pb_Mo_met_68  K u x1 x2 0
set_option maxHeartbeats 1000000 in
theorem pt_Mo_met_34 {g : pj_G} {b : Nat} (C : pj_X g c_Mo_met 6 R_Mo (some .int) rm_Mo_met) {K : Int32 → pj_M → Prop} (hE : pj_E g b (pj_Ki K))   {u : pj_M} {x1 : Int32} {x2 : Int32}   (h : pb_Mo_met_34  K u x1 x2) : pj_J g (pj_N g b u) 34 [some (.ref (b + 217)), some (.int x1), some (.int x2), none, none, none] [] := by
  unfold pb_Mo_met_34 at h
  refine pj_iconst C d_Mo_met_34 (pc' := 35) rfl (v := 0) (by decide) ?_
  refine pj_goto C d_Mo_met_35 (tgt := 68) (by decide) ?_
  exact pj_cut (pj_le_s (pj_le_s (pj_le_s (pj_le_n (pj_le_n (pj_le_n pj_le_e)))))) (pt_Mo_met_68 C hE   h)
def pb_Mo_met_26  (K : Int32 → pj_M → Prop) (u : pj_M) (x1 : Int32) (x2 : Int32) : Prop := (((u 217 16) = 5) → (pb_Mo_met_38  K u x1 x2)) ∧ (¬ ((u 217 16) = 5) → (pb_Mo_met_34  K u x1 x2))
set_option maxHeartbeats 1000000 in
theorem pt_Mo_met_26 {g : pj_G} {b : Nat} (C : pj_X g c_Mo_met 6 R_Mo (some .int) rm_Mo_met) {K : Int32 → pj_M → Prop} (hE : pj_E g b (pj_Ki K))   {u : pj_M} {x1 : Int32} {x2 : Int32}   (h : pb_Mo_met_26  K u x1 x2) : pj_J g (pj_N g b u) 26 [some (.ref (b + 217)), some (.int x1), some (.int x2), none, none, none] [] := by
  unfold pb_Mo_met_26 at h
  refine pj_aload_n C d_Mo_met_26 (pc' := 27) (i := 0) (x := b + 217) rfl rfl rfl ?_
  refine fg_Model_233_Model C tk_217 d_Mo_met_27 (pc' := 30) rfl ?_
  refine pj_iconst C d_Mo_met_30 (pc' := 31) rfl (v := 5) (by decide) ?_
  refine pj_icmp_eq C d_Mo_met_31 (pc' := 34) rfl (tgt := 38) (by decide) h (fun h => ?_) (fun h => ?_)
  · exact pj_cut (pj_le_s (pj_le_s (pj_le_s (pj_le_n (pj_le_n (pj_le_n pj_le_e)))))) (pt_Mo_met_38 C hE   h)
  · exact pj_cut (pj_le_s (pj_le_s (pj_le_s (pj_le_n (pj_le_n (pj_le_n pj_le_e)))))) (pt_Mo_met_34 C hE   h)
def pb_Mo_met_0  (K : Int32 → pj_M → Prop) (u : pj_M) (x1 : Int32) (x2 : Int32) : Prop := vp_in x2 8 ∧ (vp_in (u 244 x2.toNatClampNeg) 8 ∧ (pj_let (u 219 (u 244 x2.toNatClampNeg).toNatClampNeg) fun y1 => (vp_in 3 48 ∧ (pj_let (u 227 (3 : Int32).toNatClampNeg) fun y2 => (((y2 = 3) → (pb_Mo_met_26  K u x1 x2)) ∧ (¬ (y2 = 3) → (pb_Mo_met_108  K u x2 y1 y2)))))))
set_option maxHeartbeats 1000000 in
theorem pt_Mo_met_0 {g : pj_G} {b : Nat} (C : pj_X g c_Mo_met 6 R_Mo (some .int) rm_Mo_met) {K : Int32 → pj_M → Prop} (hE : pj_E g b (pj_Ki K))   {u : pj_M} {x1 : Int32} {x2 : Int32}   (h : pb_Mo_met_0  K u x1 x2) : pj_J g (pj_N g b u) 0 [some (.ref (b + 217)), some (.int x1), some (.int x2), none, none, none] [] := by
  unfold pb_Mo_met_0 at h
  refine pj_aload_n C d_Mo_met_0 (pc' := 1) (i := 0) (x := b + 217) rfl rfl rfl ?_
  refine fg_Model_13_Model C tk_217 d_Mo_met_1 (pc' := 4) rfl ?_
  refine pj_aload_n C d_Mo_met_4 (pc' := 5) (i := 0) (x := b + 217) rfl rfl rfl ?_
  refine fg_Model_89_Model C tk_217 d_Mo_met_5 (pc' := 8) rfl ?_
  refine pj_iload_n C d_Mo_met_8 (pc' := 9) (i := 2) (x := x2) rfl rfl rfl ?_
  refine pj_iald C (pj_lt tk_244 (by decide)) (fun E u => ka_20 tk_244) d_Mo_met_9 (pc' := 10) rfl h (fun h => ?_)
  refine pj_iald C (pj_lt tk_219 (by decide)) (fun E u => ka_20 tk_219) d_Mo_met_10 (pc' := 11) rfl h (fun h => ?_)
  refine pj_name h (fun y1 h => ?_)
  refine pj_istore_n C d_Mo_met_11 (pc' := 12) (i := 3) (vs' := [some (.ref (b + 217)), some (.int x1), some (.int x2), some (.int y1), none, none]) rfl rfl (Nat.le_of_ble_eq_true rfl) (Nat.le_of_ble_eq_true rfl) rfl rfl ?_
  refine pj_aload_n C d_Mo_met_12 (pc' := 13) (i := 0) (x := b + 217) rfl rfl rfl ?_
  refine fg_Model_38_Model C tk_217 d_Mo_met_13 (pc' := 16) rfl ?_
  refine pj_iconst C d_Mo_met_16 (pc' := 17) rfl (v := 3) (by decide) ?_
  refine pj_iald C (pj_lt tk_227 (by decide)) (fun E u => ka_22 tk_227) d_Mo_met_17 (pc' := 18) rfl h (fun h => ?_)
  refine pj_name h (fun y2 h => ?_)
  refine pj_istore C d_Mo_met_18 (pc' := 20) (i := 4) (vs' := [some (.ref (b + 217)), some (.int x1), some (.int x2), some (.int y1), some (.int y2), none]) rfl (Nat.le_of_ble_eq_true rfl) (Nat.le_of_ble_eq_true rfl) rfl rfl ?_
  refine pj_iload C d_Mo_met_20 (pc' := 22) (i := 4) (x := y2) rfl rfl ?_
  refine pj_iconst C d_Mo_met_22 (pc' := 23) rfl (v := 3) (by decide) ?_
  refine pj_icmp_ne C d_Mo_met_23 (pc' := 26) rfl (tgt := 108) (by decide) h (fun h => ?_) (fun h => ?_)
  · exact pj_cut (pj_le_s (pj_le_n (pj_le_s (pj_le_s (pj_le_s (pj_le_n pj_le_e)))))) (pt_Mo_met_108 C hE   h)
  · exact pj_cut (pj_le_s (pj_le_s (pj_le_s (pj_le_n (pj_le_n (pj_le_n pj_le_e)))))) (pt_Mo_met_26 C hE   h)
def pw_Mo_met (u : pj_M) (x1 : Int32) (x2 : Int32) (K : Int32 → pj_M → Prop) : Prop := pb_Mo_met_0  K u x1 x2
theorem pc_Mo_met (l : Launch) (D : va_G) (E : Nat → ClassId) {b : Nat} {u : pj_M} {x1 : Int32} {x2 : Int32} {K : Int32 → pj_M → Prop}  (h : pw_Mo_met u x1 x2 K) : pj_C l y_Mo_met c_Mo_met 6 (some .int) rm_Mo_met D E b [.ref (b + 217), .int x1, .int x2] u (pj_Ki K) := by
  refine pj_met (own := R_Mo) (by decide +kernel) rfl (Nat.le_of_ble_eq_true rfl) (fun g hE C => ?_)
  unfold pw_Mo_met at h
  show pj_J g (pj_N g b u) 0 [some (.ref (b + 217)), some (.int x1), some (.int x2), none, none, none] []
  exact pj_cut (pj_le_s (pj_le_s (pj_le_s (pj_le_n (pj_le_n (pj_le_n pj_le_e)))))) (pt_Mo_met_0 C hE   h)
/-! Model.answer(IIIII)V -/
theorem ck_Model_310_Model {g : pj_G} {b : Nat} {cc : ByteArray} {nL : Nat} {ret : Option FieldType} {rm : Room} {u : pj_M} {pc pc' : Nat} {vs : List (Option Value)} {st : List Value} (C : pj_X g cc nL R_Mo ret rm) {x1 : Int32} {x2 : Int32} {K : pj_M → Prop}  (h : pw_Mo_sendAnswer u x1 x2 K) (hdg : decode cc pc = .ok (.invokevirtual 310, 3)) (hp : pc + 3 = pc') (hR : rm_Mo_sendAnswer.frames + 1 ≤ rm.frames ∧ 8 + (4 + 11) + rm_Mo_sendAnswer.locals ≤ rm.locals) (h8 : (st.map fun v => v.category).sum ≤ 8) (kk : ∀ u', K u' → pj_J g (pj_N g b u') pc' vs st) : pj_J g (pj_N g b u) pc vs (.int x2 :: .int x1 :: .ref (b + 217) :: st) :=
  pj_callV C (As := [.int x1, .int x2]) (fun l D E => pc_Mo_sendAnswer l D E  h) rfl rfl cl_Model (pj_lt tk_217 (by decide)) (fun E => ko_11 tk_217) wm_1532 wm_1534 wm_78 wm_103 wm_1535 (by decide +kernel) (n := 2) rfl hR rfl h8 hdg hp (fun v u' hq => by obtain ⟨rfl, hk⟩ := hq; exact kk u' hk)
def rm_Mo_answer : Room := { frames := 6, cells := 0, slots := 0, locals := 136 }
def pb_Mo_answer_268  (K : pj_M → Prop) (u : pj_M) (x1 : Int32) (x6 : Int32) : Prop := pw_Mo_sendAnswer u x1 x6 fun u1 => (K u1)
set_option maxHeartbeats 1000000 in
theorem pt_Mo_answer_268 {g : pj_G} {b : Nat} (C : pj_X g c_Mo_answer 8 R_Mo none rm_Mo_answer) {K : pj_M → Prop} (hE : pj_E g b (pj_Kv K))   {u : pj_M} {x1 : Int32} {x6 : Int32}   (h : pb_Mo_answer_268  K u x1 x6) : pj_J g (pj_N g b u) 268 [some (.ref (b + 217)), some (.int x1), none, none, none, none, some (.int x6), none] [] := by
  unfold pb_Mo_answer_268 at h
  refine pj_aload_n C d_Mo_answer_268 (pc' := 269) (i := 0) (x := b + 217) rfl rfl rfl ?_
  refine pj_iload_n C d_Mo_answer_269 (pc' := 270) (i := 1) (x := x1) rfl rfl rfl ?_
  refine pj_iload C d_Mo_answer_270 (pc' := 272) (i := 6) (x := x6) rfl rfl ?_
  refine ck_Model_310_Model C  h d_Mo_answer_272 (pc' := 275) rfl ⟨Nat.le_of_ble_eq_true rfl, Nat.le_of_ble_eq_true rfl⟩ (Nat.le_of_ble_eq_true rfl) (fun u1 h => ?_)
  exact pj_vret C hE d_Mo_answer_275 ⟨rfl, h⟩
def pb_Mo_answer_242 (R233 : pj_M → Int32 → Prop) (K : pj_M → Prop) (u : pj_M) (x1 : Int32) (x6 : Int32) (x7 : Int32) : Prop := vp_in x7 48 ∧ (vp_in ((20 * x6) + x7) 160 ∧ pj_put u 257 ((20 * x6) + x7).toNatClampNeg (u 227 x7.toNatClampNeg) fun u1 => (R233 u1 (x7 + 1)))
set_option maxHeartbeats 1000000 in
theorem pt_Mo_answer_242 {g : pj_G} {b : Nat} (C : pj_X g c_Mo_answer 8 R_Mo none rm_Mo_answer) {K : pj_M → Prop} (hE : pj_E g b (pj_Kv K)) {R233 : pj_M → Int32 → Prop}  {u : pj_M} {x1 : Int32} {x6 : Int32} {x7 : Int32} (hR233 : ∀ (u : pj_M) (x7 : Int32), R233 u x7 → pj_J g (pj_N g b u) 233 [some (.ref (b + 217)), some (.int x1), none, none, none, none, some (.int x6), some (.int x7)] [])  (h : pb_Mo_answer_242 R233 K u x1 x6 x7) : pj_J g (pj_N g b u) 242 [some (.ref (b + 217)), some (.int x1), none, none, none, none, some (.int x6), some (.int x7)] [] := by
  unfold pb_Mo_answer_242 at h
  refine pj_aload_n C d_Mo_answer_242 (pc' := 243) (i := 0) (x := b + 217) rfl rfl rfl ?_
  refine fg_Model_128_Model C tk_217 d_Mo_answer_243 (pc' := 246) rfl ?_
  refine pj_bipush C d_Mo_answer_246 (pc' := 248) rfl (v := 20) (by decide) ?_
  refine pj_iload C d_Mo_answer_248 (pc' := 250) (i := 6) (x := x6) rfl rfl ?_
  refine pj_imul C d_Mo_answer_250 (pc' := 251) rfl ?_
  refine pj_iload C d_Mo_answer_251 (pc' := 253) (i := 7) (x := x7) rfl rfl ?_
  refine pj_iadd C d_Mo_answer_253 (pc' := 254) rfl ?_
  refine pj_aload_n C d_Mo_answer_254 (pc' := 255) (i := 0) (x := b + 217) rfl rfl rfl ?_
  refine fg_Model_38_Model C tk_217 d_Mo_answer_255 (pc' := 258) rfl ?_
  refine pj_iload C d_Mo_answer_258 (pc' := 260) (i := 7) (x := x7) rfl rfl ?_
  refine pj_iald C (pj_lt tk_227 (by decide)) (fun E u => ka_22 tk_227) d_Mo_answer_260 (pc' := 261) rfl h (fun h => ?_)
  refine pj_iast C (pj_lt tk_257 (by decide)) (fun E u => ka_36 tk_257) d_Mo_answer_261 (pc' := 262) rfl h (fun u1 h => ?_)
  refine pj_iinc C d_Mo_answer_262 (pc' := 265) (x := x7) (d := 1) (vs' := [some (.ref (b + 217)), some (.int x1), none, none, none, none, some (.int x6), some (.int (x7 + 1))]) rfl rfl (Nat.le_of_ble_eq_true rfl) rfl (by decide) rfl ?_
  refine pj_goto C d_Mo_answer_265 (tgt := 233) (by decide) ?_
  exact pj_cut (pj_le_s (pj_le_s (pj_le_n (pj_le_n (pj_le_n (pj_le_n (pj_le_s (pj_le_s pj_le_e)))))))) (hR233 _ _ h)
def pb_Mo_answer_233b (R233 : pj_M → Int32 → Prop) (K : pj_M → Prop) (u : pj_M) (x1 : Int32) (x6 : Int32) (x7 : Int32) : Prop := (((u 217 16) ≤ x7) → (pb_Mo_answer_268  K u x1 x6)) ∧ (¬ ((u 217 16) ≤ x7) → (pb_Mo_answer_242 R233 K u x1 x6 x7))
set_option maxHeartbeats 1000000 in
theorem pt_Mo_answer_233b {g : pj_G} {b : Nat} (C : pj_X g c_Mo_answer 8 R_Mo none rm_Mo_answer) {K : pj_M → Prop} (hE : pj_E g b (pj_Kv K)) {R233 : pj_M → Int32 → Prop}  {u : pj_M} {x1 : Int32} {x6 : Int32} {x7 : Int32} (hR233 : ∀ (u : pj_M) (x7 : Int32), R233 u x7 → pj_J g (pj_N g b u) 233 [some (.ref (b + 217)), some (.int x1), none, none, none, none, some (.int x6), some (.int x7)] [])  (h : pb_Mo_answer_233b R233 K u x1 x6 x7) : pj_J g (pj_N g b u) 233 [some (.ref (b + 217)), some (.int x1), none, none, none, none, some (.int x6), some (.int x7)] [] := by
  unfold pb_Mo_answer_233b at h
  refine pj_iload C d_Mo_answer_233 (pc' := 235) (i := 7) (x := x7) rfl rfl ?_
  refine pj_aload_n C d_Mo_answer_235 (pc' := 236) (i := 0) (x := b + 217) rfl rfl rfl ?_
  refine fg_Model_233_Model C tk_217 d_Mo_answer_236 (pc' := 239) rfl ?_
  refine pj_icmp_ge C d_Mo_answer_239 (pc' := 242) rfl (tgt := 268) (by decide) h (fun h => ?_) (fun h => ?_)
  · exact pj_cut (pj_le_s (pj_le_s (pj_le_n (pj_le_n (pj_le_n (pj_le_n (pj_le_s (pj_le_n pj_le_e)))))))) (pt_Mo_answer_268 C hE   h)
  · exact pj_cut (pj_le_s (pj_le_s (pj_le_n (pj_le_n (pj_le_n (pj_le_n (pj_le_s (pj_le_s pj_le_e)))))))) (pt_Mo_answer_242 C hE hR233  h)
def pb_Mo_answer_233  (K : pj_M → Prop) (x1 : Int32) (x6 : Int32) : Nat → pj_M → Int32 → Prop
  | 0 => fun _ _ => False
  | n + 1 => fun u x7 => pb_Mo_answer_233b (pb_Mo_answer_233  K x1 x6 n) K u x1 x6 x7
theorem pt_Mo_answer_233 {g : pj_G} {b : Nat} (C : pj_X g c_Mo_answer 8 R_Mo none rm_Mo_answer) {K : pj_M → Prop} (hE : pj_E g b (pj_Kv K))  {x1 : Int32} {x6 : Int32}   : ∀ (n : Nat) (u : pj_M) (x7 : Int32), pb_Mo_answer_233  K x1 x6 n u x7 → pj_J g (pj_N g b u) 233 [some (.ref (b + 217)), some (.int x1), none, none, none, none, some (.int x6), some (.int x7)] [] := by
  intro n
  induction n with
  | zero => intro u x7 h; exact False.elim h
  | succ n ih =>
    intro u x7 h
    exact (pt_Mo_answer_233b C hE ih  h)
def pb_Mo_answer_163  (K : pj_M → Prop) (u : pj_M) (x1 : Int32) (x2 : Int32) (x3 : Int32) (x4 : Int32) (x5 : Int32) : Prop := vp_in x1 2 ∧ (pj_let ((4 * x1) + (u 251 x1.toNatClampNeg)) fun y1 => (vp_in x1 2 ∧ (vp_in x1 2 ∧ pj_put u 251 x1.toNatClampNeg ((u 251 x1.toNatClampNeg) + 1) fun u2 => (vp_in y1 8 ∧ pj_put u2 252 y1.toNatClampNeg x2 fun u3 => (vp_in y1 8 ∧ pj_put u3 253 y1.toNatClampNeg x3 fun u4 => (vp_in y1 8 ∧ pj_put u4 254 y1.toNatClampNeg x4 fun u5 => (vp_in y1 8 ∧ pj_put u5 255 y1.toNatClampNeg x5 fun u6 => (vp_in y1 8 ∧ pj_put u6 256 y1.toNatClampNeg (u6 217 16) fun u7 => (∃ n, pb_Mo_answer_233  K x1 y1 n u7 0)))))))))
set_option maxHeartbeats 1000000 in
theorem pt_Mo_answer_163 {g : pj_G} {b : Nat} (C : pj_X g c_Mo_answer 8 R_Mo none rm_Mo_answer) {K : pj_M → Prop} (hE : pj_E g b (pj_Kv K))   {u : pj_M} {x1 : Int32} {x2 : Int32} {x3 : Int32} {x4 : Int32} {x5 : Int32}   (h : pb_Mo_answer_163  K u x1 x2 x3 x4 x5) : pj_J g (pj_N g b u) 163 [some (.ref (b + 217)), some (.int x1), some (.int x2), some (.int x3), some (.int x4), some (.int x5), none, none] [] := by
  unfold pb_Mo_answer_163 at h
  refine pj_iconst C d_Mo_answer_163 (pc' := 164) rfl (v := 4) (by decide) ?_
  refine pj_iload_n C d_Mo_answer_164 (pc' := 165) (i := 1) (x := x1) rfl rfl rfl ?_
  refine pj_imul C d_Mo_answer_165 (pc' := 166) rfl ?_
  refine pj_aload_n C d_Mo_answer_166 (pc' := 167) (i := 0) (x := b + 217) rfl rfl rfl ?_
  refine fg_Model_110_Model C tk_217 d_Mo_answer_167 (pc' := 170) rfl ?_
  refine pj_iload_n C d_Mo_answer_170 (pc' := 171) (i := 1) (x := x1) rfl rfl rfl ?_
  refine pj_iald C (pj_lt tk_251 (by decide)) (fun E u => ka_33 tk_251) d_Mo_answer_171 (pc' := 172) rfl h (fun h => ?_)
  refine pj_iadd C d_Mo_answer_172 (pc' := 173) rfl ?_
  refine pj_name h (fun y1 h => ?_)
  refine pj_istore C d_Mo_answer_173 (pc' := 175) (i := 6) (vs' := [some (.ref (b + 217)), some (.int x1), some (.int x2), some (.int x3), some (.int x4), some (.int x5), some (.int y1), none]) rfl (Nat.le_of_ble_eq_true rfl) (Nat.le_of_ble_eq_true rfl) rfl rfl ?_
  refine pj_aload_n C d_Mo_answer_175 (pc' := 176) (i := 0) (x := b + 217) rfl rfl rfl ?_
  refine fg_Model_110_Model C tk_217 d_Mo_answer_176 (pc' := 179) rfl ?_
  refine pj_iload_n C d_Mo_answer_179 (pc' := 180) (i := 1) (x := x1) rfl rfl rfl ?_
  refine pj_dup2_11 C d_Mo_answer_180 (pc' := 181) rfl rfl rfl ?_
  refine pj_iald C (pj_lt tk_251 (by decide)) (fun E u => ka_33 tk_251) d_Mo_answer_181 (pc' := 182) rfl h (fun h => ?_)
  refine pj_iconst C d_Mo_answer_182 (pc' := 183) rfl (v := 1) (by decide) ?_
  refine pj_iadd C d_Mo_answer_183 (pc' := 184) rfl ?_
  refine pj_iast C (pj_lt tk_251 (by decide)) (fun E u => ka_33 tk_251) d_Mo_answer_184 (pc' := 185) rfl h (fun u2 h => ?_)
  refine pj_aload_n C d_Mo_answer_185 (pc' := 186) (i := 0) (x := b + 217) rfl rfl rfl ?_
  refine fg_Model_113_Model C tk_217 d_Mo_answer_186 (pc' := 189) rfl ?_
  refine pj_iload C d_Mo_answer_189 (pc' := 191) (i := 6) (x := y1) rfl rfl ?_
  refine pj_iload_n C d_Mo_answer_191 (pc' := 192) (i := 2) (x := x2) rfl rfl rfl ?_
  refine pj_iast C (pj_lt tk_252 (by decide)) (fun E u => ka_20 tk_252) d_Mo_answer_192 (pc' := 193) rfl h (fun u3 h => ?_)
  refine pj_aload_n C d_Mo_answer_193 (pc' := 194) (i := 0) (x := b + 217) rfl rfl rfl ?_
  refine fg_Model_116_Model C tk_217 d_Mo_answer_194 (pc' := 197) rfl ?_
  refine pj_iload C d_Mo_answer_197 (pc' := 199) (i := 6) (x := y1) rfl rfl ?_
  refine pj_iload_n C d_Mo_answer_199 (pc' := 200) (i := 3) (x := x3) rfl rfl rfl ?_
  refine pj_iast C (pj_lt tk_253 (by decide)) (fun E u => ka_20 tk_253) d_Mo_answer_200 (pc' := 201) rfl h (fun u4 h => ?_)
  refine pj_aload_n C d_Mo_answer_201 (pc' := 202) (i := 0) (x := b + 217) rfl rfl rfl ?_
  refine fg_Model_119_Model C tk_217 d_Mo_answer_202 (pc' := 205) rfl ?_
  refine pj_iload C d_Mo_answer_205 (pc' := 207) (i := 6) (x := y1) rfl rfl ?_
  refine pj_iload C d_Mo_answer_207 (pc' := 209) (i := 4) (x := x4) rfl rfl ?_
  refine pj_iast C (pj_lt tk_254 (by decide)) (fun E u => ka_20 tk_254) d_Mo_answer_209 (pc' := 210) rfl h (fun u5 h => ?_)
  refine pj_aload_n C d_Mo_answer_210 (pc' := 211) (i := 0) (x := b + 217) rfl rfl rfl ?_
  refine fg_Model_122_Model C tk_217 d_Mo_answer_211 (pc' := 214) rfl ?_
  refine pj_iload C d_Mo_answer_214 (pc' := 216) (i := 6) (x := y1) rfl rfl ?_
  refine pj_iload C d_Mo_answer_216 (pc' := 218) (i := 5) (x := x5) rfl rfl ?_
  refine pj_iast C (pj_lt tk_255 (by decide)) (fun E u => ka_20 tk_255) d_Mo_answer_218 (pc' := 219) rfl h (fun u6 h => ?_)
  refine pj_aload_n C d_Mo_answer_219 (pc' := 220) (i := 0) (x := b + 217) rfl rfl rfl ?_
  refine fg_Model_125_Model C tk_217 d_Mo_answer_220 (pc' := 223) rfl ?_
  refine pj_iload C d_Mo_answer_223 (pc' := 225) (i := 6) (x := y1) rfl rfl ?_
  refine pj_aload_n C d_Mo_answer_225 (pc' := 226) (i := 0) (x := b + 217) rfl rfl rfl ?_
  refine fg_Model_233_Model C tk_217 d_Mo_answer_226 (pc' := 229) rfl ?_
  refine pj_iast C (pj_lt tk_256 (by decide)) (fun E u => ka_20 tk_256) d_Mo_answer_229 (pc' := 230) rfl h (fun u7 h => ?_)
  refine pj_iconst C d_Mo_answer_230 (pc' := 231) rfl (v := 0) (by decide) ?_
  refine pj_istore C d_Mo_answer_231 (pc' := 233) (i := 7) (vs' := [some (.ref (b + 217)), some (.int x1), some (.int x2), some (.int x3), some (.int x4), some (.int x5), some (.int y1), some (.int 0)]) rfl (Nat.le_of_ble_eq_true rfl) (Nat.le_of_ble_eq_true rfl) rfl rfl ?_
  obtain ⟨n, h⟩ := h
  exact pj_cut (pj_le_s (pj_le_s (pj_le_n (pj_le_n (pj_le_n (pj_le_n (pj_le_s (pj_le_s pj_le_e)))))))) (pt_Mo_answer_233 C hE   n _ _ h)
def pb_Mo_answer_156  (K : pj_M → Prop) (u : pj_M) (x1 : Int32) (x2 : Int32) (x3 : Int32) (x4 : Int32) (x5 : Int32) : Prop := vp_in x1 2 ∧ pj_put u 251 x1.toNatClampNeg 3 fun u1 => (pb_Mo_answer_163  K u1 x1 x2 x3 x4 x5)
set_option maxHeartbeats 1000000 in
theorem pt_Mo_answer_156 {g : pj_G} {b : Nat} (C : pj_X g c_Mo_answer 8 R_Mo none rm_Mo_answer) {K : pj_M → Prop} (hE : pj_E g b (pj_Kv K))   {u : pj_M} {x1 : Int32} {x2 : Int32} {x3 : Int32} {x4 : Int32} {x5 : Int32}   (h : pb_Mo_answer_156  K u x1 x2 x3 x4 x5) : pj_J g (pj_N g b u) 156 [some (.ref (b + 217)), some (.int x1), some (.int x2), some (.int x3), some (.int x4), some (.int x5), none, none] [] := by
  unfold pb_Mo_answer_156 at h
  refine pj_aload_n C d_Mo_answer_156 (pc' := 157) (i := 0) (x := b + 217) rfl rfl rfl ?_
  refine fg_Model_110_Model C tk_217 d_Mo_answer_157 (pc' := 160) rfl ?_
  refine pj_iload_n C d_Mo_answer_160 (pc' := 161) (i := 1) (x := x1) rfl rfl rfl ?_
  refine pj_iconst C d_Mo_answer_161 (pc' := 162) rfl (v := 3) (by decide) ?_
  refine pj_iast C (pj_lt tk_251 (by decide)) (fun E u => ka_33 tk_251) d_Mo_answer_162 (pc' := 163) rfl h (fun u1 h => ?_)
  exact pj_cut (pj_le_s (pj_le_s (pj_le_s (pj_le_s (pj_le_s (pj_le_s (pj_le_n (pj_le_n pj_le_e)))))))) (pt_Mo_answer_163 C hE   h)
def pb_Mo_answer_150 (R15 : pj_M → Int32 → Prop) (K : pj_M → Prop) (u : pj_M) (x1 : Int32) (x2 : Int32) (x3 : Int32) (x4 : Int32) (x5 : Int32) (x6 : Int32) : Prop := R15 u (x6 + 1)
set_option maxHeartbeats 1000000 in
theorem pt_Mo_answer_150 {g : pj_G} {b : Nat} (C : pj_X g c_Mo_answer 8 R_Mo none rm_Mo_answer) {K : pj_M → Prop} (hE : pj_E g b (pj_Kv K)) {R15 : pj_M → Int32 → Prop}  {u : pj_M} {x1 : Int32} {x2 : Int32} {x3 : Int32} {x4 : Int32} {x5 : Int32} {x6 : Int32} (hR15 : ∀ (u : pj_M) (x6 : Int32), R15 u x6 → pj_J g (pj_N g b u) 15 [some (.ref (b + 217)), some (.int x1), some (.int x2), some (.int x3), some (.int x4), some (.int x5), some (.int x6), none] [])  (h : pb_Mo_answer_150 R15 K u x1 x2 x3 x4 x5 x6) : pj_J g (pj_N g b u) 150 [some (.ref (b + 217)), some (.int x1), some (.int x2), some (.int x3), some (.int x4), some (.int x5), some (.int x6), none] [] := by
  unfold pb_Mo_answer_150 at h
  refine pj_iinc C d_Mo_answer_150 (pc' := 153) (x := x6) (d := 1) (vs' := [some (.ref (b + 217)), some (.int x1), some (.int x2), some (.int x3), some (.int x4), some (.int x5), some (.int (x6 + 1)), none]) rfl rfl (Nat.le_of_ble_eq_true rfl) rfl (by decide) rfl ?_
  refine pj_goto C d_Mo_answer_153 (tgt := 15) (by decide) ?_
  exact pj_cut (pj_le_s (pj_le_s (pj_le_s (pj_le_s (pj_le_s (pj_le_s (pj_le_s (pj_le_n pj_le_e)))))))) (hR15 _ _ h)
def pb_Mo_answer_115 (R15 : pj_M → Int32 → Prop) (R108 : pj_M → Int32 → Prop) (K : pj_M → Prop) (u : pj_M) (x1 : Int32) (x2 : Int32) (x3 : Int32) (x4 : Int32) (x5 : Int32) (x6 : Int32) (x7 : Int32) : Prop := vp_in (((20 * x6) + 20) + x7) 160 ∧ (vp_in ((20 * x6) + x7) 160 ∧ pj_put u 257 ((20 * x6) + x7).toNatClampNeg (u 257 (((20 * x6) + 20) + x7).toNatClampNeg) fun u1 => (R108 u1 (x7 + 1)))
set_option maxHeartbeats 1000000 in
theorem pt_Mo_answer_115 {g : pj_G} {b : Nat} (C : pj_X g c_Mo_answer 8 R_Mo none rm_Mo_answer) {K : pj_M → Prop} (hE : pj_E g b (pj_Kv K)) {R15 : pj_M → Int32 → Prop} {R108 : pj_M → Int32 → Prop}  {u : pj_M} {x1 : Int32} {x2 : Int32} {x3 : Int32} {x4 : Int32} {x5 : Int32} {x6 : Int32} {x7 : Int32} (hR15 : ∀ (u : pj_M) (x6 : Int32), R15 u x6 → pj_J g (pj_N g b u) 15 [some (.ref (b + 217)), some (.int x1), some (.int x2), some (.int x3), some (.int x4), some (.int x5), some (.int x6), none] []) (hR108 : ∀ (u : pj_M) (x7 : Int32), R108 u x7 → pj_J g (pj_N g b u) 108 [some (.ref (b + 217)), some (.int x1), some (.int x2), some (.int x3), some (.int x4), some (.int x5), some (.int x6), some (.int x7)] [])  (h : pb_Mo_answer_115 R15 R108 K u x1 x2 x3 x4 x5 x6 x7) : pj_J g (pj_N g b u) 115 [some (.ref (b + 217)), some (.int x1), some (.int x2), some (.int x3), some (.int x4), some (.int x5), some (.int x6), some (.int x7)] [] := by
  unfold pb_Mo_answer_115 at h
  refine pj_aload_n C d_Mo_answer_115 (pc' := 116) (i := 0) (x := b + 217) rfl rfl rfl ?_
  refine fg_Model_128_Model C tk_217 d_Mo_answer_116 (pc' := 119) rfl ?_
  refine pj_bipush C d_Mo_answer_119 (pc' := 121) rfl (v := 20) (by decide) ?_
  refine pj_iload C d_Mo_answer_121 (pc' := 123) (i := 6) (x := x6) rfl rfl ?_
  refine pj_imul C d_Mo_answer_123 (pc' := 124) rfl ?_
  refine pj_iload C d_Mo_answer_124 (pc' := 126) (i := 7) (x := x7) rfl rfl ?_
  refine pj_iadd C d_Mo_answer_126 (pc' := 127) rfl ?_
  refine pj_aload_n C d_Mo_answer_127 (pc' := 128) (i := 0) (x := b + 217) rfl rfl rfl ?_
  refine fg_Model_128_Model C tk_217 d_Mo_answer_128 (pc' := 131) rfl ?_
  refine pj_bipush C d_Mo_answer_131 (pc' := 133) rfl (v := 20) (by decide) ?_
  refine pj_iload C d_Mo_answer_133 (pc' := 135) (i := 6) (x := x6) rfl rfl ?_
  refine pj_imul C d_Mo_answer_135 (pc' := 136) rfl ?_
  refine pj_bipush C d_Mo_answer_136 (pc' := 138) rfl (v := 20) (by decide) ?_
  refine pj_iadd C d_Mo_answer_138 (pc' := 139) rfl ?_
  refine pj_iload C d_Mo_answer_139 (pc' := 141) (i := 7) (x := x7) rfl rfl ?_
  refine pj_iadd C d_Mo_answer_141 (pc' := 142) rfl ?_
  refine pj_iald C (pj_lt tk_257 (by decide)) (fun E u => ka_36 tk_257) d_Mo_answer_142 (pc' := 143) rfl h (fun h => ?_)
  refine pj_iast C (pj_lt tk_257 (by decide)) (fun E u => ka_36 tk_257) d_Mo_answer_143 (pc' := 144) rfl h (fun u1 h => ?_)
  refine pj_iinc C d_Mo_answer_144 (pc' := 147) (x := x7) (d := 1) (vs' := [some (.ref (b + 217)), some (.int x1), some (.int x2), some (.int x3), some (.int x4), some (.int x5), some (.int x6), some (.int (x7 + 1))]) rfl rfl (Nat.le_of_ble_eq_true rfl) rfl (by decide) rfl ?_
  refine pj_goto C d_Mo_answer_147 (tgt := 108) (by decide) ?_
  exact pj_cut (pj_le_s (pj_le_s (pj_le_s (pj_le_s (pj_le_s (pj_le_s (pj_le_s (pj_le_s pj_le_e)))))))) (hR108 _ _ h)
def pb_Mo_answer_108b (R15 : pj_M → Int32 → Prop) (R108 : pj_M → Int32 → Prop) (K : pj_M → Prop) (u : pj_M) (x1 : Int32) (x2 : Int32) (x3 : Int32) (x4 : Int32) (x5 : Int32) (x6 : Int32) (x7 : Int32) : Prop := ((20 ≤ x7) → (pb_Mo_answer_150 R15 K u x1 x2 x3 x4 x5 x6)) ∧ (¬ (20 ≤ x7) → (pb_Mo_answer_115 R15 R108 K u x1 x2 x3 x4 x5 x6 x7))
set_option maxHeartbeats 1000000 in
theorem pt_Mo_answer_108b {g : pj_G} {b : Nat} (C : pj_X g c_Mo_answer 8 R_Mo none rm_Mo_answer) {K : pj_M → Prop} (hE : pj_E g b (pj_Kv K)) {R15 : pj_M → Int32 → Prop} {R108 : pj_M → Int32 → Prop}  {u : pj_M} {x1 : Int32} {x2 : Int32} {x3 : Int32} {x4 : Int32} {x5 : Int32} {x6 : Int32} {x7 : Int32} (hR15 : ∀ (u : pj_M) (x6 : Int32), R15 u x6 → pj_J g (pj_N g b u) 15 [some (.ref (b + 217)), some (.int x1), some (.int x2), some (.int x3), some (.int x4), some (.int x5), some (.int x6), none] []) (hR108 : ∀ (u : pj_M) (x7 : Int32), R108 u x7 → pj_J g (pj_N g b u) 108 [some (.ref (b + 217)), some (.int x1), some (.int x2), some (.int x3), some (.int x4), some (.int x5), some (.int x6), some (.int x7)] [])  (h : pb_Mo_answer_108b R15 R108 K u x1 x2 x3 x4 x5 x6 x7) : pj_J g (pj_N g b u) 108 [some (.ref (b + 217)), some (.int x1), some (.int x2), some (.int x3), some (.int x4), some (.int x5), some (.int x6), some (.int x7)] [] := by
  unfold pb_Mo_answer_108b at h
  refine pj_iload C d_Mo_answer_108 (pc' := 110) (i := 7) (x := x7) rfl rfl ?_
  refine pj_bipush C d_Mo_answer_110 (pc' := 112) rfl (v := 20) (by decide) ?_
  refine pj_icmp_ge C d_Mo_answer_112 (pc' := 115) rfl (tgt := 150) (by decide) h (fun h => ?_) (fun h => ?_)
  · exact pj_cut (pj_le_s (pj_le_s (pj_le_s (pj_le_s (pj_le_s (pj_le_s (pj_le_s (pj_le_n pj_le_e)))))))) (pt_Mo_answer_150 C hE hR15  h)
  · exact pj_cut (pj_le_s (pj_le_s (pj_le_s (pj_le_s (pj_le_s (pj_le_s (pj_le_s (pj_le_s pj_le_e)))))))) (pt_Mo_answer_115 C hE hR15 hR108  h)
def pb_Mo_answer_108 (R15 : pj_M → Int32 → Prop) (K : pj_M → Prop) (x1 : Int32) (x2 : Int32) (x3 : Int32) (x4 : Int32) (x5 : Int32) (x6 : Int32) : Nat → pj_M → Int32 → Prop
  | 0 => fun _ _ => False
  | n + 1 => fun u x7 => pb_Mo_answer_108b R15 (pb_Mo_answer_108 R15 K x1 x2 x3 x4 x5 x6 n) K u x1 x2 x3 x4 x5 x6 x7
theorem pt_Mo_answer_108 {g : pj_G} {b : Nat} (C : pj_X g c_Mo_answer 8 R_Mo none rm_Mo_answer) {K : pj_M → Prop} (hE : pj_E g b (pj_Kv K)) {R15 : pj_M → Int32 → Prop} {x1 : Int32} {x2 : Int32} {x3 : Int32} {x4 : Int32} {x5 : Int32} {x6 : Int32} (hR15 : ∀ (u : pj_M) (x6 : Int32), R15 u x6 → pj_J g (pj_N g b u) 15 [some (.ref (b + 217)), some (.int x1), some (.int x2), some (.int x3), some (.int x4), some (.int x5), some (.int x6), none] [])  : ∀ (n : Nat) (u : pj_M) (x7 : Int32), pb_Mo_answer_108 R15 K x1 x2 x3 x4 x5 x6 n u x7 → pj_J g (pj_N g b u) 108 [some (.ref (b + 217)), some (.int x1), some (.int x2), some (.int x3), some (.int x4), some (.int x5), some (.int x6), some (.int x7)] [] := by
  intro n
  induction n with
  | zero => intro u x7 h; exact False.elim h
  | succ n ih =>
    intro u x7 h
    exact (pt_Mo_answer_108b C hE hR15 ih  h)
def pb_Mo_answer_25 (R15 : pj_M → Int32 → Prop) (K : pj_M → Prop) (u : pj_M) (x1 : Int32) (x2 : Int32) (x3 : Int32) (x4 : Int32) (x5 : Int32) (x6 : Int32) : Prop := vp_in (x6 + 1) 8 ∧ (vp_in x6 8 ∧ pj_put u 252 x6.toNatClampNeg (u 252 (x6 + 1).toNatClampNeg) fun u1 => (vp_in (x6 + 1) 8 ∧ (vp_in x6 8 ∧ pj_put u1 253 x6.toNatClampNeg (u1 253 (x6 + 1).toNatClampNeg) fun u2 => (vp_in (x6 + 1) 8 ∧ (vp_in x6 8 ∧ pj_put u2 254 x6.toNatClampNeg (u2 254 (x6 + 1).toNatClampNeg) fun u3 => (vp_in (x6 + 1) 8 ∧ (vp_in x6 8 ∧ pj_put u3 255 x6.toNatClampNeg (u3 255 (x6 + 1).toNatClampNeg) fun u4 => (vp_in (x6 + 1) 8 ∧ (vp_in x6 8 ∧ pj_put u4 256 x6.toNatClampNeg (u4 256 (x6 + 1).toNatClampNeg) fun u5 => (∃ n, pb_Mo_answer_108 R15 K x1 x2 x3 x4 x5 x6 n u5 0))))))))))
set_option maxHeartbeats 1000000 in
theorem pt_Mo_answer_25 {g : pj_G} {b : Nat} (C : pj_X g c_Mo_answer 8 R_Mo none rm_Mo_answer) {K : pj_M → Prop} (hE : pj_E g b (pj_Kv K)) {R15 : pj_M → Int32 → Prop}  {u : pj_M} {x1 : Int32} {x2 : Int32} {x3 : Int32} {x4 : Int32} {x5 : Int32} {x6 : Int32} (hR15 : ∀ (u : pj_M) (x6 : Int32), R15 u x6 → pj_J g (pj_N g b u) 15 [some (.ref (b + 217)), some (.int x1), some (.int x2), some (.int x3), some (.int x4), some (.int x5), some (.int x6), none] [])  (h : pb_Mo_answer_25 R15 K u x1 x2 x3 x4 x5 x6) : pj_J g (pj_N g b u) 25 [some (.ref (b + 217)), some (.int x1), some (.int x2), some (.int x3), some (.int x4), some (.int x5), some (.int x6), none] [] := by
  unfold pb_Mo_answer_25 at h
  refine pj_aload_n C d_Mo_answer_25 (pc' := 26) (i := 0) (x := b + 217) rfl rfl rfl ?_
  refine fg_Model_113_Model C tk_217 d_Mo_answer_26 (pc' := 29) rfl ?_
  refine pj_iload C d_Mo_answer_29 (pc' := 31) (i := 6) (x := x6) rfl rfl ?_
  refine pj_aload_n C d_Mo_answer_31 (pc' := 32) (i := 0) (x := b + 217) rfl rfl rfl ?_
  refine fg_Model_113_Model C tk_217 d_Mo_answer_32 (pc' := 35) rfl ?_
  refine pj_iload C d_Mo_answer_35 (pc' := 37) (i := 6) (x := x6) rfl rfl ?_
  refine pj_iconst C d_Mo_answer_37 (pc' := 38) rfl (v := 1) (by decide) ?_
  refine pj_iadd C d_Mo_answer_38 (pc' := 39) rfl ?_
  refine pj_iald C (pj_lt tk_252 (by decide)) (fun E u => ka_20 tk_252) d_Mo_answer_39 (pc' := 40) rfl h (fun h => ?_)
  refine pj_iast C (pj_lt tk_252 (by decide)) (fun E u => ka_20 tk_252) d_Mo_answer_40 (pc' := 41) rfl h (fun u1 h => ?_)
  refine pj_aload_n C d_Mo_answer_41 (pc' := 42) (i := 0) (x := b + 217) rfl rfl rfl ?_
  refine fg_Model_116_Model C tk_217 d_Mo_answer_42 (pc' := 45) rfl ?_
  refine pj_iload C d_Mo_answer_45 (pc' := 47) (i := 6) (x := x6) rfl rfl ?_
  refine pj_aload_n C d_Mo_answer_47 (pc' := 48) (i := 0) (x := b + 217) rfl rfl rfl ?_
  refine fg_Model_116_Model C tk_217 d_Mo_answer_48 (pc' := 51) rfl ?_
  refine pj_iload C d_Mo_answer_51 (pc' := 53) (i := 6) (x := x6) rfl rfl ?_
  refine pj_iconst C d_Mo_answer_53 (pc' := 54) rfl (v := 1) (by decide) ?_
  refine pj_iadd C d_Mo_answer_54 (pc' := 55) rfl ?_
  refine pj_iald C (pj_lt tk_253 (by decide)) (fun E u => ka_20 tk_253) d_Mo_answer_55 (pc' := 56) rfl h (fun h => ?_)
  refine pj_iast C (pj_lt tk_253 (by decide)) (fun E u => ka_20 tk_253) d_Mo_answer_56 (pc' := 57) rfl h (fun u2 h => ?_)
  refine pj_aload_n C d_Mo_answer_57 (pc' := 58) (i := 0) (x := b + 217) rfl rfl rfl ?_
  refine fg_Model_119_Model C tk_217 d_Mo_answer_58 (pc' := 61) rfl ?_
  refine pj_iload C d_Mo_answer_61 (pc' := 63) (i := 6) (x := x6) rfl rfl ?_
  refine pj_aload_n C d_Mo_answer_63 (pc' := 64) (i := 0) (x := b + 217) rfl rfl rfl ?_
  refine fg_Model_119_Model C tk_217 d_Mo_answer_64 (pc' := 67) rfl ?_
  refine pj_iload C d_Mo_answer_67 (pc' := 69) (i := 6) (x := x6) rfl rfl ?_
  refine pj_iconst C d_Mo_answer_69 (pc' := 70) rfl (v := 1) (by decide) ?_
  refine pj_iadd C d_Mo_answer_70 (pc' := 71) rfl ?_
  refine pj_iald C (pj_lt tk_254 (by decide)) (fun E u => ka_20 tk_254) d_Mo_answer_71 (pc' := 72) rfl h (fun h => ?_)
  refine pj_iast C (pj_lt tk_254 (by decide)) (fun E u => ka_20 tk_254) d_Mo_answer_72 (pc' := 73) rfl h (fun u3 h => ?_)
  refine pj_aload_n C d_Mo_answer_73 (pc' := 74) (i := 0) (x := b + 217) rfl rfl rfl ?_
  refine fg_Model_122_Model C tk_217 d_Mo_answer_74 (pc' := 77) rfl ?_
  refine pj_iload C d_Mo_answer_77 (pc' := 79) (i := 6) (x := x6) rfl rfl ?_
  refine pj_aload_n C d_Mo_answer_79 (pc' := 80) (i := 0) (x := b + 217) rfl rfl rfl ?_
  refine fg_Model_122_Model C tk_217 d_Mo_answer_80 (pc' := 83) rfl ?_
  refine pj_iload C d_Mo_answer_83 (pc' := 85) (i := 6) (x := x6) rfl rfl ?_
  refine pj_iconst C d_Mo_answer_85 (pc' := 86) rfl (v := 1) (by decide) ?_
  refine pj_iadd C d_Mo_answer_86 (pc' := 87) rfl ?_
  refine pj_iald C (pj_lt tk_255 (by decide)) (fun E u => ka_20 tk_255) d_Mo_answer_87 (pc' := 88) rfl h (fun h => ?_)
  refine pj_iast C (pj_lt tk_255 (by decide)) (fun E u => ka_20 tk_255) d_Mo_answer_88 (pc' := 89) rfl h (fun u4 h => ?_)
  refine pj_aload_n C d_Mo_answer_89 (pc' := 90) (i := 0) (x := b + 217) rfl rfl rfl ?_
  refine fg_Model_125_Model C tk_217 d_Mo_answer_90 (pc' := 93) rfl ?_
  refine pj_iload C d_Mo_answer_93 (pc' := 95) (i := 6) (x := x6) rfl rfl ?_
  refine pj_aload_n C d_Mo_answer_95 (pc' := 96) (i := 0) (x := b + 217) rfl rfl rfl ?_
  refine fg_Model_125_Model C tk_217 d_Mo_answer_96 (pc' := 99) rfl ?_
  refine pj_iload C d_Mo_answer_99 (pc' := 101) (i := 6) (x := x6) rfl rfl ?_
  refine pj_iconst C d_Mo_answer_101 (pc' := 102) rfl (v := 1) (by decide) ?_
  refine pj_iadd C d_Mo_answer_102 (pc' := 103) rfl ?_
  refine pj_iald C (pj_lt tk_256 (by decide)) (fun E u => ka_20 tk_256) d_Mo_answer_103 (pc' := 104) rfl h (fun h => ?_)
  refine pj_iast C (pj_lt tk_256 (by decide)) (fun E u => ka_20 tk_256) d_Mo_answer_104 (pc' := 105) rfl h (fun u5 h => ?_)
  refine pj_iconst C d_Mo_answer_105 (pc' := 106) rfl (v := 0) (by decide) ?_
  refine pj_istore C d_Mo_answer_106 (pc' := 108) (i := 7) (vs' := [some (.ref (b + 217)), some (.int x1), some (.int x2), some (.int x3), some (.int x4), some (.int x5), some (.int x6), some (.int 0)]) rfl (Nat.le_of_ble_eq_true rfl) (Nat.le_of_ble_eq_true rfl) rfl rfl ?_
  obtain ⟨n, h⟩ := h
  exact pj_cut (pj_le_s (pj_le_s (pj_le_s (pj_le_s (pj_le_s (pj_le_s (pj_le_s (pj_le_s pj_le_e)))))))) (pt_Mo_answer_108 C hE hR15  n _ _ h)
def pb_Mo_answer_15b (R15 : pj_M → Int32 → Prop) (K : pj_M → Prop) (u : pj_M) (x1 : Int32) (x2 : Int32) (x3 : Int32) (x4 : Int32) (x5 : Int32) (x6 : Int32) : Prop := ((((4 * x1) + 3) ≤ x6) → (pb_Mo_answer_156  K u x1 x2 x3 x4 x5)) ∧ (¬ (((4 * x1) + 3) ≤ x6) → (pb_Mo_answer_25 R15 K u x1 x2 x3 x4 x5 x6))
set_option maxHeartbeats 1000000 in
theorem pt_Mo_answer_15b {g : pj_G} {b : Nat} (C : pj_X g c_Mo_answer 8 R_Mo none rm_Mo_answer) {K : pj_M → Prop} (hE : pj_E g b (pj_Kv K)) {R15 : pj_M → Int32 → Prop}  {u : pj_M} {x1 : Int32} {x2 : Int32} {x3 : Int32} {x4 : Int32} {x5 : Int32} {x6 : Int32} (hR15 : ∀ (u : pj_M) (x6 : Int32), R15 u x6 → pj_J g (pj_N g b u) 15 [some (.ref (b + 217)), some (.int x1), some (.int x2), some (.int x3), some (.int x4), some (.int x5), some (.int x6), none] [])  (h : pb_Mo_answer_15b R15 K u x1 x2 x3 x4 x5 x6) : pj_J g (pj_N g b u) 15 [some (.ref (b + 217)), some (.int x1), some (.int x2), some (.int x3), some (.int x4), some (.int x5), some (.int x6), none] [] := by
  unfold pb_Mo_answer_15b at h
  refine pj_iload C d_Mo_answer_15 (pc' := 17) (i := 6) (x := x6) rfl rfl ?_
  refine pj_iconst C d_Mo_answer_17 (pc' := 18) rfl (v := 4) (by decide) ?_
  refine pj_iload_n C d_Mo_answer_18 (pc' := 19) (i := 1) (x := x1) rfl rfl rfl ?_
  refine pj_imul C d_Mo_answer_19 (pc' := 20) rfl ?_
  refine pj_iconst C d_Mo_answer_20 (pc' := 21) rfl (v := 3) (by decide) ?_
  refine pj_iadd C d_Mo_answer_21 (pc' := 22) rfl ?_
  refine pj_icmp_ge C d_Mo_answer_22 (pc' := 25) rfl (tgt := 156) (by decide) h (fun h => ?_) (fun h => ?_)
  · exact pj_cut (pj_le_s (pj_le_s (pj_le_s (pj_le_s (pj_le_s (pj_le_s (pj_le_n (pj_le_n pj_le_e)))))))) (pt_Mo_answer_156 C hE   h)
  · exact pj_cut (pj_le_s (pj_le_s (pj_le_s (pj_le_s (pj_le_s (pj_le_s (pj_le_s (pj_le_n pj_le_e)))))))) (pt_Mo_answer_25 C hE hR15  h)
def pb_Mo_answer_15  (K : pj_M → Prop) (x1 : Int32) (x2 : Int32) (x3 : Int32) (x4 : Int32) (x5 : Int32) : Nat → pj_M → Int32 → Prop
  | 0 => fun _ _ => False
  | n + 1 => fun u x6 => pb_Mo_answer_15b (pb_Mo_answer_15  K x1 x2 x3 x4 x5 n) K u x1 x2 x3 x4 x5 x6
theorem pt_Mo_answer_15 {g : pj_G} {b : Nat} (C : pj_X g c_Mo_answer 8 R_Mo none rm_Mo_answer) {K : pj_M → Prop} (hE : pj_E g b (pj_Kv K))  {x1 : Int32} {x2 : Int32} {x3 : Int32} {x4 : Int32} {x5 : Int32}   : ∀ (n : Nat) (u : pj_M) (x6 : Int32), pb_Mo_answer_15  K x1 x2 x3 x4 x5 n u x6 → pj_J g (pj_N g b u) 15 [some (.ref (b + 217)), some (.int x1), some (.int x2), some (.int x3), some (.int x4), some (.int x5), some (.int x6), none] [] := by
  intro n
  induction n with
  | zero => intro u x6 h; exact False.elim h
  | succ n ih =>
    intro u x6 h
    exact (pt_Mo_answer_15b C hE ih  h)
def pb_Mo_answer_10  (K : pj_M → Prop) (u : pj_M) (x1 : Int32) (x2 : Int32) (x3 : Int32) (x4 : Int32) (x5 : Int32) : Prop := pj_let (4 * x1) fun y1 => (∃ n, pb_Mo_answer_15  K x1 x2 x3 x4 x5 n u y1)
set_option maxHeartbeats 1000000 in
theorem pt_Mo_answer_10 {g : pj_G} {b : Nat} (C : pj_X g c_Mo_answer 8 R_Mo none rm_Mo_answer) {K : pj_M → Prop} (hE : pj_E g b (pj_Kv K))   {u : pj_M} {x1 : Int32} {x2 : Int32} {x3 : Int32} {x4 : Int32} {x5 : Int32}   (h : pb_Mo_answer_10  K u x1 x2 x3 x4 x5) : pj_J g (pj_N g b u) 10 [some (.ref (b + 217)), some (.int x1), some (.int x2), some (.int x3), some (.int x4), some (.int x5), none, none] [] := by
  unfold pb_Mo_answer_10 at h
  refine pj_iconst C d_Mo_answer_10 (pc' := 11) rfl (v := 4) (by decide) ?_
  refine pj_iload_n C d_Mo_answer_11 (pc' := 12) (i := 1) (x := x1) rfl rfl rfl ?_
  refine pj_imul C d_Mo_answer_12 (pc' := 13) rfl ?_
  refine pj_name h (fun y1 h => ?_)
  refine pj_istore C d_Mo_answer_13 (pc' := 15) (i := 6) (vs' := [some (.ref (b + 217)), some (.int x1), some (.int x2), some (.int x3), some (.int x4), some (.int x5), some (.int y1), none]) rfl (Nat.le_of_ble_eq_true rfl) (Nat.le_of_ble_eq_true rfl) rfl rfl ?_
  obtain ⟨n, h⟩ := h
  exact pj_cut (pj_le_s (pj_le_s (pj_le_s (pj_le_s (pj_le_s (pj_le_s (pj_le_s (pj_le_n pj_le_e)))))))) (pt_Mo_answer_15 C hE   n _ _ h)
def pb_Mo_answer_0  (K : pj_M → Prop) (u : pj_M) (x1 : Int32) (x2 : Int32) (x3 : Int32) (x4 : Int32) (x5 : Int32) : Prop := vp_in x1 2 ∧ ((((u 251 x1.toNatClampNeg) = 4) → (pb_Mo_answer_10  K u x1 x2 x3 x4 x5)) ∧ (¬ ((u 251 x1.toNatClampNeg) = 4) → (pb_Mo_answer_163  K u x1 x2 x3 x4 x5)))
set_option maxHeartbeats 1000000 in
theorem pt_Mo_answer_0 {g : pj_G} {b : Nat} (C : pj_X g c_Mo_answer 8 R_Mo none rm_Mo_answer) {K : pj_M → Prop} (hE : pj_E g b (pj_Kv K))   {u : pj_M} {x1 : Int32} {x2 : Int32} {x3 : Int32} {x4 : Int32} {x5 : Int32}   (h : pb_Mo_answer_0  K u x1 x2 x3 x4 x5) : pj_J g (pj_N g b u) 0 [some (.ref (b + 217)), some (.int x1), some (.int x2), some (.int x3), some (.int x4), some (.int x5), none, none] [] := by
  unfold pb_Mo_answer_0 at h
  refine pj_aload_n C d_Mo_answer_0 (pc' := 1) (i := 0) (x := b + 217) rfl rfl rfl ?_
  refine fg_Model_110_Model C tk_217 d_Mo_answer_1 (pc' := 4) rfl ?_
  refine pj_iload_n C d_Mo_answer_4 (pc' := 5) (i := 1) (x := x1) rfl rfl rfl ?_
  refine pj_iald C (pj_lt tk_251 (by decide)) (fun E u => ka_33 tk_251) d_Mo_answer_5 (pc' := 6) rfl h (fun h => ?_)
  refine pj_iconst C d_Mo_answer_6 (pc' := 7) rfl (v := 4) (by decide) ?_
  refine pj_icmp_ne C d_Mo_answer_7 (pc' := 10) rfl (tgt := 163) (by decide) h (fun h => ?_) (fun h => ?_)
  · exact pj_cut (pj_le_s (pj_le_s (pj_le_s (pj_le_s (pj_le_s (pj_le_s (pj_le_n (pj_le_n pj_le_e)))))))) (pt_Mo_answer_163 C hE   h)
  · exact pj_cut (pj_le_s (pj_le_s (pj_le_s (pj_le_s (pj_le_s (pj_le_s (pj_le_n (pj_le_n pj_le_e)))))))) (pt_Mo_answer_10 C hE   h)
def pw_Mo_answer (u : pj_M) (x1 : Int32) (x2 : Int32) (x3 : Int32) (x4 : Int32) (x5 : Int32) (K : pj_M → Prop) : Prop := pb_Mo_answer_0  K u x1 x2 x3 x4 x5
theorem pc_Mo_answer (l : Launch) (D : va_G) (E : Nat → ClassId) {b : Nat} {u : pj_M} {x1 : Int32} {x2 : Int32} {x3 : Int32} {x4 : Int32} {x5 : Int32} {K : pj_M → Prop}  (h : pw_Mo_answer u x1 x2 x3 x4 x5 K) : pj_C l y_Mo_answer c_Mo_answer 8 none rm_Mo_answer D E b [.ref (b + 217), .int x1, .int x2, .int x3, .int x4, .int x5] u (pj_Kv K) := by
  refine pj_met (own := R_Mo) (by decide +kernel) rfl (Nat.le_of_ble_eq_true rfl) (fun g hE C => ?_)
  unfold pw_Mo_answer at h
  show pj_J g (pj_N g b u) 0 [some (.ref (b + 217)), some (.int x1), some (.int x2), some (.int x3), some (.int x4), some (.int x5), none, none] []
  exact pj_cut (pj_le_s (pj_le_s (pj_le_s (pj_le_s (pj_le_s (pj_le_s (pj_le_n (pj_le_n pj_le_e)))))))) (pt_Mo_answer_0 C hE   h)
/-! Model.decide(III)V -/
theorem ck_Model_332_Model {g : pj_G} {b : Nat} {cc : ByteArray} {nL : Nat} {ret : Option FieldType} {rm : Room} {u : pj_M} {pc pc' : Nat} {vs : List (Option Value)} {st : List Value} (C : pj_X g cc nL R_Mo ret rm) {x1 : Int32} {x2 : Int32} {x3 : Int32} {x4 : Int32} {x5 : Int32} {K : pj_M → Prop}  (h : pw_Mo_answer u x1 x2 x3 x4 x5 K) (hdg : decode cc pc = .ok (.invokevirtual 332, 3)) (hp : pc + 3 = pc') (hR : rm_Mo_answer.frames + 1 ≤ rm.frames ∧ 8 + (8 + 11) + rm_Mo_answer.locals ≤ rm.locals) (h8 : (st.map fun v => v.category).sum ≤ 8) (kk : ∀ u', K u' → pj_J g (pj_N g b u') pc' vs st) : pj_J g (pj_N g b u) pc vs (.int x5 :: .int x4 :: .int x3 :: .int x2 :: .int x1 :: .ref (b + 217) :: st) :=
  pj_callV C (As := [.int x1, .int x2, .int x3, .int x4, .int x5]) (fun l D E => pc_Mo_answer l D E  h) rfl rfl cl_Model (pj_lt tk_217 (by decide)) (fun E => ko_11 tk_217) wm_1569 wm_1571 wm_87 wm_103 wm_1572 (by decide +kernel) (n := 5) rfl hR rfl h8 hdg hp (fun v u' hq => by obtain ⟨rfl, hk⟩ := hq; exact kk u' hk)
theorem ck_Model_326_Model {g : pj_G} {b : Nat} {cc : ByteArray} {nL : Nat} {ret : Option FieldType} {rm : Room} {u : pj_M} {pc pc' : Nat} {vs : List (Option Value)} {st : List Value} (C : pj_X g cc nL R_Mo ret rm) {x1 : Int32} {K : Int32 → pj_M → Prop}  (h : pw_Mo_identified u x1 K) (hdg : decode cc pc = .ok (.invokevirtual 326, 3)) (hp : pc + 3 = pc') (hR : rm_Mo_identified.frames + 1 ≤ rm.frames ∧ 8 + (3 + 11) + rm_Mo_identified.locals ≤ rm.locals) (h8 : (st.map fun v => v.category).sum ≤ 8) (kk : ∀ r u', K r u' → pj_J g (pj_N g b u') pc' vs (.int r :: st)) : pj_J g (pj_N g b u) pc vs (.int x1 :: .ref (b + 217) :: st) :=
  pj_callV C (As := [.int x1]) (fun l D E => pc_Mo_identified l D E  h) rfl rfl cl_Model (pj_lt tk_217 (by decide)) (fun E => ko_11 tk_217) wm_1548 wm_1550 wm_82 wm_103 wm_1551 (by decide +kernel) (n := 1) rfl hR rfl h8 hdg hp (fun v u' hq => by obtain ⟨r, rfl, hk⟩ := hq; exact kk r u' hk)
theorem ck_Model_329_Model {g : pj_G} {b : Nat} {cc : ByteArray} {nL : Nat} {ret : Option FieldType} {rm : Room} {u : pj_M} {pc pc' : Nat} {vs : List (Option Value)} {st : List Value} (C : pj_X g cc nL R_Mo ret rm) {x1 : Int32} {x2 : Int32} {K : Int32 → pj_M → Prop}  (h : pw_Mo_met u x1 x2 K) (hdg : decode cc pc = .ok (.invokevirtual 329, 3)) (hp : pc + 3 = pc') (hR : rm_Mo_met.frames + 1 ≤ rm.frames ∧ 8 + (6 + 11) + rm_Mo_met.locals ≤ rm.locals) (h8 : (st.map fun v => v.category).sum ≤ 8) (kk : ∀ r u', K r u' → pj_J g (pj_N g b u') pc' vs (.int r :: st)) : pj_J g (pj_N g b u) pc vs (.int x2 :: .int x1 :: .ref (b + 217) :: st) :=
  pj_callV C (As := [.int x1, .int x2]) (fun l D E => pc_Mo_met l D E  h) rfl rfl cl_Model (pj_lt tk_217 (by decide)) (fun E => ko_11 tk_217) wm_1565 wm_1567 wm_86 wm_103 wm_1568 (by decide +kernel) (n := 2) rfl hR rfl h8 hdg hp (fun v u' hq => by obtain ⟨r, rfl, hk⟩ := hq; exact kk r u' hk)
theorem ck_Model_323_Model {g : pj_G} {b : Nat} {cc : ByteArray} {nL : Nat} {ret : Option FieldType} {rm : Room} {u : pj_M} {pc pc' : Nat} {vs : List (Option Value)} {st : List Value} (C : pj_X g cc nL R_Mo ret rm) {x1 : Int32} {x2 : Int32} {K : Int32 → pj_M → Prop}  (h : pw_Mo_sessionOf u x1 x2 K) (hdg : decode cc pc = .ok (.invokevirtual 323, 3)) (hp : pc + 3 = pc') (hR : rm_Mo_sessionOf.frames + 1 ≤ rm.frames ∧ 8 + (4 + 11) + rm_Mo_sessionOf.locals ≤ rm.locals) (h8 : (st.map fun v => v.category).sum ≤ 8) (kk : ∀ r u', K r u' → pj_J g (pj_N g b u') pc' vs (.int r :: st)) : pj_J g (pj_N g b u) pc vs (.int x2 :: .int x1 :: .ref (b + 217) :: st) :=
  pj_callV C (As := [.int x1, .int x2]) (fun l D E => pc_Mo_sessionOf l D E  h) rfl rfl cl_Model (pj_lt tk_217 (by decide)) (fun E => ko_11 tk_217) wm_1544 wm_1546 wm_81 wm_103 wm_1547 (by decide +kernel) (n := 2) rfl hR rfl h8 hdg hp (fun v u' hq => by obtain ⟨r, rfl, hk⟩ := hq; exact kk r u' hk)
def rm_Mo_decide : Room := { frames := 7, cells := 0, slots := 0, locals := 163 }
def pb_Mo_decide_157  (K : pj_M → Prop) (u : pj_M) (s0 : Int32) (s1 : Int32) (s2 : Int32) (s3 : Int32) : Prop := pw_Mo_answer u s3 s2 s1 s0 ((-1)) fun u1 => (K u1)
set_option maxHeartbeats 1000000 in
theorem pt_Mo_decide_157 {g : pj_G} {b : Nat} (C : pj_X g c_Mo_decide 7 R_Mo none rm_Mo_decide) {K : pj_M → Prop} (hE : pj_E g b (pj_Kv K))   {u : pj_M} {s0 : Int32} {s1 : Int32} {s2 : Int32} {s3 : Int32}   (h : pb_Mo_decide_157  K u s0 s1 s2 s3) : pj_J g (pj_N g b u) 157 [none, none, none, none, none, none, none] [.int s0, .int s1, .int s2, .int s3, .ref (b + 217)] := by
  unfold pb_Mo_decide_157 at h
  refine pj_iconst C d_Mo_decide_157 (pc' := 158) rfl (v := (-1)) (by decide) ?_
  refine ck_Model_332_Model C  h d_Mo_decide_158 (pc' := 161) rfl ⟨Nat.le_of_ble_eq_true rfl, Nat.le_of_ble_eq_true rfl⟩ (Nat.le_of_ble_eq_true rfl) (fun u1 h => ?_)
  exact pj_vret C hE d_Mo_decide_161 ⟨rfl, h⟩
def pb_Mo_decide_156  (K : pj_M → Prop) (u : pj_M) (s0 : Int32) (s1 : Int32) (s2 : Int32) : Prop := pb_Mo_decide_157  K u 3 s0 s1 s2
set_option maxHeartbeats 1000000 in
theorem pt_Mo_decide_156 {g : pj_G} {b : Nat} (C : pj_X g c_Mo_decide 7 R_Mo none rm_Mo_decide) {K : pj_M → Prop} (hE : pj_E g b (pj_Kv K))   {u : pj_M} {s0 : Int32} {s1 : Int32} {s2 : Int32}   (h : pb_Mo_decide_156  K u s0 s1 s2) : pj_J g (pj_N g b u) 156 [none, none, none, none, none, none, none] [.int s0, .int s1, .int s2, .ref (b + 217)] := by
  unfold pb_Mo_decide_156 at h
  refine pj_iconst C d_Mo_decide_156 (pc' := 157) rfl (v := 3) (by decide) ?_
  exact pj_cut (pj_le_n (pj_le_n (pj_le_n (pj_le_n (pj_le_n (pj_le_n (pj_le_n pj_le_e))))))) (pt_Mo_decide_157 C hE   h)
def pb_Mo_decide_152  (K : pj_M → Prop) (u : pj_M) (s0 : Int32) (s1 : Int32) (s2 : Int32) : Prop := pb_Mo_decide_157  K u 2 s0 s1 s2
set_option maxHeartbeats 1000000 in
theorem pt_Mo_decide_152 {g : pj_G} {b : Nat} (C : pj_X g c_Mo_decide 7 R_Mo none rm_Mo_decide) {K : pj_M → Prop} (hE : pj_E g b (pj_Kv K))   {u : pj_M} {s0 : Int32} {s1 : Int32} {s2 : Int32}   (h : pb_Mo_decide_152  K u s0 s1 s2) : pj_J g (pj_N g b u) 152 [none, none, none, none, none, none, none] [.int s0, .int s1, .int s2, .ref (b + 217)] := by
  unfold pb_Mo_decide_152 at h
  refine pj_iconst C d_Mo_decide_152 (pc' := 153) rfl (v := 2) (by decide) ?_
  refine pj_goto C d_Mo_decide_153 (tgt := 157) (by decide) ?_
  exact pj_cut (pj_le_n (pj_le_n (pj_le_n (pj_le_n (pj_le_n (pj_le_n (pj_le_n pj_le_e))))))) (pt_Mo_decide_157 C hE   h)
def pb_Mo_decide_136  (K : pj_M → Prop) (u : pj_M) (x1 : Int32) (x2 : Int32) (x3 : Int32) (x5 : Int32) (x6 : Int32) (s0 : Int32) : Prop := pw_Mo_packet u s0 x5 0 fun u1 => (((x6 = 1) → (pb_Mo_decide_152  K u1 x3 x2 x1)) ∧ (¬ (x6 = 1) → (pb_Mo_decide_156  K u1 x3 x2 x1)))
set_option maxHeartbeats 1000000 in
theorem pt_Mo_decide_136 {g : pj_G} {b : Nat} (C : pj_X g c_Mo_decide 7 R_Mo none rm_Mo_decide) {K : pj_M → Prop} (hE : pj_E g b (pj_Kv K))   {u : pj_M} {x1 : Int32} {x2 : Int32} {x3 : Int32} {x5 : Int32} {x6 : Int32} {s0 : Int32}   (h : pb_Mo_decide_136  K u x1 x2 x3 x5 x6 s0) : pj_J g (pj_N g b u) 136 [some (.ref (b + 217)), some (.int x1), some (.int x2), some (.int x3), none, some (.int x5), some (.int x6)] [.int s0, .ref (b + 217)] := by
  unfold pb_Mo_decide_136 at h
  refine pj_iload C d_Mo_decide_136 (pc' := 138) (i := 5) (x := x5) rfl rfl ?_
  refine pj_iconst C d_Mo_decide_138 (pc' := 139) rfl (v := 0) (by decide) ?_
  refine ck_Model_279_Model C  h d_Mo_decide_139 (pc' := 142) rfl ⟨Nat.le_of_ble_eq_true rfl, Nat.le_of_ble_eq_true rfl⟩ (Nat.le_of_ble_eq_true rfl) (fun u1 h => ?_)
  refine pj_aload_n C d_Mo_decide_142 (pc' := 143) (i := 0) (x := b + 217) rfl rfl rfl ?_
  refine pj_iload_n C d_Mo_decide_143 (pc' := 144) (i := 1) (x := x1) rfl rfl rfl ?_
  refine pj_iload_n C d_Mo_decide_144 (pc' := 145) (i := 2) (x := x2) rfl rfl rfl ?_
  refine pj_iload_n C d_Mo_decide_145 (pc' := 146) (i := 3) (x := x3) rfl rfl rfl ?_
  refine pj_iload C d_Mo_decide_146 (pc' := 148) (i := 6) (x := x6) rfl rfl ?_
  refine pj_iconst C d_Mo_decide_148 (pc' := 149) rfl (v := 1) (by decide) ?_
  refine pj_icmp_ne C d_Mo_decide_149 (pc' := 152) rfl (tgt := 156) (by decide) h (fun h => ?_) (fun h => ?_)
  · exact pj_cut (pj_le_n (pj_le_n (pj_le_n (pj_le_n (pj_le_n (pj_le_n (pj_le_n pj_le_e))))))) (pt_Mo_decide_156 C hE   h)
  · exact pj_cut (pj_le_n (pj_le_n (pj_le_n (pj_le_n (pj_le_n (pj_le_n (pj_le_n pj_le_e))))))) (pt_Mo_decide_152 C hE   h)
def pb_Mo_decide_135  (K : pj_M → Prop) (u : pj_M) (x1 : Int32) (x2 : Int32) (x3 : Int32) (x5 : Int32) (x6 : Int32) : Prop := pb_Mo_decide_136  K u x1 x2 x3 x5 x6 4
set_option maxHeartbeats 1000000 in
theorem pt_Mo_decide_135 {g : pj_G} {b : Nat} (C : pj_X g c_Mo_decide 7 R_Mo none rm_Mo_decide) {K : pj_M → Prop} (hE : pj_E g b (pj_Kv K))   {u : pj_M} {x1 : Int32} {x2 : Int32} {x3 : Int32} {x5 : Int32} {x6 : Int32}   (h : pb_Mo_decide_135  K u x1 x2 x3 x5 x6) : pj_J g (pj_N g b u) 135 [some (.ref (b + 217)), some (.int x1), some (.int x2), some (.int x3), none, some (.int x5), some (.int x6)] [.ref (b + 217)] := by
  unfold pb_Mo_decide_135 at h
  refine pj_iconst C d_Mo_decide_135 (pc' := 136) rfl (v := 4) (by decide) ?_
  exact pj_cut (pj_le_s (pj_le_s (pj_le_s (pj_le_s (pj_le_n (pj_le_s (pj_le_s pj_le_e))))))) (pt_Mo_decide_136 C hE   h)
def pb_Mo_decide_131  (K : pj_M → Prop) (u : pj_M) (x1 : Int32) (x2 : Int32) (x3 : Int32) (x5 : Int32) (x6 : Int32) : Prop := pb_Mo_decide_136  K u x1 x2 x3 x5 x6 3
set_option maxHeartbeats 1000000 in
theorem pt_Mo_decide_131 {g : pj_G} {b : Nat} (C : pj_X g c_Mo_decide 7 R_Mo none rm_Mo_decide) {K : pj_M → Prop} (hE : pj_E g b (pj_Kv K))   {u : pj_M} {x1 : Int32} {x2 : Int32} {x3 : Int32} {x5 : Int32} {x6 : Int32}   (h : pb_Mo_decide_131  K u x1 x2 x3 x5 x6) : pj_J g (pj_N g b u) 131 [some (.ref (b + 217)), some (.int x1), some (.int x2), some (.int x3), none, some (.int x5), some (.int x6)] [.ref (b + 217)] := by
  unfold pb_Mo_decide_131 at h
  refine pj_iconst C d_Mo_decide_131 (pc' := 132) rfl (v := 3) (by decide) ?_
  refine pj_goto C d_Mo_decide_132 (tgt := 136) (by decide) ?_
  exact pj_cut (pj_le_s (pj_le_s (pj_le_s (pj_le_s (pj_le_n (pj_le_s (pj_le_s pj_le_e))))))) (pt_Mo_decide_136 C hE   h)
def pb_Mo_decide_124  (K : pj_M → Prop) (u : pj_M) (x1 : Int32) (x2 : Int32) (x3 : Int32) (x5 : Int32) (x6 : Int32) : Prop := ((x6 = 1) → (pb_Mo_decide_131  K u x1 x2 x3 x5 x6)) ∧ (¬ (x6 = 1) → (pb_Mo_decide_135  K u x1 x2 x3 x5 x6))
set_option maxHeartbeats 1000000 in
theorem pt_Mo_decide_124 {g : pj_G} {b : Nat} (C : pj_X g c_Mo_decide 7 R_Mo none rm_Mo_decide) {K : pj_M → Prop} (hE : pj_E g b (pj_Kv K))   {u : pj_M} {x1 : Int32} {x2 : Int32} {x3 : Int32} {x5 : Int32} {x6 : Int32}   (h : pb_Mo_decide_124  K u x1 x2 x3 x5 x6) : pj_J g (pj_N g b u) 124 [some (.ref (b + 217)), some (.int x1), some (.int x2), some (.int x3), none, some (.int x5), some (.int x6)] [] := by
  unfold pb_Mo_decide_124 at h
  refine pj_aload_n C d_Mo_decide_124 (pc' := 125) (i := 0) (x := b + 217) rfl rfl rfl ?_
  refine pj_iload C d_Mo_decide_125 (pc' := 127) (i := 6) (x := x6) rfl rfl ?_
  refine pj_iconst C d_Mo_decide_127 (pc' := 128) rfl (v := 1) (by decide) ?_
  refine pj_icmp_ne C d_Mo_decide_128 (pc' := 131) rfl (tgt := 135) (by decide) h (fun h => ?_) (fun h => ?_)
  · exact pj_cut (pj_le_s (pj_le_s (pj_le_s (pj_le_s (pj_le_n (pj_le_s (pj_le_s pj_le_e))))))) (pt_Mo_decide_135 C hE   h)
  · exact pj_cut (pj_le_s (pj_le_s (pj_le_s (pj_le_s (pj_le_n (pj_le_s (pj_le_s pj_le_e))))))) (pt_Mo_decide_131 C hE   h)
def pb_Mo_decide_117  (K : pj_M → Prop) (u : pj_M) (x1 : Int32) (x2 : Int32) (x3 : Int32) (x4 : Int32) (x5 : Int32) (x6 : Int32) : Prop := pw_Mo_endSession u x1 x4 fun u1 => (pb_Mo_decide_124  K u1 x1 x2 x3 x5 x6)
set_option maxHeartbeats 1000000 in
theorem pt_Mo_decide_117 {g : pj_G} {b : Nat} (C : pj_X g c_Mo_decide 7 R_Mo none rm_Mo_decide) {K : pj_M → Prop} (hE : pj_E g b (pj_Kv K))   {u : pj_M} {x1 : Int32} {x2 : Int32} {x3 : Int32} {x4 : Int32} {x5 : Int32} {x6 : Int32}   (h : pb_Mo_decide_117  K u x1 x2 x3 x4 x5 x6) : pj_J g (pj_N g b u) 117 [some (.ref (b + 217)), some (.int x1), some (.int x2), some (.int x3), some (.int x4), some (.int x5), some (.int x6)] [] := by
  unfold pb_Mo_decide_117 at h
  refine pj_aload_n C d_Mo_decide_117 (pc' := 118) (i := 0) (x := b + 217) rfl rfl rfl ?_
  refine pj_iload_n C d_Mo_decide_118 (pc' := 119) (i := 1) (x := x1) rfl rfl rfl ?_
  refine pj_iload C d_Mo_decide_119 (pc' := 121) (i := 4) (x := x4) rfl rfl ?_
  refine ck_Model_335_Model C  h d_Mo_decide_121 (pc' := 124) rfl ⟨Nat.le_of_ble_eq_true rfl, Nat.le_of_ble_eq_true rfl⟩ (Nat.le_of_ble_eq_true rfl) (fun u1 h => ?_)
  exact pj_cut (pj_le_s (pj_le_s (pj_le_s (pj_le_s (pj_le_n (pj_le_s (pj_le_s pj_le_e))))))) (pt_Mo_decide_124 C hE   h)
def pb_Mo_decide_112  (K : pj_M → Prop) (u : pj_M) (x1 : Int32) (x2 : Int32) (x3 : Int32) (x4 : Int32) (x5 : Int32) (x6 : Int32) : Prop := ((x4 < 0) → (pb_Mo_decide_124  K u x1 x2 x3 x5 x6)) ∧ (¬ (x4 < 0) → (pb_Mo_decide_117  K u x1 x2 x3 x4 x5 x6))
set_option maxHeartbeats 1000000 in
theorem pt_Mo_decide_112 {g : pj_G} {b : Nat} (C : pj_X g c_Mo_decide 7 R_Mo none rm_Mo_decide) {K : pj_M → Prop} (hE : pj_E g b (pj_Kv K))   {u : pj_M} {x1 : Int32} {x2 : Int32} {x3 : Int32} {x4 : Int32} {x5 : Int32} {x6 : Int32}   (h : pb_Mo_decide_112  K u x1 x2 x3 x4 x5 x6) : pj_J g (pj_N g b u) 112 [some (.ref (b + 217)), some (.int x1), some (.int x2), some (.int x3), some (.int x4), some (.int x5), some (.int x6)] [] := by
  unfold pb_Mo_decide_112 at h
  refine pj_iload C d_Mo_decide_112 (pc' := 114) (i := 4) (x := x4) rfl rfl ?_
  refine pj_if_lt C d_Mo_decide_114 (pc' := 117) rfl (tgt := 124) (by decide) h (fun h => ?_) (fun h => ?_)
  · exact pj_cut (pj_le_s (pj_le_s (pj_le_s (pj_le_s (pj_le_n (pj_le_s (pj_le_s pj_le_e))))))) (pt_Mo_decide_124 C hE   h)
  · exact pj_cut (pj_le_s (pj_le_s (pj_le_s (pj_le_s (pj_le_s (pj_le_s (pj_le_s pj_le_e))))))) (pt_Mo_decide_117 C hE   h)
def pb_Mo_decide_98  (K : pj_M → Prop) (u : pj_M) (x1 : Int32) (x2 : Int32) (x3 : Int32) : Prop := pw_Mo_answer u x1 x2 x3 11 (u 217 14) fun u1 => (K u1)
set_option maxHeartbeats 1000000 in
theorem pt_Mo_decide_98 {g : pj_G} {b : Nat} (C : pj_X g c_Mo_decide 7 R_Mo none rm_Mo_decide) {K : pj_M → Prop} (hE : pj_E g b (pj_Kv K))   {u : pj_M} {x1 : Int32} {x2 : Int32} {x3 : Int32}   (h : pb_Mo_decide_98  K u x1 x2 x3) : pj_J g (pj_N g b u) 98 [some (.ref (b + 217)), some (.int x1), some (.int x2), some (.int x3), none, none, none] [] := by
  unfold pb_Mo_decide_98 at h
  refine pj_aload_n C d_Mo_decide_98 (pc' := 99) (i := 0) (x := b + 217) rfl rfl rfl ?_
  refine pj_iload_n C d_Mo_decide_99 (pc' := 100) (i := 1) (x := x1) rfl rfl rfl ?_
  refine pj_iload_n C d_Mo_decide_100 (pc' := 101) (i := 2) (x := x2) rfl rfl rfl ?_
  refine pj_iload_n C d_Mo_decide_101 (pc' := 102) (i := 3) (x := x3) rfl rfl rfl ?_
  refine pj_bipush C d_Mo_decide_102 (pc' := 104) rfl (v := 11) (by decide) ?_
  refine pj_aload_n C d_Mo_decide_104 (pc' := 105) (i := 0) (x := b + 217) rfl rfl rfl ?_
  refine fg_Model_253_Model C tk_217 d_Mo_decide_105 (pc' := 108) rfl ?_
  refine ck_Model_332_Model C  h d_Mo_decide_108 (pc' := 111) rfl ⟨Nat.le_of_ble_eq_true rfl, Nat.le_of_ble_eq_true rfl⟩ (Nat.le_of_ble_eq_true rfl) (fun u1 h => ?_)
  exact pj_vret C hE d_Mo_decide_111 ⟨rfl, h⟩
def pb_Mo_decide_90  (K : pj_M → Prop) (u : pj_M) (x1 : Int32) (x2 : Int32) (x3 : Int32) (x4 : Int32) (x5 : Int32) (s0 : Int32) : Prop := ((s0 = 2) → (pb_Mo_decide_98  K u x1 x2 x3)) ∧ (¬ (s0 = 2) → (pb_Mo_decide_112  K u x1 x2 x3 x4 x5 s0))
set_option maxHeartbeats 1000000 in
theorem pt_Mo_decide_90 {g : pj_G} {b : Nat} (C : pj_X g c_Mo_decide 7 R_Mo none rm_Mo_decide) {K : pj_M → Prop} (hE : pj_E g b (pj_Kv K))   {u : pj_M} {x1 : Int32} {x2 : Int32} {x3 : Int32} {x4 : Int32} {x5 : Int32} {s0 : Int32}   (h : pb_Mo_decide_90  K u x1 x2 x3 x4 x5 s0) : pj_J g (pj_N g b u) 90 [some (.ref (b + 217)), some (.int x1), some (.int x2), some (.int x3), some (.int x4), some (.int x5), none] [.int s0] := by
  unfold pb_Mo_decide_90 at h
  refine pj_istore C d_Mo_decide_90 (pc' := 92) (i := 6) (vs' := [some (.ref (b + 217)), some (.int x1), some (.int x2), some (.int x3), some (.int x4), some (.int x5), some (.int s0)]) rfl (Nat.le_of_ble_eq_true rfl) (Nat.le_of_ble_eq_true rfl) rfl rfl ?_
  refine pj_iload C d_Mo_decide_92 (pc' := 94) (i := 6) (x := s0) rfl rfl ?_
  refine pj_iconst C d_Mo_decide_94 (pc' := 95) rfl (v := 2) (by decide) ?_
  refine pj_icmp_ne C d_Mo_decide_95 (pc' := 98) rfl (tgt := 112) (by decide) h (fun h => ?_) (fun h => ?_)
  · exact pj_cut (pj_le_s (pj_le_s (pj_le_s (pj_le_s (pj_le_s (pj_le_s (pj_le_s pj_le_e))))))) (pt_Mo_decide_112 C hE   h)
  · exact pj_cut (pj_le_s (pj_le_s (pj_le_s (pj_le_s (pj_le_n (pj_le_n (pj_le_n pj_le_e))))))) (pt_Mo_decide_98 C hE   h)
def pb_Mo_decide_89  (K : pj_M → Prop) (u : pj_M) (x1 : Int32) (x2 : Int32) (x3 : Int32) (x4 : Int32) (x5 : Int32) : Prop := pb_Mo_decide_90  K u x1 x2 x3 x4 x5 0
set_option maxHeartbeats 1000000 in
theorem pt_Mo_decide_89 {g : pj_G} {b : Nat} (C : pj_X g c_Mo_decide 7 R_Mo none rm_Mo_decide) {K : pj_M → Prop} (hE : pj_E g b (pj_Kv K))   {u : pj_M} {x1 : Int32} {x2 : Int32} {x3 : Int32} {x4 : Int32} {x5 : Int32}   (h : pb_Mo_decide_89  K u x1 x2 x3 x4 x5) : pj_J g (pj_N g b u) 89 [some (.ref (b + 217)), some (.int x1), some (.int x2), some (.int x3), some (.int x4), some (.int x5), none] [] := by
  unfold pb_Mo_decide_89 at h
  refine pj_iconst C d_Mo_decide_89 (pc' := 90) rfl (v := 0) (by decide) ?_
  exact pj_cut (pj_le_s (pj_le_s (pj_le_s (pj_le_s (pj_le_s (pj_le_s (pj_le_n pj_le_e))))))) (pt_Mo_decide_90 C hE   h)
def pb_Mo_decide_79  (K : pj_M → Prop) (u : pj_M) (x1 : Int32) (x2 : Int32) (x3 : Int32) (x4 : Int32) (x5 : Int32) : Prop := pw_Mo_met u x1 x4 fun r2 u1 => (pb_Mo_decide_90  K u1 x1 x2 x3 x4 x5 r2)
set_option maxHeartbeats 1000000 in
theorem pt_Mo_decide_79 {g : pj_G} {b : Nat} (C : pj_X g c_Mo_decide 7 R_Mo none rm_Mo_decide) {K : pj_M → Prop} (hE : pj_E g b (pj_Kv K))   {u : pj_M} {x1 : Int32} {x2 : Int32} {x3 : Int32} {x4 : Int32} {x5 : Int32}   (h : pb_Mo_decide_79  K u x1 x2 x3 x4 x5) : pj_J g (pj_N g b u) 79 [some (.ref (b + 217)), some (.int x1), some (.int x2), some (.int x3), some (.int x4), some (.int x5), none] [] := by
  unfold pb_Mo_decide_79 at h
  refine pj_aload_n C d_Mo_decide_79 (pc' := 80) (i := 0) (x := b + 217) rfl rfl rfl ?_
  refine pj_iload_n C d_Mo_decide_80 (pc' := 81) (i := 1) (x := x1) rfl rfl rfl ?_
  refine pj_iload C d_Mo_decide_81 (pc' := 83) (i := 4) (x := x4) rfl rfl ?_
  refine ck_Model_329_Model C  h d_Mo_decide_83 (pc' := 86) rfl ⟨Nat.le_of_ble_eq_true rfl, Nat.le_of_ble_eq_true rfl⟩ (Nat.le_of_ble_eq_true rfl) (fun r2 u1 h => ?_)
  refine pj_goto C d_Mo_decide_86 (tgt := 90) (by decide) ?_
  exact pj_cut (pj_le_s (pj_le_s (pj_le_s (pj_le_s (pj_le_s (pj_le_s (pj_le_n pj_le_e))))))) (pt_Mo_decide_90 C hE   h)
def pb_Mo_decide_67  (K : pj_M → Prop) (u : pj_M) (x1 : Int32) (x2 : Int32) (x3 : Int32) (x4 : Int32) (x5 : Int32) : Prop := vp_in x4 8 ∧ ((((u 247 x4.toNatClampNeg) = x5) → (pb_Mo_decide_79  K u x1 x2 x3 x4 x5)) ∧ (¬ ((u 247 x4.toNatClampNeg) = x5) → (pb_Mo_decide_89  K u x1 x2 x3 x4 x5)))
set_option maxHeartbeats 1000000 in
theorem pt_Mo_decide_67 {g : pj_G} {b : Nat} (C : pj_X g c_Mo_decide 7 R_Mo none rm_Mo_decide) {K : pj_M → Prop} (hE : pj_E g b (pj_Kv K))   {u : pj_M} {x1 : Int32} {x2 : Int32} {x3 : Int32} {x4 : Int32} {x5 : Int32}   (h : pb_Mo_decide_67  K u x1 x2 x3 x4 x5) : pj_J g (pj_N g b u) 67 [some (.ref (b + 217)), some (.int x1), some (.int x2), some (.int x3), some (.int x4), some (.int x5), none] [] := by
  unfold pb_Mo_decide_67 at h
  refine pj_aload_n C d_Mo_decide_67 (pc' := 68) (i := 0) (x := b + 217) rfl rfl rfl ?_
  refine fg_Model_98_Model C tk_217 d_Mo_decide_68 (pc' := 71) rfl ?_
  refine pj_iload C d_Mo_decide_71 (pc' := 73) (i := 4) (x := x4) rfl rfl ?_
  refine pj_iald C (pj_lt tk_247 (by decide)) (fun E u => ka_20 tk_247) d_Mo_decide_73 (pc' := 74) rfl h (fun h => ?_)
  refine pj_iload C d_Mo_decide_74 (pc' := 76) (i := 5) (x := x5) rfl rfl ?_
  refine pj_icmp_ne C d_Mo_decide_76 (pc' := 79) rfl (tgt := 89) (by decide) h (fun h => ?_) (fun h => ?_)
  · exact pj_cut (pj_le_s (pj_le_s (pj_le_s (pj_le_s (pj_le_s (pj_le_s (pj_le_n pj_le_e))))))) (pt_Mo_decide_89 C hE   h)
  · exact pj_cut (pj_le_s (pj_le_s (pj_le_s (pj_le_s (pj_le_s (pj_le_s (pj_le_n pj_le_e))))))) (pt_Mo_decide_79 C hE   h)
def pb_Mo_decide_62  (K : pj_M → Prop) (u : pj_M) (x1 : Int32) (x2 : Int32) (x3 : Int32) (x4 : Int32) (x5 : Int32) : Prop := ((x4 < 0) → (pb_Mo_decide_89  K u x1 x2 x3 x4 x5)) ∧ (¬ (x4 < 0) → (pb_Mo_decide_67  K u x1 x2 x3 x4 x5))
set_option maxHeartbeats 1000000 in
theorem pt_Mo_decide_62 {g : pj_G} {b : Nat} (C : pj_X g c_Mo_decide 7 R_Mo none rm_Mo_decide) {K : pj_M → Prop} (hE : pj_E g b (pj_Kv K))   {u : pj_M} {x1 : Int32} {x2 : Int32} {x3 : Int32} {x4 : Int32} {x5 : Int32}   (h : pb_Mo_decide_62  K u x1 x2 x3 x4 x5) : pj_J g (pj_N g b u) 62 [some (.ref (b + 217)), some (.int x1), some (.int x2), some (.int x3), some (.int x4), some (.int x5), none] [] := by
  unfold pb_Mo_decide_62 at h
  refine pj_iload C d_Mo_decide_62 (pc' := 64) (i := 4) (x := x4) rfl rfl ?_
  refine pj_if_lt C d_Mo_decide_64 (pc' := 67) rfl (tgt := 89) (by decide) h (fun h => ?_) (fun h => ?_)
  · exact pj_cut (pj_le_s (pj_le_s (pj_le_s (pj_le_s (pj_le_s (pj_le_s (pj_le_n pj_le_e))))))) (pt_Mo_decide_89 C hE   h)
  · exact pj_cut (pj_le_s (pj_le_s (pj_le_s (pj_le_s (pj_le_s (pj_le_s (pj_le_n pj_le_e))))))) (pt_Mo_decide_67 C hE   h)
def pb_Mo_decide_54  (K : pj_M → Prop) (u : pj_M) (x1 : Int32) (x2 : Int32) (x3 : Int32) (x4 : Int32) (x5 : Int32) : Prop := pw_Mo_identified u x1 fun r2 u1 => (pb_Mo_decide_90  K u1 x1 x2 x3 x4 x5 r2)
set_option maxHeartbeats 1000000 in
theorem pt_Mo_decide_54 {g : pj_G} {b : Nat} (C : pj_X g c_Mo_decide 7 R_Mo none rm_Mo_decide) {K : pj_M → Prop} (hE : pj_E g b (pj_Kv K))   {u : pj_M} {x1 : Int32} {x2 : Int32} {x3 : Int32} {x4 : Int32} {x5 : Int32}   (h : pb_Mo_decide_54  K u x1 x2 x3 x4 x5) : pj_J g (pj_N g b u) 54 [some (.ref (b + 217)), some (.int x1), some (.int x2), some (.int x3), some (.int x4), some (.int x5), none] [] := by
  unfold pb_Mo_decide_54 at h
  refine pj_aload_n C d_Mo_decide_54 (pc' := 55) (i := 0) (x := b + 217) rfl rfl rfl ?_
  refine pj_iload_n C d_Mo_decide_55 (pc' := 56) (i := 1) (x := x1) rfl rfl rfl ?_
  refine ck_Model_326_Model C  h d_Mo_decide_56 (pc' := 59) rfl ⟨Nat.le_of_ble_eq_true rfl, Nat.le_of_ble_eq_true rfl⟩ (Nat.le_of_ble_eq_true rfl) (fun r2 u1 h => ?_)
  refine pj_goto C d_Mo_decide_59 (tgt := 90) (by decide) ?_
  exact pj_cut (pj_le_s (pj_le_s (pj_le_s (pj_le_s (pj_le_s (pj_le_s (pj_le_n pj_le_e))))))) (pt_Mo_decide_90 C hE   h)
def pb_Mo_decide_44  (K : pj_M → Prop) (u : pj_M) (x1 : Int32) (x2 : Int32) (x3 : Int32) (x4 : Int32) (x5 : Int32) : Prop := vp_in 3 48 ∧ ((((u 227 (3 : Int32).toNatClampNeg) = 1) → (pb_Mo_decide_54  K u x1 x2 x3 x4 x5)) ∧ (¬ ((u 227 (3 : Int32).toNatClampNeg) = 1) → (pb_Mo_decide_62  K u x1 x2 x3 x4 x5)))
set_option maxHeartbeats 1000000 in
theorem pt_Mo_decide_44 {g : pj_G} {b : Nat} (C : pj_X g c_Mo_decide 7 R_Mo none rm_Mo_decide) {K : pj_M → Prop} (hE : pj_E g b (pj_Kv K))   {u : pj_M} {x1 : Int32} {x2 : Int32} {x3 : Int32} {x4 : Int32} {x5 : Int32}   (h : pb_Mo_decide_44  K u x1 x2 x3 x4 x5) : pj_J g (pj_N g b u) 44 [some (.ref (b + 217)), some (.int x1), some (.int x2), some (.int x3), some (.int x4), some (.int x5), none] [] := by
  unfold pb_Mo_decide_44 at h
  refine pj_aload_n C d_Mo_decide_44 (pc' := 45) (i := 0) (x := b + 217) rfl rfl rfl ?_
  refine fg_Model_38_Model C tk_217 d_Mo_decide_45 (pc' := 48) rfl ?_
  refine pj_iconst C d_Mo_decide_48 (pc' := 49) rfl (v := 3) (by decide) ?_
  refine pj_iald C (pj_lt tk_227 (by decide)) (fun E u => ka_22 tk_227) d_Mo_decide_49 (pc' := 50) rfl h (fun h => ?_)
  refine pj_iconst C d_Mo_decide_50 (pc' := 51) rfl (v := 1) (by decide) ?_
  refine pj_icmp_ne C d_Mo_decide_51 (pc' := 54) rfl (tgt := 62) (by decide) h (fun h => ?_) (fun h => ?_)
  · exact pj_cut (pj_le_s (pj_le_s (pj_le_s (pj_le_s (pj_le_s (pj_le_s (pj_le_n pj_le_e))))))) (pt_Mo_decide_62 C hE   h)
  · exact pj_cut (pj_le_s (pj_le_s (pj_le_s (pj_le_s (pj_le_s (pj_le_s (pj_le_n pj_le_e))))))) (pt_Mo_decide_54 C hE   h)
def pb_Mo_decide_40  (K : pj_M → Prop) (u : pj_M) (x1 : Int32) (x2 : Int32) (x3 : Int32) (x4 : Int32) (x5 : Int32) : Prop := pb_Mo_decide_90  K u x1 x2 x3 x4 x5 0
set_option maxHeartbeats 1000000 in
theorem pt_Mo_decide_40 {g : pj_G} {b : Nat} (C : pj_X g c_Mo_decide 7 R_Mo none rm_Mo_decide) {K : pj_M → Prop} (hE : pj_E g b (pj_Kv K))   {u : pj_M} {x1 : Int32} {x2 : Int32} {x3 : Int32} {x4 : Int32} {x5 : Int32}   (h : pb_Mo_decide_40  K u x1 x2 x3 x4 x5) : pj_J g (pj_N g b u) 40 [some (.ref (b + 217)), some (.int x1), some (.int x2), some (.int x3), some (.int x4), some (.int x5), none] [] := by
  unfold pb_Mo_decide_40 at h
  refine pj_iconst C d_Mo_decide_40 (pc' := 41) rfl (v := 0) (by decide) ?_
  refine pj_goto C d_Mo_decide_41 (tgt := 90) (by decide) ?_
  exact pj_cut (pj_le_s (pj_le_s (pj_le_s (pj_le_s (pj_le_s (pj_le_s (pj_le_n pj_le_e))))))) (pt_Mo_decide_90 C hE   h)
def pb_Mo_decide_20  (K : pj_M → Prop) (u : pj_M) (x1 : Int32) (x2 : Int32) (x3 : Int32) (s0 : Int32) : Prop := vp_in 1 48 ∧ (pj_let (u 227 (1 : Int32).toNatClampNeg) fun y1 => (vp_in 0 48 ∧ ((((u 227 (0 : Int32).toNatClampNeg) = 2) → (pb_Mo_decide_44  K u x1 x2 x3 s0 y1)) ∧ (¬ ((u 227 (0 : Int32).toNatClampNeg) = 2) → (pb_Mo_decide_40  K u x1 x2 x3 s0 y1)))))
set_option maxHeartbeats 1000000 in
theorem pt_Mo_decide_20 {g : pj_G} {b : Nat} (C : pj_X g c_Mo_decide 7 R_Mo none rm_Mo_decide) {K : pj_M → Prop} (hE : pj_E g b (pj_Kv K))   {u : pj_M} {x1 : Int32} {x2 : Int32} {x3 : Int32} {s0 : Int32}   (h : pb_Mo_decide_20  K u x1 x2 x3 s0) : pj_J g (pj_N g b u) 20 [some (.ref (b + 217)), some (.int x1), some (.int x2), some (.int x3), none, none, none] [.int s0] := by
  unfold pb_Mo_decide_20 at h
  refine pj_istore C d_Mo_decide_20 (pc' := 22) (i := 4) (vs' := [some (.ref (b + 217)), some (.int x1), some (.int x2), some (.int x3), some (.int s0), none, none]) rfl (Nat.le_of_ble_eq_true rfl) (Nat.le_of_ble_eq_true rfl) rfl rfl ?_
  refine pj_aload_n C d_Mo_decide_22 (pc' := 23) (i := 0) (x := b + 217) rfl rfl rfl ?_
  refine fg_Model_38_Model C tk_217 d_Mo_decide_23 (pc' := 26) rfl ?_
  refine pj_iconst C d_Mo_decide_26 (pc' := 27) rfl (v := 1) (by decide) ?_
  refine pj_iald C (pj_lt tk_227 (by decide)) (fun E u => ka_22 tk_227) d_Mo_decide_27 (pc' := 28) rfl h (fun h => ?_)
  refine pj_name h (fun y1 h => ?_)
  refine pj_istore C d_Mo_decide_28 (pc' := 30) (i := 5) (vs' := [some (.ref (b + 217)), some (.int x1), some (.int x2), some (.int x3), some (.int s0), some (.int y1), none]) rfl (Nat.le_of_ble_eq_true rfl) (Nat.le_of_ble_eq_true rfl) rfl rfl ?_
  refine pj_aload_n C d_Mo_decide_30 (pc' := 31) (i := 0) (x := b + 217) rfl rfl rfl ?_
  refine fg_Model_38_Model C tk_217 d_Mo_decide_31 (pc' := 34) rfl ?_
  refine pj_iconst C d_Mo_decide_34 (pc' := 35) rfl (v := 0) (by decide) ?_
  refine pj_iald C (pj_lt tk_227 (by decide)) (fun E u => ka_22 tk_227) d_Mo_decide_35 (pc' := 36) rfl h (fun h => ?_)
  refine pj_iconst C d_Mo_decide_36 (pc' := 37) rfl (v := 2) (by decide) ?_
  refine pj_icmp_eq C d_Mo_decide_37 (pc' := 40) rfl (tgt := 44) (by decide) h (fun h => ?_) (fun h => ?_)
  · exact pj_cut (pj_le_s (pj_le_s (pj_le_s (pj_le_s (pj_le_s (pj_le_s (pj_le_n pj_le_e))))))) (pt_Mo_decide_44 C hE   h)
  · exact pj_cut (pj_le_s (pj_le_s (pj_le_s (pj_le_s (pj_le_s (pj_le_s (pj_le_n pj_le_e))))))) (pt_Mo_decide_40 C hE   h)
def pb_Mo_decide_11  (K : pj_M → Prop) (u : pj_M) (x1 : Int32) (x2 : Int32) (x3 : Int32) : Prop := pw_Mo_sessionOf u x1 (u 217 14) fun r2 u1 => (pb_Mo_decide_20  K u1 x1 x2 x3 r2)
set_option maxHeartbeats 1000000 in
theorem pt_Mo_decide_11 {g : pj_G} {b : Nat} (C : pj_X g c_Mo_decide 7 R_Mo none rm_Mo_decide) {K : pj_M → Prop} (hE : pj_E g b (pj_Kv K))   {u : pj_M} {x1 : Int32} {x2 : Int32} {x3 : Int32}   (h : pb_Mo_decide_11  K u x1 x2 x3) : pj_J g (pj_N g b u) 11 [some (.ref (b + 217)), some (.int x1), some (.int x2), some (.int x3), none, none, none] [] := by
  unfold pb_Mo_decide_11 at h
  refine pj_aload_n C d_Mo_decide_11 (pc' := 12) (i := 0) (x := b + 217) rfl rfl rfl ?_
  refine pj_iload_n C d_Mo_decide_12 (pc' := 13) (i := 1) (x := x1) rfl rfl rfl ?_
  refine pj_aload_n C d_Mo_decide_13 (pc' := 14) (i := 0) (x := b + 217) rfl rfl rfl ?_
  refine fg_Model_253_Model C tk_217 d_Mo_decide_14 (pc' := 17) rfl ?_
  refine ck_Model_323_Model C  h d_Mo_decide_17 (pc' := 20) rfl ⟨Nat.le_of_ble_eq_true rfl, Nat.le_of_ble_eq_true rfl⟩ (Nat.le_of_ble_eq_true rfl) (fun r2 u1 h => ?_)
  exact pj_cut (pj_le_s (pj_le_s (pj_le_s (pj_le_s (pj_le_n (pj_le_n (pj_le_n pj_le_e))))))) (pt_Mo_decide_20 C hE   h)
def pb_Mo_decide_7  (K : pj_M → Prop) (u : pj_M) (x1 : Int32) (x2 : Int32) (x3 : Int32) : Prop := pb_Mo_decide_20  K u x1 x2 x3 ((-1))
set_option maxHeartbeats 1000000 in
theorem pt_Mo_decide_7 {g : pj_G} {b : Nat} (C : pj_X g c_Mo_decide 7 R_Mo none rm_Mo_decide) {K : pj_M → Prop} (hE : pj_E g b (pj_Kv K))   {u : pj_M} {x1 : Int32} {x2 : Int32} {x3 : Int32}   (h : pb_Mo_decide_7  K u x1 x2 x3) : pj_J g (pj_N g b u) 7 [some (.ref (b + 217)), some (.int x1), some (.int x2), some (.int x3), none, none, none] [] := by
  unfold pb_Mo_decide_7 at h
  refine pj_iconst C d_Mo_decide_7 (pc' := 8) rfl (v := (-1)) (by decide) ?_
  refine pj_goto C d_Mo_decide_8 (tgt := 20) (by decide) ?_
  exact pj_cut (pj_le_s (pj_le_s (pj_le_s (pj_le_s (pj_le_n (pj_le_n (pj_le_n pj_le_e))))))) (pt_Mo_decide_20 C hE   h)
def pb_Mo_decide_0  (K : pj_M → Prop) (u : pj_M) (x1 : Int32) (x2 : Int32) (x3 : Int32) : Prop := ((0 ≤ (u 217 14)) → (pb_Mo_decide_11  K u x1 x2 x3)) ∧ (¬ (0 ≤ (u 217 14)) → (pb_Mo_decide_7  K u x1 x2 x3))
set_option maxHeartbeats 1000000 in
theorem pt_Mo_decide_0 {g : pj_G} {b : Nat} (C : pj_X g c_Mo_decide 7 R_Mo none rm_Mo_decide) {K : pj_M → Prop} (hE : pj_E g b (pj_Kv K))   {u : pj_M} {x1 : Int32} {x2 : Int32} {x3 : Int32}   (h : pb_Mo_decide_0  K u x1 x2 x3) : pj_J g (pj_N g b u) 0 [some (.ref (b + 217)), some (.int x1), some (.int x2), some (.int x3), none, none, none] [] := by
  unfold pb_Mo_decide_0 at h
  refine pj_aload_n C d_Mo_decide_0 (pc' := 1) (i := 0) (x := b + 217) rfl rfl rfl ?_
  refine fg_Model_253_Model C tk_217 d_Mo_decide_1 (pc' := 4) rfl ?_
  refine pj_if_ge C d_Mo_decide_4 (pc' := 7) rfl (tgt := 11) (by decide) h (fun h => ?_) (fun h => ?_)
  · exact pj_cut (pj_le_s (pj_le_s (pj_le_s (pj_le_s (pj_le_n (pj_le_n (pj_le_n pj_le_e))))))) (pt_Mo_decide_11 C hE   h)
  · exact pj_cut (pj_le_s (pj_le_s (pj_le_s (pj_le_s (pj_le_n (pj_le_n (pj_le_n pj_le_e))))))) (pt_Mo_decide_7 C hE   h)
def pw_Mo_decide (u : pj_M) (x1 : Int32) (x2 : Int32) (x3 : Int32) (K : pj_M → Prop) : Prop := pb_Mo_decide_0  K u x1 x2 x3
theorem pc_Mo_decide (l : Launch) (D : va_G) (E : Nat → ClassId) {b : Nat} {u : pj_M} {x1 : Int32} {x2 : Int32} {x3 : Int32} {K : pj_M → Prop}  (h : pw_Mo_decide u x1 x2 x3 K) : pj_C l y_Mo_decide c_Mo_decide 7 none rm_Mo_decide D E b [.ref (b + 217), .int x1, .int x2, .int x3] u (pj_Kv K) := by
  refine pj_met (own := R_Mo) (by decide +kernel) rfl (Nat.le_of_ble_eq_true rfl) (fun g hE C => ?_)
  unfold pw_Mo_decide at h
  show pj_J g (pj_N g b u) 0 [some (.ref (b + 217)), some (.int x1), some (.int x2), some (.int x3), none, none, none] []
  exact pj_cut (pj_le_s (pj_le_s (pj_le_s (pj_le_s (pj_le_n (pj_le_n (pj_le_n pj_le_e))))))) (pt_Mo_decide_0 C hE   h)
/-! Model.serverTakes(I)V -/
theorem ck_Model_304_Model {g : pj_G} {b : Nat} {cc : ByteArray} {nL : Nat} {ret : Option FieldType} {rm : Room} {u : pj_M} {pc pc' : Nat} {vs : List (Option Value)} {st : List Value} (C : pj_X g cc nL R_Mo ret rm)  {K : Int32 → pj_M → Prop}  (h : pw_Mo_rightGram u  K) (hdg : decode cc pc = .ok (.invokevirtual 304, 3)) (hp : pc + 3 = pc') (hR : rm_Mo_rightGram.frames + 1 ≤ rm.frames ∧ 8 + (3 + 11) + rm_Mo_rightGram.locals ≤ rm.locals) (h8 : (st.map fun v => v.category).sum ≤ 8) (kk : ∀ r u', K r u' → pj_J g (pj_N g b u') pc' vs (.int r :: st)) : pj_J g (pj_N g b u) pc vs (.ref (b + 217) :: st) :=
  pj_callV C (As := []) (fun l D E => pc_Mo_rightGram l D E  h) rfl rfl cl_Model (pj_lt tk_217 (by decide)) (fun E => ko_11 tk_217) wm_1520 wm_1522 wm_75 wm_103 wm_1523 (by decide +kernel) (n := 0) rfl hR rfl h8 hdg hp (fun v u' hq => by obtain ⟨r, rfl, hk⟩ := hq; exact kk r u' hk)
theorem ck_Model_307_Model {g : pj_G} {b : Nat} {cc : ByteArray} {nL : Nat} {ret : Option FieldType} {rm : Room} {u : pj_M} {pc pc' : Nat} {vs : List (Option Value)} {st : List Value} (C : pj_X g cc nL R_Mo ret rm) {x1 : Int32} {K : Int32 → pj_M → Prop}  (h : pw_Mo_intAt u x1 K) (hdg : decode cc pc = .ok (.invokevirtual 307, 3)) (hp : pc + 3 = pc') (hR : rm_Mo_intAt.frames + 1 ≤ rm.frames ∧ 8 + (2 + 11) + rm_Mo_intAt.locals ≤ rm.locals) (h8 : (st.map fun v => v.category).sum ≤ 8) (kk : ∀ r u', K r u' → pj_J g (pj_N g b u') pc' vs (.int r :: st)) : pj_J g (pj_N g b u) pc vs (.int x1 :: .ref (b + 217) :: st) :=
  pj_callV C (As := [.int x1]) (fun l D E => pc_Mo_intAt l D E  h) rfl rfl cl_Model (pj_lt tk_217 (by decide)) (fun E => ko_11 tk_217) wm_1528 wm_1530 wm_77 wm_103 wm_1531 (by decide +kernel) (n := 1) rfl hR rfl h8 hdg hp (fun v u' hq => by obtain ⟨r, rfl, hk⟩ := hq; exact kk r u' hk)
theorem ck_Model_313_Model {g : pj_G} {b : Nat} {cc : ByteArray} {nL : Nat} {ret : Option FieldType} {rm : Room} {u : pj_M} {pc pc' : Nat} {vs : List (Option Value)} {st : List Value} (C : pj_X g cc nL R_Mo ret rm) {x1 : Int32} {x2 : Int32} {x3 : Int32} {K : pj_M → Prop}  (h : pw_Mo_decide u x1 x2 x3 K) (hdg : decode cc pc = .ok (.invokevirtual 313, 3)) (hp : pc + 3 = pc') (hR : rm_Mo_decide.frames + 1 ≤ rm.frames ∧ 8 + (7 + 11) + rm_Mo_decide.locals ≤ rm.locals) (h8 : (st.map fun v => v.category).sum ≤ 8) (kk : ∀ u', K u' → pj_J g (pj_N g b u') pc' vs st) : pj_J g (pj_N g b u) pc vs (.int x3 :: .int x2 :: .int x1 :: .ref (b + 217) :: st) :=
  pj_callV C (As := [.int x1, .int x2, .int x3]) (fun l D E => pc_Mo_decide l D E  h) rfl rfl cl_Model (pj_lt tk_217 (by decide)) (fun E => ko_11 tk_217) wm_1540 wm_1542 wm_80 wm_103 wm_1543 (by decide +kernel) (n := 3) rfl hR rfl h8 hdg hp (fun v u' hq => by obtain ⟨rfl, hk⟩ := hq; exact kk u' hk)
def rm_Mo_serverTakes : Room := { frames := 8, cells := 0, slots := 0, locals := 189 }
def pb_Mo_serverTakes_54  (K : pj_M → Prop) (u : pj_M)  : Prop := vp_in 2 3 ∧ (vp_in 2 3 ∧ pj_put u 277 (2 : Int32).toNatClampNeg ((u 277 (2 : Int32).toNatClampNeg) + 1) fun u1 => (K u1))
set_option maxHeartbeats 1000000 in
theorem pt_Mo_serverTakes_54 {g : pj_G} {b : Nat} (C : pj_X g c_Mo_serverTakes 5 R_Mo none rm_Mo_serverTakes) {K : pj_M → Prop} (hE : pj_E g b (pj_Kv K))   {u : pj_M}    (h : pb_Mo_serverTakes_54  K u ) : pj_J g (pj_N g b u) 54 [some (.ref (b + 217)), none, none, none, none] [] := by
  unfold pb_Mo_serverTakes_54 at h
  refine pj_aload_n C d_Mo_serverTakes_54 (pc' := 55) (i := 0) (x := b + 217) rfl rfl rfl ?_
  refine fg_Model_188_Model C tk_217 d_Mo_serverTakes_55 (pc' := 58) rfl ?_
  refine pj_iconst C d_Mo_serverTakes_58 (pc' := 59) rfl (v := 2) (by decide) ?_
  refine pj_dup2_11 C d_Mo_serverTakes_59 (pc' := 60) rfl rfl rfl ?_
  refine pj_iald C (pj_lt tk_277 (by decide)) (fun E u => ka_34 tk_277) d_Mo_serverTakes_60 (pc' := 61) rfl h (fun h => ?_)
  refine pj_iconst C d_Mo_serverTakes_61 (pc' := 62) rfl (v := 1) (by decide) ?_
  refine pj_iadd C d_Mo_serverTakes_62 (pc' := 63) rfl ?_
  refine pj_iast C (pj_lt tk_277 (by decide)) (fun E u => ka_34 tk_277) d_Mo_serverTakes_63 (pc' := 64) rfl h (fun u1 h => ?_)
  exact pj_vret C hE d_Mo_serverTakes_64 ⟨rfl, h⟩
def pb_Mo_serverTakes_134  (K : pj_M → Prop) (u : pj_M) (x1 : Int32) (x2 : Int32) (x3 : Int32) : Prop := pw_Mo_decide u x1 x2 x3 fun u1 => (K u1)
set_option maxHeartbeats 1000000 in
theorem pt_Mo_serverTakes_134 {g : pj_G} {b : Nat} (C : pj_X g c_Mo_serverTakes 5 R_Mo none rm_Mo_serverTakes) {K : pj_M → Prop} (hE : pj_E g b (pj_Kv K))   {u : pj_M} {x1 : Int32} {x2 : Int32} {x3 : Int32}   (h : pb_Mo_serverTakes_134  K u x1 x2 x3) : pj_J g (pj_N g b u) 134 [some (.ref (b + 217)), some (.int x1), some (.int x2), some (.int x3), none] [] := by
  unfold pb_Mo_serverTakes_134 at h
  refine pj_aload_n C d_Mo_serverTakes_134 (pc' := 135) (i := 0) (x := b + 217) rfl rfl rfl ?_
  refine pj_iload_n C d_Mo_serverTakes_135 (pc' := 136) (i := 1) (x := x1) rfl rfl rfl ?_
  refine pj_iload_n C d_Mo_serverTakes_136 (pc' := 137) (i := 2) (x := x2) rfl rfl rfl ?_
  refine pj_iload_n C d_Mo_serverTakes_137 (pc' := 138) (i := 3) (x := x3) rfl rfl rfl ?_
  refine ck_Model_313_Model C  h d_Mo_serverTakes_138 (pc' := 141) rfl ⟨Nat.le_of_ble_eq_true rfl, Nat.le_of_ble_eq_true rfl⟩ (Nat.le_of_ble_eq_true rfl) (fun u1 h => ?_)
  exact pj_vret C hE d_Mo_serverTakes_141 ⟨rfl, h⟩
def pb_Mo_serverTakes_128 (R83 : pj_M → Int32 → Prop) (K : pj_M → Prop) (u : pj_M) (x1 : Int32) (x2 : Int32) (x3 : Int32) (x4 : Int32) : Prop := R83 u (x4 + 1)
set_option maxHeartbeats 1000000 in
theorem pt_Mo_serverTakes_128 {g : pj_G} {b : Nat} (C : pj_X g c_Mo_serverTakes 5 R_Mo none rm_Mo_serverTakes) {K : pj_M → Prop} (hE : pj_E g b (pj_Kv K)) {R83 : pj_M → Int32 → Prop}  {u : pj_M} {x1 : Int32} {x2 : Int32} {x3 : Int32} {x4 : Int32} (hR83 : ∀ (u : pj_M) (x4 : Int32), R83 u x4 → pj_J g (pj_N g b u) 83 [some (.ref (b + 217)), some (.int x1), some (.int x2), some (.int x3), some (.int x4)] [])  (h : pb_Mo_serverTakes_128 R83 K u x1 x2 x3 x4) : pj_J g (pj_N g b u) 128 [some (.ref (b + 217)), some (.int x1), some (.int x2), some (.int x3), some (.int x4)] [] := by
  unfold pb_Mo_serverTakes_128 at h
  refine pj_iinc C d_Mo_serverTakes_128 (pc' := 131) (x := x4) (d := 1) (vs' := [some (.ref (b + 217)), some (.int x1), some (.int x2), some (.int x3), some (.int (x4 + 1))]) rfl rfl (Nat.le_of_ble_eq_true rfl) rfl (by decide) rfl ?_
  refine pj_goto C d_Mo_serverTakes_131 (tgt := 83) (by decide) ?_
  exact pj_cut (pj_le_s (pj_le_s (pj_le_s (pj_le_s (pj_le_s pj_le_e))))) (hR83 _ _ h)
def pb_Mo_serverTakes_120  (K : pj_M → Prop) (u : pj_M) (x1 : Int32) (x4 : Int32) : Prop := pw_Mo_sendAnswer u x1 x4 fun u1 => (K u1)
set_option maxHeartbeats 1000000 in
theorem pt_Mo_serverTakes_120 {g : pj_G} {b : Nat} (C : pj_X g c_Mo_serverTakes 5 R_Mo none rm_Mo_serverTakes) {K : pj_M → Prop} (hE : pj_E g b (pj_Kv K))   {u : pj_M} {x1 : Int32} {x4 : Int32}   (h : pb_Mo_serverTakes_120  K u x1 x4) : pj_J g (pj_N g b u) 120 [some (.ref (b + 217)), some (.int x1), none, none, some (.int x4)] [] := by
  unfold pb_Mo_serverTakes_120 at h
  refine pj_aload_n C d_Mo_serverTakes_120 (pc' := 121) (i := 0) (x := b + 217) rfl rfl rfl ?_
  refine pj_iload_n C d_Mo_serverTakes_121 (pc' := 122) (i := 1) (x := x1) rfl rfl rfl ?_
  refine pj_iload C d_Mo_serverTakes_122 (pc' := 124) (i := 4) (x := x4) rfl rfl ?_
  refine ck_Model_310_Model C  h d_Mo_serverTakes_124 (pc' := 127) rfl ⟨Nat.le_of_ble_eq_true rfl, Nat.le_of_ble_eq_true rfl⟩ (Nat.le_of_ble_eq_true rfl) (fun u1 h => ?_)
  exact pj_vret C hE d_Mo_serverTakes_127 ⟨rfl, h⟩
def pb_Mo_serverTakes_109 (R83 : pj_M → Int32 → Prop) (K : pj_M → Prop) (u : pj_M) (x1 : Int32) (x2 : Int32) (x3 : Int32) (x4 : Int32) : Prop := vp_in x4 8 ∧ ((((u 253 x4.toNatClampNeg) = x3) → (pb_Mo_serverTakes_120  K u x1 x4)) ∧ (¬ ((u 253 x4.toNatClampNeg) = x3) → (pb_Mo_serverTakes_128 R83 K u x1 x2 x3 x4)))
set_option maxHeartbeats 1000000 in
theorem pt_Mo_serverTakes_109 {g : pj_G} {b : Nat} (C : pj_X g c_Mo_serverTakes 5 R_Mo none rm_Mo_serverTakes) {K : pj_M → Prop} (hE : pj_E g b (pj_Kv K)) {R83 : pj_M → Int32 → Prop}  {u : pj_M} {x1 : Int32} {x2 : Int32} {x3 : Int32} {x4 : Int32} (hR83 : ∀ (u : pj_M) (x4 : Int32), R83 u x4 → pj_J g (pj_N g b u) 83 [some (.ref (b + 217)), some (.int x1), some (.int x2), some (.int x3), some (.int x4)] [])  (h : pb_Mo_serverTakes_109 R83 K u x1 x2 x3 x4) : pj_J g (pj_N g b u) 109 [some (.ref (b + 217)), some (.int x1), some (.int x2), some (.int x3), some (.int x4)] [] := by
  unfold pb_Mo_serverTakes_109 at h
  refine pj_aload_n C d_Mo_serverTakes_109 (pc' := 110) (i := 0) (x := b + 217) rfl rfl rfl ?_
  refine fg_Model_116_Model C tk_217 d_Mo_serverTakes_110 (pc' := 113) rfl ?_
  refine pj_iload C d_Mo_serverTakes_113 (pc' := 115) (i := 4) (x := x4) rfl rfl ?_
  refine pj_iald C (pj_lt tk_253 (by decide)) (fun E u => ka_20 tk_253) d_Mo_serverTakes_115 (pc' := 116) rfl h (fun h => ?_)
  refine pj_iload_n C d_Mo_serverTakes_116 (pc' := 117) (i := 3) (x := x3) rfl rfl rfl ?_
  refine pj_icmp_ne C d_Mo_serverTakes_117 (pc' := 120) rfl (tgt := 128) (by decide) h (fun h => ?_) (fun h => ?_)
  · exact pj_cut (pj_le_s (pj_le_s (pj_le_s (pj_le_s (pj_le_s pj_le_e))))) (pt_Mo_serverTakes_128 C hE hR83  h)
  · exact pj_cut (pj_le_s (pj_le_s (pj_le_n (pj_le_n (pj_le_s pj_le_e))))) (pt_Mo_serverTakes_120 C hE   h)
def pb_Mo_serverTakes_98 (R83 : pj_M → Int32 → Prop) (K : pj_M → Prop) (u : pj_M) (x1 : Int32) (x2 : Int32) (x3 : Int32) (x4 : Int32) : Prop := vp_in x4 8 ∧ ((((u 252 x4.toNatClampNeg) = x2) → (pb_Mo_serverTakes_109 R83 K u x1 x2 x3 x4)) ∧ (¬ ((u 252 x4.toNatClampNeg) = x2) → (pb_Mo_serverTakes_128 R83 K u x1 x2 x3 x4)))
set_option maxHeartbeats 1000000 in
theorem pt_Mo_serverTakes_98 {g : pj_G} {b : Nat} (C : pj_X g c_Mo_serverTakes 5 R_Mo none rm_Mo_serverTakes) {K : pj_M → Prop} (hE : pj_E g b (pj_Kv K)) {R83 : pj_M → Int32 → Prop}  {u : pj_M} {x1 : Int32} {x2 : Int32} {x3 : Int32} {x4 : Int32} (hR83 : ∀ (u : pj_M) (x4 : Int32), R83 u x4 → pj_J g (pj_N g b u) 83 [some (.ref (b + 217)), some (.int x1), some (.int x2), some (.int x3), some (.int x4)] [])  (h : pb_Mo_serverTakes_98 R83 K u x1 x2 x3 x4) : pj_J g (pj_N g b u) 98 [some (.ref (b + 217)), some (.int x1), some (.int x2), some (.int x3), some (.int x4)] [] := by
  unfold pb_Mo_serverTakes_98 at h
  refine pj_aload_n C d_Mo_serverTakes_98 (pc' := 99) (i := 0) (x := b + 217) rfl rfl rfl ?_
  refine fg_Model_113_Model C tk_217 d_Mo_serverTakes_99 (pc' := 102) rfl ?_
  refine pj_iload C d_Mo_serverTakes_102 (pc' := 104) (i := 4) (x := x4) rfl rfl ?_
  refine pj_iald C (pj_lt tk_252 (by decide)) (fun E u => ka_20 tk_252) d_Mo_serverTakes_104 (pc' := 105) rfl h (fun h => ?_)
  refine pj_iload_n C d_Mo_serverTakes_105 (pc' := 106) (i := 2) (x := x2) rfl rfl rfl ?_
  refine pj_icmp_ne C d_Mo_serverTakes_106 (pc' := 109) rfl (tgt := 128) (by decide) h (fun h => ?_) (fun h => ?_)
  · exact pj_cut (pj_le_s (pj_le_s (pj_le_s (pj_le_s (pj_le_s pj_le_e))))) (pt_Mo_serverTakes_128 C hE hR83  h)
  · exact pj_cut (pj_le_s (pj_le_s (pj_le_s (pj_le_s (pj_le_s pj_le_e))))) (pt_Mo_serverTakes_109 C hE hR83  h)
def pb_Mo_serverTakes_83b (R83 : pj_M → Int32 → Prop) (K : pj_M → Prop) (u : pj_M) (x1 : Int32) (x2 : Int32) (x3 : Int32) (x4 : Int32) : Prop := vp_in x1 2 ∧ (((((4 * x1) + (u 251 x1.toNatClampNeg)) ≤ x4) → (pb_Mo_serverTakes_134  K u x1 x2 x3)) ∧ (¬ (((4 * x1) + (u 251 x1.toNatClampNeg)) ≤ x4) → (pb_Mo_serverTakes_98 R83 K u x1 x2 x3 x4)))
set_option maxHeartbeats 1000000 in
theorem pt_Mo_serverTakes_83b {g : pj_G} {b : Nat} (C : pj_X g c_Mo_serverTakes 5 R_Mo none rm_Mo_serverTakes) {K : pj_M → Prop} (hE : pj_E g b (pj_Kv K)) {R83 : pj_M → Int32 → Prop}  {u : pj_M} {x1 : Int32} {x2 : Int32} {x3 : Int32} {x4 : Int32} (hR83 : ∀ (u : pj_M) (x4 : Int32), R83 u x4 → pj_J g (pj_N g b u) 83 [some (.ref (b + 217)), some (.int x1), some (.int x2), some (.int x3), some (.int x4)] [])  (h : pb_Mo_serverTakes_83b R83 K u x1 x2 x3 x4) : pj_J g (pj_N g b u) 83 [some (.ref (b + 217)), some (.int x1), some (.int x2), some (.int x3), some (.int x4)] [] := by
  unfold pb_Mo_serverTakes_83b at h
  refine pj_iload C d_Mo_serverTakes_83 (pc' := 85) (i := 4) (x := x4) rfl rfl ?_
  refine pj_iconst C d_Mo_serverTakes_85 (pc' := 86) rfl (v := 4) (by decide) ?_
  refine pj_iload_n C d_Mo_serverTakes_86 (pc' := 87) (i := 1) (x := x1) rfl rfl rfl ?_
  refine pj_imul C d_Mo_serverTakes_87 (pc' := 88) rfl ?_
  refine pj_aload_n C d_Mo_serverTakes_88 (pc' := 89) (i := 0) (x := b + 217) rfl rfl rfl ?_
  refine fg_Model_110_Model C tk_217 d_Mo_serverTakes_89 (pc' := 92) rfl ?_
  refine pj_iload_n C d_Mo_serverTakes_92 (pc' := 93) (i := 1) (x := x1) rfl rfl rfl ?_
  refine pj_iald C (pj_lt tk_251 (by decide)) (fun E u => ka_33 tk_251) d_Mo_serverTakes_93 (pc' := 94) rfl h (fun h => ?_)
  refine pj_iadd C d_Mo_serverTakes_94 (pc' := 95) rfl ?_
  refine pj_icmp_ge C d_Mo_serverTakes_95 (pc' := 98) rfl (tgt := 134) (by decide) h (fun h => ?_) (fun h => ?_)
  · exact pj_cut (pj_le_s (pj_le_s (pj_le_s (pj_le_s (pj_le_n pj_le_e))))) (pt_Mo_serverTakes_134 C hE   h)
  · exact pj_cut (pj_le_s (pj_le_s (pj_le_s (pj_le_s (pj_le_s pj_le_e))))) (pt_Mo_serverTakes_98 C hE hR83  h)
def pb_Mo_serverTakes_83  (K : pj_M → Prop) (x1 : Int32) (x2 : Int32) (x3 : Int32) : Nat → pj_M → Int32 → Prop
  | 0 => fun _ _ => False
  | n + 1 => fun u x4 => pb_Mo_serverTakes_83b (pb_Mo_serverTakes_83  K x1 x2 x3 n) K u x1 x2 x3 x4
theorem pt_Mo_serverTakes_83 {g : pj_G} {b : Nat} (C : pj_X g c_Mo_serverTakes 5 R_Mo none rm_Mo_serverTakes) {K : pj_M → Prop} (hE : pj_E g b (pj_Kv K))  {x1 : Int32} {x2 : Int32} {x3 : Int32}   : ∀ (n : Nat) (u : pj_M) (x4 : Int32), pb_Mo_serverTakes_83  K x1 x2 x3 n u x4 → pj_J g (pj_N g b u) 83 [some (.ref (b + 217)), some (.int x1), some (.int x2), some (.int x3), some (.int x4)] [] := by
  intro n
  induction n with
  | zero => intro u x4 h; exact False.elim h
  | succ n ih =>
    intro u x4 h
    exact (pt_Mo_serverTakes_83b C hE ih  h)
def pb_Mo_serverTakes_65  (K : pj_M → Prop) (u : pj_M) (x1 : Int32) : Prop := vp_in 1 48 ∧ (pj_let (u 226 (1 : Int32).toNatClampNeg) fun y1 => (pw_Mo_intAt u 3 fun r3 u2 => (pj_let (4 * x1) fun y4 => (∃ n, pb_Mo_serverTakes_83  K x1 y1 r3 n u2 y4))))
set_option maxHeartbeats 1000000 in
theorem pt_Mo_serverTakes_65 {g : pj_G} {b : Nat} (C : pj_X g c_Mo_serverTakes 5 R_Mo none rm_Mo_serverTakes) {K : pj_M → Prop} (hE : pj_E g b (pj_Kv K))   {u : pj_M} {x1 : Int32}   (h : pb_Mo_serverTakes_65  K u x1) : pj_J g (pj_N g b u) 65 [some (.ref (b + 217)), some (.int x1), none, none, none] [] := by
  unfold pb_Mo_serverTakes_65 at h
  refine pj_aload_n C d_Mo_serverTakes_65 (pc' := 66) (i := 0) (x := b + 217) rfl rfl rfl ?_
  refine fg_Model_35_Model C tk_217 d_Mo_serverTakes_66 (pc' := 69) rfl ?_
  refine pj_iconst C d_Mo_serverTakes_69 (pc' := 70) rfl (v := 1) (by decide) ?_
  refine pj_iald C (pj_lt tk_226 (by decide)) (fun E u => ka_22 tk_226) d_Mo_serverTakes_70 (pc' := 71) rfl h (fun h => ?_)
  refine pj_name h (fun y1 h => ?_)
  refine pj_istore_n C d_Mo_serverTakes_71 (pc' := 72) (i := 2) (vs' := [some (.ref (b + 217)), some (.int x1), some (.int y1), none, none]) rfl rfl (Nat.le_of_ble_eq_true rfl) (Nat.le_of_ble_eq_true rfl) rfl rfl ?_
  refine pj_aload_n C d_Mo_serverTakes_72 (pc' := 73) (i := 0) (x := b + 217) rfl rfl rfl ?_
  refine pj_iconst C d_Mo_serverTakes_73 (pc' := 74) rfl (v := 3) (by decide) ?_
  refine ck_Model_307_Model C  h d_Mo_serverTakes_74 (pc' := 77) rfl ⟨Nat.le_of_ble_eq_true rfl, Nat.le_of_ble_eq_true rfl⟩ (Nat.le_of_ble_eq_true rfl) (fun r3 u2 h => ?_)
  refine pj_istore_n C d_Mo_serverTakes_77 (pc' := 78) (i := 3) (vs' := [some (.ref (b + 217)), some (.int x1), some (.int y1), some (.int r3), none]) rfl rfl (Nat.le_of_ble_eq_true rfl) (Nat.le_of_ble_eq_true rfl) rfl rfl ?_
  refine pj_iconst C d_Mo_serverTakes_78 (pc' := 79) rfl (v := 4) (by decide) ?_
  refine pj_iload_n C d_Mo_serverTakes_79 (pc' := 80) (i := 1) (x := x1) rfl rfl rfl ?_
  refine pj_imul C d_Mo_serverTakes_80 (pc' := 81) rfl ?_
  refine pj_name h (fun y4 h => ?_)
  refine pj_istore C d_Mo_serverTakes_81 (pc' := 83) (i := 4) (vs' := [some (.ref (b + 217)), some (.int x1), some (.int y1), some (.int r3), some (.int y4)]) rfl (Nat.le_of_ble_eq_true rfl) (Nat.le_of_ble_eq_true rfl) rfl rfl ?_
  obtain ⟨n, h⟩ := h
  exact pj_cut (pj_le_s (pj_le_s (pj_le_s (pj_le_s (pj_le_s pj_le_e))))) (pt_Mo_serverTakes_83 C hE   n _ _ h)
def pb_Mo_serverTakes_34  (K : pj_M → Prop) (u : pj_M) (x1 : Int32) : Prop := pw_Mo_intAt u (u 217 15) fun r2 u1 => (pw_Mo_intAt u1 3 fun r4 u3 => (pw_Mo_sealWith u3 r4 fun r6 u5 => (((r2 = r6) → (pb_Mo_serverTakes_65  K u5 x1)) ∧ (¬ (r2 = r6) → (pb_Mo_serverTakes_54  K u5 )))))
set_option maxHeartbeats 1000000 in
theorem pt_Mo_serverTakes_34 {g : pj_G} {b : Nat} (C : pj_X g c_Mo_serverTakes 5 R_Mo none rm_Mo_serverTakes) {K : pj_M → Prop} (hE : pj_E g b (pj_Kv K))   {u : pj_M} {x1 : Int32}   (h : pb_Mo_serverTakes_34  K u x1) : pj_J g (pj_N g b u) 34 [some (.ref (b + 217)), some (.int x1), none, none, none] [] := by
  unfold pb_Mo_serverTakes_34 at h
  refine pj_aload_n C d_Mo_serverTakes_34 (pc' := 35) (i := 0) (x := b + 217) rfl rfl rfl ?_
  refine pj_aload_n C d_Mo_serverTakes_35 (pc' := 36) (i := 0) (x := b + 217) rfl rfl rfl ?_
  refine fg_Model_224_Model C tk_217 d_Mo_serverTakes_36 (pc' := 39) rfl ?_
  refine ck_Model_307_Model C  h d_Mo_serverTakes_39 (pc' := 42) rfl ⟨Nat.le_of_ble_eq_true rfl, Nat.le_of_ble_eq_true rfl⟩ (Nat.le_of_ble_eq_true rfl) (fun r2 u1 h => ?_)
  refine pj_aload_n C d_Mo_serverTakes_42 (pc' := 43) (i := 0) (x := b + 217) rfl rfl rfl ?_
  refine pj_aload_n C d_Mo_serverTakes_43 (pc' := 44) (i := 0) (x := b + 217) rfl rfl rfl ?_
  refine pj_iconst C d_Mo_serverTakes_44 (pc' := 45) rfl (v := 3) (by decide) ?_
  refine ck_Model_307_Model C  h d_Mo_serverTakes_45 (pc' := 48) rfl ⟨Nat.le_of_ble_eq_true rfl, Nat.le_of_ble_eq_true rfl⟩ (Nat.le_of_ble_eq_true rfl) (fun r4 u3 h => ?_)
  refine ck_Model_260_Model C  h d_Mo_serverTakes_48 (pc' := 51) rfl ⟨Nat.le_of_ble_eq_true rfl, Nat.le_of_ble_eq_true rfl⟩ (Nat.le_of_ble_eq_true rfl) (fun r6 u5 h => ?_)
  refine pj_icmp_eq C d_Mo_serverTakes_51 (pc' := 54) rfl (tgt := 65) (by decide) h (fun h => ?_) (fun h => ?_)
  · exact pj_cut (pj_le_s (pj_le_s (pj_le_n (pj_le_n (pj_le_n pj_le_e))))) (pt_Mo_serverTakes_65 C hE   h)
  · exact pj_cut (pj_le_s (pj_le_n (pj_le_n (pj_le_n (pj_le_n pj_le_e))))) (pt_Mo_serverTakes_54 C hE   h)
def pb_Mo_serverTakes_27  (K : pj_M → Prop) (u : pj_M) (x1 : Int32) : Prop := (((u 217 13) < 0) → (pb_Mo_serverTakes_54  K u )) ∧ (¬ ((u 217 13) < 0) → (pb_Mo_serverTakes_34  K u x1))
set_option maxHeartbeats 1000000 in
theorem pt_Mo_serverTakes_27 {g : pj_G} {b : Nat} (C : pj_X g c_Mo_serverTakes 5 R_Mo none rm_Mo_serverTakes) {K : pj_M → Prop} (hE : pj_E g b (pj_Kv K))   {u : pj_M} {x1 : Int32}   (h : pb_Mo_serverTakes_27  K u x1) : pj_J g (pj_N g b u) 27 [some (.ref (b + 217)), some (.int x1), none, none, none] [] := by
  unfold pb_Mo_serverTakes_27 at h
  refine pj_aload_n C d_Mo_serverTakes_27 (pc' := 28) (i := 0) (x := b + 217) rfl rfl rfl ?_
  refine fg_Model_250_Model C tk_217 d_Mo_serverTakes_28 (pc' := 31) rfl ?_
  refine pj_if_lt C d_Mo_serverTakes_31 (pc' := 34) rfl (tgt := 54) (by decide) h (fun h => ?_) (fun h => ?_)
  · exact pj_cut (pj_le_s (pj_le_n (pj_le_n (pj_le_n (pj_le_n pj_le_e))))) (pt_Mo_serverTakes_54 C hE   h)
  · exact pj_cut (pj_le_s (pj_le_s (pj_le_n (pj_le_n (pj_le_n pj_le_e))))) (pt_Mo_serverTakes_34 C hE   h)
def pb_Mo_serverTakes_17  (K : pj_M → Prop) (u : pj_M) (x1 : Int32) : Prop := vp_in 0 48 ∧ ((((u 226 (0 : Int32).toNatClampNeg) = 1) → (pb_Mo_serverTakes_27  K u x1)) ∧ (¬ ((u 226 (0 : Int32).toNatClampNeg) = 1) → (pb_Mo_serverTakes_54  K u )))
set_option maxHeartbeats 1000000 in
theorem pt_Mo_serverTakes_17 {g : pj_G} {b : Nat} (C : pj_X g c_Mo_serverTakes 5 R_Mo none rm_Mo_serverTakes) {K : pj_M → Prop} (hE : pj_E g b (pj_Kv K))   {u : pj_M} {x1 : Int32}   (h : pb_Mo_serverTakes_17  K u x1) : pj_J g (pj_N g b u) 17 [some (.ref (b + 217)), some (.int x1), none, none, none] [] := by
  unfold pb_Mo_serverTakes_17 at h
  refine pj_aload_n C d_Mo_serverTakes_17 (pc' := 18) (i := 0) (x := b + 217) rfl rfl rfl ?_
  refine fg_Model_35_Model C tk_217 d_Mo_serverTakes_18 (pc' := 21) rfl ?_
  refine pj_iconst C d_Mo_serverTakes_21 (pc' := 22) rfl (v := 0) (by decide) ?_
  refine pj_iald C (pj_lt tk_226 (by decide)) (fun E u => ka_22 tk_226) d_Mo_serverTakes_22 (pc' := 23) rfl h (fun h => ?_)
  refine pj_iconst C d_Mo_serverTakes_23 (pc' := 24) rfl (v := 1) (by decide) ?_
  refine pj_icmp_ne C d_Mo_serverTakes_24 (pc' := 27) rfl (tgt := 54) (by decide) h (fun h => ?_) (fun h => ?_)
  · exact pj_cut (pj_le_s (pj_le_n (pj_le_n (pj_le_n (pj_le_n pj_le_e))))) (pt_Mo_serverTakes_54 C hE   h)
  · exact pj_cut (pj_le_s (pj_le_s (pj_le_n (pj_le_n (pj_le_n pj_le_e))))) (pt_Mo_serverTakes_27 C hE   h)
def pb_Mo_serverTakes_10  (K : pj_M → Prop) (u : pj_M) (x1 : Int32) : Prop := pw_Mo_rightGram u  fun r2 u1 => (((r2 = 0) → (pb_Mo_serverTakes_54  K u1 )) ∧ (¬ (r2 = 0) → (pb_Mo_serverTakes_17  K u1 x1)))
set_option maxHeartbeats 1000000 in
theorem pt_Mo_serverTakes_10 {g : pj_G} {b : Nat} (C : pj_X g c_Mo_serverTakes 5 R_Mo none rm_Mo_serverTakes) {K : pj_M → Prop} (hE : pj_E g b (pj_Kv K))   {u : pj_M} {x1 : Int32}   (h : pb_Mo_serverTakes_10  K u x1) : pj_J g (pj_N g b u) 10 [some (.ref (b + 217)), some (.int x1), none, none, none] [] := by
  unfold pb_Mo_serverTakes_10 at h
  refine pj_aload_n C d_Mo_serverTakes_10 (pc' := 11) (i := 0) (x := b + 217) rfl rfl rfl ?_
  refine ck_Model_304_Model C  h d_Mo_serverTakes_11 (pc' := 14) rfl ⟨Nat.le_of_ble_eq_true rfl, Nat.le_of_ble_eq_true rfl⟩ (Nat.le_of_ble_eq_true rfl) (fun r2 u1 h => ?_)
  refine pj_if_eq C d_Mo_serverTakes_14 (pc' := 17) rfl (tgt := 54) (by decide) h (fun h => ?_) (fun h => ?_)
  · exact pj_cut (pj_le_s (pj_le_n (pj_le_n (pj_le_n (pj_le_n pj_le_e))))) (pt_Mo_serverTakes_54 C hE   h)
  · exact pj_cut (pj_le_s (pj_le_s (pj_le_n (pj_le_n (pj_le_n pj_le_e))))) (pt_Mo_serverTakes_17 C hE   h)
def pb_Mo_serverTakes_9  (K : pj_M → Prop) (u : pj_M)  : Prop := K u
set_option maxHeartbeats 1000000 in
theorem pt_Mo_serverTakes_9 {g : pj_G} {b : Nat} (C : pj_X g c_Mo_serverTakes 5 R_Mo none rm_Mo_serverTakes) {K : pj_M → Prop} (hE : pj_E g b (pj_Kv K))   {u : pj_M}    (h : pb_Mo_serverTakes_9  K u ) : pj_J g (pj_N g b u) 9 [none, none, none, none, none] [] := by
  unfold pb_Mo_serverTakes_9 at h
  exact pj_vret C hE d_Mo_serverTakes_9 ⟨rfl, h⟩
def pb_Mo_serverTakes_0  (K : pj_M → Prop) (u : pj_M) (x1 : Int32) : Prop := vp_in x1 2 ∧ ((((u 239 x1.toNatClampNeg) = 0) → (pb_Mo_serverTakes_10  K u x1)) ∧ (¬ ((u 239 x1.toNatClampNeg) = 0) → (pb_Mo_serverTakes_9  K u )))
set_option maxHeartbeats 1000000 in
theorem pt_Mo_serverTakes_0 {g : pj_G} {b : Nat} (C : pj_X g c_Mo_serverTakes 5 R_Mo none rm_Mo_serverTakes) {K : pj_M → Prop} (hE : pj_E g b (pj_Kv K))   {u : pj_M} {x1 : Int32}   (h : pb_Mo_serverTakes_0  K u x1) : pj_J g (pj_N g b u) 0 [some (.ref (b + 217)), some (.int x1), none, none, none] [] := by
  unfold pb_Mo_serverTakes_0 at h
  refine pj_aload_n C d_Mo_serverTakes_0 (pc' := 1) (i := 0) (x := b + 217) rfl rfl rfl ?_
  refine fg_Model_74_Model C tk_217 d_Mo_serverTakes_1 (pc' := 4) rfl ?_
  refine pj_iload_n C d_Mo_serverTakes_4 (pc' := 5) (i := 1) (x := x1) rfl rfl rfl ?_
  refine pj_zald C (pj_lt tk_239 (by decide)) (fun E u => ka_32 tk_239) d_Mo_serverTakes_5 (pc' := 6) rfl h (fun h => ?_)
  refine pj_if_eq C d_Mo_serverTakes_6 (pc' := 9) rfl (tgt := 10) (by decide) h (fun h => ?_) (fun h => ?_)
  · exact pj_cut (pj_le_s (pj_le_s (pj_le_n (pj_le_n (pj_le_n pj_le_e))))) (pt_Mo_serverTakes_10 C hE   h)
  · exact pj_cut (pj_le_n (pj_le_n (pj_le_n (pj_le_n (pj_le_n pj_le_e))))) (pt_Mo_serverTakes_9 C hE   h)
def pw_Mo_serverTakes (u : pj_M) (x1 : Int32) (K : pj_M → Prop) : Prop := pb_Mo_serverTakes_0  K u x1
theorem pc_Mo_serverTakes (l : Launch) (D : va_G) (E : Nat → ClassId) {b : Nat} {u : pj_M} {x1 : Int32} {K : pj_M → Prop}  (h : pw_Mo_serverTakes u x1 K) : pj_C l y_Mo_serverTakes c_Mo_serverTakes 5 none rm_Mo_serverTakes D E b [.ref (b + 217), .int x1] u (pj_Kv K) := by
  refine pj_met (own := R_Mo) (by decide +kernel) rfl (Nat.le_of_ble_eq_true rfl) (fun g hE C => ?_)
  unfold pw_Mo_serverTakes at h
  show pj_J g (pj_N g b u) 0 [some (.ref (b + 217)), some (.int x1), none, none, none] []
  exact pj_cut (pj_le_s (pj_le_s (pj_le_n (pj_le_n (pj_le_n pj_le_e))))) (pt_Mo_serverTakes_0 C hE   h)
/-! Model.sendPacket(I)V -/
theorem fg_Model_155_Model {g : pj_G} {b : Nat} {cc : ByteArray} {nL : Nat} {ret : Option FieldType} {rm : Room} {u : pj_M} {pc pc' : Nat} {vs : List (Option Value)} {st : List Value} (C : pj_X g cc nL R_Mo ret rm) {i : Nat} (t : pj_T i = 11) (hdg : decode cc pc = .ok (.getfield 155, 3)) (hp : pc + 3 = pc') (kk : pj_J g (pj_N g b u) pc' vs (.ref (b + 266) :: st)) : pj_J g (pj_N g b u) pc vs (.ref (b + i) :: st) :=
  pj_get C cl_Model hin_Model (k := 57) (Nat.le_of_ble_eq_true rfl) wm_1181 (Or.inl rfl) (pj_lt t (by decide)) (fun E => ko_11 t) rfl hdg hp kk
def rm_Mo_sendPacket : Room := { frames := 2, cells := 0, slots := 0, locals := 46 }
def pb_Mo_sendPacket_0  (K : pj_M → Prop) (u : pj_M) (x1 : Int32) : Prop := vp_in 1 48 ∧ (vp_in x1 4 ∧ pj_put u 266 x1.toNatClampNeg (((u 227 (1 : Int32).toNatClampNeg) + 1) &&& 255) fun u1 => (pw_Mo_sendFrame u1 1 x1 fun u2 => (K u2)))
set_option maxHeartbeats 1000000 in
theorem pt_Mo_sendPacket_0 {g : pj_G} {b : Nat} (C : pj_X g c_Mo_sendPacket 2 R_Mo none rm_Mo_sendPacket) {K : pj_M → Prop} (hE : pj_E g b (pj_Kv K))   {u : pj_M} {x1 : Int32}   (h : pb_Mo_sendPacket_0  K u x1) : pj_J g (pj_N g b u) 0 [some (.ref (b + 217)), some (.int x1)] [] := by
  unfold pb_Mo_sendPacket_0 at h
  refine pj_aload_n C d_Mo_sendPacket_0 (pc' := 1) (i := 0) (x := b + 217) rfl rfl rfl ?_
  refine fg_Model_155_Model C tk_217 d_Mo_sendPacket_1 (pc' := 4) rfl ?_
  refine pj_iload_n C d_Mo_sendPacket_4 (pc' := 5) (i := 1) (x := x1) rfl rfl rfl ?_
  refine pj_aload_n C d_Mo_sendPacket_5 (pc' := 6) (i := 0) (x := b + 217) rfl rfl rfl ?_
  refine fg_Model_38_Model C tk_217 d_Mo_sendPacket_6 (pc' := 9) rfl ?_
  refine pj_iconst C d_Mo_sendPacket_9 (pc' := 10) rfl (v := 1) (by decide) ?_
  refine pj_iald C (pj_lt tk_227 (by decide)) (fun E u => ka_22 tk_227) d_Mo_sendPacket_10 (pc' := 11) rfl h (fun h => ?_)
  refine pj_iconst C d_Mo_sendPacket_11 (pc' := 12) rfl (v := 1) (by decide) ?_
  refine pj_iadd C d_Mo_sendPacket_12 (pc' := 13) rfl ?_
  refine pj_sipush C d_Mo_sendPacket_13 (pc' := 16) rfl (v := 255) (by decide) ?_
  refine pj_iand C d_Mo_sendPacket_16 (pc' := 17) rfl ?_
  refine pj_iast C (pj_lt tk_266 (by decide)) (fun E u => ka_23 tk_266) d_Mo_sendPacket_17 (pc' := 18) rfl h (fun u1 h => ?_)
  refine pj_aload_n C d_Mo_sendPacket_18 (pc' := 19) (i := 0) (x := b + 217) rfl rfl rfl ?_
  refine pj_iconst C d_Mo_sendPacket_19 (pc' := 20) rfl (v := 1) (by decide) ?_
  refine pj_iload_n C d_Mo_sendPacket_20 (pc' := 21) (i := 1) (x := x1) rfl rfl rfl ?_
  refine ck_Model_276_Model C  h d_Mo_sendPacket_21 (pc' := 24) rfl ⟨Nat.le_of_ble_eq_true rfl, Nat.le_of_ble_eq_true rfl⟩ (Nat.le_of_ble_eq_true rfl) (fun u2 h => ?_)
  exact pj_vret C hE d_Mo_sendPacket_24 ⟨rfl, h⟩
def pw_Mo_sendPacket (u : pj_M) (x1 : Int32) (K : pj_M → Prop) : Prop := pb_Mo_sendPacket_0  K u x1
theorem pc_Mo_sendPacket (l : Launch) (D : va_G) (E : Nat → ClassId) {b : Nat} {u : pj_M} {x1 : Int32} {K : pj_M → Prop}  (h : pw_Mo_sendPacket u x1 K) : pj_C l y_Mo_sendPacket c_Mo_sendPacket 2 none rm_Mo_sendPacket D E b [.ref (b + 217), .int x1] u (pj_Kv K) := by
  refine pj_met (own := R_Mo) (by decide +kernel) rfl (Nat.le_of_ble_eq_true rfl) (fun g hE C => ?_)
  unfold pw_Mo_sendPacket at h
  show pj_J g (pj_N g b u) 0 [some (.ref (b + 217)), some (.int x1)] []
  exact pj_cut (pj_le_s (pj_le_s pj_le_e)) (pt_Mo_sendPacket_0 C hE   h)
/-! Model.sendLast(I)V -/
theorem fg_Model_143_Model {g : pj_G} {b : Nat} {cc : ByteArray} {nL : Nat} {ret : Option FieldType} {rm : Room} {u : pj_M} {pc pc' : Nat} {vs : List (Option Value)} {st : List Value} (C : pj_X g cc nL R_Mo ret rm) {i : Nat} (t : pj_T i = 11) (hdg : decode cc pc = .ok (.getfield 143, 3)) (hp : pc + 3 = pc') (kk : pj_J g (pj_N g b u) pc' vs (.ref (b + 262) :: st)) : pj_J g (pj_N g b u) pc vs (.ref (b + i) :: st) :=
  pj_get C cl_Model hin_Model (k := 53) (Nat.le_of_ble_eq_true rfl) wm_1177 (Or.inl rfl) (pj_lt t (by decide)) (fun E => ko_11 t) rfl hdg hp kk
theorem fg_Model_146_Model {g : pj_G} {b : Nat} {cc : ByteArray} {nL : Nat} {ret : Option FieldType} {rm : Room} {u : pj_M} {pc pc' : Nat} {vs : List (Option Value)} {st : List Value} (C : pj_X g cc nL R_Mo ret rm) {i : Nat} (t : pj_T i = 11) (hdg : decode cc pc = .ok (.getfield 146, 3)) (hp : pc + 3 = pc') (kk : pj_J g (pj_N g b u) pc' vs (.ref (b + 263) :: st)) : pj_J g (pj_N g b u) pc vs (.ref (b + i) :: st) :=
  pj_get C cl_Model hin_Model (k := 54) (Nat.le_of_ble_eq_true rfl) wm_1178 (Or.inl rfl) (pj_lt t (by decide)) (fun E => ko_11 t) rfl hdg hp kk
theorem fg_Model_149_Model {g : pj_G} {b : Nat} {cc : ByteArray} {nL : Nat} {ret : Option FieldType} {rm : Room} {u : pj_M} {pc pc' : Nat} {vs : List (Option Value)} {st : List Value} (C : pj_X g cc nL R_Mo ret rm) {i : Nat} (t : pj_T i = 11) (hdg : decode cc pc = .ok (.getfield 149, 3)) (hp : pc + 3 = pc') (kk : pj_J g (pj_N g b u) pc' vs (.ref (b + 264) :: st)) : pj_J g (pj_N g b u) pc vs (.ref (b + i) :: st) :=
  pj_get C cl_Model hin_Model (k := 55) (Nat.le_of_ble_eq_true rfl) wm_1179 (Or.inl rfl) (pj_lt t (by decide)) (fun E => ko_11 t) rfl hdg hp kk
theorem fg_Model_152_Model {g : pj_G} {b : Nat} {cc : ByteArray} {nL : Nat} {ret : Option FieldType} {rm : Room} {u : pj_M} {pc pc' : Nat} {vs : List (Option Value)} {st : List Value} (C : pj_X g cc nL R_Mo ret rm) {i : Nat} (t : pj_T i = 11) (hdg : decode cc pc = .ok (.getfield 152, 3)) (hp : pc + 3 = pc') (kk : pj_J g (pj_N g b u) pc' vs (.ref (b + 265) :: st)) : pj_J g (pj_N g b u) pc vs (.ref (b + i) :: st) :=
  pj_get C cl_Model hin_Model (k := 56) (Nat.le_of_ble_eq_true rfl) wm_1180 (Or.inl rfl) (pj_lt t (by decide)) (fun E => ko_11 t) rfl hdg hp kk
theorem fg_Model_140_Model {g : pj_G} {b : Nat} {cc : ByteArray} {nL : Nat} {ret : Option FieldType} {rm : Room} {u : pj_M} {pc pc' : Nat} {vs : List (Option Value)} {st : List Value} (C : pj_X g cc nL R_Mo ret rm) {i : Nat} (t : pj_T i = 11) (hdg : decode cc pc = .ok (.getfield 140, 3)) (hp : pc + 3 = pc') (kk : pj_J g (pj_N g b u) pc' vs (.ref (b + 261) :: st)) : pj_J g (pj_N g b u) pc vs (.ref (b + i) :: st) :=
  pj_get C cl_Model hin_Model (k := 52) (Nat.le_of_ble_eq_true rfl) wm_1176 (Or.inl rfl) (pj_lt t (by decide)) (fun E => ko_11 t) rfl hdg hp kk
theorem ck_Model_345_Model {g : pj_G} {b : Nat} {cc : ByteArray} {nL : Nat} {ret : Option FieldType} {rm : Room} {u : pj_M} {pc pc' : Nat} {vs : List (Option Value)} {st : List Value} (C : pj_X g cc nL R_Mo ret rm) {x1 : Int32} {K : pj_M → Prop}  (h : pw_Mo_sendPacket u x1 K) (hdg : decode cc pc = .ok (.invokevirtual 345, 3)) (hp : pc + 3 = pc') (hR : rm_Mo_sendPacket.frames + 1 ≤ rm.frames ∧ 8 + (2 + 11) + rm_Mo_sendPacket.locals ≤ rm.locals) (h8 : (st.map fun v => v.category).sum ≤ 8) (kk : ∀ u', K u' → pj_J g (pj_N g b u') pc' vs st) : pj_J g (pj_N g b u) pc vs (.int x1 :: .ref (b + 217) :: st) :=
  pj_callV C (As := [.int x1]) (fun l D E => pc_Mo_sendPacket l D E  h) rfl rfl cl_Model (pj_lt tk_217 (by decide)) (fun E => ko_11 tk_217) wm_1386 wm_1388 wm_44 wm_103 wm_1389 (by decide +kernel) (n := 1) rfl hR rfl h8 hdg hp (fun v u' hq => by obtain ⟨rfl, hk⟩ := hq; exact kk u' hk)
def rm_Mo_sendLast : Room := { frames := 3, cells := 0, slots := 0, locals := 67 }
def pb_Mo_sendLast_43  (K : pj_M → Prop) (u : pj_M) (x1 : Int32) : Prop := vp_in x1 4 ∧ pj_put u 264 x1.toNatClampNeg (vp_nar .boolean 1) fun u1 => (vp_in x1 4 ∧ pj_put u1 265 x1.toNatClampNeg 0 fun u2 => (vp_in x1 4 ∧ pj_put u2 261 x1.toNatClampNeg 0 fun u3 => (pw_Mo_sendPacket u3 x1 fun u4 => (K u4))))
set_option maxHeartbeats 1000000 in
theorem pt_Mo_sendLast_43 {g : pj_G} {b : Nat} (C : pj_X g c_Mo_sendLast 3 R_Mo none rm_Mo_sendLast) {K : pj_M → Prop} (hE : pj_E g b (pj_Kv K))   {u : pj_M} {x1 : Int32}   (h : pb_Mo_sendLast_43  K u x1) : pj_J g (pj_N g b u) 43 [some (.ref (b + 217)), some (.int x1), none] [] := by
  unfold pb_Mo_sendLast_43 at h
  refine pj_aload_n C d_Mo_sendLast_43 (pc' := 44) (i := 0) (x := b + 217) rfl rfl rfl ?_
  refine fg_Model_149_Model C tk_217 d_Mo_sendLast_44 (pc' := 47) rfl ?_
  refine pj_iload_n C d_Mo_sendLast_47 (pc' := 48) (i := 1) (x := x1) rfl rfl rfl ?_
  refine pj_iconst C d_Mo_sendLast_48 (pc' := 49) rfl (v := 1) (by decide) ?_
  refine pj_zast C (pj_lt tk_264 (by decide)) (fun E u => ka_31 tk_264) d_Mo_sendLast_49 (pc' := 50) rfl h (fun u1 h => ?_)
  refine pj_aload_n C d_Mo_sendLast_50 (pc' := 51) (i := 0) (x := b + 217) rfl rfl rfl ?_
  refine fg_Model_152_Model C tk_217 d_Mo_sendLast_51 (pc' := 54) rfl ?_
  refine pj_iload_n C d_Mo_sendLast_54 (pc' := 55) (i := 1) (x := x1) rfl rfl rfl ?_
  refine pj_iconst C d_Mo_sendLast_55 (pc' := 56) rfl (v := 0) (by decide) ?_
  refine pj_iast C (pj_lt tk_265 (by decide)) (fun E u => ka_23 tk_265) d_Mo_sendLast_56 (pc' := 57) rfl h (fun u2 h => ?_)
  refine pj_aload_n C d_Mo_sendLast_57 (pc' := 58) (i := 0) (x := b + 217) rfl rfl rfl ?_
  refine fg_Model_140_Model C tk_217 d_Mo_sendLast_58 (pc' := 61) rfl ?_
  refine pj_iload_n C d_Mo_sendLast_61 (pc' := 62) (i := 1) (x := x1) rfl rfl rfl ?_
  refine pj_iconst C d_Mo_sendLast_62 (pc' := 63) rfl (v := 0) (by decide) ?_
  refine pj_iast C (pj_lt tk_261 (by decide)) (fun E u => ka_23 tk_261) d_Mo_sendLast_63 (pc' := 64) rfl h (fun u3 h => ?_)
  refine pj_aload_n C d_Mo_sendLast_64 (pc' := 65) (i := 0) (x := b + 217) rfl rfl rfl ?_
  refine pj_iload_n C d_Mo_sendLast_65 (pc' := 66) (i := 1) (x := x1) rfl rfl rfl ?_
  refine ck_Model_345_Model C  h d_Mo_sendLast_66 (pc' := 69) rfl ⟨Nat.le_of_ble_eq_true rfl, Nat.le_of_ble_eq_true rfl⟩ (Nat.le_of_ble_eq_true rfl) (fun u4 h => ?_)
  exact pj_vret C hE d_Mo_sendLast_69 ⟨rfl, h⟩
def pb_Mo_sendLast_20 (R12 : pj_M → Int32 → Prop) (K : pj_M → Prop) (u : pj_M) (x1 : Int32) (x2 : Int32) : Prop := vp_in x2 48 ∧ (vp_in ((20 * x1) + x2) 80 ∧ pj_put u 263 ((20 * x1) + x2).toNatClampNeg (u 227 x2.toNatClampNeg) fun u1 => (R12 u1 (x2 + 1)))
set_option maxHeartbeats 1000000 in
theorem pt_Mo_sendLast_20 {g : pj_G} {b : Nat} (C : pj_X g c_Mo_sendLast 3 R_Mo none rm_Mo_sendLast) {K : pj_M → Prop} (hE : pj_E g b (pj_Kv K)) {R12 : pj_M → Int32 → Prop}  {u : pj_M} {x1 : Int32} {x2 : Int32} (hR12 : ∀ (u : pj_M) (x2 : Int32), R12 u x2 → pj_J g (pj_N g b u) 12 [some (.ref (b + 217)), some (.int x1), some (.int x2)] [])  (h : pb_Mo_sendLast_20 R12 K u x1 x2) : pj_J g (pj_N g b u) 20 [some (.ref (b + 217)), some (.int x1), some (.int x2)] [] := by
  unfold pb_Mo_sendLast_20 at h
  refine pj_aload_n C d_Mo_sendLast_20 (pc' := 21) (i := 0) (x := b + 217) rfl rfl rfl ?_
  refine fg_Model_146_Model C tk_217 d_Mo_sendLast_21 (pc' := 24) rfl ?_
  refine pj_bipush C d_Mo_sendLast_24 (pc' := 26) rfl (v := 20) (by decide) ?_
  refine pj_iload_n C d_Mo_sendLast_26 (pc' := 27) (i := 1) (x := x1) rfl rfl rfl ?_
  refine pj_imul C d_Mo_sendLast_27 (pc' := 28) rfl ?_
  refine pj_iload_n C d_Mo_sendLast_28 (pc' := 29) (i := 2) (x := x2) rfl rfl rfl ?_
  refine pj_iadd C d_Mo_sendLast_29 (pc' := 30) rfl ?_
  refine pj_aload_n C d_Mo_sendLast_30 (pc' := 31) (i := 0) (x := b + 217) rfl rfl rfl ?_
  refine fg_Model_38_Model C tk_217 d_Mo_sendLast_31 (pc' := 34) rfl ?_
  refine pj_iload_n C d_Mo_sendLast_34 (pc' := 35) (i := 2) (x := x2) rfl rfl rfl ?_
  refine pj_iald C (pj_lt tk_227 (by decide)) (fun E u => ka_22 tk_227) d_Mo_sendLast_35 (pc' := 36) rfl h (fun h => ?_)
  refine pj_iast C (pj_lt tk_263 (by decide)) (fun E u => ka_35 tk_263) d_Mo_sendLast_36 (pc' := 37) rfl h (fun u1 h => ?_)
  refine pj_iinc C d_Mo_sendLast_37 (pc' := 40) (x := x2) (d := 1) (vs' := [some (.ref (b + 217)), some (.int x1), some (.int (x2 + 1))]) rfl rfl (Nat.le_of_ble_eq_true rfl) rfl (by decide) rfl ?_
  refine pj_goto C d_Mo_sendLast_40 (tgt := 12) (by decide) ?_
  exact pj_cut (pj_le_s (pj_le_s (pj_le_s pj_le_e))) (hR12 _ _ h)
def pb_Mo_sendLast_12b (R12 : pj_M → Int32 → Prop) (K : pj_M → Prop) (u : pj_M) (x1 : Int32) (x2 : Int32) : Prop := (((u 217 16) ≤ x2) → (pb_Mo_sendLast_43  K u x1)) ∧ (¬ ((u 217 16) ≤ x2) → (pb_Mo_sendLast_20 R12 K u x1 x2))
set_option maxHeartbeats 1000000 in
theorem pt_Mo_sendLast_12b {g : pj_G} {b : Nat} (C : pj_X g c_Mo_sendLast 3 R_Mo none rm_Mo_sendLast) {K : pj_M → Prop} (hE : pj_E g b (pj_Kv K)) {R12 : pj_M → Int32 → Prop}  {u : pj_M} {x1 : Int32} {x2 : Int32} (hR12 : ∀ (u : pj_M) (x2 : Int32), R12 u x2 → pj_J g (pj_N g b u) 12 [some (.ref (b + 217)), some (.int x1), some (.int x2)] [])  (h : pb_Mo_sendLast_12b R12 K u x1 x2) : pj_J g (pj_N g b u) 12 [some (.ref (b + 217)), some (.int x1), some (.int x2)] [] := by
  unfold pb_Mo_sendLast_12b at h
  refine pj_iload_n C d_Mo_sendLast_12 (pc' := 13) (i := 2) (x := x2) rfl rfl rfl ?_
  refine pj_aload_n C d_Mo_sendLast_13 (pc' := 14) (i := 0) (x := b + 217) rfl rfl rfl ?_
  refine fg_Model_233_Model C tk_217 d_Mo_sendLast_14 (pc' := 17) rfl ?_
  refine pj_icmp_ge C d_Mo_sendLast_17 (pc' := 20) rfl (tgt := 43) (by decide) h (fun h => ?_) (fun h => ?_)
  · exact pj_cut (pj_le_s (pj_le_s (pj_le_n pj_le_e))) (pt_Mo_sendLast_43 C hE   h)
  · exact pj_cut (pj_le_s (pj_le_s (pj_le_s pj_le_e))) (pt_Mo_sendLast_20 C hE hR12  h)
def pb_Mo_sendLast_12  (K : pj_M → Prop) (x1 : Int32) : Nat → pj_M → Int32 → Prop
  | 0 => fun _ _ => False
  | n + 1 => fun u x2 => pb_Mo_sendLast_12b (pb_Mo_sendLast_12  K x1 n) K u x1 x2
theorem pt_Mo_sendLast_12 {g : pj_G} {b : Nat} (C : pj_X g c_Mo_sendLast 3 R_Mo none rm_Mo_sendLast) {K : pj_M → Prop} (hE : pj_E g b (pj_Kv K))  {x1 : Int32}   : ∀ (n : Nat) (u : pj_M) (x2 : Int32), pb_Mo_sendLast_12  K x1 n u x2 → pj_J g (pj_N g b u) 12 [some (.ref (b + 217)), some (.int x1), some (.int x2)] [] := by
  intro n
  induction n with
  | zero => intro u x2 h; exact False.elim h
  | succ n ih =>
    intro u x2 h
    exact (pt_Mo_sendLast_12b C hE ih  h)
def pb_Mo_sendLast_0  (K : pj_M → Prop) (u : pj_M) (x1 : Int32) : Prop := vp_in x1 4 ∧ pj_put u 262 x1.toNatClampNeg (u 217 16) fun u1 => (∃ n, pb_Mo_sendLast_12  K x1 n u1 0)
set_option maxHeartbeats 1000000 in
theorem pt_Mo_sendLast_0 {g : pj_G} {b : Nat} (C : pj_X g c_Mo_sendLast 3 R_Mo none rm_Mo_sendLast) {K : pj_M → Prop} (hE : pj_E g b (pj_Kv K))   {u : pj_M} {x1 : Int32}   (h : pb_Mo_sendLast_0  K u x1) : pj_J g (pj_N g b u) 0 [some (.ref (b + 217)), some (.int x1), none] [] := by
  unfold pb_Mo_sendLast_0 at h
  refine pj_aload_n C d_Mo_sendLast_0 (pc' := 1) (i := 0) (x := b + 217) rfl rfl rfl ?_
  refine fg_Model_143_Model C tk_217 d_Mo_sendLast_1 (pc' := 4) rfl ?_
  refine pj_iload_n C d_Mo_sendLast_4 (pc' := 5) (i := 1) (x := x1) rfl rfl rfl ?_
  refine pj_aload_n C d_Mo_sendLast_5 (pc' := 6) (i := 0) (x := b + 217) rfl rfl rfl ?_
  refine fg_Model_233_Model C tk_217 d_Mo_sendLast_6 (pc' := 9) rfl ?_
  refine pj_iast C (pj_lt tk_262 (by decide)) (fun E u => ka_23 tk_262) d_Mo_sendLast_9 (pc' := 10) rfl h (fun u1 h => ?_)
  refine pj_iconst C d_Mo_sendLast_10 (pc' := 11) rfl (v := 0) (by decide) ?_
  refine pj_istore_n C d_Mo_sendLast_11 (pc' := 12) (i := 2) (vs' := [some (.ref (b + 217)), some (.int x1), some (.int 0)]) rfl rfl (Nat.le_of_ble_eq_true rfl) (Nat.le_of_ble_eq_true rfl) rfl rfl ?_
  obtain ⟨n, h⟩ := h
  exact pj_cut (pj_le_s (pj_le_s (pj_le_s pj_le_e))) (pt_Mo_sendLast_12 C hE   n _ _ h)
def pw_Mo_sendLast (u : pj_M) (x1 : Int32) (K : pj_M → Prop) : Prop := pb_Mo_sendLast_0  K u x1
theorem pc_Mo_sendLast (l : Launch) (D : va_G) (E : Nat → ClassId) {b : Nat} {u : pj_M} {x1 : Int32} {K : pj_M → Prop}  (h : pw_Mo_sendLast u x1 K) : pj_C l y_Mo_sendLast c_Mo_sendLast 3 none rm_Mo_sendLast D E b [.ref (b + 217), .int x1] u (pj_Kv K) := by
  refine pj_met (own := R_Mo) (by decide +kernel) rfl (Nat.le_of_ble_eq_true rfl) (fun g hE C => ?_)
  unfold pw_Mo_sendLast at h
  show pj_J g (pj_N g b u) 0 [some (.ref (b + 217)), some (.int x1), none] []
  exact pj_cut (pj_le_s (pj_le_s (pj_le_n pj_le_e))) (pt_Mo_sendLast_0 C hE   h)
/-! Model.beginPort(I)V -/
theorem fg_Model_134_Model {g : pj_G} {b : Nat} {cc : ByteArray} {nL : Nat} {ret : Option FieldType} {rm : Room} {u : pj_M} {pc pc' : Nat} {vs : List (Option Value)} {st : List Value} (C : pj_X g cc nL R_Mo ret rm) {i : Nat} (t : pj_T i = 11) (hdg : decode cc pc = .ok (.getfield 134, 3)) (hp : pc + 3 = pc') (kk : pj_J g (pj_N g b u) pc' vs (.ref (b + 259) :: st)) : pj_J g (pj_N g b u) pc vs (.ref (b + i) :: st) :=
  pj_get C cl_Model hin_Model (k := 50) (Nat.le_of_ble_eq_true rfl) wm_1174 (Or.inl rfl) (pj_lt t (by decide)) (fun E => ko_11 t) rfl hdg hp kk
theorem fg_Model_170_Model {g : pj_G} {b : Nat} {cc : ByteArray} {nL : Nat} {ret : Option FieldType} {rm : Room} {u : pj_M} {pc pc' : Nat} {vs : List (Option Value)} {st : List Value} (C : pj_X g cc nL R_Mo ret rm) {i : Nat} (t : pj_T i = 11) (hdg : decode cc pc = .ok (.getfield 170, 3)) (hp : pc + 3 = pc') (kk : pj_J g (pj_N g b u) pc' vs (.ref (b + 271) :: st)) : pj_J g (pj_N g b u) pc vs (.ref (b + i) :: st) :=
  pj_get C cl_Model hin_Model (k := 62) (Nat.le_of_ble_eq_true rfl) wm_1186 (Or.inl rfl) (pj_lt t (by decide)) (fun E => ko_11 t) rfl hdg hp kk
theorem fg_Model_161_Model {g : pj_G} {b : Nat} {cc : ByteArray} {nL : Nat} {ret : Option FieldType} {rm : Room} {u : pj_M} {pc pc' : Nat} {vs : List (Option Value)} {st : List Value} (C : pj_X g cc nL R_Mo ret rm) {i : Nat} (t : pj_T i = 11) (hdg : decode cc pc = .ok (.getfield 161, 3)) (hp : pc + 3 = pc') (kk : pj_J g (pj_N g b u) pc' vs (.ref (b + 268) :: st)) : pj_J g (pj_N g b u) pc vs (.ref (b + i) :: st) :=
  pj_get C cl_Model hin_Model (k := 59) (Nat.le_of_ble_eq_true rfl) wm_1183 (Or.inl rfl) (pj_lt t (by decide)) (fun E => ko_11 t) rfl hdg hp kk
theorem ck_Model_348_Model {g : pj_G} {b : Nat} {cc : ByteArray} {nL : Nat} {ret : Option FieldType} {rm : Room} {u : pj_M} {pc pc' : Nat} {vs : List (Option Value)} {st : List Value} (C : pj_X g cc nL R_Mo ret rm) {x1 : Int32} {K : pj_M → Prop}  (h : pw_Mo_sendLast u x1 K) (hdg : decode cc pc = .ok (.invokevirtual 348, 3)) (hp : pc + 3 = pc') (hR : rm_Mo_sendLast.frames + 1 ≤ rm.frames ∧ 8 + (3 + 11) + rm_Mo_sendLast.locals ≤ rm.locals) (h8 : (st.map fun v => v.category).sum ≤ 8) (kk : ∀ u', K u' → pj_J g (pj_N g b u') pc' vs st) : pj_J g (pj_N g b u) pc vs (.int x1 :: .ref (b + 217) :: st) :=
  pj_callV C (As := [.int x1]) (fun l D E => pc_Mo_sendLast l D E  h) rfl rfl cl_Model (pj_lt tk_217 (by decide)) (fun E => ko_11 tk_217) wm_1382 wm_1384 wm_43 wm_103 wm_1385 (by decide +kernel) (n := 1) rfl hR rfl h8 hdg hp (fun v u' hq => by obtain ⟨rfl, hk⟩ := hq; exact kk u' hk)
def rm_Mo_beginPort : Room := { frames := 4, cells := 0, slots := 0, locals := 89 }
def pb_Mo_beginPort_0  (K : pj_M → Prop) (u : pj_M) (x1 : Int32) : Prop := vp_in x1 4 ∧ pj_put u 259 x1.toNatClampNeg 1 fun u1 => (vp_in x1 4 ∧ pj_put u1 271 x1.toNatClampNeg ((-1)) fun u2 => (vp_in x1 4 ∧ pj_put u2 268 x1.toNatClampNeg ((-1)) fun u3 => (vp_in x1 4 ∧ (pw_Mo_packet u3 1 (u3 266 x1.toNatClampNeg) 1 fun u4 => (pw_Mo_sendLast u4 x1 fun u5 => (K u5))))))
set_option maxHeartbeats 1000000 in
theorem pt_Mo_beginPort_0 {g : pj_G} {b : Nat} (C : pj_X g c_Mo_beginPort 2 R_Mo none rm_Mo_beginPort) {K : pj_M → Prop} (hE : pj_E g b (pj_Kv K))   {u : pj_M} {x1 : Int32}   (h : pb_Mo_beginPort_0  K u x1) : pj_J g (pj_N g b u) 0 [some (.ref (b + 217)), some (.int x1)] [] := by
  unfold pb_Mo_beginPort_0 at h
  refine pj_aload_n C d_Mo_beginPort_0 (pc' := 1) (i := 0) (x := b + 217) rfl rfl rfl ?_
  refine fg_Model_134_Model C tk_217 d_Mo_beginPort_1 (pc' := 4) rfl ?_
  refine pj_iload_n C d_Mo_beginPort_4 (pc' := 5) (i := 1) (x := x1) rfl rfl rfl ?_
  refine pj_iconst C d_Mo_beginPort_5 (pc' := 6) rfl (v := 1) (by decide) ?_
  refine pj_iast C (pj_lt tk_259 (by decide)) (fun E u => ka_23 tk_259) d_Mo_beginPort_6 (pc' := 7) rfl h (fun u1 h => ?_)
  refine pj_aload_n C d_Mo_beginPort_7 (pc' := 8) (i := 0) (x := b + 217) rfl rfl rfl ?_
  refine fg_Model_170_Model C tk_217 d_Mo_beginPort_8 (pc' := 11) rfl ?_
  refine pj_iload_n C d_Mo_beginPort_11 (pc' := 12) (i := 1) (x := x1) rfl rfl rfl ?_
  refine pj_iconst C d_Mo_beginPort_12 (pc' := 13) rfl (v := (-1)) (by decide) ?_
  refine pj_iast C (pj_lt tk_271 (by decide)) (fun E u => ka_23 tk_271) d_Mo_beginPort_13 (pc' := 14) rfl h (fun u2 h => ?_)
  refine pj_aload_n C d_Mo_beginPort_14 (pc' := 15) (i := 0) (x := b + 217) rfl rfl rfl ?_
  refine fg_Model_161_Model C tk_217 d_Mo_beginPort_15 (pc' := 18) rfl ?_
  refine pj_iload_n C d_Mo_beginPort_18 (pc' := 19) (i := 1) (x := x1) rfl rfl rfl ?_
  refine pj_iconst C d_Mo_beginPort_19 (pc' := 20) rfl (v := (-1)) (by decide) ?_
  refine pj_iast C (pj_lt tk_268 (by decide)) (fun E u => ka_23 tk_268) d_Mo_beginPort_20 (pc' := 21) rfl h (fun u3 h => ?_)
  refine pj_aload_n C d_Mo_beginPort_21 (pc' := 22) (i := 0) (x := b + 217) rfl rfl rfl ?_
  refine pj_iconst C d_Mo_beginPort_22 (pc' := 23) rfl (v := 1) (by decide) ?_
  refine pj_aload_n C d_Mo_beginPort_23 (pc' := 24) (i := 0) (x := b + 217) rfl rfl rfl ?_
  refine fg_Model_155_Model C tk_217 d_Mo_beginPort_24 (pc' := 27) rfl ?_
  refine pj_iload_n C d_Mo_beginPort_27 (pc' := 28) (i := 1) (x := x1) rfl rfl rfl ?_
  refine pj_iald C (pj_lt tk_266 (by decide)) (fun E u => ka_23 tk_266) d_Mo_beginPort_28 (pc' := 29) rfl h (fun h => ?_)
  refine pj_iconst C d_Mo_beginPort_29 (pc' := 30) rfl (v := 1) (by decide) ?_
  refine ck_Model_279_Model C  h d_Mo_beginPort_30 (pc' := 33) rfl ⟨Nat.le_of_ble_eq_true rfl, Nat.le_of_ble_eq_true rfl⟩ (Nat.le_of_ble_eq_true rfl) (fun u4 h => ?_)
  refine pj_aload_n C d_Mo_beginPort_33 (pc' := 34) (i := 0) (x := b + 217) rfl rfl rfl ?_
  refine pj_iload_n C d_Mo_beginPort_34 (pc' := 35) (i := 1) (x := x1) rfl rfl rfl ?_
  refine ck_Model_348_Model C  h d_Mo_beginPort_35 (pc' := 38) rfl ⟨Nat.le_of_ble_eq_true rfl, Nat.le_of_ble_eq_true rfl⟩ (Nat.le_of_ble_eq_true rfl) (fun u5 h => ?_)
  exact pj_vret C hE d_Mo_beginPort_38 ⟨rfl, h⟩
def pw_Mo_beginPort (u : pj_M) (x1 : Int32) (K : pj_M → Prop) : Prop := pb_Mo_beginPort_0  K u x1
theorem pc_Mo_beginPort (l : Launch) (D : va_G) (E : Nat → ClassId) {b : Nat} {u : pj_M} {x1 : Int32} {K : pj_M → Prop}  (h : pw_Mo_beginPort u x1 K) : pj_C l y_Mo_beginPort c_Mo_beginPort 2 none rm_Mo_beginPort D E b [.ref (b + 217), .int x1] u (pj_Kv K) := by
  refine pj_met (own := R_Mo) (by decide +kernel) rfl (Nat.le_of_ble_eq_true rfl) (fun g hE C => ?_)
  unfold pw_Mo_beginPort at h
  show pj_J g (pj_N g b u) 0 [some (.ref (b + 217)), some (.int x1)] []
  exact pj_cut (pj_le_s (pj_le_s pj_le_e)) (pt_Mo_beginPort_0 C hE   h)
/-! Model.close(I)V -/
theorem fg_Model_137_Model {g : pj_G} {b : Nat} {cc : ByteArray} {nL : Nat} {ret : Option FieldType} {rm : Room} {u : pj_M} {pc pc' : Nat} {vs : List (Option Value)} {st : List Value} (C : pj_X g cc nL R_Mo ret rm) {i : Nat} (t : pj_T i = 11) (hdg : decode cc pc = .ok (.getfield 137, 3)) (hp : pc + 3 = pc') (kk : pj_J g (pj_N g b u) pc' vs (.ref (b + 260) :: st)) : pj_J g (pj_N g b u) pc vs (.ref (b + i) :: st) :=
  pj_get C cl_Model hin_Model (k := 51) (Nat.le_of_ble_eq_true rfl) wm_1175 (Or.inl rfl) (pj_lt t (by decide)) (fun E => ko_11 t) rfl hdg hp kk
theorem fg_Model_191_Model {g : pj_G} {b : Nat} {cc : ByteArray} {nL : Nat} {ret : Option FieldType} {rm : Room} {u : pj_M} {pc pc' : Nat} {vs : List (Option Value)} {st : List Value} (C : pj_X g cc nL R_Mo ret rm) {i : Nat} (t : pj_T i = 11) (hdg : decode cc pc = .ok (.getfield 191, 3)) (hp : pc + 3 = pc') (kk : pj_J g (pj_N g b u) pc' vs (.ref (b + 278) :: st)) : pj_J g (pj_N g b u) pc vs (.ref (b + i) :: st) :=
  pj_get C cl_Model hin_Model (k := 71) (Nat.le_of_ble_eq_true rfl) wm_1195 (Or.inl rfl) (pj_lt t (by decide)) (fun E => ko_11 t) rfl hdg hp kk
def rm_Mo_close : Room := { frames := 0, cells := 0, slots := 0, locals := 0 }
def pb_Mo_close_47  (K : pj_M → Prop) (u : pj_M)  : Prop := K u
set_option maxHeartbeats 1000000 in
theorem pt_Mo_close_47 {g : pj_G} {b : Nat} (C : pj_X g c_Mo_close 3 R_Mo none rm_Mo_close) {K : pj_M → Prop} (hE : pj_E g b (pj_Kv K))   {u : pj_M}    (h : pb_Mo_close_47  K u ) : pj_J g (pj_N g b u) 47 [none, none, none] [] := by
  unfold pb_Mo_close_47 at h
  exact pj_vret C hE d_Mo_close_47 ⟨rfl, h⟩
def pb_Mo_close_40 (R9 : pj_M → Int32 → Prop) (K : pj_M → Prop) (u : pj_M) (x1 : Int32) (x2 : Int32) (s0 : Int32) (s1 : Int32) : Prop := vp_in s1 8 ∧ pj_put u 278 s1.toNatClampNeg s0 fun u1 => (R9 u1 (x2 + 1))
set_option maxHeartbeats 1000000 in
theorem pt_Mo_close_40 {g : pj_G} {b : Nat} (C : pj_X g c_Mo_close 3 R_Mo none rm_Mo_close) {K : pj_M → Prop} (hE : pj_E g b (pj_Kv K)) {R9 : pj_M → Int32 → Prop}  {u : pj_M} {x1 : Int32} {x2 : Int32} {s0 : Int32} {s1 : Int32} (hR9 : ∀ (u : pj_M) (x2 : Int32), R9 u x2 → pj_J g (pj_N g b u) 9 [some (.ref (b + 217)), some (.int x1), some (.int x2)] [])  (h : pb_Mo_close_40 R9 K u x1 x2 s0 s1) : pj_J g (pj_N g b u) 40 [some (.ref (b + 217)), some (.int x1), some (.int x2)] [.int s0, .int s1, .ref (b + 278)] := by
  unfold pb_Mo_close_40 at h
  refine pj_iast C (pj_lt tk_278 (by decide)) (fun E u => ka_20 tk_278) d_Mo_close_40 (pc' := 41) rfl h (fun u1 h => ?_)
  refine pj_iinc C d_Mo_close_41 (pc' := 44) (x := x2) (d := 1) (vs' := [some (.ref (b + 217)), some (.int x1), some (.int (x2 + 1))]) rfl rfl (Nat.le_of_ble_eq_true rfl) rfl (by decide) rfl ?_
  refine pj_goto C d_Mo_close_44 (tgt := 9) (by decide) ?_
  exact pj_cut (pj_le_s (pj_le_s (pj_le_s pj_le_e))) (hR9 _ _ h)
def pb_Mo_close_34 (R9 : pj_M → Int32 → Prop) (K : pj_M → Prop) (u : pj_M) (x1 : Int32) (x2 : Int32) (s0 : Int32) : Prop := vp_in x2 8 ∧ (pb_Mo_close_40 R9 K u x1 x2 (u 278 x2.toNatClampNeg) s0)
set_option maxHeartbeats 1000000 in
theorem pt_Mo_close_34 {g : pj_G} {b : Nat} (C : pj_X g c_Mo_close 3 R_Mo none rm_Mo_close) {K : pj_M → Prop} (hE : pj_E g b (pj_Kv K)) {R9 : pj_M → Int32 → Prop}  {u : pj_M} {x1 : Int32} {x2 : Int32} {s0 : Int32} (hR9 : ∀ (u : pj_M) (x2 : Int32), R9 u x2 → pj_J g (pj_N g b u) 9 [some (.ref (b + 217)), some (.int x1), some (.int x2)] [])  (h : pb_Mo_close_34 R9 K u x1 x2 s0) : pj_J g (pj_N g b u) 34 [some (.ref (b + 217)), some (.int x1), some (.int x2)] [.int s0, .ref (b + 278)] := by
  unfold pb_Mo_close_34 at h
  refine pj_aload_n C d_Mo_close_34 (pc' := 35) (i := 0) (x := b + 217) rfl rfl rfl ?_
  refine fg_Model_191_Model C tk_217 d_Mo_close_35 (pc' := 38) rfl ?_
  refine pj_iload_n C d_Mo_close_38 (pc' := 39) (i := 2) (x := x2) rfl rfl rfl ?_
  refine pj_iald C (pj_lt tk_278 (by decide)) (fun E u => ka_20 tk_278) d_Mo_close_39 (pc' := 40) rfl h (fun h => ?_)
  exact pj_cut (pj_le_s (pj_le_s (pj_le_s pj_le_e))) (pt_Mo_close_40 C hE hR9  h)
def pb_Mo_close_30 (R9 : pj_M → Int32 → Prop) (K : pj_M → Prop) (u : pj_M) (x1 : Int32) (x2 : Int32) (s0 : Int32) : Prop := pb_Mo_close_40 R9 K u x1 x2 ((-1)) s0
set_option maxHeartbeats 1000000 in
theorem pt_Mo_close_30 {g : pj_G} {b : Nat} (C : pj_X g c_Mo_close 3 R_Mo none rm_Mo_close) {K : pj_M → Prop} (hE : pj_E g b (pj_Kv K)) {R9 : pj_M → Int32 → Prop}  {u : pj_M} {x1 : Int32} {x2 : Int32} {s0 : Int32} (hR9 : ∀ (u : pj_M) (x2 : Int32), R9 u x2 → pj_J g (pj_N g b u) 9 [some (.ref (b + 217)), some (.int x1), some (.int x2)] [])  (h : pb_Mo_close_30 R9 K u x1 x2 s0) : pj_J g (pj_N g b u) 30 [some (.ref (b + 217)), some (.int x1), some (.int x2)] [.int s0, .ref (b + 278)] := by
  unfold pb_Mo_close_30 at h
  refine pj_iconst C d_Mo_close_30 (pc' := 31) rfl (v := (-1)) (by decide) ?_
  refine pj_goto C d_Mo_close_31 (tgt := 40) (by decide) ?_
  exact pj_cut (pj_le_s (pj_le_s (pj_le_s pj_le_e))) (pt_Mo_close_40 C hE hR9  h)
def pb_Mo_close_15 (R9 : pj_M → Int32 → Prop) (K : pj_M → Prop) (u : pj_M) (x1 : Int32) (x2 : Int32) : Prop := vp_in x2 8 ∧ ((((u 278 x2.toNatClampNeg) = x1) → (pb_Mo_close_30 R9 K u x1 x2 x2)) ∧ (¬ ((u 278 x2.toNatClampNeg) = x1) → (pb_Mo_close_34 R9 K u x1 x2 x2)))
set_option maxHeartbeats 1000000 in
theorem pt_Mo_close_15 {g : pj_G} {b : Nat} (C : pj_X g c_Mo_close 3 R_Mo none rm_Mo_close) {K : pj_M → Prop} (hE : pj_E g b (pj_Kv K)) {R9 : pj_M → Int32 → Prop}  {u : pj_M} {x1 : Int32} {x2 : Int32} (hR9 : ∀ (u : pj_M) (x2 : Int32), R9 u x2 → pj_J g (pj_N g b u) 9 [some (.ref (b + 217)), some (.int x1), some (.int x2)] [])  (h : pb_Mo_close_15 R9 K u x1 x2) : pj_J g (pj_N g b u) 15 [some (.ref (b + 217)), some (.int x1), some (.int x2)] [] := by
  unfold pb_Mo_close_15 at h
  refine pj_aload_n C d_Mo_close_15 (pc' := 16) (i := 0) (x := b + 217) rfl rfl rfl ?_
  refine fg_Model_191_Model C tk_217 d_Mo_close_16 (pc' := 19) rfl ?_
  refine pj_iload_n C d_Mo_close_19 (pc' := 20) (i := 2) (x := x2) rfl rfl rfl ?_
  refine pj_aload_n C d_Mo_close_20 (pc' := 21) (i := 0) (x := b + 217) rfl rfl rfl ?_
  refine fg_Model_191_Model C tk_217 d_Mo_close_21 (pc' := 24) rfl ?_
  refine pj_iload_n C d_Mo_close_24 (pc' := 25) (i := 2) (x := x2) rfl rfl rfl ?_
  refine pj_iald C (pj_lt tk_278 (by decide)) (fun E u => ka_20 tk_278) d_Mo_close_25 (pc' := 26) rfl h (fun h => ?_)
  refine pj_iload_n C d_Mo_close_26 (pc' := 27) (i := 1) (x := x1) rfl rfl rfl ?_
  refine pj_icmp_ne C d_Mo_close_27 (pc' := 30) rfl (tgt := 34) (by decide) h (fun h => ?_) (fun h => ?_)
  · exact pj_cut (pj_le_s (pj_le_s (pj_le_s pj_le_e))) (pt_Mo_close_34 C hE hR9  h)
  · exact pj_cut (pj_le_s (pj_le_s (pj_le_s pj_le_e))) (pt_Mo_close_30 C hE hR9  h)
def pb_Mo_close_9b (R9 : pj_M → Int32 → Prop) (K : pj_M → Prop) (u : pj_M) (x1 : Int32) (x2 : Int32) : Prop := ((8 ≤ x2) → (pb_Mo_close_47  K u )) ∧ (¬ (8 ≤ x2) → (pb_Mo_close_15 R9 K u x1 x2))
set_option maxHeartbeats 1000000 in
theorem pt_Mo_close_9b {g : pj_G} {b : Nat} (C : pj_X g c_Mo_close 3 R_Mo none rm_Mo_close) {K : pj_M → Prop} (hE : pj_E g b (pj_Kv K)) {R9 : pj_M → Int32 → Prop}  {u : pj_M} {x1 : Int32} {x2 : Int32} (hR9 : ∀ (u : pj_M) (x2 : Int32), R9 u x2 → pj_J g (pj_N g b u) 9 [some (.ref (b + 217)), some (.int x1), some (.int x2)] [])  (h : pb_Mo_close_9b R9 K u x1 x2) : pj_J g (pj_N g b u) 9 [some (.ref (b + 217)), some (.int x1), some (.int x2)] [] := by
  unfold pb_Mo_close_9b at h
  refine pj_iload_n C d_Mo_close_9 (pc' := 10) (i := 2) (x := x2) rfl rfl rfl ?_
  refine pj_bipush C d_Mo_close_10 (pc' := 12) rfl (v := 8) (by decide) ?_
  refine pj_icmp_ge C d_Mo_close_12 (pc' := 15) rfl (tgt := 47) (by decide) h (fun h => ?_) (fun h => ?_)
  · exact pj_cut (pj_le_n (pj_le_n (pj_le_n pj_le_e))) (pt_Mo_close_47 C hE   h)
  · exact pj_cut (pj_le_s (pj_le_s (pj_le_s pj_le_e))) (pt_Mo_close_15 C hE hR9  h)
def pb_Mo_close_9  (K : pj_M → Prop) (x1 : Int32) : Nat → pj_M → Int32 → Prop
  | 0 => fun _ _ => False
  | n + 1 => fun u x2 => pb_Mo_close_9b (pb_Mo_close_9  K x1 n) K u x1 x2
theorem pt_Mo_close_9 {g : pj_G} {b : Nat} (C : pj_X g c_Mo_close 3 R_Mo none rm_Mo_close) {K : pj_M → Prop} (hE : pj_E g b (pj_Kv K))  {x1 : Int32}   : ∀ (n : Nat) (u : pj_M) (x2 : Int32), pb_Mo_close_9  K x1 n u x2 → pj_J g (pj_N g b u) 9 [some (.ref (b + 217)), some (.int x1), some (.int x2)] [] := by
  intro n
  induction n with
  | zero => intro u x2 h; exact False.elim h
  | succ n ih =>
    intro u x2 h
    exact (pt_Mo_close_9b C hE ih  h)
def pb_Mo_close_0  (K : pj_M → Prop) (u : pj_M) (x1 : Int32) : Prop := vp_in x1 4 ∧ pj_put u 260 x1.toNatClampNeg (vp_nar .boolean 0) fun u1 => (∃ n, pb_Mo_close_9  K x1 n u1 0)
set_option maxHeartbeats 1000000 in
theorem pt_Mo_close_0 {g : pj_G} {b : Nat} (C : pj_X g c_Mo_close 3 R_Mo none rm_Mo_close) {K : pj_M → Prop} (hE : pj_E g b (pj_Kv K))   {u : pj_M} {x1 : Int32}   (h : pb_Mo_close_0  K u x1) : pj_J g (pj_N g b u) 0 [some (.ref (b + 217)), some (.int x1), none] [] := by
  unfold pb_Mo_close_0 at h
  refine pj_aload_n C d_Mo_close_0 (pc' := 1) (i := 0) (x := b + 217) rfl rfl rfl ?_
  refine fg_Model_137_Model C tk_217 d_Mo_close_1 (pc' := 4) rfl ?_
  refine pj_iload_n C d_Mo_close_4 (pc' := 5) (i := 1) (x := x1) rfl rfl rfl ?_
  refine pj_iconst C d_Mo_close_5 (pc' := 6) rfl (v := 0) (by decide) ?_
  refine pj_zast C (pj_lt tk_260 (by decide)) (fun E u => ka_31 tk_260) d_Mo_close_6 (pc' := 7) rfl h (fun u1 h => ?_)
  refine pj_iconst C d_Mo_close_7 (pc' := 8) rfl (v := 0) (by decide) ?_
  refine pj_istore_n C d_Mo_close_8 (pc' := 9) (i := 2) (vs' := [some (.ref (b + 217)), some (.int x1), some (.int 0)]) rfl rfl (Nat.le_of_ble_eq_true rfl) (Nat.le_of_ble_eq_true rfl) rfl rfl ?_
  obtain ⟨n, h⟩ := h
  exact pj_cut (pj_le_s (pj_le_s (pj_le_s pj_le_e))) (pt_Mo_close_9 C hE   n _ _ h)
def pw_Mo_close (u : pj_M) (x1 : Int32) (K : pj_M → Prop) : Prop := pb_Mo_close_0  K u x1
theorem pc_Mo_close (l : Launch) (D : va_G) (E : Nat → ClassId) {b : Nat} {u : pj_M} {x1 : Int32} {K : pj_M → Prop}  (h : pw_Mo_close u x1 K) : pj_C l y_Mo_close c_Mo_close 3 none rm_Mo_close D E b [.ref (b + 217), .int x1] u (pj_Kv K) := by
  refine pj_met (own := R_Mo) (by decide +kernel) rfl (Nat.le_of_ble_eq_true rfl) (fun g hE C => ?_)
  unfold pw_Mo_close at h
  show pj_J g (pj_N g b u) 0 [some (.ref (b + 217)), some (.int x1), none] []
  exact pj_cut (pj_le_s (pj_le_s (pj_le_n pj_le_e))) (pt_Mo_close_0 C hE   h)
/-! Model.failPort(I)V -/
theorem ck_Model_351_Model {g : pj_G} {b : Nat} {cc : ByteArray} {nL : Nat} {ret : Option FieldType} {rm : Room} {u : pj_M} {pc pc' : Nat} {vs : List (Option Value)} {st : List Value} (C : pj_X g cc nL R_Mo ret rm) {x1 : Int32} {K : pj_M → Prop}  (h : pw_Mo_close u x1 K) (hdg : decode cc pc = .ok (.invokevirtual 351, 3)) (hp : pc + 3 = pc') (hR : rm_Mo_close.frames + 1 ≤ rm.frames ∧ 8 + (3 + 11) + rm_Mo_close.locals ≤ rm.locals) (h8 : (st.map fun v => v.category).sum ≤ 8) (kk : ∀ u', K u' → pj_J g (pj_N g b u') pc' vs st) : pj_J g (pj_N g b u) pc vs (.int x1 :: .ref (b + 217) :: st) :=
  pj_callV C (As := [.int x1]) (fun l D E => pc_Mo_close l D E  h) rfl rfl cl_Model (pj_lt tk_217 (by decide)) (fun E => ko_11 tk_217) wm_1394 wm_1396 wm_46 wm_103 wm_1397 (by decide +kernel) (n := 1) rfl hR rfl h8 hdg hp (fun v u' hq => by obtain ⟨rfl, hk⟩ := hq; exact kk u' hk)
def rm_Mo_failPort : Room := { frames := 1, cells := 0, slots := 0, locals := 22 }
def pb_Mo_failPort_0  (K : pj_M → Prop) (u : pj_M) (x1 : Int32) : Prop := pw_Mo_close u x1 fun u1 => (vp_in x1 4 ∧ pj_put u1 259 x1.toNatClampNeg 4 fun u2 => (vp_in x1 4 ∧ pj_put u2 271 x1.toNatClampNeg ((-1)) fun u3 => (vp_in x1 4 ∧ pj_put u3 264 x1.toNatClampNeg (vp_nar .boolean 0) fun u4 => (vp_in x1 4 ∧ pj_put u4 261 x1.toNatClampNeg 0 fun u5 => (K u5)))))
set_option maxHeartbeats 1000000 in
theorem pt_Mo_failPort_0 {g : pj_G} {b : Nat} (C : pj_X g c_Mo_failPort 2 R_Mo none rm_Mo_failPort) {K : pj_M → Prop} (hE : pj_E g b (pj_Kv K))   {u : pj_M} {x1 : Int32}   (h : pb_Mo_failPort_0  K u x1) : pj_J g (pj_N g b u) 0 [some (.ref (b + 217)), some (.int x1)] [] := by
  unfold pb_Mo_failPort_0 at h
  refine pj_aload_n C d_Mo_failPort_0 (pc' := 1) (i := 0) (x := b + 217) rfl rfl rfl ?_
  refine pj_iload_n C d_Mo_failPort_1 (pc' := 2) (i := 1) (x := x1) rfl rfl rfl ?_
  refine ck_Model_351_Model C  h d_Mo_failPort_2 (pc' := 5) rfl ⟨Nat.le_of_ble_eq_true rfl, Nat.le_of_ble_eq_true rfl⟩ (Nat.le_of_ble_eq_true rfl) (fun u1 h => ?_)
  refine pj_aload_n C d_Mo_failPort_5 (pc' := 6) (i := 0) (x := b + 217) rfl rfl rfl ?_
  refine fg_Model_134_Model C tk_217 d_Mo_failPort_6 (pc' := 9) rfl ?_
  refine pj_iload_n C d_Mo_failPort_9 (pc' := 10) (i := 1) (x := x1) rfl rfl rfl ?_
  refine pj_iconst C d_Mo_failPort_10 (pc' := 11) rfl (v := 4) (by decide) ?_
  refine pj_iast C (pj_lt tk_259 (by decide)) (fun E u => ka_23 tk_259) d_Mo_failPort_11 (pc' := 12) rfl h (fun u2 h => ?_)
  refine pj_aload_n C d_Mo_failPort_12 (pc' := 13) (i := 0) (x := b + 217) rfl rfl rfl ?_
  refine fg_Model_170_Model C tk_217 d_Mo_failPort_13 (pc' := 16) rfl ?_
  refine pj_iload_n C d_Mo_failPort_16 (pc' := 17) (i := 1) (x := x1) rfl rfl rfl ?_
  refine pj_iconst C d_Mo_failPort_17 (pc' := 18) rfl (v := (-1)) (by decide) ?_
  refine pj_iast C (pj_lt tk_271 (by decide)) (fun E u => ka_23 tk_271) d_Mo_failPort_18 (pc' := 19) rfl h (fun u3 h => ?_)
  refine pj_aload_n C d_Mo_failPort_19 (pc' := 20) (i := 0) (x := b + 217) rfl rfl rfl ?_
  refine fg_Model_149_Model C tk_217 d_Mo_failPort_20 (pc' := 23) rfl ?_
  refine pj_iload_n C d_Mo_failPort_23 (pc' := 24) (i := 1) (x := x1) rfl rfl rfl ?_
  refine pj_iconst C d_Mo_failPort_24 (pc' := 25) rfl (v := 0) (by decide) ?_
  refine pj_zast C (pj_lt tk_264 (by decide)) (fun E u => ka_31 tk_264) d_Mo_failPort_25 (pc' := 26) rfl h (fun u4 h => ?_)
  refine pj_aload_n C d_Mo_failPort_26 (pc' := 27) (i := 0) (x := b + 217) rfl rfl rfl ?_
  refine fg_Model_140_Model C tk_217 d_Mo_failPort_27 (pc' := 30) rfl ?_
  refine pj_iload_n C d_Mo_failPort_30 (pc' := 31) (i := 1) (x := x1) rfl rfl rfl ?_
  refine pj_iconst C d_Mo_failPort_31 (pc' := 32) rfl (v := 0) (by decide) ?_
  refine pj_iast C (pj_lt tk_261 (by decide)) (fun E u => ka_23 tk_261) d_Mo_failPort_32 (pc' := 33) rfl h (fun u5 h => ?_)
  exact pj_vret C hE d_Mo_failPort_33 ⟨rfl, h⟩
def pw_Mo_failPort (u : pj_M) (x1 : Int32) (K : pj_M → Prop) : Prop := pb_Mo_failPort_0  K u x1
theorem pc_Mo_failPort (l : Launch) (D : va_G) (E : Nat → ClassId) {b : Nat} {u : pj_M} {x1 : Int32} {K : pj_M → Prop}  (h : pw_Mo_failPort u x1 K) : pj_C l y_Mo_failPort c_Mo_failPort 2 none rm_Mo_failPort D E b [.ref (b + 217), .int x1] u (pj_Kv K) := by
  refine pj_met (own := R_Mo) (by decide +kernel) rfl (Nat.le_of_ble_eq_true rfl) (fun g hE C => ?_)
  unfold pw_Mo_failPort at h
  show pj_J g (pj_N g b u) 0 [some (.ref (b + 217)), some (.int x1)] []
  exact pj_cut (pj_le_s (pj_le_s pj_le_e)) (pt_Mo_failPort_0 C hE   h)
/-! Model.link(IZ)Z -/
theorem fg_Model_131_Model {g : pj_G} {b : Nat} {cc : ByteArray} {nL : Nat} {ret : Option FieldType} {rm : Room} {u : pj_M} {pc pc' : Nat} {vs : List (Option Value)} {st : List Value} (C : pj_X g cc nL R_Mo ret rm) {i : Nat} (t : pj_T i = 11) (hdg : decode cc pc = .ok (.getfield 131, 3)) (hp : pc + 3 = pc') (kk : pj_J g (pj_N g b u) pc' vs (.ref (b + 258) :: st)) : pj_J g (pj_N g b u) pc vs (.ref (b + i) :: st) :=
  pj_get C cl_Model hin_Model (k := 49) (Nat.le_of_ble_eq_true rfl) wm_1173 (Or.inl rfl) (pj_lt t (by decide)) (fun E => ko_11 t) rfl hdg hp kk
theorem ck_Model_354_Model {g : pj_G} {b : Nat} {cc : ByteArray} {nL : Nat} {ret : Option FieldType} {rm : Room} {u : pj_M} {pc pc' : Nat} {vs : List (Option Value)} {st : List Value} (C : pj_X g cc nL R_Mo ret rm) {x1 : Int32} {K : pj_M → Prop}  (h : pw_Mo_beginPort u x1 K) (hdg : decode cc pc = .ok (.invokevirtual 354, 3)) (hp : pc + 3 = pc') (hR : rm_Mo_beginPort.frames + 1 ≤ rm.frames ∧ 8 + (2 + 11) + rm_Mo_beginPort.locals ≤ rm.locals) (h8 : (st.map fun v => v.category).sum ≤ 8) (kk : ∀ u', K u' → pj_J g (pj_N g b u') pc' vs st) : pj_J g (pj_N g b u) pc vs (.int x1 :: .ref (b + 217) :: st) :=
  pj_callV C (As := [.int x1]) (fun l D E => pc_Mo_beginPort l D E  h) rfl rfl cl_Model (pj_lt tk_217 (by decide)) (fun E => ko_11 tk_217) wm_1374 wm_1376 wm_41 wm_103 wm_1377 (by decide +kernel) (n := 1) rfl hR rfl h8 hdg hp (fun v u' hq => by obtain ⟨rfl, hk⟩ := hq; exact kk u' hk)
def rm_Mo_link : Room := { frames := 5, cells := 0, slots := 0, locals := 110 }
def pb_Mo_link_19  (K : Int32 → pj_M → Prop) (u : pj_M)  : Prop := K 0 u
set_option maxHeartbeats 1000000 in
theorem pt_Mo_link_19 {g : pj_G} {b : Nat} (C : pj_X g c_Mo_link 3 R_Mo (some .boolean) rm_Mo_link) {K : Int32 → pj_M → Prop} (hE : pj_E g b (pj_Ki K))   {u : pj_M}    (h : pb_Mo_link_19  K u ) : pj_J g (pj_N g b u) 19 [none, none, none] [] := by
  unfold pb_Mo_link_19 at h
  refine pj_iconst C d_Mo_link_19 (pc' := 20) rfl (v := 0) (by decide) ?_
  exact pj_zret C hE d_Mo_link_20 pj_bi0 ⟨_, rfl, h⟩
def pb_Mo_link_39  (K : Int32 → pj_M → Prop) (u : pj_M) (x1 : Int32) : Prop := pw_Mo_close u x1 fun u1 => (vp_in x1 4 ∧ pj_put u1 259 x1.toNatClampNeg 0 fun u2 => (vp_in x1 4 ∧ pj_put u2 271 x1.toNatClampNeg ((-1)) fun u3 => (vp_in x1 4 ∧ pj_put u3 264 x1.toNatClampNeg (vp_nar .boolean 0) fun u4 => (K 1 u4))))
set_option maxHeartbeats 1000000 in
theorem pt_Mo_link_39 {g : pj_G} {b : Nat} (C : pj_X g c_Mo_link 3 R_Mo (some .boolean) rm_Mo_link) {K : Int32 → pj_M → Prop} (hE : pj_E g b (pj_Ki K))   {u : pj_M} {x1 : Int32}   (h : pb_Mo_link_39  K u x1) : pj_J g (pj_N g b u) 39 [some (.ref (b + 217)), some (.int x1), none] [] := by
  unfold pb_Mo_link_39 at h
  refine pj_aload_n C d_Mo_link_39 (pc' := 40) (i := 0) (x := b + 217) rfl rfl rfl ?_
  refine pj_iload_n C d_Mo_link_40 (pc' := 41) (i := 1) (x := x1) rfl rfl rfl ?_
  refine ck_Model_351_Model C  h d_Mo_link_41 (pc' := 44) rfl ⟨Nat.le_of_ble_eq_true rfl, Nat.le_of_ble_eq_true rfl⟩ (Nat.le_of_ble_eq_true rfl) (fun u1 h => ?_)
  refine pj_aload_n C d_Mo_link_44 (pc' := 45) (i := 0) (x := b + 217) rfl rfl rfl ?_
  refine fg_Model_134_Model C tk_217 d_Mo_link_45 (pc' := 48) rfl ?_
  refine pj_iload_n C d_Mo_link_48 (pc' := 49) (i := 1) (x := x1) rfl rfl rfl ?_
  refine pj_iconst C d_Mo_link_49 (pc' := 50) rfl (v := 0) (by decide) ?_
  refine pj_iast C (pj_lt tk_259 (by decide)) (fun E u => ka_23 tk_259) d_Mo_link_50 (pc' := 51) rfl h (fun u2 h => ?_)
  refine pj_aload_n C d_Mo_link_51 (pc' := 52) (i := 0) (x := b + 217) rfl rfl rfl ?_
  refine fg_Model_170_Model C tk_217 d_Mo_link_52 (pc' := 55) rfl ?_
  refine pj_iload_n C d_Mo_link_55 (pc' := 56) (i := 1) (x := x1) rfl rfl rfl ?_
  refine pj_iconst C d_Mo_link_56 (pc' := 57) rfl (v := (-1)) (by decide) ?_
  refine pj_iast C (pj_lt tk_271 (by decide)) (fun E u => ka_23 tk_271) d_Mo_link_57 (pc' := 58) rfl h (fun u3 h => ?_)
  refine pj_aload_n C d_Mo_link_58 (pc' := 59) (i := 0) (x := b + 217) rfl rfl rfl ?_
  refine fg_Model_149_Model C tk_217 d_Mo_link_59 (pc' := 62) rfl ?_
  refine pj_iload_n C d_Mo_link_62 (pc' := 63) (i := 1) (x := x1) rfl rfl rfl ?_
  refine pj_iconst C d_Mo_link_63 (pc' := 64) rfl (v := 0) (by decide) ?_
  refine pj_zast C (pj_lt tk_264 (by decide)) (fun E u => ka_31 tk_264) d_Mo_link_64 (pc' := 65) rfl h (fun u4 h => ?_)
  refine pj_iconst C d_Mo_link_65 (pc' := 66) rfl (v := 1) (by decide) ?_
  exact pj_zret C hE d_Mo_link_66 pj_bi1 ⟨_, rfl, h⟩
def pb_Mo_link_32  (K : Int32 → pj_M → Prop) (u : pj_M) (x1 : Int32) : Prop := pw_Mo_beginPort u x1 fun u1 => (K 1 u1)
set_option maxHeartbeats 1000000 in
theorem pt_Mo_link_32 {g : pj_G} {b : Nat} (C : pj_X g c_Mo_link 3 R_Mo (some .boolean) rm_Mo_link) {K : Int32 → pj_M → Prop} (hE : pj_E g b (pj_Ki K))   {u : pj_M} {x1 : Int32}   (h : pb_Mo_link_32  K u x1) : pj_J g (pj_N g b u) 32 [some (.ref (b + 217)), some (.int x1), none] [] := by
  unfold pb_Mo_link_32 at h
  refine pj_aload_n C d_Mo_link_32 (pc' := 33) (i := 0) (x := b + 217) rfl rfl rfl ?_
  refine pj_iload_n C d_Mo_link_33 (pc' := 34) (i := 1) (x := x1) rfl rfl rfl ?_
  refine ck_Model_354_Model C  h d_Mo_link_34 (pc' := 37) rfl ⟨Nat.le_of_ble_eq_true rfl, Nat.le_of_ble_eq_true rfl⟩ (Nat.le_of_ble_eq_true rfl) (fun u1 h => ?_)
  refine pj_iconst C d_Mo_link_37 (pc' := 38) rfl (v := 1) (by decide) ?_
  exact pj_zret C hE d_Mo_link_38 pj_bi1 ⟨_, rfl, h⟩
def pb_Mo_link_21  (K : Int32 → pj_M → Prop) (u : pj_M) (x1 : Int32) (x2 : Int32) : Prop := vp_in x1 4 ∧ pj_put u 258 x1.toNatClampNeg (vp_nar .boolean x2) fun u1 => (((x2 = 0) → (pb_Mo_link_39  K u1 x1)) ∧ (¬ (x2 = 0) → (pb_Mo_link_32  K u1 x1)))
set_option maxHeartbeats 1000000 in
theorem pt_Mo_link_21 {g : pj_G} {b : Nat} (C : pj_X g c_Mo_link 3 R_Mo (some .boolean) rm_Mo_link) {K : Int32 → pj_M → Prop} (hE : pj_E g b (pj_Ki K))   {u : pj_M} {x1 : Int32} {x2 : Int32}   (h : pb_Mo_link_21  K u x1 x2) : pj_J g (pj_N g b u) 21 [some (.ref (b + 217)), some (.int x1), some (.int x2)] [] := by
  unfold pb_Mo_link_21 at h
  refine pj_aload_n C d_Mo_link_21 (pc' := 22) (i := 0) (x := b + 217) rfl rfl rfl ?_
  refine fg_Model_131_Model C tk_217 d_Mo_link_22 (pc' := 25) rfl ?_
  refine pj_iload_n C d_Mo_link_25 (pc' := 26) (i := 1) (x := x1) rfl rfl rfl ?_
  refine pj_iload_n C d_Mo_link_26 (pc' := 27) (i := 2) (x := x2) rfl rfl rfl ?_
  refine pj_zast C (pj_lt tk_258 (by decide)) (fun E u => ka_31 tk_258) d_Mo_link_27 (pc' := 28) rfl h (fun u1 h => ?_)
  refine pj_iload_n C d_Mo_link_28 (pc' := 29) (i := 2) (x := x2) rfl rfl rfl ?_
  refine pj_if_eq C d_Mo_link_29 (pc' := 32) rfl (tgt := 39) (by decide) h (fun h => ?_) (fun h => ?_)
  · exact pj_cut (pj_le_s (pj_le_s (pj_le_n pj_le_e))) (pt_Mo_link_39 C hE   h)
  · exact pj_cut (pj_le_s (pj_le_s (pj_le_n pj_le_e))) (pt_Mo_link_32 C hE   h)
def pb_Mo_link_9  (K : Int32 → pj_M → Prop) (u : pj_M) (x1 : Int32) (x2 : Int32) : Prop := vp_in x1 4 ∧ ((((u 258 x1.toNatClampNeg) = x2) → (pb_Mo_link_19  K u )) ∧ (¬ ((u 258 x1.toNatClampNeg) = x2) → (pb_Mo_link_21  K u x1 x2)))
set_option maxHeartbeats 1000000 in
theorem pt_Mo_link_9 {g : pj_G} {b : Nat} (C : pj_X g c_Mo_link 3 R_Mo (some .boolean) rm_Mo_link) {K : Int32 → pj_M → Prop} (hE : pj_E g b (pj_Ki K))   {u : pj_M} {x1 : Int32} {x2 : Int32}   (h : pb_Mo_link_9  K u x1 x2) : pj_J g (pj_N g b u) 9 [some (.ref (b + 217)), some (.int x1), some (.int x2)] [] := by
  unfold pb_Mo_link_9 at h
  refine pj_aload_n C d_Mo_link_9 (pc' := 10) (i := 0) (x := b + 217) rfl rfl rfl ?_
  refine fg_Model_131_Model C tk_217 d_Mo_link_10 (pc' := 13) rfl ?_
  refine pj_iload_n C d_Mo_link_13 (pc' := 14) (i := 1) (x := x1) rfl rfl rfl ?_
  refine pj_zald C (pj_lt tk_258 (by decide)) (fun E u => ka_31 tk_258) d_Mo_link_14 (pc' := 15) rfl h (fun h => ?_)
  refine pj_iload_n C d_Mo_link_15 (pc' := 16) (i := 2) (x := x2) rfl rfl rfl ?_
  refine pj_icmp_ne C d_Mo_link_16 (pc' := 19) rfl (tgt := 21) (by decide) h (fun h => ?_) (fun h => ?_)
  · exact pj_cut (pj_le_s (pj_le_s (pj_le_s pj_le_e))) (pt_Mo_link_21 C hE   h)
  · exact pj_cut (pj_le_n (pj_le_n (pj_le_n pj_le_e))) (pt_Mo_link_19 C hE   h)
def pb_Mo_link_4  (K : Int32 → pj_M → Prop) (u : pj_M) (x1 : Int32) (x2 : Int32) : Prop := ((3 < x1) → (pb_Mo_link_19  K u )) ∧ (¬ (3 < x1) → (pb_Mo_link_9  K u x1 x2))
set_option maxHeartbeats 1000000 in
theorem pt_Mo_link_4 {g : pj_G} {b : Nat} (C : pj_X g c_Mo_link 3 R_Mo (some .boolean) rm_Mo_link) {K : Int32 → pj_M → Prop} (hE : pj_E g b (pj_Ki K))   {u : pj_M} {x1 : Int32} {x2 : Int32}   (h : pb_Mo_link_4  K u x1 x2) : pj_J g (pj_N g b u) 4 [some (.ref (b + 217)), some (.int x1), some (.int x2)] [] := by
  unfold pb_Mo_link_4 at h
  refine pj_iload_n C d_Mo_link_4 (pc' := 5) (i := 1) (x := x1) rfl rfl rfl ?_
  refine pj_iconst C d_Mo_link_5 (pc' := 6) rfl (v := 3) (by decide) ?_
  refine pj_icmp_gt C d_Mo_link_6 (pc' := 9) rfl (tgt := 19) (by decide) h (fun h => ?_) (fun h => ?_)
  · exact pj_cut (pj_le_n (pj_le_n (pj_le_n pj_le_e))) (pt_Mo_link_19 C hE   h)
  · exact pj_cut (pj_le_s (pj_le_s (pj_le_s pj_le_e))) (pt_Mo_link_9 C hE   h)
def pb_Mo_link_0  (K : Int32 → pj_M → Prop) (u : pj_M) (x1 : Int32) (x2 : Int32) : Prop := ((x1 < 0) → (pb_Mo_link_19  K u )) ∧ (¬ (x1 < 0) → (pb_Mo_link_4  K u x1 x2))
set_option maxHeartbeats 1000000 in
theorem pt_Mo_link_0 {g : pj_G} {b : Nat} (C : pj_X g c_Mo_link 3 R_Mo (some .boolean) rm_Mo_link) {K : Int32 → pj_M → Prop} (hE : pj_E g b (pj_Ki K))   {u : pj_M} {x1 : Int32} {x2 : Int32}   (h : pb_Mo_link_0  K u x1 x2) : pj_J g (pj_N g b u) 0 [some (.ref (b + 217)), some (.int x1), some (.int x2)] [] := by
  unfold pb_Mo_link_0 at h
  refine pj_iload_n C d_Mo_link_0 (pc' := 1) (i := 1) (x := x1) rfl rfl rfl ?_
  refine pj_if_lt C d_Mo_link_1 (pc' := 4) rfl (tgt := 19) (by decide) h (fun h => ?_) (fun h => ?_)
  · exact pj_cut (pj_le_n (pj_le_n (pj_le_n pj_le_e))) (pt_Mo_link_19 C hE   h)
  · exact pj_cut (pj_le_s (pj_le_s (pj_le_s pj_le_e))) (pt_Mo_link_4 C hE   h)
def pw_Mo_link (u : pj_M) (x1 : Int32) (x2 : Int32) (K : Int32 → pj_M → Prop) : Prop := pb_Mo_link_0  K u x1 x2
theorem pc_Mo_link (l : Launch) (D : va_G) (E : Nat → ClassId) {b : Nat} {u : pj_M} {x1 : Int32} {x2 : Int32} {K : Int32 → pj_M → Prop}  (h : pw_Mo_link u x1 x2 K) : pj_C l y_Mo_link c_Mo_link 3 (some .boolean) rm_Mo_link D E b [.ref (b + 217), .int x1, .int x2] u (pj_Ki K) := by
  refine pj_met (own := R_Mo) (by decide +kernel) rfl (Nat.le_of_ble_eq_true rfl) (fun g hE C => ?_)
  unfold pw_Mo_link at h
  show pj_J g (pj_N g b u) 0 [some (.ref (b + 217)), some (.int x1), some (.int x2)] []
  exact pj_cut (pj_le_s (pj_le_s (pj_le_s pj_le_e))) (pt_Mo_link_0 C hE   h)
/-! Model.sendQuery(I)V -/
theorem fg_Model_182_Model {g : pj_G} {b : Nat} {cc : ByteArray} {nL : Nat} {ret : Option FieldType} {rm : Room} {u : pj_M} {pc pc' : Nat} {vs : List (Option Value)} {st : List Value} (C : pj_X g cc nL R_Mo ret rm) {i : Nat} (t : pj_T i = 11) (hdg : decode cc pc = .ok (.getfield 182, 3)) (hp : pc + 3 = pc') (kk : pj_J g (pj_N g b u) pc' vs (.ref (b + 275) :: st)) : pj_J g (pj_N g b u) pc vs (.ref (b + i) :: st) :=
  pj_get C cl_Model hin_Model (k := 66) (Nat.le_of_ble_eq_true rfl) wm_1190 (Or.inl rfl) (pj_lt t (by decide)) (fun E => ko_11 t) rfl hdg hp kk
theorem fg_Model_185_Model {g : pj_G} {b : Nat} {cc : ByteArray} {nL : Nat} {ret : Option FieldType} {rm : Room} {u : pj_M} {pc pc' : Nat} {vs : List (Option Value)} {st : List Value} (C : pj_X g cc nL R_Mo ret rm) {i : Nat} (t : pj_T i = 11) (hdg : decode cc pc = .ok (.getfield 185, 3)) (hp : pc + 3 = pc') (kk : pj_J g (pj_N g b u) pc' vs (.ref (b + 276) :: st)) : pj_J g (pj_N g b u) pc vs (.ref (b + i) :: st) :=
  pj_get C cl_Model hin_Model (k := 67) (Nat.le_of_ble_eq_true rfl) wm_1191 (Or.inl rfl) (pj_lt t (by decide)) (fun E => ko_11 t) rfl hdg hp kk
theorem fg_Model_179_Model {g : pj_G} {b : Nat} {cc : ByteArray} {nL : Nat} {ret : Option FieldType} {rm : Room} {u : pj_M} {pc pc' : Nat} {vs : List (Option Value)} {st : List Value} (C : pj_X g cc nL R_Mo ret rm) {i : Nat} (t : pj_T i = 11) (hdg : decode cc pc = .ok (.getfield 179, 3)) (hp : pc + 3 = pc') (kk : pj_J g (pj_N g b u) pc' vs (.ref (b + 274) :: st)) : pj_J g (pj_N g b u) pc vs (.ref (b + i) :: st) :=
  pj_get C cl_Model hin_Model (k := 65) (Nat.le_of_ble_eq_true rfl) wm_1189 (Or.inl rfl) (pj_lt t (by decide)) (fun E => ko_11 t) rfl hdg hp kk
theorem fg_Model_158_Model {g : pj_G} {b : Nat} {cc : ByteArray} {nL : Nat} {ret : Option FieldType} {rm : Room} {u : pj_M} {pc pc' : Nat} {vs : List (Option Value)} {st : List Value} (C : pj_X g cc nL R_Mo ret rm) {i : Nat} (t : pj_T i = 11) (hdg : decode cc pc = .ok (.getfield 158, 3)) (hp : pc + 3 = pc') (kk : pj_J g (pj_N g b u) pc' vs (.ref (b + 267) :: st)) : pj_J g (pj_N g b u) pc vs (.ref (b + i) :: st) :=
  pj_get C cl_Model hin_Model (k := 58) (Nat.le_of_ble_eq_true rfl) wm_1182 (Or.inl rfl) (pj_lt t (by decide)) (fun E => ko_11 t) rfl hdg hp kk
theorem ck_Model_357_Model {g : pj_G} {b : Nat} {cc : ByteArray} {nL : Nat} {ret : Option FieldType} {rm : Room} {u : pj_M} {pc pc' : Nat} {vs : List (Option Value)} {st : List Value} (C : pj_X g cc nL R_Mo ret rm) {x1 : Int32} {K : Int32 → pj_M → Prop}  (h : pw_Mo_authOf u x1 K) (hdg : decode cc pc = .ok (.invokevirtual 357, 3)) (hp : pc + 3 = pc') (hR : rm_Mo_authOf.frames + 1 ≤ rm.frames ∧ 8 + (2 + 11) + rm_Mo_authOf.locals ≤ rm.locals) (h8 : (st.map fun v => v.category).sum ≤ 8) (kk : ∀ r u', K r u' → pj_J g (pj_N g b u') pc' vs (.int r :: st)) : pj_J g (pj_N g b u) pc vs (.int x1 :: .ref (b + 217) :: st) :=
  pj_callV C (As := [.int x1]) (fun l D E => pc_Mo_authOf l D E  h) rfl rfl cl_Model (pj_lt tk_217 (by decide)) (fun E => ko_11 tk_217) wm_1410 wm_1412 wm_49 wm_103 wm_1413 (by decide +kernel) (n := 1) rfl hR rfl h8 hdg hp (fun v u' hq => by obtain ⟨r, rfl, hk⟩ := hq; exact kk r u' hk)
def rm_Mo_sendQuery : Room := { frames := 5, cells := 0, slots := 0, locals := 113 }
def pb_Mo_sendQuery_43  (K : pj_M → Prop) (u : pj_M) (x1 : Int32) : Prop := vp_in x1 4 ∧ (vp_in x1 4 ∧ (pw_Mo_authOf u (u 274 x1.toNatClampNeg) fun r2 u1 => (vp_in x1 4 ∧ (vp_in x1 4 ∧ (pw_Mo_gram u1 1 ((u 274 x1.toNatClampNeg) &&& 255) r2 (u1 267 x1.toNatClampNeg) (u1 268 x1.toNatClampNeg) fun u3 => (vp_in x1 4 ∧ (pw_Mo_send u3 2 (u3 271 x1.toNatClampNeg) fun u4 => (K u4))))))))
set_option maxHeartbeats 1000000 in
theorem pt_Mo_sendQuery_43 {g : pj_G} {b : Nat} (C : pj_X g c_Mo_sendQuery 3 R_Mo none rm_Mo_sendQuery) {K : pj_M → Prop} (hE : pj_E g b (pj_Kv K))   {u : pj_M} {x1 : Int32}   (h : pb_Mo_sendQuery_43  K u x1) : pj_J g (pj_N g b u) 43 [some (.ref (b + 217)), some (.int x1), none] [] := by
  unfold pb_Mo_sendQuery_43 at h
  refine pj_aload_n C d_Mo_sendQuery_43 (pc' := 44) (i := 0) (x := b + 217) rfl rfl rfl ?_
  refine pj_iconst C d_Mo_sendQuery_44 (pc' := 45) rfl (v := 1) (by decide) ?_
  refine pj_aload_n C d_Mo_sendQuery_45 (pc' := 46) (i := 0) (x := b + 217) rfl rfl rfl ?_
  refine fg_Model_179_Model C tk_217 d_Mo_sendQuery_46 (pc' := 49) rfl ?_
  refine pj_iload_n C d_Mo_sendQuery_49 (pc' := 50) (i := 1) (x := x1) rfl rfl rfl ?_
  refine pj_iald C (pj_lt tk_274 (by decide)) (fun E u => ka_23 tk_274) d_Mo_sendQuery_50 (pc' := 51) rfl h (fun h => ?_)
  refine pj_sipush C d_Mo_sendQuery_51 (pc' := 54) rfl (v := 255) (by decide) ?_
  refine pj_iand C d_Mo_sendQuery_54 (pc' := 55) rfl ?_
  refine pj_aload_n C d_Mo_sendQuery_55 (pc' := 56) (i := 0) (x := b + 217) rfl rfl rfl ?_
  refine pj_aload_n C d_Mo_sendQuery_56 (pc' := 57) (i := 0) (x := b + 217) rfl rfl rfl ?_
  refine fg_Model_179_Model C tk_217 d_Mo_sendQuery_57 (pc' := 60) rfl ?_
  refine pj_iload_n C d_Mo_sendQuery_60 (pc' := 61) (i := 1) (x := x1) rfl rfl rfl ?_
  refine pj_iald C (pj_lt tk_274 (by decide)) (fun E u => ka_23 tk_274) d_Mo_sendQuery_61 (pc' := 62) rfl h (fun h => ?_)
  refine ck_Model_357_Model C  h d_Mo_sendQuery_62 (pc' := 65) rfl ⟨Nat.le_of_ble_eq_true rfl, Nat.le_of_ble_eq_true rfl⟩ (Nat.le_of_ble_eq_true rfl) (fun r2 u1 h => ?_)
  refine pj_aload_n C d_Mo_sendQuery_65 (pc' := 66) (i := 0) (x := b + 217) rfl rfl rfl ?_
  refine fg_Model_158_Model C tk_217 d_Mo_sendQuery_66 (pc' := 69) rfl ?_
  refine pj_iload_n C d_Mo_sendQuery_69 (pc' := 70) (i := 1) (x := x1) rfl rfl rfl ?_
  refine pj_iald C (pj_lt tk_267 (by decide)) (fun E u => ka_23 tk_267) d_Mo_sendQuery_70 (pc' := 71) rfl h (fun h => ?_)
  refine pj_aload_n C d_Mo_sendQuery_71 (pc' := 72) (i := 0) (x := b + 217) rfl rfl rfl ?_
  refine fg_Model_161_Model C tk_217 d_Mo_sendQuery_72 (pc' := 75) rfl ?_
  refine pj_iload_n C d_Mo_sendQuery_75 (pc' := 76) (i := 1) (x := x1) rfl rfl rfl ?_
  refine pj_iald C (pj_lt tk_268 (by decide)) (fun E u => ka_23 tk_268) d_Mo_sendQuery_76 (pc' := 77) rfl h (fun h => ?_)
  refine ck_Model_316_Model C  h d_Mo_sendQuery_77 (pc' := 80) rfl ⟨Nat.le_of_ble_eq_true rfl, Nat.le_of_ble_eq_true rfl⟩ (Nat.le_of_ble_eq_true rfl) (fun u3 h => ?_)
  refine pj_aload_n C d_Mo_sendQuery_80 (pc' := 81) (i := 0) (x := b + 217) rfl rfl rfl ?_
  refine pj_iconst C d_Mo_sendQuery_81 (pc' := 82) rfl (v := 2) (by decide) ?_
  refine pj_aload_n C d_Mo_sendQuery_82 (pc' := 83) (i := 0) (x := b + 217) rfl rfl rfl ?_
  refine fg_Model_170_Model C tk_217 d_Mo_sendQuery_83 (pc' := 86) rfl ?_
  refine pj_iload_n C d_Mo_sendQuery_86 (pc' := 87) (i := 1) (x := x1) rfl rfl rfl ?_
  refine pj_iald C (pj_lt tk_271 (by decide)) (fun E u => ka_23 tk_271) d_Mo_sendQuery_87 (pc' := 88) rfl h (fun h => ?_)
  refine ck_Model_242_Model C  h d_Mo_sendQuery_88 (pc' := 91) rfl ⟨Nat.le_of_ble_eq_true rfl, Nat.le_of_ble_eq_true rfl⟩ (Nat.le_of_ble_eq_true rfl) (fun u4 h => ?_)
  exact pj_vret C hE d_Mo_sendQuery_91 ⟨rfl, h⟩
def pb_Mo_sendQuery_20 (R12 : pj_M → Int32 → Prop) (K : pj_M → Prop) (u : pj_M) (x1 : Int32) (x2 : Int32) : Prop := vp_in ((20 * x1) + x2) 80 ∧ (vp_in x2 48 ∧ pj_put u 227 x2.toNatClampNeg (u 276 ((20 * x1) + x2).toNatClampNeg) fun u1 => (R12 u1 (x2 + 1)))
set_option maxHeartbeats 1000000 in
theorem pt_Mo_sendQuery_20 {g : pj_G} {b : Nat} (C : pj_X g c_Mo_sendQuery 3 R_Mo none rm_Mo_sendQuery) {K : pj_M → Prop} (hE : pj_E g b (pj_Kv K)) {R12 : pj_M → Int32 → Prop}  {u : pj_M} {x1 : Int32} {x2 : Int32} (hR12 : ∀ (u : pj_M) (x2 : Int32), R12 u x2 → pj_J g (pj_N g b u) 12 [some (.ref (b + 217)), some (.int x1), some (.int x2)] [])  (h : pb_Mo_sendQuery_20 R12 K u x1 x2) : pj_J g (pj_N g b u) 20 [some (.ref (b + 217)), some (.int x1), some (.int x2)] [] := by
  unfold pb_Mo_sendQuery_20 at h
  refine pj_aload_n C d_Mo_sendQuery_20 (pc' := 21) (i := 0) (x := b + 217) rfl rfl rfl ?_
  refine fg_Model_38_Model C tk_217 d_Mo_sendQuery_21 (pc' := 24) rfl ?_
  refine pj_iload_n C d_Mo_sendQuery_24 (pc' := 25) (i := 2) (x := x2) rfl rfl rfl ?_
  refine pj_aload_n C d_Mo_sendQuery_25 (pc' := 26) (i := 0) (x := b + 217) rfl rfl rfl ?_
  refine fg_Model_185_Model C tk_217 d_Mo_sendQuery_26 (pc' := 29) rfl ?_
  refine pj_bipush C d_Mo_sendQuery_29 (pc' := 31) rfl (v := 20) (by decide) ?_
  refine pj_iload_n C d_Mo_sendQuery_31 (pc' := 32) (i := 1) (x := x1) rfl rfl rfl ?_
  refine pj_imul C d_Mo_sendQuery_32 (pc' := 33) rfl ?_
  refine pj_iload_n C d_Mo_sendQuery_33 (pc' := 34) (i := 2) (x := x2) rfl rfl rfl ?_
  refine pj_iadd C d_Mo_sendQuery_34 (pc' := 35) rfl ?_
  refine pj_iald C (pj_lt tk_276 (by decide)) (fun E u => ka_35 tk_276) d_Mo_sendQuery_35 (pc' := 36) rfl h (fun h => ?_)
  refine pj_iast C (pj_lt tk_227 (by decide)) (fun E u => ka_22 tk_227) d_Mo_sendQuery_36 (pc' := 37) rfl h (fun u1 h => ?_)
  refine pj_iinc C d_Mo_sendQuery_37 (pc' := 40) (x := x2) (d := 1) (vs' := [some (.ref (b + 217)), some (.int x1), some (.int (x2 + 1))]) rfl rfl (Nat.le_of_ble_eq_true rfl) rfl (by decide) rfl ?_
  refine pj_goto C d_Mo_sendQuery_40 (tgt := 12) (by decide) ?_
  exact pj_cut (pj_le_s (pj_le_s (pj_le_s pj_le_e))) (hR12 _ _ h)
def pb_Mo_sendQuery_12b (R12 : pj_M → Int32 → Prop) (K : pj_M → Prop) (u : pj_M) (x1 : Int32) (x2 : Int32) : Prop := (((u 217 16) ≤ x2) → (pb_Mo_sendQuery_43  K u x1)) ∧ (¬ ((u 217 16) ≤ x2) → (pb_Mo_sendQuery_20 R12 K u x1 x2))
set_option maxHeartbeats 1000000 in
theorem pt_Mo_sendQuery_12b {g : pj_G} {b : Nat} (C : pj_X g c_Mo_sendQuery 3 R_Mo none rm_Mo_sendQuery) {K : pj_M → Prop} (hE : pj_E g b (pj_Kv K)) {R12 : pj_M → Int32 → Prop}  {u : pj_M} {x1 : Int32} {x2 : Int32} (hR12 : ∀ (u : pj_M) (x2 : Int32), R12 u x2 → pj_J g (pj_N g b u) 12 [some (.ref (b + 217)), some (.int x1), some (.int x2)] [])  (h : pb_Mo_sendQuery_12b R12 K u x1 x2) : pj_J g (pj_N g b u) 12 [some (.ref (b + 217)), some (.int x1), some (.int x2)] [] := by
  unfold pb_Mo_sendQuery_12b at h
  refine pj_iload_n C d_Mo_sendQuery_12 (pc' := 13) (i := 2) (x := x2) rfl rfl rfl ?_
  refine pj_aload_n C d_Mo_sendQuery_13 (pc' := 14) (i := 0) (x := b + 217) rfl rfl rfl ?_
  refine fg_Model_233_Model C tk_217 d_Mo_sendQuery_14 (pc' := 17) rfl ?_
  refine pj_icmp_ge C d_Mo_sendQuery_17 (pc' := 20) rfl (tgt := 43) (by decide) h (fun h => ?_) (fun h => ?_)
  · exact pj_cut (pj_le_s (pj_le_s (pj_le_n pj_le_e))) (pt_Mo_sendQuery_43 C hE   h)
  · exact pj_cut (pj_le_s (pj_le_s (pj_le_s pj_le_e))) (pt_Mo_sendQuery_20 C hE hR12  h)
def pb_Mo_sendQuery_12  (K : pj_M → Prop) (x1 : Int32) : Nat → pj_M → Int32 → Prop
  | 0 => fun _ _ => False
  | n + 1 => fun u x2 => pb_Mo_sendQuery_12b (pb_Mo_sendQuery_12  K x1 n) K u x1 x2
theorem pt_Mo_sendQuery_12 {g : pj_G} {b : Nat} (C : pj_X g c_Mo_sendQuery 3 R_Mo none rm_Mo_sendQuery) {K : pj_M → Prop} (hE : pj_E g b (pj_Kv K))  {x1 : Int32}   : ∀ (n : Nat) (u : pj_M) (x2 : Int32), pb_Mo_sendQuery_12  K x1 n u x2 → pj_J g (pj_N g b u) 12 [some (.ref (b + 217)), some (.int x1), some (.int x2)] [] := by
  intro n
  induction n with
  | zero => intro u x2 h; exact False.elim h
  | succ n ih =>
    intro u x2 h
    exact (pt_Mo_sendQuery_12b C hE ih  h)
def pb_Mo_sendQuery_0  (K : pj_M → Prop) (u : pj_M) (x1 : Int32) : Prop := vp_in x1 4 ∧ (pj_put u 217 16 (u 275 x1.toNatClampNeg) fun u1 => (∃ n, pb_Mo_sendQuery_12  K x1 n u1 0))
set_option maxHeartbeats 1000000 in
theorem pt_Mo_sendQuery_0 {g : pj_G} {b : Nat} (C : pj_X g c_Mo_sendQuery 3 R_Mo none rm_Mo_sendQuery) {K : pj_M → Prop} (hE : pj_E g b (pj_Kv K))   {u : pj_M} {x1 : Int32}   (h : pb_Mo_sendQuery_0  K u x1) : pj_J g (pj_N g b u) 0 [some (.ref (b + 217)), some (.int x1), none] [] := by
  unfold pb_Mo_sendQuery_0 at h
  refine pj_aload_n C d_Mo_sendQuery_0 (pc' := 1) (i := 0) (x := b + 217) rfl rfl rfl ?_
  refine pj_aload_n C d_Mo_sendQuery_1 (pc' := 2) (i := 0) (x := b + 217) rfl rfl rfl ?_
  refine fg_Model_182_Model C tk_217 d_Mo_sendQuery_2 (pc' := 5) rfl ?_
  refine pj_iload_n C d_Mo_sendQuery_5 (pc' := 6) (i := 1) (x := x1) rfl rfl rfl ?_
  refine pj_iald C (pj_lt tk_275 (by decide)) (fun E u => ka_23 tk_275) d_Mo_sendQuery_6 (pc' := 7) rfl h (fun h => ?_)
  refine fp_Model_233_Model C tk_217  d_Mo_sendQuery_7 (pc' := 10) rfl h (fun u1 h => ?_)
  refine pj_iconst C d_Mo_sendQuery_10 (pc' := 11) rfl (v := 0) (by decide) ?_
  refine pj_istore_n C d_Mo_sendQuery_11 (pc' := 12) (i := 2) (vs' := [some (.ref (b + 217)), some (.int x1), some (.int 0)]) rfl rfl (Nat.le_of_ble_eq_true rfl) (Nat.le_of_ble_eq_true rfl) rfl rfl ?_
  obtain ⟨n, h⟩ := h
  exact pj_cut (pj_le_s (pj_le_s (pj_le_s pj_le_e))) (pt_Mo_sendQuery_12 C hE   n _ _ h)
def pw_Mo_sendQuery (u : pj_M) (x1 : Int32) (K : pj_M → Prop) : Prop := pb_Mo_sendQuery_0  K u x1
theorem pc_Mo_sendQuery (l : Launch) (D : va_G) (E : Nat → ClassId) {b : Nat} {u : pj_M} {x1 : Int32} {K : pj_M → Prop}  (h : pw_Mo_sendQuery u x1 K) : pj_C l y_Mo_sendQuery c_Mo_sendQuery 3 none rm_Mo_sendQuery D E b [.ref (b + 217), .int x1] u (pj_Kv K) := by
  refine pj_met (own := R_Mo) (by decide +kernel) rfl (Nat.le_of_ble_eq_true rfl) (fun g hE C => ?_)
  unfold pw_Mo_sendQuery at h
  show pj_J g (pj_N g b u) 0 [some (.ref (b + 217)), some (.int x1), none] []
  exact pj_cut (pj_le_s (pj_le_s (pj_le_n pj_le_e))) (pt_Mo_sendQuery_0 C hE   h)
/-! Model.ask(II)V -/
theorem fg_Model_360_Model {g : pj_G} {b : Nat} {cc : ByteArray} {nL : Nat} {ret : Option FieldType} {rm : Room} {u : pj_M} {pc pc' : Nat} {vs : List (Option Value)} {st : List Value} (C : pj_X g cc nL R_Mo ret rm) {i : Nat} (t : pj_T i = 11) (hdg : decode cc pc = .ok (.getfield 360, 3)) (hp : pc + 3 = pc') (kk : pj_J g (pj_N g b u) pc' vs (.int (u i 68) :: st)) : pj_J g (pj_N g b u) pc vs (.ref (b + i) :: st) :=
  pj_get C cl_Model hin_Model (k := 68) (Nat.le_of_ble_eq_true rfl) wm_1192 (Or.inl rfl) (pj_lt t (by decide)) (fun E => ko_11 t) rfl hdg hp kk
theorem fp_Model_360_Model {g : pj_G} {b : Nat} {cc : ByteArray} {nL : Nat} {ret : Option FieldType} {rm : Room} {u : pj_M} {pc pc' : Nat} {vs : List (Option Value)} {st : List Value} (C : pj_X g cc nL R_Mo ret rm) {i : Nat} {x : Int32} {P : pj_M → Prop} (t : pj_T i = 11)  (hdg : decode cc pc = .ok (.putfield 360, 3)) (hp : pc + 3 = pc') (h : pj_put u i 68 x P) (kk : ∀ u', P u' → pj_J g (pj_N g b u') pc' vs st) : pj_J g (pj_N g b u) pc vs (.int x :: .ref (b + i) :: st) :=
  pj_putI C cl_Model hin_Model ty_Model tyok_Model nm_Model (k := 68) (Nat.le_of_ble_eq_true rfl) wm_1192 (Or.inl rfl) rfl (ty := .int) (by decide +kernel) rfl rfl (pj_lt t (by decide)) (fun E u => ko_11 t) (F := fun f => [.int (f 0), .ref (b + 218), .ref (b + 219), .ref (b + 220), .int (f 4), .ref (b + 221), .ref (b + 222), .ref (b + 223), .ref (b + 224), .int (f 9), .ref (b + 225), .int (f 11), .ref (b + 226), .int (f 13), .int (f 14), .int (f 15), .int (f 16), .ref (b + 227), .int (f 18), .ref (b + 228), .ref (b + 229), .ref (b + 230), .ref (b + 231), .ref (b + 232), .ref (b + 233), .ref (b + 234), .ref (b + 235), .ref (b + 236), .ref (b + 237), .ref (b + 238), .ref (b + 239), .ref (b + 240), .ref (b + 241), .ref (b + 242), .ref (b + 243), .ref (b + 244), .ref (b + 245), .ref (b + 246), .ref (b + 247), .ref (b + 248), .ref (b + 249), .ref (b + 250), .ref (b + 251), .ref (b + 252), .ref (b + 253), .ref (b + 254), .ref (b + 255), .ref (b + 256), .ref (b + 257), .ref (b + 258), .ref (b + 259), .ref (b + 260), .ref (b + 261), .ref (b + 262), .ref (b + 263), .ref (b + 264), .ref (b + 265), .ref (b + 266), .ref (b + 267), .ref (b + 268), .ref (b + 269), .ref (b + 270), .ref (b + 271), .ref (b + 272), .ref (b + 273), .ref (b + 274), .ref (b + 275), .ref (b + 276), .int (f 68), .int (f 69), .ref (b + 277), .ref (b + 278)]) (fun _ => Nat.le_of_ble_eq_true rfl) (fun _ _ => rfl) hdg hp h kk
theorem fg_Model_173_Model {g : pj_G} {b : Nat} {cc : ByteArray} {nL : Nat} {ret : Option FieldType} {rm : Room} {u : pj_M} {pc pc' : Nat} {vs : List (Option Value)} {st : List Value} (C : pj_X g cc nL R_Mo ret rm) {i : Nat} (t : pj_T i = 11) (hdg : decode cc pc = .ok (.getfield 173, 3)) (hp : pc + 3 = pc') (kk : pj_J g (pj_N g b u) pc' vs (.ref (b + 272) :: st)) : pj_J g (pj_N g b u) pc vs (.ref (b + i) :: st) :=
  pj_get C cl_Model hin_Model (k := 63) (Nat.le_of_ble_eq_true rfl) wm_1187 (Or.inl rfl) (pj_lt t (by decide)) (fun E => ko_11 t) rfl hdg hp kk
theorem ck_Model_363_Model {g : pj_G} {b : Nat} {cc : ByteArray} {nL : Nat} {ret : Option FieldType} {rm : Room} {u : pj_M} {pc pc' : Nat} {vs : List (Option Value)} {st : List Value} (C : pj_X g cc nL R_Mo ret rm) {x1 : Int32} {K : pj_M → Prop}  (h : pw_Mo_sendQuery u x1 K) (hdg : decode cc pc = .ok (.invokevirtual 363, 3)) (hp : pc + 3 = pc') (hR : rm_Mo_sendQuery.frames + 1 ≤ rm.frames ∧ 8 + (3 + 11) + rm_Mo_sendQuery.locals ≤ rm.locals) (h8 : (st.map fun v => v.category).sum ≤ 8) (kk : ∀ u', K u' → pj_J g (pj_N g b u') pc' vs st) : pj_J g (pj_N g b u) pc vs (.int x1 :: .ref (b + 217) :: st) :=
  pj_callV C (As := [.int x1]) (fun l D E => pc_Mo_sendQuery l D E  h) rfl rfl cl_Model (pj_lt tk_217 (by decide)) (fun E => ko_11 tk_217) wm_1406 wm_1408 wm_48 wm_103 wm_1409 (by decide +kernel) (n := 1) rfl hR rfl h8 hdg hp (fun v u' hq => by obtain ⟨rfl, hk⟩ := hq; exact kk u' hk)
def rm_Mo_ask : Room := { frames := 6, cells := 0, slots := 0, locals := 135 }
def pb_Mo_ask_0  (K : pj_M → Prop) (u : pj_M) (x1 : Int32) (x2 : Int32) : Prop := vp_in x1 4 ∧ pj_put u 271 x1.toNatClampNeg x2 fun u1 => (vp_in x1 4 ∧ pj_put u1 274 x1.toNatClampNeg (u1 217 68) fun u2 => (pj_put u2 217 68 ((u2 217 68) + 1) fun u3 => (vp_in x1 4 ∧ pj_put u3 272 x1.toNatClampNeg 1 fun u4 => (vp_in x1 4 ∧ pj_put u4 261 x1.toNatClampNeg 0 fun u5 => (pw_Mo_sendQuery u5 x1 fun u6 => (K u6))))))
set_option maxHeartbeats 1000000 in
theorem pt_Mo_ask_0 {g : pj_G} {b : Nat} (C : pj_X g c_Mo_ask 3 R_Mo none rm_Mo_ask) {K : pj_M → Prop} (hE : pj_E g b (pj_Kv K))   {u : pj_M} {x1 : Int32} {x2 : Int32}   (h : pb_Mo_ask_0  K u x1 x2) : pj_J g (pj_N g b u) 0 [some (.ref (b + 217)), some (.int x1), some (.int x2)] [] := by
  unfold pb_Mo_ask_0 at h
  refine pj_aload_n C d_Mo_ask_0 (pc' := 1) (i := 0) (x := b + 217) rfl rfl rfl ?_
  refine fg_Model_170_Model C tk_217 d_Mo_ask_1 (pc' := 4) rfl ?_
  refine pj_iload_n C d_Mo_ask_4 (pc' := 5) (i := 1) (x := x1) rfl rfl rfl ?_
  refine pj_iload_n C d_Mo_ask_5 (pc' := 6) (i := 2) (x := x2) rfl rfl rfl ?_
  refine pj_iast C (pj_lt tk_271 (by decide)) (fun E u => ka_23 tk_271) d_Mo_ask_6 (pc' := 7) rfl h (fun u1 h => ?_)
  refine pj_aload_n C d_Mo_ask_7 (pc' := 8) (i := 0) (x := b + 217) rfl rfl rfl ?_
  refine fg_Model_179_Model C tk_217 d_Mo_ask_8 (pc' := 11) rfl ?_
  refine pj_iload_n C d_Mo_ask_11 (pc' := 12) (i := 1) (x := x1) rfl rfl rfl ?_
  refine pj_aload_n C d_Mo_ask_12 (pc' := 13) (i := 0) (x := b + 217) rfl rfl rfl ?_
  refine fg_Model_360_Model C tk_217 d_Mo_ask_13 (pc' := 16) rfl ?_
  refine pj_iast C (pj_lt tk_274 (by decide)) (fun E u => ka_23 tk_274) d_Mo_ask_16 (pc' := 17) rfl h (fun u2 h => ?_)
  refine pj_aload_n C d_Mo_ask_17 (pc' := 18) (i := 0) (x := b + 217) rfl rfl rfl ?_
  refine pj_dup C d_Mo_ask_18 (pc' := 19) rfl rfl ?_
  refine fg_Model_360_Model C tk_217 d_Mo_ask_19 (pc' := 22) rfl ?_
  refine pj_iconst C d_Mo_ask_22 (pc' := 23) rfl (v := 1) (by decide) ?_
  refine pj_iadd C d_Mo_ask_23 (pc' := 24) rfl ?_
  refine fp_Model_360_Model C tk_217  d_Mo_ask_24 (pc' := 27) rfl h (fun u3 h => ?_)
  refine pj_aload_n C d_Mo_ask_27 (pc' := 28) (i := 0) (x := b + 217) rfl rfl rfl ?_
  refine fg_Model_173_Model C tk_217 d_Mo_ask_28 (pc' := 31) rfl ?_
  refine pj_iload_n C d_Mo_ask_31 (pc' := 32) (i := 1) (x := x1) rfl rfl rfl ?_
  refine pj_iconst C d_Mo_ask_32 (pc' := 33) rfl (v := 1) (by decide) ?_
  refine pj_iast C (pj_lt tk_272 (by decide)) (fun E u => ka_23 tk_272) d_Mo_ask_33 (pc' := 34) rfl h (fun u4 h => ?_)
  refine pj_aload_n C d_Mo_ask_34 (pc' := 35) (i := 0) (x := b + 217) rfl rfl rfl ?_
  refine fg_Model_140_Model C tk_217 d_Mo_ask_35 (pc' := 38) rfl ?_
  refine pj_iload_n C d_Mo_ask_38 (pc' := 39) (i := 1) (x := x1) rfl rfl rfl ?_
  refine pj_iconst C d_Mo_ask_39 (pc' := 40) rfl (v := 0) (by decide) ?_
  refine pj_iast C (pj_lt tk_261 (by decide)) (fun E u => ka_23 tk_261) d_Mo_ask_40 (pc' := 41) rfl h (fun u5 h => ?_)
  refine pj_aload_n C d_Mo_ask_41 (pc' := 42) (i := 0) (x := b + 217) rfl rfl rfl ?_
  refine pj_iload_n C d_Mo_ask_42 (pc' := 43) (i := 1) (x := x1) rfl rfl rfl ?_
  refine ck_Model_363_Model C  h d_Mo_ask_43 (pc' := 46) rfl ⟨Nat.le_of_ble_eq_true rfl, Nat.le_of_ble_eq_true rfl⟩ (Nat.le_of_ble_eq_true rfl) (fun u6 h => ?_)
  exact pj_vret C hE d_Mo_ask_46 ⟨rfl, h⟩
def pw_Mo_ask (u : pj_M) (x1 : Int32) (x2 : Int32) (K : pj_M → Prop) : Prop := pb_Mo_ask_0  K u x1 x2
theorem pc_Mo_ask (l : Launch) (D : va_G) (E : Nat → ClassId) {b : Nat} {u : pj_M} {x1 : Int32} {x2 : Int32} {K : pj_M → Prop}  (h : pw_Mo_ask u x1 x2 K) : pj_C l y_Mo_ask c_Mo_ask 3 none rm_Mo_ask D E b [.ref (b + 217), .int x1, .int x2] u (pj_Kv K) := by
  refine pj_met (own := R_Mo) (by decide +kernel) rfl (Nat.le_of_ble_eq_true rfl) (fun g hE C => ?_)
  unfold pw_Mo_ask at h
  show pj_J g (pj_N g b u) 0 [some (.ref (b + 217)), some (.int x1), some (.int x2)] []
  exact pj_cut (pj_le_s (pj_le_s (pj_le_s pj_le_e))) (pt_Mo_ask_0 C hE   h)
/-! Model.switchTakes(I)V -/
theorem fg_Model_176_Model {g : pj_G} {b : Nat} {cc : ByteArray} {nL : Nat} {ret : Option FieldType} {rm : Room} {u : pj_M} {pc pc' : Nat} {vs : List (Option Value)} {st : List Value} (C : pj_X g cc nL R_Mo ret rm) {i : Nat} (t : pj_T i = 11) (hdg : decode cc pc = .ok (.getfield 176, 3)) (hp : pc + 3 = pc') (kk : pj_J g (pj_N g b u) pc' vs (.ref (b + 273) :: st)) : pj_J g (pj_N g b u) pc vs (.ref (b + i) :: st) :=
  pj_get C cl_Model hin_Model (k := 64) (Nat.le_of_ble_eq_true rfl) wm_1188 (Or.inl rfl) (pj_lt t (by decide)) (fun E => ko_11 t) rfl hdg hp kk
theorem fg_Model_366_Model {g : pj_G} {b : Nat} {cc : ByteArray} {nL : Nat} {ret : Option FieldType} {rm : Room} {u : pj_M} {pc pc' : Nat} {vs : List (Option Value)} {st : List Value} (C : pj_X g cc nL R_Mo ret rm) {i : Nat} (t : pj_T i = 11) (hdg : decode cc pc = .ok (.getfield 366, 3)) (hp : pc + 3 = pc') (kk : pj_J g (pj_N g b u) pc' vs (.int (u i 69) :: st)) : pj_J g (pj_N g b u) pc vs (.ref (b + i) :: st) :=
  pj_get C cl_Model hin_Model (k := 69) (Nat.le_of_ble_eq_true rfl) wm_1193 (Or.inl rfl) (pj_lt t (by decide)) (fun E => ko_11 t) rfl hdg hp kk
theorem ck_Model_369_Model {g : pj_G} {b : Nat} {cc : ByteArray} {nL : Nat} {ret : Option FieldType} {rm : Room} {u : pj_M} {pc pc' : Nat} {vs : List (Option Value)} {st : List Value} (C : pj_X g cc nL R_Mo ret rm) {x1 : Int32} {x2 : Int32} {K : pj_M → Prop}  (h : pw_Mo_ask u x1 x2 K) (hdg : decode cc pc = .ok (.invokevirtual 369, 3)) (hp : pc + 3 = pc') (hR : rm_Mo_ask.frames + 1 ≤ rm.frames ∧ 8 + (3 + 11) + rm_Mo_ask.locals ≤ rm.locals) (h8 : (st.map fun v => v.category).sum ≤ 8) (kk : ∀ u', K u' → pj_J g (pj_N g b u') pc' vs st) : pj_J g (pj_N g b u) pc vs (.int x2 :: .int x1 :: .ref (b + 217) :: st) :=
  pj_callV C (As := [.int x1, .int x2]) (fun l D E => pc_Mo_ask l D E  h) rfl rfl cl_Model (pj_lt tk_217 (by decide)) (fun E => ko_11 tk_217) wm_1452 wm_1454 wm_59 wm_103 wm_1455 (by decide +kernel) (n := 2) rfl hR rfl h8 hdg hp (fun v u' hq => by obtain ⟨rfl, hk⟩ := hq; exact kk u' hk)
def rm_Mo_switchTakes : Room := { frames := 7, cells := 0, slots := 0, locals := 157 }
def pb_Mo_switchTakes_19  (K : pj_M → Prop) (u : pj_M)  : Prop := K u
set_option maxHeartbeats 1000000 in
theorem pt_Mo_switchTakes_19 {g : pj_G} {b : Nat} (C : pj_X g c_Mo_switchTakes 4 R_Mo none rm_Mo_switchTakes) {K : pj_M → Prop} (hE : pj_E g b (pj_Kv K))   {u : pj_M}    (h : pb_Mo_switchTakes_19  K u ) : pj_J g (pj_N g b u) 19 [none, none, none, none] [] := by
  unfold pb_Mo_switchTakes_19 at h
  exact pj_vret C hE d_Mo_switchTakes_19 ⟨rfl, h⟩
def pb_Mo_switchTakes_235  (K : pj_M → Prop) (u : pj_M)  : Prop := K u
set_option maxHeartbeats 1000000 in
theorem pt_Mo_switchTakes_235 {g : pj_G} {b : Nat} (C : pj_X g c_Mo_switchTakes 4 R_Mo none rm_Mo_switchTakes) {K : pj_M → Prop} (hE : pj_E g b (pj_Kv K))   {u : pj_M}    (h : pb_Mo_switchTakes_235  K u ) : pj_J g (pj_N g b u) 235 [none, none, none, none] [] := by
  unfold pb_Mo_switchTakes_235 at h
  exact pj_vret C hE d_Mo_switchTakes_235 ⟨rfl, h⟩
def pb_Mo_switchTakes_226  (K : pj_M → Prop) (u : pj_M) (x1 : Int32) : Prop := pw_Mo_ask u x1 (u 217 69) fun u1 => (pb_Mo_switchTakes_235  K u1 )
set_option maxHeartbeats 1000000 in
theorem pt_Mo_switchTakes_226 {g : pj_G} {b : Nat} (C : pj_X g c_Mo_switchTakes 4 R_Mo none rm_Mo_switchTakes) {K : pj_M → Prop} (hE : pj_E g b (pj_Kv K))   {u : pj_M} {x1 : Int32}   (h : pb_Mo_switchTakes_226  K u x1) : pj_J g (pj_N g b u) 226 [some (.ref (b + 217)), some (.int x1), none, none] [] := by
  unfold pb_Mo_switchTakes_226 at h
  refine pj_aload_n C d_Mo_switchTakes_226 (pc' := 227) (i := 0) (x := b + 217) rfl rfl rfl ?_
  refine pj_iload_n C d_Mo_switchTakes_227 (pc' := 228) (i := 1) (x := x1) rfl rfl rfl ?_
  refine pj_aload_n C d_Mo_switchTakes_228 (pc' := 229) (i := 0) (x := b + 217) rfl rfl rfl ?_
  refine fg_Model_366_Model C tk_217 d_Mo_switchTakes_229 (pc' := 232) rfl ?_
  refine ck_Model_369_Model C  h d_Mo_switchTakes_232 (pc' := 235) rfl ⟨Nat.le_of_ble_eq_true rfl, Nat.le_of_ble_eq_true rfl⟩ (Nat.le_of_ble_eq_true rfl) (fun u1 h => ?_)
  exact pj_cut (pj_le_n (pj_le_n (pj_le_n (pj_le_n pj_le_e)))) (pt_Mo_switchTakes_235 C hE   h)
def pb_Mo_switchTakes_203 (R195 : pj_M → Int32 → Prop) (K : pj_M → Prop) (u : pj_M) (x1 : Int32) (x3 : Int32) : Prop := vp_in x3 48 ∧ (vp_in ((20 * x1) + x3) 80 ∧ pj_put u 276 ((20 * x1) + x3).toNatClampNeg (u 227 x3.toNatClampNeg) fun u1 => (R195 u1 (x3 + 1)))
set_option maxHeartbeats 1000000 in
theorem pt_Mo_switchTakes_203 {g : pj_G} {b : Nat} (C : pj_X g c_Mo_switchTakes 4 R_Mo none rm_Mo_switchTakes) {K : pj_M → Prop} (hE : pj_E g b (pj_Kv K)) {R195 : pj_M → Int32 → Prop}  {u : pj_M} {x1 : Int32} {x3 : Int32} (hR195 : ∀ (u : pj_M) (x3 : Int32), R195 u x3 → pj_J g (pj_N g b u) 195 [some (.ref (b + 217)), some (.int x1), none, some (.int x3)] [])  (h : pb_Mo_switchTakes_203 R195 K u x1 x3) : pj_J g (pj_N g b u) 203 [some (.ref (b + 217)), some (.int x1), none, some (.int x3)] [] := by
  unfold pb_Mo_switchTakes_203 at h
  refine pj_aload_n C d_Mo_switchTakes_203 (pc' := 204) (i := 0) (x := b + 217) rfl rfl rfl ?_
  refine fg_Model_185_Model C tk_217 d_Mo_switchTakes_204 (pc' := 207) rfl ?_
  refine pj_bipush C d_Mo_switchTakes_207 (pc' := 209) rfl (v := 20) (by decide) ?_
  refine pj_iload_n C d_Mo_switchTakes_209 (pc' := 210) (i := 1) (x := x1) rfl rfl rfl ?_
  refine pj_imul C d_Mo_switchTakes_210 (pc' := 211) rfl ?_
  refine pj_iload_n C d_Mo_switchTakes_211 (pc' := 212) (i := 3) (x := x3) rfl rfl rfl ?_
  refine pj_iadd C d_Mo_switchTakes_212 (pc' := 213) rfl ?_
  refine pj_aload_n C d_Mo_switchTakes_213 (pc' := 214) (i := 0) (x := b + 217) rfl rfl rfl ?_
  refine fg_Model_38_Model C tk_217 d_Mo_switchTakes_214 (pc' := 217) rfl ?_
  refine pj_iload_n C d_Mo_switchTakes_217 (pc' := 218) (i := 3) (x := x3) rfl rfl rfl ?_
  refine pj_iald C (pj_lt tk_227 (by decide)) (fun E u => ka_22 tk_227) d_Mo_switchTakes_218 (pc' := 219) rfl h (fun h => ?_)
  refine pj_iast C (pj_lt tk_276 (by decide)) (fun E u => ka_35 tk_276) d_Mo_switchTakes_219 (pc' := 220) rfl h (fun u1 h => ?_)
  refine pj_iinc C d_Mo_switchTakes_220 (pc' := 223) (x := x3) (d := 1) (vs' := [some (.ref (b + 217)), some (.int x1), none, some (.int (x3 + 1))]) rfl rfl (Nat.le_of_ble_eq_true rfl) rfl (by decide) rfl ?_
  refine pj_goto C d_Mo_switchTakes_223 (tgt := 195) (by decide) ?_
  exact pj_cut (pj_le_s (pj_le_s (pj_le_n (pj_le_s pj_le_e)))) (hR195 _ _ h)
def pb_Mo_switchTakes_195b (R195 : pj_M → Int32 → Prop) (K : pj_M → Prop) (u : pj_M) (x1 : Int32) (x3 : Int32) : Prop := (((u 217 16) ≤ x3) → (pb_Mo_switchTakes_226  K u x1)) ∧ (¬ ((u 217 16) ≤ x3) → (pb_Mo_switchTakes_203 R195 K u x1 x3))
set_option maxHeartbeats 1000000 in
theorem pt_Mo_switchTakes_195b {g : pj_G} {b : Nat} (C : pj_X g c_Mo_switchTakes 4 R_Mo none rm_Mo_switchTakes) {K : pj_M → Prop} (hE : pj_E g b (pj_Kv K)) {R195 : pj_M → Int32 → Prop}  {u : pj_M} {x1 : Int32} {x3 : Int32} (hR195 : ∀ (u : pj_M) (x3 : Int32), R195 u x3 → pj_J g (pj_N g b u) 195 [some (.ref (b + 217)), some (.int x1), none, some (.int x3)] [])  (h : pb_Mo_switchTakes_195b R195 K u x1 x3) : pj_J g (pj_N g b u) 195 [some (.ref (b + 217)), some (.int x1), none, some (.int x3)] [] := by
  unfold pb_Mo_switchTakes_195b at h
  refine pj_iload_n C d_Mo_switchTakes_195 (pc' := 196) (i := 3) (x := x3) rfl rfl rfl ?_
  refine pj_aload_n C d_Mo_switchTakes_196 (pc' := 197) (i := 0) (x := b + 217) rfl rfl rfl ?_
  refine fg_Model_233_Model C tk_217 d_Mo_switchTakes_197 (pc' := 200) rfl ?_
  refine pj_icmp_ge C d_Mo_switchTakes_200 (pc' := 203) rfl (tgt := 226) (by decide) h (fun h => ?_) (fun h => ?_)
  · exact pj_cut (pj_le_s (pj_le_s (pj_le_n (pj_le_n pj_le_e)))) (pt_Mo_switchTakes_226 C hE   h)
  · exact pj_cut (pj_le_s (pj_le_s (pj_le_n (pj_le_s pj_le_e)))) (pt_Mo_switchTakes_203 C hE hR195  h)
def pb_Mo_switchTakes_195  (K : pj_M → Prop) (x1 : Int32) : Nat → pj_M → Int32 → Prop
  | 0 => fun _ _ => False
  | n + 1 => fun u x3 => pb_Mo_switchTakes_195b (pb_Mo_switchTakes_195  K x1 n) K u x1 x3
theorem pt_Mo_switchTakes_195 {g : pj_G} {b : Nat} (C : pj_X g c_Mo_switchTakes 4 R_Mo none rm_Mo_switchTakes) {K : pj_M → Prop} (hE : pj_E g b (pj_Kv K))  {x1 : Int32}   : ∀ (n : Nat) (u : pj_M) (x3 : Int32), pb_Mo_switchTakes_195  K x1 n u x3 → pj_J g (pj_N g b u) 195 [some (.ref (b + 217)), some (.int x1), none, some (.int x3)] [] := by
  intro n
  induction n with
  | zero => intro u x3 h; exact False.elim h
  | succ n ih =>
    intro u x3 h
    exact (pt_Mo_switchTakes_195b C hE ih  h)
def pb_Mo_switchTakes_161  (K : pj_M → Prop) (u : pj_M) (x1 : Int32) (s0 : Int32) (s1 : Int32) : Prop := vp_in s1 4 ∧ pj_put u 267 s1.toNatClampNeg s0 fun u1 => (vp_in x1 4 ∧ pj_put u1 259 x1.toNatClampNeg 2 fun u2 => (vp_in x1 4 ∧ pj_put u2 264 x1.toNatClampNeg (vp_nar .boolean 0) fun u3 => (vp_in x1 4 ∧ pj_put u3 273 x1.toNatClampNeg (vp_nar .boolean 0) fun u4 => (vp_in x1 4 ∧ pj_put u4 275 x1.toNatClampNeg (u4 217 16) fun u5 => (∃ n, pb_Mo_switchTakes_195  K x1 n u5 0)))))
set_option maxHeartbeats 1000000 in
theorem pt_Mo_switchTakes_161 {g : pj_G} {b : Nat} (C : pj_X g c_Mo_switchTakes 4 R_Mo none rm_Mo_switchTakes) {K : pj_M → Prop} (hE : pj_E g b (pj_Kv K))   {u : pj_M} {x1 : Int32} {s0 : Int32} {s1 : Int32}   (h : pb_Mo_switchTakes_161  K u x1 s0 s1) : pj_J g (pj_N g b u) 161 [some (.ref (b + 217)), some (.int x1), none, none] [.int s0, .int s1, .ref (b + 267)] := by
  unfold pb_Mo_switchTakes_161 at h
  refine pj_iast C (pj_lt tk_267 (by decide)) (fun E u => ka_23 tk_267) d_Mo_switchTakes_161 (pc' := 162) rfl h (fun u1 h => ?_)
  refine pj_aload_n C d_Mo_switchTakes_162 (pc' := 163) (i := 0) (x := b + 217) rfl rfl rfl ?_
  refine fg_Model_134_Model C tk_217 d_Mo_switchTakes_163 (pc' := 166) rfl ?_
  refine pj_iload_n C d_Mo_switchTakes_166 (pc' := 167) (i := 1) (x := x1) rfl rfl rfl ?_
  refine pj_iconst C d_Mo_switchTakes_167 (pc' := 168) rfl (v := 2) (by decide) ?_
  refine pj_iast C (pj_lt tk_259 (by decide)) (fun E u => ka_23 tk_259) d_Mo_switchTakes_168 (pc' := 169) rfl h (fun u2 h => ?_)
  refine pj_aload_n C d_Mo_switchTakes_169 (pc' := 170) (i := 0) (x := b + 217) rfl rfl rfl ?_
  refine fg_Model_149_Model C tk_217 d_Mo_switchTakes_170 (pc' := 173) rfl ?_
  refine pj_iload_n C d_Mo_switchTakes_173 (pc' := 174) (i := 1) (x := x1) rfl rfl rfl ?_
  refine pj_iconst C d_Mo_switchTakes_174 (pc' := 175) rfl (v := 0) (by decide) ?_
  refine pj_zast C (pj_lt tk_264 (by decide)) (fun E u => ka_31 tk_264) d_Mo_switchTakes_175 (pc' := 176) rfl h (fun u3 h => ?_)
  refine pj_aload_n C d_Mo_switchTakes_176 (pc' := 177) (i := 0) (x := b + 217) rfl rfl rfl ?_
  refine fg_Model_176_Model C tk_217 d_Mo_switchTakes_177 (pc' := 180) rfl ?_
  refine pj_iload_n C d_Mo_switchTakes_180 (pc' := 181) (i := 1) (x := x1) rfl rfl rfl ?_
  refine pj_iconst C d_Mo_switchTakes_181 (pc' := 182) rfl (v := 0) (by decide) ?_
  refine pj_zast C (pj_lt tk_273 (by decide)) (fun E u => ka_31 tk_273) d_Mo_switchTakes_182 (pc' := 183) rfl h (fun u4 h => ?_)
  refine pj_aload_n C d_Mo_switchTakes_183 (pc' := 184) (i := 0) (x := b + 217) rfl rfl rfl ?_
  refine fg_Model_182_Model C tk_217 d_Mo_switchTakes_184 (pc' := 187) rfl ?_
  refine pj_iload_n C d_Mo_switchTakes_187 (pc' := 188) (i := 1) (x := x1) rfl rfl rfl ?_
  refine pj_aload_n C d_Mo_switchTakes_188 (pc' := 189) (i := 0) (x := b + 217) rfl rfl rfl ?_
  refine fg_Model_233_Model C tk_217 d_Mo_switchTakes_189 (pc' := 192) rfl ?_
  refine pj_iast C (pj_lt tk_275 (by decide)) (fun E u => ka_23 tk_275) d_Mo_switchTakes_192 (pc' := 193) rfl h (fun u5 h => ?_)
  refine pj_iconst C d_Mo_switchTakes_193 (pc' := 194) rfl (v := 0) (by decide) ?_
  refine pj_istore_n C d_Mo_switchTakes_194 (pc' := 195) (i := 3) (vs' := [some (.ref (b + 217)), some (.int x1), none, some (.int 0)]) rfl rfl (Nat.le_of_ble_eq_true rfl) (Nat.le_of_ble_eq_true rfl) rfl rfl ?_
  obtain ⟨n, h⟩ := h
  exact pj_cut (pj_le_s (pj_le_s (pj_le_n (pj_le_s pj_le_e)))) (pt_Mo_switchTakes_195 C hE   n _ _ h)
def pb_Mo_switchTakes_155  (K : pj_M → Prop) (u : pj_M) (x1 : Int32) (s0 : Int32) : Prop := vp_in x1 4 ∧ (pb_Mo_switchTakes_161  K u x1 (u 267 x1.toNatClampNeg) s0)
set_option maxHeartbeats 1000000 in
theorem pt_Mo_switchTakes_155 {g : pj_G} {b : Nat} (C : pj_X g c_Mo_switchTakes 4 R_Mo none rm_Mo_switchTakes) {K : pj_M → Prop} (hE : pj_E g b (pj_Kv K))   {u : pj_M} {x1 : Int32} {s0 : Int32}   (h : pb_Mo_switchTakes_155  K u x1 s0) : pj_J g (pj_N g b u) 155 [some (.ref (b + 217)), some (.int x1), none, none] [.int s0, .ref (b + 267)] := by
  unfold pb_Mo_switchTakes_155 at h
  refine pj_aload_n C d_Mo_switchTakes_155 (pc' := 156) (i := 0) (x := b + 217) rfl rfl rfl ?_
  refine fg_Model_158_Model C tk_217 d_Mo_switchTakes_156 (pc' := 159) rfl ?_
  refine pj_iload_n C d_Mo_switchTakes_159 (pc' := 160) (i := 1) (x := x1) rfl rfl rfl ?_
  refine pj_iald C (pj_lt tk_267 (by decide)) (fun E u => ka_23 tk_267) d_Mo_switchTakes_160 (pc' := 161) rfl h (fun h => ?_)
  exact pj_cut (pj_le_s (pj_le_s (pj_le_n (pj_le_n pj_le_e)))) (pt_Mo_switchTakes_161 C hE   h)
def pb_Mo_switchTakes_146  (K : pj_M → Prop) (u : pj_M) (x1 : Int32) (s0 : Int32) : Prop := vp_in 4 48 ∧ (pb_Mo_switchTakes_161  K u x1 (u 227 (4 : Int32).toNatClampNeg) s0)
set_option maxHeartbeats 1000000 in
theorem pt_Mo_switchTakes_146 {g : pj_G} {b : Nat} (C : pj_X g c_Mo_switchTakes 4 R_Mo none rm_Mo_switchTakes) {K : pj_M → Prop} (hE : pj_E g b (pj_Kv K))   {u : pj_M} {x1 : Int32} {s0 : Int32}   (h : pb_Mo_switchTakes_146  K u x1 s0) : pj_J g (pj_N g b u) 146 [some (.ref (b + 217)), some (.int x1), none, none] [.int s0, .ref (b + 267)] := by
  unfold pb_Mo_switchTakes_146 at h
  refine pj_aload_n C d_Mo_switchTakes_146 (pc' := 147) (i := 0) (x := b + 217) rfl rfl rfl ?_
  refine fg_Model_38_Model C tk_217 d_Mo_switchTakes_147 (pc' := 150) rfl ?_
  refine pj_iconst C d_Mo_switchTakes_150 (pc' := 151) rfl (v := 4) (by decide) ?_
  refine pj_iald C (pj_lt tk_227 (by decide)) (fun E u => ka_22 tk_227) d_Mo_switchTakes_151 (pc' := 152) rfl h (fun h => ?_)
  refine pj_goto C d_Mo_switchTakes_152 (tgt := 161) (by decide) ?_
  exact pj_cut (pj_le_s (pj_le_s (pj_le_n (pj_le_n pj_le_e)))) (pt_Mo_switchTakes_161 C hE   h)
def pb_Mo_switchTakes_131  (K : pj_M → Prop) (u : pj_M) (x1 : Int32) : Prop := vp_in x1 4 ∧ ((((u 259 x1.toNatClampNeg) = 1) → (pb_Mo_switchTakes_146  K u x1 x1)) ∧ (¬ ((u 259 x1.toNatClampNeg) = 1) → (pb_Mo_switchTakes_155  K u x1 x1)))
set_option maxHeartbeats 1000000 in
theorem pt_Mo_switchTakes_131 {g : pj_G} {b : Nat} (C : pj_X g c_Mo_switchTakes 4 R_Mo none rm_Mo_switchTakes) {K : pj_M → Prop} (hE : pj_E g b (pj_Kv K))   {u : pj_M} {x1 : Int32}   (h : pb_Mo_switchTakes_131  K u x1) : pj_J g (pj_N g b u) 131 [some (.ref (b + 217)), some (.int x1), none, none] [] := by
  unfold pb_Mo_switchTakes_131 at h
  refine pj_aload_n C d_Mo_switchTakes_131 (pc' := 132) (i := 0) (x := b + 217) rfl rfl rfl ?_
  refine fg_Model_158_Model C tk_217 d_Mo_switchTakes_132 (pc' := 135) rfl ?_
  refine pj_iload_n C d_Mo_switchTakes_135 (pc' := 136) (i := 1) (x := x1) rfl rfl rfl ?_
  refine pj_aload_n C d_Mo_switchTakes_136 (pc' := 137) (i := 0) (x := b + 217) rfl rfl rfl ?_
  refine fg_Model_134_Model C tk_217 d_Mo_switchTakes_137 (pc' := 140) rfl ?_
  refine pj_iload_n C d_Mo_switchTakes_140 (pc' := 141) (i := 1) (x := x1) rfl rfl rfl ?_
  refine pj_iald C (pj_lt tk_259 (by decide)) (fun E u => ka_23 tk_259) d_Mo_switchTakes_141 (pc' := 142) rfl h (fun h => ?_)
  refine pj_iconst C d_Mo_switchTakes_142 (pc' := 143) rfl (v := 1) (by decide) ?_
  refine pj_icmp_ne C d_Mo_switchTakes_143 (pc' := 146) rfl (tgt := 155) (by decide) h (fun h => ?_) (fun h => ?_)
  · exact pj_cut (pj_le_s (pj_le_s (pj_le_n (pj_le_n pj_le_e)))) (pt_Mo_switchTakes_155 C hE   h)
  · exact pj_cut (pj_le_s (pj_le_s (pj_le_n (pj_le_n pj_le_e)))) (pt_Mo_switchTakes_146 C hE   h)
def pb_Mo_switchTakes_123  (K : pj_M → Prop) (u : pj_M) (x1 : Int32) : Prop := (((u 217 16) = 5) → (pb_Mo_switchTakes_131  K u x1)) ∧ (¬ ((u 217 16) = 5) → (pb_Mo_switchTakes_235  K u ))
set_option maxHeartbeats 1000000 in
theorem pt_Mo_switchTakes_123 {g : pj_G} {b : Nat} (C : pj_X g c_Mo_switchTakes 4 R_Mo none rm_Mo_switchTakes) {K : pj_M → Prop} (hE : pj_E g b (pj_Kv K))   {u : pj_M} {x1 : Int32}   (h : pb_Mo_switchTakes_123  K u x1) : pj_J g (pj_N g b u) 123 [some (.ref (b + 217)), some (.int x1), none, none] [] := by
  unfold pb_Mo_switchTakes_123 at h
  refine pj_aload_n C d_Mo_switchTakes_123 (pc' := 124) (i := 0) (x := b + 217) rfl rfl rfl ?_
  refine fg_Model_233_Model C tk_217 d_Mo_switchTakes_124 (pc' := 127) rfl ?_
  refine pj_iconst C d_Mo_switchTakes_127 (pc' := 128) rfl (v := 5) (by decide) ?_
  refine pj_icmp_ne C d_Mo_switchTakes_128 (pc' := 131) rfl (tgt := 235) (by decide) h (fun h => ?_) (fun h => ?_)
  · exact pj_cut (pj_le_n (pj_le_n (pj_le_n (pj_le_n pj_le_e)))) (pt_Mo_switchTakes_235 C hE   h)
  · exact pj_cut (pj_le_s (pj_le_s (pj_le_n (pj_le_n pj_le_e)))) (pt_Mo_switchTakes_131 C hE   h)
def pb_Mo_switchTakes_113  (K : pj_M → Prop) (u : pj_M) (x1 : Int32) : Prop := vp_in 3 48 ∧ ((((u 227 (3 : Int32).toNatClampNeg) = 1) → (pb_Mo_switchTakes_123  K u x1)) ∧ (¬ ((u 227 (3 : Int32).toNatClampNeg) = 1) → (pb_Mo_switchTakes_235  K u )))
set_option maxHeartbeats 1000000 in
theorem pt_Mo_switchTakes_113 {g : pj_G} {b : Nat} (C : pj_X g c_Mo_switchTakes 4 R_Mo none rm_Mo_switchTakes) {K : pj_M → Prop} (hE : pj_E g b (pj_Kv K))   {u : pj_M} {x1 : Int32}   (h : pb_Mo_switchTakes_113  K u x1) : pj_J g (pj_N g b u) 113 [some (.ref (b + 217)), some (.int x1), none, none] [] := by
  unfold pb_Mo_switchTakes_113 at h
  refine pj_aload_n C d_Mo_switchTakes_113 (pc' := 114) (i := 0) (x := b + 217) rfl rfl rfl ?_
  refine fg_Model_38_Model C tk_217 d_Mo_switchTakes_114 (pc' := 117) rfl ?_
  refine pj_iconst C d_Mo_switchTakes_117 (pc' := 118) rfl (v := 3) (by decide) ?_
  refine pj_iald C (pj_lt tk_227 (by decide)) (fun E u => ka_22 tk_227) d_Mo_switchTakes_118 (pc' := 119) rfl h (fun h => ?_)
  refine pj_iconst C d_Mo_switchTakes_119 (pc' := 120) rfl (v := 1) (by decide) ?_
  refine pj_icmp_ne C d_Mo_switchTakes_120 (pc' := 123) rfl (tgt := 235) (by decide) h (fun h => ?_) (fun h => ?_)
  · exact pj_cut (pj_le_n (pj_le_n (pj_le_n (pj_le_n pj_le_e)))) (pt_Mo_switchTakes_235 C hE   h)
  · exact pj_cut (pj_le_s (pj_le_s (pj_le_n (pj_le_n pj_le_e)))) (pt_Mo_switchTakes_123 C hE   h)
def pb_Mo_switchTakes_103  (K : pj_M → Prop) (u : pj_M) (x1 : Int32) : Prop := vp_in x1 4 ∧ ((((u 259 x1.toNatClampNeg) = 2) → (pb_Mo_switchTakes_131  K u x1)) ∧ (¬ ((u 259 x1.toNatClampNeg) = 2) → (pb_Mo_switchTakes_113  K u x1)))
set_option maxHeartbeats 1000000 in
theorem pt_Mo_switchTakes_103 {g : pj_G} {b : Nat} (C : pj_X g c_Mo_switchTakes 4 R_Mo none rm_Mo_switchTakes) {K : pj_M → Prop} (hE : pj_E g b (pj_Kv K))   {u : pj_M} {x1 : Int32}   (h : pb_Mo_switchTakes_103  K u x1) : pj_J g (pj_N g b u) 103 [some (.ref (b + 217)), some (.int x1), none, none] [] := by
  unfold pb_Mo_switchTakes_103 at h
  refine pj_aload_n C d_Mo_switchTakes_103 (pc' := 104) (i := 0) (x := b + 217) rfl rfl rfl ?_
  refine fg_Model_134_Model C tk_217 d_Mo_switchTakes_104 (pc' := 107) rfl ?_
  refine pj_iload_n C d_Mo_switchTakes_107 (pc' := 108) (i := 1) (x := x1) rfl rfl rfl ?_
  refine pj_iald C (pj_lt tk_259 (by decide)) (fun E u => ka_23 tk_259) d_Mo_switchTakes_108 (pc' := 109) rfl h (fun h => ?_)
  refine pj_iconst C d_Mo_switchTakes_109 (pc' := 110) rfl (v := 2) (by decide) ?_
  refine pj_icmp_eq C d_Mo_switchTakes_110 (pc' := 113) rfl (tgt := 131) (by decide) h (fun h => ?_) (fun h => ?_)
  · exact pj_cut (pj_le_s (pj_le_s (pj_le_n (pj_le_n pj_le_e)))) (pt_Mo_switchTakes_131 C hE   h)
  · exact pj_cut (pj_le_s (pj_le_s (pj_le_n (pj_le_n pj_le_e)))) (pt_Mo_switchTakes_113 C hE   h)
def pb_Mo_switchTakes_83  (K : pj_M → Prop) (u : pj_M) (x1 : Int32) : Prop := vp_in 1 48 ∧ (vp_in ((20 * x1) + 1) 80 ∧ ((((u 227 (1 : Int32).toNatClampNeg) = (u 263 ((20 * x1) + 1).toNatClampNeg)) → (pb_Mo_switchTakes_103  K u x1)) ∧ (¬ ((u 227 (1 : Int32).toNatClampNeg) = (u 263 ((20 * x1) + 1).toNatClampNeg)) → (pb_Mo_switchTakes_235  K u ))))
set_option maxHeartbeats 1000000 in
theorem pt_Mo_switchTakes_83 {g : pj_G} {b : Nat} (C : pj_X g c_Mo_switchTakes 4 R_Mo none rm_Mo_switchTakes) {K : pj_M → Prop} (hE : pj_E g b (pj_Kv K))   {u : pj_M} {x1 : Int32}   (h : pb_Mo_switchTakes_83  K u x1) : pj_J g (pj_N g b u) 83 [some (.ref (b + 217)), some (.int x1), none, none] [] := by
  unfold pb_Mo_switchTakes_83 at h
  refine pj_aload_n C d_Mo_switchTakes_83 (pc' := 84) (i := 0) (x := b + 217) rfl rfl rfl ?_
  refine fg_Model_38_Model C tk_217 d_Mo_switchTakes_84 (pc' := 87) rfl ?_
  refine pj_iconst C d_Mo_switchTakes_87 (pc' := 88) rfl (v := 1) (by decide) ?_
  refine pj_iald C (pj_lt tk_227 (by decide)) (fun E u => ka_22 tk_227) d_Mo_switchTakes_88 (pc' := 89) rfl h (fun h => ?_)
  refine pj_aload_n C d_Mo_switchTakes_89 (pc' := 90) (i := 0) (x := b + 217) rfl rfl rfl ?_
  refine fg_Model_146_Model C tk_217 d_Mo_switchTakes_90 (pc' := 93) rfl ?_
  refine pj_bipush C d_Mo_switchTakes_93 (pc' := 95) rfl (v := 20) (by decide) ?_
  refine pj_iload_n C d_Mo_switchTakes_95 (pc' := 96) (i := 1) (x := x1) rfl rfl rfl ?_
  refine pj_imul C d_Mo_switchTakes_96 (pc' := 97) rfl ?_
  refine pj_iconst C d_Mo_switchTakes_97 (pc' := 98) rfl (v := 1) (by decide) ?_
  refine pj_iadd C d_Mo_switchTakes_98 (pc' := 99) rfl ?_
  refine pj_iald C (pj_lt tk_263 (by decide)) (fun E u => ka_35 tk_263) d_Mo_switchTakes_99 (pc' := 100) rfl h (fun h => ?_)
  refine pj_icmp_ne C d_Mo_switchTakes_100 (pc' := 103) rfl (tgt := 235) (by decide) h (fun h => ?_) (fun h => ?_)
  · exact pj_cut (pj_le_n (pj_le_n (pj_le_n (pj_le_n pj_le_e)))) (pt_Mo_switchTakes_235 C hE   h)
  · exact pj_cut (pj_le_s (pj_le_s (pj_le_n (pj_le_n pj_le_e)))) (pt_Mo_switchTakes_103 C hE   h)
def pb_Mo_switchTakes_74  (K : pj_M → Prop) (u : pj_M) (x1 : Int32) : Prop := vp_in x1 4 ∧ ((((u 264 x1.toNatClampNeg) = 0) → (pb_Mo_switchTakes_235  K u )) ∧ (¬ ((u 264 x1.toNatClampNeg) = 0) → (pb_Mo_switchTakes_83  K u x1)))
set_option maxHeartbeats 1000000 in
theorem pt_Mo_switchTakes_74 {g : pj_G} {b : Nat} (C : pj_X g c_Mo_switchTakes 4 R_Mo none rm_Mo_switchTakes) {K : pj_M → Prop} (hE : pj_E g b (pj_Kv K))   {u : pj_M} {x1 : Int32}   (h : pb_Mo_switchTakes_74  K u x1) : pj_J g (pj_N g b u) 74 [some (.ref (b + 217)), some (.int x1), none, none] [] := by
  unfold pb_Mo_switchTakes_74 at h
  refine pj_aload_n C d_Mo_switchTakes_74 (pc' := 75) (i := 0) (x := b + 217) rfl rfl rfl ?_
  refine fg_Model_149_Model C tk_217 d_Mo_switchTakes_75 (pc' := 78) rfl ?_
  refine pj_iload_n C d_Mo_switchTakes_78 (pc' := 79) (i := 1) (x := x1) rfl rfl rfl ?_
  refine pj_zald C (pj_lt tk_264 (by decide)) (fun E u => ka_31 tk_264) d_Mo_switchTakes_79 (pc' := 80) rfl h (fun h => ?_)
  refine pj_if_eq C d_Mo_switchTakes_80 (pc' := 83) rfl (tgt := 235) (by decide) h (fun h => ?_) (fun h => ?_)
  · exact pj_cut (pj_le_n (pj_le_n (pj_le_n (pj_le_n pj_le_e)))) (pt_Mo_switchTakes_235 C hE   h)
  · exact pj_cut (pj_le_s (pj_le_s (pj_le_n (pj_le_n pj_le_e)))) (pt_Mo_switchTakes_83 C hE   h)
def pb_Mo_switchTakes_64  (K : pj_M → Prop) (u : pj_M) (x1 : Int32) : Prop := vp_in 0 48 ∧ ((((u 227 (0 : Int32).toNatClampNeg) = 2) → (pb_Mo_switchTakes_74  K u x1)) ∧ (¬ ((u 227 (0 : Int32).toNatClampNeg) = 2) → (pb_Mo_switchTakes_235  K u )))
set_option maxHeartbeats 1000000 in
theorem pt_Mo_switchTakes_64 {g : pj_G} {b : Nat} (C : pj_X g c_Mo_switchTakes 4 R_Mo none rm_Mo_switchTakes) {K : pj_M → Prop} (hE : pj_E g b (pj_Kv K))   {u : pj_M} {x1 : Int32}   (h : pb_Mo_switchTakes_64  K u x1) : pj_J g (pj_N g b u) 64 [some (.ref (b + 217)), some (.int x1), none, none] [] := by
  unfold pb_Mo_switchTakes_64 at h
  refine pj_aload_n C d_Mo_switchTakes_64 (pc' := 65) (i := 0) (x := b + 217) rfl rfl rfl ?_
  refine fg_Model_38_Model C tk_217 d_Mo_switchTakes_65 (pc' := 68) rfl ?_
  refine pj_iconst C d_Mo_switchTakes_68 (pc' := 69) rfl (v := 0) (by decide) ?_
  refine pj_iald C (pj_lt tk_227 (by decide)) (fun E u => ka_22 tk_227) d_Mo_switchTakes_69 (pc' := 70) rfl h (fun h => ?_)
  refine pj_iconst C d_Mo_switchTakes_70 (pc' := 71) rfl (v := 2) (by decide) ?_
  refine pj_icmp_ne C d_Mo_switchTakes_71 (pc' := 74) rfl (tgt := 235) (by decide) h (fun h => ?_) (fun h => ?_)
  · exact pj_cut (pj_le_n (pj_le_n (pj_le_n (pj_le_n pj_le_e)))) (pt_Mo_switchTakes_235 C hE   h)
  · exact pj_cut (pj_le_s (pj_le_s (pj_le_n (pj_le_n pj_le_e)))) (pt_Mo_switchTakes_74 C hE   h)
def pb_Mo_switchTakes_56  (K : pj_M → Prop) (u : pj_M) (x1 : Int32) : Prop := pw_Mo_beginPort u x1 fun u1 => (pb_Mo_switchTakes_235  K u1 )
set_option maxHeartbeats 1000000 in
theorem pt_Mo_switchTakes_56 {g : pj_G} {b : Nat} (C : pj_X g c_Mo_switchTakes 4 R_Mo none rm_Mo_switchTakes) {K : pj_M → Prop} (hE : pj_E g b (pj_Kv K))   {u : pj_M} {x1 : Int32}   (h : pb_Mo_switchTakes_56  K u x1) : pj_J g (pj_N g b u) 56 [some (.ref (b + 217)), some (.int x1), none, none] [] := by
  unfold pb_Mo_switchTakes_56 at h
  refine pj_aload_n C d_Mo_switchTakes_56 (pc' := 57) (i := 0) (x := b + 217) rfl rfl rfl ?_
  refine pj_iload_n C d_Mo_switchTakes_57 (pc' := 58) (i := 1) (x := x1) rfl rfl rfl ?_
  refine ck_Model_354_Model C  h d_Mo_switchTakes_58 (pc' := 61) rfl ⟨Nat.le_of_ble_eq_true rfl, Nat.le_of_ble_eq_true rfl⟩ (Nat.le_of_ble_eq_true rfl) (fun u1 h => ?_)
  refine pj_goto C d_Mo_switchTakes_61 (tgt := 235) (by decide) ?_
  exact pj_cut (pj_le_n (pj_le_n (pj_le_n (pj_le_n pj_le_e)))) (pt_Mo_switchTakes_235 C hE   h)
def pb_Mo_switchTakes_51  (K : pj_M → Prop) (u : pj_M) (x1 : Int32) : Prop := pw_Mo_close u x1 fun u1 => (pb_Mo_switchTakes_56  K u1 x1)
set_option maxHeartbeats 1000000 in
theorem pt_Mo_switchTakes_51 {g : pj_G} {b : Nat} (C : pj_X g c_Mo_switchTakes 4 R_Mo none rm_Mo_switchTakes) {K : pj_M → Prop} (hE : pj_E g b (pj_Kv K))   {u : pj_M} {x1 : Int32}   (h : pb_Mo_switchTakes_51  K u x1) : pj_J g (pj_N g b u) 51 [some (.ref (b + 217)), some (.int x1), none, none] [] := by
  unfold pb_Mo_switchTakes_51 at h
  refine pj_aload_n C d_Mo_switchTakes_51 (pc' := 52) (i := 0) (x := b + 217) rfl rfl rfl ?_
  refine pj_iload_n C d_Mo_switchTakes_52 (pc' := 53) (i := 1) (x := x1) rfl rfl rfl ?_
  refine ck_Model_351_Model C  h d_Mo_switchTakes_53 (pc' := 56) rfl ⟨Nat.le_of_ble_eq_true rfl, Nat.le_of_ble_eq_true rfl⟩ (Nat.le_of_ble_eq_true rfl) (fun u1 h => ?_)
  exact pj_cut (pj_le_s (pj_le_s (pj_le_n (pj_le_n pj_le_e)))) (pt_Mo_switchTakes_56 C hE   h)
def pb_Mo_switchTakes_46  (K : pj_M → Prop) (u : pj_M) (x1 : Int32) (x2 : Int32) : Prop := ((x2 = 2) → (pb_Mo_switchTakes_51  K u x1)) ∧ (¬ (x2 = 2) → (pb_Mo_switchTakes_56  K u x1))
set_option maxHeartbeats 1000000 in
theorem pt_Mo_switchTakes_46 {g : pj_G} {b : Nat} (C : pj_X g c_Mo_switchTakes 4 R_Mo none rm_Mo_switchTakes) {K : pj_M → Prop} (hE : pj_E g b (pj_Kv K))   {u : pj_M} {x1 : Int32} {x2 : Int32}   (h : pb_Mo_switchTakes_46  K u x1 x2) : pj_J g (pj_N g b u) 46 [some (.ref (b + 217)), some (.int x1), some (.int x2), none] [] := by
  unfold pb_Mo_switchTakes_46 at h
  refine pj_iload_n C d_Mo_switchTakes_46 (pc' := 47) (i := 2) (x := x2) rfl rfl rfl ?_
  refine pj_iconst C d_Mo_switchTakes_47 (pc' := 48) rfl (v := 2) (by decide) ?_
  refine pj_icmp_ne C d_Mo_switchTakes_48 (pc' := 51) rfl (tgt := 56) (by decide) h (fun h => ?_) (fun h => ?_)
  · exact pj_cut (pj_le_s (pj_le_s (pj_le_n (pj_le_n pj_le_e)))) (pt_Mo_switchTakes_56 C hE   h)
  · exact pj_cut (pj_le_s (pj_le_s (pj_le_n (pj_le_n pj_le_e)))) (pt_Mo_switchTakes_51 C hE   h)
def pb_Mo_switchTakes_42  (K : pj_M → Prop) (u : pj_M) (x1 : Int32) (x2 : Int32) : Prop := ((x2 ≤ 0) → (pb_Mo_switchTakes_64  K u x1)) ∧ (¬ (x2 ≤ 0) → (pb_Mo_switchTakes_46  K u x1 x2))
set_option maxHeartbeats 1000000 in
theorem pt_Mo_switchTakes_42 {g : pj_G} {b : Nat} (C : pj_X g c_Mo_switchTakes 4 R_Mo none rm_Mo_switchTakes) {K : pj_M → Prop} (hE : pj_E g b (pj_Kv K))   {u : pj_M} {x1 : Int32} {x2 : Int32}   (h : pb_Mo_switchTakes_42  K u x1 x2) : pj_J g (pj_N g b u) 42 [some (.ref (b + 217)), some (.int x1), some (.int x2), none] [] := by
  unfold pb_Mo_switchTakes_42 at h
  refine pj_iload_n C d_Mo_switchTakes_42 (pc' := 43) (i := 2) (x := x2) rfl rfl rfl ?_
  refine pj_if_le C d_Mo_switchTakes_43 (pc' := 46) rfl (tgt := 64) (by decide) h (fun h => ?_) (fun h => ?_)
  · exact pj_cut (pj_le_s (pj_le_s (pj_le_n (pj_le_n pj_le_e)))) (pt_Mo_switchTakes_64 C hE   h)
  · exact pj_cut (pj_le_s (pj_le_s (pj_le_s (pj_le_n pj_le_e)))) (pt_Mo_switchTakes_46 C hE   h)
def pb_Mo_switchTakes_29  (K : pj_M → Prop) (u : pj_M)  : Prop := vp_in 0 3 ∧ (vp_in 0 3 ∧ pj_put u 277 (0 : Int32).toNatClampNeg ((u 277 (0 : Int32).toNatClampNeg) + 1) fun u1 => (pb_Mo_switchTakes_235  K u1 ))
set_option maxHeartbeats 1000000 in
theorem pt_Mo_switchTakes_29 {g : pj_G} {b : Nat} (C : pj_X g c_Mo_switchTakes 4 R_Mo none rm_Mo_switchTakes) {K : pj_M → Prop} (hE : pj_E g b (pj_Kv K))   {u : pj_M}    (h : pb_Mo_switchTakes_29  K u ) : pj_J g (pj_N g b u) 29 [some (.ref (b + 217)), none, none, none] [] := by
  unfold pb_Mo_switchTakes_29 at h
  refine pj_aload_n C d_Mo_switchTakes_29 (pc' := 30) (i := 0) (x := b + 217) rfl rfl rfl ?_
  refine fg_Model_188_Model C tk_217 d_Mo_switchTakes_30 (pc' := 33) rfl ?_
  refine pj_iconst C d_Mo_switchTakes_33 (pc' := 34) rfl (v := 0) (by decide) ?_
  refine pj_dup2_11 C d_Mo_switchTakes_34 (pc' := 35) rfl rfl rfl ?_
  refine pj_iald C (pj_lt tk_277 (by decide)) (fun E u => ka_34 tk_277) d_Mo_switchTakes_35 (pc' := 36) rfl h (fun h => ?_)
  refine pj_iconst C d_Mo_switchTakes_36 (pc' := 37) rfl (v := 1) (by decide) ?_
  refine pj_iadd C d_Mo_switchTakes_37 (pc' := 38) rfl ?_
  refine pj_iast C (pj_lt tk_277 (by decide)) (fun E u => ka_34 tk_277) d_Mo_switchTakes_38 (pc' := 39) rfl h (fun u1 h => ?_)
  refine pj_goto C d_Mo_switchTakes_39 (tgt := 235) (by decide) ?_
  exact pj_cut (pj_le_n (pj_le_n (pj_le_n (pj_le_n pj_le_e)))) (pt_Mo_switchTakes_235 C hE   h)
def pb_Mo_switchTakes_20  (K : pj_M → Prop) (u : pj_M) (x1 : Int32) : Prop := pw_Mo_frame u  fun r2 u1 => (((0 ≤ r2) → (pb_Mo_switchTakes_42  K u1 x1 r2)) ∧ (¬ (0 ≤ r2) → (pb_Mo_switchTakes_29  K u1 )))
set_option maxHeartbeats 1000000 in
theorem pt_Mo_switchTakes_20 {g : pj_G} {b : Nat} (C : pj_X g c_Mo_switchTakes 4 R_Mo none rm_Mo_switchTakes) {K : pj_M → Prop} (hE : pj_E g b (pj_Kv K))   {u : pj_M} {x1 : Int32}   (h : pb_Mo_switchTakes_20  K u x1) : pj_J g (pj_N g b u) 20 [some (.ref (b + 217)), some (.int x1), none, none] [] := by
  unfold pb_Mo_switchTakes_20 at h
  refine pj_aload_n C d_Mo_switchTakes_20 (pc' := 21) (i := 0) (x := b + 217) rfl rfl rfl ?_
  refine ck_Model_270_Model C  h d_Mo_switchTakes_21 (pc' := 24) rfl ⟨Nat.le_of_ble_eq_true rfl, Nat.le_of_ble_eq_true rfl⟩ (Nat.le_of_ble_eq_true rfl) (fun r2 u1 h => ?_)
  refine pj_istore_n C d_Mo_switchTakes_24 (pc' := 25) (i := 2) (vs' := [some (.ref (b + 217)), some (.int x1), some (.int r2), none]) rfl rfl (Nat.le_of_ble_eq_true rfl) (Nat.le_of_ble_eq_true rfl) rfl rfl ?_
  refine pj_iload_n C d_Mo_switchTakes_25 (pc' := 26) (i := 2) (x := r2) rfl rfl rfl ?_
  refine pj_if_ge C d_Mo_switchTakes_26 (pc' := 29) rfl (tgt := 42) (by decide) h (fun h => ?_) (fun h => ?_)
  · exact pj_cut (pj_le_s (pj_le_s (pj_le_s (pj_le_n pj_le_e)))) (pt_Mo_switchTakes_42 C hE   h)
  · exact pj_cut (pj_le_s (pj_le_n (pj_le_n (pj_le_n pj_le_e)))) (pt_Mo_switchTakes_29 C hE   h)
def pb_Mo_switchTakes_9  (K : pj_M → Prop) (u : pj_M) (x1 : Int32) : Prop := vp_in x1 4 ∧ ((((u 259 x1.toNatClampNeg) = 4) → (pb_Mo_switchTakes_19  K u )) ∧ (¬ ((u 259 x1.toNatClampNeg) = 4) → (pb_Mo_switchTakes_20  K u x1)))
set_option maxHeartbeats 1000000 in
theorem pt_Mo_switchTakes_9 {g : pj_G} {b : Nat} (C : pj_X g c_Mo_switchTakes 4 R_Mo none rm_Mo_switchTakes) {K : pj_M → Prop} (hE : pj_E g b (pj_Kv K))   {u : pj_M} {x1 : Int32}   (h : pb_Mo_switchTakes_9  K u x1) : pj_J g (pj_N g b u) 9 [some (.ref (b + 217)), some (.int x1), none, none] [] := by
  unfold pb_Mo_switchTakes_9 at h
  refine pj_aload_n C d_Mo_switchTakes_9 (pc' := 10) (i := 0) (x := b + 217) rfl rfl rfl ?_
  refine fg_Model_134_Model C tk_217 d_Mo_switchTakes_10 (pc' := 13) rfl ?_
  refine pj_iload_n C d_Mo_switchTakes_13 (pc' := 14) (i := 1) (x := x1) rfl rfl rfl ?_
  refine pj_iald C (pj_lt tk_259 (by decide)) (fun E u => ka_23 tk_259) d_Mo_switchTakes_14 (pc' := 15) rfl h (fun h => ?_)
  refine pj_iconst C d_Mo_switchTakes_15 (pc' := 16) rfl (v := 4) (by decide) ?_
  refine pj_icmp_ne C d_Mo_switchTakes_16 (pc' := 19) rfl (tgt := 20) (by decide) h (fun h => ?_) (fun h => ?_)
  · exact pj_cut (pj_le_s (pj_le_s (pj_le_n (pj_le_n pj_le_e)))) (pt_Mo_switchTakes_20 C hE   h)
  · exact pj_cut (pj_le_n (pj_le_n (pj_le_n (pj_le_n pj_le_e)))) (pt_Mo_switchTakes_19 C hE   h)
def pb_Mo_switchTakes_0  (K : pj_M → Prop) (u : pj_M) (x1 : Int32) : Prop := vp_in x1 4 ∧ ((((u 258 x1.toNatClampNeg) = 0) → (pb_Mo_switchTakes_19  K u )) ∧ (¬ ((u 258 x1.toNatClampNeg) = 0) → (pb_Mo_switchTakes_9  K u x1)))
set_option maxHeartbeats 1000000 in
theorem pt_Mo_switchTakes_0 {g : pj_G} {b : Nat} (C : pj_X g c_Mo_switchTakes 4 R_Mo none rm_Mo_switchTakes) {K : pj_M → Prop} (hE : pj_E g b (pj_Kv K))   {u : pj_M} {x1 : Int32}   (h : pb_Mo_switchTakes_0  K u x1) : pj_J g (pj_N g b u) 0 [some (.ref (b + 217)), some (.int x1), none, none] [] := by
  unfold pb_Mo_switchTakes_0 at h
  refine pj_aload_n C d_Mo_switchTakes_0 (pc' := 1) (i := 0) (x := b + 217) rfl rfl rfl ?_
  refine fg_Model_131_Model C tk_217 d_Mo_switchTakes_1 (pc' := 4) rfl ?_
  refine pj_iload_n C d_Mo_switchTakes_4 (pc' := 5) (i := 1) (x := x1) rfl rfl rfl ?_
  refine pj_zald C (pj_lt tk_258 (by decide)) (fun E u => ka_31 tk_258) d_Mo_switchTakes_5 (pc' := 6) rfl h (fun h => ?_)
  refine pj_if_eq C d_Mo_switchTakes_6 (pc' := 9) rfl (tgt := 19) (by decide) h (fun h => ?_) (fun h => ?_)
  · exact pj_cut (pj_le_n (pj_le_n (pj_le_n (pj_le_n pj_le_e)))) (pt_Mo_switchTakes_19 C hE   h)
  · exact pj_cut (pj_le_s (pj_le_s (pj_le_n (pj_le_n pj_le_e)))) (pt_Mo_switchTakes_9 C hE   h)
def pw_Mo_switchTakes (u : pj_M) (x1 : Int32) (K : pj_M → Prop) : Prop := pb_Mo_switchTakes_0  K u x1
theorem pc_Mo_switchTakes (l : Launch) (D : va_G) (E : Nat → ClassId) {b : Nat} {u : pj_M} {x1 : Int32} {K : pj_M → Prop}  (h : pw_Mo_switchTakes u x1 K) : pj_C l y_Mo_switchTakes c_Mo_switchTakes 4 none rm_Mo_switchTakes D E b [.ref (b + 217), .int x1] u (pj_Kv K) := by
  refine pj_met (own := R_Mo) (by decide +kernel) rfl (Nat.le_of_ble_eq_true rfl) (fun g hE C => ?_)
  unfold pw_Mo_switchTakes at h
  show pj_J g (pj_N g b u) 0 [some (.ref (b + 217)), some (.int x1), none, none] []
  exact pj_cut (pj_le_s (pj_le_s (pj_le_n (pj_le_n pj_le_e)))) (pt_Mo_switchTakes_0 C hE   h)
/-! Model.portFor(II)I -/
def rm_Mo_portFor : Room := { frames := 0, cells := 0, slots := 0, locals := 0 }
def pb_Mo_portFor_39  (K : Int32 → pj_M → Prop) (u : pj_M)  : Prop := K ((-1)) u
set_option maxHeartbeats 1000000 in
theorem pt_Mo_portFor_39 {g : pj_G} {b : Nat} (C : pj_X g c_Mo_portFor 4 R_Mo (some .int) rm_Mo_portFor) {K : Int32 → pj_M → Prop} (hE : pj_E g b (pj_Ki K))   {u : pj_M}    (h : pb_Mo_portFor_39  K u ) : pj_J g (pj_N g b u) 39 [none, none, none, none] [] := by
  unfold pb_Mo_portFor_39 at h
  refine pj_iconst C d_Mo_portFor_39 (pc' := 40) rfl (v := (-1)) (by decide) ?_
  exact pj_iret C hE d_Mo_portFor_40 ⟨_, rfl, h⟩
def pb_Mo_portFor_33 (R2 : pj_M → Int32 → Prop) (K : Int32 → pj_M → Prop) (u : pj_M) (x1 : Int32) (x2 : Int32) (x3 : Int32) : Prop := R2 u (x3 + 1)
set_option maxHeartbeats 1000000 in
theorem pt_Mo_portFor_33 {g : pj_G} {b : Nat} (C : pj_X g c_Mo_portFor 4 R_Mo (some .int) rm_Mo_portFor) {K : Int32 → pj_M → Prop} (hE : pj_E g b (pj_Ki K)) {R2 : pj_M → Int32 → Prop}  {u : pj_M} {x1 : Int32} {x2 : Int32} {x3 : Int32} (hR2 : ∀ (u : pj_M) (x3 : Int32), R2 u x3 → pj_J g (pj_N g b u) 2 [some (.ref (b + 217)), some (.int x1), some (.int x2), some (.int x3)] [])  (h : pb_Mo_portFor_33 R2 K u x1 x2 x3) : pj_J g (pj_N g b u) 33 [some (.ref (b + 217)), some (.int x1), some (.int x2), some (.int x3)] [] := by
  unfold pb_Mo_portFor_33 at h
  refine pj_iinc C d_Mo_portFor_33 (pc' := 36) (x := x3) (d := 1) (vs' := [some (.ref (b + 217)), some (.int x1), some (.int x2), some (.int (x3 + 1))]) rfl rfl (Nat.le_of_ble_eq_true rfl) rfl (by decide) rfl ?_
  refine pj_goto C d_Mo_portFor_36 (tgt := 2) (by decide) ?_
  exact pj_cut (pj_le_s (pj_le_s (pj_le_s (pj_le_s pj_le_e)))) (hR2 _ _ h)
def pb_Mo_portFor_31  (K : Int32 → pj_M → Prop) (u : pj_M) (x3 : Int32) : Prop := K x3 u
set_option maxHeartbeats 1000000 in
theorem pt_Mo_portFor_31 {g : pj_G} {b : Nat} (C : pj_X g c_Mo_portFor 4 R_Mo (some .int) rm_Mo_portFor) {K : Int32 → pj_M → Prop} (hE : pj_E g b (pj_Ki K))   {u : pj_M} {x3 : Int32}   (h : pb_Mo_portFor_31  K u x3) : pj_J g (pj_N g b u) 31 [none, none, none, some (.int x3)] [] := by
  unfold pb_Mo_portFor_31 at h
  refine pj_iload_n C d_Mo_portFor_31 (pc' := 32) (i := 3) (x := x3) rfl rfl rfl ?_
  exact pj_iret C hE d_Mo_portFor_32 ⟨_, rfl, h⟩
def pb_Mo_portFor_17 (R2 : pj_M → Int32 → Prop) (K : Int32 → pj_M → Prop) (u : pj_M) (x1 : Int32) (x2 : Int32) (x3 : Int32) : Prop := vp_in x3 4 ∧ (((((u 274 x3.toNatClampNeg) &&& 255) = x2) → (pb_Mo_portFor_31  K u x3)) ∧ (¬ (((u 274 x3.toNatClampNeg) &&& 255) = x2) → (pb_Mo_portFor_33 R2 K u x1 x2 x3)))
set_option maxHeartbeats 1000000 in
theorem pt_Mo_portFor_17 {g : pj_G} {b : Nat} (C : pj_X g c_Mo_portFor 4 R_Mo (some .int) rm_Mo_portFor) {K : Int32 → pj_M → Prop} (hE : pj_E g b (pj_Ki K)) {R2 : pj_M → Int32 → Prop}  {u : pj_M} {x1 : Int32} {x2 : Int32} {x3 : Int32} (hR2 : ∀ (u : pj_M) (x3 : Int32), R2 u x3 → pj_J g (pj_N g b u) 2 [some (.ref (b + 217)), some (.int x1), some (.int x2), some (.int x3)] [])  (h : pb_Mo_portFor_17 R2 K u x1 x2 x3) : pj_J g (pj_N g b u) 17 [some (.ref (b + 217)), some (.int x1), some (.int x2), some (.int x3)] [] := by
  unfold pb_Mo_portFor_17 at h
  refine pj_aload_n C d_Mo_portFor_17 (pc' := 18) (i := 0) (x := b + 217) rfl rfl rfl ?_
  refine fg_Model_179_Model C tk_217 d_Mo_portFor_18 (pc' := 21) rfl ?_
  refine pj_iload_n C d_Mo_portFor_21 (pc' := 22) (i := 3) (x := x3) rfl rfl rfl ?_
  refine pj_iald C (pj_lt tk_274 (by decide)) (fun E u => ka_23 tk_274) d_Mo_portFor_22 (pc' := 23) rfl h (fun h => ?_)
  refine pj_sipush C d_Mo_portFor_23 (pc' := 26) rfl (v := 255) (by decide) ?_
  refine pj_iand C d_Mo_portFor_26 (pc' := 27) rfl ?_
  refine pj_iload_n C d_Mo_portFor_27 (pc' := 28) (i := 2) (x := x2) rfl rfl rfl ?_
  refine pj_icmp_ne C d_Mo_portFor_28 (pc' := 31) rfl (tgt := 33) (by decide) h (fun h => ?_) (fun h => ?_)
  · exact pj_cut (pj_le_s (pj_le_s (pj_le_s (pj_le_s pj_le_e)))) (pt_Mo_portFor_33 C hE hR2  h)
  · exact pj_cut (pj_le_n (pj_le_n (pj_le_n (pj_le_s pj_le_e)))) (pt_Mo_portFor_31 C hE   h)
def pb_Mo_portFor_7 (R2 : pj_M → Int32 → Prop) (K : Int32 → pj_M → Prop) (u : pj_M) (x1 : Int32) (x2 : Int32) (x3 : Int32) : Prop := vp_in x3 4 ∧ ((((u 271 x3.toNatClampNeg) = x1) → (pb_Mo_portFor_17 R2 K u x1 x2 x3)) ∧ (¬ ((u 271 x3.toNatClampNeg) = x1) → (pb_Mo_portFor_33 R2 K u x1 x2 x3)))
set_option maxHeartbeats 1000000 in
theorem pt_Mo_portFor_7 {g : pj_G} {b : Nat} (C : pj_X g c_Mo_portFor 4 R_Mo (some .int) rm_Mo_portFor) {K : Int32 → pj_M → Prop} (hE : pj_E g b (pj_Ki K)) {R2 : pj_M → Int32 → Prop}  {u : pj_M} {x1 : Int32} {x2 : Int32} {x3 : Int32} (hR2 : ∀ (u : pj_M) (x3 : Int32), R2 u x3 → pj_J g (pj_N g b u) 2 [some (.ref (b + 217)), some (.int x1), some (.int x2), some (.int x3)] [])  (h : pb_Mo_portFor_7 R2 K u x1 x2 x3) : pj_J g (pj_N g b u) 7 [some (.ref (b + 217)), some (.int x1), some (.int x2), some (.int x3)] [] := by
  unfold pb_Mo_portFor_7 at h
  refine pj_aload_n C d_Mo_portFor_7 (pc' := 8) (i := 0) (x := b + 217) rfl rfl rfl ?_
  refine fg_Model_170_Model C tk_217 d_Mo_portFor_8 (pc' := 11) rfl ?_
  refine pj_iload_n C d_Mo_portFor_11 (pc' := 12) (i := 3) (x := x3) rfl rfl rfl ?_
  refine pj_iald C (pj_lt tk_271 (by decide)) (fun E u => ka_23 tk_271) d_Mo_portFor_12 (pc' := 13) rfl h (fun h => ?_)
  refine pj_iload_n C d_Mo_portFor_13 (pc' := 14) (i := 1) (x := x1) rfl rfl rfl ?_
  refine pj_icmp_ne C d_Mo_portFor_14 (pc' := 17) rfl (tgt := 33) (by decide) h (fun h => ?_) (fun h => ?_)
  · exact pj_cut (pj_le_s (pj_le_s (pj_le_s (pj_le_s pj_le_e)))) (pt_Mo_portFor_33 C hE hR2  h)
  · exact pj_cut (pj_le_s (pj_le_s (pj_le_s (pj_le_s pj_le_e)))) (pt_Mo_portFor_17 C hE hR2  h)
def pb_Mo_portFor_2b (R2 : pj_M → Int32 → Prop) (K : Int32 → pj_M → Prop) (u : pj_M) (x1 : Int32) (x2 : Int32) (x3 : Int32) : Prop := ((4 ≤ x3) → (pb_Mo_portFor_39  K u )) ∧ (¬ (4 ≤ x3) → (pb_Mo_portFor_7 R2 K u x1 x2 x3))
set_option maxHeartbeats 1000000 in
theorem pt_Mo_portFor_2b {g : pj_G} {b : Nat} (C : pj_X g c_Mo_portFor 4 R_Mo (some .int) rm_Mo_portFor) {K : Int32 → pj_M → Prop} (hE : pj_E g b (pj_Ki K)) {R2 : pj_M → Int32 → Prop}  {u : pj_M} {x1 : Int32} {x2 : Int32} {x3 : Int32} (hR2 : ∀ (u : pj_M) (x3 : Int32), R2 u x3 → pj_J g (pj_N g b u) 2 [some (.ref (b + 217)), some (.int x1), some (.int x2), some (.int x3)] [])  (h : pb_Mo_portFor_2b R2 K u x1 x2 x3) : pj_J g (pj_N g b u) 2 [some (.ref (b + 217)), some (.int x1), some (.int x2), some (.int x3)] [] := by
  unfold pb_Mo_portFor_2b at h
  refine pj_iload_n C d_Mo_portFor_2 (pc' := 3) (i := 3) (x := x3) rfl rfl rfl ?_
  refine pj_iconst C d_Mo_portFor_3 (pc' := 4) rfl (v := 4) (by decide) ?_
  refine pj_icmp_ge C d_Mo_portFor_4 (pc' := 7) rfl (tgt := 39) (by decide) h (fun h => ?_) (fun h => ?_)
  · exact pj_cut (pj_le_n (pj_le_n (pj_le_n (pj_le_n pj_le_e)))) (pt_Mo_portFor_39 C hE   h)
  · exact pj_cut (pj_le_s (pj_le_s (pj_le_s (pj_le_s pj_le_e)))) (pt_Mo_portFor_7 C hE hR2  h)
def pb_Mo_portFor_2  (K : Int32 → pj_M → Prop) (x1 : Int32) (x2 : Int32) : Nat → pj_M → Int32 → Prop
  | 0 => fun _ _ => False
  | n + 1 => fun u x3 => pb_Mo_portFor_2b (pb_Mo_portFor_2  K x1 x2 n) K u x1 x2 x3
theorem pt_Mo_portFor_2 {g : pj_G} {b : Nat} (C : pj_X g c_Mo_portFor 4 R_Mo (some .int) rm_Mo_portFor) {K : Int32 → pj_M → Prop} (hE : pj_E g b (pj_Ki K))  {x1 : Int32} {x2 : Int32}   : ∀ (n : Nat) (u : pj_M) (x3 : Int32), pb_Mo_portFor_2  K x1 x2 n u x3 → pj_J g (pj_N g b u) 2 [some (.ref (b + 217)), some (.int x1), some (.int x2), some (.int x3)] [] := by
  intro n
  induction n with
  | zero => intro u x3 h; exact False.elim h
  | succ n ih =>
    intro u x3 h
    exact (pt_Mo_portFor_2b C hE ih  h)
def pb_Mo_portFor_0  (K : Int32 → pj_M → Prop) (u : pj_M) (x1 : Int32) (x2 : Int32) : Prop := ∃ n, pb_Mo_portFor_2  K x1 x2 n u 0
set_option maxHeartbeats 1000000 in
theorem pt_Mo_portFor_0 {g : pj_G} {b : Nat} (C : pj_X g c_Mo_portFor 4 R_Mo (some .int) rm_Mo_portFor) {K : Int32 → pj_M → Prop} (hE : pj_E g b (pj_Ki K))   {u : pj_M} {x1 : Int32} {x2 : Int32}   (h : pb_Mo_portFor_0  K u x1 x2) : pj_J g (pj_N g b u) 0 [some (.ref (b + 217)), some (.int x1), some (.int x2), none] [] := by
  unfold pb_Mo_portFor_0 at h
  refine pj_iconst C d_Mo_portFor_0 (pc' := 1) rfl (v := 0) (by decide) ?_
  refine pj_istore_n C d_Mo_portFor_1 (pc' := 2) (i := 3) (vs' := [some (.ref (b + 217)), some (.int x1), some (.int x2), some (.int 0)]) rfl rfl (Nat.le_of_ble_eq_true rfl) (Nat.le_of_ble_eq_true rfl) rfl rfl ?_
  obtain ⟨n, h⟩ := h
  exact pj_cut (pj_le_s (pj_le_s (pj_le_s (pj_le_s pj_le_e)))) (pt_Mo_portFor_2 C hE   n _ _ h)
def pw_Mo_portFor (u : pj_M) (x1 : Int32) (x2 : Int32) (K : Int32 → pj_M → Prop) : Prop := pb_Mo_portFor_0  K u x1 x2
theorem pc_Mo_portFor (l : Launch) (D : va_G) (E : Nat → ClassId) {b : Nat} {u : pj_M} {x1 : Int32} {x2 : Int32} {K : Int32 → pj_M → Prop}  (h : pw_Mo_portFor u x1 x2 K) : pj_C l y_Mo_portFor c_Mo_portFor 4 (some .int) rm_Mo_portFor D E b [.ref (b + 217), .int x1, .int x2] u (pj_Ki K) := by
  refine pj_met (own := R_Mo) (by decide +kernel) rfl (Nat.le_of_ble_eq_true rfl) (fun g hE C => ?_)
  unfold pw_Mo_portFor at h
  show pj_J g (pj_N g b u) 0 [some (.ref (b + 217)), some (.int x1), some (.int x2), none] []
  exact pj_cut (pj_le_s (pj_le_s (pj_le_s (pj_le_n pj_le_e)))) (pt_Mo_portFor_0 C hE   h)
/-! Model.switchHears(I)V -/
theorem fp_Model_366_Model {g : pj_G} {b : Nat} {cc : ByteArray} {nL : Nat} {ret : Option FieldType} {rm : Room} {u : pj_M} {pc pc' : Nat} {vs : List (Option Value)} {st : List Value} (C : pj_X g cc nL R_Mo ret rm) {i : Nat} {x : Int32} {P : pj_M → Prop} (t : pj_T i = 11)  (hdg : decode cc pc = .ok (.putfield 366, 3)) (hp : pc + 3 = pc') (h : pj_put u i 69 x P) (kk : ∀ u', P u' → pj_J g (pj_N g b u') pc' vs st) : pj_J g (pj_N g b u) pc vs (.int x :: .ref (b + i) :: st) :=
  pj_putI C cl_Model hin_Model ty_Model tyok_Model nm_Model (k := 69) (Nat.le_of_ble_eq_true rfl) wm_1193 (Or.inl rfl) rfl (ty := .int) (by decide +kernel) rfl rfl (pj_lt t (by decide)) (fun E u => ko_11 t) (F := fun f => [.int (f 0), .ref (b + 218), .ref (b + 219), .ref (b + 220), .int (f 4), .ref (b + 221), .ref (b + 222), .ref (b + 223), .ref (b + 224), .int (f 9), .ref (b + 225), .int (f 11), .ref (b + 226), .int (f 13), .int (f 14), .int (f 15), .int (f 16), .ref (b + 227), .int (f 18), .ref (b + 228), .ref (b + 229), .ref (b + 230), .ref (b + 231), .ref (b + 232), .ref (b + 233), .ref (b + 234), .ref (b + 235), .ref (b + 236), .ref (b + 237), .ref (b + 238), .ref (b + 239), .ref (b + 240), .ref (b + 241), .ref (b + 242), .ref (b + 243), .ref (b + 244), .ref (b + 245), .ref (b + 246), .ref (b + 247), .ref (b + 248), .ref (b + 249), .ref (b + 250), .ref (b + 251), .ref (b + 252), .ref (b + 253), .ref (b + 254), .ref (b + 255), .ref (b + 256), .ref (b + 257), .ref (b + 258), .ref (b + 259), .ref (b + 260), .ref (b + 261), .ref (b + 262), .ref (b + 263), .ref (b + 264), .ref (b + 265), .ref (b + 266), .ref (b + 267), .ref (b + 268), .ref (b + 269), .ref (b + 270), .ref (b + 271), .ref (b + 272), .ref (b + 273), .ref (b + 274), .ref (b + 275), .ref (b + 276), .int (f 68), .int (f 69), .ref (b + 277), .ref (b + 278)]) (fun _ => Nat.le_of_ble_eq_true rfl) (fun _ _ => rfl) hdg hp h kk
theorem fg_Model_164_Model {g : pj_G} {b : Nat} {cc : ByteArray} {nL : Nat} {ret : Option FieldType} {rm : Room} {u : pj_M} {pc pc' : Nat} {vs : List (Option Value)} {st : List Value} (C : pj_X g cc nL R_Mo ret rm) {i : Nat} (t : pj_T i = 11) (hdg : decode cc pc = .ok (.getfield 164, 3)) (hp : pc + 3 = pc') (kk : pj_J g (pj_N g b u) pc' vs (.ref (b + 269) :: st)) : pj_J g (pj_N g b u) pc vs (.ref (b + i) :: st) :=
  pj_get C cl_Model hin_Model (k := 60) (Nat.le_of_ble_eq_true rfl) wm_1184 (Or.inl rfl) (pj_lt t (by decide)) (fun E => ko_11 t) rfl hdg hp kk
theorem fg_Model_167_Model {g : pj_G} {b : Nat} {cc : ByteArray} {nL : Nat} {ret : Option FieldType} {rm : Room} {u : pj_M} {pc pc' : Nat} {vs : List (Option Value)} {st : List Value} (C : pj_X g cc nL R_Mo ret rm) {i : Nat} (t : pj_T i = 11) (hdg : decode cc pc = .ok (.getfield 167, 3)) (hp : pc + 3 = pc') (kk : pj_J g (pj_N g b u) pc' vs (.ref (b + 270) :: st)) : pj_J g (pj_N g b u) pc vs (.ref (b + i) :: st) :=
  pj_get C cl_Model hin_Model (k := 61) (Nat.le_of_ble_eq_true rfl) wm_1185 (Or.inl rfl) (pj_lt t (by decide)) (fun E => ko_11 t) rfl hdg hp kk
theorem ck_Model_372_Model {g : pj_G} {b : Nat} {cc : ByteArray} {nL : Nat} {ret : Option FieldType} {rm : Room} {u : pj_M} {pc pc' : Nat} {vs : List (Option Value)} {st : List Value} (C : pj_X g cc nL R_Mo ret rm) {x1 : Int32} {x2 : Int32} {K : Int32 → pj_M → Prop}  (h : pw_Mo_portFor u x1 x2 K) (hdg : decode cc pc = .ok (.invokevirtual 372, 3)) (hp : pc + 3 = pc') (hR : rm_Mo_portFor.frames + 1 ≤ rm.frames ∧ 8 + (4 + 11) + rm_Mo_portFor.locals ≤ rm.locals) (h8 : (st.map fun v => v.category).sum ≤ 8) (kk : ∀ r u', K r u' → pj_J g (pj_N g b u') pc' vs (.int r :: st)) : pj_J g (pj_N g b u) pc vs (.int x2 :: .int x1 :: .ref (b + 217) :: st) :=
  pj_callV C (As := [.int x1, .int x2]) (fun l D E => pc_Mo_portFor l D E  h) rfl rfl cl_Model (pj_lt tk_217 (by decide)) (fun E => ko_11 tk_217) wm_1577 wm_1579 wm_89 wm_103 wm_1580 (by decide +kernel) (n := 2) rfl hR rfl h8 hdg hp (fun v u' hq => by obtain ⟨r, rfl, hk⟩ := hq; exact kk r u' hk)
theorem ck_Model_375_Model {g : pj_G} {b : Nat} {cc : ByteArray} {nL : Nat} {ret : Option FieldType} {rm : Room} {u : pj_M} {pc pc' : Nat} {vs : List (Option Value)} {st : List Value} (C : pj_X g cc nL R_Mo ret rm) {x1 : Int32} {K : pj_M → Prop}  (h : pw_Mo_failPort u x1 K) (hdg : decode cc pc = .ok (.invokevirtual 375, 3)) (hp : pc + 3 = pc') (hR : rm_Mo_failPort.frames + 1 ≤ rm.frames ∧ 8 + (2 + 11) + rm_Mo_failPort.locals ≤ rm.locals) (h8 : (st.map fun v => v.category).sum ≤ 8) (kk : ∀ u', K u' → pj_J g (pj_N g b u') pc' vs st) : pj_J g (pj_N g b u) pc vs (.int x1 :: .ref (b + 217) :: st) :=
  pj_callV C (As := [.int x1]) (fun l D E => pc_Mo_failPort l D E  h) rfl rfl cl_Model (pj_lt tk_217 (by decide)) (fun E => ko_11 tk_217) wm_1456 wm_1458 wm_60 wm_103 wm_1459 (by decide +kernel) (n := 1) rfl hR rfl h8 hdg hp (fun v u' hq => by obtain ⟨rfl, hk⟩ := hq; exact kk u' hk)
def rm_Mo_switchHears : Room := { frames := 4, cells := 0, slots := 0, locals := 89 }
def pb_Mo_switchHears_309  (K : pj_M → Prop) (u : pj_M)  : Prop := K u
set_option maxHeartbeats 1000000 in
theorem pt_Mo_switchHears_309 {g : pj_G} {b : Nat} (C : pj_X g c_Mo_switchHears 5 R_Mo none rm_Mo_switchHears) {K : pj_M → Prop} (hE : pj_E g b (pj_Kv K))   {u : pj_M}    (h : pb_Mo_switchHears_309  K u ) : pj_J g (pj_N g b u) 309 [none, none, none, none, none] [] := by
  unfold pb_Mo_switchHears_309 at h
  exact pj_vret C hE d_Mo_switchHears_309 ⟨rfl, h⟩
def pb_Mo_switchHears_299  (K : pj_M → Prop) (u : pj_M) (x3 : Int32) : Prop := pw_Mo_sendPacket u x3 fun u1 => (pw_Mo_failPort u1 x3 fun u2 => (pb_Mo_switchHears_309  K u2 ))
set_option maxHeartbeats 1000000 in
theorem pt_Mo_switchHears_299 {g : pj_G} {b : Nat} (C : pj_X g c_Mo_switchHears 5 R_Mo none rm_Mo_switchHears) {K : pj_M → Prop} (hE : pj_E g b (pj_Kv K))   {u : pj_M} {x3 : Int32}   (h : pb_Mo_switchHears_299  K u x3) : pj_J g (pj_N g b u) 299 [some (.ref (b + 217)), none, none, some (.int x3), none] [] := by
  unfold pb_Mo_switchHears_299 at h
  refine pj_aload_n C d_Mo_switchHears_299 (pc' := 300) (i := 0) (x := b + 217) rfl rfl rfl ?_
  refine pj_iload_n C d_Mo_switchHears_300 (pc' := 301) (i := 3) (x := x3) rfl rfl rfl ?_
  refine ck_Model_345_Model C  h d_Mo_switchHears_301 (pc' := 304) rfl ⟨Nat.le_of_ble_eq_true rfl, Nat.le_of_ble_eq_true rfl⟩ (Nat.le_of_ble_eq_true rfl) (fun u1 h => ?_)
  refine pj_aload_n C d_Mo_switchHears_304 (pc' := 305) (i := 0) (x := b + 217) rfl rfl rfl ?_
  refine pj_iload_n C d_Mo_switchHears_305 (pc' := 306) (i := 3) (x := x3) rfl rfl rfl ?_
  refine ck_Model_375_Model C  h d_Mo_switchHears_306 (pc' := 309) rfl ⟨Nat.le_of_ble_eq_true rfl, Nat.le_of_ble_eq_true rfl⟩ (Nat.le_of_ble_eq_true rfl) (fun u2 h => ?_)
  exact pj_cut (pj_le_n (pj_le_n (pj_le_n (pj_le_n (pj_le_n pj_le_e))))) (pt_Mo_switchHears_309 C hE   h)
def pb_Mo_switchHears_288  (K : pj_M → Prop) (u : pj_M) (x3 : Int32) (s0 : Int32) (s1 : Int32) : Prop := vp_in s1 4 ∧ pj_put u 270 s1.toNatClampNeg s0 fun u1 => (vp_in x3 4 ∧ pj_put u1 260 x3.toNatClampNeg (vp_nar .boolean 1) fun u2 => (pb_Mo_switchHears_309  K u2 ))
set_option maxHeartbeats 1000000 in
theorem pt_Mo_switchHears_288 {g : pj_G} {b : Nat} (C : pj_X g c_Mo_switchHears 5 R_Mo none rm_Mo_switchHears) {K : pj_M → Prop} (hE : pj_E g b (pj_Kv K))   {u : pj_M} {x3 : Int32} {s0 : Int32} {s1 : Int32}   (h : pb_Mo_switchHears_288  K u x3 s0 s1) : pj_J g (pj_N g b u) 288 [some (.ref (b + 217)), none, none, some (.int x3), none] [.int s0, .int s1, .ref (b + 270)] := by
  unfold pb_Mo_switchHears_288 at h
  refine pj_iast C (pj_lt tk_270 (by decide)) (fun E u => ka_23 tk_270) d_Mo_switchHears_288 (pc' := 289) rfl h (fun u1 h => ?_)
  refine pj_aload_n C d_Mo_switchHears_289 (pc' := 290) (i := 0) (x := b + 217) rfl rfl rfl ?_
  refine fg_Model_137_Model C tk_217 d_Mo_switchHears_290 (pc' := 293) rfl ?_
  refine pj_iload_n C d_Mo_switchHears_293 (pc' := 294) (i := 3) (x := x3) rfl rfl rfl ?_
  refine pj_iconst C d_Mo_switchHears_294 (pc' := 295) rfl (v := 1) (by decide) ?_
  refine pj_zast C (pj_lt tk_260 (by decide)) (fun E u => ka_31 tk_260) d_Mo_switchHears_295 (pc' := 296) rfl h (fun u2 h => ?_)
  refine pj_goto C d_Mo_switchHears_296 (tgt := 309) (by decide) ?_
  exact pj_cut (pj_le_n (pj_le_n (pj_le_n (pj_le_n (pj_le_n pj_le_e))))) (pt_Mo_switchHears_309 C hE   h)
def pb_Mo_switchHears_287  (K : pj_M → Prop) (u : pj_M) (x3 : Int32) (s0 : Int32) : Prop := pb_Mo_switchHears_288  K u x3 0 s0
set_option maxHeartbeats 1000000 in
theorem pt_Mo_switchHears_287 {g : pj_G} {b : Nat} (C : pj_X g c_Mo_switchHears 5 R_Mo none rm_Mo_switchHears) {K : pj_M → Prop} (hE : pj_E g b (pj_Kv K))   {u : pj_M} {x3 : Int32} {s0 : Int32}   (h : pb_Mo_switchHears_287  K u x3 s0) : pj_J g (pj_N g b u) 287 [some (.ref (b + 217)), none, none, some (.int x3), none] [.int s0, .ref (b + 270)] := by
  unfold pb_Mo_switchHears_287 at h
  refine pj_iconst C d_Mo_switchHears_287 (pc' := 288) rfl (v := 0) (by decide) ?_
  exact pj_cut (pj_le_s (pj_le_n (pj_le_n (pj_le_s (pj_le_n pj_le_e))))) (pt_Mo_switchHears_288 C hE   h)
def pb_Mo_switchHears_278  (K : pj_M → Prop) (u : pj_M) (x3 : Int32) (s0 : Int32) : Prop := vp_in x3 4 ∧ (pb_Mo_switchHears_288  K u x3 (u 270 x3.toNatClampNeg) s0)
set_option maxHeartbeats 1000000 in
theorem pt_Mo_switchHears_278 {g : pj_G} {b : Nat} (C : pj_X g c_Mo_switchHears 5 R_Mo none rm_Mo_switchHears) {K : pj_M → Prop} (hE : pj_E g b (pj_Kv K))   {u : pj_M} {x3 : Int32} {s0 : Int32}   (h : pb_Mo_switchHears_278  K u x3 s0) : pj_J g (pj_N g b u) 278 [some (.ref (b + 217)), none, none, some (.int x3), none] [.int s0, .ref (b + 270)] := by
  unfold pb_Mo_switchHears_278 at h
  refine pj_aload_n C d_Mo_switchHears_278 (pc' := 279) (i := 0) (x := b + 217) rfl rfl rfl ?_
  refine fg_Model_167_Model C tk_217 d_Mo_switchHears_279 (pc' := 282) rfl ?_
  refine pj_iload_n C d_Mo_switchHears_282 (pc' := 283) (i := 3) (x := x3) rfl rfl rfl ?_
  refine pj_iald C (pj_lt tk_270 (by decide)) (fun E u => ka_23 tk_270) d_Mo_switchHears_283 (pc' := 284) rfl h (fun h => ?_)
  refine pj_goto C d_Mo_switchHears_284 (tgt := 288) (by decide) ?_
  exact pj_cut (pj_le_s (pj_le_n (pj_le_n (pj_le_s (pj_le_n pj_le_e))))) (pt_Mo_switchHears_288 C hE   h)
def pb_Mo_switchHears_262  (K : pj_M → Prop) (u : pj_M) (x3 : Int32) (s0 : Int32) (s1 : Int32) (s2 : Int32) : Prop := vp_in s2 4 ∧ pj_put u 269 s2.toNatClampNeg (s1 + s0) fun u1 => (vp_in x3 4 ∧ ((((u1 260 x3.toNatClampNeg) = 0) → (pb_Mo_switchHears_287  K u1 x3 x3)) ∧ (¬ ((u1 260 x3.toNatClampNeg) = 0) → (pb_Mo_switchHears_278  K u1 x3 x3))))
set_option maxHeartbeats 1000000 in
theorem pt_Mo_switchHears_262 {g : pj_G} {b : Nat} (C : pj_X g c_Mo_switchHears 5 R_Mo none rm_Mo_switchHears) {K : pj_M → Prop} (hE : pj_E g b (pj_Kv K))   {u : pj_M} {x3 : Int32} {s0 : Int32} {s1 : Int32} {s2 : Int32}   (h : pb_Mo_switchHears_262  K u x3 s0 s1 s2) : pj_J g (pj_N g b u) 262 [some (.ref (b + 217)), none, none, some (.int x3), none] [.int s0, .int s1, .int s2, .ref (b + 269)] := by
  unfold pb_Mo_switchHears_262 at h
  refine pj_iadd C d_Mo_switchHears_262 (pc' := 263) rfl ?_
  refine pj_iast C (pj_lt tk_269 (by decide)) (fun E u => ka_23 tk_269) d_Mo_switchHears_263 (pc' := 264) rfl h (fun u1 h => ?_)
  refine pj_aload_n C d_Mo_switchHears_264 (pc' := 265) (i := 0) (x := b + 217) rfl rfl rfl ?_
  refine fg_Model_167_Model C tk_217 d_Mo_switchHears_265 (pc' := 268) rfl ?_
  refine pj_iload_n C d_Mo_switchHears_268 (pc' := 269) (i := 3) (x := x3) rfl rfl rfl ?_
  refine pj_aload_n C d_Mo_switchHears_269 (pc' := 270) (i := 0) (x := b + 217) rfl rfl rfl ?_
  refine fg_Model_137_Model C tk_217 d_Mo_switchHears_270 (pc' := 273) rfl ?_
  refine pj_iload_n C d_Mo_switchHears_273 (pc' := 274) (i := 3) (x := x3) rfl rfl rfl ?_
  refine pj_zald C (pj_lt tk_260 (by decide)) (fun E u => ka_31 tk_260) d_Mo_switchHears_274 (pc' := 275) rfl h (fun h => ?_)
  refine pj_if_eq C d_Mo_switchHears_275 (pc' := 278) rfl (tgt := 287) (by decide) h (fun h => ?_) (fun h => ?_)
  · exact pj_cut (pj_le_s (pj_le_n (pj_le_n (pj_le_s (pj_le_n pj_le_e))))) (pt_Mo_switchHears_287 C hE   h)
  · exact pj_cut (pj_le_s (pj_le_n (pj_le_n (pj_le_s (pj_le_n pj_le_e))))) (pt_Mo_switchHears_278 C hE   h)
def pb_Mo_switchHears_261  (K : pj_M → Prop) (u : pj_M) (x3 : Int32) (s0 : Int32) (s1 : Int32) : Prop := pb_Mo_switchHears_262  K u x3 1 s0 s1
set_option maxHeartbeats 1000000 in
theorem pt_Mo_switchHears_261 {g : pj_G} {b : Nat} (C : pj_X g c_Mo_switchHears 5 R_Mo none rm_Mo_switchHears) {K : pj_M → Prop} (hE : pj_E g b (pj_Kv K))   {u : pj_M} {x3 : Int32} {s0 : Int32} {s1 : Int32}   (h : pb_Mo_switchHears_261  K u x3 s0 s1) : pj_J g (pj_N g b u) 261 [some (.ref (b + 217)), none, none, some (.int x3), none] [.int s0, .int s1, .ref (b + 269)] := by
  unfold pb_Mo_switchHears_261 at h
  refine pj_iconst C d_Mo_switchHears_261 (pc' := 262) rfl (v := 1) (by decide) ?_
  exact pj_cut (pj_le_s (pj_le_n (pj_le_n (pj_le_s (pj_le_n pj_le_e))))) (pt_Mo_switchHears_262 C hE   h)
def pb_Mo_switchHears_257  (K : pj_M → Prop) (u : pj_M) (x3 : Int32) (s0 : Int32) (s1 : Int32) : Prop := pb_Mo_switchHears_262  K u x3 0 s0 s1
set_option maxHeartbeats 1000000 in
theorem pt_Mo_switchHears_257 {g : pj_G} {b : Nat} (C : pj_X g c_Mo_switchHears 5 R_Mo none rm_Mo_switchHears) {K : pj_M → Prop} (hE : pj_E g b (pj_Kv K))   {u : pj_M} {x3 : Int32} {s0 : Int32} {s1 : Int32}   (h : pb_Mo_switchHears_257  K u x3 s0 s1) : pj_J g (pj_N g b u) 257 [some (.ref (b + 217)), none, none, some (.int x3), none] [.int s0, .int s1, .ref (b + 269)] := by
  unfold pb_Mo_switchHears_257 at h
  refine pj_iconst C d_Mo_switchHears_257 (pc' := 258) rfl (v := 0) (by decide) ?_
  refine pj_goto C d_Mo_switchHears_258 (tgt := 262) (by decide) ?_
  exact pj_cut (pj_le_s (pj_le_n (pj_le_n (pj_le_s (pj_le_n pj_le_e))))) (pt_Mo_switchHears_262 C hE   h)
def pb_Mo_switchHears_222  (K : pj_M → Prop) (u : pj_M) (x3 : Int32) : Prop := pw_Mo_sendPacket u x3 fun u1 => (vp_in x3 4 ∧ pj_put u1 259 x3.toNatClampNeg 3 fun u2 => (vp_in x3 4 ∧ pj_put u2 261 x3.toNatClampNeg 0 fun u3 => (vp_in x3 4 ∧ (vp_in x3 4 ∧ ((((u3 260 x3.toNatClampNeg) = 0) → (pb_Mo_switchHears_261  K u3 x3 (u3 269 x3.toNatClampNeg) x3)) ∧ (¬ ((u3 260 x3.toNatClampNeg) = 0) → (pb_Mo_switchHears_257  K u3 x3 (u3 269 x3.toNatClampNeg) x3)))))))
set_option maxHeartbeats 1000000 in
theorem pt_Mo_switchHears_222 {g : pj_G} {b : Nat} (C : pj_X g c_Mo_switchHears 5 R_Mo none rm_Mo_switchHears) {K : pj_M → Prop} (hE : pj_E g b (pj_Kv K))   {u : pj_M} {x3 : Int32}   (h : pb_Mo_switchHears_222  K u x3) : pj_J g (pj_N g b u) 222 [some (.ref (b + 217)), none, none, some (.int x3), none] [] := by
  unfold pb_Mo_switchHears_222 at h
  refine pj_aload_n C d_Mo_switchHears_222 (pc' := 223) (i := 0) (x := b + 217) rfl rfl rfl ?_
  refine pj_iload_n C d_Mo_switchHears_223 (pc' := 224) (i := 3) (x := x3) rfl rfl rfl ?_
  refine ck_Model_345_Model C  h d_Mo_switchHears_224 (pc' := 227) rfl ⟨Nat.le_of_ble_eq_true rfl, Nat.le_of_ble_eq_true rfl⟩ (Nat.le_of_ble_eq_true rfl) (fun u1 h => ?_)
  refine pj_aload_n C d_Mo_switchHears_227 (pc' := 228) (i := 0) (x := b + 217) rfl rfl rfl ?_
  refine fg_Model_134_Model C tk_217 d_Mo_switchHears_228 (pc' := 231) rfl ?_
  refine pj_iload_n C d_Mo_switchHears_231 (pc' := 232) (i := 3) (x := x3) rfl rfl rfl ?_
  refine pj_iconst C d_Mo_switchHears_232 (pc' := 233) rfl (v := 3) (by decide) ?_
  refine pj_iast C (pj_lt tk_259 (by decide)) (fun E u => ka_23 tk_259) d_Mo_switchHears_233 (pc' := 234) rfl h (fun u2 h => ?_)
  refine pj_aload_n C d_Mo_switchHears_234 (pc' := 235) (i := 0) (x := b + 217) rfl rfl rfl ?_
  refine fg_Model_140_Model C tk_217 d_Mo_switchHears_235 (pc' := 238) rfl ?_
  refine pj_iload_n C d_Mo_switchHears_238 (pc' := 239) (i := 3) (x := x3) rfl rfl rfl ?_
  refine pj_iconst C d_Mo_switchHears_239 (pc' := 240) rfl (v := 0) (by decide) ?_
  refine pj_iast C (pj_lt tk_261 (by decide)) (fun E u => ka_23 tk_261) d_Mo_switchHears_240 (pc' := 241) rfl h (fun u3 h => ?_)
  refine pj_aload_n C d_Mo_switchHears_241 (pc' := 242) (i := 0) (x := b + 217) rfl rfl rfl ?_
  refine fg_Model_164_Model C tk_217 d_Mo_switchHears_242 (pc' := 245) rfl ?_
  refine pj_iload_n C d_Mo_switchHears_245 (pc' := 246) (i := 3) (x := x3) rfl rfl rfl ?_
  refine pj_dup2_11 C d_Mo_switchHears_246 (pc' := 247) rfl rfl rfl ?_
  refine pj_iald C (pj_lt tk_269 (by decide)) (fun E u => ka_23 tk_269) d_Mo_switchHears_247 (pc' := 248) rfl h (fun h => ?_)
  refine pj_aload_n C d_Mo_switchHears_248 (pc' := 249) (i := 0) (x := b + 217) rfl rfl rfl ?_
  refine fg_Model_137_Model C tk_217 d_Mo_switchHears_249 (pc' := 252) rfl ?_
  refine pj_iload_n C d_Mo_switchHears_252 (pc' := 253) (i := 3) (x := x3) rfl rfl rfl ?_
  refine pj_zald C (pj_lt tk_260 (by decide)) (fun E u => ka_31 tk_260) d_Mo_switchHears_253 (pc' := 254) rfl h (fun h => ?_)
  refine pj_if_eq C d_Mo_switchHears_254 (pc' := 257) rfl (tgt := 261) (by decide) h (fun h => ?_) (fun h => ?_)
  · exact pj_cut (pj_le_s (pj_le_n (pj_le_n (pj_le_s (pj_le_n pj_le_e))))) (pt_Mo_switchHears_261 C hE   h)
  · exact pj_cut (pj_le_s (pj_le_n (pj_le_n (pj_le_s (pj_le_n pj_le_e))))) (pt_Mo_switchHears_257 C hE   h)
def pb_Mo_switchHears_212  (K : pj_M → Prop) (u : pj_M) (x3 : Int32) : Prop := vp_in 0 48 ∧ ((((u 227 (0 : Int32).toNatClampNeg) = 3) → (pb_Mo_switchHears_222  K u x3)) ∧ (¬ ((u 227 (0 : Int32).toNatClampNeg) = 3) → (pb_Mo_switchHears_299  K u x3)))
set_option maxHeartbeats 1000000 in
theorem pt_Mo_switchHears_212 {g : pj_G} {b : Nat} (C : pj_X g c_Mo_switchHears 5 R_Mo none rm_Mo_switchHears) {K : pj_M → Prop} (hE : pj_E g b (pj_Kv K))   {u : pj_M} {x3 : Int32}   (h : pb_Mo_switchHears_212  K u x3) : pj_J g (pj_N g b u) 212 [some (.ref (b + 217)), none, none, some (.int x3), none] [] := by
  unfold pb_Mo_switchHears_212 at h
  refine pj_aload_n C d_Mo_switchHears_212 (pc' := 213) (i := 0) (x := b + 217) rfl rfl rfl ?_
  refine fg_Model_38_Model C tk_217 d_Mo_switchHears_213 (pc' := 216) rfl ?_
  refine pj_iconst C d_Mo_switchHears_216 (pc' := 217) rfl (v := 0) (by decide) ?_
  refine pj_iald C (pj_lt tk_227 (by decide)) (fun E u => ka_22 tk_227) d_Mo_switchHears_217 (pc' := 218) rfl h (fun h => ?_)
  refine pj_iconst C d_Mo_switchHears_218 (pc' := 219) rfl (v := 3) (by decide) ?_
  refine pj_icmp_ne C d_Mo_switchHears_219 (pc' := 222) rfl (tgt := 299) (by decide) h (fun h => ?_) (fun h => ?_)
  · exact pj_cut (pj_le_s (pj_le_n (pj_le_n (pj_le_s (pj_le_n pj_le_e))))) (pt_Mo_switchHears_299 C hE   h)
  · exact pj_cut (pj_le_s (pj_le_n (pj_le_n (pj_le_s (pj_le_n pj_le_e))))) (pt_Mo_switchHears_222 C hE   h)
def pb_Mo_switchHears_194  (K : pj_M → Prop) (u : pj_M) (x3 : Int32) : Prop := vp_in x3 4 ∧ pj_put u 268 x3.toNatClampNeg (u 217 14) fun u1 => (pw_Mo_sendLast u1 x3 fun u2 => (pb_Mo_switchHears_309  K u2 ))
set_option maxHeartbeats 1000000 in
theorem pt_Mo_switchHears_194 {g : pj_G} {b : Nat} (C : pj_X g c_Mo_switchHears 5 R_Mo none rm_Mo_switchHears) {K : pj_M → Prop} (hE : pj_E g b (pj_Kv K))   {u : pj_M} {x3 : Int32}   (h : pb_Mo_switchHears_194  K u x3) : pj_J g (pj_N g b u) 194 [some (.ref (b + 217)), none, none, some (.int x3), none] [] := by
  unfold pb_Mo_switchHears_194 at h
  refine pj_aload_n C d_Mo_switchHears_194 (pc' := 195) (i := 0) (x := b + 217) rfl rfl rfl ?_
  refine fg_Model_161_Model C tk_217 d_Mo_switchHears_195 (pc' := 198) rfl ?_
  refine pj_iload_n C d_Mo_switchHears_198 (pc' := 199) (i := 3) (x := x3) rfl rfl rfl ?_
  refine pj_aload_n C d_Mo_switchHears_199 (pc' := 200) (i := 0) (x := b + 217) rfl rfl rfl ?_
  refine fg_Model_253_Model C tk_217 d_Mo_switchHears_200 (pc' := 203) rfl ?_
  refine pj_iast C (pj_lt tk_268 (by decide)) (fun E u => ka_23 tk_268) d_Mo_switchHears_203 (pc' := 204) rfl h (fun u1 h => ?_)
  refine pj_aload_n C d_Mo_switchHears_204 (pc' := 205) (i := 0) (x := b + 217) rfl rfl rfl ?_
  refine pj_iload_n C d_Mo_switchHears_205 (pc' := 206) (i := 3) (x := x3) rfl rfl rfl ?_
  refine ck_Model_348_Model C  h d_Mo_switchHears_206 (pc' := 209) rfl ⟨Nat.le_of_ble_eq_true rfl, Nat.le_of_ble_eq_true rfl⟩ (Nat.le_of_ble_eq_true rfl) (fun u2 h => ?_)
  refine pj_goto C d_Mo_switchHears_209 (tgt := 309) (by decide) ?_
  exact pj_cut (pj_le_n (pj_le_n (pj_le_n (pj_le_n (pj_le_n pj_le_e))))) (pt_Mo_switchHears_309 C hE   h)
def pb_Mo_switchHears_172  (K : pj_M → Prop) (u : pj_M) (x1 : Int32) (x3 : Int32) : Prop := vp_in x3 4 ∧ pj_put u 271 x3.toNatClampNeg ((-1)) fun u1 => (pj_put u1 217 69 x1 fun u2 => (vp_in 0 48 ∧ ((((u2 227 (0 : Int32).toNatClampNeg) = 1) → (pb_Mo_switchHears_194  K u2 x3)) ∧ (¬ ((u2 227 (0 : Int32).toNatClampNeg) = 1) → (pb_Mo_switchHears_212  K u2 x3)))))
set_option maxHeartbeats 1000000 in
theorem pt_Mo_switchHears_172 {g : pj_G} {b : Nat} (C : pj_X g c_Mo_switchHears 5 R_Mo none rm_Mo_switchHears) {K : pj_M → Prop} (hE : pj_E g b (pj_Kv K))   {u : pj_M} {x1 : Int32} {x3 : Int32}   (h : pb_Mo_switchHears_172  K u x1 x3) : pj_J g (pj_N g b u) 172 [some (.ref (b + 217)), some (.int x1), none, some (.int x3), none] [] := by
  unfold pb_Mo_switchHears_172 at h
  refine pj_aload_n C d_Mo_switchHears_172 (pc' := 173) (i := 0) (x := b + 217) rfl rfl rfl ?_
  refine fg_Model_170_Model C tk_217 d_Mo_switchHears_173 (pc' := 176) rfl ?_
  refine pj_iload_n C d_Mo_switchHears_176 (pc' := 177) (i := 3) (x := x3) rfl rfl rfl ?_
  refine pj_iconst C d_Mo_switchHears_177 (pc' := 178) rfl (v := (-1)) (by decide) ?_
  refine pj_iast C (pj_lt tk_271 (by decide)) (fun E u => ka_23 tk_271) d_Mo_switchHears_178 (pc' := 179) rfl h (fun u1 h => ?_)
  refine pj_aload_n C d_Mo_switchHears_179 (pc' := 180) (i := 0) (x := b + 217) rfl rfl rfl ?_
  refine pj_iload_n C d_Mo_switchHears_180 (pc' := 181) (i := 1) (x := x1) rfl rfl rfl ?_
  refine fp_Model_366_Model C tk_217  d_Mo_switchHears_181 (pc' := 184) rfl h (fun u2 h => ?_)
  refine pj_aload_n C d_Mo_switchHears_184 (pc' := 185) (i := 0) (x := b + 217) rfl rfl rfl ?_
  refine fg_Model_38_Model C tk_217 d_Mo_switchHears_185 (pc' := 188) rfl ?_
  refine pj_iconst C d_Mo_switchHears_188 (pc' := 189) rfl (v := 0) (by decide) ?_
  refine pj_iald C (pj_lt tk_227 (by decide)) (fun E u => ka_22 tk_227) d_Mo_switchHears_189 (pc' := 190) rfl h (fun h => ?_)
  refine pj_iconst C d_Mo_switchHears_190 (pc' := 191) rfl (v := 1) (by decide) ?_
  refine pj_icmp_ne C d_Mo_switchHears_191 (pc' := 194) rfl (tgt := 212) (by decide) h (fun h => ?_) (fun h => ?_)
  · exact pj_cut (pj_le_s (pj_le_n (pj_le_n (pj_le_s (pj_le_n pj_le_e))))) (pt_Mo_switchHears_212 C hE   h)
  · exact pj_cut (pj_le_s (pj_le_n (pj_le_n (pj_le_s (pj_le_n pj_le_e))))) (pt_Mo_switchHears_194 C hE   h)
def pb_Mo_switchHears_161  (K : pj_M → Prop) (u : pj_M)  : Prop := vp_in 0 3 ∧ (vp_in 0 3 ∧ pj_put u 277 (0 : Int32).toNatClampNeg ((u 277 (0 : Int32).toNatClampNeg) + 1) fun u1 => (K u1))
set_option maxHeartbeats 1000000 in
theorem pt_Mo_switchHears_161 {g : pj_G} {b : Nat} (C : pj_X g c_Mo_switchHears 5 R_Mo none rm_Mo_switchHears) {K : pj_M → Prop} (hE : pj_E g b (pj_Kv K))   {u : pj_M}    (h : pb_Mo_switchHears_161  K u ) : pj_J g (pj_N g b u) 161 [some (.ref (b + 217)), none, none, none, none] [] := by
  unfold pb_Mo_switchHears_161 at h
  refine pj_aload_n C d_Mo_switchHears_161 (pc' := 162) (i := 0) (x := b + 217) rfl rfl rfl ?_
  refine fg_Model_188_Model C tk_217 d_Mo_switchHears_162 (pc' := 165) rfl ?_
  refine pj_iconst C d_Mo_switchHears_165 (pc' := 166) rfl (v := 0) (by decide) ?_
  refine pj_dup2_11 C d_Mo_switchHears_166 (pc' := 167) rfl rfl rfl ?_
  refine pj_iald C (pj_lt tk_277 (by decide)) (fun E u => ka_34 tk_277) d_Mo_switchHears_167 (pc' := 168) rfl h (fun h => ?_)
  refine pj_iconst C d_Mo_switchHears_168 (pc' := 169) rfl (v := 1) (by decide) ?_
  refine pj_iadd C d_Mo_switchHears_169 (pc' := 170) rfl ?_
  refine pj_iast C (pj_lt tk_277 (by decide)) (fun E u => ka_34 tk_277) d_Mo_switchHears_170 (pc' := 171) rfl h (fun u1 h => ?_)
  exact pj_vret C hE d_Mo_switchHears_171 ⟨rfl, h⟩
def pb_Mo_switchHears_156  (K : pj_M → Prop) (u : pj_M) (x1 : Int32) (x3 : Int32) (s0 : Int32) : Prop := ((s0 = 0) → (pb_Mo_switchHears_161  K u )) ∧ (¬ (s0 = 0) → (pb_Mo_switchHears_172  K u x1 x3))
set_option maxHeartbeats 1000000 in
theorem pt_Mo_switchHears_156 {g : pj_G} {b : Nat} (C : pj_X g c_Mo_switchHears 5 R_Mo none rm_Mo_switchHears) {K : pj_M → Prop} (hE : pj_E g b (pj_Kv K))   {u : pj_M} {x1 : Int32} {x3 : Int32} {s0 : Int32}   (h : pb_Mo_switchHears_156  K u x1 x3 s0) : pj_J g (pj_N g b u) 156 [some (.ref (b + 217)), some (.int x1), none, some (.int x3), none] [.int s0] := by
  unfold pb_Mo_switchHears_156 at h
  refine pj_istore_n C d_Mo_switchHears_156 (pc' := 157) (i := 2) (vs' := [some (.ref (b + 217)), some (.int x1), some (.int s0), some (.int x3), none]) rfl rfl (Nat.le_of_ble_eq_true rfl) (Nat.le_of_ble_eq_true rfl) rfl rfl ?_
  refine pj_iload_n C d_Mo_switchHears_157 (pc' := 158) (i := 2) (x := s0) rfl rfl rfl ?_
  refine pj_if_ne C d_Mo_switchHears_158 (pc' := 161) rfl (tgt := 172) (by decide) h (fun h => ?_) (fun h => ?_)
  · exact pj_cut (pj_le_s (pj_le_s (pj_le_n (pj_le_s (pj_le_n pj_le_e))))) (pt_Mo_switchHears_172 C hE   h)
  · exact pj_cut (pj_le_s (pj_le_n (pj_le_n (pj_le_n (pj_le_n pj_le_e))))) (pt_Mo_switchHears_161 C hE   h)
def pb_Mo_switchHears_155  (K : pj_M → Prop) (u : pj_M) (x1 : Int32) (x3 : Int32) : Prop := pb_Mo_switchHears_156  K u x1 x3 0
set_option maxHeartbeats 1000000 in
theorem pt_Mo_switchHears_155 {g : pj_G} {b : Nat} (C : pj_X g c_Mo_switchHears 5 R_Mo none rm_Mo_switchHears) {K : pj_M → Prop} (hE : pj_E g b (pj_Kv K))   {u : pj_M} {x1 : Int32} {x3 : Int32}   (h : pb_Mo_switchHears_155  K u x1 x3) : pj_J g (pj_N g b u) 155 [some (.ref (b + 217)), some (.int x1), none, some (.int x3), none] [] := by
  unfold pb_Mo_switchHears_155 at h
  refine pj_iconst C d_Mo_switchHears_155 (pc' := 156) rfl (v := 0) (by decide) ?_
  exact pj_cut (pj_le_s (pj_le_s (pj_le_n (pj_le_s (pj_le_n pj_le_e))))) (pt_Mo_switchHears_156 C hE   h)
def pb_Mo_switchHears_151  (K : pj_M → Prop) (u : pj_M) (x1 : Int32) (x3 : Int32) : Prop := pb_Mo_switchHears_156  K u x1 x3 1
set_option maxHeartbeats 1000000 in
theorem pt_Mo_switchHears_151 {g : pj_G} {b : Nat} (C : pj_X g c_Mo_switchHears 5 R_Mo none rm_Mo_switchHears) {K : pj_M → Prop} (hE : pj_E g b (pj_Kv K))   {u : pj_M} {x1 : Int32} {x3 : Int32}   (h : pb_Mo_switchHears_151  K u x1 x3) : pj_J g (pj_N g b u) 151 [some (.ref (b + 217)), some (.int x1), none, some (.int x3), none] [] := by
  unfold pb_Mo_switchHears_151 at h
  refine pj_iconst C d_Mo_switchHears_151 (pc' := 152) rfl (v := 1) (by decide) ?_
  refine pj_goto C d_Mo_switchHears_152 (tgt := 156) (by decide) ?_
  exact pj_cut (pj_le_s (pj_le_s (pj_le_n (pj_le_s (pj_le_n pj_le_e))))) (pt_Mo_switchHears_156 C hE   h)
def pb_Mo_switchHears_141  (K : pj_M → Prop) (u : pj_M) (x1 : Int32) (x3 : Int32) : Prop := vp_in 0 48 ∧ ((((u 227 (0 : Int32).toNatClampNeg) = 4) → (pb_Mo_switchHears_151  K u x1 x3)) ∧ (¬ ((u 227 (0 : Int32).toNatClampNeg) = 4) → (pb_Mo_switchHears_155  K u x1 x3)))
set_option maxHeartbeats 1000000 in
theorem pt_Mo_switchHears_141 {g : pj_G} {b : Nat} (C : pj_X g c_Mo_switchHears 5 R_Mo none rm_Mo_switchHears) {K : pj_M → Prop} (hE : pj_E g b (pj_Kv K))   {u : pj_M} {x1 : Int32} {x3 : Int32}   (h : pb_Mo_switchHears_141  K u x1 x3) : pj_J g (pj_N g b u) 141 [some (.ref (b + 217)), some (.int x1), none, some (.int x3), none] [] := by
  unfold pb_Mo_switchHears_141 at h
  refine pj_aload_n C d_Mo_switchHears_141 (pc' := 142) (i := 0) (x := b + 217) rfl rfl rfl ?_
  refine fg_Model_38_Model C tk_217 d_Mo_switchHears_142 (pc' := 145) rfl ?_
  refine pj_iconst C d_Mo_switchHears_145 (pc' := 146) rfl (v := 0) (by decide) ?_
  refine pj_iald C (pj_lt tk_227 (by decide)) (fun E u => ka_22 tk_227) d_Mo_switchHears_146 (pc' := 147) rfl h (fun h => ?_)
  refine pj_iconst C d_Mo_switchHears_147 (pc' := 148) rfl (v := 4) (by decide) ?_
  refine pj_icmp_ne C d_Mo_switchHears_148 (pc' := 151) rfl (tgt := 155) (by decide) h (fun h => ?_) (fun h => ?_)
  · exact pj_cut (pj_le_s (pj_le_s (pj_le_n (pj_le_s (pj_le_n pj_le_e))))) (pt_Mo_switchHears_155 C hE   h)
  · exact pj_cut (pj_le_s (pj_le_s (pj_le_n (pj_le_s (pj_le_n pj_le_e))))) (pt_Mo_switchHears_151 C hE   h)
def pb_Mo_switchHears_131  (K : pj_M → Prop) (u : pj_M) (x1 : Int32) (x3 : Int32) : Prop := vp_in 0 48 ∧ ((((u 226 (0 : Int32).toNatClampNeg) = 3) → (pb_Mo_switchHears_141  K u x1 x3)) ∧ (¬ ((u 226 (0 : Int32).toNatClampNeg) = 3) → (pb_Mo_switchHears_155  K u x1 x3)))
set_option maxHeartbeats 1000000 in
theorem pt_Mo_switchHears_131 {g : pj_G} {b : Nat} (C : pj_X g c_Mo_switchHears 5 R_Mo none rm_Mo_switchHears) {K : pj_M → Prop} (hE : pj_E g b (pj_Kv K))   {u : pj_M} {x1 : Int32} {x3 : Int32}   (h : pb_Mo_switchHears_131  K u x1 x3) : pj_J g (pj_N g b u) 131 [some (.ref (b + 217)), some (.int x1), none, some (.int x3), none] [] := by
  unfold pb_Mo_switchHears_131 at h
  refine pj_aload_n C d_Mo_switchHears_131 (pc' := 132) (i := 0) (x := b + 217) rfl rfl rfl ?_
  refine fg_Model_35_Model C tk_217 d_Mo_switchHears_132 (pc' := 135) rfl ?_
  refine pj_iconst C d_Mo_switchHears_135 (pc' := 136) rfl (v := 0) (by decide) ?_
  refine pj_iald C (pj_lt tk_226 (by decide)) (fun E u => ka_22 tk_226) d_Mo_switchHears_136 (pc' := 137) rfl h (fun h => ?_)
  refine pj_iconst C d_Mo_switchHears_137 (pc' := 138) rfl (v := 3) (by decide) ?_
  refine pj_icmp_ne C d_Mo_switchHears_138 (pc' := 141) rfl (tgt := 155) (by decide) h (fun h => ?_) (fun h => ?_)
  · exact pj_cut (pj_le_s (pj_le_s (pj_le_n (pj_le_s (pj_le_n pj_le_e))))) (pt_Mo_switchHears_155 C hE   h)
  · exact pj_cut (pj_le_s (pj_le_s (pj_le_n (pj_le_s (pj_le_n pj_le_e))))) (pt_Mo_switchHears_141 C hE   h)
def pb_Mo_switchHears_121  (K : pj_M → Prop) (u : pj_M) (x1 : Int32) (x3 : Int32) : Prop := vp_in 0 48 ∧ ((((u 227 (0 : Int32).toNatClampNeg) = 3) → (pb_Mo_switchHears_151  K u x1 x3)) ∧ (¬ ((u 227 (0 : Int32).toNatClampNeg) = 3) → (pb_Mo_switchHears_131  K u x1 x3)))
set_option maxHeartbeats 1000000 in
theorem pt_Mo_switchHears_121 {g : pj_G} {b : Nat} (C : pj_X g c_Mo_switchHears 5 R_Mo none rm_Mo_switchHears) {K : pj_M → Prop} (hE : pj_E g b (pj_Kv K))   {u : pj_M} {x1 : Int32} {x3 : Int32}   (h : pb_Mo_switchHears_121  K u x1 x3) : pj_J g (pj_N g b u) 121 [some (.ref (b + 217)), some (.int x1), none, some (.int x3), none] [] := by
  unfold pb_Mo_switchHears_121 at h
  refine pj_aload_n C d_Mo_switchHears_121 (pc' := 122) (i := 0) (x := b + 217) rfl rfl rfl ?_
  refine fg_Model_38_Model C tk_217 d_Mo_switchHears_122 (pc' := 125) rfl ?_
  refine pj_iconst C d_Mo_switchHears_125 (pc' := 126) rfl (v := 0) (by decide) ?_
  refine pj_iald C (pj_lt tk_227 (by decide)) (fun E u => ka_22 tk_227) d_Mo_switchHears_126 (pc' := 127) rfl h (fun h => ?_)
  refine pj_iconst C d_Mo_switchHears_127 (pc' := 128) rfl (v := 3) (by decide) ?_
  refine pj_icmp_eq C d_Mo_switchHears_128 (pc' := 131) rfl (tgt := 151) (by decide) h (fun h => ?_) (fun h => ?_)
  · exact pj_cut (pj_le_s (pj_le_s (pj_le_n (pj_le_s (pj_le_n pj_le_e))))) (pt_Mo_switchHears_151 C hE   h)
  · exact pj_cut (pj_le_s (pj_le_s (pj_le_n (pj_le_s (pj_le_n pj_le_e))))) (pt_Mo_switchHears_131 C hE   h)
def pb_Mo_switchHears_111  (K : pj_M → Prop) (u : pj_M) (x1 : Int32) (x3 : Int32) : Prop := vp_in 0 48 ∧ ((((u 226 (0 : Int32).toNatClampNeg) = 2) → (pb_Mo_switchHears_121  K u x1 x3)) ∧ (¬ ((u 226 (0 : Int32).toNatClampNeg) = 2) → (pb_Mo_switchHears_131  K u x1 x3)))
set_option maxHeartbeats 1000000 in
theorem pt_Mo_switchHears_111 {g : pj_G} {b : Nat} (C : pj_X g c_Mo_switchHears 5 R_Mo none rm_Mo_switchHears) {K : pj_M → Prop} (hE : pj_E g b (pj_Kv K))   {u : pj_M} {x1 : Int32} {x3 : Int32}   (h : pb_Mo_switchHears_111  K u x1 x3) : pj_J g (pj_N g b u) 111 [some (.ref (b + 217)), some (.int x1), none, some (.int x3), none] [] := by
  unfold pb_Mo_switchHears_111 at h
  refine pj_aload_n C d_Mo_switchHears_111 (pc' := 112) (i := 0) (x := b + 217) rfl rfl rfl ?_
  refine fg_Model_35_Model C tk_217 d_Mo_switchHears_112 (pc' := 115) rfl ?_
  refine pj_iconst C d_Mo_switchHears_115 (pc' := 116) rfl (v := 0) (by decide) ?_
  refine pj_iald C (pj_lt tk_226 (by decide)) (fun E u => ka_22 tk_226) d_Mo_switchHears_116 (pc' := 117) rfl h (fun h => ?_)
  refine pj_iconst C d_Mo_switchHears_117 (pc' := 118) rfl (v := 2) (by decide) ?_
  refine pj_icmp_ne C d_Mo_switchHears_118 (pc' := 121) rfl (tgt := 131) (by decide) h (fun h => ?_) (fun h => ?_)
  · exact pj_cut (pj_le_s (pj_le_s (pj_le_n (pj_le_s (pj_le_n pj_le_e))))) (pt_Mo_switchHears_131 C hE   h)
  · exact pj_cut (pj_le_s (pj_le_s (pj_le_n (pj_le_s (pj_le_n pj_le_e))))) (pt_Mo_switchHears_121 C hE   h)
def pb_Mo_switchHears_101  (K : pj_M → Prop) (u : pj_M) (x1 : Int32) (x3 : Int32) : Prop := vp_in 0 48 ∧ ((((u 227 (0 : Int32).toNatClampNeg) = 1) → (pb_Mo_switchHears_151  K u x1 x3)) ∧ (¬ ((u 227 (0 : Int32).toNatClampNeg) = 1) → (pb_Mo_switchHears_111  K u x1 x3)))
set_option maxHeartbeats 1000000 in
theorem pt_Mo_switchHears_101 {g : pj_G} {b : Nat} (C : pj_X g c_Mo_switchHears 5 R_Mo none rm_Mo_switchHears) {K : pj_M → Prop} (hE : pj_E g b (pj_Kv K))   {u : pj_M} {x1 : Int32} {x3 : Int32}   (h : pb_Mo_switchHears_101  K u x1 x3) : pj_J g (pj_N g b u) 101 [some (.ref (b + 217)), some (.int x1), none, some (.int x3), none] [] := by
  unfold pb_Mo_switchHears_101 at h
  refine pj_aload_n C d_Mo_switchHears_101 (pc' := 102) (i := 0) (x := b + 217) rfl rfl rfl ?_
  refine fg_Model_38_Model C tk_217 d_Mo_switchHears_102 (pc' := 105) rfl ?_
  refine pj_iconst C d_Mo_switchHears_105 (pc' := 106) rfl (v := 0) (by decide) ?_
  refine pj_iald C (pj_lt tk_227 (by decide)) (fun E u => ka_22 tk_227) d_Mo_switchHears_106 (pc' := 107) rfl h (fun h => ?_)
  refine pj_iconst C d_Mo_switchHears_107 (pc' := 108) rfl (v := 1) (by decide) ?_
  refine pj_icmp_eq C d_Mo_switchHears_108 (pc' := 111) rfl (tgt := 151) (by decide) h (fun h => ?_) (fun h => ?_)
  · exact pj_cut (pj_le_s (pj_le_s (pj_le_n (pj_le_s (pj_le_n pj_le_e))))) (pt_Mo_switchHears_151 C hE   h)
  · exact pj_cut (pj_le_s (pj_le_s (pj_le_n (pj_le_s (pj_le_n pj_le_e))))) (pt_Mo_switchHears_111 C hE   h)
def pb_Mo_switchHears_90  (K : pj_M → Prop) (u : pj_M) (x1 : Int32) (x3 : Int32) : Prop := vp_in 0 48 ∧ ((((u 226 (0 : Int32).toNatClampNeg) = 11) → (pb_Mo_switchHears_101  K u x1 x3)) ∧ (¬ ((u 226 (0 : Int32).toNatClampNeg) = 11) → (pb_Mo_switchHears_111  K u x1 x3)))
set_option maxHeartbeats 1000000 in
theorem pt_Mo_switchHears_90 {g : pj_G} {b : Nat} (C : pj_X g c_Mo_switchHears 5 R_Mo none rm_Mo_switchHears) {K : pj_M → Prop} (hE : pj_E g b (pj_Kv K))   {u : pj_M} {x1 : Int32} {x3 : Int32}   (h : pb_Mo_switchHears_90  K u x1 x3) : pj_J g (pj_N g b u) 90 [some (.ref (b + 217)), some (.int x1), none, some (.int x3), none] [] := by
  unfold pb_Mo_switchHears_90 at h
  refine pj_aload_n C d_Mo_switchHears_90 (pc' := 91) (i := 0) (x := b + 217) rfl rfl rfl ?_
  refine fg_Model_35_Model C tk_217 d_Mo_switchHears_91 (pc' := 94) rfl ?_
  refine pj_iconst C d_Mo_switchHears_94 (pc' := 95) rfl (v := 0) (by decide) ?_
  refine pj_iald C (pj_lt tk_226 (by decide)) (fun E u => ka_22 tk_226) d_Mo_switchHears_95 (pc' := 96) rfl h (fun h => ?_)
  refine pj_bipush C d_Mo_switchHears_96 (pc' := 98) rfl (v := 11) (by decide) ?_
  refine pj_icmp_ne C d_Mo_switchHears_98 (pc' := 101) rfl (tgt := 111) (by decide) h (fun h => ?_) (fun h => ?_)
  · exact pj_cut (pj_le_s (pj_le_s (pj_le_n (pj_le_s (pj_le_n pj_le_e))))) (pt_Mo_switchHears_111 C hE   h)
  · exact pj_cut (pj_le_s (pj_le_s (pj_le_n (pj_le_s (pj_le_n pj_le_e))))) (pt_Mo_switchHears_101 C hE   h)
def pb_Mo_switchHears_85  (K : pj_M → Prop) (u : pj_M) (x1 : Int32) (x3 : Int32) (s0 : Int32) : Prop := ((s0 = 0) → (pb_Mo_switchHears_155  K u x1 x3)) ∧ (¬ (s0 = 0) → (pb_Mo_switchHears_90  K u x1 x3))
set_option maxHeartbeats 1000000 in
theorem pt_Mo_switchHears_85 {g : pj_G} {b : Nat} (C : pj_X g c_Mo_switchHears 5 R_Mo none rm_Mo_switchHears) {K : pj_M → Prop} (hE : pj_E g b (pj_Kv K))   {u : pj_M} {x1 : Int32} {x3 : Int32} {s0 : Int32}   (h : pb_Mo_switchHears_85  K u x1 x3 s0) : pj_J g (pj_N g b u) 85 [some (.ref (b + 217)), some (.int x1), none, some (.int x3), none] [.int s0] := by
  unfold pb_Mo_switchHears_85 at h
  refine pj_istore_n C d_Mo_switchHears_85 (pc' := 86) (i := 2) (vs' := [some (.ref (b + 217)), some (.int x1), some (.int s0), some (.int x3), none]) rfl rfl (Nat.le_of_ble_eq_true rfl) (Nat.le_of_ble_eq_true rfl) rfl rfl ?_
  refine pj_iload_n C d_Mo_switchHears_86 (pc' := 87) (i := 2) (x := s0) rfl rfl rfl ?_
  refine pj_if_eq C d_Mo_switchHears_87 (pc' := 90) rfl (tgt := 155) (by decide) h (fun h => ?_) (fun h => ?_)
  · exact pj_cut (pj_le_s (pj_le_s (pj_le_n (pj_le_s (pj_le_n pj_le_e))))) (pt_Mo_switchHears_155 C hE   h)
  · exact pj_cut (pj_le_s (pj_le_s (pj_le_n (pj_le_s (pj_le_n pj_le_e))))) (pt_Mo_switchHears_90 C hE   h)
def pb_Mo_switchHears_84  (K : pj_M → Prop) (u : pj_M) (x1 : Int32) (x3 : Int32) : Prop := pb_Mo_switchHears_85  K u x1 x3 0
set_option maxHeartbeats 1000000 in
theorem pt_Mo_switchHears_84 {g : pj_G} {b : Nat} (C : pj_X g c_Mo_switchHears 5 R_Mo none rm_Mo_switchHears) {K : pj_M → Prop} (hE : pj_E g b (pj_Kv K))   {u : pj_M} {x1 : Int32} {x3 : Int32}   (h : pb_Mo_switchHears_84  K u x1 x3) : pj_J g (pj_N g b u) 84 [some (.ref (b + 217)), some (.int x1), none, some (.int x3), none] [] := by
  unfold pb_Mo_switchHears_84 at h
  refine pj_iconst C d_Mo_switchHears_84 (pc' := 85) rfl (v := 0) (by decide) ?_
  exact pj_cut (pj_le_s (pj_le_s (pj_le_n (pj_le_s (pj_le_n pj_le_e))))) (pt_Mo_switchHears_85 C hE   h)
def pb_Mo_switchHears_80  (K : pj_M → Prop) (u : pj_M) (x1 : Int32) (x3 : Int32) : Prop := pb_Mo_switchHears_85  K u x1 x3 1
set_option maxHeartbeats 1000000 in
theorem pt_Mo_switchHears_80 {g : pj_G} {b : Nat} (C : pj_X g c_Mo_switchHears 5 R_Mo none rm_Mo_switchHears) {K : pj_M → Prop} (hE : pj_E g b (pj_Kv K))   {u : pj_M} {x1 : Int32} {x3 : Int32}   (h : pb_Mo_switchHears_80  K u x1 x3) : pj_J g (pj_N g b u) 80 [some (.ref (b + 217)), some (.int x1), none, some (.int x3), none] [] := by
  unfold pb_Mo_switchHears_80 at h
  refine pj_iconst C d_Mo_switchHears_80 (pc' := 81) rfl (v := 1) (by decide) ?_
  refine pj_goto C d_Mo_switchHears_81 (tgt := 85) (by decide) ?_
  exact pj_cut (pj_le_s (pj_le_s (pj_le_n (pj_le_s (pj_le_n pj_le_e))))) (pt_Mo_switchHears_85 C hE   h)
def pb_Mo_switchHears_66  (K : pj_M → Prop) (u : pj_M) (x1 : Int32) (x3 : Int32) (x4 : Int32) : Prop := pw_Mo_intAt u 3 fun r2 u1 => (pw_Mo_authWith u1 x4 fun r4 u3 => (((r2 = r4) → (pb_Mo_switchHears_80  K u3 x1 x3)) ∧ (¬ (r2 = r4) → (pb_Mo_switchHears_84  K u3 x1 x3))))
set_option maxHeartbeats 1000000 in
theorem pt_Mo_switchHears_66 {g : pj_G} {b : Nat} (C : pj_X g c_Mo_switchHears 5 R_Mo none rm_Mo_switchHears) {K : pj_M → Prop} (hE : pj_E g b (pj_Kv K))   {u : pj_M} {x1 : Int32} {x3 : Int32} {x4 : Int32}   (h : pb_Mo_switchHears_66  K u x1 x3 x4) : pj_J g (pj_N g b u) 66 [some (.ref (b + 217)), some (.int x1), none, some (.int x3), some (.int x4)] [] := by
  unfold pb_Mo_switchHears_66 at h
  refine pj_aload_n C d_Mo_switchHears_66 (pc' := 67) (i := 0) (x := b + 217) rfl rfl rfl ?_
  refine pj_iconst C d_Mo_switchHears_67 (pc' := 68) rfl (v := 3) (by decide) ?_
  refine ck_Model_307_Model C  h d_Mo_switchHears_68 (pc' := 71) rfl ⟨Nat.le_of_ble_eq_true rfl, Nat.le_of_ble_eq_true rfl⟩ (Nat.le_of_ble_eq_true rfl) (fun r2 u1 h => ?_)
  refine pj_aload_n C d_Mo_switchHears_71 (pc' := 72) (i := 0) (x := b + 217) rfl rfl rfl ?_
  refine pj_iload C d_Mo_switchHears_72 (pc' := 74) (i := 4) (x := x4) rfl rfl ?_
  refine ck_Model_320_Model C  h d_Mo_switchHears_74 (pc' := 77) rfl ⟨Nat.le_of_ble_eq_true rfl, Nat.le_of_ble_eq_true rfl⟩ (Nat.le_of_ble_eq_true rfl) (fun r4 u3 h => ?_)
  refine pj_icmp_ne C d_Mo_switchHears_77 (pc' := 80) rfl (tgt := 84) (by decide) h (fun h => ?_) (fun h => ?_)
  · exact pj_cut (pj_le_s (pj_le_s (pj_le_n (pj_le_s (pj_le_n pj_le_e))))) (pt_Mo_switchHears_84 C hE   h)
  · exact pj_cut (pj_le_s (pj_le_s (pj_le_n (pj_le_s (pj_le_n pj_le_e))))) (pt_Mo_switchHears_80 C hE   h)
def pb_Mo_switchHears_49  (K : pj_M → Prop) (u : pj_M) (x1 : Int32) (x3 : Int32) (x4 : Int32) : Prop := pw_Mo_intAt u (u 217 15) fun r2 u1 => (pw_Mo_sealWith u1 x4 fun r4 u3 => (((r2 = r4) → (pb_Mo_switchHears_66  K u3 x1 x3 x4)) ∧ (¬ (r2 = r4) → (pb_Mo_switchHears_84  K u3 x1 x3))))
set_option maxHeartbeats 1000000 in
theorem pt_Mo_switchHears_49 {g : pj_G} {b : Nat} (C : pj_X g c_Mo_switchHears 5 R_Mo none rm_Mo_switchHears) {K : pj_M → Prop} (hE : pj_E g b (pj_Kv K))   {u : pj_M} {x1 : Int32} {x3 : Int32} {x4 : Int32}   (h : pb_Mo_switchHears_49  K u x1 x3 x4) : pj_J g (pj_N g b u) 49 [some (.ref (b + 217)), some (.int x1), none, some (.int x3), some (.int x4)] [] := by
  unfold pb_Mo_switchHears_49 at h
  refine pj_aload_n C d_Mo_switchHears_49 (pc' := 50) (i := 0) (x := b + 217) rfl rfl rfl ?_
  refine pj_aload_n C d_Mo_switchHears_50 (pc' := 51) (i := 0) (x := b + 217) rfl rfl rfl ?_
  refine fg_Model_224_Model C tk_217 d_Mo_switchHears_51 (pc' := 54) rfl ?_
  refine ck_Model_307_Model C  h d_Mo_switchHears_54 (pc' := 57) rfl ⟨Nat.le_of_ble_eq_true rfl, Nat.le_of_ble_eq_true rfl⟩ (Nat.le_of_ble_eq_true rfl) (fun r2 u1 h => ?_)
  refine pj_aload_n C d_Mo_switchHears_57 (pc' := 58) (i := 0) (x := b + 217) rfl rfl rfl ?_
  refine pj_iload C d_Mo_switchHears_58 (pc' := 60) (i := 4) (x := x4) rfl rfl ?_
  refine ck_Model_260_Model C  h d_Mo_switchHears_60 (pc' := 63) rfl ⟨Nat.le_of_ble_eq_true rfl, Nat.le_of_ble_eq_true rfl⟩ (Nat.le_of_ble_eq_true rfl) (fun r4 u3 h => ?_)
  refine pj_icmp_ne C d_Mo_switchHears_63 (pc' := 66) rfl (tgt := 84) (by decide) h (fun h => ?_) (fun h => ?_)
  · exact pj_cut (pj_le_s (pj_le_s (pj_le_n (pj_le_s (pj_le_n pj_le_e))))) (pt_Mo_switchHears_84 C hE   h)
  · exact pj_cut (pj_le_s (pj_le_s (pj_le_n (pj_le_s (pj_le_s pj_le_e))))) (pt_Mo_switchHears_66 C hE   h)
def pb_Mo_switchHears_43  (K : pj_M → Prop) (u : pj_M) (x1 : Int32) (x3 : Int32) (s0 : Int32) : Prop := ((x3 < 0) → (pb_Mo_switchHears_84  K u x1 x3)) ∧ (¬ (x3 < 0) → (pb_Mo_switchHears_49  K u x1 x3 s0))
set_option maxHeartbeats 1000000 in
theorem pt_Mo_switchHears_43 {g : pj_G} {b : Nat} (C : pj_X g c_Mo_switchHears 5 R_Mo none rm_Mo_switchHears) {K : pj_M → Prop} (hE : pj_E g b (pj_Kv K))   {u : pj_M} {x1 : Int32} {x3 : Int32} {s0 : Int32}   (h : pb_Mo_switchHears_43  K u x1 x3 s0) : pj_J g (pj_N g b u) 43 [some (.ref (b + 217)), some (.int x1), none, some (.int x3), none] [.int s0] := by
  unfold pb_Mo_switchHears_43 at h
  refine pj_istore C d_Mo_switchHears_43 (pc' := 45) (i := 4) (vs' := [some (.ref (b + 217)), some (.int x1), none, some (.int x3), some (.int s0)]) rfl (Nat.le_of_ble_eq_true rfl) (Nat.le_of_ble_eq_true rfl) rfl rfl ?_
  refine pj_iload_n C d_Mo_switchHears_45 (pc' := 46) (i := 3) (x := x3) rfl rfl rfl ?_
  refine pj_if_lt C d_Mo_switchHears_46 (pc' := 49) rfl (tgt := 84) (by decide) h (fun h => ?_) (fun h => ?_)
  · exact pj_cut (pj_le_s (pj_le_s (pj_le_n (pj_le_s (pj_le_n pj_le_e))))) (pt_Mo_switchHears_84 C hE   h)
  · exact pj_cut (pj_le_s (pj_le_s (pj_le_n (pj_le_s (pj_le_s pj_le_e))))) (pt_Mo_switchHears_49 C hE   h)
def pb_Mo_switchHears_33  (K : pj_M → Prop) (u : pj_M) (x1 : Int32) (x3 : Int32) : Prop := vp_in x3 4 ∧ (pw_Mo_authOf u (u 274 x3.toNatClampNeg) fun r2 u1 => (pb_Mo_switchHears_43  K u1 x1 x3 r2))
set_option maxHeartbeats 1000000 in
theorem pt_Mo_switchHears_33 {g : pj_G} {b : Nat} (C : pj_X g c_Mo_switchHears 5 R_Mo none rm_Mo_switchHears) {K : pj_M → Prop} (hE : pj_E g b (pj_Kv K))   {u : pj_M} {x1 : Int32} {x3 : Int32}   (h : pb_Mo_switchHears_33  K u x1 x3) : pj_J g (pj_N g b u) 33 [some (.ref (b + 217)), some (.int x1), none, some (.int x3), none] [] := by
  unfold pb_Mo_switchHears_33 at h
  refine pj_aload_n C d_Mo_switchHears_33 (pc' := 34) (i := 0) (x := b + 217) rfl rfl rfl ?_
  refine pj_aload_n C d_Mo_switchHears_34 (pc' := 35) (i := 0) (x := b + 217) rfl rfl rfl ?_
  refine fg_Model_179_Model C tk_217 d_Mo_switchHears_35 (pc' := 38) rfl ?_
  refine pj_iload_n C d_Mo_switchHears_38 (pc' := 39) (i := 3) (x := x3) rfl rfl rfl ?_
  refine pj_iald C (pj_lt tk_274 (by decide)) (fun E u => ka_23 tk_274) d_Mo_switchHears_39 (pc' := 40) rfl h (fun h => ?_)
  refine ck_Model_357_Model C  h d_Mo_switchHears_40 (pc' := 43) rfl ⟨Nat.le_of_ble_eq_true rfl, Nat.le_of_ble_eq_true rfl⟩ (Nat.le_of_ble_eq_true rfl) (fun r2 u1 h => ?_)
  exact pj_cut (pj_le_s (pj_le_s (pj_le_n (pj_le_s (pj_le_n pj_le_e))))) (pt_Mo_switchHears_43 C hE   h)
def pb_Mo_switchHears_29  (K : pj_M → Prop) (u : pj_M) (x1 : Int32) (x3 : Int32) : Prop := pb_Mo_switchHears_43  K u x1 x3 0
set_option maxHeartbeats 1000000 in
theorem pt_Mo_switchHears_29 {g : pj_G} {b : Nat} (C : pj_X g c_Mo_switchHears 5 R_Mo none rm_Mo_switchHears) {K : pj_M → Prop} (hE : pj_E g b (pj_Kv K))   {u : pj_M} {x1 : Int32} {x3 : Int32}   (h : pb_Mo_switchHears_29  K u x1 x3) : pj_J g (pj_N g b u) 29 [some (.ref (b + 217)), some (.int x1), none, some (.int x3), none] [] := by
  unfold pb_Mo_switchHears_29 at h
  refine pj_iconst C d_Mo_switchHears_29 (pc' := 30) rfl (v := 0) (by decide) ?_
  refine pj_goto C d_Mo_switchHears_30 (tgt := 43) (by decide) ?_
  exact pj_cut (pj_le_s (pj_le_s (pj_le_n (pj_le_s (pj_le_n pj_le_e))))) (pt_Mo_switchHears_43 C hE   h)
def pb_Mo_switchHears_24  (K : pj_M → Prop) (u : pj_M) (x1 : Int32) (s0 : Int32) : Prop := ((0 ≤ s0) → (pb_Mo_switchHears_33  K u x1 s0)) ∧ (¬ (0 ≤ s0) → (pb_Mo_switchHears_29  K u x1 s0))
set_option maxHeartbeats 1000000 in
theorem pt_Mo_switchHears_24 {g : pj_G} {b : Nat} (C : pj_X g c_Mo_switchHears 5 R_Mo none rm_Mo_switchHears) {K : pj_M → Prop} (hE : pj_E g b (pj_Kv K))   {u : pj_M} {x1 : Int32} {s0 : Int32}   (h : pb_Mo_switchHears_24  K u x1 s0) : pj_J g (pj_N g b u) 24 [some (.ref (b + 217)), some (.int x1), none, none, none] [.int s0] := by
  unfold pb_Mo_switchHears_24 at h
  refine pj_istore_n C d_Mo_switchHears_24 (pc' := 25) (i := 3) (vs' := [some (.ref (b + 217)), some (.int x1), none, some (.int s0), none]) rfl rfl (Nat.le_of_ble_eq_true rfl) (Nat.le_of_ble_eq_true rfl) rfl rfl ?_
  refine pj_iload_n C d_Mo_switchHears_25 (pc' := 26) (i := 3) (x := s0) rfl rfl rfl ?_
  refine pj_if_ge C d_Mo_switchHears_26 (pc' := 29) rfl (tgt := 33) (by decide) h (fun h => ?_) (fun h => ?_)
  · exact pj_cut (pj_le_s (pj_le_s (pj_le_n (pj_le_s (pj_le_n pj_le_e))))) (pt_Mo_switchHears_33 C hE   h)
  · exact pj_cut (pj_le_s (pj_le_s (pj_le_n (pj_le_s (pj_le_n pj_le_e))))) (pt_Mo_switchHears_29 C hE   h)
def pb_Mo_switchHears_23  (K : pj_M → Prop) (u : pj_M) (x1 : Int32) : Prop := pb_Mo_switchHears_24  K u x1 ((-1))
set_option maxHeartbeats 1000000 in
theorem pt_Mo_switchHears_23 {g : pj_G} {b : Nat} (C : pj_X g c_Mo_switchHears 5 R_Mo none rm_Mo_switchHears) {K : pj_M → Prop} (hE : pj_E g b (pj_Kv K))   {u : pj_M} {x1 : Int32}   (h : pb_Mo_switchHears_23  K u x1) : pj_J g (pj_N g b u) 23 [some (.ref (b + 217)), some (.int x1), none, none, none] [] := by
  unfold pb_Mo_switchHears_23 at h
  refine pj_iconst C d_Mo_switchHears_23 (pc' := 24) rfl (v := (-1)) (by decide) ?_
  exact pj_cut (pj_le_s (pj_le_s (pj_le_n (pj_le_n (pj_le_n pj_le_e))))) (pt_Mo_switchHears_24 C hE   h)
def pb_Mo_switchHears_9  (K : pj_M → Prop) (u : pj_M) (x1 : Int32) : Prop := vp_in 1 48 ∧ (pw_Mo_portFor u x1 (u 226 (1 : Int32).toNatClampNeg) fun r2 u1 => (pb_Mo_switchHears_24  K u1 x1 r2))
set_option maxHeartbeats 1000000 in
theorem pt_Mo_switchHears_9 {g : pj_G} {b : Nat} (C : pj_X g c_Mo_switchHears 5 R_Mo none rm_Mo_switchHears) {K : pj_M → Prop} (hE : pj_E g b (pj_Kv K))   {u : pj_M} {x1 : Int32}   (h : pb_Mo_switchHears_9  K u x1) : pj_J g (pj_N g b u) 9 [some (.ref (b + 217)), some (.int x1), none, none, none] [] := by
  unfold pb_Mo_switchHears_9 at h
  refine pj_aload_n C d_Mo_switchHears_9 (pc' := 10) (i := 0) (x := b + 217) rfl rfl rfl ?_
  refine pj_iload_n C d_Mo_switchHears_10 (pc' := 11) (i := 1) (x := x1) rfl rfl rfl ?_
  refine pj_aload_n C d_Mo_switchHears_11 (pc' := 12) (i := 0) (x := b + 217) rfl rfl rfl ?_
  refine fg_Model_35_Model C tk_217 d_Mo_switchHears_12 (pc' := 15) rfl ?_
  refine pj_iconst C d_Mo_switchHears_15 (pc' := 16) rfl (v := 1) (by decide) ?_
  refine pj_iald C (pj_lt tk_226 (by decide)) (fun E u => ka_22 tk_226) d_Mo_switchHears_16 (pc' := 17) rfl h (fun h => ?_)
  refine ck_Model_372_Model C  h d_Mo_switchHears_17 (pc' := 20) rfl ⟨Nat.le_of_ble_eq_true rfl, Nat.le_of_ble_eq_true rfl⟩ (Nat.le_of_ble_eq_true rfl) (fun r2 u1 h => ?_)
  refine pj_goto C d_Mo_switchHears_20 (tgt := 24) (by decide) ?_
  exact pj_cut (pj_le_s (pj_le_s (pj_le_n (pj_le_n (pj_le_n pj_le_e))))) (pt_Mo_switchHears_24 C hE   h)
def pb_Mo_switchHears_0  (K : pj_M → Prop) (u : pj_M) (x1 : Int32) : Prop := pw_Mo_rightGram u  fun r2 u1 => (((r2 = 0) → (pb_Mo_switchHears_23  K u1 x1)) ∧ (¬ (r2 = 0) → (pb_Mo_switchHears_9  K u1 x1)))
set_option maxHeartbeats 1000000 in
theorem pt_Mo_switchHears_0 {g : pj_G} {b : Nat} (C : pj_X g c_Mo_switchHears 5 R_Mo none rm_Mo_switchHears) {K : pj_M → Prop} (hE : pj_E g b (pj_Kv K))   {u : pj_M} {x1 : Int32}   (h : pb_Mo_switchHears_0  K u x1) : pj_J g (pj_N g b u) 0 [some (.ref (b + 217)), some (.int x1), none, none, none] [] := by
  unfold pb_Mo_switchHears_0 at h
  refine pj_aload_n C d_Mo_switchHears_0 (pc' := 1) (i := 0) (x := b + 217) rfl rfl rfl ?_
  refine ck_Model_304_Model C  h d_Mo_switchHears_1 (pc' := 4) rfl ⟨Nat.le_of_ble_eq_true rfl, Nat.le_of_ble_eq_true rfl⟩ (Nat.le_of_ble_eq_true rfl) (fun r2 u1 h => ?_)
  refine pj_istore_n C d_Mo_switchHears_4 (pc' := 5) (i := 2) (vs' := [some (.ref (b + 217)), some (.int x1), some (.int r2), none, none]) rfl rfl (Nat.le_of_ble_eq_true rfl) (Nat.le_of_ble_eq_true rfl) rfl rfl ?_
  refine pj_iload_n C d_Mo_switchHears_5 (pc' := 6) (i := 2) (x := r2) rfl rfl rfl ?_
  refine pj_if_eq C d_Mo_switchHears_6 (pc' := 9) rfl (tgt := 23) (by decide) h (fun h => ?_) (fun h => ?_)
  · exact pj_cut (pj_le_s (pj_le_s (pj_le_n (pj_le_n (pj_le_n pj_le_e))))) (pt_Mo_switchHears_23 C hE   h)
  · exact pj_cut (pj_le_s (pj_le_s (pj_le_n (pj_le_n (pj_le_n pj_le_e))))) (pt_Mo_switchHears_9 C hE   h)
def pw_Mo_switchHears (u : pj_M) (x1 : Int32) (K : pj_M → Prop) : Prop := pb_Mo_switchHears_0  K u x1
theorem pc_Mo_switchHears (l : Launch) (D : va_G) (E : Nat → ClassId) {b : Nat} {u : pj_M} {x1 : Int32} {K : pj_M → Prop}  (h : pw_Mo_switchHears u x1 K) : pj_C l y_Mo_switchHears c_Mo_switchHears 5 none rm_Mo_switchHears D E b [.ref (b + 217), .int x1] u (pj_Kv K) := by
  refine pj_met (own := R_Mo) (by decide +kernel) rfl (Nat.le_of_ble_eq_true rfl) (fun g hE C => ?_)
  unfold pw_Mo_switchHears at h
  show pj_J g (pj_N g b u) 0 [some (.ref (b + 217)), some (.int x1), none, none, none] []
  exact pj_cut (pj_le_s (pj_le_s (pj_le_n (pj_le_n (pj_le_n pj_le_e))))) (pt_Mo_switchHears_0 C hE   h)
/-! Model.late(I)V -/
def rm_Mo_late : Room := { frames := 7, cells := 0, slots := 0, locals := 157 }
def pb_Mo_late_278  (K : pj_M → Prop) (u : pj_M)  : Prop := K u
set_option maxHeartbeats 1000000 in
theorem pt_Mo_late_278 {g : pj_G} {b : Nat} (C : pj_X g c_Mo_late 3 R_Mo none rm_Mo_late) {K : pj_M → Prop} (hE : pj_E g b (pj_Kv K))   {u : pj_M}    (h : pb_Mo_late_278  K u ) : pj_J g (pj_N g b u) 278 [none, none, none] [] := by
  unfold pb_Mo_late_278 at h
  exact pj_vret C hE d_Mo_late_278 ⟨rfl, h⟩
def pb_Mo_late_273  (K : pj_M → Prop) (u : pj_M) (x1 : Int32) : Prop := pw_Mo_beginPort u x1 fun u1 => (pb_Mo_late_278  K u1 )
set_option maxHeartbeats 1000000 in
theorem pt_Mo_late_273 {g : pj_G} {b : Nat} (C : pj_X g c_Mo_late 3 R_Mo none rm_Mo_late) {K : pj_M → Prop} (hE : pj_E g b (pj_Kv K))   {u : pj_M} {x1 : Int32}   (h : pb_Mo_late_273  K u x1) : pj_J g (pj_N g b u) 273 [some (.ref (b + 217)), some (.int x1), none] [] := by
  unfold pb_Mo_late_273 at h
  refine pj_aload_n C d_Mo_late_273 (pc' := 274) (i := 0) (x := b + 217) rfl rfl rfl ?_
  refine pj_iload_n C d_Mo_late_274 (pc' := 275) (i := 1) (x := x1) rfl rfl rfl ?_
  refine ck_Model_354_Model C  h d_Mo_late_275 (pc' := 278) rfl ⟨Nat.le_of_ble_eq_true rfl, Nat.le_of_ble_eq_true rfl⟩ (Nat.le_of_ble_eq_true rfl) (fun u1 h => ?_)
  exact pj_cut (pj_le_n (pj_le_n (pj_le_n pj_le_e))) (pt_Mo_late_278 C hE   h)
def pb_Mo_late_262  (K : pj_M → Prop) (u : pj_M) (x1 : Int32) : Prop := vp_in x1 4 ∧ ((((u 261 x1.toNatClampNeg) = 6) → (pb_Mo_late_273  K u x1)) ∧ (¬ ((u 261 x1.toNatClampNeg) = 6) → (pb_Mo_late_278  K u )))
set_option maxHeartbeats 1000000 in
theorem pt_Mo_late_262 {g : pj_G} {b : Nat} (C : pj_X g c_Mo_late 3 R_Mo none rm_Mo_late) {K : pj_M → Prop} (hE : pj_E g b (pj_Kv K))   {u : pj_M} {x1 : Int32}   (h : pb_Mo_late_262  K u x1) : pj_J g (pj_N g b u) 262 [some (.ref (b + 217)), some (.int x1), none] [] := by
  unfold pb_Mo_late_262 at h
  refine pj_aload_n C d_Mo_late_262 (pc' := 263) (i := 0) (x := b + 217) rfl rfl rfl ?_
  refine fg_Model_140_Model C tk_217 d_Mo_late_263 (pc' := 266) rfl ?_
  refine pj_iload_n C d_Mo_late_266 (pc' := 267) (i := 1) (x := x1) rfl rfl rfl ?_
  refine pj_iald C (pj_lt tk_261 (by decide)) (fun E u => ka_23 tk_261) d_Mo_late_267 (pc' := 268) rfl h (fun h => ?_)
  refine pj_bipush C d_Mo_late_268 (pc' := 270) rfl (v := 6) (by decide) ?_
  refine pj_icmp_ne C d_Mo_late_270 (pc' := 273) rfl (tgt := 278) (by decide) h (fun h => ?_) (fun h => ?_)
  · exact pj_cut (pj_le_n (pj_le_n (pj_le_n pj_le_e))) (pt_Mo_late_278 C hE   h)
  · exact pj_cut (pj_le_s (pj_le_s (pj_le_n pj_le_e))) (pt_Mo_late_273 C hE   h)
def pb_Mo_late_252  (K : pj_M → Prop) (u : pj_M) (x1 : Int32) : Prop := vp_in x1 4 ∧ ((((u 259 x1.toNatClampNeg) = 4) → (pb_Mo_late_262  K u x1)) ∧ (¬ ((u 259 x1.toNatClampNeg) = 4) → (pb_Mo_late_278  K u )))
set_option maxHeartbeats 1000000 in
theorem pt_Mo_late_252 {g : pj_G} {b : Nat} (C : pj_X g c_Mo_late 3 R_Mo none rm_Mo_late) {K : pj_M → Prop} (hE : pj_E g b (pj_Kv K))   {u : pj_M} {x1 : Int32}   (h : pb_Mo_late_252  K u x1) : pj_J g (pj_N g b u) 252 [some (.ref (b + 217)), some (.int x1), none] [] := by
  unfold pb_Mo_late_252 at h
  refine pj_aload_n C d_Mo_late_252 (pc' := 253) (i := 0) (x := b + 217) rfl rfl rfl ?_
  refine fg_Model_134_Model C tk_217 d_Mo_late_253 (pc' := 256) rfl ?_
  refine pj_iload_n C d_Mo_late_256 (pc' := 257) (i := 1) (x := x1) rfl rfl rfl ?_
  refine pj_iald C (pj_lt tk_259 (by decide)) (fun E u => ka_23 tk_259) d_Mo_late_257 (pc' := 258) rfl h (fun h => ?_)
  refine pj_iconst C d_Mo_late_258 (pc' := 259) rfl (v := 4) (by decide) ?_
  refine pj_icmp_ne C d_Mo_late_259 (pc' := 262) rfl (tgt := 278) (by decide) h (fun h => ?_) (fun h => ?_)
  · exact pj_cut (pj_le_n (pj_le_n (pj_le_n pj_le_e))) (pt_Mo_late_278 C hE   h)
  · exact pj_cut (pj_le_s (pj_le_s (pj_le_n pj_le_e))) (pt_Mo_late_262 C hE   h)
def pb_Mo_late_241  (K : pj_M → Prop) (u : pj_M) (x1 : Int32) : Prop := vp_in x1 4 ∧ ((((u 261 x1.toNatClampNeg) = 30) → (pb_Mo_late_273  K u x1)) ∧ (¬ ((u 261 x1.toNatClampNeg) = 30) → (pb_Mo_late_252  K u x1)))
set_option maxHeartbeats 1000000 in
theorem pt_Mo_late_241 {g : pj_G} {b : Nat} (C : pj_X g c_Mo_late 3 R_Mo none rm_Mo_late) {K : pj_M → Prop} (hE : pj_E g b (pj_Kv K))   {u : pj_M} {x1 : Int32}   (h : pb_Mo_late_241  K u x1) : pj_J g (pj_N g b u) 241 [some (.ref (b + 217)), some (.int x1), none] [] := by
  unfold pb_Mo_late_241 at h
  refine pj_aload_n C d_Mo_late_241 (pc' := 242) (i := 0) (x := b + 217) rfl rfl rfl ?_
  refine fg_Model_140_Model C tk_217 d_Mo_late_242 (pc' := 245) rfl ?_
  refine pj_iload_n C d_Mo_late_245 (pc' := 246) (i := 1) (x := x1) rfl rfl rfl ?_
  refine pj_iald C (pj_lt tk_261 (by decide)) (fun E u => ka_23 tk_261) d_Mo_late_246 (pc' := 247) rfl h (fun h => ?_)
  refine pj_bipush C d_Mo_late_247 (pc' := 249) rfl (v := 30) (by decide) ?_
  refine pj_icmp_eq C d_Mo_late_249 (pc' := 252) rfl (tgt := 273) (by decide) h (fun h => ?_) (fun h => ?_)
  · exact pj_cut (pj_le_s (pj_le_s (pj_le_n pj_le_e))) (pt_Mo_late_273 C hE   h)
  · exact pj_cut (pj_le_s (pj_le_s (pj_le_n pj_le_e))) (pt_Mo_late_252 C hE   h)
def pb_Mo_late_231  (K : pj_M → Prop) (u : pj_M) (x1 : Int32) : Prop := vp_in x1 4 ∧ ((((u 259 x1.toNatClampNeg) = 3) → (pb_Mo_late_241  K u x1)) ∧ (¬ ((u 259 x1.toNatClampNeg) = 3) → (pb_Mo_late_252  K u x1)))
set_option maxHeartbeats 1000000 in
theorem pt_Mo_late_231 {g : pj_G} {b : Nat} (C : pj_X g c_Mo_late 3 R_Mo none rm_Mo_late) {K : pj_M → Prop} (hE : pj_E g b (pj_Kv K))   {u : pj_M} {x1 : Int32}   (h : pb_Mo_late_231  K u x1) : pj_J g (pj_N g b u) 231 [some (.ref (b + 217)), some (.int x1), none] [] := by
  unfold pb_Mo_late_231 at h
  refine pj_aload_n C d_Mo_late_231 (pc' := 232) (i := 0) (x := b + 217) rfl rfl rfl ?_
  refine fg_Model_134_Model C tk_217 d_Mo_late_232 (pc' := 235) rfl ?_
  refine pj_iload_n C d_Mo_late_235 (pc' := 236) (i := 1) (x := x1) rfl rfl rfl ?_
  refine pj_iald C (pj_lt tk_259 (by decide)) (fun E u => ka_23 tk_259) d_Mo_late_236 (pc' := 237) rfl h (fun h => ?_)
  refine pj_iconst C d_Mo_late_237 (pc' := 238) rfl (v := 3) (by decide) ?_
  refine pj_icmp_ne C d_Mo_late_238 (pc' := 241) rfl (tgt := 252) (by decide) h (fun h => ?_) (fun h => ?_)
  · exact pj_cut (pj_le_s (pj_le_s (pj_le_n pj_le_e))) (pt_Mo_late_252 C hE   h)
  · exact pj_cut (pj_le_s (pj_le_s (pj_le_n pj_le_e))) (pt_Mo_late_241 C hE   h)
def pb_Mo_late_201  (K : pj_M → Prop) (u : pj_M) (x1 : Int32) : Prop := vp_in ((20 * x1) + 1) 80 ∧ (pw_Mo_packet u 4 (u 263 ((20 * x1) + 1).toNatClampNeg) 0 fun u1 => (pw_Mo_sendPacket u1 x1 fun u2 => (pw_Mo_failPort u2 x1 fun u3 => (pb_Mo_late_278  K u3 ))))
set_option maxHeartbeats 1000000 in
theorem pt_Mo_late_201 {g : pj_G} {b : Nat} (C : pj_X g c_Mo_late 3 R_Mo none rm_Mo_late) {K : pj_M → Prop} (hE : pj_E g b (pj_Kv K))   {u : pj_M} {x1 : Int32}   (h : pb_Mo_late_201  K u x1) : pj_J g (pj_N g b u) 201 [some (.ref (b + 217)), some (.int x1), none] [] := by
  unfold pb_Mo_late_201 at h
  refine pj_aload_n C d_Mo_late_201 (pc' := 202) (i := 0) (x := b + 217) rfl rfl rfl ?_
  refine pj_iconst C d_Mo_late_202 (pc' := 203) rfl (v := 4) (by decide) ?_
  refine pj_aload_n C d_Mo_late_203 (pc' := 204) (i := 0) (x := b + 217) rfl rfl rfl ?_
  refine fg_Model_146_Model C tk_217 d_Mo_late_204 (pc' := 207) rfl ?_
  refine pj_bipush C d_Mo_late_207 (pc' := 209) rfl (v := 20) (by decide) ?_
  refine pj_iload_n C d_Mo_late_209 (pc' := 210) (i := 1) (x := x1) rfl rfl rfl ?_
  refine pj_imul C d_Mo_late_210 (pc' := 211) rfl ?_
  refine pj_iconst C d_Mo_late_211 (pc' := 212) rfl (v := 1) (by decide) ?_
  refine pj_iadd C d_Mo_late_212 (pc' := 213) rfl ?_
  refine pj_iald C (pj_lt tk_263 (by decide)) (fun E u => ka_35 tk_263) d_Mo_late_213 (pc' := 214) rfl h (fun h => ?_)
  refine pj_iconst C d_Mo_late_214 (pc' := 215) rfl (v := 0) (by decide) ?_
  refine ck_Model_279_Model C  h d_Mo_late_215 (pc' := 218) rfl ⟨Nat.le_of_ble_eq_true rfl, Nat.le_of_ble_eq_true rfl⟩ (Nat.le_of_ble_eq_true rfl) (fun u1 h => ?_)
  refine pj_aload_n C d_Mo_late_218 (pc' := 219) (i := 0) (x := b + 217) rfl rfl rfl ?_
  refine pj_iload_n C d_Mo_late_219 (pc' := 220) (i := 1) (x := x1) rfl rfl rfl ?_
  refine ck_Model_345_Model C  h d_Mo_late_220 (pc' := 223) rfl ⟨Nat.le_of_ble_eq_true rfl, Nat.le_of_ble_eq_true rfl⟩ (Nat.le_of_ble_eq_true rfl) (fun u2 h => ?_)
  refine pj_aload_n C d_Mo_late_223 (pc' := 224) (i := 0) (x := b + 217) rfl rfl rfl ?_
  refine pj_iload_n C d_Mo_late_224 (pc' := 225) (i := 1) (x := x1) rfl rfl rfl ?_
  refine ck_Model_375_Model C  h d_Mo_late_225 (pc' := 228) rfl ⟨Nat.le_of_ble_eq_true rfl, Nat.le_of_ble_eq_true rfl⟩ (Nat.le_of_ble_eq_true rfl) (fun u3 h => ?_)
  refine pj_goto C d_Mo_late_228 (tgt := 278) (by decide) ?_
  exact pj_cut (pj_le_n (pj_le_n (pj_le_n pj_le_e))) (pt_Mo_late_278 C hE   h)
def pb_Mo_late_178  (K : pj_M → Prop) (u : pj_M) (x1 : Int32) : Prop := vp_in x1 4 ∧ pj_put u 273 x1.toNatClampNeg (vp_nar .boolean 1) fun u1 => (vp_in x1 4 ∧ (pw_Mo_ask u1 x1 (1 - (u1 271 x1.toNatClampNeg)) fun u2 => (pb_Mo_late_278  K u2 )))
set_option maxHeartbeats 1000000 in
theorem pt_Mo_late_178 {g : pj_G} {b : Nat} (C : pj_X g c_Mo_late 3 R_Mo none rm_Mo_late) {K : pj_M → Prop} (hE : pj_E g b (pj_Kv K))   {u : pj_M} {x1 : Int32}   (h : pb_Mo_late_178  K u x1) : pj_J g (pj_N g b u) 178 [some (.ref (b + 217)), some (.int x1), none] [] := by
  unfold pb_Mo_late_178 at h
  refine pj_aload_n C d_Mo_late_178 (pc' := 179) (i := 0) (x := b + 217) rfl rfl rfl ?_
  refine fg_Model_176_Model C tk_217 d_Mo_late_179 (pc' := 182) rfl ?_
  refine pj_iload_n C d_Mo_late_182 (pc' := 183) (i := 1) (x := x1) rfl rfl rfl ?_
  refine pj_iconst C d_Mo_late_183 (pc' := 184) rfl (v := 1) (by decide) ?_
  refine pj_zast C (pj_lt tk_273 (by decide)) (fun E u => ka_31 tk_273) d_Mo_late_184 (pc' := 185) rfl h (fun u1 h => ?_)
  refine pj_aload_n C d_Mo_late_185 (pc' := 186) (i := 0) (x := b + 217) rfl rfl rfl ?_
  refine pj_iload_n C d_Mo_late_186 (pc' := 187) (i := 1) (x := x1) rfl rfl rfl ?_
  refine pj_iconst C d_Mo_late_187 (pc' := 188) rfl (v := 1) (by decide) ?_
  refine pj_aload_n C d_Mo_late_188 (pc' := 189) (i := 0) (x := b + 217) rfl rfl rfl ?_
  refine fg_Model_170_Model C tk_217 d_Mo_late_189 (pc' := 192) rfl ?_
  refine pj_iload_n C d_Mo_late_192 (pc' := 193) (i := 1) (x := x1) rfl rfl rfl ?_
  refine pj_iald C (pj_lt tk_271 (by decide)) (fun E u => ka_23 tk_271) d_Mo_late_193 (pc' := 194) rfl h (fun h => ?_)
  refine pj_isub C d_Mo_late_194 (pc' := 195) rfl ?_
  refine ck_Model_369_Model C  h d_Mo_late_195 (pc' := 198) rfl ⟨Nat.le_of_ble_eq_true rfl, Nat.le_of_ble_eq_true rfl⟩ (Nat.le_of_ble_eq_true rfl) (fun u2 h => ?_)
  refine pj_goto C d_Mo_late_198 (tgt := 278) (by decide) ?_
  exact pj_cut (pj_le_n (pj_le_n (pj_le_n pj_le_e))) (pt_Mo_late_278 C hE   h)
def pb_Mo_late_169  (K : pj_M → Prop) (u : pj_M) (x1 : Int32) : Prop := vp_in x1 4 ∧ ((((u 273 x1.toNatClampNeg) = 0) → (pb_Mo_late_178  K u x1)) ∧ (¬ ((u 273 x1.toNatClampNeg) = 0) → (pb_Mo_late_201  K u x1)))
set_option maxHeartbeats 1000000 in
theorem pt_Mo_late_169 {g : pj_G} {b : Nat} (C : pj_X g c_Mo_late 3 R_Mo none rm_Mo_late) {K : pj_M → Prop} (hE : pj_E g b (pj_Kv K))   {u : pj_M} {x1 : Int32}   (h : pb_Mo_late_169  K u x1) : pj_J g (pj_N g b u) 169 [some (.ref (b + 217)), some (.int x1), none] [] := by
  unfold pb_Mo_late_169 at h
  refine pj_aload_n C d_Mo_late_169 (pc' := 170) (i := 0) (x := b + 217) rfl rfl rfl ?_
  refine fg_Model_176_Model C tk_217 d_Mo_late_170 (pc' := 173) rfl ?_
  refine pj_iload_n C d_Mo_late_173 (pc' := 174) (i := 1) (x := x1) rfl rfl rfl ?_
  refine pj_zald C (pj_lt tk_273 (by decide)) (fun E u => ka_31 tk_273) d_Mo_late_174 (pc' := 175) rfl h (fun h => ?_)
  refine pj_if_ne C d_Mo_late_175 (pc' := 178) rfl (tgt := 201) (by decide) h (fun h => ?_) (fun h => ?_)
  · exact pj_cut (pj_le_s (pj_le_s (pj_le_n pj_le_e))) (pt_Mo_late_201 C hE   h)
  · exact pj_cut (pj_le_s (pj_le_s (pj_le_n pj_le_e))) (pt_Mo_late_178 C hE   h)
def pb_Mo_late_147  (K : pj_M → Prop) (u : pj_M) (x1 : Int32) : Prop := vp_in x1 4 ∧ pj_put u 272 x1.toNatClampNeg 2 fun u1 => (vp_in x1 4 ∧ pj_put u1 261 x1.toNatClampNeg 0 fun u2 => (pw_Mo_sendQuery u2 x1 fun u3 => (pb_Mo_late_278  K u3 )))
set_option maxHeartbeats 1000000 in
theorem pt_Mo_late_147 {g : pj_G} {b : Nat} (C : pj_X g c_Mo_late 3 R_Mo none rm_Mo_late) {K : pj_M → Prop} (hE : pj_E g b (pj_Kv K))   {u : pj_M} {x1 : Int32}   (h : pb_Mo_late_147  K u x1) : pj_J g (pj_N g b u) 147 [some (.ref (b + 217)), some (.int x1), none] [] := by
  unfold pb_Mo_late_147 at h
  refine pj_aload_n C d_Mo_late_147 (pc' := 148) (i := 0) (x := b + 217) rfl rfl rfl ?_
  refine fg_Model_173_Model C tk_217 d_Mo_late_148 (pc' := 151) rfl ?_
  refine pj_iload_n C d_Mo_late_151 (pc' := 152) (i := 1) (x := x1) rfl rfl rfl ?_
  refine pj_iconst C d_Mo_late_152 (pc' := 153) rfl (v := 2) (by decide) ?_
  refine pj_iast C (pj_lt tk_272 (by decide)) (fun E u => ka_23 tk_272) d_Mo_late_153 (pc' := 154) rfl h (fun u1 h => ?_)
  refine pj_aload_n C d_Mo_late_154 (pc' := 155) (i := 0) (x := b + 217) rfl rfl rfl ?_
  refine fg_Model_140_Model C tk_217 d_Mo_late_155 (pc' := 158) rfl ?_
  refine pj_iload_n C d_Mo_late_158 (pc' := 159) (i := 1) (x := x1) rfl rfl rfl ?_
  refine pj_iconst C d_Mo_late_159 (pc' := 160) rfl (v := 0) (by decide) ?_
  refine pj_iast C (pj_lt tk_261 (by decide)) (fun E u => ka_23 tk_261) d_Mo_late_160 (pc' := 161) rfl h (fun u2 h => ?_)
  refine pj_aload_n C d_Mo_late_161 (pc' := 162) (i := 0) (x := b + 217) rfl rfl rfl ?_
  refine pj_iload_n C d_Mo_late_162 (pc' := 163) (i := 1) (x := x1) rfl rfl rfl ?_
  refine ck_Model_363_Model C  h d_Mo_late_163 (pc' := 166) rfl ⟨Nat.le_of_ble_eq_true rfl, Nat.le_of_ble_eq_true rfl⟩ (Nat.le_of_ble_eq_true rfl) (fun u3 h => ?_)
  refine pj_goto C d_Mo_late_166 (tgt := 278) (by decide) ?_
  exact pj_cut (pj_le_n (pj_le_n (pj_le_n pj_le_e))) (pt_Mo_late_278 C hE   h)
def pb_Mo_late_137  (K : pj_M → Prop) (u : pj_M) (x1 : Int32) : Prop := vp_in x1 4 ∧ ((((u 272 x1.toNatClampNeg) = 1) → (pb_Mo_late_147  K u x1)) ∧ (¬ ((u 272 x1.toNatClampNeg) = 1) → (pb_Mo_late_169  K u x1)))
set_option maxHeartbeats 1000000 in
theorem pt_Mo_late_137 {g : pj_G} {b : Nat} (C : pj_X g c_Mo_late 3 R_Mo none rm_Mo_late) {K : pj_M → Prop} (hE : pj_E g b (pj_Kv K))   {u : pj_M} {x1 : Int32}   (h : pb_Mo_late_137  K u x1) : pj_J g (pj_N g b u) 137 [some (.ref (b + 217)), some (.int x1), none] [] := by
  unfold pb_Mo_late_137 at h
  refine pj_aload_n C d_Mo_late_137 (pc' := 138) (i := 0) (x := b + 217) rfl rfl rfl ?_
  refine fg_Model_173_Model C tk_217 d_Mo_late_138 (pc' := 141) rfl ?_
  refine pj_iload_n C d_Mo_late_141 (pc' := 142) (i := 1) (x := x1) rfl rfl rfl ?_
  refine pj_iald C (pj_lt tk_272 (by decide)) (fun E u => ka_23 tk_272) d_Mo_late_142 (pc' := 143) rfl h (fun h => ?_)
  refine pj_iconst C d_Mo_late_143 (pc' := 144) rfl (v := 1) (by decide) ?_
  refine pj_icmp_ne C d_Mo_late_144 (pc' := 147) rfl (tgt := 169) (by decide) h (fun h => ?_) (fun h => ?_)
  · exact pj_cut (pj_le_s (pj_le_s (pj_le_n pj_le_e))) (pt_Mo_late_169 C hE   h)
  · exact pj_cut (pj_le_s (pj_le_s (pj_le_n pj_le_e))) (pt_Mo_late_147 C hE   h)
def pb_Mo_late_127  (K : pj_M → Prop) (u : pj_M) (x1 : Int32) : Prop := vp_in x1 4 ∧ ((((u 261 x1.toNatClampNeg) = 4) → (pb_Mo_late_137  K u x1)) ∧ (¬ ((u 261 x1.toNatClampNeg) = 4) → (pb_Mo_late_231  K u x1)))
set_option maxHeartbeats 1000000 in
theorem pt_Mo_late_127 {g : pj_G} {b : Nat} (C : pj_X g c_Mo_late 3 R_Mo none rm_Mo_late) {K : pj_M → Prop} (hE : pj_E g b (pj_Kv K))   {u : pj_M} {x1 : Int32}   (h : pb_Mo_late_127  K u x1) : pj_J g (pj_N g b u) 127 [some (.ref (b + 217)), some (.int x1), none] [] := by
  unfold pb_Mo_late_127 at h
  refine pj_aload_n C d_Mo_late_127 (pc' := 128) (i := 0) (x := b + 217) rfl rfl rfl ?_
  refine fg_Model_140_Model C tk_217 d_Mo_late_128 (pc' := 131) rfl ?_
  refine pj_iload_n C d_Mo_late_131 (pc' := 132) (i := 1) (x := x1) rfl rfl rfl ?_
  refine pj_iald C (pj_lt tk_261 (by decide)) (fun E u => ka_23 tk_261) d_Mo_late_132 (pc' := 133) rfl h (fun h => ?_)
  refine pj_iconst C d_Mo_late_133 (pc' := 134) rfl (v := 4) (by decide) ?_
  refine pj_icmp_ne C d_Mo_late_134 (pc' := 137) rfl (tgt := 231) (by decide) h (fun h => ?_) (fun h => ?_)
  · exact pj_cut (pj_le_s (pj_le_s (pj_le_n pj_le_e))) (pt_Mo_late_231 C hE   h)
  · exact pj_cut (pj_le_s (pj_le_s (pj_le_n pj_le_e))) (pt_Mo_late_137 C hE   h)
def pb_Mo_late_118  (K : pj_M → Prop) (u : pj_M) (x1 : Int32) : Prop := vp_in x1 4 ∧ ((((u 271 x1.toNatClampNeg) < 0) → (pb_Mo_late_231  K u x1)) ∧ (¬ ((u 271 x1.toNatClampNeg) < 0) → (pb_Mo_late_127  K u x1)))
set_option maxHeartbeats 1000000 in
theorem pt_Mo_late_118 {g : pj_G} {b : Nat} (C : pj_X g c_Mo_late 3 R_Mo none rm_Mo_late) {K : pj_M → Prop} (hE : pj_E g b (pj_Kv K))   {u : pj_M} {x1 : Int32}   (h : pb_Mo_late_118  K u x1) : pj_J g (pj_N g b u) 118 [some (.ref (b + 217)), some (.int x1), none] [] := by
  unfold pb_Mo_late_118 at h
  refine pj_aload_n C d_Mo_late_118 (pc' := 119) (i := 0) (x := b + 217) rfl rfl rfl ?_
  refine fg_Model_170_Model C tk_217 d_Mo_late_119 (pc' := 122) rfl ?_
  refine pj_iload_n C d_Mo_late_122 (pc' := 123) (i := 1) (x := x1) rfl rfl rfl ?_
  refine pj_iald C (pj_lt tk_271 (by decide)) (fun E u => ka_23 tk_271) d_Mo_late_123 (pc' := 124) rfl h (fun h => ?_)
  refine pj_if_lt C d_Mo_late_124 (pc' := 127) rfl (tgt := 231) (by decide) h (fun h => ?_) (fun h => ?_)
  · exact pj_cut (pj_le_s (pj_le_s (pj_le_n pj_le_e))) (pt_Mo_late_231 C hE   h)
  · exact pj_cut (pj_le_s (pj_le_s (pj_le_n pj_le_e))) (pt_Mo_late_127 C hE   h)
def pb_Mo_late_110  (K : pj_M → Prop) (u : pj_M) (x1 : Int32) : Prop := pw_Mo_beginPort u x1 fun u1 => (pb_Mo_late_278  K u1 )
set_option maxHeartbeats 1000000 in
theorem pt_Mo_late_110 {g : pj_G} {b : Nat} (C : pj_X g c_Mo_late 3 R_Mo none rm_Mo_late) {K : pj_M → Prop} (hE : pj_E g b (pj_Kv K))   {u : pj_M} {x1 : Int32}   (h : pb_Mo_late_110  K u x1) : pj_J g (pj_N g b u) 110 [some (.ref (b + 217)), some (.int x1), none] [] := by
  unfold pb_Mo_late_110 at h
  refine pj_aload_n C d_Mo_late_110 (pc' := 111) (i := 0) (x := b + 217) rfl rfl rfl ?_
  refine pj_iload_n C d_Mo_late_111 (pc' := 112) (i := 1) (x := x1) rfl rfl rfl ?_
  refine ck_Model_354_Model C  h d_Mo_late_112 (pc' := 115) rfl ⟨Nat.le_of_ble_eq_true rfl, Nat.le_of_ble_eq_true rfl⟩ (Nat.le_of_ble_eq_true rfl) (fun u1 h => ?_)
  refine pj_goto C d_Mo_late_115 (tgt := 278) (by decide) ?_
  exact pj_cut (pj_le_n (pj_le_n (pj_le_n pj_le_e))) (pt_Mo_late_278 C hE   h)
def pb_Mo_late_105  (K : pj_M → Prop) (u : pj_M) (x1 : Int32) : Prop := pw_Mo_close u x1 fun u1 => (pb_Mo_late_110  K u1 x1)
set_option maxHeartbeats 1000000 in
theorem pt_Mo_late_105 {g : pj_G} {b : Nat} (C : pj_X g c_Mo_late 3 R_Mo none rm_Mo_late) {K : pj_M → Prop} (hE : pj_E g b (pj_Kv K))   {u : pj_M} {x1 : Int32}   (h : pb_Mo_late_105  K u x1) : pj_J g (pj_N g b u) 105 [some (.ref (b + 217)), some (.int x1), none] [] := by
  unfold pb_Mo_late_105 at h
  refine pj_aload_n C d_Mo_late_105 (pc' := 106) (i := 0) (x := b + 217) rfl rfl rfl ?_
  refine pj_iload_n C d_Mo_late_106 (pc' := 107) (i := 1) (x := x1) rfl rfl rfl ?_
  refine ck_Model_351_Model C  h d_Mo_late_107 (pc' := 110) rfl ⟨Nat.le_of_ble_eq_true rfl, Nat.le_of_ble_eq_true rfl⟩ (Nat.le_of_ble_eq_true rfl) (fun u1 h => ?_)
  exact pj_cut (pj_le_s (pj_le_s (pj_le_n pj_le_e))) (pt_Mo_late_110 C hE   h)
def pb_Mo_late_95  (K : pj_M → Prop) (u : pj_M) (x1 : Int32) : Prop := vp_in x1 4 ∧ ((((u 259 x1.toNatClampNeg) = 2) → (pb_Mo_late_105  K u x1)) ∧ (¬ ((u 259 x1.toNatClampNeg) = 2) → (pb_Mo_late_110  K u x1)))
set_option maxHeartbeats 1000000 in
theorem pt_Mo_late_95 {g : pj_G} {b : Nat} (C : pj_X g c_Mo_late 3 R_Mo none rm_Mo_late) {K : pj_M → Prop} (hE : pj_E g b (pj_Kv K))   {u : pj_M} {x1 : Int32}   (h : pb_Mo_late_95  K u x1) : pj_J g (pj_N g b u) 95 [some (.ref (b + 217)), some (.int x1), none] [] := by
  unfold pb_Mo_late_95 at h
  refine pj_aload_n C d_Mo_late_95 (pc' := 96) (i := 0) (x := b + 217) rfl rfl rfl ?_
  refine fg_Model_134_Model C tk_217 d_Mo_late_96 (pc' := 99) rfl ?_
  refine pj_iload_n C d_Mo_late_99 (pc' := 100) (i := 1) (x := x1) rfl rfl rfl ?_
  refine pj_iald C (pj_lt tk_259 (by decide)) (fun E u => ka_23 tk_259) d_Mo_late_100 (pc' := 101) rfl h (fun h => ?_)
  refine pj_iconst C d_Mo_late_101 (pc' := 102) rfl (v := 2) (by decide) ?_
  refine pj_icmp_ne C d_Mo_late_102 (pc' := 105) rfl (tgt := 110) (by decide) h (fun h => ?_) (fun h => ?_)
  · exact pj_cut (pj_le_s (pj_le_s (pj_le_n pj_le_e))) (pt_Mo_late_110 C hE   h)
  · exact pj_cut (pj_le_s (pj_le_s (pj_le_n pj_le_e))) (pt_Mo_late_105 C hE   h)
def pb_Mo_late_72  (K : pj_M → Prop) (u : pj_M) (x1 : Int32) : Prop := vp_in x1 4 ∧ pj_put u 261 x1.toNatClampNeg 0 fun u1 => (vp_in x1 4 ∧ (vp_in x1 4 ∧ pj_put u1 265 x1.toNatClampNeg ((u1 265 x1.toNatClampNeg) + 1) fun u2 => (pw_Mo_sendPacket u2 x1 fun u3 => (K u3))))
set_option maxHeartbeats 1000000 in
theorem pt_Mo_late_72 {g : pj_G} {b : Nat} (C : pj_X g c_Mo_late 3 R_Mo none rm_Mo_late) {K : pj_M → Prop} (hE : pj_E g b (pj_Kv K))   {u : pj_M} {x1 : Int32}   (h : pb_Mo_late_72  K u x1) : pj_J g (pj_N g b u) 72 [some (.ref (b + 217)), some (.int x1), none] [] := by
  unfold pb_Mo_late_72 at h
  refine pj_aload_n C d_Mo_late_72 (pc' := 73) (i := 0) (x := b + 217) rfl rfl rfl ?_
  refine fg_Model_140_Model C tk_217 d_Mo_late_73 (pc' := 76) rfl ?_
  refine pj_iload_n C d_Mo_late_76 (pc' := 77) (i := 1) (x := x1) rfl rfl rfl ?_
  refine pj_iconst C d_Mo_late_77 (pc' := 78) rfl (v := 0) (by decide) ?_
  refine pj_iast C (pj_lt tk_261 (by decide)) (fun E u => ka_23 tk_261) d_Mo_late_78 (pc' := 79) rfl h (fun u1 h => ?_)
  refine pj_aload_n C d_Mo_late_79 (pc' := 80) (i := 0) (x := b + 217) rfl rfl rfl ?_
  refine fg_Model_152_Model C tk_217 d_Mo_late_80 (pc' := 83) rfl ?_
  refine pj_iload_n C d_Mo_late_83 (pc' := 84) (i := 1) (x := x1) rfl rfl rfl ?_
  refine pj_dup2_11 C d_Mo_late_84 (pc' := 85) rfl rfl rfl ?_
  refine pj_iald C (pj_lt tk_265 (by decide)) (fun E u => ka_23 tk_265) d_Mo_late_85 (pc' := 86) rfl h (fun h => ?_)
  refine pj_iconst C d_Mo_late_86 (pc' := 87) rfl (v := 1) (by decide) ?_
  refine pj_iadd C d_Mo_late_87 (pc' := 88) rfl ?_
  refine pj_iast C (pj_lt tk_265 (by decide)) (fun E u => ka_23 tk_265) d_Mo_late_88 (pc' := 89) rfl h (fun u2 h => ?_)
  refine pj_aload_n C d_Mo_late_89 (pc' := 90) (i := 0) (x := b + 217) rfl rfl rfl ?_
  refine pj_iload_n C d_Mo_late_90 (pc' := 91) (i := 1) (x := x1) rfl rfl rfl ?_
  refine ck_Model_345_Model C  h d_Mo_late_91 (pc' := 94) rfl ⟨Nat.le_of_ble_eq_true rfl, Nat.le_of_ble_eq_true rfl⟩ (Nat.le_of_ble_eq_true rfl) (fun u3 h => ?_)
  exact pj_vret C hE d_Mo_late_94 ⟨rfl, h⟩
def pb_Mo_late_49 (R41 : pj_M → Int32 → Prop) (K : pj_M → Prop) (u : pj_M) (x1 : Int32) (x2 : Int32) : Prop := vp_in ((20 * x1) + x2) 80 ∧ (vp_in x2 48 ∧ pj_put u 227 x2.toNatClampNeg (u 263 ((20 * x1) + x2).toNatClampNeg) fun u1 => (R41 u1 (x2 + 1)))
set_option maxHeartbeats 1000000 in
theorem pt_Mo_late_49 {g : pj_G} {b : Nat} (C : pj_X g c_Mo_late 3 R_Mo none rm_Mo_late) {K : pj_M → Prop} (hE : pj_E g b (pj_Kv K)) {R41 : pj_M → Int32 → Prop}  {u : pj_M} {x1 : Int32} {x2 : Int32} (hR41 : ∀ (u : pj_M) (x2 : Int32), R41 u x2 → pj_J g (pj_N g b u) 41 [some (.ref (b + 217)), some (.int x1), some (.int x2)] [])  (h : pb_Mo_late_49 R41 K u x1 x2) : pj_J g (pj_N g b u) 49 [some (.ref (b + 217)), some (.int x1), some (.int x2)] [] := by
  unfold pb_Mo_late_49 at h
  refine pj_aload_n C d_Mo_late_49 (pc' := 50) (i := 0) (x := b + 217) rfl rfl rfl ?_
  refine fg_Model_38_Model C tk_217 d_Mo_late_50 (pc' := 53) rfl ?_
  refine pj_iload_n C d_Mo_late_53 (pc' := 54) (i := 2) (x := x2) rfl rfl rfl ?_
  refine pj_aload_n C d_Mo_late_54 (pc' := 55) (i := 0) (x := b + 217) rfl rfl rfl ?_
  refine fg_Model_146_Model C tk_217 d_Mo_late_55 (pc' := 58) rfl ?_
  refine pj_bipush C d_Mo_late_58 (pc' := 60) rfl (v := 20) (by decide) ?_
  refine pj_iload_n C d_Mo_late_60 (pc' := 61) (i := 1) (x := x1) rfl rfl rfl ?_
  refine pj_imul C d_Mo_late_61 (pc' := 62) rfl ?_
  refine pj_iload_n C d_Mo_late_62 (pc' := 63) (i := 2) (x := x2) rfl rfl rfl ?_
  refine pj_iadd C d_Mo_late_63 (pc' := 64) rfl ?_
  refine pj_iald C (pj_lt tk_263 (by decide)) (fun E u => ka_35 tk_263) d_Mo_late_64 (pc' := 65) rfl h (fun h => ?_)
  refine pj_iast C (pj_lt tk_227 (by decide)) (fun E u => ka_22 tk_227) d_Mo_late_65 (pc' := 66) rfl h (fun u1 h => ?_)
  refine pj_iinc C d_Mo_late_66 (pc' := 69) (x := x2) (d := 1) (vs' := [some (.ref (b + 217)), some (.int x1), some (.int (x2 + 1))]) rfl rfl (Nat.le_of_ble_eq_true rfl) rfl (by decide) rfl ?_
  refine pj_goto C d_Mo_late_69 (tgt := 41) (by decide) ?_
  exact pj_cut (pj_le_s (pj_le_s (pj_le_s pj_le_e))) (hR41 _ _ h)
def pb_Mo_late_41b (R41 : pj_M → Int32 → Prop) (K : pj_M → Prop) (u : pj_M) (x1 : Int32) (x2 : Int32) : Prop := (((u 217 16) ≤ x2) → (pb_Mo_late_72  K u x1)) ∧ (¬ ((u 217 16) ≤ x2) → (pb_Mo_late_49 R41 K u x1 x2))
set_option maxHeartbeats 1000000 in
theorem pt_Mo_late_41b {g : pj_G} {b : Nat} (C : pj_X g c_Mo_late 3 R_Mo none rm_Mo_late) {K : pj_M → Prop} (hE : pj_E g b (pj_Kv K)) {R41 : pj_M → Int32 → Prop}  {u : pj_M} {x1 : Int32} {x2 : Int32} (hR41 : ∀ (u : pj_M) (x2 : Int32), R41 u x2 → pj_J g (pj_N g b u) 41 [some (.ref (b + 217)), some (.int x1), some (.int x2)] [])  (h : pb_Mo_late_41b R41 K u x1 x2) : pj_J g (pj_N g b u) 41 [some (.ref (b + 217)), some (.int x1), some (.int x2)] [] := by
  unfold pb_Mo_late_41b at h
  refine pj_iload_n C d_Mo_late_41 (pc' := 42) (i := 2) (x := x2) rfl rfl rfl ?_
  refine pj_aload_n C d_Mo_late_42 (pc' := 43) (i := 0) (x := b + 217) rfl rfl rfl ?_
  refine fg_Model_233_Model C tk_217 d_Mo_late_43 (pc' := 46) rfl ?_
  refine pj_icmp_ge C d_Mo_late_46 (pc' := 49) rfl (tgt := 72) (by decide) h (fun h => ?_) (fun h => ?_)
  · exact pj_cut (pj_le_s (pj_le_s (pj_le_n pj_le_e))) (pt_Mo_late_72 C hE   h)
  · exact pj_cut (pj_le_s (pj_le_s (pj_le_s pj_le_e))) (pt_Mo_late_49 C hE hR41  h)
def pb_Mo_late_41  (K : pj_M → Prop) (x1 : Int32) : Nat → pj_M → Int32 → Prop
  | 0 => fun _ _ => False
  | n + 1 => fun u x2 => pb_Mo_late_41b (pb_Mo_late_41  K x1 n) K u x1 x2
theorem pt_Mo_late_41 {g : pj_G} {b : Nat} (C : pj_X g c_Mo_late 3 R_Mo none rm_Mo_late) {K : pj_M → Prop} (hE : pj_E g b (pj_Kv K))  {x1 : Int32}   : ∀ (n : Nat) (u : pj_M) (x2 : Int32), pb_Mo_late_41  K x1 n u x2 → pj_J g (pj_N g b u) 41 [some (.ref (b + 217)), some (.int x1), some (.int x2)] [] := by
  intro n
  induction n with
  | zero => intro u x2 h; exact False.elim h
  | succ n ih =>
    intro u x2 h
    exact (pt_Mo_late_41b C hE ih  h)
def pb_Mo_late_29  (K : pj_M → Prop) (u : pj_M) (x1 : Int32) : Prop := vp_in x1 4 ∧ (pj_put u 217 16 (u 262 x1.toNatClampNeg) fun u1 => (∃ n, pb_Mo_late_41  K x1 n u1 0))
set_option maxHeartbeats 1000000 in
theorem pt_Mo_late_29 {g : pj_G} {b : Nat} (C : pj_X g c_Mo_late 3 R_Mo none rm_Mo_late) {K : pj_M → Prop} (hE : pj_E g b (pj_Kv K))   {u : pj_M} {x1 : Int32}   (h : pb_Mo_late_29  K u x1) : pj_J g (pj_N g b u) 29 [some (.ref (b + 217)), some (.int x1), none] [] := by
  unfold pb_Mo_late_29 at h
  refine pj_aload_n C d_Mo_late_29 (pc' := 30) (i := 0) (x := b + 217) rfl rfl rfl ?_
  refine pj_aload_n C d_Mo_late_30 (pc' := 31) (i := 0) (x := b + 217) rfl rfl rfl ?_
  refine fg_Model_143_Model C tk_217 d_Mo_late_31 (pc' := 34) rfl ?_
  refine pj_iload_n C d_Mo_late_34 (pc' := 35) (i := 1) (x := x1) rfl rfl rfl ?_
  refine pj_iald C (pj_lt tk_262 (by decide)) (fun E u => ka_23 tk_262) d_Mo_late_35 (pc' := 36) rfl h (fun h => ?_)
  refine fp_Model_233_Model C tk_217  d_Mo_late_36 (pc' := 39) rfl h (fun u1 h => ?_)
  refine pj_iconst C d_Mo_late_39 (pc' := 40) rfl (v := 0) (by decide) ?_
  refine pj_istore_n C d_Mo_late_40 (pc' := 41) (i := 2) (vs' := [some (.ref (b + 217)), some (.int x1), some (.int 0)]) rfl rfl (Nat.le_of_ble_eq_true rfl) (Nat.le_of_ble_eq_true rfl) rfl rfl ?_
  obtain ⟨n, h⟩ := h
  exact pj_cut (pj_le_s (pj_le_s (pj_le_s pj_le_e))) (pt_Mo_late_41 C hE   n _ _ h)
def pb_Mo_late_19  (K : pj_M → Prop) (u : pj_M) (x1 : Int32) : Prop := vp_in x1 4 ∧ (((2 ≤ (u 265 x1.toNatClampNeg)) → (pb_Mo_late_95  K u x1)) ∧ (¬ (2 ≤ (u 265 x1.toNatClampNeg)) → (pb_Mo_late_29  K u x1)))
set_option maxHeartbeats 1000000 in
theorem pt_Mo_late_19 {g : pj_G} {b : Nat} (C : pj_X g c_Mo_late 3 R_Mo none rm_Mo_late) {K : pj_M → Prop} (hE : pj_E g b (pj_Kv K))   {u : pj_M} {x1 : Int32}   (h : pb_Mo_late_19  K u x1) : pj_J g (pj_N g b u) 19 [some (.ref (b + 217)), some (.int x1), none] [] := by
  unfold pb_Mo_late_19 at h
  refine pj_aload_n C d_Mo_late_19 (pc' := 20) (i := 0) (x := b + 217) rfl rfl rfl ?_
  refine fg_Model_152_Model C tk_217 d_Mo_late_20 (pc' := 23) rfl ?_
  refine pj_iload_n C d_Mo_late_23 (pc' := 24) (i := 1) (x := x1) rfl rfl rfl ?_
  refine pj_iald C (pj_lt tk_265 (by decide)) (fun E u => ka_23 tk_265) d_Mo_late_24 (pc' := 25) rfl h (fun h => ?_)
  refine pj_iconst C d_Mo_late_25 (pc' := 26) rfl (v := 2) (by decide) ?_
  refine pj_icmp_ge C d_Mo_late_26 (pc' := 29) rfl (tgt := 95) (by decide) h (fun h => ?_) (fun h => ?_)
  · exact pj_cut (pj_le_s (pj_le_s (pj_le_n pj_le_e))) (pt_Mo_late_95 C hE   h)
  · exact pj_cut (pj_le_s (pj_le_s (pj_le_n pj_le_e))) (pt_Mo_late_29 C hE   h)
def pb_Mo_late_9  (K : pj_M → Prop) (u : pj_M) (x1 : Int32) : Prop := vp_in x1 4 ∧ ((((u 261 x1.toNatClampNeg) = 5) → (pb_Mo_late_19  K u x1)) ∧ (¬ ((u 261 x1.toNatClampNeg) = 5) → (pb_Mo_late_118  K u x1)))
set_option maxHeartbeats 1000000 in
theorem pt_Mo_late_9 {g : pj_G} {b : Nat} (C : pj_X g c_Mo_late 3 R_Mo none rm_Mo_late) {K : pj_M → Prop} (hE : pj_E g b (pj_Kv K))   {u : pj_M} {x1 : Int32}   (h : pb_Mo_late_9  K u x1) : pj_J g (pj_N g b u) 9 [some (.ref (b + 217)), some (.int x1), none] [] := by
  unfold pb_Mo_late_9 at h
  refine pj_aload_n C d_Mo_late_9 (pc' := 10) (i := 0) (x := b + 217) rfl rfl rfl ?_
  refine fg_Model_140_Model C tk_217 d_Mo_late_10 (pc' := 13) rfl ?_
  refine pj_iload_n C d_Mo_late_13 (pc' := 14) (i := 1) (x := x1) rfl rfl rfl ?_
  refine pj_iald C (pj_lt tk_261 (by decide)) (fun E u => ka_23 tk_261) d_Mo_late_14 (pc' := 15) rfl h (fun h => ?_)
  refine pj_iconst C d_Mo_late_15 (pc' := 16) rfl (v := 5) (by decide) ?_
  refine pj_icmp_ne C d_Mo_late_16 (pc' := 19) rfl (tgt := 118) (by decide) h (fun h => ?_) (fun h => ?_)
  · exact pj_cut (pj_le_s (pj_le_s (pj_le_n pj_le_e))) (pt_Mo_late_118 C hE   h)
  · exact pj_cut (pj_le_s (pj_le_s (pj_le_n pj_le_e))) (pt_Mo_late_19 C hE   h)
def pb_Mo_late_0  (K : pj_M → Prop) (u : pj_M) (x1 : Int32) : Prop := vp_in x1 4 ∧ ((((u 264 x1.toNatClampNeg) = 0) → (pb_Mo_late_118  K u x1)) ∧ (¬ ((u 264 x1.toNatClampNeg) = 0) → (pb_Mo_late_9  K u x1)))
set_option maxHeartbeats 1000000 in
theorem pt_Mo_late_0 {g : pj_G} {b : Nat} (C : pj_X g c_Mo_late 3 R_Mo none rm_Mo_late) {K : pj_M → Prop} (hE : pj_E g b (pj_Kv K))   {u : pj_M} {x1 : Int32}   (h : pb_Mo_late_0  K u x1) : pj_J g (pj_N g b u) 0 [some (.ref (b + 217)), some (.int x1), none] [] := by
  unfold pb_Mo_late_0 at h
  refine pj_aload_n C d_Mo_late_0 (pc' := 1) (i := 0) (x := b + 217) rfl rfl rfl ?_
  refine fg_Model_149_Model C tk_217 d_Mo_late_1 (pc' := 4) rfl ?_
  refine pj_iload_n C d_Mo_late_4 (pc' := 5) (i := 1) (x := x1) rfl rfl rfl ?_
  refine pj_zald C (pj_lt tk_264 (by decide)) (fun E u => ka_31 tk_264) d_Mo_late_5 (pc' := 6) rfl h (fun h => ?_)
  refine pj_if_eq C d_Mo_late_6 (pc' := 9) rfl (tgt := 118) (by decide) h (fun h => ?_) (fun h => ?_)
  · exact pj_cut (pj_le_s (pj_le_s (pj_le_n pj_le_e))) (pt_Mo_late_118 C hE   h)
  · exact pj_cut (pj_le_s (pj_le_s (pj_le_n pj_le_e))) (pt_Mo_late_9 C hE   h)
def pw_Mo_late (u : pj_M) (x1 : Int32) (K : pj_M → Prop) : Prop := pb_Mo_late_0  K u x1
theorem pc_Mo_late (l : Launch) (D : va_G) (E : Nat → ClassId) {b : Nat} {u : pj_M} {x1 : Int32} {K : pj_M → Prop}  (h : pw_Mo_late u x1 K) : pj_C l y_Mo_late c_Mo_late 3 none rm_Mo_late D E b [.ref (b + 217), .int x1] u (pj_Kv K) := by
  refine pj_met (own := R_Mo) (by decide +kernel) rfl (Nat.le_of_ble_eq_true rfl) (fun g hE C => ?_)
  unfold pw_Mo_late at h
  show pj_J g (pj_N g b u) 0 [some (.ref (b + 217)), some (.int x1), none] []
  exact pj_cut (pj_le_s (pj_le_s (pj_le_n pj_le_e))) (pt_Mo_late_0 C hE   h)
/-! Model.tick()I -/
theorem ck_Model_378_Model {g : pj_G} {b : Nat} {cc : ByteArray} {nL : Nat} {ret : Option FieldType} {rm : Room} {u : pj_M} {pc pc' : Nat} {vs : List (Option Value)} {st : List Value} (C : pj_X g cc nL R_Mo ret rm) {x1 : Int32} {K : pj_M → Prop}  (h : pw_Mo_late u x1 K) (hdg : decode cc pc = .ok (.invokevirtual 378, 3)) (hp : pc + 3 = pc') (hR : rm_Mo_late.frames + 1 ≤ rm.frames ∧ 8 + (3 + 11) + rm_Mo_late.locals ≤ rm.locals) (h8 : (st.map fun v => v.category).sum ≤ 8) (kk : ∀ u', K u' → pj_J g (pj_N g b u') pc' vs st) : pj_J g (pj_N g b u) pc vs (.int x1 :: .ref (b + 217) :: st) :=
  pj_callV C (As := [.int x1]) (fun l D E => pc_Mo_late l D E  h) rfl rfl cl_Model (pj_lt tk_217 (by decide)) (fun E => ko_11 tk_217) wm_1402 wm_1404 wm_47 wm_103 wm_1405 (by decide +kernel) (n := 1) rfl hR rfl h8 hdg hp (fun v u' hq => by obtain ⟨rfl, hk⟩ := hq; exact kk u' hk)
def rm_Mo_tick : Room := { frames := 8, cells := 0, slots := 0, locals := 179 }
def pb_Mo_tick_37  (K : Int32 → pj_M → Prop) (u : pj_M)  : Prop := K (u 217 4) u
set_option maxHeartbeats 1000000 in
theorem pt_Mo_tick_37 {g : pj_G} {b : Nat} (C : pj_X g c_Mo_tick 2 R_Mo (some .int) rm_Mo_tick) {K : Int32 → pj_M → Prop} (hE : pj_E g b (pj_Ki K))   {u : pj_M}    (h : pb_Mo_tick_37  K u ) : pj_J g (pj_N g b u) 37 [some (.ref (b + 217)), none] [] := by
  unfold pb_Mo_tick_37 at h
  refine pj_aload_n C d_Mo_tick_37 (pc' := 38) (i := 0) (x := b + 217) rfl rfl rfl ?_
  refine fg_Model_230_Model C tk_217 d_Mo_tick_38 (pc' := 41) rfl ?_
  exact pj_iret C hE d_Mo_tick_41 ⟨_, rfl, h⟩
def pb_Mo_tick_31 (R2 : pj_M → Int32 → Prop) (K : Int32 → pj_M → Prop) (u : pj_M) (x1 : Int32) : Prop := R2 u (x1 + 1)
set_option maxHeartbeats 1000000 in
theorem pt_Mo_tick_31 {g : pj_G} {b : Nat} (C : pj_X g c_Mo_tick 2 R_Mo (some .int) rm_Mo_tick) {K : Int32 → pj_M → Prop} (hE : pj_E g b (pj_Ki K)) {R2 : pj_M → Int32 → Prop}  {u : pj_M} {x1 : Int32} (hR2 : ∀ (u : pj_M) (x1 : Int32), R2 u x1 → pj_J g (pj_N g b u) 2 [some (.ref (b + 217)), some (.int x1)] [])  (h : pb_Mo_tick_31 R2 K u x1) : pj_J g (pj_N g b u) 31 [some (.ref (b + 217)), some (.int x1)] [] := by
  unfold pb_Mo_tick_31 at h
  refine pj_iinc C d_Mo_tick_31 (pc' := 34) (x := x1) (d := 1) (vs' := [some (.ref (b + 217)), some (.int (x1 + 1))]) rfl rfl (Nat.le_of_ble_eq_true rfl) rfl (by decide) rfl ?_
  refine pj_goto C d_Mo_tick_34 (tgt := 2) (by decide) ?_
  exact pj_cut (pj_le_s (pj_le_s pj_le_e)) (hR2 _ _ h)
def pb_Mo_tick_16 (R2 : pj_M → Int32 → Prop) (K : Int32 → pj_M → Prop) (u : pj_M) (x1 : Int32) : Prop := vp_in x1 4 ∧ (vp_in x1 4 ∧ pj_put u 261 x1.toNatClampNeg ((u 261 x1.toNatClampNeg) + 1) fun u1 => (pw_Mo_late u1 x1 fun u2 => (pb_Mo_tick_31 R2 K u2 x1)))
set_option maxHeartbeats 1000000 in
theorem pt_Mo_tick_16 {g : pj_G} {b : Nat} (C : pj_X g c_Mo_tick 2 R_Mo (some .int) rm_Mo_tick) {K : Int32 → pj_M → Prop} (hE : pj_E g b (pj_Ki K)) {R2 : pj_M → Int32 → Prop}  {u : pj_M} {x1 : Int32} (hR2 : ∀ (u : pj_M) (x1 : Int32), R2 u x1 → pj_J g (pj_N g b u) 2 [some (.ref (b + 217)), some (.int x1)] [])  (h : pb_Mo_tick_16 R2 K u x1) : pj_J g (pj_N g b u) 16 [some (.ref (b + 217)), some (.int x1)] [] := by
  unfold pb_Mo_tick_16 at h
  refine pj_aload_n C d_Mo_tick_16 (pc' := 17) (i := 0) (x := b + 217) rfl rfl rfl ?_
  refine fg_Model_140_Model C tk_217 d_Mo_tick_17 (pc' := 20) rfl ?_
  refine pj_iload_n C d_Mo_tick_20 (pc' := 21) (i := 1) (x := x1) rfl rfl rfl ?_
  refine pj_dup2_11 C d_Mo_tick_21 (pc' := 22) rfl rfl rfl ?_
  refine pj_iald C (pj_lt tk_261 (by decide)) (fun E u => ka_23 tk_261) d_Mo_tick_22 (pc' := 23) rfl h (fun h => ?_)
  refine pj_iconst C d_Mo_tick_23 (pc' := 24) rfl (v := 1) (by decide) ?_
  refine pj_iadd C d_Mo_tick_24 (pc' := 25) rfl ?_
  refine pj_iast C (pj_lt tk_261 (by decide)) (fun E u => ka_23 tk_261) d_Mo_tick_25 (pc' := 26) rfl h (fun u1 h => ?_)
  refine pj_aload_n C d_Mo_tick_26 (pc' := 27) (i := 0) (x := b + 217) rfl rfl rfl ?_
  refine pj_iload_n C d_Mo_tick_27 (pc' := 28) (i := 1) (x := x1) rfl rfl rfl ?_
  refine ck_Model_378_Model C  h d_Mo_tick_28 (pc' := 31) rfl ⟨Nat.le_of_ble_eq_true rfl, Nat.le_of_ble_eq_true rfl⟩ (Nat.le_of_ble_eq_true rfl) (fun u2 h => ?_)
  exact pj_cut (pj_le_s (pj_le_s pj_le_e)) (pt_Mo_tick_31 C hE hR2  h)
def pb_Mo_tick_7 (R2 : pj_M → Int32 → Prop) (K : Int32 → pj_M → Prop) (u : pj_M) (x1 : Int32) : Prop := vp_in x1 4 ∧ ((((u 258 x1.toNatClampNeg) = 0) → (pb_Mo_tick_31 R2 K u x1)) ∧ (¬ ((u 258 x1.toNatClampNeg) = 0) → (pb_Mo_tick_16 R2 K u x1)))
set_option maxHeartbeats 1000000 in
theorem pt_Mo_tick_7 {g : pj_G} {b : Nat} (C : pj_X g c_Mo_tick 2 R_Mo (some .int) rm_Mo_tick) {K : Int32 → pj_M → Prop} (hE : pj_E g b (pj_Ki K)) {R2 : pj_M → Int32 → Prop}  {u : pj_M} {x1 : Int32} (hR2 : ∀ (u : pj_M) (x1 : Int32), R2 u x1 → pj_J g (pj_N g b u) 2 [some (.ref (b + 217)), some (.int x1)] [])  (h : pb_Mo_tick_7 R2 K u x1) : pj_J g (pj_N g b u) 7 [some (.ref (b + 217)), some (.int x1)] [] := by
  unfold pb_Mo_tick_7 at h
  refine pj_aload_n C d_Mo_tick_7 (pc' := 8) (i := 0) (x := b + 217) rfl rfl rfl ?_
  refine fg_Model_131_Model C tk_217 d_Mo_tick_8 (pc' := 11) rfl ?_
  refine pj_iload_n C d_Mo_tick_11 (pc' := 12) (i := 1) (x := x1) rfl rfl rfl ?_
  refine pj_zald C (pj_lt tk_258 (by decide)) (fun E u => ka_31 tk_258) d_Mo_tick_12 (pc' := 13) rfl h (fun h => ?_)
  refine pj_if_eq C d_Mo_tick_13 (pc' := 16) rfl (tgt := 31) (by decide) h (fun h => ?_) (fun h => ?_)
  · exact pj_cut (pj_le_s (pj_le_s pj_le_e)) (pt_Mo_tick_31 C hE hR2  h)
  · exact pj_cut (pj_le_s (pj_le_s pj_le_e)) (pt_Mo_tick_16 C hE hR2  h)
def pb_Mo_tick_2b (R2 : pj_M → Int32 → Prop) (K : Int32 → pj_M → Prop) (u : pj_M) (x1 : Int32) : Prop := ((4 ≤ x1) → (pb_Mo_tick_37  K u )) ∧ (¬ (4 ≤ x1) → (pb_Mo_tick_7 R2 K u x1))
set_option maxHeartbeats 1000000 in
theorem pt_Mo_tick_2b {g : pj_G} {b : Nat} (C : pj_X g c_Mo_tick 2 R_Mo (some .int) rm_Mo_tick) {K : Int32 → pj_M → Prop} (hE : pj_E g b (pj_Ki K)) {R2 : pj_M → Int32 → Prop}  {u : pj_M} {x1 : Int32} (hR2 : ∀ (u : pj_M) (x1 : Int32), R2 u x1 → pj_J g (pj_N g b u) 2 [some (.ref (b + 217)), some (.int x1)] [])  (h : pb_Mo_tick_2b R2 K u x1) : pj_J g (pj_N g b u) 2 [some (.ref (b + 217)), some (.int x1)] [] := by
  unfold pb_Mo_tick_2b at h
  refine pj_iload_n C d_Mo_tick_2 (pc' := 3) (i := 1) (x := x1) rfl rfl rfl ?_
  refine pj_iconst C d_Mo_tick_3 (pc' := 4) rfl (v := 4) (by decide) ?_
  refine pj_icmp_ge C d_Mo_tick_4 (pc' := 7) rfl (tgt := 37) (by decide) h (fun h => ?_) (fun h => ?_)
  · exact pj_cut (pj_le_s (pj_le_n pj_le_e)) (pt_Mo_tick_37 C hE   h)
  · exact pj_cut (pj_le_s (pj_le_s pj_le_e)) (pt_Mo_tick_7 C hE hR2  h)
def pb_Mo_tick_2  (K : Int32 → pj_M → Prop)  : Nat → pj_M → Int32 → Prop
  | 0 => fun _ _ => False
  | n + 1 => fun u x1 => pb_Mo_tick_2b (pb_Mo_tick_2  K  n) K u x1
theorem pt_Mo_tick_2 {g : pj_G} {b : Nat} (C : pj_X g c_Mo_tick 2 R_Mo (some .int) rm_Mo_tick) {K : Int32 → pj_M → Prop} (hE : pj_E g b (pj_Ki K))     : ∀ (n : Nat) (u : pj_M) (x1 : Int32), pb_Mo_tick_2  K  n u x1 → pj_J g (pj_N g b u) 2 [some (.ref (b + 217)), some (.int x1)] [] := by
  intro n
  induction n with
  | zero => intro u x1 h; exact False.elim h
  | succ n ih =>
    intro u x1 h
    exact (pt_Mo_tick_2b C hE ih  h)
def pb_Mo_tick_0  (K : Int32 → pj_M → Prop) (u : pj_M)  : Prop := ∃ n, pb_Mo_tick_2  K  n u 0
set_option maxHeartbeats 1000000 in
theorem pt_Mo_tick_0 {g : pj_G} {b : Nat} (C : pj_X g c_Mo_tick 2 R_Mo (some .int) rm_Mo_tick) {K : Int32 → pj_M → Prop} (hE : pj_E g b (pj_Ki K))   {u : pj_M}    (h : pb_Mo_tick_0  K u ) : pj_J g (pj_N g b u) 0 [some (.ref (b + 217)), none] [] := by
  unfold pb_Mo_tick_0 at h
  refine pj_iconst C d_Mo_tick_0 (pc' := 1) rfl (v := 0) (by decide) ?_
  refine pj_istore_n C d_Mo_tick_1 (pc' := 2) (i := 1) (vs' := [some (.ref (b + 217)), some (.int 0)]) rfl rfl (Nat.le_of_ble_eq_true rfl) (Nat.le_of_ble_eq_true rfl) rfl rfl ?_
  obtain ⟨n, h⟩ := h
  exact pj_cut (pj_le_s (pj_le_s pj_le_e)) (pt_Mo_tick_2 C hE   n _ _ h)
def pw_Mo_tick (u : pj_M)  (K : Int32 → pj_M → Prop) : Prop := pb_Mo_tick_0  K u 
theorem pc_Mo_tick (l : Launch) (D : va_G) (E : Nat → ClassId) {b : Nat} {u : pj_M}  {K : Int32 → pj_M → Prop}  (h : pw_Mo_tick u  K) : pj_C l y_Mo_tick c_Mo_tick 2 (some .int) rm_Mo_tick D E b [.ref (b + 217)] u (pj_Ki K) := by
  refine pj_met (own := R_Mo) (by decide +kernel) rfl (Nat.le_of_ble_eq_true rfl) (fun g hE C => ?_)
  unfold pw_Mo_tick at h
  show pj_J g (pj_N g b u) 0 [some (.ref (b + 217)), none] []
  exact pj_cut (pj_le_s (pj_le_n pj_le_e)) (pt_Mo_tick_0 C hE   h)
/-! Model.remove(I)V -/
def rm_Mo_remove : Room := { frames := 0, cells := 0, slots := 0, locals := 0 }
def pb_Mo_remove_107  (K : pj_M → Prop) (u : pj_M)  : Prop := K u
set_option maxHeartbeats 1000000 in
theorem pt_Mo_remove_107 {g : pj_G} {b : Nat} (C : pj_X g c_Mo_remove 4 R_Mo none rm_Mo_remove) {K : pj_M → Prop} (hE : pj_E g b (pj_Kv K))   {u : pj_M}    (h : pb_Mo_remove_107  K u ) : pj_J g (pj_N g b u) 107 [none, none, none, none] [] := by
  unfold pb_Mo_remove_107 at h
  exact pj_vret C hE d_Mo_remove_107 ⟨rfl, h⟩
def pb_Mo_remove_101 (R12 : pj_M → Int32 → Prop) (K : pj_M → Prop) (u : pj_M) (x2 : Int32) : Prop := R12 u (x2 + 1)
set_option maxHeartbeats 1000000 in
theorem pt_Mo_remove_101 {g : pj_G} {b : Nat} (C : pj_X g c_Mo_remove 4 R_Mo none rm_Mo_remove) {K : pj_M → Prop} (hE : pj_E g b (pj_Kv K)) {R12 : pj_M → Int32 → Prop}  {u : pj_M} {x2 : Int32} (hR12 : ∀ (u : pj_M) (x2 : Int32), R12 u x2 → pj_J g (pj_N g b u) 12 [some (.ref (b + 217)), none, some (.int x2), none] [])  (h : pb_Mo_remove_101 R12 K u x2) : pj_J g (pj_N g b u) 101 [some (.ref (b + 217)), none, some (.int x2), none] [] := by
  unfold pb_Mo_remove_101 at h
  refine pj_iinc C d_Mo_remove_101 (pc' := 104) (x := x2) (d := 1) (vs' := [some (.ref (b + 217)), none, some (.int (x2 + 1)), none]) rfl rfl (Nat.le_of_ble_eq_true rfl) rfl (by decide) rfl ?_
  refine pj_goto C d_Mo_remove_104 (tgt := 12) (by decide) ?_
  exact pj_cut (pj_le_s (pj_le_n (pj_le_s (pj_le_n pj_le_e)))) (hR12 _ _ h)
def pb_Mo_remove_70 (R12 : pj_M → Int32 → Prop) (R64 : pj_M → Int32 → Prop) (K : pj_M → Prop) (u : pj_M) (x2 : Int32) (x3 : Int32) : Prop := vp_in (((48 * x2) + 48) + x3) 1920 ∧ (vp_in ((48 * x2) + x3) 1920 ∧ pj_put u 224 ((48 * x2) + x3).toNatClampNeg (u 224 (((48 * x2) + 48) + x3).toNatClampNeg) fun u1 => (R64 u1 (x3 + 1)))
set_option maxHeartbeats 1000000 in
theorem pt_Mo_remove_70 {g : pj_G} {b : Nat} (C : pj_X g c_Mo_remove 4 R_Mo none rm_Mo_remove) {K : pj_M → Prop} (hE : pj_E g b (pj_Kv K)) {R12 : pj_M → Int32 → Prop} {R64 : pj_M → Int32 → Prop}  {u : pj_M} {x2 : Int32} {x3 : Int32} (hR12 : ∀ (u : pj_M) (x2 : Int32), R12 u x2 → pj_J g (pj_N g b u) 12 [some (.ref (b + 217)), none, some (.int x2), none] []) (hR64 : ∀ (u : pj_M) (x3 : Int32), R64 u x3 → pj_J g (pj_N g b u) 64 [some (.ref (b + 217)), none, some (.int x2), some (.int x3)] [])  (h : pb_Mo_remove_70 R12 R64 K u x2 x3) : pj_J g (pj_N g b u) 70 [some (.ref (b + 217)), none, some (.int x2), some (.int x3)] [] := by
  unfold pb_Mo_remove_70 at h
  refine pj_aload_n C d_Mo_remove_70 (pc' := 71) (i := 0) (x := b + 217) rfl rfl rfl ?_
  refine fg_Model_29_Model C tk_217 d_Mo_remove_71 (pc' := 74) rfl ?_
  refine pj_bipush C d_Mo_remove_74 (pc' := 76) rfl (v := 48) (by decide) ?_
  refine pj_iload_n C d_Mo_remove_76 (pc' := 77) (i := 2) (x := x2) rfl rfl rfl ?_
  refine pj_imul C d_Mo_remove_77 (pc' := 78) rfl ?_
  refine pj_iload_n C d_Mo_remove_78 (pc' := 79) (i := 3) (x := x3) rfl rfl rfl ?_
  refine pj_iadd C d_Mo_remove_79 (pc' := 80) rfl ?_
  refine pj_aload_n C d_Mo_remove_80 (pc' := 81) (i := 0) (x := b + 217) rfl rfl rfl ?_
  refine fg_Model_29_Model C tk_217 d_Mo_remove_81 (pc' := 84) rfl ?_
  refine pj_bipush C d_Mo_remove_84 (pc' := 86) rfl (v := 48) (by decide) ?_
  refine pj_iload_n C d_Mo_remove_86 (pc' := 87) (i := 2) (x := x2) rfl rfl rfl ?_
  refine pj_imul C d_Mo_remove_87 (pc' := 88) rfl ?_
  refine pj_bipush C d_Mo_remove_88 (pc' := 90) rfl (v := 48) (by decide) ?_
  refine pj_iadd C d_Mo_remove_90 (pc' := 91) rfl ?_
  refine pj_iload_n C d_Mo_remove_91 (pc' := 92) (i := 3) (x := x3) rfl rfl rfl ?_
  refine pj_iadd C d_Mo_remove_92 (pc' := 93) rfl ?_
  refine pj_iald C (pj_lt tk_224 (by decide)) (fun E u => ka_37 tk_224) d_Mo_remove_93 (pc' := 94) rfl h (fun h => ?_)
  refine pj_iast C (pj_lt tk_224 (by decide)) (fun E u => ka_37 tk_224) d_Mo_remove_94 (pc' := 95) rfl h (fun u1 h => ?_)
  refine pj_iinc C d_Mo_remove_95 (pc' := 98) (x := x3) (d := 1) (vs' := [some (.ref (b + 217)), none, some (.int x2), some (.int (x3 + 1))]) rfl rfl (Nat.le_of_ble_eq_true rfl) rfl (by decide) rfl ?_
  refine pj_goto C d_Mo_remove_98 (tgt := 64) (by decide) ?_
  exact pj_cut (pj_le_s (pj_le_n (pj_le_s (pj_le_s pj_le_e)))) (hR64 _ _ h)
def pb_Mo_remove_64b (R12 : pj_M → Int32 → Prop) (R64 : pj_M → Int32 → Prop) (K : pj_M → Prop) (u : pj_M) (x2 : Int32) (x3 : Int32) : Prop := ((48 ≤ x3) → (pb_Mo_remove_101 R12 K u x2)) ∧ (¬ (48 ≤ x3) → (pb_Mo_remove_70 R12 R64 K u x2 x3))
set_option maxHeartbeats 1000000 in
theorem pt_Mo_remove_64b {g : pj_G} {b : Nat} (C : pj_X g c_Mo_remove 4 R_Mo none rm_Mo_remove) {K : pj_M → Prop} (hE : pj_E g b (pj_Kv K)) {R12 : pj_M → Int32 → Prop} {R64 : pj_M → Int32 → Prop}  {u : pj_M} {x2 : Int32} {x3 : Int32} (hR12 : ∀ (u : pj_M) (x2 : Int32), R12 u x2 → pj_J g (pj_N g b u) 12 [some (.ref (b + 217)), none, some (.int x2), none] []) (hR64 : ∀ (u : pj_M) (x3 : Int32), R64 u x3 → pj_J g (pj_N g b u) 64 [some (.ref (b + 217)), none, some (.int x2), some (.int x3)] [])  (h : pb_Mo_remove_64b R12 R64 K u x2 x3) : pj_J g (pj_N g b u) 64 [some (.ref (b + 217)), none, some (.int x2), some (.int x3)] [] := by
  unfold pb_Mo_remove_64b at h
  refine pj_iload_n C d_Mo_remove_64 (pc' := 65) (i := 3) (x := x3) rfl rfl rfl ?_
  refine pj_bipush C d_Mo_remove_65 (pc' := 67) rfl (v := 48) (by decide) ?_
  refine pj_icmp_ge C d_Mo_remove_67 (pc' := 70) rfl (tgt := 101) (by decide) h (fun h => ?_) (fun h => ?_)
  · exact pj_cut (pj_le_s (pj_le_n (pj_le_s (pj_le_n pj_le_e)))) (pt_Mo_remove_101 C hE hR12  h)
  · exact pj_cut (pj_le_s (pj_le_n (pj_le_s (pj_le_s pj_le_e)))) (pt_Mo_remove_70 C hE hR12 hR64  h)
def pb_Mo_remove_64 (R12 : pj_M → Int32 → Prop) (K : pj_M → Prop) (x2 : Int32) : Nat → pj_M → Int32 → Prop
  | 0 => fun _ _ => False
  | n + 1 => fun u x3 => pb_Mo_remove_64b R12 (pb_Mo_remove_64 R12 K x2 n) K u x2 x3
theorem pt_Mo_remove_64 {g : pj_G} {b : Nat} (C : pj_X g c_Mo_remove 4 R_Mo none rm_Mo_remove) {K : pj_M → Prop} (hE : pj_E g b (pj_Kv K)) {R12 : pj_M → Int32 → Prop} {x2 : Int32} (hR12 : ∀ (u : pj_M) (x2 : Int32), R12 u x2 → pj_J g (pj_N g b u) 12 [some (.ref (b + 217)), none, some (.int x2), none] [])  : ∀ (n : Nat) (u : pj_M) (x3 : Int32), pb_Mo_remove_64 R12 K x2 n u x3 → pj_J g (pj_N g b u) 64 [some (.ref (b + 217)), none, some (.int x2), some (.int x3)] [] := by
  intro n
  induction n with
  | zero => intro u x3 h; exact False.elim h
  | succ n ih =>
    intro u x3 h
    exact (pt_Mo_remove_64b C hE hR12 ih  h)
def pb_Mo_remove_20 (R12 : pj_M → Int32 → Prop) (K : pj_M → Prop) (u : pj_M) (x2 : Int32) : Prop := vp_in (x2 + 1) 40 ∧ (vp_in x2 40 ∧ pj_put u 221 x2.toNatClampNeg (u 221 (x2 + 1).toNatClampNeg) fun u1 => (vp_in (x2 + 1) 40 ∧ (vp_in x2 40 ∧ pj_put u1 222 x2.toNatClampNeg (u1 222 (x2 + 1).toNatClampNeg) fun u2 => (vp_in (x2 + 1) 40 ∧ (vp_in x2 40 ∧ pj_put u2 223 x2.toNatClampNeg (u2 223 (x2 + 1).toNatClampNeg) fun u3 => (∃ n, pb_Mo_remove_64 R12 K x2 n u3 0))))))
set_option maxHeartbeats 1000000 in
theorem pt_Mo_remove_20 {g : pj_G} {b : Nat} (C : pj_X g c_Mo_remove 4 R_Mo none rm_Mo_remove) {K : pj_M → Prop} (hE : pj_E g b (pj_Kv K)) {R12 : pj_M → Int32 → Prop}  {u : pj_M} {x2 : Int32} (hR12 : ∀ (u : pj_M) (x2 : Int32), R12 u x2 → pj_J g (pj_N g b u) 12 [some (.ref (b + 217)), none, some (.int x2), none] [])  (h : pb_Mo_remove_20 R12 K u x2) : pj_J g (pj_N g b u) 20 [some (.ref (b + 217)), none, some (.int x2), none] [] := by
  unfold pb_Mo_remove_20 at h
  refine pj_aload_n C d_Mo_remove_20 (pc' := 21) (i := 0) (x := b + 217) rfl rfl rfl ?_
  refine fg_Model_20_Model C tk_217 d_Mo_remove_21 (pc' := 24) rfl ?_
  refine pj_iload_n C d_Mo_remove_24 (pc' := 25) (i := 2) (x := x2) rfl rfl rfl ?_
  refine pj_aload_n C d_Mo_remove_25 (pc' := 26) (i := 0) (x := b + 217) rfl rfl rfl ?_
  refine fg_Model_20_Model C tk_217 d_Mo_remove_26 (pc' := 29) rfl ?_
  refine pj_iload_n C d_Mo_remove_29 (pc' := 30) (i := 2) (x := x2) rfl rfl rfl ?_
  refine pj_iconst C d_Mo_remove_30 (pc' := 31) rfl (v := 1) (by decide) ?_
  refine pj_iadd C d_Mo_remove_31 (pc' := 32) rfl ?_
  refine pj_iald C (pj_lt tk_221 (by decide)) (fun E u => ka_21 tk_221) d_Mo_remove_32 (pc' := 33) rfl h (fun h => ?_)
  refine pj_iast C (pj_lt tk_221 (by decide)) (fun E u => ka_21 tk_221) d_Mo_remove_33 (pc' := 34) rfl h (fun u1 h => ?_)
  refine pj_aload_n C d_Mo_remove_34 (pc' := 35) (i := 0) (x := b + 217) rfl rfl rfl ?_
  refine fg_Model_23_Model C tk_217 d_Mo_remove_35 (pc' := 38) rfl ?_
  refine pj_iload_n C d_Mo_remove_38 (pc' := 39) (i := 2) (x := x2) rfl rfl rfl ?_
  refine pj_aload_n C d_Mo_remove_39 (pc' := 40) (i := 0) (x := b + 217) rfl rfl rfl ?_
  refine fg_Model_23_Model C tk_217 d_Mo_remove_40 (pc' := 43) rfl ?_
  refine pj_iload_n C d_Mo_remove_43 (pc' := 44) (i := 2) (x := x2) rfl rfl rfl ?_
  refine pj_iconst C d_Mo_remove_44 (pc' := 45) rfl (v := 1) (by decide) ?_
  refine pj_iadd C d_Mo_remove_45 (pc' := 46) rfl ?_
  refine pj_iald C (pj_lt tk_222 (by decide)) (fun E u => ka_21 tk_222) d_Mo_remove_46 (pc' := 47) rfl h (fun h => ?_)
  refine pj_iast C (pj_lt tk_222 (by decide)) (fun E u => ka_21 tk_222) d_Mo_remove_47 (pc' := 48) rfl h (fun u2 h => ?_)
  refine pj_aload_n C d_Mo_remove_48 (pc' := 49) (i := 0) (x := b + 217) rfl rfl rfl ?_
  refine fg_Model_26_Model C tk_217 d_Mo_remove_49 (pc' := 52) rfl ?_
  refine pj_iload_n C d_Mo_remove_52 (pc' := 53) (i := 2) (x := x2) rfl rfl rfl ?_
  refine pj_aload_n C d_Mo_remove_53 (pc' := 54) (i := 0) (x := b + 217) rfl rfl rfl ?_
  refine fg_Model_26_Model C tk_217 d_Mo_remove_54 (pc' := 57) rfl ?_
  refine pj_iload_n C d_Mo_remove_57 (pc' := 58) (i := 2) (x := x2) rfl rfl rfl ?_
  refine pj_iconst C d_Mo_remove_58 (pc' := 59) rfl (v := 1) (by decide) ?_
  refine pj_iadd C d_Mo_remove_59 (pc' := 60) rfl ?_
  refine pj_iald C (pj_lt tk_223 (by decide)) (fun E u => ka_21 tk_223) d_Mo_remove_60 (pc' := 61) rfl h (fun h => ?_)
  refine pj_iast C (pj_lt tk_223 (by decide)) (fun E u => ka_21 tk_223) d_Mo_remove_61 (pc' := 62) rfl h (fun u3 h => ?_)
  refine pj_iconst C d_Mo_remove_62 (pc' := 63) rfl (v := 0) (by decide) ?_
  refine pj_istore_n C d_Mo_remove_63 (pc' := 64) (i := 3) (vs' := [some (.ref (b + 217)), none, some (.int x2), some (.int 0)]) rfl rfl (Nat.le_of_ble_eq_true rfl) (Nat.le_of_ble_eq_true rfl) rfl rfl ?_
  obtain ⟨n, h⟩ := h
  exact pj_cut (pj_le_s (pj_le_n (pj_le_s (pj_le_s pj_le_e)))) (pt_Mo_remove_64 C hE hR12  n _ _ h)
def pb_Mo_remove_12b (R12 : pj_M → Int32 → Prop) (K : pj_M → Prop) (u : pj_M) (x2 : Int32) : Prop := (((u 217 4) ≤ x2) → (pb_Mo_remove_107  K u )) ∧ (¬ ((u 217 4) ≤ x2) → (pb_Mo_remove_20 R12 K u x2))
set_option maxHeartbeats 1000000 in
theorem pt_Mo_remove_12b {g : pj_G} {b : Nat} (C : pj_X g c_Mo_remove 4 R_Mo none rm_Mo_remove) {K : pj_M → Prop} (hE : pj_E g b (pj_Kv K)) {R12 : pj_M → Int32 → Prop}  {u : pj_M} {x2 : Int32} (hR12 : ∀ (u : pj_M) (x2 : Int32), R12 u x2 → pj_J g (pj_N g b u) 12 [some (.ref (b + 217)), none, some (.int x2), none] [])  (h : pb_Mo_remove_12b R12 K u x2) : pj_J g (pj_N g b u) 12 [some (.ref (b + 217)), none, some (.int x2), none] [] := by
  unfold pb_Mo_remove_12b at h
  refine pj_iload_n C d_Mo_remove_12 (pc' := 13) (i := 2) (x := x2) rfl rfl rfl ?_
  refine pj_aload_n C d_Mo_remove_13 (pc' := 14) (i := 0) (x := b + 217) rfl rfl rfl ?_
  refine fg_Model_230_Model C tk_217 d_Mo_remove_14 (pc' := 17) rfl ?_
  refine pj_icmp_ge C d_Mo_remove_17 (pc' := 20) rfl (tgt := 107) (by decide) h (fun h => ?_) (fun h => ?_)
  · exact pj_cut (pj_le_n (pj_le_n (pj_le_n (pj_le_n pj_le_e)))) (pt_Mo_remove_107 C hE   h)
  · exact pj_cut (pj_le_s (pj_le_n (pj_le_s (pj_le_n pj_le_e)))) (pt_Mo_remove_20 C hE hR12  h)
def pb_Mo_remove_12  (K : pj_M → Prop)  : Nat → pj_M → Int32 → Prop
  | 0 => fun _ _ => False
  | n + 1 => fun u x2 => pb_Mo_remove_12b (pb_Mo_remove_12  K  n) K u x2
theorem pt_Mo_remove_12 {g : pj_G} {b : Nat} (C : pj_X g c_Mo_remove 4 R_Mo none rm_Mo_remove) {K : pj_M → Prop} (hE : pj_E g b (pj_Kv K))     : ∀ (n : Nat) (u : pj_M) (x2 : Int32), pb_Mo_remove_12  K  n u x2 → pj_J g (pj_N g b u) 12 [some (.ref (b + 217)), none, some (.int x2), none] [] := by
  intro n
  induction n with
  | zero => intro u x2 h; exact False.elim h
  | succ n ih =>
    intro u x2 h
    exact (pt_Mo_remove_12b C hE ih  h)
def pb_Mo_remove_0  (K : pj_M → Prop) (u : pj_M) (x1 : Int32) : Prop := pj_put u 217 4 ((u 217 4) - 1) fun u1 => (∃ n, pb_Mo_remove_12  K  n u1 x1)
set_option maxHeartbeats 1000000 in
theorem pt_Mo_remove_0 {g : pj_G} {b : Nat} (C : pj_X g c_Mo_remove 4 R_Mo none rm_Mo_remove) {K : pj_M → Prop} (hE : pj_E g b (pj_Kv K))   {u : pj_M} {x1 : Int32}   (h : pb_Mo_remove_0  K u x1) : pj_J g (pj_N g b u) 0 [some (.ref (b + 217)), some (.int x1), none, none] [] := by
  unfold pb_Mo_remove_0 at h
  refine pj_aload_n C d_Mo_remove_0 (pc' := 1) (i := 0) (x := b + 217) rfl rfl rfl ?_
  refine pj_dup C d_Mo_remove_1 (pc' := 2) rfl rfl ?_
  refine fg_Model_230_Model C tk_217 d_Mo_remove_2 (pc' := 5) rfl ?_
  refine pj_iconst C d_Mo_remove_5 (pc' := 6) rfl (v := 1) (by decide) ?_
  refine pj_isub C d_Mo_remove_6 (pc' := 7) rfl ?_
  refine fp_Model_230_Model C tk_217  d_Mo_remove_7 (pc' := 10) rfl h (fun u1 h => ?_)
  refine pj_iload_n C d_Mo_remove_10 (pc' := 11) (i := 1) (x := x1) rfl rfl rfl ?_
  refine pj_istore_n C d_Mo_remove_11 (pc' := 12) (i := 2) (vs' := [some (.ref (b + 217)), some (.int x1), some (.int x1), none]) rfl rfl (Nat.le_of_ble_eq_true rfl) (Nat.le_of_ble_eq_true rfl) rfl rfl ?_
  obtain ⟨n, h⟩ := h
  exact pj_cut (pj_le_s (pj_le_n (pj_le_s (pj_le_n pj_le_e)))) (pt_Mo_remove_12 C hE   n _ _ h)
def pw_Mo_remove (u : pj_M) (x1 : Int32) (K : pj_M → Prop) : Prop := pb_Mo_remove_0  K u x1
theorem pc_Mo_remove (l : Launch) (D : va_G) (E : Nat → ClassId) {b : Nat} {u : pj_M} {x1 : Int32} {K : pj_M → Prop}  (h : pw_Mo_remove u x1 K) : pj_C l y_Mo_remove c_Mo_remove 4 none rm_Mo_remove D E b [.ref (b + 217), .int x1] u (pj_Kv K) := by
  refine pj_met (own := R_Mo) (by decide +kernel) rfl (Nat.le_of_ble_eq_true rfl) (fun g hE C => ?_)
  unfold pw_Mo_remove at h
  show pj_J g (pj_N g b u) 0 [some (.ref (b + 217)), some (.int x1), none, none] []
  exact pj_cut (pj_le_s (pj_le_s (pj_le_n (pj_le_n pj_le_e)))) (pt_Mo_remove_0 C hE   h)
/-! Model.pass(II)Z -/
theorem ck_Model_381_Model {g : pj_G} {b : Nat} {cc : ByteArray} {nL : Nat} {ret : Option FieldType} {rm : Room} {u : pj_M} {pc pc' : Nat} {vs : List (Option Value)} {st : List Value} (C : pj_X g cc nL R_Mo ret rm) {x1 : Int32} {K : pj_M → Prop}  (h : pw_Mo_remove u x1 K) (hdg : decode cc pc = .ok (.invokevirtual 381, 3)) (hp : pc + 3 = pc') (hR : rm_Mo_remove.frames + 1 ≤ rm.frames ∧ 8 + (4 + 11) + rm_Mo_remove.locals ≤ rm.locals) (h8 : (st.map fun v => v.category).sum ≤ 8) (kk : ∀ u', K u' → pj_J g (pj_N g b u') pc' vs st) : pj_J g (pj_N g b u) pc vs (.int x1 :: .ref (b + 217) :: st) :=
  pj_callV C (As := [.int x1]) (fun l D E => pc_Mo_remove l D E  h) rfl rfl cl_Model (pj_lt tk_217 (by decide)) (fun E => ko_11 tk_217) wm_1464 wm_1466 wm_61 wm_103 wm_1467 (by decide +kernel) (n := 1) rfl hR rfl h8 hdg hp (fun v u' hq => by obtain ⟨rfl, hk⟩ := hq; exact kk u' hk)
theorem ck_Model_393_Model {g : pj_G} {b : Nat} {cc : ByteArray} {nL : Nat} {ret : Option FieldType} {rm : Room} {u : pj_M} {pc pc' : Nat} {vs : List (Option Value)} {st : List Value} (C : pj_X g cc nL R_Mo ret rm) {x1 : Int32} {K : pj_M → Prop}  (h : pw_Mo_switchHears u x1 K) (hdg : decode cc pc = .ok (.invokevirtual 393, 3)) (hp : pc + 3 = pc') (hR : rm_Mo_switchHears.frames + 1 ≤ rm.frames ∧ 8 + (5 + 11) + rm_Mo_switchHears.locals ≤ rm.locals) (h8 : (st.map fun v => v.category).sum ≤ 8) (kk : ∀ u', K u' → pj_J g (pj_N g b u') pc' vs st) : pj_J g (pj_N g b u) pc vs (.int x1 :: .ref (b + 217) :: st) :=
  pj_callV C (As := [.int x1]) (fun l D E => pc_Mo_switchHears l D E  h) rfl rfl cl_Model (pj_lt tk_217 (by decide)) (fun E => ko_11 tk_217) wm_1573 wm_1575 wm_88 wm_103 wm_1576 (by decide +kernel) (n := 1) rfl hR rfl h8 hdg hp (fun v u' hq => by obtain ⟨rfl, hk⟩ := hq; exact kk u' hk)
theorem ck_Model_390_Model {g : pj_G} {b : Nat} {cc : ByteArray} {nL : Nat} {ret : Option FieldType} {rm : Room} {u : pj_M} {pc pc' : Nat} {vs : List (Option Value)} {st : List Value} (C : pj_X g cc nL R_Mo ret rm) {x1 : Int32} {K : pj_M → Prop}  (h : pw_Mo_serverTakes u x1 K) (hdg : decode cc pc = .ok (.invokevirtual 390, 3)) (hp : pc + 3 = pc') (hR : rm_Mo_serverTakes.frames + 1 ≤ rm.frames ∧ 8 + (5 + 11) + rm_Mo_serverTakes.locals ≤ rm.locals) (h8 : (st.map fun v => v.category).sum ≤ 8) (kk : ∀ u', K u' → pj_J g (pj_N g b u') pc' vs st) : pj_J g (pj_N g b u) pc vs (.int x1 :: .ref (b + 217) :: st) :=
  pj_callV C (As := [.int x1]) (fun l D E => pc_Mo_serverTakes l D E  h) rfl rfl cl_Model (pj_lt tk_217 (by decide)) (fun E => ko_11 tk_217) wm_1516 wm_1518 wm_74 wm_103 wm_1519 (by decide +kernel) (n := 1) rfl hR rfl h8 hdg hp (fun v u' hq => by obtain ⟨rfl, hk⟩ := hq; exact kk u' hk)
theorem ck_Model_387_Model {g : pj_G} {b : Nat} {cc : ByteArray} {nL : Nat} {ret : Option FieldType} {rm : Room} {u : pj_M} {pc pc' : Nat} {vs : List (Option Value)} {st : List Value} (C : pj_X g cc nL R_Mo ret rm) {x1 : Int32} {K : pj_M → Prop}  (h : pw_Mo_hostTakes u x1 K) (hdg : decode cc pc = .ok (.invokevirtual 387, 3)) (hp : pc + 3 = pc') (hR : rm_Mo_hostTakes.frames + 1 ≤ rm.frames ∧ 8 + (3 + 11) + rm_Mo_hostTakes.locals ≤ rm.locals) (h8 : (st.map fun v => v.category).sum ≤ 8) (kk : ∀ u', K u' → pj_J g (pj_N g b u') pc' vs st) : pj_J g (pj_N g b u) pc vs (.int x1 :: .ref (b + 217) :: st) :=
  pj_callV C (As := [.int x1]) (fun l D E => pc_Mo_hostTakes l D E  h) rfl rfl cl_Model (pj_lt tk_217 (by decide)) (fun E => ko_11 tk_217) wm_1480 wm_1482 wm_65 wm_103 wm_1483 (by decide +kernel) (n := 1) rfl hR rfl h8 hdg hp (fun v u' hq => by obtain ⟨rfl, hk⟩ := hq; exact kk u' hk)
theorem ck_Model_384_Model {g : pj_G} {b : Nat} {cc : ByteArray} {nL : Nat} {ret : Option FieldType} {rm : Room} {u : pj_M} {pc pc' : Nat} {vs : List (Option Value)} {st : List Value} (C : pj_X g cc nL R_Mo ret rm) {x1 : Int32} {K : pj_M → Prop}  (h : pw_Mo_switchTakes u x1 K) (hdg : decode cc pc = .ok (.invokevirtual 384, 3)) (hp : pc + 3 = pc') (hR : rm_Mo_switchTakes.frames + 1 ≤ rm.frames ∧ 8 + (4 + 11) + rm_Mo_switchTakes.locals ≤ rm.locals) (h8 : (st.map fun v => v.category).sum ≤ 8) (kk : ∀ u', K u' → pj_J g (pj_N g b u') pc' vs st) : pj_J g (pj_N g b u) pc vs (.int x1 :: .ref (b + 217) :: st) :=
  pj_callV C (As := [.int x1]) (fun l D E => pc_Mo_switchTakes l D E  h) rfl rfl cl_Model (pj_lt tk_217 (by decide)) (fun E => ko_11 tk_217) wm_1468 wm_1470 wm_62 wm_103 wm_1471 (by decide +kernel) (n := 1) rfl hR rfl h8 hdg hp (fun v u' hq => by obtain ⟨rfl, hk⟩ := hq; exact kk u' hk)
def rm_Mo_pass : Room := { frames := 9, cells := 0, slots := 0, locals := 213 }
def pb_Mo_pass_21  (K : Int32 → pj_M → Prop) (u : pj_M)  : Prop := K 0 u
set_option maxHeartbeats 1000000 in
theorem pt_Mo_pass_21 {g : pj_G} {b : Nat} (C : pj_X g c_Mo_pass 6 R_Mo (some .boolean) rm_Mo_pass) {K : Int32 → pj_M → Prop} (hE : pj_E g b (pj_Ki K))   {u : pj_M}    (h : pb_Mo_pass_21  K u ) : pj_J g (pj_N g b u) 21 [none, none, none, none, none, none] [] := by
  unfold pb_Mo_pass_21 at h
  refine pj_iconst C d_Mo_pass_21 (pc' := 22) rfl (v := 0) (by decide) ?_
  exact pj_zret C hE d_Mo_pass_22 pj_bi0 ⟨_, rfl, h⟩
def pb_Mo_pass_173  (K : Int32 → pj_M → Prop) (u : pj_M)  : Prop := K 1 u
set_option maxHeartbeats 1000000 in
theorem pt_Mo_pass_173 {g : pj_G} {b : Nat} (C : pj_X g c_Mo_pass 6 R_Mo (some .boolean) rm_Mo_pass) {K : Int32 → pj_M → Prop} (hE : pj_E g b (pj_Ki K))   {u : pj_M}    (h : pb_Mo_pass_173  K u ) : pj_J g (pj_N g b u) 173 [none, none, none, none, none, none] [] := by
  unfold pb_Mo_pass_173 at h
  refine pj_iconst C d_Mo_pass_173 (pc' := 174) rfl (v := 1) (by decide) ?_
  exact pj_zret C hE d_Mo_pass_174 pj_bi1 ⟨_, rfl, h⟩
def pb_Mo_pass_140  (K : Int32 → pj_M → Prop) (u : pj_M) (x4 : Int32) : Prop := pw_Mo_switchTakes u x4 fun u1 => (pb_Mo_pass_173  K u1 )
set_option maxHeartbeats 1000000 in
theorem pt_Mo_pass_140 {g : pj_G} {b : Nat} (C : pj_X g c_Mo_pass 6 R_Mo (some .boolean) rm_Mo_pass) {K : Int32 → pj_M → Prop} (hE : pj_E g b (pj_Ki K))   {u : pj_M} {x4 : Int32}   (h : pb_Mo_pass_140  K u x4) : pj_J g (pj_N g b u) 140 [some (.ref (b + 217)), none, none, none, some (.int x4), none] [] := by
  unfold pb_Mo_pass_140 at h
  refine pj_aload_n C d_Mo_pass_140 (pc' := 141) (i := 0) (x := b + 217) rfl rfl rfl ?_
  refine pj_iload C d_Mo_pass_141 (pc' := 143) (i := 4) (x := x4) rfl rfl ?_
  refine ck_Model_384_Model C  h d_Mo_pass_143 (pc' := 146) rfl ⟨Nat.le_of_ble_eq_true rfl, Nat.le_of_ble_eq_true rfl⟩ (Nat.le_of_ble_eq_true rfl) (fun u1 h => ?_)
  refine pj_goto C d_Mo_pass_146 (tgt := 173) (by decide) ?_
  exact pj_cut (pj_le_n (pj_le_n (pj_le_n (pj_le_n (pj_le_n (pj_le_n pj_le_e)))))) (pt_Mo_pass_173 C hE   h)
def pb_Mo_pass_149  (K : Int32 → pj_M → Prop) (u : pj_M) (x4 : Int32) : Prop := pw_Mo_hostTakes u x4 fun u1 => (pb_Mo_pass_173  K u1 )
set_option maxHeartbeats 1000000 in
theorem pt_Mo_pass_149 {g : pj_G} {b : Nat} (C : pj_X g c_Mo_pass 6 R_Mo (some .boolean) rm_Mo_pass) {K : Int32 → pj_M → Prop} (hE : pj_E g b (pj_Ki K))   {u : pj_M} {x4 : Int32}   (h : pb_Mo_pass_149  K u x4) : pj_J g (pj_N g b u) 149 [some (.ref (b + 217)), none, none, none, some (.int x4), none] [] := by
  unfold pb_Mo_pass_149 at h
  refine pj_aload_n C d_Mo_pass_149 (pc' := 150) (i := 0) (x := b + 217) rfl rfl rfl ?_
  refine pj_iload C d_Mo_pass_150 (pc' := 152) (i := 4) (x := x4) rfl rfl ?_
  refine ck_Model_387_Model C  h d_Mo_pass_152 (pc' := 155) rfl ⟨Nat.le_of_ble_eq_true rfl, Nat.le_of_ble_eq_true rfl⟩ (Nat.le_of_ble_eq_true rfl) (fun u1 h => ?_)
  refine pj_goto C d_Mo_pass_155 (tgt := 173) (by decide) ?_
  exact pj_cut (pj_le_n (pj_le_n (pj_le_n (pj_le_n (pj_le_n (pj_le_n pj_le_e)))))) (pt_Mo_pass_173 C hE   h)
def pb_Mo_pass_158  (K : Int32 → pj_M → Prop) (u : pj_M) (x4 : Int32) : Prop := pw_Mo_serverTakes u x4 fun u1 => (pb_Mo_pass_173  K u1 )
set_option maxHeartbeats 1000000 in
theorem pt_Mo_pass_158 {g : pj_G} {b : Nat} (C : pj_X g c_Mo_pass 6 R_Mo (some .boolean) rm_Mo_pass) {K : Int32 → pj_M → Prop} (hE : pj_E g b (pj_Ki K))   {u : pj_M} {x4 : Int32}   (h : pb_Mo_pass_158  K u x4) : pj_J g (pj_N g b u) 158 [some (.ref (b + 217)), none, none, none, some (.int x4), none] [] := by
  unfold pb_Mo_pass_158 at h
  refine pj_aload_n C d_Mo_pass_158 (pc' := 159) (i := 0) (x := b + 217) rfl rfl rfl ?_
  refine pj_iload C d_Mo_pass_159 (pc' := 161) (i := 4) (x := x4) rfl rfl ?_
  refine ck_Model_390_Model C  h d_Mo_pass_161 (pc' := 164) rfl ⟨Nat.le_of_ble_eq_true rfl, Nat.le_of_ble_eq_true rfl⟩ (Nat.le_of_ble_eq_true rfl) (fun u1 h => ?_)
  refine pj_goto C d_Mo_pass_164 (tgt := 173) (by decide) ?_
  exact pj_cut (pj_le_n (pj_le_n (pj_le_n (pj_le_n (pj_le_n (pj_le_n pj_le_e)))))) (pt_Mo_pass_173 C hE   h)
def pb_Mo_pass_167  (K : Int32 → pj_M → Prop) (u : pj_M) (x4 : Int32) : Prop := pw_Mo_switchHears u x4 fun u1 => (pb_Mo_pass_173  K u1 )
set_option maxHeartbeats 1000000 in
theorem pt_Mo_pass_167 {g : pj_G} {b : Nat} (C : pj_X g c_Mo_pass 6 R_Mo (some .boolean) rm_Mo_pass) {K : Int32 → pj_M → Prop} (hE : pj_E g b (pj_Ki K))   {u : pj_M} {x4 : Int32}   (h : pb_Mo_pass_167  K u x4) : pj_J g (pj_N g b u) 167 [some (.ref (b + 217)), none, none, none, some (.int x4), none] [] := by
  unfold pb_Mo_pass_167 at h
  refine pj_aload_n C d_Mo_pass_167 (pc' := 168) (i := 0) (x := b + 217) rfl rfl rfl ?_
  refine pj_iload C d_Mo_pass_168 (pc' := 170) (i := 4) (x := x4) rfl rfl ?_
  refine ck_Model_393_Model C  h d_Mo_pass_170 (pc' := 173) rfl ⟨Nat.le_of_ble_eq_true rfl, Nat.le_of_ble_eq_true rfl⟩ (Nat.le_of_ble_eq_true rfl) (fun u1 h => ?_)
  exact pj_cut (pj_le_n (pj_le_n (pj_le_n (pj_le_n (pj_le_n (pj_le_n pj_le_e)))))) (pt_Mo_pass_173 C hE   h)
def pb_Mo_pass_111  (K : Int32 → pj_M → Prop) (u : pj_M) (x3 : Int32) (x4 : Int32) : Prop := ((x3 = 0) → (pb_Mo_pass_140  K u x4)) ∧ (¬ (x3 = 0) → ((x3 = 1) → (pb_Mo_pass_149  K u x4)) ∧ (¬ (x3 = 1) → ((x3 = 2) → (pb_Mo_pass_158  K u x4)) ∧ (¬ (x3 = 2) → (pb_Mo_pass_167  K u x4))))
set_option maxHeartbeats 1000000 in
theorem pt_Mo_pass_111 {g : pj_G} {b : Nat} (C : pj_X g c_Mo_pass 6 R_Mo (some .boolean) rm_Mo_pass) {K : Int32 → pj_M → Prop} (hE : pj_E g b (pj_Ki K))   {u : pj_M} {x3 : Int32} {x4 : Int32}   (h : pb_Mo_pass_111  K u x3 x4) : pj_J g (pj_N g b u) 111 [some (.ref (b + 217)), none, none, some (.int x3), some (.int x4), none] [] := by
  unfold pb_Mo_pass_111 at h
  refine pj_iload_n C d_Mo_pass_111 (pc' := 112) (i := 3) (x := x3) rfl rfl rfl ?_
  by_cases e0 : x3 = 0
  · have h := h.1 e0
    refine pj_tsIn C d_Mo_pass_112 (kv := 0) (by rw [e0]; decide) (by decide) (by decide) (tgt := 140) rfl (by decide) ?_
    exact pj_cut (pj_le_s (pj_le_n (pj_le_n (pj_le_n (pj_le_s (pj_le_n pj_le_e)))))) (pt_Mo_pass_140 C hE   h)
  have h := h.2 e0
  by_cases e1 : x3 = 1
  · have h := h.1 e1
    refine pj_tsIn C d_Mo_pass_112 (kv := 1) (by rw [e1]; decide) (by decide) (by decide) (tgt := 149) rfl (by decide) ?_
    exact pj_cut (pj_le_s (pj_le_n (pj_le_n (pj_le_n (pj_le_s (pj_le_n pj_le_e)))))) (pt_Mo_pass_149 C hE   h)
  have h := h.2 e1
  by_cases e2 : x3 = 2
  · have h := h.1 e2
    refine pj_tsIn C d_Mo_pass_112 (kv := 2) (by rw [e2]; decide) (by decide) (by decide) (tgt := 158) rfl (by decide) ?_
    exact pj_cut (pj_le_s (pj_le_n (pj_le_n (pj_le_n (pj_le_s (pj_le_n pj_le_e)))))) (pt_Mo_pass_158 C hE   h)
  have h := h.2 e2
  have z0 := lv_neT (a := 0) e0 (by decide)
  have z1 := lv_neT (a := 1) e1 (by decide)
  have z2 := lv_neT (a := 2) e2 (by decide)
  refine pj_tsOut C d_Mo_pass_112 (by omega) (tgt := 167) (by decide) ?_
  exact pj_cut (pj_le_s (pj_le_n (pj_le_n (pj_le_n (pj_le_s (pj_le_n pj_le_e)))))) (pt_Mo_pass_167 C hE   h)
def pb_Mo_pass_109  (K : Int32 → pj_M → Prop) (u : pj_M)  : Prop := K 1 u
set_option maxHeartbeats 1000000 in
theorem pt_Mo_pass_109 {g : pj_G} {b : Nat} (C : pj_X g c_Mo_pass 6 R_Mo (some .boolean) rm_Mo_pass) {K : Int32 → pj_M → Prop} (hE : pj_E g b (pj_Ki K))   {u : pj_M}    (h : pb_Mo_pass_109  K u ) : pj_J g (pj_N g b u) 109 [none, none, none, none, none, none] [] := by
  unfold pb_Mo_pass_109 at h
  refine pj_iconst C d_Mo_pass_109 (pc' := 110) rfl (v := 1) (by decide) ?_
  exact pj_zret C hE d_Mo_pass_110 pj_bi1 ⟨_, rfl, h⟩
def pb_Mo_pass_99  (K : Int32 → pj_M → Prop) (u : pj_M) (x1 : Int32) (x2 : Int32) (x3 : Int32) (x4 : Int32) : Prop := pw_Mo_remove u x1 fun u1 => (((x2 = 1) → (pb_Mo_pass_109  K u1 )) ∧ (¬ (x2 = 1) → (pb_Mo_pass_111  K u1 x3 x4)))
set_option maxHeartbeats 1000000 in
theorem pt_Mo_pass_99 {g : pj_G} {b : Nat} (C : pj_X g c_Mo_pass 6 R_Mo (some .boolean) rm_Mo_pass) {K : Int32 → pj_M → Prop} (hE : pj_E g b (pj_Ki K))   {u : pj_M} {x1 : Int32} {x2 : Int32} {x3 : Int32} {x4 : Int32}   (h : pb_Mo_pass_99  K u x1 x2 x3 x4) : pj_J g (pj_N g b u) 99 [some (.ref (b + 217)), some (.int x1), some (.int x2), some (.int x3), some (.int x4), none] [] := by
  unfold pb_Mo_pass_99 at h
  refine pj_aload_n C d_Mo_pass_99 (pc' := 100) (i := 0) (x := b + 217) rfl rfl rfl ?_
  refine pj_iload_n C d_Mo_pass_100 (pc' := 101) (i := 1) (x := x1) rfl rfl rfl ?_
  refine ck_Model_381_Model C  h d_Mo_pass_101 (pc' := 104) rfl ⟨Nat.le_of_ble_eq_true rfl, Nat.le_of_ble_eq_true rfl⟩ (Nat.le_of_ble_eq_true rfl) (fun u1 h => ?_)
  refine pj_iload_n C d_Mo_pass_104 (pc' := 105) (i := 2) (x := x2) rfl rfl rfl ?_
  refine pj_iconst C d_Mo_pass_105 (pc' := 106) rfl (v := 1) (by decide) ?_
  refine pj_icmp_ne C d_Mo_pass_106 (pc' := 109) rfl (tgt := 111) (by decide) h (fun h => ?_) (fun h => ?_)
  · exact pj_cut (pj_le_s (pj_le_n (pj_le_n (pj_le_s (pj_le_s (pj_le_n pj_le_e)))))) (pt_Mo_pass_111 C hE   h)
  · exact pj_cut (pj_le_n (pj_le_n (pj_le_n (pj_le_n (pj_le_n (pj_le_n pj_le_e)))))) (pt_Mo_pass_109 C hE   h)
def pb_Mo_pass_90  (K : Int32 → pj_M → Prop) (u : pj_M) (x3 : Int32) (x4 : Int32) : Prop := pw_Mo_send u x3 x4 fun u1 => (K 1 u1)
set_option maxHeartbeats 1000000 in
theorem pt_Mo_pass_90 {g : pj_G} {b : Nat} (C : pj_X g c_Mo_pass 6 R_Mo (some .boolean) rm_Mo_pass) {K : Int32 → pj_M → Prop} (hE : pj_E g b (pj_Ki K))   {u : pj_M} {x3 : Int32} {x4 : Int32}   (h : pb_Mo_pass_90  K u x3 x4) : pj_J g (pj_N g b u) 90 [some (.ref (b + 217)), none, none, some (.int x3), some (.int x4), none] [] := by
  unfold pb_Mo_pass_90 at h
  refine pj_aload_n C d_Mo_pass_90 (pc' := 91) (i := 0) (x := b + 217) rfl rfl rfl ?_
  refine pj_iload_n C d_Mo_pass_91 (pc' := 92) (i := 3) (x := x3) rfl rfl rfl ?_
  refine pj_iload C d_Mo_pass_92 (pc' := 94) (i := 4) (x := x4) rfl rfl ?_
  refine ck_Model_242_Model C  h d_Mo_pass_94 (pc' := 97) rfl ⟨Nat.le_of_ble_eq_true rfl, Nat.le_of_ble_eq_true rfl⟩ (Nat.le_of_ble_eq_true rfl) (fun u1 h => ?_)
  refine pj_iconst C d_Mo_pass_97 (pc' := 98) rfl (v := 1) (by decide) ?_
  exact pj_zret C hE d_Mo_pass_98 pj_bi1 ⟨_, rfl, h⟩
def pb_Mo_pass_85  (K : Int32 → pj_M → Prop) (u : pj_M) (x1 : Int32) (x2 : Int32) (x3 : Int32) (x4 : Int32) : Prop := ((x2 = 2) → (pb_Mo_pass_90  K u x3 x4)) ∧ (¬ (x2 = 2) → (pb_Mo_pass_99  K u x1 x2 x3 x4))
set_option maxHeartbeats 1000000 in
theorem pt_Mo_pass_85 {g : pj_G} {b : Nat} (C : pj_X g c_Mo_pass 6 R_Mo (some .boolean) rm_Mo_pass) {K : Int32 → pj_M → Prop} (hE : pj_E g b (pj_Ki K))   {u : pj_M} {x1 : Int32} {x2 : Int32} {x3 : Int32} {x4 : Int32}   (h : pb_Mo_pass_85  K u x1 x2 x3 x4) : pj_J g (pj_N g b u) 85 [some (.ref (b + 217)), some (.int x1), some (.int x2), some (.int x3), some (.int x4), none] [] := by
  unfold pb_Mo_pass_85 at h
  refine pj_iload_n C d_Mo_pass_85 (pc' := 86) (i := 2) (x := x2) rfl rfl rfl ?_
  refine pj_iconst C d_Mo_pass_86 (pc' := 87) rfl (v := 2) (by decide) ?_
  refine pj_icmp_ne C d_Mo_pass_87 (pc' := 90) rfl (tgt := 99) (by decide) h (fun h => ?_) (fun h => ?_)
  · exact pj_cut (pj_le_s (pj_le_s (pj_le_s (pj_le_s (pj_le_s (pj_le_n pj_le_e)))))) (pt_Mo_pass_99 C hE   h)
  · exact pj_cut (pj_le_s (pj_le_n (pj_le_n (pj_le_s (pj_le_s (pj_le_n pj_le_e)))))) (pt_Mo_pass_90 C hE   h)
def pb_Mo_pass_60 (R51 : pj_M → Int32 → Prop) (K : Int32 → pj_M → Prop) (u : pj_M) (x1 : Int32) (x2 : Int32) (x3 : Int32) (x4 : Int32) (x5 : Int32) : Prop := vp_in ((48 * x1) + x5) 1920 ∧ (vp_in x5 48 ∧ pj_put u 226 x5.toNatClampNeg (u 224 ((48 * x1) + x5).toNatClampNeg) fun u1 => (R51 u1 (x5 + 1)))
set_option maxHeartbeats 1000000 in
theorem pt_Mo_pass_60 {g : pj_G} {b : Nat} (C : pj_X g c_Mo_pass 6 R_Mo (some .boolean) rm_Mo_pass) {K : Int32 → pj_M → Prop} (hE : pj_E g b (pj_Ki K)) {R51 : pj_M → Int32 → Prop}  {u : pj_M} {x1 : Int32} {x2 : Int32} {x3 : Int32} {x4 : Int32} {x5 : Int32} (hR51 : ∀ (u : pj_M) (x5 : Int32), R51 u x5 → pj_J g (pj_N g b u) 51 [some (.ref (b + 217)), some (.int x1), some (.int x2), some (.int x3), some (.int x4), some (.int x5)] [])  (h : pb_Mo_pass_60 R51 K u x1 x2 x3 x4 x5) : pj_J g (pj_N g b u) 60 [some (.ref (b + 217)), some (.int x1), some (.int x2), some (.int x3), some (.int x4), some (.int x5)] [] := by
  unfold pb_Mo_pass_60 at h
  refine pj_aload_n C d_Mo_pass_60 (pc' := 61) (i := 0) (x := b + 217) rfl rfl rfl ?_
  refine fg_Model_35_Model C tk_217 d_Mo_pass_61 (pc' := 64) rfl ?_
  refine pj_iload C d_Mo_pass_64 (pc' := 66) (i := 5) (x := x5) rfl rfl ?_
  refine pj_aload_n C d_Mo_pass_66 (pc' := 67) (i := 0) (x := b + 217) rfl rfl rfl ?_
  refine fg_Model_29_Model C tk_217 d_Mo_pass_67 (pc' := 70) rfl ?_
  refine pj_bipush C d_Mo_pass_70 (pc' := 72) rfl (v := 48) (by decide) ?_
  refine pj_iload_n C d_Mo_pass_72 (pc' := 73) (i := 1) (x := x1) rfl rfl rfl ?_
  refine pj_imul C d_Mo_pass_73 (pc' := 74) rfl ?_
  refine pj_iload C d_Mo_pass_74 (pc' := 76) (i := 5) (x := x5) rfl rfl ?_
  refine pj_iadd C d_Mo_pass_76 (pc' := 77) rfl ?_
  refine pj_iald C (pj_lt tk_224 (by decide)) (fun E u => ka_37 tk_224) d_Mo_pass_77 (pc' := 78) rfl h (fun h => ?_)
  refine pj_iast C (pj_lt tk_226 (by decide)) (fun E u => ka_22 tk_226) d_Mo_pass_78 (pc' := 79) rfl h (fun u1 h => ?_)
  refine pj_iinc C d_Mo_pass_79 (pc' := 82) (x := x5) (d := 1) (vs' := [some (.ref (b + 217)), some (.int x1), some (.int x2), some (.int x3), some (.int x4), some (.int (x5 + 1))]) rfl rfl (Nat.le_of_ble_eq_true rfl) rfl (by decide) rfl ?_
  refine pj_goto C d_Mo_pass_82 (tgt := 51) (by decide) ?_
  exact pj_cut (pj_le_s (pj_le_s (pj_le_s (pj_le_s (pj_le_s (pj_le_s pj_le_e)))))) (hR51 _ _ h)
def pb_Mo_pass_51b (R51 : pj_M → Int32 → Prop) (K : Int32 → pj_M → Prop) (u : pj_M) (x1 : Int32) (x2 : Int32) (x3 : Int32) (x4 : Int32) (x5 : Int32) : Prop := (((u 217 11) ≤ x5) → (pb_Mo_pass_85  K u x1 x2 x3 x4)) ∧ (¬ ((u 217 11) ≤ x5) → (pb_Mo_pass_60 R51 K u x1 x2 x3 x4 x5))
set_option maxHeartbeats 1000000 in
theorem pt_Mo_pass_51b {g : pj_G} {b : Nat} (C : pj_X g c_Mo_pass 6 R_Mo (some .boolean) rm_Mo_pass) {K : Int32 → pj_M → Prop} (hE : pj_E g b (pj_Ki K)) {R51 : pj_M → Int32 → Prop}  {u : pj_M} {x1 : Int32} {x2 : Int32} {x3 : Int32} {x4 : Int32} {x5 : Int32} (hR51 : ∀ (u : pj_M) (x5 : Int32), R51 u x5 → pj_J g (pj_N g b u) 51 [some (.ref (b + 217)), some (.int x1), some (.int x2), some (.int x3), some (.int x4), some (.int x5)] [])  (h : pb_Mo_pass_51b R51 K u x1 x2 x3 x4 x5) : pj_J g (pj_N g b u) 51 [some (.ref (b + 217)), some (.int x1), some (.int x2), some (.int x3), some (.int x4), some (.int x5)] [] := by
  unfold pb_Mo_pass_51b at h
  refine pj_iload C d_Mo_pass_51 (pc' := 53) (i := 5) (x := x5) rfl rfl ?_
  refine pj_aload_n C d_Mo_pass_53 (pc' := 54) (i := 0) (x := b + 217) rfl rfl rfl ?_
  refine fg_Model_221_Model C tk_217 d_Mo_pass_54 (pc' := 57) rfl ?_
  refine pj_icmp_ge C d_Mo_pass_57 (pc' := 60) rfl (tgt := 85) (by decide) h (fun h => ?_) (fun h => ?_)
  · exact pj_cut (pj_le_s (pj_le_s (pj_le_s (pj_le_s (pj_le_s (pj_le_n pj_le_e)))))) (pt_Mo_pass_85 C hE   h)
  · exact pj_cut (pj_le_s (pj_le_s (pj_le_s (pj_le_s (pj_le_s (pj_le_s pj_le_e)))))) (pt_Mo_pass_60 C hE hR51  h)
def pb_Mo_pass_51  (K : Int32 → pj_M → Prop) (x1 : Int32) (x2 : Int32) (x3 : Int32) (x4 : Int32) : Nat → pj_M → Int32 → Prop
  | 0 => fun _ _ => False
  | n + 1 => fun u x5 => pb_Mo_pass_51b (pb_Mo_pass_51  K x1 x2 x3 x4 n) K u x1 x2 x3 x4 x5
theorem pt_Mo_pass_51 {g : pj_G} {b : Nat} (C : pj_X g c_Mo_pass 6 R_Mo (some .boolean) rm_Mo_pass) {K : Int32 → pj_M → Prop} (hE : pj_E g b (pj_Ki K))  {x1 : Int32} {x2 : Int32} {x3 : Int32} {x4 : Int32}   : ∀ (n : Nat) (u : pj_M) (x5 : Int32), pb_Mo_pass_51  K x1 x2 x3 x4 n u x5 → pj_J g (pj_N g b u) 51 [some (.ref (b + 217)), some (.int x1), some (.int x2), some (.int x3), some (.int x4), some (.int x5)] [] := by
  intro n
  induction n with
  | zero => intro u x5 h; exact False.elim h
  | succ n ih =>
    intro u x5 h
    exact (pt_Mo_pass_51b C hE ih  h)
def pb_Mo_pass_23  (K : Int32 → pj_M → Prop) (u : pj_M) (x1 : Int32) (x2 : Int32) : Prop := vp_in x1 40 ∧ (pj_let (u 221 x1.toNatClampNeg) fun y1 => (vp_in x1 40 ∧ (pj_let (u 222 x1.toNatClampNeg) fun y2 => (vp_in x1 40 ∧ (pj_put u 217 11 (u 223 x1.toNatClampNeg) fun u3 => (∃ n, pb_Mo_pass_51  K x1 x2 y1 y2 n u3 0))))))
set_option maxHeartbeats 1000000 in
theorem pt_Mo_pass_23 {g : pj_G} {b : Nat} (C : pj_X g c_Mo_pass 6 R_Mo (some .boolean) rm_Mo_pass) {K : Int32 → pj_M → Prop} (hE : pj_E g b (pj_Ki K))   {u : pj_M} {x1 : Int32} {x2 : Int32}   (h : pb_Mo_pass_23  K u x1 x2) : pj_J g (pj_N g b u) 23 [some (.ref (b + 217)), some (.int x1), some (.int x2), none, none, none] [] := by
  unfold pb_Mo_pass_23 at h
  refine pj_aload_n C d_Mo_pass_23 (pc' := 24) (i := 0) (x := b + 217) rfl rfl rfl ?_
  refine fg_Model_20_Model C tk_217 d_Mo_pass_24 (pc' := 27) rfl ?_
  refine pj_iload_n C d_Mo_pass_27 (pc' := 28) (i := 1) (x := x1) rfl rfl rfl ?_
  refine pj_iald C (pj_lt tk_221 (by decide)) (fun E u => ka_21 tk_221) d_Mo_pass_28 (pc' := 29) rfl h (fun h => ?_)
  refine pj_name h (fun y1 h => ?_)
  refine pj_istore_n C d_Mo_pass_29 (pc' := 30) (i := 3) (vs' := [some (.ref (b + 217)), some (.int x1), some (.int x2), some (.int y1), none, none]) rfl rfl (Nat.le_of_ble_eq_true rfl) (Nat.le_of_ble_eq_true rfl) rfl rfl ?_
  refine pj_aload_n C d_Mo_pass_30 (pc' := 31) (i := 0) (x := b + 217) rfl rfl rfl ?_
  refine fg_Model_23_Model C tk_217 d_Mo_pass_31 (pc' := 34) rfl ?_
  refine pj_iload_n C d_Mo_pass_34 (pc' := 35) (i := 1) (x := x1) rfl rfl rfl ?_
  refine pj_iald C (pj_lt tk_222 (by decide)) (fun E u => ka_21 tk_222) d_Mo_pass_35 (pc' := 36) rfl h (fun h => ?_)
  refine pj_name h (fun y2 h => ?_)
  refine pj_istore C d_Mo_pass_36 (pc' := 38) (i := 4) (vs' := [some (.ref (b + 217)), some (.int x1), some (.int x2), some (.int y1), some (.int y2), none]) rfl (Nat.le_of_ble_eq_true rfl) (Nat.le_of_ble_eq_true rfl) rfl rfl ?_
  refine pj_aload_n C d_Mo_pass_38 (pc' := 39) (i := 0) (x := b + 217) rfl rfl rfl ?_
  refine pj_aload_n C d_Mo_pass_39 (pc' := 40) (i := 0) (x := b + 217) rfl rfl rfl ?_
  refine fg_Model_26_Model C tk_217 d_Mo_pass_40 (pc' := 43) rfl ?_
  refine pj_iload_n C d_Mo_pass_43 (pc' := 44) (i := 1) (x := x1) rfl rfl rfl ?_
  refine pj_iald C (pj_lt tk_223 (by decide)) (fun E u => ka_21 tk_223) d_Mo_pass_44 (pc' := 45) rfl h (fun h => ?_)
  refine fp_Model_221_Model C tk_217  d_Mo_pass_45 (pc' := 48) rfl h (fun u3 h => ?_)
  refine pj_iconst C d_Mo_pass_48 (pc' := 49) rfl (v := 0) (by decide) ?_
  refine pj_istore C d_Mo_pass_49 (pc' := 51) (i := 5) (vs' := [some (.ref (b + 217)), some (.int x1), some (.int x2), some (.int y1), some (.int y2), some (.int 0)]) rfl (Nat.le_of_ble_eq_true rfl) (Nat.le_of_ble_eq_true rfl) rfl rfl ?_
  obtain ⟨n, h⟩ := h
  exact pj_cut (pj_le_s (pj_le_s (pj_le_s (pj_le_s (pj_le_s (pj_le_s pj_le_e)))))) (pt_Mo_pass_51 C hE   n _ _ h)
def pb_Mo_pass_16  (K : Int32 → pj_M → Prop) (u : pj_M) (x1 : Int32) (x2 : Int32) : Prop := ((x2 ≤ 2) → (pb_Mo_pass_23  K u x1 x2)) ∧ (¬ (x2 ≤ 2) → (pb_Mo_pass_21  K u ))
set_option maxHeartbeats 1000000 in
theorem pt_Mo_pass_16 {g : pj_G} {b : Nat} (C : pj_X g c_Mo_pass 6 R_Mo (some .boolean) rm_Mo_pass) {K : Int32 → pj_M → Prop} (hE : pj_E g b (pj_Ki K))   {u : pj_M} {x1 : Int32} {x2 : Int32}   (h : pb_Mo_pass_16  K u x1 x2) : pj_J g (pj_N g b u) 16 [some (.ref (b + 217)), some (.int x1), some (.int x2), none, none, none] [] := by
  unfold pb_Mo_pass_16 at h
  refine pj_iload_n C d_Mo_pass_16 (pc' := 17) (i := 2) (x := x2) rfl rfl rfl ?_
  refine pj_iconst C d_Mo_pass_17 (pc' := 18) rfl (v := 2) (by decide) ?_
  refine pj_icmp_le C d_Mo_pass_18 (pc' := 21) rfl (tgt := 23) (by decide) h (fun h => ?_) (fun h => ?_)
  · exact pj_cut (pj_le_s (pj_le_s (pj_le_s (pj_le_n (pj_le_n (pj_le_n pj_le_e)))))) (pt_Mo_pass_23 C hE   h)
  · exact pj_cut (pj_le_n (pj_le_n (pj_le_n (pj_le_n (pj_le_n (pj_le_n pj_le_e)))))) (pt_Mo_pass_21 C hE   h)
def pb_Mo_pass_12  (K : Int32 → pj_M → Prop) (u : pj_M) (x1 : Int32) (x2 : Int32) : Prop := ((x2 < 0) → (pb_Mo_pass_21  K u )) ∧ (¬ (x2 < 0) → (pb_Mo_pass_16  K u x1 x2))
set_option maxHeartbeats 1000000 in
theorem pt_Mo_pass_12 {g : pj_G} {b : Nat} (C : pj_X g c_Mo_pass 6 R_Mo (some .boolean) rm_Mo_pass) {K : Int32 → pj_M → Prop} (hE : pj_E g b (pj_Ki K))   {u : pj_M} {x1 : Int32} {x2 : Int32}   (h : pb_Mo_pass_12  K u x1 x2) : pj_J g (pj_N g b u) 12 [some (.ref (b + 217)), some (.int x1), some (.int x2), none, none, none] [] := by
  unfold pb_Mo_pass_12 at h
  refine pj_iload_n C d_Mo_pass_12 (pc' := 13) (i := 2) (x := x2) rfl rfl rfl ?_
  refine pj_if_lt C d_Mo_pass_13 (pc' := 16) rfl (tgt := 21) (by decide) h (fun h => ?_) (fun h => ?_)
  · exact pj_cut (pj_le_n (pj_le_n (pj_le_n (pj_le_n (pj_le_n (pj_le_n pj_le_e)))))) (pt_Mo_pass_21 C hE   h)
  · exact pj_cut (pj_le_s (pj_le_s (pj_le_s (pj_le_n (pj_le_n (pj_le_n pj_le_e)))))) (pt_Mo_pass_16 C hE   h)
def pb_Mo_pass_4  (K : Int32 → pj_M → Prop) (u : pj_M) (x1 : Int32) (x2 : Int32) : Prop := (((u 217 4) ≤ x1) → (pb_Mo_pass_21  K u )) ∧ (¬ ((u 217 4) ≤ x1) → (pb_Mo_pass_12  K u x1 x2))
set_option maxHeartbeats 1000000 in
theorem pt_Mo_pass_4 {g : pj_G} {b : Nat} (C : pj_X g c_Mo_pass 6 R_Mo (some .boolean) rm_Mo_pass) {K : Int32 → pj_M → Prop} (hE : pj_E g b (pj_Ki K))   {u : pj_M} {x1 : Int32} {x2 : Int32}   (h : pb_Mo_pass_4  K u x1 x2) : pj_J g (pj_N g b u) 4 [some (.ref (b + 217)), some (.int x1), some (.int x2), none, none, none] [] := by
  unfold pb_Mo_pass_4 at h
  refine pj_iload_n C d_Mo_pass_4 (pc' := 5) (i := 1) (x := x1) rfl rfl rfl ?_
  refine pj_aload_n C d_Mo_pass_5 (pc' := 6) (i := 0) (x := b + 217) rfl rfl rfl ?_
  refine fg_Model_230_Model C tk_217 d_Mo_pass_6 (pc' := 9) rfl ?_
  refine pj_icmp_ge C d_Mo_pass_9 (pc' := 12) rfl (tgt := 21) (by decide) h (fun h => ?_) (fun h => ?_)
  · exact pj_cut (pj_le_n (pj_le_n (pj_le_n (pj_le_n (pj_le_n (pj_le_n pj_le_e)))))) (pt_Mo_pass_21 C hE   h)
  · exact pj_cut (pj_le_s (pj_le_s (pj_le_s (pj_le_n (pj_le_n (pj_le_n pj_le_e)))))) (pt_Mo_pass_12 C hE   h)
def pb_Mo_pass_0  (K : Int32 → pj_M → Prop) (u : pj_M) (x1 : Int32) (x2 : Int32) : Prop := ((x1 < 0) → (pb_Mo_pass_21  K u )) ∧ (¬ (x1 < 0) → (pb_Mo_pass_4  K u x1 x2))
set_option maxHeartbeats 1000000 in
theorem pt_Mo_pass_0 {g : pj_G} {b : Nat} (C : pj_X g c_Mo_pass 6 R_Mo (some .boolean) rm_Mo_pass) {K : Int32 → pj_M → Prop} (hE : pj_E g b (pj_Ki K))   {u : pj_M} {x1 : Int32} {x2 : Int32}   (h : pb_Mo_pass_0  K u x1 x2) : pj_J g (pj_N g b u) 0 [some (.ref (b + 217)), some (.int x1), some (.int x2), none, none, none] [] := by
  unfold pb_Mo_pass_0 at h
  refine pj_iload_n C d_Mo_pass_0 (pc' := 1) (i := 1) (x := x1) rfl rfl rfl ?_
  refine pj_if_lt C d_Mo_pass_1 (pc' := 4) rfl (tgt := 21) (by decide) h (fun h => ?_) (fun h => ?_)
  · exact pj_cut (pj_le_n (pj_le_n (pj_le_n (pj_le_n (pj_le_n (pj_le_n pj_le_e)))))) (pt_Mo_pass_21 C hE   h)
  · exact pj_cut (pj_le_s (pj_le_s (pj_le_s (pj_le_n (pj_le_n (pj_le_n pj_le_e)))))) (pt_Mo_pass_4 C hE   h)
def pw_Mo_pass (u : pj_M) (x1 : Int32) (x2 : Int32) (K : Int32 → pj_M → Prop) : Prop := pb_Mo_pass_0  K u x1 x2
theorem pc_Mo_pass (l : Launch) (D : va_G) (E : Nat → ClassId) {b : Nat} {u : pj_M} {x1 : Int32} {x2 : Int32} {K : Int32 → pj_M → Prop}  (h : pw_Mo_pass u x1 x2 K) : pj_C l y_Mo_pass c_Mo_pass 6 (some .boolean) rm_Mo_pass D E b [.ref (b + 217), .int x1, .int x2] u (pj_Ki K) := by
  refine pj_met (own := R_Mo) (by decide +kernel) rfl (Nat.le_of_ble_eq_true rfl) (fun g hE C => ?_)
  unfold pw_Mo_pass at h
  show pj_J g (pj_N g b u) 0 [some (.ref (b + 217)), some (.int x1), some (.int x2), none, none, none] []
  exact pj_cut (pj_le_s (pj_le_s (pj_le_s (pj_le_n (pj_le_n (pj_le_n pj_le_e)))))) (pt_Mo_pass_0 C hE   h)
/-! Model.alter(III)Z -/
def rm_Mo_alter : Room := { frames := 0, cells := 0, slots := 0, locals := 0 }
def pb_Mo_alter_26  (K : Int32 → pj_M → Prop) (u : pj_M)  : Prop := K 0 u
set_option maxHeartbeats 1000000 in
theorem pt_Mo_alter_26 {g : pj_G} {b : Nat} (C : pj_X g c_Mo_alter 4 R_Mo (some .boolean) rm_Mo_alter) {K : Int32 → pj_M → Prop} (hE : pj_E g b (pj_Ki K))   {u : pj_M}    (h : pb_Mo_alter_26  K u ) : pj_J g (pj_N g b u) 26 [none, none, none, none] [] := by
  unfold pb_Mo_alter_26 at h
  refine pj_iconst C d_Mo_alter_26 (pc' := 27) rfl (v := 0) (by decide) ?_
  exact pj_zret C hE d_Mo_alter_27 pj_bi0 ⟨_, rfl, h⟩
def pb_Mo_alter_28  (K : Int32 → pj_M → Prop) (u : pj_M) (x1 : Int32) (x2 : Int32) (x3 : Int32) : Prop := vp_in ((48 * x1) + x2) 1920 ∧ (vp_in ((48 * x1) + x2) 1920 ∧ pj_put u 224 ((48 * x1) + x2).toNatClampNeg ((u 224 ((48 * x1) + x2).toNatClampNeg) ^^^ (x3 &&& 255)) fun u1 => (K 1 u1))
set_option maxHeartbeats 1000000 in
theorem pt_Mo_alter_28 {g : pj_G} {b : Nat} (C : pj_X g c_Mo_alter 4 R_Mo (some .boolean) rm_Mo_alter) {K : Int32 → pj_M → Prop} (hE : pj_E g b (pj_Ki K))   {u : pj_M} {x1 : Int32} {x2 : Int32} {x3 : Int32}   (h : pb_Mo_alter_28  K u x1 x2 x3) : pj_J g (pj_N g b u) 28 [some (.ref (b + 217)), some (.int x1), some (.int x2), some (.int x3)] [] := by
  unfold pb_Mo_alter_28 at h
  refine pj_aload_n C d_Mo_alter_28 (pc' := 29) (i := 0) (x := b + 217) rfl rfl rfl ?_
  refine fg_Model_29_Model C tk_217 d_Mo_alter_29 (pc' := 32) rfl ?_
  refine pj_bipush C d_Mo_alter_32 (pc' := 34) rfl (v := 48) (by decide) ?_
  refine pj_iload_n C d_Mo_alter_34 (pc' := 35) (i := 1) (x := x1) rfl rfl rfl ?_
  refine pj_imul C d_Mo_alter_35 (pc' := 36) rfl ?_
  refine pj_iload_n C d_Mo_alter_36 (pc' := 37) (i := 2) (x := x2) rfl rfl rfl ?_
  refine pj_iadd C d_Mo_alter_37 (pc' := 38) rfl ?_
  refine pj_aload_n C d_Mo_alter_38 (pc' := 39) (i := 0) (x := b + 217) rfl rfl rfl ?_
  refine fg_Model_29_Model C tk_217 d_Mo_alter_39 (pc' := 42) rfl ?_
  refine pj_bipush C d_Mo_alter_42 (pc' := 44) rfl (v := 48) (by decide) ?_
  refine pj_iload_n C d_Mo_alter_44 (pc' := 45) (i := 1) (x := x1) rfl rfl rfl ?_
  refine pj_imul C d_Mo_alter_45 (pc' := 46) rfl ?_
  refine pj_iload_n C d_Mo_alter_46 (pc' := 47) (i := 2) (x := x2) rfl rfl rfl ?_
  refine pj_iadd C d_Mo_alter_47 (pc' := 48) rfl ?_
  refine pj_iald C (pj_lt tk_224 (by decide)) (fun E u => ka_37 tk_224) d_Mo_alter_48 (pc' := 49) rfl h (fun h => ?_)
  refine pj_iload_n C d_Mo_alter_49 (pc' := 50) (i := 3) (x := x3) rfl rfl rfl ?_
  refine pj_sipush C d_Mo_alter_50 (pc' := 53) rfl (v := 255) (by decide) ?_
  refine pj_iand C d_Mo_alter_53 (pc' := 54) rfl ?_
  refine pj_ixor C d_Mo_alter_54 (pc' := 55) rfl ?_
  refine pj_iast C (pj_lt tk_224 (by decide)) (fun E u => ka_37 tk_224) d_Mo_alter_55 (pc' := 56) rfl h (fun u1 h => ?_)
  refine pj_iconst C d_Mo_alter_56 (pc' := 57) rfl (v := 1) (by decide) ?_
  exact pj_zret C hE d_Mo_alter_57 pj_bi1 ⟨_, rfl, h⟩
def pb_Mo_alter_16  (K : Int32 → pj_M → Prop) (u : pj_M) (x1 : Int32) (x2 : Int32) (x3 : Int32) : Prop := vp_in x1 40 ∧ (((x2 < (u 223 x1.toNatClampNeg)) → (pb_Mo_alter_28  K u x1 x2 x3)) ∧ (¬ (x2 < (u 223 x1.toNatClampNeg)) → (pb_Mo_alter_26  K u )))
set_option maxHeartbeats 1000000 in
theorem pt_Mo_alter_16 {g : pj_G} {b : Nat} (C : pj_X g c_Mo_alter 4 R_Mo (some .boolean) rm_Mo_alter) {K : Int32 → pj_M → Prop} (hE : pj_E g b (pj_Ki K))   {u : pj_M} {x1 : Int32} {x2 : Int32} {x3 : Int32}   (h : pb_Mo_alter_16  K u x1 x2 x3) : pj_J g (pj_N g b u) 16 [some (.ref (b + 217)), some (.int x1), some (.int x2), some (.int x3)] [] := by
  unfold pb_Mo_alter_16 at h
  refine pj_iload_n C d_Mo_alter_16 (pc' := 17) (i := 2) (x := x2) rfl rfl rfl ?_
  refine pj_aload_n C d_Mo_alter_17 (pc' := 18) (i := 0) (x := b + 217) rfl rfl rfl ?_
  refine fg_Model_26_Model C tk_217 d_Mo_alter_18 (pc' := 21) rfl ?_
  refine pj_iload_n C d_Mo_alter_21 (pc' := 22) (i := 1) (x := x1) rfl rfl rfl ?_
  refine pj_iald C (pj_lt tk_223 (by decide)) (fun E u => ka_21 tk_223) d_Mo_alter_22 (pc' := 23) rfl h (fun h => ?_)
  refine pj_icmp_lt C d_Mo_alter_23 (pc' := 26) rfl (tgt := 28) (by decide) h (fun h => ?_) (fun h => ?_)
  · exact pj_cut (pj_le_s (pj_le_s (pj_le_s (pj_le_s pj_le_e)))) (pt_Mo_alter_28 C hE   h)
  · exact pj_cut (pj_le_n (pj_le_n (pj_le_n (pj_le_n pj_le_e)))) (pt_Mo_alter_26 C hE   h)
def pb_Mo_alter_12  (K : Int32 → pj_M → Prop) (u : pj_M) (x1 : Int32) (x2 : Int32) (x3 : Int32) : Prop := ((x2 < 0) → (pb_Mo_alter_26  K u )) ∧ (¬ (x2 < 0) → (pb_Mo_alter_16  K u x1 x2 x3))
set_option maxHeartbeats 1000000 in
theorem pt_Mo_alter_12 {g : pj_G} {b : Nat} (C : pj_X g c_Mo_alter 4 R_Mo (some .boolean) rm_Mo_alter) {K : Int32 → pj_M → Prop} (hE : pj_E g b (pj_Ki K))   {u : pj_M} {x1 : Int32} {x2 : Int32} {x3 : Int32}   (h : pb_Mo_alter_12  K u x1 x2 x3) : pj_J g (pj_N g b u) 12 [some (.ref (b + 217)), some (.int x1), some (.int x2), some (.int x3)] [] := by
  unfold pb_Mo_alter_12 at h
  refine pj_iload_n C d_Mo_alter_12 (pc' := 13) (i := 2) (x := x2) rfl rfl rfl ?_
  refine pj_if_lt C d_Mo_alter_13 (pc' := 16) rfl (tgt := 26) (by decide) h (fun h => ?_) (fun h => ?_)
  · exact pj_cut (pj_le_n (pj_le_n (pj_le_n (pj_le_n pj_le_e)))) (pt_Mo_alter_26 C hE   h)
  · exact pj_cut (pj_le_s (pj_le_s (pj_le_s (pj_le_s pj_le_e)))) (pt_Mo_alter_16 C hE   h)
def pb_Mo_alter_4  (K : Int32 → pj_M → Prop) (u : pj_M) (x1 : Int32) (x2 : Int32) (x3 : Int32) : Prop := (((u 217 4) ≤ x1) → (pb_Mo_alter_26  K u )) ∧ (¬ ((u 217 4) ≤ x1) → (pb_Mo_alter_12  K u x1 x2 x3))
set_option maxHeartbeats 1000000 in
theorem pt_Mo_alter_4 {g : pj_G} {b : Nat} (C : pj_X g c_Mo_alter 4 R_Mo (some .boolean) rm_Mo_alter) {K : Int32 → pj_M → Prop} (hE : pj_E g b (pj_Ki K))   {u : pj_M} {x1 : Int32} {x2 : Int32} {x3 : Int32}   (h : pb_Mo_alter_4  K u x1 x2 x3) : pj_J g (pj_N g b u) 4 [some (.ref (b + 217)), some (.int x1), some (.int x2), some (.int x3)] [] := by
  unfold pb_Mo_alter_4 at h
  refine pj_iload_n C d_Mo_alter_4 (pc' := 5) (i := 1) (x := x1) rfl rfl rfl ?_
  refine pj_aload_n C d_Mo_alter_5 (pc' := 6) (i := 0) (x := b + 217) rfl rfl rfl ?_
  refine fg_Model_230_Model C tk_217 d_Mo_alter_6 (pc' := 9) rfl ?_
  refine pj_icmp_ge C d_Mo_alter_9 (pc' := 12) rfl (tgt := 26) (by decide) h (fun h => ?_) (fun h => ?_)
  · exact pj_cut (pj_le_n (pj_le_n (pj_le_n (pj_le_n pj_le_e)))) (pt_Mo_alter_26 C hE   h)
  · exact pj_cut (pj_le_s (pj_le_s (pj_le_s (pj_le_s pj_le_e)))) (pt_Mo_alter_12 C hE   h)
def pb_Mo_alter_0  (K : Int32 → pj_M → Prop) (u : pj_M) (x1 : Int32) (x2 : Int32) (x3 : Int32) : Prop := ((x1 < 0) → (pb_Mo_alter_26  K u )) ∧ (¬ (x1 < 0) → (pb_Mo_alter_4  K u x1 x2 x3))
set_option maxHeartbeats 1000000 in
theorem pt_Mo_alter_0 {g : pj_G} {b : Nat} (C : pj_X g c_Mo_alter 4 R_Mo (some .boolean) rm_Mo_alter) {K : Int32 → pj_M → Prop} (hE : pj_E g b (pj_Ki K))   {u : pj_M} {x1 : Int32} {x2 : Int32} {x3 : Int32}   (h : pb_Mo_alter_0  K u x1 x2 x3) : pj_J g (pj_N g b u) 0 [some (.ref (b + 217)), some (.int x1), some (.int x2), some (.int x3)] [] := by
  unfold pb_Mo_alter_0 at h
  refine pj_iload_n C d_Mo_alter_0 (pc' := 1) (i := 1) (x := x1) rfl rfl rfl ?_
  refine pj_if_lt C d_Mo_alter_1 (pc' := 4) rfl (tgt := 26) (by decide) h (fun h => ?_) (fun h => ?_)
  · exact pj_cut (pj_le_n (pj_le_n (pj_le_n (pj_le_n pj_le_e)))) (pt_Mo_alter_26 C hE   h)
  · exact pj_cut (pj_le_s (pj_le_s (pj_le_s (pj_le_s pj_le_e)))) (pt_Mo_alter_4 C hE   h)
def pw_Mo_alter (u : pj_M) (x1 : Int32) (x2 : Int32) (x3 : Int32) (K : Int32 → pj_M → Prop) : Prop := pb_Mo_alter_0  K u x1 x2 x3
theorem pc_Mo_alter (l : Launch) (D : va_G) (E : Nat → ClassId) {b : Nat} {u : pj_M} {x1 : Int32} {x2 : Int32} {x3 : Int32} {K : Int32 → pj_M → Prop}  (h : pw_Mo_alter u x1 x2 x3 K) : pj_C l y_Mo_alter c_Mo_alter 4 (some .boolean) rm_Mo_alter D E b [.ref (b + 217), .int x1, .int x2, .int x3] u (pj_Ki K) := by
  refine pj_met (own := R_Mo) (by decide +kernel) rfl (Nat.le_of_ble_eq_true rfl) (fun g hE C => ?_)
  unfold pw_Mo_alter at h
  show pj_J g (pj_N g b u) 0 [some (.ref (b + 217)), some (.int x1), some (.int x2), some (.int x3)] []
  exact pj_cut (pj_le_s (pj_le_s (pj_le_s (pj_le_s pj_le_e)))) (pt_Mo_alter_0 C hE   h)
/-! Model.draft(JI)Z -/
theorem fg_Model_396_Model {g : pj_G} {b : Nat} {cc : ByteArray} {nL : Nat} {ret : Option FieldType} {rm : Room} {u : pj_M} {pc pc' : Nat} {vs : List (Option Value)} {st : List Value} (C : pj_X g cc nL R_Mo ret rm) {i : Nat} (t : pj_T i = 11) (hdg : decode cc pc = .ok (.getfield 396, 3)) (hp : pc + 3 = pc') (kk : pj_J g (pj_N g b u) pc' vs (.int (u i 9) :: st)) : pj_J g (pj_N g b u) pc vs (.ref (b + i) :: st) :=
  pj_get C cl_Model hin_Model (k := 9) (Nat.le_of_ble_eq_true rfl) wm_1133 (Or.inl rfl) (pj_lt t (by decide)) (fun E => ko_11 t) rfl hdg hp kk
theorem fg_Model_32_Model {g : pj_G} {b : Nat} {cc : ByteArray} {nL : Nat} {ret : Option FieldType} {rm : Room} {u : pj_M} {pc pc' : Nat} {vs : List (Option Value)} {st : List Value} (C : pj_X g cc nL R_Mo ret rm) {i : Nat} (t : pj_T i = 11) (hdg : decode cc pc = .ok (.getfield 32, 3)) (hp : pc + 3 = pc') (kk : pj_J g (pj_N g b u) pc' vs (.ref (b + 225) :: st)) : pj_J g (pj_N g b u) pc vs (.ref (b + i) :: st) :=
  pj_get C cl_Model hin_Model (k := 10) (Nat.le_of_ble_eq_true rfl) wm_1134 (Or.inl rfl) (pj_lt t (by decide)) (fun E => ko_11 t) rfl hdg hp kk
theorem fp_Model_396_Model {g : pj_G} {b : Nat} {cc : ByteArray} {nL : Nat} {ret : Option FieldType} {rm : Room} {u : pj_M} {pc pc' : Nat} {vs : List (Option Value)} {st : List Value} (C : pj_X g cc nL R_Mo ret rm) {i : Nat} {x : Int32} {P : pj_M → Prop} (t : pj_T i = 11)  (hdg : decode cc pc = .ok (.putfield 396, 3)) (hp : pc + 3 = pc') (h : pj_put u i 9 x P) (kk : ∀ u', P u' → pj_J g (pj_N g b u') pc' vs st) : pj_J g (pj_N g b u) pc vs (.int x :: .ref (b + i) :: st) :=
  pj_putI C cl_Model hin_Model ty_Model tyok_Model nm_Model (k := 9) (Nat.le_of_ble_eq_true rfl) wm_1133 (Or.inl rfl) rfl (ty := .int) (by decide +kernel) rfl rfl (pj_lt t (by decide)) (fun E u => ko_11 t) (F := fun f => [.int (f 0), .ref (b + 218), .ref (b + 219), .ref (b + 220), .int (f 4), .ref (b + 221), .ref (b + 222), .ref (b + 223), .ref (b + 224), .int (f 9), .ref (b + 225), .int (f 11), .ref (b + 226), .int (f 13), .int (f 14), .int (f 15), .int (f 16), .ref (b + 227), .int (f 18), .ref (b + 228), .ref (b + 229), .ref (b + 230), .ref (b + 231), .ref (b + 232), .ref (b + 233), .ref (b + 234), .ref (b + 235), .ref (b + 236), .ref (b + 237), .ref (b + 238), .ref (b + 239), .ref (b + 240), .ref (b + 241), .ref (b + 242), .ref (b + 243), .ref (b + 244), .ref (b + 245), .ref (b + 246), .ref (b + 247), .ref (b + 248), .ref (b + 249), .ref (b + 250), .ref (b + 251), .ref (b + 252), .ref (b + 253), .ref (b + 254), .ref (b + 255), .ref (b + 256), .ref (b + 257), .ref (b + 258), .ref (b + 259), .ref (b + 260), .ref (b + 261), .ref (b + 262), .ref (b + 263), .ref (b + 264), .ref (b + 265), .ref (b + 266), .ref (b + 267), .ref (b + 268), .ref (b + 269), .ref (b + 270), .ref (b + 271), .ref (b + 272), .ref (b + 273), .ref (b + 274), .ref (b + 275), .ref (b + 276), .int (f 68), .int (f 69), .ref (b + 277), .ref (b + 278)]) (fun _ => Nat.le_of_ble_eq_true rfl) (fun _ _ => rfl) hdg hp h kk
def rm_Mo_draft : Room := { frames := 0, cells := 0, slots := 0, locals := 0 }
def pb_Mo_draft_22  (K : Int32 → pj_M → Prop) (u : pj_M)  : Prop := K 0 u
set_option maxHeartbeats 1000000 in
theorem pt_Mo_draft_22 {g : pj_G} {b : Nat} (C : pj_X g c_Mo_draft 5 R_Mo (some .boolean) rm_Mo_draft) {K : Int32 → pj_M → Prop} (hE : pj_E g b (pj_Ki K))   {u : pj_M}    (h : pb_Mo_draft_22  K u ) : pj_J g (pj_N g b u) 22 [none, none, none, none, none] [] := by
  unfold pb_Mo_draft_22 at h
  refine pj_iconst C d_Mo_draft_22 (pc' := 23) rfl (v := 0) (by decide) ?_
  exact pj_zret C hE d_Mo_draft_23 pj_bi0 ⟨_, rfl, h⟩
def pb_Mo_draft_63  (K : Int32 → pj_M → Prop) (u : pj_M) (x3 : Int32) : Prop := pj_put u 217 9 ((u 217 9) + x3) fun u1 => (K 1 u1)
set_option maxHeartbeats 1000000 in
theorem pt_Mo_draft_63 {g : pj_G} {b : Nat} (C : pj_X g c_Mo_draft 5 R_Mo (some .boolean) rm_Mo_draft) {K : Int32 → pj_M → Prop} (hE : pj_E g b (pj_Ki K))   {u : pj_M} {x3 : Int32}   (h : pb_Mo_draft_63  K u x3) : pj_J g (pj_N g b u) 63 [some (.ref (b + 217)), none, none, some (.int x3), none] [] := by
  unfold pb_Mo_draft_63 at h
  refine pj_aload_n C d_Mo_draft_63 (pc' := 64) (i := 0) (x := b + 217) rfl rfl rfl ?_
  refine pj_dup C d_Mo_draft_64 (pc' := 65) rfl rfl ?_
  refine fg_Model_396_Model C tk_217 d_Mo_draft_65 (pc' := 68) rfl ?_
  refine pj_iload_n C d_Mo_draft_68 (pc' := 69) (i := 3) (x := x3) rfl rfl rfl ?_
  refine pj_iadd C d_Mo_draft_69 (pc' := 70) rfl ?_
  refine fp_Model_396_Model C tk_217  d_Mo_draft_70 (pc' := 73) rfl h (fun u1 h => ?_)
  refine pj_iconst C d_Mo_draft_73 (pc' := 74) rfl (v := 1) (by decide) ?_
  exact pj_zret C hE d_Mo_draft_74 pj_bi1 ⟨_, rfl, h⟩
def pb_Mo_draft_33 (R27 : pj_M → Int32 → Prop) (K : Int32 → pj_M → Prop) (u : pj_M) (x1 : Int64) (x3 : Int32) (x4 : Int32) : Prop := vp_in ((u 217 9) + x4) 48 ∧ pj_put u 225 ((u 217 9) + x4).toNatClampNeg ((((x1.toUInt64 >>> ((8 * x4).toInt64.toUInt64 &&& Int64.toUInt64 63)).toInt64) &&& 255).toInt32) fun u1 => (R27 u1 (x4 + 1))
set_option maxHeartbeats 1000000 in
theorem pt_Mo_draft_33 {g : pj_G} {b : Nat} (C : pj_X g c_Mo_draft 5 R_Mo (some .boolean) rm_Mo_draft) {K : Int32 → pj_M → Prop} (hE : pj_E g b (pj_Ki K)) {R27 : pj_M → Int32 → Prop}  {u : pj_M} {x1 : Int64} {x3 : Int32} {x4 : Int32} (hR27 : ∀ (u : pj_M) (x4 : Int32), R27 u x4 → pj_J g (pj_N g b u) 27 [some (.ref (b + 217)), some (.long x1), none, some (.int x3), some (.int x4)] [])  (h : pb_Mo_draft_33 R27 K u x1 x3 x4) : pj_J g (pj_N g b u) 33 [some (.ref (b + 217)), some (.long x1), none, some (.int x3), some (.int x4)] [] := by
  unfold pb_Mo_draft_33 at h
  refine pj_aload_n C d_Mo_draft_33 (pc' := 34) (i := 0) (x := b + 217) rfl rfl rfl ?_
  refine fg_Model_32_Model C tk_217 d_Mo_draft_34 (pc' := 37) rfl ?_
  refine pj_aload_n C d_Mo_draft_37 (pc' := 38) (i := 0) (x := b + 217) rfl rfl rfl ?_
  refine fg_Model_396_Model C tk_217 d_Mo_draft_38 (pc' := 41) rfl ?_
  refine pj_iload C d_Mo_draft_41 (pc' := 43) (i := 4) (x := x4) rfl rfl ?_
  refine pj_iadd C d_Mo_draft_43 (pc' := 44) rfl ?_
  refine pj_lload_n C d_Mo_draft_44 (pc' := 45) (i := 1) (x := x1) rfl rfl rfl ?_
  refine pj_bipush C d_Mo_draft_45 (pc' := 47) rfl (v := 8) (by decide) ?_
  refine pj_iload C d_Mo_draft_47 (pc' := 49) (i := 4) (x := x4) rfl rfl ?_
  refine pj_imul C d_Mo_draft_49 (pc' := 50) rfl ?_
  refine pj_lushr C d_Mo_draft_50 (pc' := 51) rfl ?_
  refine pj_ldc2 C d_Mo_draft_51 (pc' := 54) rfl (v := 255) wm_1589 ?_
  refine pj_land C d_Mo_draft_54 (pc' := 55) rfl ?_
  refine pj_l2i C d_Mo_draft_55 (pc' := 56) rfl ?_
  refine pj_iast C (pj_lt tk_225 (by decide)) (fun E u => ka_22 tk_225) d_Mo_draft_56 (pc' := 57) rfl h (fun u1 h => ?_)
  refine pj_iinc C d_Mo_draft_57 (pc' := 60) (x := x4) (d := 1) (vs' := [some (.ref (b + 217)), some (.long x1), none, some (.int x3), some (.int (x4 + 1))]) rfl rfl (Nat.le_of_ble_eq_true rfl) rfl (by decide) rfl ?_
  refine pj_goto C d_Mo_draft_60 (tgt := 27) (by decide) ?_
  exact pj_cut (pj_le_s (pj_le_s (pj_le_n (pj_le_s (pj_le_s pj_le_e))))) (hR27 _ _ h)
def pb_Mo_draft_27b (R27 : pj_M → Int32 → Prop) (K : Int32 → pj_M → Prop) (u : pj_M) (x1 : Int64) (x3 : Int32) (x4 : Int32) : Prop := ((x3 ≤ x4) → (pb_Mo_draft_63  K u x3)) ∧ (¬ (x3 ≤ x4) → (pb_Mo_draft_33 R27 K u x1 x3 x4))
set_option maxHeartbeats 1000000 in
theorem pt_Mo_draft_27b {g : pj_G} {b : Nat} (C : pj_X g c_Mo_draft 5 R_Mo (some .boolean) rm_Mo_draft) {K : Int32 → pj_M → Prop} (hE : pj_E g b (pj_Ki K)) {R27 : pj_M → Int32 → Prop}  {u : pj_M} {x1 : Int64} {x3 : Int32} {x4 : Int32} (hR27 : ∀ (u : pj_M) (x4 : Int32), R27 u x4 → pj_J g (pj_N g b u) 27 [some (.ref (b + 217)), some (.long x1), none, some (.int x3), some (.int x4)] [])  (h : pb_Mo_draft_27b R27 K u x1 x3 x4) : pj_J g (pj_N g b u) 27 [some (.ref (b + 217)), some (.long x1), none, some (.int x3), some (.int x4)] [] := by
  unfold pb_Mo_draft_27b at h
  refine pj_iload C d_Mo_draft_27 (pc' := 29) (i := 4) (x := x4) rfl rfl ?_
  refine pj_iload_n C d_Mo_draft_29 (pc' := 30) (i := 3) (x := x3) rfl rfl rfl ?_
  refine pj_icmp_ge C d_Mo_draft_30 (pc' := 33) rfl (tgt := 63) (by decide) h (fun h => ?_) (fun h => ?_)
  · exact pj_cut (pj_le_s (pj_le_n (pj_le_n (pj_le_s (pj_le_n pj_le_e))))) (pt_Mo_draft_63 C hE   h)
  · exact pj_cut (pj_le_s (pj_le_s (pj_le_n (pj_le_s (pj_le_s pj_le_e))))) (pt_Mo_draft_33 C hE hR27  h)
def pb_Mo_draft_27  (K : Int32 → pj_M → Prop) (x1 : Int64) (x3 : Int32) : Nat → pj_M → Int32 → Prop
  | 0 => fun _ _ => False
  | n + 1 => fun u x4 => pb_Mo_draft_27b (pb_Mo_draft_27  K x1 x3 n) K u x1 x3 x4
theorem pt_Mo_draft_27 {g : pj_G} {b : Nat} (C : pj_X g c_Mo_draft 5 R_Mo (some .boolean) rm_Mo_draft) {K : Int32 → pj_M → Prop} (hE : pj_E g b (pj_Ki K))  {x1 : Int64} {x3 : Int32}   : ∀ (n : Nat) (u : pj_M) (x4 : Int32), pb_Mo_draft_27  K x1 x3 n u x4 → pj_J g (pj_N g b u) 27 [some (.ref (b + 217)), some (.long x1), none, some (.int x3), some (.int x4)] [] := by
  intro n
  induction n with
  | zero => intro u x4 h; exact False.elim h
  | succ n ih =>
    intro u x4 h
    exact (pt_Mo_draft_27b C hE ih  h)
def pb_Mo_draft_24  (K : Int32 → pj_M → Prop) (u : pj_M) (x1 : Int64) (x3 : Int32) : Prop := ∃ n, pb_Mo_draft_27  K x1 x3 n u 0
set_option maxHeartbeats 1000000 in
theorem pt_Mo_draft_24 {g : pj_G} {b : Nat} (C : pj_X g c_Mo_draft 5 R_Mo (some .boolean) rm_Mo_draft) {K : Int32 → pj_M → Prop} (hE : pj_E g b (pj_Ki K))   {u : pj_M} {x1 : Int64} {x3 : Int32}   (h : pb_Mo_draft_24  K u x1 x3) : pj_J g (pj_N g b u) 24 [some (.ref (b + 217)), some (.long x1), none, some (.int x3), none] [] := by
  unfold pb_Mo_draft_24 at h
  refine pj_iconst C d_Mo_draft_24 (pc' := 25) rfl (v := 0) (by decide) ?_
  refine pj_istore C d_Mo_draft_25 (pc' := 27) (i := 4) (vs' := [some (.ref (b + 217)), some (.long x1), none, some (.int x3), some (.int 0)]) rfl (Nat.le_of_ble_eq_true rfl) (Nat.le_of_ble_eq_true rfl) rfl rfl ?_
  obtain ⟨n, h⟩ := h
  exact pj_cut (pj_le_s (pj_le_s (pj_le_n (pj_le_s (pj_le_s pj_le_e))))) (pt_Mo_draft_27 C hE   n _ _ h)
def pb_Mo_draft_11  (K : Int32 → pj_M → Prop) (u : pj_M) (x1 : Int64) (x3 : Int32) : Prop := ((((u 217 9) + x3) ≤ 48) → (pb_Mo_draft_24  K u x1 x3)) ∧ (¬ (((u 217 9) + x3) ≤ 48) → (pb_Mo_draft_22  K u ))
set_option maxHeartbeats 1000000 in
theorem pt_Mo_draft_11 {g : pj_G} {b : Nat} (C : pj_X g c_Mo_draft 5 R_Mo (some .boolean) rm_Mo_draft) {K : Int32 → pj_M → Prop} (hE : pj_E g b (pj_Ki K))   {u : pj_M} {x1 : Int64} {x3 : Int32}   (h : pb_Mo_draft_11  K u x1 x3) : pj_J g (pj_N g b u) 11 [some (.ref (b + 217)), some (.long x1), none, some (.int x3), none] [] := by
  unfold pb_Mo_draft_11 at h
  refine pj_aload_n C d_Mo_draft_11 (pc' := 12) (i := 0) (x := b + 217) rfl rfl rfl ?_
  refine fg_Model_396_Model C tk_217 d_Mo_draft_12 (pc' := 15) rfl ?_
  refine pj_iload_n C d_Mo_draft_15 (pc' := 16) (i := 3) (x := x3) rfl rfl rfl ?_
  refine pj_iadd C d_Mo_draft_16 (pc' := 17) rfl ?_
  refine pj_bipush C d_Mo_draft_17 (pc' := 19) rfl (v := 48) (by decide) ?_
  refine pj_icmp_le C d_Mo_draft_19 (pc' := 22) rfl (tgt := 24) (by decide) h (fun h => ?_) (fun h => ?_)
  · exact pj_cut (pj_le_s (pj_le_s (pj_le_n (pj_le_s (pj_le_n pj_le_e))))) (pt_Mo_draft_24 C hE   h)
  · exact pj_cut (pj_le_n (pj_le_n (pj_le_n (pj_le_n (pj_le_n pj_le_e))))) (pt_Mo_draft_22 C hE   h)
def pb_Mo_draft_5  (K : Int32 → pj_M → Prop) (u : pj_M) (x1 : Int64) (x3 : Int32) : Prop := ((8 < x3) → (pb_Mo_draft_22  K u )) ∧ (¬ (8 < x3) → (pb_Mo_draft_11  K u x1 x3))
set_option maxHeartbeats 1000000 in
theorem pt_Mo_draft_5 {g : pj_G} {b : Nat} (C : pj_X g c_Mo_draft 5 R_Mo (some .boolean) rm_Mo_draft) {K : Int32 → pj_M → Prop} (hE : pj_E g b (pj_Ki K))   {u : pj_M} {x1 : Int64} {x3 : Int32}   (h : pb_Mo_draft_5  K u x1 x3) : pj_J g (pj_N g b u) 5 [some (.ref (b + 217)), some (.long x1), none, some (.int x3), none] [] := by
  unfold pb_Mo_draft_5 at h
  refine pj_iload_n C d_Mo_draft_5 (pc' := 6) (i := 3) (x := x3) rfl rfl rfl ?_
  refine pj_bipush C d_Mo_draft_6 (pc' := 8) rfl (v := 8) (by decide) ?_
  refine pj_icmp_gt C d_Mo_draft_8 (pc' := 11) rfl (tgt := 22) (by decide) h (fun h => ?_) (fun h => ?_)
  · exact pj_cut (pj_le_n (pj_le_n (pj_le_n (pj_le_n (pj_le_n pj_le_e))))) (pt_Mo_draft_22 C hE   h)
  · exact pj_cut (pj_le_s (pj_le_s (pj_le_n (pj_le_s (pj_le_n pj_le_e))))) (pt_Mo_draft_11 C hE   h)
def pb_Mo_draft_0  (K : Int32 → pj_M → Prop) (u : pj_M) (x1 : Int64) (x3 : Int32) : Prop := ((x3 < 1) → (pb_Mo_draft_22  K u )) ∧ (¬ (x3 < 1) → (pb_Mo_draft_5  K u x1 x3))
set_option maxHeartbeats 1000000 in
theorem pt_Mo_draft_0 {g : pj_G} {b : Nat} (C : pj_X g c_Mo_draft 5 R_Mo (some .boolean) rm_Mo_draft) {K : Int32 → pj_M → Prop} (hE : pj_E g b (pj_Ki K))   {u : pj_M} {x1 : Int64} {x3 : Int32}   (h : pb_Mo_draft_0  K u x1 x3) : pj_J g (pj_N g b u) 0 [some (.ref (b + 217)), some (.long x1), none, some (.int x3), none] [] := by
  unfold pb_Mo_draft_0 at h
  refine pj_iload_n C d_Mo_draft_0 (pc' := 1) (i := 3) (x := x3) rfl rfl rfl ?_
  refine pj_iconst C d_Mo_draft_1 (pc' := 2) rfl (v := 1) (by decide) ?_
  refine pj_icmp_lt C d_Mo_draft_2 (pc' := 5) rfl (tgt := 22) (by decide) h (fun h => ?_) (fun h => ?_)
  · exact pj_cut (pj_le_n (pj_le_n (pj_le_n (pj_le_n (pj_le_n pj_le_e))))) (pt_Mo_draft_22 C hE   h)
  · exact pj_cut (pj_le_s (pj_le_s (pj_le_n (pj_le_s (pj_le_n pj_le_e))))) (pt_Mo_draft_5 C hE   h)
def pw_Mo_draft (u : pj_M) (x1 : Int64) (x3 : Int32) (K : Int32 → pj_M → Prop) : Prop := pb_Mo_draft_0  K u x1 x3
theorem pc_Mo_draft (l : Launch) (D : va_G) (E : Nat → ClassId) {b : Nat} {u : pj_M} {x1 : Int64} {x3 : Int32} {K : Int32 → pj_M → Prop}  (h : pw_Mo_draft u x1 x3 K) : pj_C l y_Mo_draft c_Mo_draft 5 (some .boolean) rm_Mo_draft D E b [.ref (b + 217), .long x1, .int x3] u (pj_Ki K) := by
  refine pj_met (own := R_Mo) (by decide +kernel) rfl (Nat.le_of_ble_eq_true rfl) (fun g hE C => ?_)
  unfold pw_Mo_draft at h
  show pj_J g (pj_N g b u) 0 [some (.ref (b + 217)), some (.long x1), none, some (.int x3), none] []
  exact pj_cut (pj_le_s (pj_le_s (pj_le_n (pj_le_s (pj_le_n pj_le_e))))) (pt_Mo_draft_0 C hE   h)
/-! Model.forge(II)Z -/
def rm_Mo_forge : Room := { frames := 1, cells := 0, slots := 0, locals := 23 }
def pb_Mo_forge_34  (K : Int32 → pj_M → Prop) (u : pj_M)  : Prop := K 0 u
set_option maxHeartbeats 1000000 in
theorem pt_Mo_forge_34 {g : pj_G} {b : Nat} (C : pj_X g c_Mo_forge 4 R_Mo (some .boolean) rm_Mo_forge) {K : Int32 → pj_M → Prop} (hE : pj_E g b (pj_Ki K))   {u : pj_M}    (h : pb_Mo_forge_34  K u ) : pj_J g (pj_N g b u) 34 [none, none, none, none] [] := by
  unfold pb_Mo_forge_34 at h
  refine pj_iconst C d_Mo_forge_34 (pc' := 35) rfl (v := 0) (by decide) ?_
  exact pj_zret C hE d_Mo_forge_35 pj_bi0 ⟨_, rfl, h⟩
def pb_Mo_forge_72  (K : Int32 → pj_M → Prop) (u : pj_M) (x1 : Int32) (x2 : Int32) : Prop := pj_put u 217 9 0 fun u1 => (pw_Mo_send u1 x1 x2 fun u2 => (K 1 u2))
set_option maxHeartbeats 1000000 in
theorem pt_Mo_forge_72 {g : pj_G} {b : Nat} (C : pj_X g c_Mo_forge 4 R_Mo (some .boolean) rm_Mo_forge) {K : Int32 → pj_M → Prop} (hE : pj_E g b (pj_Ki K))   {u : pj_M} {x1 : Int32} {x2 : Int32}   (h : pb_Mo_forge_72  K u x1 x2) : pj_J g (pj_N g b u) 72 [some (.ref (b + 217)), some (.int x1), some (.int x2), none] [] := by
  unfold pb_Mo_forge_72 at h
  refine pj_aload_n C d_Mo_forge_72 (pc' := 73) (i := 0) (x := b + 217) rfl rfl rfl ?_
  refine pj_iconst C d_Mo_forge_73 (pc' := 74) rfl (v := 0) (by decide) ?_
  refine fp_Model_396_Model C tk_217  d_Mo_forge_74 (pc' := 77) rfl h (fun u1 h => ?_)
  refine pj_aload_n C d_Mo_forge_77 (pc' := 78) (i := 0) (x := b + 217) rfl rfl rfl ?_
  refine pj_iload_n C d_Mo_forge_78 (pc' := 79) (i := 1) (x := x1) rfl rfl rfl ?_
  refine pj_iload_n C d_Mo_forge_79 (pc' := 80) (i := 2) (x := x2) rfl rfl rfl ?_
  refine ck_Model_242_Model C  h d_Mo_forge_80 (pc' := 83) rfl ⟨Nat.le_of_ble_eq_true rfl, Nat.le_of_ble_eq_true rfl⟩ (Nat.le_of_ble_eq_true rfl) (fun u2 h => ?_)
  refine pj_iconst C d_Mo_forge_83 (pc' := 84) rfl (v := 1) (by decide) ?_
  exact pj_zret C hE d_Mo_forge_84 pj_bi1 ⟨_, rfl, h⟩
def pb_Mo_forge_54 (R46 : pj_M → Int32 → Prop) (K : Int32 → pj_M → Prop) (u : pj_M) (x1 : Int32) (x2 : Int32) (x3 : Int32) : Prop := vp_in x3 48 ∧ (vp_in x3 48 ∧ pj_put u 226 x3.toNatClampNeg (u 225 x3.toNatClampNeg) fun u1 => (R46 u1 (x3 + 1)))
set_option maxHeartbeats 1000000 in
theorem pt_Mo_forge_54 {g : pj_G} {b : Nat} (C : pj_X g c_Mo_forge 4 R_Mo (some .boolean) rm_Mo_forge) {K : Int32 → pj_M → Prop} (hE : pj_E g b (pj_Ki K)) {R46 : pj_M → Int32 → Prop}  {u : pj_M} {x1 : Int32} {x2 : Int32} {x3 : Int32} (hR46 : ∀ (u : pj_M) (x3 : Int32), R46 u x3 → pj_J g (pj_N g b u) 46 [some (.ref (b + 217)), some (.int x1), some (.int x2), some (.int x3)] [])  (h : pb_Mo_forge_54 R46 K u x1 x2 x3) : pj_J g (pj_N g b u) 54 [some (.ref (b + 217)), some (.int x1), some (.int x2), some (.int x3)] [] := by
  unfold pb_Mo_forge_54 at h
  refine pj_aload_n C d_Mo_forge_54 (pc' := 55) (i := 0) (x := b + 217) rfl rfl rfl ?_
  refine fg_Model_35_Model C tk_217 d_Mo_forge_55 (pc' := 58) rfl ?_
  refine pj_iload_n C d_Mo_forge_58 (pc' := 59) (i := 3) (x := x3) rfl rfl rfl ?_
  refine pj_aload_n C d_Mo_forge_59 (pc' := 60) (i := 0) (x := b + 217) rfl rfl rfl ?_
  refine fg_Model_32_Model C tk_217 d_Mo_forge_60 (pc' := 63) rfl ?_
  refine pj_iload_n C d_Mo_forge_63 (pc' := 64) (i := 3) (x := x3) rfl rfl rfl ?_
  refine pj_iald C (pj_lt tk_225 (by decide)) (fun E u => ka_22 tk_225) d_Mo_forge_64 (pc' := 65) rfl h (fun h => ?_)
  refine pj_iast C (pj_lt tk_226 (by decide)) (fun E u => ka_22 tk_226) d_Mo_forge_65 (pc' := 66) rfl h (fun u1 h => ?_)
  refine pj_iinc C d_Mo_forge_66 (pc' := 69) (x := x3) (d := 1) (vs' := [some (.ref (b + 217)), some (.int x1), some (.int x2), some (.int (x3 + 1))]) rfl rfl (Nat.le_of_ble_eq_true rfl) rfl (by decide) rfl ?_
  refine pj_goto C d_Mo_forge_69 (tgt := 46) (by decide) ?_
  exact pj_cut (pj_le_s (pj_le_s (pj_le_s (pj_le_s pj_le_e)))) (hR46 _ _ h)
def pb_Mo_forge_46b (R46 : pj_M → Int32 → Prop) (K : Int32 → pj_M → Prop) (u : pj_M) (x1 : Int32) (x2 : Int32) (x3 : Int32) : Prop := (((u 217 9) ≤ x3) → (pb_Mo_forge_72  K u x1 x2)) ∧ (¬ ((u 217 9) ≤ x3) → (pb_Mo_forge_54 R46 K u x1 x2 x3))
set_option maxHeartbeats 1000000 in
theorem pt_Mo_forge_46b {g : pj_G} {b : Nat} (C : pj_X g c_Mo_forge 4 R_Mo (some .boolean) rm_Mo_forge) {K : Int32 → pj_M → Prop} (hE : pj_E g b (pj_Ki K)) {R46 : pj_M → Int32 → Prop}  {u : pj_M} {x1 : Int32} {x2 : Int32} {x3 : Int32} (hR46 : ∀ (u : pj_M) (x3 : Int32), R46 u x3 → pj_J g (pj_N g b u) 46 [some (.ref (b + 217)), some (.int x1), some (.int x2), some (.int x3)] [])  (h : pb_Mo_forge_46b R46 K u x1 x2 x3) : pj_J g (pj_N g b u) 46 [some (.ref (b + 217)), some (.int x1), some (.int x2), some (.int x3)] [] := by
  unfold pb_Mo_forge_46b at h
  refine pj_iload_n C d_Mo_forge_46 (pc' := 47) (i := 3) (x := x3) rfl rfl rfl ?_
  refine pj_aload_n C d_Mo_forge_47 (pc' := 48) (i := 0) (x := b + 217) rfl rfl rfl ?_
  refine fg_Model_396_Model C tk_217 d_Mo_forge_48 (pc' := 51) rfl ?_
  refine pj_icmp_ge C d_Mo_forge_51 (pc' := 54) rfl (tgt := 72) (by decide) h (fun h => ?_) (fun h => ?_)
  · exact pj_cut (pj_le_s (pj_le_s (pj_le_s (pj_le_n pj_le_e)))) (pt_Mo_forge_72 C hE   h)
  · exact pj_cut (pj_le_s (pj_le_s (pj_le_s (pj_le_s pj_le_e)))) (pt_Mo_forge_54 C hE hR46  h)
def pb_Mo_forge_46  (K : Int32 → pj_M → Prop) (x1 : Int32) (x2 : Int32) : Nat → pj_M → Int32 → Prop
  | 0 => fun _ _ => False
  | n + 1 => fun u x3 => pb_Mo_forge_46b (pb_Mo_forge_46  K x1 x2 n) K u x1 x2 x3
theorem pt_Mo_forge_46 {g : pj_G} {b : Nat} (C : pj_X g c_Mo_forge 4 R_Mo (some .boolean) rm_Mo_forge) {K : Int32 → pj_M → Prop} (hE : pj_E g b (pj_Ki K))  {x1 : Int32} {x2 : Int32}   : ∀ (n : Nat) (u : pj_M) (x3 : Int32), pb_Mo_forge_46  K x1 x2 n u x3 → pj_J g (pj_N g b u) 46 [some (.ref (b + 217)), some (.int x1), some (.int x2), some (.int x3)] [] := by
  intro n
  induction n with
  | zero => intro u x3 h; exact False.elim h
  | succ n ih =>
    intro u x3 h
    exact (pt_Mo_forge_46b C hE ih  h)
def pb_Mo_forge_36  (K : Int32 → pj_M → Prop) (u : pj_M) (x1 : Int32) (x2 : Int32) : Prop := pj_put u 217 11 (u 217 9) fun u1 => (∃ n, pb_Mo_forge_46  K x1 x2 n u1 0)
set_option maxHeartbeats 1000000 in
theorem pt_Mo_forge_36 {g : pj_G} {b : Nat} (C : pj_X g c_Mo_forge 4 R_Mo (some .boolean) rm_Mo_forge) {K : Int32 → pj_M → Prop} (hE : pj_E g b (pj_Ki K))   {u : pj_M} {x1 : Int32} {x2 : Int32}   (h : pb_Mo_forge_36  K u x1 x2) : pj_J g (pj_N g b u) 36 [some (.ref (b + 217)), some (.int x1), some (.int x2), none] [] := by
  unfold pb_Mo_forge_36 at h
  refine pj_aload_n C d_Mo_forge_36 (pc' := 37) (i := 0) (x := b + 217) rfl rfl rfl ?_
  refine pj_aload_n C d_Mo_forge_37 (pc' := 38) (i := 0) (x := b + 217) rfl rfl rfl ?_
  refine fg_Model_396_Model C tk_217 d_Mo_forge_38 (pc' := 41) rfl ?_
  refine fp_Model_221_Model C tk_217  d_Mo_forge_41 (pc' := 44) rfl h (fun u1 h => ?_)
  refine pj_iconst C d_Mo_forge_44 (pc' := 45) rfl (v := 0) (by decide) ?_
  refine pj_istore_n C d_Mo_forge_45 (pc' := 46) (i := 3) (vs' := [some (.ref (b + 217)), some (.int x1), some (.int x2), some (.int 0)]) rfl rfl (Nat.le_of_ble_eq_true rfl) (Nat.le_of_ble_eq_true rfl) rfl rfl ?_
  obtain ⟨n, h⟩ := h
  exact pj_cut (pj_le_s (pj_le_s (pj_le_s (pj_le_s pj_le_e)))) (pt_Mo_forge_46 C hE   n _ _ h)
def pb_Mo_forge_27  (K : Int32 → pj_M → Prop) (u : pj_M) (x1 : Int32) (x2 : Int32) : Prop := (((u 217 9) = 0) → (pb_Mo_forge_34  K u )) ∧ (¬ ((u 217 9) = 0) → (pb_Mo_forge_36  K u x1 x2))
set_option maxHeartbeats 1000000 in
theorem pt_Mo_forge_27 {g : pj_G} {b : Nat} (C : pj_X g c_Mo_forge 4 R_Mo (some .boolean) rm_Mo_forge) {K : Int32 → pj_M → Prop} (hE : pj_E g b (pj_Ki K))   {u : pj_M} {x1 : Int32} {x2 : Int32}   (h : pb_Mo_forge_27  K u x1 x2) : pj_J g (pj_N g b u) 27 [some (.ref (b + 217)), some (.int x1), some (.int x2), none] [] := by
  unfold pb_Mo_forge_27 at h
  refine pj_aload_n C d_Mo_forge_27 (pc' := 28) (i := 0) (x := b + 217) rfl rfl rfl ?_
  refine fg_Model_396_Model C tk_217 d_Mo_forge_28 (pc' := 31) rfl ?_
  refine pj_if_ne C d_Mo_forge_31 (pc' := 34) rfl (tgt := 36) (by decide) h (fun h => ?_) (fun h => ?_)
  · exact pj_cut (pj_le_s (pj_le_s (pj_le_s (pj_le_n pj_le_e)))) (pt_Mo_forge_36 C hE   h)
  · exact pj_cut (pj_le_n (pj_le_n (pj_le_n (pj_le_n pj_le_e)))) (pt_Mo_forge_34 C hE   h)
def pb_Mo_forge_24  (K : Int32 → pj_M → Prop) (u : pj_M) (x1 : Int32) (x2 : Int32) (s0 : Int32) (s1 : Int32) : Prop := ((s0 < s1) → (pb_Mo_forge_34  K u )) ∧ (¬ (s0 < s1) → (pb_Mo_forge_27  K u x1 x2))
set_option maxHeartbeats 1000000 in
theorem pt_Mo_forge_24 {g : pj_G} {b : Nat} (C : pj_X g c_Mo_forge 4 R_Mo (some .boolean) rm_Mo_forge) {K : Int32 → pj_M → Prop} (hE : pj_E g b (pj_Ki K))   {u : pj_M} {x1 : Int32} {x2 : Int32} {s0 : Int32} {s1 : Int32}   (h : pb_Mo_forge_24  K u x1 x2 s0 s1) : pj_J g (pj_N g b u) 24 [some (.ref (b + 217)), some (.int x1), some (.int x2), none] [.int s0, .int s1] := by
  unfold pb_Mo_forge_24 at h
  refine pj_icmp_gt C d_Mo_forge_24 (pc' := 27) rfl (tgt := 34) (by decide) h (fun h => ?_) (fun h => ?_)
  · exact pj_cut (pj_le_n (pj_le_n (pj_le_n (pj_le_n pj_le_e)))) (pt_Mo_forge_34 C hE   h)
  · exact pj_cut (pj_le_s (pj_le_s (pj_le_s (pj_le_n pj_le_e)))) (pt_Mo_forge_27 C hE   h)
def pb_Mo_forge_23  (K : Int32 → pj_M → Prop) (u : pj_M) (x1 : Int32) (x2 : Int32) (s0 : Int32) : Prop := pb_Mo_forge_24  K u x1 x2 1 s0
set_option maxHeartbeats 1000000 in
theorem pt_Mo_forge_23 {g : pj_G} {b : Nat} (C : pj_X g c_Mo_forge 4 R_Mo (some .boolean) rm_Mo_forge) {K : Int32 → pj_M → Prop} (hE : pj_E g b (pj_Ki K))   {u : pj_M} {x1 : Int32} {x2 : Int32} {s0 : Int32}   (h : pb_Mo_forge_23  K u x1 x2 s0) : pj_J g (pj_N g b u) 23 [some (.ref (b + 217)), some (.int x1), some (.int x2), none] [.int s0] := by
  unfold pb_Mo_forge_23 at h
  refine pj_iconst C d_Mo_forge_23 (pc' := 24) rfl (v := 1) (by decide) ?_
  exact pj_cut (pj_le_s (pj_le_s (pj_le_s (pj_le_n pj_le_e)))) (pt_Mo_forge_24 C hE   h)
def pb_Mo_forge_19  (K : Int32 → pj_M → Prop) (u : pj_M) (x1 : Int32) (x2 : Int32) (s0 : Int32) : Prop := pb_Mo_forge_24  K u x1 x2 3 s0
set_option maxHeartbeats 1000000 in
theorem pt_Mo_forge_19 {g : pj_G} {b : Nat} (C : pj_X g c_Mo_forge 4 R_Mo (some .boolean) rm_Mo_forge) {K : Int32 → pj_M → Prop} (hE : pj_E g b (pj_Ki K))   {u : pj_M} {x1 : Int32} {x2 : Int32} {s0 : Int32}   (h : pb_Mo_forge_19  K u x1 x2 s0) : pj_J g (pj_N g b u) 19 [some (.ref (b + 217)), some (.int x1), some (.int x2), none] [.int s0] := by
  unfold pb_Mo_forge_19 at h
  refine pj_iconst C d_Mo_forge_19 (pc' := 20) rfl (v := 3) (by decide) ?_
  refine pj_goto C d_Mo_forge_20 (tgt := 24) (by decide) ?_
  exact pj_cut (pj_le_s (pj_le_s (pj_le_s (pj_le_n pj_le_e)))) (pt_Mo_forge_24 C hE   h)
def pb_Mo_forge_13  (K : Int32 → pj_M → Prop) (u : pj_M) (x1 : Int32) (x2 : Int32) : Prop := ((2 ≤ x1) → (pb_Mo_forge_23  K u x1 x2 x2)) ∧ (¬ (2 ≤ x1) → (pb_Mo_forge_19  K u x1 x2 x2))
set_option maxHeartbeats 1000000 in
theorem pt_Mo_forge_13 {g : pj_G} {b : Nat} (C : pj_X g c_Mo_forge 4 R_Mo (some .boolean) rm_Mo_forge) {K : Int32 → pj_M → Prop} (hE : pj_E g b (pj_Ki K))   {u : pj_M} {x1 : Int32} {x2 : Int32}   (h : pb_Mo_forge_13  K u x1 x2) : pj_J g (pj_N g b u) 13 [some (.ref (b + 217)), some (.int x1), some (.int x2), none] [] := by
  unfold pb_Mo_forge_13 at h
  refine pj_iload_n C d_Mo_forge_13 (pc' := 14) (i := 2) (x := x2) rfl rfl rfl ?_
  refine pj_iload_n C d_Mo_forge_14 (pc' := 15) (i := 1) (x := x1) rfl rfl rfl ?_
  refine pj_iconst C d_Mo_forge_15 (pc' := 16) rfl (v := 2) (by decide) ?_
  refine pj_icmp_ge C d_Mo_forge_16 (pc' := 19) rfl (tgt := 23) (by decide) h (fun h => ?_) (fun h => ?_)
  · exact pj_cut (pj_le_s (pj_le_s (pj_le_s (pj_le_n pj_le_e)))) (pt_Mo_forge_23 C hE   h)
  · exact pj_cut (pj_le_s (pj_le_s (pj_le_s (pj_le_n pj_le_e)))) (pt_Mo_forge_19 C hE   h)
def pb_Mo_forge_9  (K : Int32 → pj_M → Prop) (u : pj_M) (x1 : Int32) (x2 : Int32) : Prop := ((x2 < 0) → (pb_Mo_forge_34  K u )) ∧ (¬ (x2 < 0) → (pb_Mo_forge_13  K u x1 x2))
set_option maxHeartbeats 1000000 in
theorem pt_Mo_forge_9 {g : pj_G} {b : Nat} (C : pj_X g c_Mo_forge 4 R_Mo (some .boolean) rm_Mo_forge) {K : Int32 → pj_M → Prop} (hE : pj_E g b (pj_Ki K))   {u : pj_M} {x1 : Int32} {x2 : Int32}   (h : pb_Mo_forge_9  K u x1 x2) : pj_J g (pj_N g b u) 9 [some (.ref (b + 217)), some (.int x1), some (.int x2), none] [] := by
  unfold pb_Mo_forge_9 at h
  refine pj_iload_n C d_Mo_forge_9 (pc' := 10) (i := 2) (x := x2) rfl rfl rfl ?_
  refine pj_if_lt C d_Mo_forge_10 (pc' := 13) rfl (tgt := 34) (by decide) h (fun h => ?_) (fun h => ?_)
  · exact pj_cut (pj_le_n (pj_le_n (pj_le_n (pj_le_n pj_le_e)))) (pt_Mo_forge_34 C hE   h)
  · exact pj_cut (pj_le_s (pj_le_s (pj_le_s (pj_le_n pj_le_e)))) (pt_Mo_forge_13 C hE   h)
def pb_Mo_forge_4  (K : Int32 → pj_M → Prop) (u : pj_M) (x1 : Int32) (x2 : Int32) : Prop := ((3 < x1) → (pb_Mo_forge_34  K u )) ∧ (¬ (3 < x1) → (pb_Mo_forge_9  K u x1 x2))
set_option maxHeartbeats 1000000 in
theorem pt_Mo_forge_4 {g : pj_G} {b : Nat} (C : pj_X g c_Mo_forge 4 R_Mo (some .boolean) rm_Mo_forge) {K : Int32 → pj_M → Prop} (hE : pj_E g b (pj_Ki K))   {u : pj_M} {x1 : Int32} {x2 : Int32}   (h : pb_Mo_forge_4  K u x1 x2) : pj_J g (pj_N g b u) 4 [some (.ref (b + 217)), some (.int x1), some (.int x2), none] [] := by
  unfold pb_Mo_forge_4 at h
  refine pj_iload_n C d_Mo_forge_4 (pc' := 5) (i := 1) (x := x1) rfl rfl rfl ?_
  refine pj_iconst C d_Mo_forge_5 (pc' := 6) rfl (v := 3) (by decide) ?_
  refine pj_icmp_gt C d_Mo_forge_6 (pc' := 9) rfl (tgt := 34) (by decide) h (fun h => ?_) (fun h => ?_)
  · exact pj_cut (pj_le_n (pj_le_n (pj_le_n (pj_le_n pj_le_e)))) (pt_Mo_forge_34 C hE   h)
  · exact pj_cut (pj_le_s (pj_le_s (pj_le_s (pj_le_n pj_le_e)))) (pt_Mo_forge_9 C hE   h)
def pb_Mo_forge_0  (K : Int32 → pj_M → Prop) (u : pj_M) (x1 : Int32) (x2 : Int32) : Prop := ((x1 < 0) → (pb_Mo_forge_34  K u )) ∧ (¬ (x1 < 0) → (pb_Mo_forge_4  K u x1 x2))
set_option maxHeartbeats 1000000 in
theorem pt_Mo_forge_0 {g : pj_G} {b : Nat} (C : pj_X g c_Mo_forge 4 R_Mo (some .boolean) rm_Mo_forge) {K : Int32 → pj_M → Prop} (hE : pj_E g b (pj_Ki K))   {u : pj_M} {x1 : Int32} {x2 : Int32}   (h : pb_Mo_forge_0  K u x1 x2) : pj_J g (pj_N g b u) 0 [some (.ref (b + 217)), some (.int x1), some (.int x2), none] [] := by
  unfold pb_Mo_forge_0 at h
  refine pj_iload_n C d_Mo_forge_0 (pc' := 1) (i := 1) (x := x1) rfl rfl rfl ?_
  refine pj_if_lt C d_Mo_forge_1 (pc' := 4) rfl (tgt := 34) (by decide) h (fun h => ?_) (fun h => ?_)
  · exact pj_cut (pj_le_n (pj_le_n (pj_le_n (pj_le_n pj_le_e)))) (pt_Mo_forge_34 C hE   h)
  · exact pj_cut (pj_le_s (pj_le_s (pj_le_s (pj_le_n pj_le_e)))) (pt_Mo_forge_4 C hE   h)
def pw_Mo_forge (u : pj_M) (x1 : Int32) (x2 : Int32) (K : Int32 → pj_M → Prop) : Prop := pb_Mo_forge_0  K u x1 x2
theorem pc_Mo_forge (l : Launch) (D : va_G) (E : Nat → ClassId) {b : Nat} {u : pj_M} {x1 : Int32} {x2 : Int32} {K : Int32 → pj_M → Prop}  (h : pw_Mo_forge u x1 x2 K) : pj_C l y_Mo_forge c_Mo_forge 4 (some .boolean) rm_Mo_forge D E b [.ref (b + 217), .int x1, .int x2] u (pj_Ki K) := by
  refine pj_met (own := R_Mo) (by decide +kernel) rfl (Nat.le_of_ble_eq_true rfl) (fun g hE C => ?_)
  unfold pw_Mo_forge at h
  show pj_J g (pj_N g b u) 0 [some (.ref (b + 217)), some (.int x1), some (.int x2), none] []
  exact pj_cut (pj_le_s (pj_le_s (pj_le_s (pj_le_n pj_le_e)))) (pt_Mo_forge_0 C hE   h)
/-! Model.data(III)I -/
def rm_Mo_data : Room := { frames := 0, cells := 0, slots := 0, locals := 0 }
def pb_Mo_data_29  (K : Int32 → pj_M → Prop) (u : pj_M)  : Prop := K ((-1)) u
set_option maxHeartbeats 1000000 in
theorem pt_Mo_data_29 {g : pj_G} {b : Nat} (C : pj_X g c_Mo_data 7 R_Mo (some .int) rm_Mo_data) {K : Int32 → pj_M → Prop} (hE : pj_E g b (pj_Ki K))   {u : pj_M}    (h : pb_Mo_data_29  K u ) : pj_J g (pj_N g b u) 29 [none, none, none, none, none, none, none] [] := by
  unfold pb_Mo_data_29 at h
  refine pj_iconst C d_Mo_data_29 (pc' := 30) rfl (v := (-1)) (by decide) ?_
  exact pj_iret C hE d_Mo_data_30 ⟨_, rfl, h⟩
def pb_Mo_data_136  (K : Int32 → pj_M → Prop) (u : pj_M) (x5 : Int32) : Prop := K x5 u
set_option maxHeartbeats 1000000 in
theorem pt_Mo_data_136 {g : pj_G} {b : Nat} (C : pj_X g c_Mo_data 7 R_Mo (some .int) rm_Mo_data) {K : Int32 → pj_M → Prop} (hE : pj_E g b (pj_Ki K))   {u : pj_M} {x5 : Int32}   (h : pb_Mo_data_136  K u x5) : pj_J g (pj_N g b u) 136 [none, none, none, none, none, some (.int x5), none] [] := by
  unfold pb_Mo_data_136 at h
  refine pj_iload C d_Mo_data_136 (pc' := 138) (i := 5) (x := x5) rfl rfl ?_
  exact pj_iret C hE d_Mo_data_138 ⟨_, rfl, h⟩
def pb_Mo_data_127 (R83 : pj_M → Int32 → Int32 → Prop) (K : Int32 → pj_M → Prop) (u : pj_M) (x1 : Int32) (x4 : Int32) (x6 : Int32) (s0 : Int32) (s1 : Int32) : Prop := pj_let (s1 + s0) fun y1 => (R83 u y1 (x6 + 1))
set_option maxHeartbeats 1000000 in
theorem pt_Mo_data_127 {g : pj_G} {b : Nat} (C : pj_X g c_Mo_data 7 R_Mo (some .int) rm_Mo_data) {K : Int32 → pj_M → Prop} (hE : pj_E g b (pj_Ki K)) {R83 : pj_M → Int32 → Int32 → Prop}  {u : pj_M} {x1 : Int32} {x4 : Int32} {x6 : Int32} {s0 : Int32} {s1 : Int32} (hR83 : ∀ (u : pj_M) (x5 : Int32) (x6 : Int32), R83 u x5 x6 → pj_J g (pj_N g b u) 83 [some (.ref (b + 217)), some (.int x1), none, none, some (.int x4), some (.int x5), some (.int x6)] [])  (h : pb_Mo_data_127 R83 K u x1 x4 x6 s0 s1) : pj_J g (pj_N g b u) 127 [some (.ref (b + 217)), some (.int x1), none, none, some (.int x4), none, some (.int x6)] [.int s0, .int s1] := by
  unfold pb_Mo_data_127 at h
  refine pj_iadd C d_Mo_data_127 (pc' := 128) rfl ?_
  refine pj_name h (fun y1 h => ?_)
  refine pj_istore C d_Mo_data_128 (pc' := 130) (i := 5) (vs' := [some (.ref (b + 217)), some (.int x1), none, none, some (.int x4), some (.int y1), some (.int x6)]) rfl (Nat.le_of_ble_eq_true rfl) (Nat.le_of_ble_eq_true rfl) rfl rfl ?_
  refine pj_iinc C d_Mo_data_130 (pc' := 133) (x := x6) (d := 1) (vs' := [some (.ref (b + 217)), some (.int x1), none, none, some (.int x4), some (.int y1), some (.int (x6 + 1))]) rfl rfl (Nat.le_of_ble_eq_true rfl) rfl (by decide) rfl ?_
  refine pj_goto C d_Mo_data_133 (tgt := 83) (by decide) ?_
  exact pj_cut (pj_le_s (pj_le_s (pj_le_n (pj_le_n (pj_le_s (pj_le_s (pj_le_s pj_le_e))))))) (hR83 _ _ _ h)
def pb_Mo_data_126 (R83 : pj_M → Int32 → Int32 → Prop) (K : Int32 → pj_M → Prop) (u : pj_M) (x1 : Int32) (x4 : Int32) (x6 : Int32) (s0 : Int32) : Prop := pb_Mo_data_127 R83 K u x1 x4 x6 0 s0
set_option maxHeartbeats 1000000 in
theorem pt_Mo_data_126 {g : pj_G} {b : Nat} (C : pj_X g c_Mo_data 7 R_Mo (some .int) rm_Mo_data) {K : Int32 → pj_M → Prop} (hE : pj_E g b (pj_Ki K)) {R83 : pj_M → Int32 → Int32 → Prop}  {u : pj_M} {x1 : Int32} {x4 : Int32} {x6 : Int32} {s0 : Int32} (hR83 : ∀ (u : pj_M) (x5 : Int32) (x6 : Int32), R83 u x5 x6 → pj_J g (pj_N g b u) 83 [some (.ref (b + 217)), some (.int x1), none, none, some (.int x4), some (.int x5), some (.int x6)] [])  (h : pb_Mo_data_126 R83 K u x1 x4 x6 s0) : pj_J g (pj_N g b u) 126 [some (.ref (b + 217)), some (.int x1), none, none, some (.int x4), none, some (.int x6)] [.int s0] := by
  unfold pb_Mo_data_126 at h
  refine pj_iconst C d_Mo_data_126 (pc' := 127) rfl (v := 0) (by decide) ?_
  exact pj_cut (pj_le_s (pj_le_s (pj_le_n (pj_le_n (pj_le_s (pj_le_n (pj_le_s pj_le_e))))))) (pt_Mo_data_127 C hE hR83  h)
def pb_Mo_data_119 (R83 : pj_M → Int32 → Int32 → Prop) (K : Int32 → pj_M → Prop) (u : pj_M) (x1 : Int32) (x4 : Int32) (x6 : Int32) (s0 : Int32) : Prop := pb_Mo_data_127 R83 K u x1 x4 x6 (1 <<< (x6 &&& 31)) s0
set_option maxHeartbeats 1000000 in
theorem pt_Mo_data_119 {g : pj_G} {b : Nat} (C : pj_X g c_Mo_data 7 R_Mo (some .int) rm_Mo_data) {K : Int32 → pj_M → Prop} (hE : pj_E g b (pj_Ki K)) {R83 : pj_M → Int32 → Int32 → Prop}  {u : pj_M} {x1 : Int32} {x4 : Int32} {x6 : Int32} {s0 : Int32} (hR83 : ∀ (u : pj_M) (x5 : Int32) (x6 : Int32), R83 u x5 x6 → pj_J g (pj_N g b u) 83 [some (.ref (b + 217)), some (.int x1), none, none, some (.int x4), some (.int x5), some (.int x6)] [])  (h : pb_Mo_data_119 R83 K u x1 x4 x6 s0) : pj_J g (pj_N g b u) 119 [some (.ref (b + 217)), some (.int x1), none, none, some (.int x4), none, some (.int x6)] [.int s0] := by
  unfold pb_Mo_data_119 at h
  refine pj_iconst C d_Mo_data_119 (pc' := 120) rfl (v := 1) (by decide) ?_
  refine pj_iload C d_Mo_data_120 (pc' := 122) (i := 6) (x := x6) rfl rfl ?_
  refine pj_ishl C d_Mo_data_122 (pc' := 123) rfl ?_
  refine pj_goto C d_Mo_data_123 (tgt := 127) (by decide) ?_
  exact pj_cut (pj_le_s (pj_le_s (pj_le_n (pj_le_n (pj_le_s (pj_le_n (pj_le_s pj_le_e))))))) (pt_Mo_data_127 C hE hR83  h)
def pb_Mo_data_112 (R83 : pj_M → Int32 → Int32 → Prop) (K : Int32 → pj_M → Prop) (u : pj_M) (x1 : Int32) (x4 : Int32) (x6 : Int32) (s0 : Int32) : Prop := ((x4 = x6) → (pb_Mo_data_119 R83 K u x1 x4 x6 s0)) ∧ (¬ (x4 = x6) → (pb_Mo_data_126 R83 K u x1 x4 x6 s0))
set_option maxHeartbeats 1000000 in
theorem pt_Mo_data_112 {g : pj_G} {b : Nat} (C : pj_X g c_Mo_data 7 R_Mo (some .int) rm_Mo_data) {K : Int32 → pj_M → Prop} (hE : pj_E g b (pj_Ki K)) {R83 : pj_M → Int32 → Int32 → Prop}  {u : pj_M} {x1 : Int32} {x4 : Int32} {x6 : Int32} {s0 : Int32} (hR83 : ∀ (u : pj_M) (x5 : Int32) (x6 : Int32), R83 u x5 x6 → pj_J g (pj_N g b u) 83 [some (.ref (b + 217)), some (.int x1), none, none, some (.int x4), some (.int x5), some (.int x6)] [])  (h : pb_Mo_data_112 R83 K u x1 x4 x6 s0) : pj_J g (pj_N g b u) 112 [some (.ref (b + 217)), some (.int x1), none, none, some (.int x4), none, some (.int x6)] [.int s0] := by
  unfold pb_Mo_data_112 at h
  refine pj_iload C d_Mo_data_112 (pc' := 114) (i := 4) (x := x4) rfl rfl ?_
  refine pj_iload C d_Mo_data_114 (pc' := 116) (i := 6) (x := x6) rfl rfl ?_
  refine pj_icmp_ne C d_Mo_data_116 (pc' := 119) rfl (tgt := 126) (by decide) h (fun h => ?_) (fun h => ?_)
  · exact pj_cut (pj_le_s (pj_le_s (pj_le_n (pj_le_n (pj_le_s (pj_le_n (pj_le_s pj_le_e))))))) (pt_Mo_data_126 C hE hR83  h)
  · exact pj_cut (pj_le_s (pj_le_s (pj_le_n (pj_le_n (pj_le_s (pj_le_n (pj_le_s pj_le_e))))))) (pt_Mo_data_119 C hE hR83  h)
def pb_Mo_data_107 (R83 : pj_M → Int32 → Int32 → Prop) (K : Int32 → pj_M → Prop) (u : pj_M) (x1 : Int32) (x4 : Int32) (x6 : Int32) (s0 : Int32) : Prop := ((x4 < 0) → (pb_Mo_data_119 R83 K u x1 x4 x6 s0)) ∧ (¬ (x4 < 0) → (pb_Mo_data_112 R83 K u x1 x4 x6 s0))
set_option maxHeartbeats 1000000 in
theorem pt_Mo_data_107 {g : pj_G} {b : Nat} (C : pj_X g c_Mo_data 7 R_Mo (some .int) rm_Mo_data) {K : Int32 → pj_M → Prop} (hE : pj_E g b (pj_Ki K)) {R83 : pj_M → Int32 → Int32 → Prop}  {u : pj_M} {x1 : Int32} {x4 : Int32} {x6 : Int32} {s0 : Int32} (hR83 : ∀ (u : pj_M) (x5 : Int32) (x6 : Int32), R83 u x5 x6 → pj_J g (pj_N g b u) 83 [some (.ref (b + 217)), some (.int x1), none, none, some (.int x4), some (.int x5), some (.int x6)] [])  (h : pb_Mo_data_107 R83 K u x1 x4 x6 s0) : pj_J g (pj_N g b u) 107 [some (.ref (b + 217)), some (.int x1), none, none, some (.int x4), none, some (.int x6)] [.int s0] := by
  unfold pb_Mo_data_107 at h
  refine pj_iload C d_Mo_data_107 (pc' := 109) (i := 4) (x := x4) rfl rfl ?_
  refine pj_if_lt C d_Mo_data_109 (pc' := 112) rfl (tgt := 119) (by decide) h (fun h => ?_) (fun h => ?_)
  · exact pj_cut (pj_le_s (pj_le_s (pj_le_n (pj_le_n (pj_le_s (pj_le_n (pj_le_s pj_le_e))))))) (pt_Mo_data_119 C hE hR83  h)
  · exact pj_cut (pj_le_s (pj_le_s (pj_le_n (pj_le_n (pj_le_s (pj_le_n (pj_le_s pj_le_e))))))) (pt_Mo_data_112 C hE hR83  h)
def pb_Mo_data_101 (R83 : pj_M → Int32 → Int32 → Prop) (K : Int32 → pj_M → Prop) (u : pj_M) (x1 : Int32) (x4 : Int32) (x6 : Int32) (s0 : Int32) : Prop := ((x6 = x1) → (pb_Mo_data_126 R83 K u x1 x4 x6 s0)) ∧ (¬ (x6 = x1) → (pb_Mo_data_107 R83 K u x1 x4 x6 s0))
set_option maxHeartbeats 1000000 in
theorem pt_Mo_data_101 {g : pj_G} {b : Nat} (C : pj_X g c_Mo_data 7 R_Mo (some .int) rm_Mo_data) {K : Int32 → pj_M → Prop} (hE : pj_E g b (pj_Ki K)) {R83 : pj_M → Int32 → Int32 → Prop}  {u : pj_M} {x1 : Int32} {x4 : Int32} {x6 : Int32} {s0 : Int32} (hR83 : ∀ (u : pj_M) (x5 : Int32) (x6 : Int32), R83 u x5 x6 → pj_J g (pj_N g b u) 83 [some (.ref (b + 217)), some (.int x1), none, none, some (.int x4), some (.int x5), some (.int x6)] [])  (h : pb_Mo_data_101 R83 K u x1 x4 x6 s0) : pj_J g (pj_N g b u) 101 [some (.ref (b + 217)), some (.int x1), none, none, some (.int x4), none, some (.int x6)] [.int s0] := by
  unfold pb_Mo_data_101 at h
  refine pj_iload C d_Mo_data_101 (pc' := 103) (i := 6) (x := x6) rfl rfl ?_
  refine pj_iload_n C d_Mo_data_103 (pc' := 104) (i := 1) (x := x1) rfl rfl rfl ?_
  refine pj_icmp_eq C d_Mo_data_104 (pc' := 107) rfl (tgt := 126) (by decide) h (fun h => ?_) (fun h => ?_)
  · exact pj_cut (pj_le_s (pj_le_s (pj_le_n (pj_le_n (pj_le_s (pj_le_n (pj_le_s pj_le_e))))))) (pt_Mo_data_126 C hE hR83  h)
  · exact pj_cut (pj_le_s (pj_le_s (pj_le_n (pj_le_n (pj_le_s (pj_le_n (pj_le_s pj_le_e))))))) (pt_Mo_data_107 C hE hR83  h)
def pb_Mo_data_89 (R83 : pj_M → Int32 → Int32 → Prop) (K : Int32 → pj_M → Prop) (u : pj_M) (x1 : Int32) (x4 : Int32) (x5 : Int32) (x6 : Int32) : Prop := vp_in x6 4 ∧ ((((u 260 x6.toNatClampNeg) = 0) → (pb_Mo_data_126 R83 K u x1 x4 x6 x5)) ∧ (¬ ((u 260 x6.toNatClampNeg) = 0) → (pb_Mo_data_101 R83 K u x1 x4 x6 x5)))
set_option maxHeartbeats 1000000 in
theorem pt_Mo_data_89 {g : pj_G} {b : Nat} (C : pj_X g c_Mo_data 7 R_Mo (some .int) rm_Mo_data) {K : Int32 → pj_M → Prop} (hE : pj_E g b (pj_Ki K)) {R83 : pj_M → Int32 → Int32 → Prop}  {u : pj_M} {x1 : Int32} {x4 : Int32} {x5 : Int32} {x6 : Int32} (hR83 : ∀ (u : pj_M) (x5 : Int32) (x6 : Int32), R83 u x5 x6 → pj_J g (pj_N g b u) 83 [some (.ref (b + 217)), some (.int x1), none, none, some (.int x4), some (.int x5), some (.int x6)] [])  (h : pb_Mo_data_89 R83 K u x1 x4 x5 x6) : pj_J g (pj_N g b u) 89 [some (.ref (b + 217)), some (.int x1), none, none, some (.int x4), some (.int x5), some (.int x6)] [] := by
  unfold pb_Mo_data_89 at h
  refine pj_iload C d_Mo_data_89 (pc' := 91) (i := 5) (x := x5) rfl rfl ?_
  refine pj_aload_n C d_Mo_data_91 (pc' := 92) (i := 0) (x := b + 217) rfl rfl rfl ?_
  refine fg_Model_137_Model C tk_217 d_Mo_data_92 (pc' := 95) rfl ?_
  refine pj_iload C d_Mo_data_95 (pc' := 97) (i := 6) (x := x6) rfl rfl ?_
  refine pj_zald C (pj_lt tk_260 (by decide)) (fun E u => ka_31 tk_260) d_Mo_data_97 (pc' := 98) rfl h (fun h => ?_)
  refine pj_if_eq C d_Mo_data_98 (pc' := 101) rfl (tgt := 126) (by decide) h (fun h => ?_) (fun h => ?_)
  · exact pj_cut (pj_le_s (pj_le_s (pj_le_n (pj_le_n (pj_le_s (pj_le_n (pj_le_s pj_le_e))))))) (pt_Mo_data_126 C hE hR83  h)
  · exact pj_cut (pj_le_s (pj_le_s (pj_le_n (pj_le_n (pj_le_s (pj_le_n (pj_le_s pj_le_e))))))) (pt_Mo_data_101 C hE hR83  h)
def pb_Mo_data_83b (R83 : pj_M → Int32 → Int32 → Prop) (K : Int32 → pj_M → Prop) (u : pj_M) (x1 : Int32) (x4 : Int32) (x5 : Int32) (x6 : Int32) : Prop := ((4 ≤ x6) → (pb_Mo_data_136  K u x5)) ∧ (¬ (4 ≤ x6) → (pb_Mo_data_89 R83 K u x1 x4 x5 x6))
set_option maxHeartbeats 1000000 in
theorem pt_Mo_data_83b {g : pj_G} {b : Nat} (C : pj_X g c_Mo_data 7 R_Mo (some .int) rm_Mo_data) {K : Int32 → pj_M → Prop} (hE : pj_E g b (pj_Ki K)) {R83 : pj_M → Int32 → Int32 → Prop}  {u : pj_M} {x1 : Int32} {x4 : Int32} {x5 : Int32} {x6 : Int32} (hR83 : ∀ (u : pj_M) (x5 : Int32) (x6 : Int32), R83 u x5 x6 → pj_J g (pj_N g b u) 83 [some (.ref (b + 217)), some (.int x1), none, none, some (.int x4), some (.int x5), some (.int x6)] [])  (h : pb_Mo_data_83b R83 K u x1 x4 x5 x6) : pj_J g (pj_N g b u) 83 [some (.ref (b + 217)), some (.int x1), none, none, some (.int x4), some (.int x5), some (.int x6)] [] := by
  unfold pb_Mo_data_83b at h
  refine pj_iload C d_Mo_data_83 (pc' := 85) (i := 6) (x := x6) rfl rfl ?_
  refine pj_iconst C d_Mo_data_85 (pc' := 86) rfl (v := 4) (by decide) ?_
  refine pj_icmp_ge C d_Mo_data_86 (pc' := 89) rfl (tgt := 136) (by decide) h (fun h => ?_) (fun h => ?_)
  · exact pj_cut (pj_le_n (pj_le_n (pj_le_n (pj_le_n (pj_le_n (pj_le_s (pj_le_n pj_le_e))))))) (pt_Mo_data_136 C hE   h)
  · exact pj_cut (pj_le_s (pj_le_s (pj_le_n (pj_le_n (pj_le_s (pj_le_s (pj_le_s pj_le_e))))))) (pt_Mo_data_89 C hE hR83  h)
def pb_Mo_data_83  (K : Int32 → pj_M → Prop) (x1 : Int32) (x4 : Int32) : Nat → pj_M → Int32 → Int32 → Prop
  | 0 => fun _ _ _ => False
  | n + 1 => fun u x5 x6 => pb_Mo_data_83b (pb_Mo_data_83  K x1 x4 n) K u x1 x4 x5 x6
theorem pt_Mo_data_83 {g : pj_G} {b : Nat} (C : pj_X g c_Mo_data 7 R_Mo (some .int) rm_Mo_data) {K : Int32 → pj_M → Prop} (hE : pj_E g b (pj_Ki K))  {x1 : Int32} {x4 : Int32}   : ∀ (n : Nat) (u : pj_M) (x5 : Int32) (x6 : Int32), pb_Mo_data_83  K x1 x4 n u x5 x6 → pj_J g (pj_N g b u) 83 [some (.ref (b + 217)), some (.int x1), none, none, some (.int x4), some (.int x5), some (.int x6)] [] := by
  intro n
  induction n with
  | zero => intro u x5 x6 h; exact False.elim h
  | succ n ih =>
    intro u x5 x6 h
    exact (pt_Mo_data_83b C hE ih  h)
def pb_Mo_data_75  (K : Int32 → pj_M → Prop) (u : pj_M) (x1 : Int32) (s0 : Int32) : Prop := ∃ n, pb_Mo_data_83  K x1 s0 n u 0 0
set_option maxHeartbeats 1000000 in
theorem pt_Mo_data_75 {g : pj_G} {b : Nat} (C : pj_X g c_Mo_data 7 R_Mo (some .int) rm_Mo_data) {K : Int32 → pj_M → Prop} (hE : pj_E g b (pj_Ki K))   {u : pj_M} {x1 : Int32} {s0 : Int32}   (h : pb_Mo_data_75  K u x1 s0) : pj_J g (pj_N g b u) 75 [some (.ref (b + 217)), some (.int x1), none, none, none, none, none] [.int s0] := by
  unfold pb_Mo_data_75 at h
  refine pj_istore C d_Mo_data_75 (pc' := 77) (i := 4) (vs' := [some (.ref (b + 217)), some (.int x1), none, none, some (.int s0), none, none]) rfl (Nat.le_of_ble_eq_true rfl) (Nat.le_of_ble_eq_true rfl) rfl rfl ?_
  refine pj_iconst C d_Mo_data_77 (pc' := 78) rfl (v := 0) (by decide) ?_
  refine pj_istore C d_Mo_data_78 (pc' := 80) (i := 5) (vs' := [some (.ref (b + 217)), some (.int x1), none, none, some (.int s0), some (.int 0), none]) rfl (Nat.le_of_ble_eq_true rfl) (Nat.le_of_ble_eq_true rfl) rfl rfl ?_
  refine pj_iconst C d_Mo_data_80 (pc' := 81) rfl (v := 0) (by decide) ?_
  refine pj_istore C d_Mo_data_81 (pc' := 83) (i := 6) (vs' := [some (.ref (b + 217)), some (.int x1), none, none, some (.int s0), some (.int 0), some (.int 0)]) rfl (Nat.le_of_ble_eq_true rfl) (Nat.le_of_ble_eq_true rfl) rfl rfl ?_
  obtain ⟨n, h⟩ := h
  exact pj_cut (pj_le_s (pj_le_s (pj_le_n (pj_le_n (pj_le_s (pj_le_s (pj_le_s pj_le_e))))))) (pt_Mo_data_83 C hE   n _ _ _ h)
def pb_Mo_data_69  (K : Int32 → pj_M → Prop) (u : pj_M) (x1 : Int32) (x3 : Int32) : Prop := vp_in x3 8 ∧ (pb_Mo_data_75  K u x1 (u 278 x3.toNatClampNeg))
set_option maxHeartbeats 1000000 in
theorem pt_Mo_data_69 {g : pj_G} {b : Nat} (C : pj_X g c_Mo_data 7 R_Mo (some .int) rm_Mo_data) {K : Int32 → pj_M → Prop} (hE : pj_E g b (pj_Ki K))   {u : pj_M} {x1 : Int32} {x3 : Int32}   (h : pb_Mo_data_69  K u x1 x3) : pj_J g (pj_N g b u) 69 [some (.ref (b + 217)), some (.int x1), none, some (.int x3), none, none, none] [] := by
  unfold pb_Mo_data_69 at h
  refine pj_aload_n C d_Mo_data_69 (pc' := 70) (i := 0) (x := b + 217) rfl rfl rfl ?_
  refine fg_Model_191_Model C tk_217 d_Mo_data_70 (pc' := 73) rfl ?_
  refine pj_iload_n C d_Mo_data_73 (pc' := 74) (i := 3) (x := x3) rfl rfl rfl ?_
  refine pj_iald C (pj_lt tk_278 (by decide)) (fun E u => ka_20 tk_278) d_Mo_data_74 (pc' := 75) rfl h (fun h => ?_)
  exact pj_cut (pj_le_s (pj_le_s (pj_le_n (pj_le_n (pj_le_n (pj_le_n (pj_le_n pj_le_e))))))) (pt_Mo_data_75 C hE   h)
def pb_Mo_data_65  (K : Int32 → pj_M → Prop) (u : pj_M) (x1 : Int32) : Prop := pb_Mo_data_75  K u x1 ((-1))
set_option maxHeartbeats 1000000 in
theorem pt_Mo_data_65 {g : pj_G} {b : Nat} (C : pj_X g c_Mo_data 7 R_Mo (some .int) rm_Mo_data) {K : Int32 → pj_M → Prop} (hE : pj_E g b (pj_Ki K))   {u : pj_M} {x1 : Int32}   (h : pb_Mo_data_65  K u x1) : pj_J g (pj_N g b u) 65 [some (.ref (b + 217)), some (.int x1), none, none, none, none, none] [] := by
  unfold pb_Mo_data_65 at h
  refine pj_iconst C d_Mo_data_65 (pc' := 66) rfl (v := (-1)) (by decide) ?_
  refine pj_goto C d_Mo_data_66 (tgt := 75) (by decide) ?_
  exact pj_cut (pj_le_s (pj_le_s (pj_le_n (pj_le_n (pj_le_n (pj_le_n (pj_le_n pj_le_e))))))) (pt_Mo_data_75 C hE   h)
def pb_Mo_data_42  (K : Int32 → pj_M → Prop) (u : pj_M) (x1 : Int32) (x2 : Int32) (x3 : Int32) : Prop := vp_in x2 8 ∧ pj_put u 278 x2.toNatClampNeg x1 fun u1 => (vp_in x1 4 ∧ (vp_in x1 4 ∧ pj_put u1 270 x1.toNatClampNeg ((u1 270 x1.toNatClampNeg) + 1) fun u2 => (((x3 = 8) → (pb_Mo_data_65  K u2 x1)) ∧ (¬ (x3 = 8) → (pb_Mo_data_69  K u2 x1 x3)))))
set_option maxHeartbeats 1000000 in
theorem pt_Mo_data_42 {g : pj_G} {b : Nat} (C : pj_X g c_Mo_data 7 R_Mo (some .int) rm_Mo_data) {K : Int32 → pj_M → Prop} (hE : pj_E g b (pj_Ki K))   {u : pj_M} {x1 : Int32} {x2 : Int32} {x3 : Int32}   (h : pb_Mo_data_42  K u x1 x2 x3) : pj_J g (pj_N g b u) 42 [some (.ref (b + 217)), some (.int x1), some (.int x2), some (.int x3), none, none, none] [] := by
  unfold pb_Mo_data_42 at h
  refine pj_aload_n C d_Mo_data_42 (pc' := 43) (i := 0) (x := b + 217) rfl rfl rfl ?_
  refine fg_Model_191_Model C tk_217 d_Mo_data_43 (pc' := 46) rfl ?_
  refine pj_iload_n C d_Mo_data_46 (pc' := 47) (i := 2) (x := x2) rfl rfl rfl ?_
  refine pj_iload_n C d_Mo_data_47 (pc' := 48) (i := 1) (x := x1) rfl rfl rfl ?_
  refine pj_iast C (pj_lt tk_278 (by decide)) (fun E u => ka_20 tk_278) d_Mo_data_48 (pc' := 49) rfl h (fun u1 h => ?_)
  refine pj_aload_n C d_Mo_data_49 (pc' := 50) (i := 0) (x := b + 217) rfl rfl rfl ?_
  refine fg_Model_167_Model C tk_217 d_Mo_data_50 (pc' := 53) rfl ?_
  refine pj_iload_n C d_Mo_data_53 (pc' := 54) (i := 1) (x := x1) rfl rfl rfl ?_
  refine pj_dup2_11 C d_Mo_data_54 (pc' := 55) rfl rfl rfl ?_
  refine pj_iald C (pj_lt tk_270 (by decide)) (fun E u => ka_23 tk_270) d_Mo_data_55 (pc' := 56) rfl h (fun h => ?_)
  refine pj_iconst C d_Mo_data_56 (pc' := 57) rfl (v := 1) (by decide) ?_
  refine pj_iadd C d_Mo_data_57 (pc' := 58) rfl ?_
  refine pj_iast C (pj_lt tk_270 (by decide)) (fun E u => ka_23 tk_270) d_Mo_data_58 (pc' := 59) rfl h (fun u2 h => ?_)
  refine pj_iload_n C d_Mo_data_59 (pc' := 60) (i := 3) (x := x3) rfl rfl rfl ?_
  refine pj_bipush C d_Mo_data_60 (pc' := 62) rfl (v := 8) (by decide) ?_
  refine pj_icmp_ne C d_Mo_data_62 (pc' := 65) rfl (tgt := 69) (by decide) h (fun h => ?_) (fun h => ?_)
  · exact pj_cut (pj_le_s (pj_le_s (pj_le_n (pj_le_s (pj_le_n (pj_le_n (pj_le_n pj_le_e))))))) (pt_Mo_data_69 C hE   h)
  · exact pj_cut (pj_le_s (pj_le_s (pj_le_n (pj_le_n (pj_le_n (pj_le_n (pj_le_n pj_le_e))))))) (pt_Mo_data_65 C hE   h)
def pb_Mo_data_40  (K : Int32 → pj_M → Prop) (u : pj_M)  : Prop := K 0 u
set_option maxHeartbeats 1000000 in
theorem pt_Mo_data_40 {g : pj_G} {b : Nat} (C : pj_X g c_Mo_data 7 R_Mo (some .int) rm_Mo_data) {K : Int32 → pj_M → Prop} (hE : pj_E g b (pj_Ki K))   {u : pj_M}    (h : pb_Mo_data_40  K u ) : pj_J g (pj_N g b u) 40 [none, none, none, none, none, none, none] [] := by
  unfold pb_Mo_data_40 at h
  refine pj_iconst C d_Mo_data_40 (pc' := 41) rfl (v := 0) (by decide) ?_
  exact pj_iret C hE d_Mo_data_41 ⟨_, rfl, h⟩
def pb_Mo_data_31  (K : Int32 → pj_M → Prop) (u : pj_M) (x1 : Int32) (x2 : Int32) (x3 : Int32) : Prop := vp_in x1 4 ∧ ((((u 260 x1.toNatClampNeg) = 0) → (pb_Mo_data_40  K u )) ∧ (¬ ((u 260 x1.toNatClampNeg) = 0) → (pb_Mo_data_42  K u x1 x2 x3)))
set_option maxHeartbeats 1000000 in
theorem pt_Mo_data_31 {g : pj_G} {b : Nat} (C : pj_X g c_Mo_data 7 R_Mo (some .int) rm_Mo_data) {K : Int32 → pj_M → Prop} (hE : pj_E g b (pj_Ki K))   {u : pj_M} {x1 : Int32} {x2 : Int32} {x3 : Int32}   (h : pb_Mo_data_31  K u x1 x2 x3) : pj_J g (pj_N g b u) 31 [some (.ref (b + 217)), some (.int x1), some (.int x2), some (.int x3), none, none, none] [] := by
  unfold pb_Mo_data_31 at h
  refine pj_aload_n C d_Mo_data_31 (pc' := 32) (i := 0) (x := b + 217) rfl rfl rfl ?_
  refine fg_Model_137_Model C tk_217 d_Mo_data_32 (pc' := 35) rfl ?_
  refine pj_iload_n C d_Mo_data_35 (pc' := 36) (i := 1) (x := x1) rfl rfl rfl ?_
  refine pj_zald C (pj_lt tk_260 (by decide)) (fun E u => ka_31 tk_260) d_Mo_data_36 (pc' := 37) rfl h (fun h => ?_)
  refine pj_if_ne C d_Mo_data_37 (pc' := 40) rfl (tgt := 42) (by decide) h (fun h => ?_) (fun h => ?_)
  · exact pj_cut (pj_le_s (pj_le_s (pj_le_s (pj_le_s (pj_le_n (pj_le_n (pj_le_n pj_le_e))))))) (pt_Mo_data_42 C hE   h)
  · exact pj_cut (pj_le_n (pj_le_n (pj_le_n (pj_le_n (pj_le_n (pj_le_n (pj_le_n pj_le_e))))))) (pt_Mo_data_40 C hE   h)
def pb_Mo_data_23  (K : Int32 → pj_M → Prop) (u : pj_M) (x1 : Int32) (x2 : Int32) (x3 : Int32) : Prop := ((x3 ≤ 8) → (pb_Mo_data_31  K u x1 x2 x3)) ∧ (¬ (x3 ≤ 8) → (pb_Mo_data_29  K u ))
set_option maxHeartbeats 1000000 in
theorem pt_Mo_data_23 {g : pj_G} {b : Nat} (C : pj_X g c_Mo_data 7 R_Mo (some .int) rm_Mo_data) {K : Int32 → pj_M → Prop} (hE : pj_E g b (pj_Ki K))   {u : pj_M} {x1 : Int32} {x2 : Int32} {x3 : Int32}   (h : pb_Mo_data_23  K u x1 x2 x3) : pj_J g (pj_N g b u) 23 [some (.ref (b + 217)), some (.int x1), some (.int x2), some (.int x3), none, none, none] [] := by
  unfold pb_Mo_data_23 at h
  refine pj_iload_n C d_Mo_data_23 (pc' := 24) (i := 3) (x := x3) rfl rfl rfl ?_
  refine pj_bipush C d_Mo_data_24 (pc' := 26) rfl (v := 8) (by decide) ?_
  refine pj_icmp_le C d_Mo_data_26 (pc' := 29) rfl (tgt := 31) (by decide) h (fun h => ?_) (fun h => ?_)
  · exact pj_cut (pj_le_s (pj_le_s (pj_le_s (pj_le_s (pj_le_n (pj_le_n (pj_le_n pj_le_e))))))) (pt_Mo_data_31 C hE   h)
  · exact pj_cut (pj_le_n (pj_le_n (pj_le_n (pj_le_n (pj_le_n (pj_le_n (pj_le_n pj_le_e))))))) (pt_Mo_data_29 C hE   h)
def pb_Mo_data_19  (K : Int32 → pj_M → Prop) (u : pj_M) (x1 : Int32) (x2 : Int32) (x3 : Int32) : Prop := ((x3 < 0) → (pb_Mo_data_29  K u )) ∧ (¬ (x3 < 0) → (pb_Mo_data_23  K u x1 x2 x3))
set_option maxHeartbeats 1000000 in
theorem pt_Mo_data_19 {g : pj_G} {b : Nat} (C : pj_X g c_Mo_data 7 R_Mo (some .int) rm_Mo_data) {K : Int32 → pj_M → Prop} (hE : pj_E g b (pj_Ki K))   {u : pj_M} {x1 : Int32} {x2 : Int32} {x3 : Int32}   (h : pb_Mo_data_19  K u x1 x2 x3) : pj_J g (pj_N g b u) 19 [some (.ref (b + 217)), some (.int x1), some (.int x2), some (.int x3), none, none, none] [] := by
  unfold pb_Mo_data_19 at h
  refine pj_iload_n C d_Mo_data_19 (pc' := 20) (i := 3) (x := x3) rfl rfl rfl ?_
  refine pj_if_lt C d_Mo_data_20 (pc' := 23) rfl (tgt := 29) (by decide) h (fun h => ?_) (fun h => ?_)
  · exact pj_cut (pj_le_n (pj_le_n (pj_le_n (pj_le_n (pj_le_n (pj_le_n (pj_le_n pj_le_e))))))) (pt_Mo_data_29 C hE   h)
  · exact pj_cut (pj_le_s (pj_le_s (pj_le_s (pj_le_s (pj_le_n (pj_le_n (pj_le_n pj_le_e))))))) (pt_Mo_data_23 C hE   h)
def pb_Mo_data_13  (K : Int32 → pj_M → Prop) (u : pj_M) (x1 : Int32) (x2 : Int32) (x3 : Int32) : Prop := ((7 < x2) → (pb_Mo_data_29  K u )) ∧ (¬ (7 < x2) → (pb_Mo_data_19  K u x1 x2 x3))
set_option maxHeartbeats 1000000 in
theorem pt_Mo_data_13 {g : pj_G} {b : Nat} (C : pj_X g c_Mo_data 7 R_Mo (some .int) rm_Mo_data) {K : Int32 → pj_M → Prop} (hE : pj_E g b (pj_Ki K))   {u : pj_M} {x1 : Int32} {x2 : Int32} {x3 : Int32}   (h : pb_Mo_data_13  K u x1 x2 x3) : pj_J g (pj_N g b u) 13 [some (.ref (b + 217)), some (.int x1), some (.int x2), some (.int x3), none, none, none] [] := by
  unfold pb_Mo_data_13 at h
  refine pj_iload_n C d_Mo_data_13 (pc' := 14) (i := 2) (x := x2) rfl rfl rfl ?_
  refine pj_bipush C d_Mo_data_14 (pc' := 16) rfl (v := 7) (by decide) ?_
  refine pj_icmp_gt C d_Mo_data_16 (pc' := 19) rfl (tgt := 29) (by decide) h (fun h => ?_) (fun h => ?_)
  · exact pj_cut (pj_le_n (pj_le_n (pj_le_n (pj_le_n (pj_le_n (pj_le_n (pj_le_n pj_le_e))))))) (pt_Mo_data_29 C hE   h)
  · exact pj_cut (pj_le_s (pj_le_s (pj_le_s (pj_le_s (pj_le_n (pj_le_n (pj_le_n pj_le_e))))))) (pt_Mo_data_19 C hE   h)
def pb_Mo_data_9  (K : Int32 → pj_M → Prop) (u : pj_M) (x1 : Int32) (x2 : Int32) (x3 : Int32) : Prop := ((x2 < 0) → (pb_Mo_data_29  K u )) ∧ (¬ (x2 < 0) → (pb_Mo_data_13  K u x1 x2 x3))
set_option maxHeartbeats 1000000 in
theorem pt_Mo_data_9 {g : pj_G} {b : Nat} (C : pj_X g c_Mo_data 7 R_Mo (some .int) rm_Mo_data) {K : Int32 → pj_M → Prop} (hE : pj_E g b (pj_Ki K))   {u : pj_M} {x1 : Int32} {x2 : Int32} {x3 : Int32}   (h : pb_Mo_data_9  K u x1 x2 x3) : pj_J g (pj_N g b u) 9 [some (.ref (b + 217)), some (.int x1), some (.int x2), some (.int x3), none, none, none] [] := by
  unfold pb_Mo_data_9 at h
  refine pj_iload_n C d_Mo_data_9 (pc' := 10) (i := 2) (x := x2) rfl rfl rfl ?_
  refine pj_if_lt C d_Mo_data_10 (pc' := 13) rfl (tgt := 29) (by decide) h (fun h => ?_) (fun h => ?_)
  · exact pj_cut (pj_le_n (pj_le_n (pj_le_n (pj_le_n (pj_le_n (pj_le_n (pj_le_n pj_le_e))))))) (pt_Mo_data_29 C hE   h)
  · exact pj_cut (pj_le_s (pj_le_s (pj_le_s (pj_le_s (pj_le_n (pj_le_n (pj_le_n pj_le_e))))))) (pt_Mo_data_13 C hE   h)
def pb_Mo_data_4  (K : Int32 → pj_M → Prop) (u : pj_M) (x1 : Int32) (x2 : Int32) (x3 : Int32) : Prop := ((3 < x1) → (pb_Mo_data_29  K u )) ∧ (¬ (3 < x1) → (pb_Mo_data_9  K u x1 x2 x3))
set_option maxHeartbeats 1000000 in
theorem pt_Mo_data_4 {g : pj_G} {b : Nat} (C : pj_X g c_Mo_data 7 R_Mo (some .int) rm_Mo_data) {K : Int32 → pj_M → Prop} (hE : pj_E g b (pj_Ki K))   {u : pj_M} {x1 : Int32} {x2 : Int32} {x3 : Int32}   (h : pb_Mo_data_4  K u x1 x2 x3) : pj_J g (pj_N g b u) 4 [some (.ref (b + 217)), some (.int x1), some (.int x2), some (.int x3), none, none, none] [] := by
  unfold pb_Mo_data_4 at h
  refine pj_iload_n C d_Mo_data_4 (pc' := 5) (i := 1) (x := x1) rfl rfl rfl ?_
  refine pj_iconst C d_Mo_data_5 (pc' := 6) rfl (v := 3) (by decide) ?_
  refine pj_icmp_gt C d_Mo_data_6 (pc' := 9) rfl (tgt := 29) (by decide) h (fun h => ?_) (fun h => ?_)
  · exact pj_cut (pj_le_n (pj_le_n (pj_le_n (pj_le_n (pj_le_n (pj_le_n (pj_le_n pj_le_e))))))) (pt_Mo_data_29 C hE   h)
  · exact pj_cut (pj_le_s (pj_le_s (pj_le_s (pj_le_s (pj_le_n (pj_le_n (pj_le_n pj_le_e))))))) (pt_Mo_data_9 C hE   h)
def pb_Mo_data_0  (K : Int32 → pj_M → Prop) (u : pj_M) (x1 : Int32) (x2 : Int32) (x3 : Int32) : Prop := ((x1 < 0) → (pb_Mo_data_29  K u )) ∧ (¬ (x1 < 0) → (pb_Mo_data_4  K u x1 x2 x3))
set_option maxHeartbeats 1000000 in
theorem pt_Mo_data_0 {g : pj_G} {b : Nat} (C : pj_X g c_Mo_data 7 R_Mo (some .int) rm_Mo_data) {K : Int32 → pj_M → Prop} (hE : pj_E g b (pj_Ki K))   {u : pj_M} {x1 : Int32} {x2 : Int32} {x3 : Int32}   (h : pb_Mo_data_0  K u x1 x2 x3) : pj_J g (pj_N g b u) 0 [some (.ref (b + 217)), some (.int x1), some (.int x2), some (.int x3), none, none, none] [] := by
  unfold pb_Mo_data_0 at h
  refine pj_iload_n C d_Mo_data_0 (pc' := 1) (i := 1) (x := x1) rfl rfl rfl ?_
  refine pj_if_lt C d_Mo_data_1 (pc' := 4) rfl (tgt := 29) (by decide) h (fun h => ?_) (fun h => ?_)
  · exact pj_cut (pj_le_n (pj_le_n (pj_le_n (pj_le_n (pj_le_n (pj_le_n (pj_le_n pj_le_e))))))) (pt_Mo_data_29 C hE   h)
  · exact pj_cut (pj_le_s (pj_le_s (pj_le_s (pj_le_s (pj_le_n (pj_le_n (pj_le_n pj_le_e))))))) (pt_Mo_data_4 C hE   h)
def pw_Mo_data (u : pj_M) (x1 : Int32) (x2 : Int32) (x3 : Int32) (K : Int32 → pj_M → Prop) : Prop := pb_Mo_data_0  K u x1 x2 x3
theorem pc_Mo_data (l : Launch) (D : va_G) (E : Nat → ClassId) {b : Nat} {u : pj_M} {x1 : Int32} {x2 : Int32} {x3 : Int32} {K : Int32 → pj_M → Prop}  (h : pw_Mo_data u x1 x2 x3 K) : pj_C l y_Mo_data c_Mo_data 7 (some .int) rm_Mo_data D E b [.ref (b + 217), .int x1, .int x2, .int x3] u (pj_Ki K) := by
  refine pj_met (own := R_Mo) (by decide +kernel) rfl (Nat.le_of_ble_eq_true rfl) (fun g hE C => ?_)
  unfold pw_Mo_data at h
  show pj_J g (pj_N g b u) 0 [some (.ref (b + 217)), some (.int x1), some (.int x2), some (.int x3), none, none, none] []
  exact pj_cut (pj_le_s (pj_le_s (pj_le_s (pj_le_s (pj_le_n (pj_le_n (pj_le_n pj_le_e))))))) (pt_Mo_data_0 C hE   h)
/-! Model.waiting()I -/
def rm_Mo_waiting : Room := { frames := 0, cells := 0, slots := 0, locals := 0 }
def pb_Mo_waiting_0  (K : Int32 → pj_M → Prop) (u : pj_M)  : Prop := K (u 217 4) u
set_option maxHeartbeats 1000000 in
theorem pt_Mo_waiting_0 {g : pj_G} {b : Nat} (C : pj_X g c_Mo_waiting 1 R_Mo (some .int) rm_Mo_waiting) {K : Int32 → pj_M → Prop} (hE : pj_E g b (pj_Ki K))   {u : pj_M}    (h : pb_Mo_waiting_0  K u ) : pj_J g (pj_N g b u) 0 [some (.ref (b + 217))] [] := by
  unfold pb_Mo_waiting_0 at h
  refine pj_aload_n C d_Mo_waiting_0 (pc' := 1) (i := 0) (x := b + 217) rfl rfl rfl ?_
  refine fg_Model_230_Model C tk_217 d_Mo_waiting_1 (pc' := 4) rfl ?_
  exact pj_iret C hE d_Mo_waiting_4 ⟨_, rfl, h⟩
def pw_Mo_waiting (u : pj_M)  (K : Int32 → pj_M → Prop) : Prop := pb_Mo_waiting_0  K u 
theorem pc_Mo_waiting (l : Launch) (D : va_G) (E : Nat → ClassId) {b : Nat} {u : pj_M}  {K : Int32 → pj_M → Prop}  (h : pw_Mo_waiting u  K) : pj_C l y_Mo_waiting c_Mo_waiting 1 (some .int) rm_Mo_waiting D E b [.ref (b + 217)] u (pj_Ki K) := by
  refine pj_met (own := R_Mo) (by decide +kernel) rfl (Nat.le_of_ble_eq_true rfl) (fun g hE C => ?_)
  unfold pw_Mo_waiting at h
  show pj_J g (pj_N g b u) 0 [some (.ref (b + 217))] []
  exact pj_cut (pj_le_s pj_le_e) (pt_Mo_waiting_0 C hE   h)
/-! Model.message(II)I -/
def rm_Mo_message : Room := { frames := 0, cells := 0, slots := 0, locals := 0 }
def pb_Mo_message_33  (K : Int32 → pj_M → Prop) (u : pj_M)  : Prop := K ((-1)) u
set_option maxHeartbeats 1000000 in
theorem pt_Mo_message_33 {g : pj_G} {b : Nat} (C : pj_X g c_Mo_message 3 R_Mo (some .int) rm_Mo_message) {K : Int32 → pj_M → Prop} (hE : pj_E g b (pj_Ki K))   {u : pj_M}    (h : pb_Mo_message_33  K u ) : pj_J g (pj_N g b u) 33 [none, none, none] [] := by
  unfold pb_Mo_message_33 at h
  refine pj_iconst C d_Mo_message_33 (pc' := 34) rfl (v := (-1)) (by decide) ?_
  exact pj_iret C hE d_Mo_message_34 ⟨_, rfl, h⟩
def pb_Mo_message_89  (K : Int32 → pj_M → Prop) (u : pj_M) (s0 : Int32) : Prop := K s0 u
set_option maxHeartbeats 1000000 in
theorem pt_Mo_message_89 {g : pj_G} {b : Nat} (C : pj_X g c_Mo_message 3 R_Mo (some .int) rm_Mo_message) {K : Int32 → pj_M → Prop} (hE : pj_E g b (pj_Ki K))   {u : pj_M} {s0 : Int32}   (h : pb_Mo_message_89  K u s0) : pj_J g (pj_N g b u) 89 [none, none, none] [.int s0] := by
  unfold pb_Mo_message_89 at h
  exact pj_iret C hE d_Mo_message_89 ⟨_, rfl, h⟩
def pb_Mo_message_76  (K : Int32 → pj_M → Prop) (u : pj_M) (x1 : Int32) (x2 : Int32) : Prop := vp_in (((48 * x1) + x2) - 3) 1920 ∧ (pb_Mo_message_89  K u (u 224 (((48 * x1) + x2) - 3).toNatClampNeg))
set_option maxHeartbeats 1000000 in
theorem pt_Mo_message_76 {g : pj_G} {b : Nat} (C : pj_X g c_Mo_message 3 R_Mo (some .int) rm_Mo_message) {K : Int32 → pj_M → Prop} (hE : pj_E g b (pj_Ki K))   {u : pj_M} {x1 : Int32} {x2 : Int32}   (h : pb_Mo_message_76  K u x1 x2) : pj_J g (pj_N g b u) 76 [some (.ref (b + 217)), some (.int x1), some (.int x2)] [] := by
  unfold pb_Mo_message_76 at h
  refine pj_aload_n C d_Mo_message_76 (pc' := 77) (i := 0) (x := b + 217) rfl rfl rfl ?_
  refine fg_Model_29_Model C tk_217 d_Mo_message_77 (pc' := 80) rfl ?_
  refine pj_bipush C d_Mo_message_80 (pc' := 82) rfl (v := 48) (by decide) ?_
  refine pj_iload_n C d_Mo_message_82 (pc' := 83) (i := 1) (x := x1) rfl rfl rfl ?_
  refine pj_imul C d_Mo_message_83 (pc' := 84) rfl ?_
  refine pj_iload_n C d_Mo_message_84 (pc' := 85) (i := 2) (x := x2) rfl rfl rfl ?_
  refine pj_iadd C d_Mo_message_85 (pc' := 86) rfl ?_
  refine pj_iconst C d_Mo_message_86 (pc' := 87) rfl (v := 3) (by decide) ?_
  refine pj_isub C d_Mo_message_87 (pc' := 88) rfl ?_
  refine pj_iald C (pj_lt tk_224 (by decide)) (fun E u => ka_37 tk_224) d_Mo_message_88 (pc' := 89) rfl h (fun h => ?_)
  exact pj_cut (pj_le_n (pj_le_n (pj_le_n pj_le_e))) (pt_Mo_message_89 C hE   h)
def pb_Mo_message_67  (K : Int32 → pj_M → Prop) (u : pj_M) (x1 : Int32) : Prop := vp_in x1 40 ∧ (pb_Mo_message_89  K u (u 223 x1.toNatClampNeg))
set_option maxHeartbeats 1000000 in
theorem pt_Mo_message_67 {g : pj_G} {b : Nat} (C : pj_X g c_Mo_message 3 R_Mo (some .int) rm_Mo_message) {K : Int32 → pj_M → Prop} (hE : pj_E g b (pj_Ki K))   {u : pj_M} {x1 : Int32}   (h : pb_Mo_message_67  K u x1) : pj_J g (pj_N g b u) 67 [some (.ref (b + 217)), some (.int x1), none] [] := by
  unfold pb_Mo_message_67 at h
  refine pj_aload_n C d_Mo_message_67 (pc' := 68) (i := 0) (x := b + 217) rfl rfl rfl ?_
  refine fg_Model_26_Model C tk_217 d_Mo_message_68 (pc' := 71) rfl ?_
  refine pj_iload_n C d_Mo_message_71 (pc' := 72) (i := 1) (x := x1) rfl rfl rfl ?_
  refine pj_iald C (pj_lt tk_223 (by decide)) (fun E u => ka_21 tk_223) d_Mo_message_72 (pc' := 73) rfl h (fun h => ?_)
  refine pj_goto C d_Mo_message_73 (tgt := 89) (by decide) ?_
  exact pj_cut (pj_le_n (pj_le_n (pj_le_n pj_le_e))) (pt_Mo_message_89 C hE   h)
def pb_Mo_message_62  (K : Int32 → pj_M → Prop) (u : pj_M) (x1 : Int32) (x2 : Int32) : Prop := ((x2 = 2) → (pb_Mo_message_67  K u x1)) ∧ (¬ (x2 = 2) → (pb_Mo_message_76  K u x1 x2))
set_option maxHeartbeats 1000000 in
theorem pt_Mo_message_62 {g : pj_G} {b : Nat} (C : pj_X g c_Mo_message 3 R_Mo (some .int) rm_Mo_message) {K : Int32 → pj_M → Prop} (hE : pj_E g b (pj_Ki K))   {u : pj_M} {x1 : Int32} {x2 : Int32}   (h : pb_Mo_message_62  K u x1 x2) : pj_J g (pj_N g b u) 62 [some (.ref (b + 217)), some (.int x1), some (.int x2)] [] := by
  unfold pb_Mo_message_62 at h
  refine pj_iload_n C d_Mo_message_62 (pc' := 63) (i := 2) (x := x2) rfl rfl rfl ?_
  refine pj_iconst C d_Mo_message_63 (pc' := 64) rfl (v := 2) (by decide) ?_
  refine pj_icmp_ne C d_Mo_message_64 (pc' := 67) rfl (tgt := 76) (by decide) h (fun h => ?_) (fun h => ?_)
  · exact pj_cut (pj_le_s (pj_le_s (pj_le_s pj_le_e))) (pt_Mo_message_76 C hE   h)
  · exact pj_cut (pj_le_s (pj_le_s (pj_le_n pj_le_e))) (pt_Mo_message_67 C hE   h)
def pb_Mo_message_53  (K : Int32 → pj_M → Prop) (u : pj_M) (x1 : Int32) : Prop := vp_in x1 40 ∧ (pb_Mo_message_89  K u (u 222 x1.toNatClampNeg))
set_option maxHeartbeats 1000000 in
theorem pt_Mo_message_53 {g : pj_G} {b : Nat} (C : pj_X g c_Mo_message 3 R_Mo (some .int) rm_Mo_message) {K : Int32 → pj_M → Prop} (hE : pj_E g b (pj_Ki K))   {u : pj_M} {x1 : Int32}   (h : pb_Mo_message_53  K u x1) : pj_J g (pj_N g b u) 53 [some (.ref (b + 217)), some (.int x1), none] [] := by
  unfold pb_Mo_message_53 at h
  refine pj_aload_n C d_Mo_message_53 (pc' := 54) (i := 0) (x := b + 217) rfl rfl rfl ?_
  refine fg_Model_23_Model C tk_217 d_Mo_message_54 (pc' := 57) rfl ?_
  refine pj_iload_n C d_Mo_message_57 (pc' := 58) (i := 1) (x := x1) rfl rfl rfl ?_
  refine pj_iald C (pj_lt tk_222 (by decide)) (fun E u => ka_21 tk_222) d_Mo_message_58 (pc' := 59) rfl h (fun h => ?_)
  refine pj_goto C d_Mo_message_59 (tgt := 89) (by decide) ?_
  exact pj_cut (pj_le_n (pj_le_n (pj_le_n pj_le_e))) (pt_Mo_message_89 C hE   h)
def pb_Mo_message_48  (K : Int32 → pj_M → Prop) (u : pj_M) (x1 : Int32) (x2 : Int32) : Prop := ((x2 = 1) → (pb_Mo_message_53  K u x1)) ∧ (¬ (x2 = 1) → (pb_Mo_message_62  K u x1 x2))
set_option maxHeartbeats 1000000 in
theorem pt_Mo_message_48 {g : pj_G} {b : Nat} (C : pj_X g c_Mo_message 3 R_Mo (some .int) rm_Mo_message) {K : Int32 → pj_M → Prop} (hE : pj_E g b (pj_Ki K))   {u : pj_M} {x1 : Int32} {x2 : Int32}   (h : pb_Mo_message_48  K u x1 x2) : pj_J g (pj_N g b u) 48 [some (.ref (b + 217)), some (.int x1), some (.int x2)] [] := by
  unfold pb_Mo_message_48 at h
  refine pj_iload_n C d_Mo_message_48 (pc' := 49) (i := 2) (x := x2) rfl rfl rfl ?_
  refine pj_iconst C d_Mo_message_49 (pc' := 50) rfl (v := 1) (by decide) ?_
  refine pj_icmp_ne C d_Mo_message_50 (pc' := 53) rfl (tgt := 62) (by decide) h (fun h => ?_) (fun h => ?_)
  · exact pj_cut (pj_le_s (pj_le_s (pj_le_s pj_le_e))) (pt_Mo_message_62 C hE   h)
  · exact pj_cut (pj_le_s (pj_le_s (pj_le_n pj_le_e))) (pt_Mo_message_53 C hE   h)
def pb_Mo_message_39  (K : Int32 → pj_M → Prop) (u : pj_M) (x1 : Int32) : Prop := vp_in x1 40 ∧ (pb_Mo_message_89  K u (u 221 x1.toNatClampNeg))
set_option maxHeartbeats 1000000 in
theorem pt_Mo_message_39 {g : pj_G} {b : Nat} (C : pj_X g c_Mo_message 3 R_Mo (some .int) rm_Mo_message) {K : Int32 → pj_M → Prop} (hE : pj_E g b (pj_Ki K))   {u : pj_M} {x1 : Int32}   (h : pb_Mo_message_39  K u x1) : pj_J g (pj_N g b u) 39 [some (.ref (b + 217)), some (.int x1), none] [] := by
  unfold pb_Mo_message_39 at h
  refine pj_aload_n C d_Mo_message_39 (pc' := 40) (i := 0) (x := b + 217) rfl rfl rfl ?_
  refine fg_Model_20_Model C tk_217 d_Mo_message_40 (pc' := 43) rfl ?_
  refine pj_iload_n C d_Mo_message_43 (pc' := 44) (i := 1) (x := x1) rfl rfl rfl ?_
  refine pj_iald C (pj_lt tk_221 (by decide)) (fun E u => ka_21 tk_221) d_Mo_message_44 (pc' := 45) rfl h (fun h => ?_)
  refine pj_goto C d_Mo_message_45 (tgt := 89) (by decide) ?_
  exact pj_cut (pj_le_n (pj_le_n (pj_le_n pj_le_e))) (pt_Mo_message_89 C hE   h)
def pb_Mo_message_35  (K : Int32 → pj_M → Prop) (u : pj_M) (x1 : Int32) (x2 : Int32) : Prop := ((x2 = 0) → (pb_Mo_message_39  K u x1)) ∧ (¬ (x2 = 0) → (pb_Mo_message_48  K u x1 x2))
set_option maxHeartbeats 1000000 in
theorem pt_Mo_message_35 {g : pj_G} {b : Nat} (C : pj_X g c_Mo_message 3 R_Mo (some .int) rm_Mo_message) {K : Int32 → pj_M → Prop} (hE : pj_E g b (pj_Ki K))   {u : pj_M} {x1 : Int32} {x2 : Int32}   (h : pb_Mo_message_35  K u x1 x2) : pj_J g (pj_N g b u) 35 [some (.ref (b + 217)), some (.int x1), some (.int x2)] [] := by
  unfold pb_Mo_message_35 at h
  refine pj_iload_n C d_Mo_message_35 (pc' := 36) (i := 2) (x := x2) rfl rfl rfl ?_
  refine pj_if_ne C d_Mo_message_36 (pc' := 39) rfl (tgt := 48) (by decide) h (fun h => ?_) (fun h => ?_)
  · exact pj_cut (pj_le_s (pj_le_s (pj_le_s pj_le_e))) (pt_Mo_message_48 C hE   h)
  · exact pj_cut (pj_le_s (pj_le_s (pj_le_n pj_le_e))) (pt_Mo_message_39 C hE   h)
def pb_Mo_message_21  (K : Int32 → pj_M → Prop) (u : pj_M) (x1 : Int32) (x2 : Int32) : Prop := vp_in x1 40 ∧ ((((x2 - 3) < (u 223 x1.toNatClampNeg)) → (pb_Mo_message_35  K u x1 x2)) ∧ (¬ ((x2 - 3) < (u 223 x1.toNatClampNeg)) → (pb_Mo_message_33  K u )))
set_option maxHeartbeats 1000000 in
theorem pt_Mo_message_21 {g : pj_G} {b : Nat} (C : pj_X g c_Mo_message 3 R_Mo (some .int) rm_Mo_message) {K : Int32 → pj_M → Prop} (hE : pj_E g b (pj_Ki K))   {u : pj_M} {x1 : Int32} {x2 : Int32}   (h : pb_Mo_message_21  K u x1 x2) : pj_J g (pj_N g b u) 21 [some (.ref (b + 217)), some (.int x1), some (.int x2)] [] := by
  unfold pb_Mo_message_21 at h
  refine pj_iload_n C d_Mo_message_21 (pc' := 22) (i := 2) (x := x2) rfl rfl rfl ?_
  refine pj_iconst C d_Mo_message_22 (pc' := 23) rfl (v := 3) (by decide) ?_
  refine pj_isub C d_Mo_message_23 (pc' := 24) rfl ?_
  refine pj_aload_n C d_Mo_message_24 (pc' := 25) (i := 0) (x := b + 217) rfl rfl rfl ?_
  refine fg_Model_26_Model C tk_217 d_Mo_message_25 (pc' := 28) rfl ?_
  refine pj_iload_n C d_Mo_message_28 (pc' := 29) (i := 1) (x := x1) rfl rfl rfl ?_
  refine pj_iald C (pj_lt tk_223 (by decide)) (fun E u => ka_21 tk_223) d_Mo_message_29 (pc' := 30) rfl h (fun h => ?_)
  refine pj_icmp_lt C d_Mo_message_30 (pc' := 33) rfl (tgt := 35) (by decide) h (fun h => ?_) (fun h => ?_)
  · exact pj_cut (pj_le_s (pj_le_s (pj_le_s pj_le_e))) (pt_Mo_message_35 C hE   h)
  · exact pj_cut (pj_le_n (pj_le_n (pj_le_n pj_le_e))) (pt_Mo_message_33 C hE   h)
def pb_Mo_message_16  (K : Int32 → pj_M → Prop) (u : pj_M) (x1 : Int32) (x2 : Int32) : Prop := ((x2 ≤ 2) → (pb_Mo_message_35  K u x1 x2)) ∧ (¬ (x2 ≤ 2) → (pb_Mo_message_21  K u x1 x2))
set_option maxHeartbeats 1000000 in
theorem pt_Mo_message_16 {g : pj_G} {b : Nat} (C : pj_X g c_Mo_message 3 R_Mo (some .int) rm_Mo_message) {K : Int32 → pj_M → Prop} (hE : pj_E g b (pj_Ki K))   {u : pj_M} {x1 : Int32} {x2 : Int32}   (h : pb_Mo_message_16  K u x1 x2) : pj_J g (pj_N g b u) 16 [some (.ref (b + 217)), some (.int x1), some (.int x2)] [] := by
  unfold pb_Mo_message_16 at h
  refine pj_iload_n C d_Mo_message_16 (pc' := 17) (i := 2) (x := x2) rfl rfl rfl ?_
  refine pj_iconst C d_Mo_message_17 (pc' := 18) rfl (v := 2) (by decide) ?_
  refine pj_icmp_le C d_Mo_message_18 (pc' := 21) rfl (tgt := 35) (by decide) h (fun h => ?_) (fun h => ?_)
  · exact pj_cut (pj_le_s (pj_le_s (pj_le_s pj_le_e))) (pt_Mo_message_35 C hE   h)
  · exact pj_cut (pj_le_s (pj_le_s (pj_le_s pj_le_e))) (pt_Mo_message_21 C hE   h)
def pb_Mo_message_12  (K : Int32 → pj_M → Prop) (u : pj_M) (x1 : Int32) (x2 : Int32) : Prop := ((x2 < 0) → (pb_Mo_message_33  K u )) ∧ (¬ (x2 < 0) → (pb_Mo_message_16  K u x1 x2))
set_option maxHeartbeats 1000000 in
theorem pt_Mo_message_12 {g : pj_G} {b : Nat} (C : pj_X g c_Mo_message 3 R_Mo (some .int) rm_Mo_message) {K : Int32 → pj_M → Prop} (hE : pj_E g b (pj_Ki K))   {u : pj_M} {x1 : Int32} {x2 : Int32}   (h : pb_Mo_message_12  K u x1 x2) : pj_J g (pj_N g b u) 12 [some (.ref (b + 217)), some (.int x1), some (.int x2)] [] := by
  unfold pb_Mo_message_12 at h
  refine pj_iload_n C d_Mo_message_12 (pc' := 13) (i := 2) (x := x2) rfl rfl rfl ?_
  refine pj_if_lt C d_Mo_message_13 (pc' := 16) rfl (tgt := 33) (by decide) h (fun h => ?_) (fun h => ?_)
  · exact pj_cut (pj_le_n (pj_le_n (pj_le_n pj_le_e))) (pt_Mo_message_33 C hE   h)
  · exact pj_cut (pj_le_s (pj_le_s (pj_le_s pj_le_e))) (pt_Mo_message_16 C hE   h)
def pb_Mo_message_4  (K : Int32 → pj_M → Prop) (u : pj_M) (x1 : Int32) (x2 : Int32) : Prop := (((u 217 4) ≤ x1) → (pb_Mo_message_33  K u )) ∧ (¬ ((u 217 4) ≤ x1) → (pb_Mo_message_12  K u x1 x2))
set_option maxHeartbeats 1000000 in
theorem pt_Mo_message_4 {g : pj_G} {b : Nat} (C : pj_X g c_Mo_message 3 R_Mo (some .int) rm_Mo_message) {K : Int32 → pj_M → Prop} (hE : pj_E g b (pj_Ki K))   {u : pj_M} {x1 : Int32} {x2 : Int32}   (h : pb_Mo_message_4  K u x1 x2) : pj_J g (pj_N g b u) 4 [some (.ref (b + 217)), some (.int x1), some (.int x2)] [] := by
  unfold pb_Mo_message_4 at h
  refine pj_iload_n C d_Mo_message_4 (pc' := 5) (i := 1) (x := x1) rfl rfl rfl ?_
  refine pj_aload_n C d_Mo_message_5 (pc' := 6) (i := 0) (x := b + 217) rfl rfl rfl ?_
  refine fg_Model_230_Model C tk_217 d_Mo_message_6 (pc' := 9) rfl ?_
  refine pj_icmp_ge C d_Mo_message_9 (pc' := 12) rfl (tgt := 33) (by decide) h (fun h => ?_) (fun h => ?_)
  · exact pj_cut (pj_le_n (pj_le_n (pj_le_n pj_le_e))) (pt_Mo_message_33 C hE   h)
  · exact pj_cut (pj_le_s (pj_le_s (pj_le_s pj_le_e))) (pt_Mo_message_12 C hE   h)
def pb_Mo_message_0  (K : Int32 → pj_M → Prop) (u : pj_M) (x1 : Int32) (x2 : Int32) : Prop := ((x1 < 0) → (pb_Mo_message_33  K u )) ∧ (¬ (x1 < 0) → (pb_Mo_message_4  K u x1 x2))
set_option maxHeartbeats 1000000 in
theorem pt_Mo_message_0 {g : pj_G} {b : Nat} (C : pj_X g c_Mo_message 3 R_Mo (some .int) rm_Mo_message) {K : Int32 → pj_M → Prop} (hE : pj_E g b (pj_Ki K))   {u : pj_M} {x1 : Int32} {x2 : Int32}   (h : pb_Mo_message_0  K u x1 x2) : pj_J g (pj_N g b u) 0 [some (.ref (b + 217)), some (.int x1), some (.int x2)] [] := by
  unfold pb_Mo_message_0 at h
  refine pj_iload_n C d_Mo_message_0 (pc' := 1) (i := 1) (x := x1) rfl rfl rfl ?_
  refine pj_if_lt C d_Mo_message_1 (pc' := 4) rfl (tgt := 33) (by decide) h (fun h => ?_) (fun h => ?_)
  · exact pj_cut (pj_le_n (pj_le_n (pj_le_n pj_le_e))) (pt_Mo_message_33 C hE   h)
  · exact pj_cut (pj_le_s (pj_le_s (pj_le_s pj_le_e))) (pt_Mo_message_4 C hE   h)
def pw_Mo_message (u : pj_M) (x1 : Int32) (x2 : Int32) (K : Int32 → pj_M → Prop) : Prop := pb_Mo_message_0  K u x1 x2
theorem pc_Mo_message (l : Launch) (D : va_G) (E : Nat → ClassId) {b : Nat} {u : pj_M} {x1 : Int32} {x2 : Int32} {K : Int32 → pj_M → Prop}  (h : pw_Mo_message u x1 x2 K) : pj_C l y_Mo_message c_Mo_message 3 (some .int) rm_Mo_message D E b [.ref (b + 217), .int x1, .int x2] u (pj_Ki K) := by
  refine pj_met (own := R_Mo) (by decide +kernel) rfl (Nat.le_of_ble_eq_true rfl) (fun g hE C => ?_)
  unfold pw_Mo_message at h
  show pj_J g (pj_N g b u) 0 [some (.ref (b + 217)), some (.int x1), some (.int x2)] []
  exact pj_cut (pj_le_s (pj_le_s (pj_le_s pj_le_e))) (pt_Mo_message_0 C hE   h)
/-! Model.port(II)I -/
def rm_Mo_port : Room := { frames := 0, cells := 0, slots := 0, locals := 0 }
def pb_Mo_port_9  (K : Int32 → pj_M → Prop) (u : pj_M)  : Prop := K ((-2)) u
set_option maxHeartbeats 1000000 in
theorem pt_Mo_port_9 {g : pj_G} {b : Nat} (C : pj_X g c_Mo_port 3 R_Mo (some .int) rm_Mo_port) {K : Int32 → pj_M → Prop} (hE : pj_E g b (pj_Ki K))   {u : pj_M}    (h : pb_Mo_port_9  K u ) : pj_J g (pj_N g b u) 9 [none, none, none] [] := by
  unfold pb_Mo_port_9 at h
  refine pj_bipush C d_Mo_port_9 (pc' := 11) rfl (v := (-2)) (by decide) ?_
  exact pj_iret C hE d_Mo_port_11 ⟨_, rfl, h⟩
def pb_Mo_port_76  (K : Int32 → pj_M → Prop) (u : pj_M) (x1 : Int32) : Prop := vp_in x1 4 ∧ (K (u 259 x1.toNatClampNeg) u)
set_option maxHeartbeats 1000000 in
theorem pt_Mo_port_76 {g : pj_G} {b : Nat} (C : pj_X g c_Mo_port 3 R_Mo (some .int) rm_Mo_port) {K : Int32 → pj_M → Prop} (hE : pj_E g b (pj_Ki K))   {u : pj_M} {x1 : Int32}   (h : pb_Mo_port_76  K u x1) : pj_J g (pj_N g b u) 76 [some (.ref (b + 217)), some (.int x1), none] [] := by
  unfold pb_Mo_port_76 at h
  refine pj_aload_n C d_Mo_port_76 (pc' := 77) (i := 0) (x := b + 217) rfl rfl rfl ?_
  refine fg_Model_134_Model C tk_217 d_Mo_port_77 (pc' := 80) rfl ?_
  refine pj_iload_n C d_Mo_port_80 (pc' := 81) (i := 1) (x := x1) rfl rfl rfl ?_
  refine pj_iald C (pj_lt tk_259 (by decide)) (fun E u => ka_23 tk_259) d_Mo_port_81 (pc' := 82) rfl h (fun h => ?_)
  exact pj_iret C hE d_Mo_port_82 ⟨_, rfl, h⟩
def pb_Mo_port_97  (K : Int32 → pj_M → Prop) (u : pj_M) (s0 : Int32) : Prop := K s0 u
set_option maxHeartbeats 1000000 in
theorem pt_Mo_port_97 {g : pj_G} {b : Nat} (C : pj_X g c_Mo_port 3 R_Mo (some .int) rm_Mo_port) {K : Int32 → pj_M → Prop} (hE : pj_E g b (pj_Ki K))   {u : pj_M} {s0 : Int32}   (h : pb_Mo_port_97  K u s0) : pj_J g (pj_N g b u) 97 [none, none, none] [.int s0] := by
  unfold pb_Mo_port_97 at h
  exact pj_iret C hE d_Mo_port_97 ⟨_, rfl, h⟩
def pb_Mo_port_96  (K : Int32 → pj_M → Prop) (u : pj_M)  : Prop := pb_Mo_port_97  K u 0
set_option maxHeartbeats 1000000 in
theorem pt_Mo_port_96 {g : pj_G} {b : Nat} (C : pj_X g c_Mo_port 3 R_Mo (some .int) rm_Mo_port) {K : Int32 → pj_M → Prop} (hE : pj_E g b (pj_Ki K))   {u : pj_M}    (h : pb_Mo_port_96  K u ) : pj_J g (pj_N g b u) 96 [none, none, none] [] := by
  unfold pb_Mo_port_96 at h
  refine pj_iconst C d_Mo_port_96 (pc' := 97) rfl (v := 0) (by decide) ?_
  exact pj_cut (pj_le_n (pj_le_n (pj_le_n pj_le_e))) (pt_Mo_port_97 C hE   h)
def pb_Mo_port_92  (K : Int32 → pj_M → Prop) (u : pj_M)  : Prop := pb_Mo_port_97  K u 1
set_option maxHeartbeats 1000000 in
theorem pt_Mo_port_92 {g : pj_G} {b : Nat} (C : pj_X g c_Mo_port 3 R_Mo (some .int) rm_Mo_port) {K : Int32 → pj_M → Prop} (hE : pj_E g b (pj_Ki K))   {u : pj_M}    (h : pb_Mo_port_92  K u ) : pj_J g (pj_N g b u) 92 [none, none, none] [] := by
  unfold pb_Mo_port_92 at h
  refine pj_iconst C d_Mo_port_92 (pc' := 93) rfl (v := 1) (by decide) ?_
  refine pj_goto C d_Mo_port_93 (tgt := 97) (by decide) ?_
  exact pj_cut (pj_le_n (pj_le_n (pj_le_n pj_le_e))) (pt_Mo_port_97 C hE   h)
def pb_Mo_port_83  (K : Int32 → pj_M → Prop) (u : pj_M) (x1 : Int32) : Prop := vp_in x1 4 ∧ ((((u 260 x1.toNatClampNeg) = 0) → (pb_Mo_port_96  K u )) ∧ (¬ ((u 260 x1.toNatClampNeg) = 0) → (pb_Mo_port_92  K u )))
set_option maxHeartbeats 1000000 in
theorem pt_Mo_port_83 {g : pj_G} {b : Nat} (C : pj_X g c_Mo_port 3 R_Mo (some .int) rm_Mo_port) {K : Int32 → pj_M → Prop} (hE : pj_E g b (pj_Ki K))   {u : pj_M} {x1 : Int32}   (h : pb_Mo_port_83  K u x1) : pj_J g (pj_N g b u) 83 [some (.ref (b + 217)), some (.int x1), none] [] := by
  unfold pb_Mo_port_83 at h
  refine pj_aload_n C d_Mo_port_83 (pc' := 84) (i := 0) (x := b + 217) rfl rfl rfl ?_
  refine fg_Model_137_Model C tk_217 d_Mo_port_84 (pc' := 87) rfl ?_
  refine pj_iload_n C d_Mo_port_87 (pc' := 88) (i := 1) (x := x1) rfl rfl rfl ?_
  refine pj_zald C (pj_lt tk_260 (by decide)) (fun E u => ka_31 tk_260) d_Mo_port_88 (pc' := 89) rfl h (fun h => ?_)
  refine pj_if_eq C d_Mo_port_89 (pc' := 92) rfl (tgt := 96) (by decide) h (fun h => ?_) (fun h => ?_)
  · exact pj_cut (pj_le_n (pj_le_n (pj_le_n pj_le_e))) (pt_Mo_port_96 C hE   h)
  · exact pj_cut (pj_le_n (pj_le_n (pj_le_n pj_le_e))) (pt_Mo_port_92 C hE   h)
def pb_Mo_port_112  (K : Int32 → pj_M → Prop) (u : pj_M) (s0 : Int32) : Prop := K s0 u
set_option maxHeartbeats 1000000 in
theorem pt_Mo_port_112 {g : pj_G} {b : Nat} (C : pj_X g c_Mo_port 3 R_Mo (some .int) rm_Mo_port) {K : Int32 → pj_M → Prop} (hE : pj_E g b (pj_Ki K))   {u : pj_M} {s0 : Int32}   (h : pb_Mo_port_112  K u s0) : pj_J g (pj_N g b u) 112 [none, none, none] [.int s0] := by
  unfold pb_Mo_port_112 at h
  exact pj_iret C hE d_Mo_port_112 ⟨_, rfl, h⟩
def pb_Mo_port_111  (K : Int32 → pj_M → Prop) (u : pj_M)  : Prop := pb_Mo_port_112  K u 0
set_option maxHeartbeats 1000000 in
theorem pt_Mo_port_111 {g : pj_G} {b : Nat} (C : pj_X g c_Mo_port 3 R_Mo (some .int) rm_Mo_port) {K : Int32 → pj_M → Prop} (hE : pj_E g b (pj_Ki K))   {u : pj_M}    (h : pb_Mo_port_111  K u ) : pj_J g (pj_N g b u) 111 [none, none, none] [] := by
  unfold pb_Mo_port_111 at h
  refine pj_iconst C d_Mo_port_111 (pc' := 112) rfl (v := 0) (by decide) ?_
  exact pj_cut (pj_le_n (pj_le_n (pj_le_n pj_le_e))) (pt_Mo_port_112 C hE   h)
def pb_Mo_port_107  (K : Int32 → pj_M → Prop) (u : pj_M)  : Prop := pb_Mo_port_112  K u 1
set_option maxHeartbeats 1000000 in
theorem pt_Mo_port_107 {g : pj_G} {b : Nat} (C : pj_X g c_Mo_port 3 R_Mo (some .int) rm_Mo_port) {K : Int32 → pj_M → Prop} (hE : pj_E g b (pj_Ki K))   {u : pj_M}    (h : pb_Mo_port_107  K u ) : pj_J g (pj_N g b u) 107 [none, none, none] [] := by
  unfold pb_Mo_port_107 at h
  refine pj_iconst C d_Mo_port_107 (pc' := 108) rfl (v := 1) (by decide) ?_
  refine pj_goto C d_Mo_port_108 (tgt := 112) (by decide) ?_
  exact pj_cut (pj_le_n (pj_le_n (pj_le_n pj_le_e))) (pt_Mo_port_112 C hE   h)
def pb_Mo_port_98  (K : Int32 → pj_M → Prop) (u : pj_M) (x1 : Int32) : Prop := vp_in x1 4 ∧ ((((u 264 x1.toNatClampNeg) = 0) → (pb_Mo_port_111  K u )) ∧ (¬ ((u 264 x1.toNatClampNeg) = 0) → (pb_Mo_port_107  K u )))
set_option maxHeartbeats 1000000 in
theorem pt_Mo_port_98 {g : pj_G} {b : Nat} (C : pj_X g c_Mo_port 3 R_Mo (some .int) rm_Mo_port) {K : Int32 → pj_M → Prop} (hE : pj_E g b (pj_Ki K))   {u : pj_M} {x1 : Int32}   (h : pb_Mo_port_98  K u x1) : pj_J g (pj_N g b u) 98 [some (.ref (b + 217)), some (.int x1), none] [] := by
  unfold pb_Mo_port_98 at h
  refine pj_aload_n C d_Mo_port_98 (pc' := 99) (i := 0) (x := b + 217) rfl rfl rfl ?_
  refine fg_Model_149_Model C tk_217 d_Mo_port_99 (pc' := 102) rfl ?_
  refine pj_iload_n C d_Mo_port_102 (pc' := 103) (i := 1) (x := x1) rfl rfl rfl ?_
  refine pj_zald C (pj_lt tk_264 (by decide)) (fun E u => ka_31 tk_264) d_Mo_port_103 (pc' := 104) rfl h (fun h => ?_)
  refine pj_if_eq C d_Mo_port_104 (pc' := 107) rfl (tgt := 111) (by decide) h (fun h => ?_) (fun h => ?_)
  · exact pj_cut (pj_le_n (pj_le_n (pj_le_n pj_le_e))) (pt_Mo_port_111 C hE   h)
  · exact pj_cut (pj_le_n (pj_le_n (pj_le_n pj_le_e))) (pt_Mo_port_107 C hE   h)
def pb_Mo_port_113  (K : Int32 → pj_M → Prop) (u : pj_M) (x1 : Int32) : Prop := vp_in x1 4 ∧ (K (u 265 x1.toNatClampNeg) u)
set_option maxHeartbeats 1000000 in
theorem pt_Mo_port_113 {g : pj_G} {b : Nat} (C : pj_X g c_Mo_port 3 R_Mo (some .int) rm_Mo_port) {K : Int32 → pj_M → Prop} (hE : pj_E g b (pj_Ki K))   {u : pj_M} {x1 : Int32}   (h : pb_Mo_port_113  K u x1) : pj_J g (pj_N g b u) 113 [some (.ref (b + 217)), some (.int x1), none] [] := by
  unfold pb_Mo_port_113 at h
  refine pj_aload_n C d_Mo_port_113 (pc' := 114) (i := 0) (x := b + 217) rfl rfl rfl ?_
  refine fg_Model_152_Model C tk_217 d_Mo_port_114 (pc' := 117) rfl ?_
  refine pj_iload_n C d_Mo_port_117 (pc' := 118) (i := 1) (x := x1) rfl rfl rfl ?_
  refine pj_iald C (pj_lt tk_265 (by decide)) (fun E u => ka_23 tk_265) d_Mo_port_118 (pc' := 119) rfl h (fun h => ?_)
  exact pj_iret C hE d_Mo_port_119 ⟨_, rfl, h⟩
def pb_Mo_port_120  (K : Int32 → pj_M → Prop) (u : pj_M) (x1 : Int32) : Prop := vp_in x1 4 ∧ (K (u 261 x1.toNatClampNeg) u)
set_option maxHeartbeats 1000000 in
theorem pt_Mo_port_120 {g : pj_G} {b : Nat} (C : pj_X g c_Mo_port 3 R_Mo (some .int) rm_Mo_port) {K : Int32 → pj_M → Prop} (hE : pj_E g b (pj_Ki K))   {u : pj_M} {x1 : Int32}   (h : pb_Mo_port_120  K u x1) : pj_J g (pj_N g b u) 120 [some (.ref (b + 217)), some (.int x1), none] [] := by
  unfold pb_Mo_port_120 at h
  refine pj_aload_n C d_Mo_port_120 (pc' := 121) (i := 0) (x := b + 217) rfl rfl rfl ?_
  refine fg_Model_140_Model C tk_217 d_Mo_port_121 (pc' := 124) rfl ?_
  refine pj_iload_n C d_Mo_port_124 (pc' := 125) (i := 1) (x := x1) rfl rfl rfl ?_
  refine pj_iald C (pj_lt tk_261 (by decide)) (fun E u => ka_23 tk_261) d_Mo_port_125 (pc' := 126) rfl h (fun h => ?_)
  exact pj_iret C hE d_Mo_port_126 ⟨_, rfl, h⟩
def pb_Mo_port_127  (K : Int32 → pj_M → Prop) (u : pj_M) (x1 : Int32) : Prop := vp_in x1 4 ∧ (K (u 271 x1.toNatClampNeg) u)
set_option maxHeartbeats 1000000 in
theorem pt_Mo_port_127 {g : pj_G} {b : Nat} (C : pj_X g c_Mo_port 3 R_Mo (some .int) rm_Mo_port) {K : Int32 → pj_M → Prop} (hE : pj_E g b (pj_Ki K))   {u : pj_M} {x1 : Int32}   (h : pb_Mo_port_127  K u x1) : pj_J g (pj_N g b u) 127 [some (.ref (b + 217)), some (.int x1), none] [] := by
  unfold pb_Mo_port_127 at h
  refine pj_aload_n C d_Mo_port_127 (pc' := 128) (i := 0) (x := b + 217) rfl rfl rfl ?_
  refine fg_Model_170_Model C tk_217 d_Mo_port_128 (pc' := 131) rfl ?_
  refine pj_iload_n C d_Mo_port_131 (pc' := 132) (i := 1) (x := x1) rfl rfl rfl ?_
  refine pj_iald C (pj_lt tk_271 (by decide)) (fun E u => ka_23 tk_271) d_Mo_port_132 (pc' := 133) rfl h (fun h => ?_)
  exact pj_iret C hE d_Mo_port_133 ⟨_, rfl, h⟩
def pb_Mo_port_153  (K : Int32 → pj_M → Prop) (u : pj_M) (s0 : Int32) : Prop := K s0 u
set_option maxHeartbeats 1000000 in
theorem pt_Mo_port_153 {g : pj_G} {b : Nat} (C : pj_X g c_Mo_port 3 R_Mo (some .int) rm_Mo_port) {K : Int32 → pj_M → Prop} (hE : pj_E g b (pj_Ki K))   {u : pj_M} {s0 : Int32}   (h : pb_Mo_port_153  K u s0) : pj_J g (pj_N g b u) 153 [none, none, none] [.int s0] := by
  unfold pb_Mo_port_153 at h
  exact pj_iret C hE d_Mo_port_153 ⟨_, rfl, h⟩
def pb_Mo_port_147  (K : Int32 → pj_M → Prop) (u : pj_M) (x1 : Int32) : Prop := vp_in x1 4 ∧ (pb_Mo_port_153  K u (u 272 x1.toNatClampNeg))
set_option maxHeartbeats 1000000 in
theorem pt_Mo_port_147 {g : pj_G} {b : Nat} (C : pj_X g c_Mo_port 3 R_Mo (some .int) rm_Mo_port) {K : Int32 → pj_M → Prop} (hE : pj_E g b (pj_Ki K))   {u : pj_M} {x1 : Int32}   (h : pb_Mo_port_147  K u x1) : pj_J g (pj_N g b u) 147 [some (.ref (b + 217)), some (.int x1), none] [] := by
  unfold pb_Mo_port_147 at h
  refine pj_aload_n C d_Mo_port_147 (pc' := 148) (i := 0) (x := b + 217) rfl rfl rfl ?_
  refine fg_Model_173_Model C tk_217 d_Mo_port_148 (pc' := 151) rfl ?_
  refine pj_iload_n C d_Mo_port_151 (pc' := 152) (i := 1) (x := x1) rfl rfl rfl ?_
  refine pj_iald C (pj_lt tk_272 (by decide)) (fun E u => ka_23 tk_272) d_Mo_port_152 (pc' := 153) rfl h (fun h => ?_)
  exact pj_cut (pj_le_n (pj_le_n (pj_le_n pj_le_e))) (pt_Mo_port_153 C hE   h)
def pb_Mo_port_143  (K : Int32 → pj_M → Prop) (u : pj_M)  : Prop := pb_Mo_port_153  K u 0
set_option maxHeartbeats 1000000 in
theorem pt_Mo_port_143 {g : pj_G} {b : Nat} (C : pj_X g c_Mo_port 3 R_Mo (some .int) rm_Mo_port) {K : Int32 → pj_M → Prop} (hE : pj_E g b (pj_Ki K))   {u : pj_M}    (h : pb_Mo_port_143  K u ) : pj_J g (pj_N g b u) 143 [none, none, none] [] := by
  unfold pb_Mo_port_143 at h
  refine pj_iconst C d_Mo_port_143 (pc' := 144) rfl (v := 0) (by decide) ?_
  refine pj_goto C d_Mo_port_144 (tgt := 153) (by decide) ?_
  exact pj_cut (pj_le_n (pj_le_n (pj_le_n pj_le_e))) (pt_Mo_port_153 C hE   h)
def pb_Mo_port_134  (K : Int32 → pj_M → Prop) (u : pj_M) (x1 : Int32) : Prop := vp_in x1 4 ∧ (((0 ≤ (u 271 x1.toNatClampNeg)) → (pb_Mo_port_147  K u x1)) ∧ (¬ (0 ≤ (u 271 x1.toNatClampNeg)) → (pb_Mo_port_143  K u )))
set_option maxHeartbeats 1000000 in
theorem pt_Mo_port_134 {g : pj_G} {b : Nat} (C : pj_X g c_Mo_port 3 R_Mo (some .int) rm_Mo_port) {K : Int32 → pj_M → Prop} (hE : pj_E g b (pj_Ki K))   {u : pj_M} {x1 : Int32}   (h : pb_Mo_port_134  K u x1) : pj_J g (pj_N g b u) 134 [some (.ref (b + 217)), some (.int x1), none] [] := by
  unfold pb_Mo_port_134 at h
  refine pj_aload_n C d_Mo_port_134 (pc' := 135) (i := 0) (x := b + 217) rfl rfl rfl ?_
  refine fg_Model_170_Model C tk_217 d_Mo_port_135 (pc' := 138) rfl ?_
  refine pj_iload_n C d_Mo_port_138 (pc' := 139) (i := 1) (x := x1) rfl rfl rfl ?_
  refine pj_iald C (pj_lt tk_271 (by decide)) (fun E u => ka_23 tk_271) d_Mo_port_139 (pc' := 140) rfl h (fun h => ?_)
  refine pj_if_ge C d_Mo_port_140 (pc' := 143) rfl (tgt := 147) (by decide) h (fun h => ?_) (fun h => ?_)
  · exact pj_cut (pj_le_s (pj_le_s (pj_le_n pj_le_e))) (pt_Mo_port_147 C hE   h)
  · exact pj_cut (pj_le_n (pj_le_n (pj_le_n pj_le_e))) (pt_Mo_port_143 C hE   h)
def pb_Mo_port_154  (K : Int32 → pj_M → Prop) (u : pj_M) (x1 : Int32) : Prop := vp_in x1 4 ∧ (K (u 267 x1.toNatClampNeg) u)
set_option maxHeartbeats 1000000 in
theorem pt_Mo_port_154 {g : pj_G} {b : Nat} (C : pj_X g c_Mo_port 3 R_Mo (some .int) rm_Mo_port) {K : Int32 → pj_M → Prop} (hE : pj_E g b (pj_Ki K))   {u : pj_M} {x1 : Int32}   (h : pb_Mo_port_154  K u x1) : pj_J g (pj_N g b u) 154 [some (.ref (b + 217)), some (.int x1), none] [] := by
  unfold pb_Mo_port_154 at h
  refine pj_aload_n C d_Mo_port_154 (pc' := 155) (i := 0) (x := b + 217) rfl rfl rfl ?_
  refine fg_Model_158_Model C tk_217 d_Mo_port_155 (pc' := 158) rfl ?_
  refine pj_iload_n C d_Mo_port_158 (pc' := 159) (i := 1) (x := x1) rfl rfl rfl ?_
  refine pj_iald C (pj_lt tk_267 (by decide)) (fun E u => ka_23 tk_267) d_Mo_port_159 (pc' := 160) rfl h (fun h => ?_)
  exact pj_iret C hE d_Mo_port_160 ⟨_, rfl, h⟩
def pb_Mo_port_161  (K : Int32 → pj_M → Prop) (u : pj_M) (x1 : Int32) : Prop := vp_in x1 4 ∧ (K (u 268 x1.toNatClampNeg) u)
set_option maxHeartbeats 1000000 in
theorem pt_Mo_port_161 {g : pj_G} {b : Nat} (C : pj_X g c_Mo_port 3 R_Mo (some .int) rm_Mo_port) {K : Int32 → pj_M → Prop} (hE : pj_E g b (pj_Ki K))   {u : pj_M} {x1 : Int32}   (h : pb_Mo_port_161  K u x1) : pj_J g (pj_N g b u) 161 [some (.ref (b + 217)), some (.int x1), none] [] := by
  unfold pb_Mo_port_161 at h
  refine pj_aload_n C d_Mo_port_161 (pc' := 162) (i := 0) (x := b + 217) rfl rfl rfl ?_
  refine fg_Model_161_Model C tk_217 d_Mo_port_162 (pc' := 165) rfl ?_
  refine pj_iload_n C d_Mo_port_165 (pc' := 166) (i := 1) (x := x1) rfl rfl rfl ?_
  refine pj_iald C (pj_lt tk_268 (by decide)) (fun E u => ka_23 tk_268) d_Mo_port_166 (pc' := 167) rfl h (fun h => ?_)
  exact pj_iret C hE d_Mo_port_167 ⟨_, rfl, h⟩
def pb_Mo_port_168  (K : Int32 → pj_M → Prop) (u : pj_M) (x1 : Int32) : Prop := vp_in x1 4 ∧ (K (u 269 x1.toNatClampNeg) u)
set_option maxHeartbeats 1000000 in
theorem pt_Mo_port_168 {g : pj_G} {b : Nat} (C : pj_X g c_Mo_port 3 R_Mo (some .int) rm_Mo_port) {K : Int32 → pj_M → Prop} (hE : pj_E g b (pj_Ki K))   {u : pj_M} {x1 : Int32}   (h : pb_Mo_port_168  K u x1) : pj_J g (pj_N g b u) 168 [some (.ref (b + 217)), some (.int x1), none] [] := by
  unfold pb_Mo_port_168 at h
  refine pj_aload_n C d_Mo_port_168 (pc' := 169) (i := 0) (x := b + 217) rfl rfl rfl ?_
  refine fg_Model_164_Model C tk_217 d_Mo_port_169 (pc' := 172) rfl ?_
  refine pj_iload_n C d_Mo_port_172 (pc' := 173) (i := 1) (x := x1) rfl rfl rfl ?_
  refine pj_iald C (pj_lt tk_269 (by decide)) (fun E u => ka_23 tk_269) d_Mo_port_173 (pc' := 174) rfl h (fun h => ?_)
  exact pj_iret C hE d_Mo_port_174 ⟨_, rfl, h⟩
def pb_Mo_port_175  (K : Int32 → pj_M → Prop) (u : pj_M) (x1 : Int32) : Prop := vp_in x1 4 ∧ (K (u 270 x1.toNatClampNeg) u)
set_option maxHeartbeats 1000000 in
theorem pt_Mo_port_175 {g : pj_G} {b : Nat} (C : pj_X g c_Mo_port 3 R_Mo (some .int) rm_Mo_port) {K : Int32 → pj_M → Prop} (hE : pj_E g b (pj_Ki K))   {u : pj_M} {x1 : Int32}   (h : pb_Mo_port_175  K u x1) : pj_J g (pj_N g b u) 175 [some (.ref (b + 217)), some (.int x1), none] [] := by
  unfold pb_Mo_port_175 at h
  refine pj_aload_n C d_Mo_port_175 (pc' := 176) (i := 0) (x := b + 217) rfl rfl rfl ?_
  refine fg_Model_167_Model C tk_217 d_Mo_port_176 (pc' := 179) rfl ?_
  refine pj_iload_n C d_Mo_port_179 (pc' := 180) (i := 1) (x := x1) rfl rfl rfl ?_
  refine pj_iald C (pj_lt tk_270 (by decide)) (fun E u => ka_23 tk_270) d_Mo_port_180 (pc' := 181) rfl h (fun h => ?_)
  exact pj_iret C hE d_Mo_port_181 ⟨_, rfl, h⟩
def pb_Mo_port_182  (K : Int32 → pj_M → Prop) (u : pj_M) (x1 : Int32) : Prop := vp_in x1 4 ∧ (K (u 266 x1.toNatClampNeg) u)
set_option maxHeartbeats 1000000 in
theorem pt_Mo_port_182 {g : pj_G} {b : Nat} (C : pj_X g c_Mo_port 3 R_Mo (some .int) rm_Mo_port) {K : Int32 → pj_M → Prop} (hE : pj_E g b (pj_Ki K))   {u : pj_M} {x1 : Int32}   (h : pb_Mo_port_182  K u x1) : pj_J g (pj_N g b u) 182 [some (.ref (b + 217)), some (.int x1), none] [] := by
  unfold pb_Mo_port_182 at h
  refine pj_aload_n C d_Mo_port_182 (pc' := 183) (i := 0) (x := b + 217) rfl rfl rfl ?_
  refine fg_Model_155_Model C tk_217 d_Mo_port_183 (pc' := 186) rfl ?_
  refine pj_iload_n C d_Mo_port_186 (pc' := 187) (i := 1) (x := x1) rfl rfl rfl ?_
  refine pj_iald C (pj_lt tk_266 (by decide)) (fun E u => ka_23 tk_266) d_Mo_port_187 (pc' := 188) rfl h (fun h => ?_)
  exact pj_iret C hE d_Mo_port_188 ⟨_, rfl, h⟩
def pb_Mo_port_189  (K : Int32 → pj_M → Prop) (u : pj_M)  : Prop := K ((-2)) u
set_option maxHeartbeats 1000000 in
theorem pt_Mo_port_189 {g : pj_G} {b : Nat} (C : pj_X g c_Mo_port 3 R_Mo (some .int) rm_Mo_port) {K : Int32 → pj_M → Prop} (hE : pj_E g b (pj_Ki K))   {u : pj_M}    (h : pb_Mo_port_189  K u ) : pj_J g (pj_N g b u) 189 [none, none, none] [] := by
  unfold pb_Mo_port_189 at h
  refine pj_bipush C d_Mo_port_189 (pc' := 191) rfl (v := (-2)) (by decide) ?_
  exact pj_iret C hE d_Mo_port_191 ⟨_, rfl, h⟩
def pb_Mo_port_12  (K : Int32 → pj_M → Prop) (u : pj_M) (x1 : Int32) (x2 : Int32) : Prop := ((x2 = 0) → (pb_Mo_port_76  K u x1)) ∧ (¬ (x2 = 0) → ((x2 = 1) → (pb_Mo_port_83  K u x1)) ∧ (¬ (x2 = 1) → ((x2 = 2) → (pb_Mo_port_98  K u x1)) ∧ (¬ (x2 = 2) → ((x2 = 3) → (pb_Mo_port_113  K u x1)) ∧ (¬ (x2 = 3) → ((x2 = 4) → (pb_Mo_port_120  K u x1)) ∧ (¬ (x2 = 4) → ((x2 = 5) → (pb_Mo_port_127  K u x1)) ∧ (¬ (x2 = 5) → ((x2 = 6) → (pb_Mo_port_134  K u x1)) ∧ (¬ (x2 = 6) → ((x2 = 7) → (pb_Mo_port_154  K u x1)) ∧ (¬ (x2 = 7) → ((x2 = 8) → (pb_Mo_port_161  K u x1)) ∧ (¬ (x2 = 8) → ((x2 = 9) → (pb_Mo_port_168  K u x1)) ∧ (¬ (x2 = 9) → ((x2 = 10) → (pb_Mo_port_175  K u x1)) ∧ (¬ (x2 = 10) → ((x2 = 11) → (pb_Mo_port_182  K u x1)) ∧ (¬ (x2 = 11) → (pb_Mo_port_189  K u )))))))))))))
set_option maxHeartbeats 1000000 in
theorem pt_Mo_port_12 {g : pj_G} {b : Nat} (C : pj_X g c_Mo_port 3 R_Mo (some .int) rm_Mo_port) {K : Int32 → pj_M → Prop} (hE : pj_E g b (pj_Ki K))   {u : pj_M} {x1 : Int32} {x2 : Int32}   (h : pb_Mo_port_12  K u x1 x2) : pj_J g (pj_N g b u) 12 [some (.ref (b + 217)), some (.int x1), some (.int x2)] [] := by
  unfold pb_Mo_port_12 at h
  refine pj_iload_n C d_Mo_port_12 (pc' := 13) (i := 2) (x := x2) rfl rfl rfl ?_
  by_cases e0 : x2 = 0
  · have h := h.1 e0
    refine pj_tsIn C d_Mo_port_13 (kv := 0) (by rw [e0]; decide) (by decide) (by decide) (tgt := 76) rfl (by decide) ?_
    exact pj_cut (pj_le_s (pj_le_s (pj_le_n pj_le_e))) (pt_Mo_port_76 C hE   h)
  have h := h.2 e0
  by_cases e1 : x2 = 1
  · have h := h.1 e1
    refine pj_tsIn C d_Mo_port_13 (kv := 1) (by rw [e1]; decide) (by decide) (by decide) (tgt := 83) rfl (by decide) ?_
    exact pj_cut (pj_le_s (pj_le_s (pj_le_n pj_le_e))) (pt_Mo_port_83 C hE   h)
  have h := h.2 e1
  by_cases e2 : x2 = 2
  · have h := h.1 e2
    refine pj_tsIn C d_Mo_port_13 (kv := 2) (by rw [e2]; decide) (by decide) (by decide) (tgt := 98) rfl (by decide) ?_
    exact pj_cut (pj_le_s (pj_le_s (pj_le_n pj_le_e))) (pt_Mo_port_98 C hE   h)
  have h := h.2 e2
  by_cases e3 : x2 = 3
  · have h := h.1 e3
    refine pj_tsIn C d_Mo_port_13 (kv := 3) (by rw [e3]; decide) (by decide) (by decide) (tgt := 113) rfl (by decide) ?_
    exact pj_cut (pj_le_s (pj_le_s (pj_le_n pj_le_e))) (pt_Mo_port_113 C hE   h)
  have h := h.2 e3
  by_cases e4 : x2 = 4
  · have h := h.1 e4
    refine pj_tsIn C d_Mo_port_13 (kv := 4) (by rw [e4]; decide) (by decide) (by decide) (tgt := 120) rfl (by decide) ?_
    exact pj_cut (pj_le_s (pj_le_s (pj_le_n pj_le_e))) (pt_Mo_port_120 C hE   h)
  have h := h.2 e4
  by_cases e5 : x2 = 5
  · have h := h.1 e5
    refine pj_tsIn C d_Mo_port_13 (kv := 5) (by rw [e5]; decide) (by decide) (by decide) (tgt := 127) rfl (by decide) ?_
    exact pj_cut (pj_le_s (pj_le_s (pj_le_n pj_le_e))) (pt_Mo_port_127 C hE   h)
  have h := h.2 e5
  by_cases e6 : x2 = 6
  · have h := h.1 e6
    refine pj_tsIn C d_Mo_port_13 (kv := 6) (by rw [e6]; decide) (by decide) (by decide) (tgt := 134) rfl (by decide) ?_
    exact pj_cut (pj_le_s (pj_le_s (pj_le_n pj_le_e))) (pt_Mo_port_134 C hE   h)
  have h := h.2 e6
  by_cases e7 : x2 = 7
  · have h := h.1 e7
    refine pj_tsIn C d_Mo_port_13 (kv := 7) (by rw [e7]; decide) (by decide) (by decide) (tgt := 154) rfl (by decide) ?_
    exact pj_cut (pj_le_s (pj_le_s (pj_le_n pj_le_e))) (pt_Mo_port_154 C hE   h)
  have h := h.2 e7
  by_cases e8 : x2 = 8
  · have h := h.1 e8
    refine pj_tsIn C d_Mo_port_13 (kv := 8) (by rw [e8]; decide) (by decide) (by decide) (tgt := 161) rfl (by decide) ?_
    exact pj_cut (pj_le_s (pj_le_s (pj_le_n pj_le_e))) (pt_Mo_port_161 C hE   h)
  have h := h.2 e8
  by_cases e9 : x2 = 9
  · have h := h.1 e9
    refine pj_tsIn C d_Mo_port_13 (kv := 9) (by rw [e9]; decide) (by decide) (by decide) (tgt := 168) rfl (by decide) ?_
    exact pj_cut (pj_le_s (pj_le_s (pj_le_n pj_le_e))) (pt_Mo_port_168 C hE   h)
  have h := h.2 e9
  by_cases e10 : x2 = 10
  · have h := h.1 e10
    refine pj_tsIn C d_Mo_port_13 (kv := 10) (by rw [e10]; decide) (by decide) (by decide) (tgt := 175) rfl (by decide) ?_
    exact pj_cut (pj_le_s (pj_le_s (pj_le_n pj_le_e))) (pt_Mo_port_175 C hE   h)
  have h := h.2 e10
  by_cases e11 : x2 = 11
  · have h := h.1 e11
    refine pj_tsIn C d_Mo_port_13 (kv := 11) (by rw [e11]; decide) (by decide) (by decide) (tgt := 182) rfl (by decide) ?_
    exact pj_cut (pj_le_s (pj_le_s (pj_le_n pj_le_e))) (pt_Mo_port_182 C hE   h)
  have h := h.2 e11
  have z0 := lv_neT (a := 0) e0 (by decide)
  have z1 := lv_neT (a := 1) e1 (by decide)
  have z2 := lv_neT (a := 2) e2 (by decide)
  have z3 := lv_neT (a := 3) e3 (by decide)
  have z4 := lv_neT (a := 4) e4 (by decide)
  have z5 := lv_neT (a := 5) e5 (by decide)
  have z6 := lv_neT (a := 6) e6 (by decide)
  have z7 := lv_neT (a := 7) e7 (by decide)
  have z8 := lv_neT (a := 8) e8 (by decide)
  have z9 := lv_neT (a := 9) e9 (by decide)
  have z10 := lv_neT (a := 10) e10 (by decide)
  have z11 := lv_neT (a := 11) e11 (by decide)
  refine pj_tsOut C d_Mo_port_13 (by omega) (tgt := 189) (by decide) ?_
  exact pj_cut (pj_le_n (pj_le_n (pj_le_n pj_le_e))) (pt_Mo_port_189 C hE   h)
def pb_Mo_port_4  (K : Int32 → pj_M → Prop) (u : pj_M) (x1 : Int32) (x2 : Int32) : Prop := ((x1 ≤ 3) → (pb_Mo_port_12  K u x1 x2)) ∧ (¬ (x1 ≤ 3) → (pb_Mo_port_9  K u ))
set_option maxHeartbeats 1000000 in
theorem pt_Mo_port_4 {g : pj_G} {b : Nat} (C : pj_X g c_Mo_port 3 R_Mo (some .int) rm_Mo_port) {K : Int32 → pj_M → Prop} (hE : pj_E g b (pj_Ki K))   {u : pj_M} {x1 : Int32} {x2 : Int32}   (h : pb_Mo_port_4  K u x1 x2) : pj_J g (pj_N g b u) 4 [some (.ref (b + 217)), some (.int x1), some (.int x2)] [] := by
  unfold pb_Mo_port_4 at h
  refine pj_iload_n C d_Mo_port_4 (pc' := 5) (i := 1) (x := x1) rfl rfl rfl ?_
  refine pj_iconst C d_Mo_port_5 (pc' := 6) rfl (v := 3) (by decide) ?_
  refine pj_icmp_le C d_Mo_port_6 (pc' := 9) rfl (tgt := 12) (by decide) h (fun h => ?_) (fun h => ?_)
  · exact pj_cut (pj_le_s (pj_le_s (pj_le_s pj_le_e))) (pt_Mo_port_12 C hE   h)
  · exact pj_cut (pj_le_n (pj_le_n (pj_le_n pj_le_e))) (pt_Mo_port_9 C hE   h)
def pb_Mo_port_0  (K : Int32 → pj_M → Prop) (u : pj_M) (x1 : Int32) (x2 : Int32) : Prop := ((x1 < 0) → (pb_Mo_port_9  K u )) ∧ (¬ (x1 < 0) → (pb_Mo_port_4  K u x1 x2))
set_option maxHeartbeats 1000000 in
theorem pt_Mo_port_0 {g : pj_G} {b : Nat} (C : pj_X g c_Mo_port 3 R_Mo (some .int) rm_Mo_port) {K : Int32 → pj_M → Prop} (hE : pj_E g b (pj_Ki K))   {u : pj_M} {x1 : Int32} {x2 : Int32}   (h : pb_Mo_port_0  K u x1 x2) : pj_J g (pj_N g b u) 0 [some (.ref (b + 217)), some (.int x1), some (.int x2)] [] := by
  unfold pb_Mo_port_0 at h
  refine pj_iload_n C d_Mo_port_0 (pc' := 1) (i := 1) (x := x1) rfl rfl rfl ?_
  refine pj_if_lt C d_Mo_port_1 (pc' := 4) rfl (tgt := 9) (by decide) h (fun h => ?_) (fun h => ?_)
  · exact pj_cut (pj_le_n (pj_le_n (pj_le_n pj_le_e))) (pt_Mo_port_9 C hE   h)
  · exact pj_cut (pj_le_s (pj_le_s (pj_le_s pj_le_e))) (pt_Mo_port_4 C hE   h)
def pw_Mo_port (u : pj_M) (x1 : Int32) (x2 : Int32) (K : Int32 → pj_M → Prop) : Prop := pb_Mo_port_0  K u x1 x2
theorem pc_Mo_port (l : Launch) (D : va_G) (E : Nat → ClassId) {b : Nat} {u : pj_M} {x1 : Int32} {x2 : Int32} {K : Int32 → pj_M → Prop}  (h : pw_Mo_port u x1 x2 K) : pj_C l y_Mo_port c_Mo_port 3 (some .int) rm_Mo_port D E b [.ref (b + 217), .int x1, .int x2] u (pj_Ki K) := by
  refine pj_met (own := R_Mo) (by decide +kernel) rfl (Nat.le_of_ble_eq_true rfl) (fun g hE C => ?_)
  unfold pw_Mo_port at h
  show pj_J g (pj_N g b u) 0 [some (.ref (b + 217)), some (.int x1), some (.int x2)] []
  exact pj_cut (pj_le_s (pj_le_s (pj_le_s pj_le_e))) (pt_Mo_port_0 C hE   h)
/-! Model.station(II)I -/
def rm_Mo_station : Room := { frames := 0, cells := 0, slots := 0, locals := 0 }
def pb_Mo_station_9  (K : Int32 → pj_M → Prop) (u : pj_M)  : Prop := K ((-2)) u
set_option maxHeartbeats 1000000 in
theorem pt_Mo_station_9 {g : pj_G} {b : Nat} (C : pj_X g c_Mo_station 3 R_Mo (some .int) rm_Mo_station) {K : Int32 → pj_M → Prop} (hE : pj_E g b (pj_Ki K))   {u : pj_M}    (h : pb_Mo_station_9  K u ) : pj_J g (pj_N g b u) 9 [none, none, none] [] := by
  unfold pb_Mo_station_9 at h
  refine pj_bipush C d_Mo_station_9 (pc' := 11) rfl (v := (-2)) (by decide) ?_
  exact pj_iret C hE d_Mo_station_11 ⟨_, rfl, h⟩
def pb_Mo_station_48  (K : Int32 → pj_M → Prop) (u : pj_M) (x1 : Int32) : Prop := vp_in x1 4 ∧ (K (u 234 x1.toNatClampNeg) u)
set_option maxHeartbeats 1000000 in
theorem pt_Mo_station_48 {g : pj_G} {b : Nat} (C : pj_X g c_Mo_station 3 R_Mo (some .int) rm_Mo_station) {K : Int32 → pj_M → Prop} (hE : pj_E g b (pj_Ki K))   {u : pj_M} {x1 : Int32}   (h : pb_Mo_station_48  K u x1) : pj_J g (pj_N g b u) 48 [some (.ref (b + 217)), some (.int x1), none] [] := by
  unfold pb_Mo_station_48 at h
  refine pj_aload_n C d_Mo_station_48 (pc' := 49) (i := 0) (x := b + 217) rfl rfl rfl ?_
  refine fg_Model_59_Model C tk_217 d_Mo_station_49 (pc' := 52) rfl ?_
  refine pj_iload_n C d_Mo_station_52 (pc' := 53) (i := 1) (x := x1) rfl rfl rfl ?_
  refine pj_iald C (pj_lt tk_234 (by decide)) (fun E u => ka_23 tk_234) d_Mo_station_53 (pc' := 54) rfl h (fun h => ?_)
  exact pj_iret C hE d_Mo_station_54 ⟨_, rfl, h⟩
def pb_Mo_station_69  (K : Int32 → pj_M → Prop) (u : pj_M) (s0 : Int32) : Prop := K s0 u
set_option maxHeartbeats 1000000 in
theorem pt_Mo_station_69 {g : pj_G} {b : Nat} (C : pj_X g c_Mo_station 3 R_Mo (some .int) rm_Mo_station) {K : Int32 → pj_M → Prop} (hE : pj_E g b (pj_Ki K))   {u : pj_M} {s0 : Int32}   (h : pb_Mo_station_69  K u s0) : pj_J g (pj_N g b u) 69 [none, none, none] [.int s0] := by
  unfold pb_Mo_station_69 at h
  exact pj_iret C hE d_Mo_station_69 ⟨_, rfl, h⟩
def pb_Mo_station_68  (K : Int32 → pj_M → Prop) (u : pj_M)  : Prop := pb_Mo_station_69  K u 0
set_option maxHeartbeats 1000000 in
theorem pt_Mo_station_68 {g : pj_G} {b : Nat} (C : pj_X g c_Mo_station 3 R_Mo (some .int) rm_Mo_station) {K : Int32 → pj_M → Prop} (hE : pj_E g b (pj_Ki K))   {u : pj_M}    (h : pb_Mo_station_68  K u ) : pj_J g (pj_N g b u) 68 [none, none, none] [] := by
  unfold pb_Mo_station_68 at h
  refine pj_iconst C d_Mo_station_68 (pc' := 69) rfl (v := 0) (by decide) ?_
  exact pj_cut (pj_le_n (pj_le_n (pj_le_n pj_le_e))) (pt_Mo_station_69 C hE   h)
def pb_Mo_station_64  (K : Int32 → pj_M → Prop) (u : pj_M)  : Prop := pb_Mo_station_69  K u 1
set_option maxHeartbeats 1000000 in
theorem pt_Mo_station_64 {g : pj_G} {b : Nat} (C : pj_X g c_Mo_station 3 R_Mo (some .int) rm_Mo_station) {K : Int32 → pj_M → Prop} (hE : pj_E g b (pj_Ki K))   {u : pj_M}    (h : pb_Mo_station_64  K u ) : pj_J g (pj_N g b u) 64 [none, none, none] [] := by
  unfold pb_Mo_station_64 at h
  refine pj_iconst C d_Mo_station_64 (pc' := 65) rfl (v := 1) (by decide) ?_
  refine pj_goto C d_Mo_station_65 (tgt := 69) (by decide) ?_
  exact pj_cut (pj_le_n (pj_le_n (pj_le_n pj_le_e))) (pt_Mo_station_69 C hE   h)
def pb_Mo_station_55  (K : Int32 → pj_M → Prop) (u : pj_M) (x1 : Int32) : Prop := vp_in x1 4 ∧ ((((u 233 x1.toNatClampNeg) = 0) → (pb_Mo_station_68  K u )) ∧ (¬ ((u 233 x1.toNatClampNeg) = 0) → (pb_Mo_station_64  K u )))
set_option maxHeartbeats 1000000 in
theorem pt_Mo_station_55 {g : pj_G} {b : Nat} (C : pj_X g c_Mo_station 3 R_Mo (some .int) rm_Mo_station) {K : Int32 → pj_M → Prop} (hE : pj_E g b (pj_Ki K))   {u : pj_M} {x1 : Int32}   (h : pb_Mo_station_55  K u x1) : pj_J g (pj_N g b u) 55 [some (.ref (b + 217)), some (.int x1), none] [] := by
  unfold pb_Mo_station_55 at h
  refine pj_aload_n C d_Mo_station_55 (pc' := 56) (i := 0) (x := b + 217) rfl rfl rfl ?_
  refine fg_Model_56_Model C tk_217 d_Mo_station_56 (pc' := 59) rfl ?_
  refine pj_iload_n C d_Mo_station_59 (pc' := 60) (i := 1) (x := x1) rfl rfl rfl ?_
  refine pj_zald C (pj_lt tk_233 (by decide)) (fun E u => ka_31 tk_233) d_Mo_station_60 (pc' := 61) rfl h (fun h => ?_)
  refine pj_if_eq C d_Mo_station_61 (pc' := 64) rfl (tgt := 68) (by decide) h (fun h => ?_) (fun h => ?_)
  · exact pj_cut (pj_le_n (pj_le_n (pj_le_n pj_le_e))) (pt_Mo_station_68 C hE   h)
  · exact pj_cut (pj_le_n (pj_le_n (pj_le_n pj_le_e))) (pt_Mo_station_64 C hE   h)
def pb_Mo_station_94  (K : Int32 → pj_M → Prop) (u : pj_M) (s0 : Int32) : Prop := K s0 u
set_option maxHeartbeats 1000000 in
theorem pt_Mo_station_94 {g : pj_G} {b : Nat} (C : pj_X g c_Mo_station 3 R_Mo (some .int) rm_Mo_station) {K : Int32 → pj_M → Prop} (hE : pj_E g b (pj_Ki K))   {u : pj_M} {s0 : Int32}   (h : pb_Mo_station_94  K u s0) : pj_J g (pj_N g b u) 94 [none, none, none] [.int s0] := by
  unfold pb_Mo_station_94 at h
  exact pj_iret C hE d_Mo_station_94 ⟨_, rfl, h⟩
def pb_Mo_station_83  (K : Int32 → pj_M → Prop) (u : pj_M) (x1 : Int32) : Prop := vp_in ((20 * x1) + 1) 80 ∧ (pb_Mo_station_94  K u (u 232 ((20 * x1) + 1).toNatClampNeg))
set_option maxHeartbeats 1000000 in
theorem pt_Mo_station_83 {g : pj_G} {b : Nat} (C : pj_X g c_Mo_station 3 R_Mo (some .int) rm_Mo_station) {K : Int32 → pj_M → Prop} (hE : pj_E g b (pj_Ki K))   {u : pj_M} {x1 : Int32}   (h : pb_Mo_station_83  K u x1) : pj_J g (pj_N g b u) 83 [some (.ref (b + 217)), some (.int x1), none] [] := by
  unfold pb_Mo_station_83 at h
  refine pj_aload_n C d_Mo_station_83 (pc' := 84) (i := 0) (x := b + 217) rfl rfl rfl ?_
  refine fg_Model_53_Model C tk_217 d_Mo_station_84 (pc' := 87) rfl ?_
  refine pj_bipush C d_Mo_station_87 (pc' := 89) rfl (v := 20) (by decide) ?_
  refine pj_iload_n C d_Mo_station_89 (pc' := 90) (i := 1) (x := x1) rfl rfl rfl ?_
  refine pj_imul C d_Mo_station_90 (pc' := 91) rfl ?_
  refine pj_iconst C d_Mo_station_91 (pc' := 92) rfl (v := 1) (by decide) ?_
  refine pj_iadd C d_Mo_station_92 (pc' := 93) rfl ?_
  refine pj_iald C (pj_lt tk_232 (by decide)) (fun E u => ka_35 tk_232) d_Mo_station_93 (pc' := 94) rfl h (fun h => ?_)
  exact pj_cut (pj_le_n (pj_le_n (pj_le_n pj_le_e))) (pt_Mo_station_94 C hE   h)
def pb_Mo_station_79  (K : Int32 → pj_M → Prop) (u : pj_M)  : Prop := pb_Mo_station_94  K u ((-1))
set_option maxHeartbeats 1000000 in
theorem pt_Mo_station_79 {g : pj_G} {b : Nat} (C : pj_X g c_Mo_station 3 R_Mo (some .int) rm_Mo_station) {K : Int32 → pj_M → Prop} (hE : pj_E g b (pj_Ki K))   {u : pj_M}    (h : pb_Mo_station_79  K u ) : pj_J g (pj_N g b u) 79 [none, none, none] [] := by
  unfold pb_Mo_station_79 at h
  refine pj_iconst C d_Mo_station_79 (pc' := 80) rfl (v := (-1)) (by decide) ?_
  refine pj_goto C d_Mo_station_80 (tgt := 94) (by decide) ?_
  exact pj_cut (pj_le_n (pj_le_n (pj_le_n pj_le_e))) (pt_Mo_station_94 C hE   h)
def pb_Mo_station_70  (K : Int32 → pj_M → Prop) (u : pj_M) (x1 : Int32) : Prop := vp_in x1 4 ∧ ((((u 231 x1.toNatClampNeg) = 0) → (pb_Mo_station_79  K u )) ∧ (¬ ((u 231 x1.toNatClampNeg) = 0) → (pb_Mo_station_83  K u x1)))
set_option maxHeartbeats 1000000 in
theorem pt_Mo_station_70 {g : pj_G} {b : Nat} (C : pj_X g c_Mo_station 3 R_Mo (some .int) rm_Mo_station) {K : Int32 → pj_M → Prop} (hE : pj_E g b (pj_Ki K))   {u : pj_M} {x1 : Int32}   (h : pb_Mo_station_70  K u x1) : pj_J g (pj_N g b u) 70 [some (.ref (b + 217)), some (.int x1), none] [] := by
  unfold pb_Mo_station_70 at h
  refine pj_aload_n C d_Mo_station_70 (pc' := 71) (i := 0) (x := b + 217) rfl rfl rfl ?_
  refine fg_Model_50_Model C tk_217 d_Mo_station_71 (pc' := 74) rfl ?_
  refine pj_iload_n C d_Mo_station_74 (pc' := 75) (i := 1) (x := x1) rfl rfl rfl ?_
  refine pj_iald C (pj_lt tk_231 (by decide)) (fun E u => ka_23 tk_231) d_Mo_station_75 (pc' := 76) rfl h (fun h => ?_)
  refine pj_if_ne C d_Mo_station_76 (pc' := 79) rfl (tgt := 83) (by decide) h (fun h => ?_) (fun h => ?_)
  · exact pj_cut (pj_le_s (pj_le_s (pj_le_n pj_le_e))) (pt_Mo_station_83 C hE   h)
  · exact pj_cut (pj_le_n (pj_le_n (pj_le_n pj_le_e))) (pt_Mo_station_79 C hE   h)
def pb_Mo_station_95  (K : Int32 → pj_M → Prop) (u : pj_M) (x1 : Int32) : Prop := vp_in x1 4 ∧ (K (u 228 x1.toNatClampNeg) u)
set_option maxHeartbeats 1000000 in
theorem pt_Mo_station_95 {g : pj_G} {b : Nat} (C : pj_X g c_Mo_station 3 R_Mo (some .int) rm_Mo_station) {K : Int32 → pj_M → Prop} (hE : pj_E g b (pj_Ki K))   {u : pj_M} {x1 : Int32}   (h : pb_Mo_station_95  K u x1) : pj_J g (pj_N g b u) 95 [some (.ref (b + 217)), some (.int x1), none] [] := by
  unfold pb_Mo_station_95 at h
  refine pj_aload_n C d_Mo_station_95 (pc' := 96) (i := 0) (x := b + 217) rfl rfl rfl ?_
  refine fg_Model_41_Model C tk_217 d_Mo_station_96 (pc' := 99) rfl ?_
  refine pj_iload_n C d_Mo_station_99 (pc' := 100) (i := 1) (x := x1) rfl rfl rfl ?_
  refine pj_iald C (pj_lt tk_228 (by decide)) (fun E u => ka_23 tk_228) d_Mo_station_100 (pc' := 101) rfl h (fun h => ?_)
  exact pj_iret C hE d_Mo_station_101 ⟨_, rfl, h⟩
def pb_Mo_station_102  (K : Int32 → pj_M → Prop) (u : pj_M) (x1 : Int32) : Prop := vp_in x1 4 ∧ (K (u 238 x1.toNatClampNeg) u)
set_option maxHeartbeats 1000000 in
theorem pt_Mo_station_102 {g : pj_G} {b : Nat} (C : pj_X g c_Mo_station 3 R_Mo (some .int) rm_Mo_station) {K : Int32 → pj_M → Prop} (hE : pj_E g b (pj_Ki K))   {u : pj_M} {x1 : Int32}   (h : pb_Mo_station_102  K u x1) : pj_J g (pj_N g b u) 102 [some (.ref (b + 217)), some (.int x1), none] [] := by
  unfold pb_Mo_station_102 at h
  refine pj_aload_n C d_Mo_station_102 (pc' := 103) (i := 0) (x := b + 217) rfl rfl rfl ?_
  refine fg_Model_71_Model C tk_217 d_Mo_station_103 (pc' := 106) rfl ?_
  refine pj_iload_n C d_Mo_station_106 (pc' := 107) (i := 1) (x := x1) rfl rfl rfl ?_
  refine pj_iald C (pj_lt tk_238 (by decide)) (fun E u => ka_23 tk_238) d_Mo_station_107 (pc' := 108) rfl h (fun h => ?_)
  exact pj_iret C hE d_Mo_station_108 ⟨_, rfl, h⟩
def pb_Mo_station_109  (K : Int32 → pj_M → Prop) (u : pj_M)  : Prop := K ((-2)) u
set_option maxHeartbeats 1000000 in
theorem pt_Mo_station_109 {g : pj_G} {b : Nat} (C : pj_X g c_Mo_station 3 R_Mo (some .int) rm_Mo_station) {K : Int32 → pj_M → Prop} (hE : pj_E g b (pj_Ki K))   {u : pj_M}    (h : pb_Mo_station_109  K u ) : pj_J g (pj_N g b u) 109 [none, none, none] [] := by
  unfold pb_Mo_station_109 at h
  refine pj_bipush C d_Mo_station_109 (pc' := 111) rfl (v := (-2)) (by decide) ?_
  exact pj_iret C hE d_Mo_station_111 ⟨_, rfl, h⟩
def pb_Mo_station_12  (K : Int32 → pj_M → Prop) (u : pj_M) (x1 : Int32) (x2 : Int32) : Prop := ((x2 = 0) → (pb_Mo_station_48  K u x1)) ∧ (¬ (x2 = 0) → ((x2 = 1) → (pb_Mo_station_55  K u x1)) ∧ (¬ (x2 = 1) → ((x2 = 2) → (pb_Mo_station_70  K u x1)) ∧ (¬ (x2 = 2) → ((x2 = 3) → (pb_Mo_station_95  K u x1)) ∧ (¬ (x2 = 3) → ((x2 = 4) → (pb_Mo_station_102  K u x1)) ∧ (¬ (x2 = 4) → (pb_Mo_station_109  K u ))))))
set_option maxHeartbeats 1000000 in
theorem pt_Mo_station_12 {g : pj_G} {b : Nat} (C : pj_X g c_Mo_station 3 R_Mo (some .int) rm_Mo_station) {K : Int32 → pj_M → Prop} (hE : pj_E g b (pj_Ki K))   {u : pj_M} {x1 : Int32} {x2 : Int32}   (h : pb_Mo_station_12  K u x1 x2) : pj_J g (pj_N g b u) 12 [some (.ref (b + 217)), some (.int x1), some (.int x2)] [] := by
  unfold pb_Mo_station_12 at h
  refine pj_iload_n C d_Mo_station_12 (pc' := 13) (i := 2) (x := x2) rfl rfl rfl ?_
  by_cases e0 : x2 = 0
  · have h := h.1 e0
    refine pj_tsIn C d_Mo_station_13 (kv := 0) (by rw [e0]; decide) (by decide) (by decide) (tgt := 48) rfl (by decide) ?_
    exact pj_cut (pj_le_s (pj_le_s (pj_le_n pj_le_e))) (pt_Mo_station_48 C hE   h)
  have h := h.2 e0
  by_cases e1 : x2 = 1
  · have h := h.1 e1
    refine pj_tsIn C d_Mo_station_13 (kv := 1) (by rw [e1]; decide) (by decide) (by decide) (tgt := 55) rfl (by decide) ?_
    exact pj_cut (pj_le_s (pj_le_s (pj_le_n pj_le_e))) (pt_Mo_station_55 C hE   h)
  have h := h.2 e1
  by_cases e2 : x2 = 2
  · have h := h.1 e2
    refine pj_tsIn C d_Mo_station_13 (kv := 2) (by rw [e2]; decide) (by decide) (by decide) (tgt := 70) rfl (by decide) ?_
    exact pj_cut (pj_le_s (pj_le_s (pj_le_n pj_le_e))) (pt_Mo_station_70 C hE   h)
  have h := h.2 e2
  by_cases e3 : x2 = 3
  · have h := h.1 e3
    refine pj_tsIn C d_Mo_station_13 (kv := 3) (by rw [e3]; decide) (by decide) (by decide) (tgt := 95) rfl (by decide) ?_
    exact pj_cut (pj_le_s (pj_le_s (pj_le_n pj_le_e))) (pt_Mo_station_95 C hE   h)
  have h := h.2 e3
  by_cases e4 : x2 = 4
  · have h := h.1 e4
    refine pj_tsIn C d_Mo_station_13 (kv := 4) (by rw [e4]; decide) (by decide) (by decide) (tgt := 102) rfl (by decide) ?_
    exact pj_cut (pj_le_s (pj_le_s (pj_le_n pj_le_e))) (pt_Mo_station_102 C hE   h)
  have h := h.2 e4
  have z0 := lv_neT (a := 0) e0 (by decide)
  have z1 := lv_neT (a := 1) e1 (by decide)
  have z2 := lv_neT (a := 2) e2 (by decide)
  have z3 := lv_neT (a := 3) e3 (by decide)
  have z4 := lv_neT (a := 4) e4 (by decide)
  refine pj_tsOut C d_Mo_station_13 (by omega) (tgt := 109) (by decide) ?_
  exact pj_cut (pj_le_n (pj_le_n (pj_le_n pj_le_e))) (pt_Mo_station_109 C hE   h)
def pb_Mo_station_4  (K : Int32 → pj_M → Prop) (u : pj_M) (x1 : Int32) (x2 : Int32) : Prop := ((x1 ≤ 3) → (pb_Mo_station_12  K u x1 x2)) ∧ (¬ (x1 ≤ 3) → (pb_Mo_station_9  K u ))
set_option maxHeartbeats 1000000 in
theorem pt_Mo_station_4 {g : pj_G} {b : Nat} (C : pj_X g c_Mo_station 3 R_Mo (some .int) rm_Mo_station) {K : Int32 → pj_M → Prop} (hE : pj_E g b (pj_Ki K))   {u : pj_M} {x1 : Int32} {x2 : Int32}   (h : pb_Mo_station_4  K u x1 x2) : pj_J g (pj_N g b u) 4 [some (.ref (b + 217)), some (.int x1), some (.int x2)] [] := by
  unfold pb_Mo_station_4 at h
  refine pj_iload_n C d_Mo_station_4 (pc' := 5) (i := 1) (x := x1) rfl rfl rfl ?_
  refine pj_iconst C d_Mo_station_5 (pc' := 6) rfl (v := 3) (by decide) ?_
  refine pj_icmp_le C d_Mo_station_6 (pc' := 9) rfl (tgt := 12) (by decide) h (fun h => ?_) (fun h => ?_)
  · exact pj_cut (pj_le_s (pj_le_s (pj_le_s pj_le_e))) (pt_Mo_station_12 C hE   h)
  · exact pj_cut (pj_le_n (pj_le_n (pj_le_n pj_le_e))) (pt_Mo_station_9 C hE   h)
def pb_Mo_station_0  (K : Int32 → pj_M → Prop) (u : pj_M) (x1 : Int32) (x2 : Int32) : Prop := ((x1 < 0) → (pb_Mo_station_9  K u )) ∧ (¬ (x1 < 0) → (pb_Mo_station_4  K u x1 x2))
set_option maxHeartbeats 1000000 in
theorem pt_Mo_station_0 {g : pj_G} {b : Nat} (C : pj_X g c_Mo_station 3 R_Mo (some .int) rm_Mo_station) {K : Int32 → pj_M → Prop} (hE : pj_E g b (pj_Ki K))   {u : pj_M} {x1 : Int32} {x2 : Int32}   (h : pb_Mo_station_0  K u x1 x2) : pj_J g (pj_N g b u) 0 [some (.ref (b + 217)), some (.int x1), some (.int x2)] [] := by
  unfold pb_Mo_station_0 at h
  refine pj_iload_n C d_Mo_station_0 (pc' := 1) (i := 1) (x := x1) rfl rfl rfl ?_
  refine pj_if_lt C d_Mo_station_1 (pc' := 4) rfl (tgt := 9) (by decide) h (fun h => ?_) (fun h => ?_)
  · exact pj_cut (pj_le_n (pj_le_n (pj_le_n pj_le_e))) (pt_Mo_station_9 C hE   h)
  · exact pj_cut (pj_le_s (pj_le_s (pj_le_s pj_le_e))) (pt_Mo_station_4 C hE   h)
def pw_Mo_station (u : pj_M) (x1 : Int32) (x2 : Int32) (K : Int32 → pj_M → Prop) : Prop := pb_Mo_station_0  K u x1 x2
theorem pc_Mo_station (l : Launch) (D : va_G) (E : Nat → ClassId) {b : Nat} {u : pj_M} {x1 : Int32} {x2 : Int32} {K : Int32 → pj_M → Prop}  (h : pw_Mo_station u x1 x2 K) : pj_C l y_Mo_station c_Mo_station 3 (some .int) rm_Mo_station D E b [.ref (b + 217), .int x1, .int x2] u (pj_Ki K) := by
  refine pj_met (own := R_Mo) (by decide +kernel) rfl (Nat.le_of_ble_eq_true rfl) (fun g hE C => ?_)
  unfold pw_Mo_station at h
  show pj_J g (pj_N g b u) 0 [some (.ref (b + 217)), some (.int x1), some (.int x2)] []
  exact pj_cut (pj_le_s (pj_le_s (pj_le_s pj_le_e))) (pt_Mo_station_0 C hE   h)
/-! Model.server(II)I -/
def rm_Mo_server : Room := { frames := 0, cells := 0, slots := 0, locals := 0 }
def pb_Mo_server_9  (K : Int32 → pj_M → Prop) (u : pj_M)  : Prop := K ((-2)) u
set_option maxHeartbeats 1000000 in
theorem pt_Mo_server_9 {g : pj_G} {b : Nat} (C : pj_X g c_Mo_server 3 R_Mo (some .int) rm_Mo_server) {K : Int32 → pj_M → Prop} (hE : pj_E g b (pj_Ki K))   {u : pj_M}    (h : pb_Mo_server_9  K u ) : pj_J g (pj_N g b u) 9 [none, none, none] [] := by
  unfold pb_Mo_server_9 at h
  refine pj_bipush C d_Mo_server_9 (pc' := 11) rfl (v := (-2)) (by decide) ?_
  exact pj_iret C hE d_Mo_server_11 ⟨_, rfl, h⟩
def pb_Mo_server_58  (K : Int32 → pj_M → Prop) (u : pj_M) (s0 : Int32) : Prop := K s0 u
set_option maxHeartbeats 1000000 in
theorem pt_Mo_server_58 {g : pj_G} {b : Nat} (C : pj_X g c_Mo_server 3 R_Mo (some .int) rm_Mo_server) {K : Int32 → pj_M → Prop} (hE : pj_E g b (pj_Ki K))   {u : pj_M} {s0 : Int32}   (h : pb_Mo_server_58  K u s0) : pj_J g (pj_N g b u) 58 [none, none, none] [.int s0] := by
  unfold pb_Mo_server_58 at h
  exact pj_iret C hE d_Mo_server_58 ⟨_, rfl, h⟩
def pb_Mo_server_57  (K : Int32 → pj_M → Prop) (u : pj_M)  : Prop := pb_Mo_server_58  K u 1
set_option maxHeartbeats 1000000 in
theorem pt_Mo_server_57 {g : pj_G} {b : Nat} (C : pj_X g c_Mo_server 3 R_Mo (some .int) rm_Mo_server) {K : Int32 → pj_M → Prop} (hE : pj_E g b (pj_Ki K))   {u : pj_M}    (h : pb_Mo_server_57  K u ) : pj_J g (pj_N g b u) 57 [none, none, none] [] := by
  unfold pb_Mo_server_57 at h
  refine pj_iconst C d_Mo_server_57 (pc' := 58) rfl (v := 1) (by decide) ?_
  exact pj_cut (pj_le_n (pj_le_n (pj_le_n pj_le_e))) (pt_Mo_server_58 C hE   h)
def pb_Mo_server_53  (K : Int32 → pj_M → Prop) (u : pj_M)  : Prop := pb_Mo_server_58  K u 0
set_option maxHeartbeats 1000000 in
theorem pt_Mo_server_53 {g : pj_G} {b : Nat} (C : pj_X g c_Mo_server 3 R_Mo (some .int) rm_Mo_server) {K : Int32 → pj_M → Prop} (hE : pj_E g b (pj_Ki K))   {u : pj_M}    (h : pb_Mo_server_53  K u ) : pj_J g (pj_N g b u) 53 [none, none, none] [] := by
  unfold pb_Mo_server_53 at h
  refine pj_iconst C d_Mo_server_53 (pc' := 54) rfl (v := 0) (by decide) ?_
  refine pj_goto C d_Mo_server_54 (tgt := 58) (by decide) ?_
  exact pj_cut (pj_le_n (pj_le_n (pj_le_n pj_le_e))) (pt_Mo_server_58 C hE   h)
def pb_Mo_server_44  (K : Int32 → pj_M → Prop) (u : pj_M) (x1 : Int32) : Prop := vp_in x1 2 ∧ ((((u 239 x1.toNatClampNeg) = 0) → (pb_Mo_server_57  K u )) ∧ (¬ ((u 239 x1.toNatClampNeg) = 0) → (pb_Mo_server_53  K u )))
set_option maxHeartbeats 1000000 in
theorem pt_Mo_server_44 {g : pj_G} {b : Nat} (C : pj_X g c_Mo_server 3 R_Mo (some .int) rm_Mo_server) {K : Int32 → pj_M → Prop} (hE : pj_E g b (pj_Ki K))   {u : pj_M} {x1 : Int32}   (h : pb_Mo_server_44  K u x1) : pj_J g (pj_N g b u) 44 [some (.ref (b + 217)), some (.int x1), none] [] := by
  unfold pb_Mo_server_44 at h
  refine pj_aload_n C d_Mo_server_44 (pc' := 45) (i := 0) (x := b + 217) rfl rfl rfl ?_
  refine fg_Model_74_Model C tk_217 d_Mo_server_45 (pc' := 48) rfl ?_
  refine pj_iload_n C d_Mo_server_48 (pc' := 49) (i := 1) (x := x1) rfl rfl rfl ?_
  refine pj_zald C (pj_lt tk_239 (by decide)) (fun E u => ka_32 tk_239) d_Mo_server_49 (pc' := 50) rfl h (fun h => ?_)
  refine pj_if_eq C d_Mo_server_50 (pc' := 53) rfl (tgt := 57) (by decide) h (fun h => ?_) (fun h => ?_)
  · exact pj_cut (pj_le_n (pj_le_n (pj_le_n pj_le_e))) (pt_Mo_server_57 C hE   h)
  · exact pj_cut (pj_le_n (pj_le_n (pj_le_n pj_le_e))) (pt_Mo_server_53 C hE   h)
def pb_Mo_server_59  (K : Int32 → pj_M → Prop) (u : pj_M) (x1 : Int32) : Prop := vp_in x1 2 ∧ (K (u 242 x1.toNatClampNeg) u)
set_option maxHeartbeats 1000000 in
theorem pt_Mo_server_59 {g : pj_G} {b : Nat} (C : pj_X g c_Mo_server 3 R_Mo (some .int) rm_Mo_server) {K : Int32 → pj_M → Prop} (hE : pj_E g b (pj_Ki K))   {u : pj_M} {x1 : Int32}   (h : pb_Mo_server_59  K u x1) : pj_J g (pj_N g b u) 59 [some (.ref (b + 217)), some (.int x1), none] [] := by
  unfold pb_Mo_server_59 at h
  refine pj_aload_n C d_Mo_server_59 (pc' := 60) (i := 0) (x := b + 217) rfl rfl rfl ?_
  refine fg_Model_83_Model C tk_217 d_Mo_server_60 (pc' := 63) rfl ?_
  refine pj_iload_n C d_Mo_server_63 (pc' := 64) (i := 1) (x := x1) rfl rfl rfl ?_
  refine pj_iald C (pj_lt tk_242 (by decide)) (fun E u => ka_33 tk_242) d_Mo_server_64 (pc' := 65) rfl h (fun h => ?_)
  exact pj_iret C hE d_Mo_server_65 ⟨_, rfl, h⟩
def pb_Mo_server_66  (K : Int32 → pj_M → Prop) (u : pj_M) (x1 : Int32) : Prop := vp_in x1 2 ∧ (K (u 240 x1.toNatClampNeg) u)
set_option maxHeartbeats 1000000 in
theorem pt_Mo_server_66 {g : pj_G} {b : Nat} (C : pj_X g c_Mo_server 3 R_Mo (some .int) rm_Mo_server) {K : Int32 → pj_M → Prop} (hE : pj_E g b (pj_Ki K))   {u : pj_M} {x1 : Int32}   (h : pb_Mo_server_66  K u x1) : pj_J g (pj_N g b u) 66 [some (.ref (b + 217)), some (.int x1), none] [] := by
  unfold pb_Mo_server_66 at h
  refine pj_aload_n C d_Mo_server_66 (pc' := 67) (i := 0) (x := b + 217) rfl rfl rfl ?_
  refine fg_Model_77_Model C tk_217 d_Mo_server_67 (pc' := 70) rfl ?_
  refine pj_iload_n C d_Mo_server_70 (pc' := 71) (i := 1) (x := x1) rfl rfl rfl ?_
  refine pj_iald C (pj_lt tk_240 (by decide)) (fun E u => ka_33 tk_240) d_Mo_server_71 (pc' := 72) rfl h (fun h => ?_)
  exact pj_iret C hE d_Mo_server_72 ⟨_, rfl, h⟩
def pb_Mo_server_73  (K : Int32 → pj_M → Prop) (u : pj_M) (x1 : Int32) : Prop := vp_in x1 2 ∧ (K (u 241 x1.toNatClampNeg) u)
set_option maxHeartbeats 1000000 in
theorem pt_Mo_server_73 {g : pj_G} {b : Nat} (C : pj_X g c_Mo_server 3 R_Mo (some .int) rm_Mo_server) {K : Int32 → pj_M → Prop} (hE : pj_E g b (pj_Ki K))   {u : pj_M} {x1 : Int32}   (h : pb_Mo_server_73  K u x1) : pj_J g (pj_N g b u) 73 [some (.ref (b + 217)), some (.int x1), none] [] := by
  unfold pb_Mo_server_73 at h
  refine pj_aload_n C d_Mo_server_73 (pc' := 74) (i := 0) (x := b + 217) rfl rfl rfl ?_
  refine fg_Model_80_Model C tk_217 d_Mo_server_74 (pc' := 77) rfl ?_
  refine pj_iload_n C d_Mo_server_77 (pc' := 78) (i := 1) (x := x1) rfl rfl rfl ?_
  refine pj_iald C (pj_lt tk_241 (by decide)) (fun E u => ka_33 tk_241) d_Mo_server_78 (pc' := 79) rfl h (fun h => ?_)
  exact pj_iret C hE d_Mo_server_79 ⟨_, rfl, h⟩
def pb_Mo_server_80  (K : Int32 → pj_M → Prop) (u : pj_M)  : Prop := K ((-2)) u
set_option maxHeartbeats 1000000 in
theorem pt_Mo_server_80 {g : pj_G} {b : Nat} (C : pj_X g c_Mo_server 3 R_Mo (some .int) rm_Mo_server) {K : Int32 → pj_M → Prop} (hE : pj_E g b (pj_Ki K))   {u : pj_M}    (h : pb_Mo_server_80  K u ) : pj_J g (pj_N g b u) 80 [none, none, none] [] := by
  unfold pb_Mo_server_80 at h
  refine pj_bipush C d_Mo_server_80 (pc' := 82) rfl (v := (-2)) (by decide) ?_
  exact pj_iret C hE d_Mo_server_82 ⟨_, rfl, h⟩
def pb_Mo_server_12  (K : Int32 → pj_M → Prop) (u : pj_M) (x1 : Int32) (x2 : Int32) : Prop := ((x2 = 0) → (pb_Mo_server_44  K u x1)) ∧ (¬ (x2 = 0) → ((x2 = 1) → (pb_Mo_server_59  K u x1)) ∧ (¬ (x2 = 1) → ((x2 = 2) → (pb_Mo_server_66  K u x1)) ∧ (¬ (x2 = 2) → ((x2 = 3) → (pb_Mo_server_73  K u x1)) ∧ (¬ (x2 = 3) → (pb_Mo_server_80  K u )))))
set_option maxHeartbeats 1000000 in
theorem pt_Mo_server_12 {g : pj_G} {b : Nat} (C : pj_X g c_Mo_server 3 R_Mo (some .int) rm_Mo_server) {K : Int32 → pj_M → Prop} (hE : pj_E g b (pj_Ki K))   {u : pj_M} {x1 : Int32} {x2 : Int32}   (h : pb_Mo_server_12  K u x1 x2) : pj_J g (pj_N g b u) 12 [some (.ref (b + 217)), some (.int x1), some (.int x2)] [] := by
  unfold pb_Mo_server_12 at h
  refine pj_iload_n C d_Mo_server_12 (pc' := 13) (i := 2) (x := x2) rfl rfl rfl ?_
  by_cases e0 : x2 = 0
  · have h := h.1 e0
    refine pj_tsIn C d_Mo_server_13 (kv := 0) (by rw [e0]; decide) (by decide) (by decide) (tgt := 44) rfl (by decide) ?_
    exact pj_cut (pj_le_s (pj_le_s (pj_le_n pj_le_e))) (pt_Mo_server_44 C hE   h)
  have h := h.2 e0
  by_cases e1 : x2 = 1
  · have h := h.1 e1
    refine pj_tsIn C d_Mo_server_13 (kv := 1) (by rw [e1]; decide) (by decide) (by decide) (tgt := 59) rfl (by decide) ?_
    exact pj_cut (pj_le_s (pj_le_s (pj_le_n pj_le_e))) (pt_Mo_server_59 C hE   h)
  have h := h.2 e1
  by_cases e2 : x2 = 2
  · have h := h.1 e2
    refine pj_tsIn C d_Mo_server_13 (kv := 2) (by rw [e2]; decide) (by decide) (by decide) (tgt := 66) rfl (by decide) ?_
    exact pj_cut (pj_le_s (pj_le_s (pj_le_n pj_le_e))) (pt_Mo_server_66 C hE   h)
  have h := h.2 e2
  by_cases e3 : x2 = 3
  · have h := h.1 e3
    refine pj_tsIn C d_Mo_server_13 (kv := 3) (by rw [e3]; decide) (by decide) (by decide) (tgt := 73) rfl (by decide) ?_
    exact pj_cut (pj_le_s (pj_le_s (pj_le_n pj_le_e))) (pt_Mo_server_73 C hE   h)
  have h := h.2 e3
  have z0 := lv_neT (a := 0) e0 (by decide)
  have z1 := lv_neT (a := 1) e1 (by decide)
  have z2 := lv_neT (a := 2) e2 (by decide)
  have z3 := lv_neT (a := 3) e3 (by decide)
  refine pj_tsOut C d_Mo_server_13 (by omega) (tgt := 80) (by decide) ?_
  exact pj_cut (pj_le_n (pj_le_n (pj_le_n pj_le_e))) (pt_Mo_server_80 C hE   h)
def pb_Mo_server_4  (K : Int32 → pj_M → Prop) (u : pj_M) (x1 : Int32) (x2 : Int32) : Prop := ((x1 ≤ 1) → (pb_Mo_server_12  K u x1 x2)) ∧ (¬ (x1 ≤ 1) → (pb_Mo_server_9  K u ))
set_option maxHeartbeats 1000000 in
theorem pt_Mo_server_4 {g : pj_G} {b : Nat} (C : pj_X g c_Mo_server 3 R_Mo (some .int) rm_Mo_server) {K : Int32 → pj_M → Prop} (hE : pj_E g b (pj_Ki K))   {u : pj_M} {x1 : Int32} {x2 : Int32}   (h : pb_Mo_server_4  K u x1 x2) : pj_J g (pj_N g b u) 4 [some (.ref (b + 217)), some (.int x1), some (.int x2)] [] := by
  unfold pb_Mo_server_4 at h
  refine pj_iload_n C d_Mo_server_4 (pc' := 5) (i := 1) (x := x1) rfl rfl rfl ?_
  refine pj_iconst C d_Mo_server_5 (pc' := 6) rfl (v := 1) (by decide) ?_
  refine pj_icmp_le C d_Mo_server_6 (pc' := 9) rfl (tgt := 12) (by decide) h (fun h => ?_) (fun h => ?_)
  · exact pj_cut (pj_le_s (pj_le_s (pj_le_s pj_le_e))) (pt_Mo_server_12 C hE   h)
  · exact pj_cut (pj_le_n (pj_le_n (pj_le_n pj_le_e))) (pt_Mo_server_9 C hE   h)
def pb_Mo_server_0  (K : Int32 → pj_M → Prop) (u : pj_M) (x1 : Int32) (x2 : Int32) : Prop := ((x1 < 0) → (pb_Mo_server_9  K u )) ∧ (¬ (x1 < 0) → (pb_Mo_server_4  K u x1 x2))
set_option maxHeartbeats 1000000 in
theorem pt_Mo_server_0 {g : pj_G} {b : Nat} (C : pj_X g c_Mo_server 3 R_Mo (some .int) rm_Mo_server) {K : Int32 → pj_M → Prop} (hE : pj_E g b (pj_Ki K))   {u : pj_M} {x1 : Int32} {x2 : Int32}   (h : pb_Mo_server_0  K u x1 x2) : pj_J g (pj_N g b u) 0 [some (.ref (b + 217)), some (.int x1), some (.int x2)] [] := by
  unfold pb_Mo_server_0 at h
  refine pj_iload_n C d_Mo_server_0 (pc' := 1) (i := 1) (x := x1) rfl rfl rfl ?_
  refine pj_if_lt C d_Mo_server_1 (pc' := 4) rfl (tgt := 9) (by decide) h (fun h => ?_) (fun h => ?_)
  · exact pj_cut (pj_le_n (pj_le_n (pj_le_n pj_le_e))) (pt_Mo_server_9 C hE   h)
  · exact pj_cut (pj_le_s (pj_le_s (pj_le_s pj_le_e))) (pt_Mo_server_4 C hE   h)
def pw_Mo_server (u : pj_M) (x1 : Int32) (x2 : Int32) (K : Int32 → pj_M → Prop) : Prop := pb_Mo_server_0  K u x1 x2
theorem pc_Mo_server (l : Launch) (D : va_G) (E : Nat → ClassId) {b : Nat} {u : pj_M} {x1 : Int32} {x2 : Int32} {K : Int32 → pj_M → Prop}  (h : pw_Mo_server u x1 x2 K) : pj_C l y_Mo_server c_Mo_server 3 (some .int) rm_Mo_server D E b [.ref (b + 217), .int x1, .int x2] u (pj_Ki K) := by
  refine pj_met (own := R_Mo) (by decide +kernel) rfl (Nat.le_of_ble_eq_true rfl) (fun g hE C => ?_)
  unfold pw_Mo_server at h
  show pj_J g (pj_N g b u) 0 [some (.ref (b + 217)), some (.int x1), some (.int x2)] []
  exact pj_cut (pj_le_s (pj_le_s (pj_le_s pj_le_e))) (pt_Mo_server_0 C hE   h)
/-! Model.wrong(I)I -/
def rm_Mo_wrong : Room := { frames := 0, cells := 0, slots := 0, locals := 0 }
def pb_Mo_wrong_19  (K : Int32 → pj_M → Prop) (u : pj_M) (s0 : Int32) : Prop := K s0 u
set_option maxHeartbeats 1000000 in
theorem pt_Mo_wrong_19 {g : pj_G} {b : Nat} (C : pj_X g c_Mo_wrong 2 R_Mo (some .int) rm_Mo_wrong) {K : Int32 → pj_M → Prop} (hE : pj_E g b (pj_Ki K))   {u : pj_M} {s0 : Int32}   (h : pb_Mo_wrong_19  K u s0) : pj_J g (pj_N g b u) 19 [none, none] [.int s0] := by
  unfold pb_Mo_wrong_19 at h
  exact pj_iret C hE d_Mo_wrong_19 ⟨_, rfl, h⟩
def pb_Mo_wrong_9  (K : Int32 → pj_M → Prop) (u : pj_M)  : Prop := pb_Mo_wrong_19  K u ((-1))
set_option maxHeartbeats 1000000 in
theorem pt_Mo_wrong_9 {g : pj_G} {b : Nat} (C : pj_X g c_Mo_wrong 2 R_Mo (some .int) rm_Mo_wrong) {K : Int32 → pj_M → Prop} (hE : pj_E g b (pj_Ki K))   {u : pj_M}    (h : pb_Mo_wrong_9  K u ) : pj_J g (pj_N g b u) 9 [none, none] [] := by
  unfold pb_Mo_wrong_9 at h
  refine pj_iconst C d_Mo_wrong_9 (pc' := 10) rfl (v := (-1)) (by decide) ?_
  refine pj_goto C d_Mo_wrong_10 (tgt := 19) (by decide) ?_
  exact pj_cut (pj_le_n (pj_le_n pj_le_e)) (pt_Mo_wrong_19 C hE   h)
def pb_Mo_wrong_13  (K : Int32 → pj_M → Prop) (u : pj_M) (x1 : Int32) : Prop := vp_in x1 3 ∧ (pb_Mo_wrong_19  K u (u 277 x1.toNatClampNeg))
set_option maxHeartbeats 1000000 in
theorem pt_Mo_wrong_13 {g : pj_G} {b : Nat} (C : pj_X g c_Mo_wrong 2 R_Mo (some .int) rm_Mo_wrong) {K : Int32 → pj_M → Prop} (hE : pj_E g b (pj_Ki K))   {u : pj_M} {x1 : Int32}   (h : pb_Mo_wrong_13  K u x1) : pj_J g (pj_N g b u) 13 [some (.ref (b + 217)), some (.int x1)] [] := by
  unfold pb_Mo_wrong_13 at h
  refine pj_aload_n C d_Mo_wrong_13 (pc' := 14) (i := 0) (x := b + 217) rfl rfl rfl ?_
  refine fg_Model_188_Model C tk_217 d_Mo_wrong_14 (pc' := 17) rfl ?_
  refine pj_iload_n C d_Mo_wrong_17 (pc' := 18) (i := 1) (x := x1) rfl rfl rfl ?_
  refine pj_iald C (pj_lt tk_277 (by decide)) (fun E u => ka_34 tk_277) d_Mo_wrong_18 (pc' := 19) rfl h (fun h => ?_)
  exact pj_cut (pj_le_n (pj_le_n pj_le_e)) (pt_Mo_wrong_19 C hE   h)
def pb_Mo_wrong_4  (K : Int32 → pj_M → Prop) (u : pj_M) (x1 : Int32) : Prop := ((x1 ≤ 2) → (pb_Mo_wrong_13  K u x1)) ∧ (¬ (x1 ≤ 2) → (pb_Mo_wrong_9  K u ))
set_option maxHeartbeats 1000000 in
theorem pt_Mo_wrong_4 {g : pj_G} {b : Nat} (C : pj_X g c_Mo_wrong 2 R_Mo (some .int) rm_Mo_wrong) {K : Int32 → pj_M → Prop} (hE : pj_E g b (pj_Ki K))   {u : pj_M} {x1 : Int32}   (h : pb_Mo_wrong_4  K u x1) : pj_J g (pj_N g b u) 4 [some (.ref (b + 217)), some (.int x1)] [] := by
  unfold pb_Mo_wrong_4 at h
  refine pj_iload_n C d_Mo_wrong_4 (pc' := 5) (i := 1) (x := x1) rfl rfl rfl ?_
  refine pj_iconst C d_Mo_wrong_5 (pc' := 6) rfl (v := 2) (by decide) ?_
  refine pj_icmp_le C d_Mo_wrong_6 (pc' := 9) rfl (tgt := 13) (by decide) h (fun h => ?_) (fun h => ?_)
  · exact pj_cut (pj_le_s (pj_le_s pj_le_e)) (pt_Mo_wrong_13 C hE   h)
  · exact pj_cut (pj_le_n (pj_le_n pj_le_e)) (pt_Mo_wrong_9 C hE   h)
def pb_Mo_wrong_0  (K : Int32 → pj_M → Prop) (u : pj_M) (x1 : Int32) : Prop := ((x1 < 0) → (pb_Mo_wrong_9  K u )) ∧ (¬ (x1 < 0) → (pb_Mo_wrong_4  K u x1))
set_option maxHeartbeats 1000000 in
theorem pt_Mo_wrong_0 {g : pj_G} {b : Nat} (C : pj_X g c_Mo_wrong 2 R_Mo (some .int) rm_Mo_wrong) {K : Int32 → pj_M → Prop} (hE : pj_E g b (pj_Ki K))   {u : pj_M} {x1 : Int32}   (h : pb_Mo_wrong_0  K u x1) : pj_J g (pj_N g b u) 0 [some (.ref (b + 217)), some (.int x1)] [] := by
  unfold pb_Mo_wrong_0 at h
  refine pj_iload_n C d_Mo_wrong_0 (pc' := 1) (i := 1) (x := x1) rfl rfl rfl ?_
  refine pj_if_lt C d_Mo_wrong_1 (pc' := 4) rfl (tgt := 9) (by decide) h (fun h => ?_) (fun h => ?_)
  · exact pj_cut (pj_le_n (pj_le_n pj_le_e)) (pt_Mo_wrong_9 C hE   h)
  · exact pj_cut (pj_le_s (pj_le_s pj_le_e)) (pt_Mo_wrong_4 C hE   h)
def pw_Mo_wrong (u : pj_M) (x1 : Int32) (K : Int32 → pj_M → Prop) : Prop := pb_Mo_wrong_0  K u x1
theorem pc_Mo_wrong (l : Launch) (D : va_G) (E : Nat → ClassId) {b : Nat} {u : pj_M} {x1 : Int32} {K : Int32 → pj_M → Prop}  (h : pw_Mo_wrong u x1 K) : pj_C l y_Mo_wrong c_Mo_wrong 2 (some .int) rm_Mo_wrong D E b [.ref (b + 217), .int x1] u (pj_Ki K) := by
  refine pj_met (own := R_Mo) (by decide +kernel) rfl (Nat.le_of_ble_eq_true rfl) (fun g hE C => ?_)
  unfold pw_Mo_wrong at h
  show pj_J g (pj_N g b u) 0 [some (.ref (b + 217)), some (.int x1)] []
  exact pj_cut (pj_le_s (pj_le_s pj_le_e)) (pt_Mo_wrong_0 C hE   h)
/-! Model.learned(I)I -/
def rm_Mo_learned : Room := { frames := 0, cells := 0, slots := 0, locals := 0 }
def pb_Mo_learned_20  (K : Int32 → pj_M → Prop) (u : pj_M) (s0 : Int32) : Prop := K s0 u
set_option maxHeartbeats 1000000 in
theorem pt_Mo_learned_20 {g : pj_G} {b : Nat} (C : pj_X g c_Mo_learned 2 R_Mo (some .int) rm_Mo_learned) {K : Int32 → pj_M → Prop} (hE : pj_E g b (pj_Ki K))   {u : pj_M} {s0 : Int32}   (h : pb_Mo_learned_20  K u s0) : pj_J g (pj_N g b u) 20 [none, none] [.int s0] := by
  unfold pb_Mo_learned_20 at h
  exact pj_iret C hE d_Mo_learned_20 ⟨_, rfl, h⟩
def pb_Mo_learned_10  (K : Int32 → pj_M → Prop) (u : pj_M)  : Prop := pb_Mo_learned_20  K u ((-1))
set_option maxHeartbeats 1000000 in
theorem pt_Mo_learned_10 {g : pj_G} {b : Nat} (C : pj_X g c_Mo_learned 2 R_Mo (some .int) rm_Mo_learned) {K : Int32 → pj_M → Prop} (hE : pj_E g b (pj_Ki K))   {u : pj_M}    (h : pb_Mo_learned_10  K u ) : pj_J g (pj_N g b u) 10 [none, none] [] := by
  unfold pb_Mo_learned_10 at h
  refine pj_iconst C d_Mo_learned_10 (pc' := 11) rfl (v := (-1)) (by decide) ?_
  refine pj_goto C d_Mo_learned_11 (tgt := 20) (by decide) ?_
  exact pj_cut (pj_le_n (pj_le_n pj_le_e)) (pt_Mo_learned_20 C hE   h)
def pb_Mo_learned_14  (K : Int32 → pj_M → Prop) (u : pj_M) (x1 : Int32) : Prop := vp_in x1 8 ∧ (pb_Mo_learned_20  K u (u 278 x1.toNatClampNeg))
set_option maxHeartbeats 1000000 in
theorem pt_Mo_learned_14 {g : pj_G} {b : Nat} (C : pj_X g c_Mo_learned 2 R_Mo (some .int) rm_Mo_learned) {K : Int32 → pj_M → Prop} (hE : pj_E g b (pj_Ki K))   {u : pj_M} {x1 : Int32}   (h : pb_Mo_learned_14  K u x1) : pj_J g (pj_N g b u) 14 [some (.ref (b + 217)), some (.int x1)] [] := by
  unfold pb_Mo_learned_14 at h
  refine pj_aload_n C d_Mo_learned_14 (pc' := 15) (i := 0) (x := b + 217) rfl rfl rfl ?_
  refine fg_Model_191_Model C tk_217 d_Mo_learned_15 (pc' := 18) rfl ?_
  refine pj_iload_n C d_Mo_learned_18 (pc' := 19) (i := 1) (x := x1) rfl rfl rfl ?_
  refine pj_iald C (pj_lt tk_278 (by decide)) (fun E u => ka_20 tk_278) d_Mo_learned_19 (pc' := 20) rfl h (fun h => ?_)
  exact pj_cut (pj_le_n (pj_le_n pj_le_e)) (pt_Mo_learned_20 C hE   h)
def pb_Mo_learned_4  (K : Int32 → pj_M → Prop) (u : pj_M) (x1 : Int32) : Prop := ((x1 ≤ 7) → (pb_Mo_learned_14  K u x1)) ∧ (¬ (x1 ≤ 7) → (pb_Mo_learned_10  K u ))
set_option maxHeartbeats 1000000 in
theorem pt_Mo_learned_4 {g : pj_G} {b : Nat} (C : pj_X g c_Mo_learned 2 R_Mo (some .int) rm_Mo_learned) {K : Int32 → pj_M → Prop} (hE : pj_E g b (pj_Ki K))   {u : pj_M} {x1 : Int32}   (h : pb_Mo_learned_4  K u x1) : pj_J g (pj_N g b u) 4 [some (.ref (b + 217)), some (.int x1)] [] := by
  unfold pb_Mo_learned_4 at h
  refine pj_iload_n C d_Mo_learned_4 (pc' := 5) (i := 1) (x := x1) rfl rfl rfl ?_
  refine pj_bipush C d_Mo_learned_5 (pc' := 7) rfl (v := 7) (by decide) ?_
  refine pj_icmp_le C d_Mo_learned_7 (pc' := 10) rfl (tgt := 14) (by decide) h (fun h => ?_) (fun h => ?_)
  · exact pj_cut (pj_le_s (pj_le_s pj_le_e)) (pt_Mo_learned_14 C hE   h)
  · exact pj_cut (pj_le_n (pj_le_n pj_le_e)) (pt_Mo_learned_10 C hE   h)
def pb_Mo_learned_0  (K : Int32 → pj_M → Prop) (u : pj_M) (x1 : Int32) : Prop := ((x1 < 0) → (pb_Mo_learned_10  K u )) ∧ (¬ (x1 < 0) → (pb_Mo_learned_4  K u x1))
set_option maxHeartbeats 1000000 in
theorem pt_Mo_learned_0 {g : pj_G} {b : Nat} (C : pj_X g c_Mo_learned 2 R_Mo (some .int) rm_Mo_learned) {K : Int32 → pj_M → Prop} (hE : pj_E g b (pj_Ki K))   {u : pj_M} {x1 : Int32}   (h : pb_Mo_learned_0  K u x1) : pj_J g (pj_N g b u) 0 [some (.ref (b + 217)), some (.int x1)] [] := by
  unfold pb_Mo_learned_0 at h
  refine pj_iload_n C d_Mo_learned_0 (pc' := 1) (i := 1) (x := x1) rfl rfl rfl ?_
  refine pj_if_lt C d_Mo_learned_1 (pc' := 4) rfl (tgt := 10) (by decide) h (fun h => ?_) (fun h => ?_)
  · exact pj_cut (pj_le_n (pj_le_n pj_le_e)) (pt_Mo_learned_10 C hE   h)
  · exact pj_cut (pj_le_s (pj_le_s pj_le_e)) (pt_Mo_learned_4 C hE   h)
def pw_Mo_learned (u : pj_M) (x1 : Int32) (K : Int32 → pj_M → Prop) : Prop := pb_Mo_learned_0  K u x1
theorem pc_Mo_learned (l : Launch) (D : va_G) (E : Nat → ClassId) {b : Nat} {u : pj_M} {x1 : Int32} {K : Int32 → pj_M → Prop}  (h : pw_Mo_learned u x1 K) : pj_C l y_Mo_learned c_Mo_learned 2 (some .int) rm_Mo_learned D E b [.ref (b + 217), .int x1] u (pj_Ki K) := by
  refine pj_met (own := R_Mo) (by decide +kernel) rfl (Nat.le_of_ble_eq_true rfl) (fun g hE C => ?_)
  unfold pw_Mo_learned at h
  show pj_J g (pj_N g b u) 0 [some (.ref (b + 217)), some (.int x1)] []
  exact pj_cut (pj_le_s (pj_le_s pj_le_e)) (pt_Mo_learned_0 C hE   h)
/-! Model.favourite()I -/
def rm_Mo_favourite : Room := { frames := 0, cells := 0, slots := 0, locals := 0 }
def pb_Mo_favourite_0  (K : Int32 → pj_M → Prop) (u : pj_M)  : Prop := K (u 217 69) u
set_option maxHeartbeats 1000000 in
theorem pt_Mo_favourite_0 {g : pj_G} {b : Nat} (C : pj_X g c_Mo_favourite 1 R_Mo (some .int) rm_Mo_favourite) {K : Int32 → pj_M → Prop} (hE : pj_E g b (pj_Ki K))   {u : pj_M}    (h : pb_Mo_favourite_0  K u ) : pj_J g (pj_N g b u) 0 [some (.ref (b + 217))] [] := by
  unfold pb_Mo_favourite_0 at h
  refine pj_aload_n C d_Mo_favourite_0 (pc' := 1) (i := 0) (x := b + 217) rfl rfl rfl ?_
  refine fg_Model_366_Model C tk_217 d_Mo_favourite_1 (pc' := 4) rfl ?_
  exact pj_iret C hE d_Mo_favourite_4 ⟨_, rfl, h⟩
def pw_Mo_favourite (u : pj_M)  (K : Int32 → pj_M → Prop) : Prop := pb_Mo_favourite_0  K u 
theorem pc_Mo_favourite (l : Launch) (D : va_G) (E : Nat → ClassId) {b : Nat} {u : pj_M}  {K : Int32 → pj_M → Prop}  (h : pw_Mo_favourite u  K) : pj_C l y_Mo_favourite c_Mo_favourite 1 (some .int) rm_Mo_favourite D E b [.ref (b + 217)] u (pj_Ki K) := by
  refine pj_met (own := R_Mo) (by decide +kernel) rfl (Nat.le_of_ble_eq_true rfl) (fun g hE C => ?_)
  unfold pw_Mo_favourite at h
  show pj_J g (pj_N g b u) 0 [some (.ref (b + 217))] []
  exact pj_cut (pj_le_s pj_le_e) (pt_Mo_favourite_0 C hE   h)
