/-! Digest.addByte(II)I -/
def rm_Di_addByte : Room := { frames := 0, cells := 0, slots := 0, locals := 0 }
def pb_Di_addByte_0  (K : Int32 → pj_M → Prop) (u : pj_M) (x0 : Int32) (x1 : Int32) : Prop := K ((x0 ^^^ (x1 &&& 255)) * 16777619) u
set_option maxHeartbeats 1000000 in
theorem pt_Di_addByte_0 {g : pj_G} {b : Nat} (C : pj_X g c_Di_addByte 2 R_Di (some .int) rm_Di_addByte) {K : Int32 → pj_M → Prop} (hE : pj_E g b (pj_Ki K))   {u : pj_M} {x0 : Int32} {x1 : Int32}   (h : pb_Di_addByte_0  K u x0 x1) : pj_J g (pj_N g b u) 0 [some (.int x0), some (.int x1)] [] := by
  unfold pb_Di_addByte_0 at h
  refine pj_iload_n C d_Di_addByte_0 (pc' := 1) (i := 0) (x := x0) rfl rfl rfl ?_
  refine pj_iload_n C d_Di_addByte_1 (pc' := 2) (i := 1) (x := x1) rfl rfl rfl ?_
  refine pj_sipush C d_Di_addByte_2 (pc' := 5) rfl (v := 255) (by decide) ?_
  refine pj_iand C d_Di_addByte_5 (pc' := 6) rfl ?_
  refine pj_ixor C d_Di_addByte_6 (pc' := 7) rfl ?_
  refine pj_ldc C d_Di_addByte_7 (pc' := 9) rfl (v := 16777619) wm_755 ?_
  refine pj_imul C d_Di_addByte_9 (pc' := 10) rfl ?_
  exact pj_iret C hE d_Di_addByte_10 ⟨_, rfl, h⟩
def pw_Di_addByte (u : pj_M) (x0 : Int32) (x1 : Int32) (K : Int32 → pj_M → Prop) : Prop := pb_Di_addByte_0  K u x0 x1
theorem pc_Di_addByte (l : Launch) (D : va_G) (E : Nat → ClassId) {b : Nat} {u : pj_M} {x0 : Int32} {x1 : Int32} {K : Int32 → pj_M → Prop}  (h : pw_Di_addByte u x0 x1 K) : pj_C l y_Di_addByte c_Di_addByte 2 (some .int) rm_Di_addByte D E b [.int x0, .int x1] u (pj_Ki K) := by
  refine pj_met (own := R_Di) (by decide +kernel) rfl (Nat.le_of_ble_eq_true rfl) (fun g hE C => ?_)
  unfold pw_Di_addByte at h
  show pj_J g (pj_N g b u) 0 [some (.int x0), some (.int x1)] []
  exact pj_cut (pj_le_s (pj_le_s pj_le_e)) (pt_Di_addByte_0 C hE   h)
/-! Digest.addInt(II)I -/
def rm_Di_addInt : Room := { frames := 0, cells := 0, slots := 0, locals := 0 }
def pb_Di_addInt_28  (K : Int32 → pj_M → Prop) (u : pj_M) (x2 : Int32) : Prop := K x2 u
set_option maxHeartbeats 1000000 in
theorem pt_Di_addInt_28 {g : pj_G} {b : Nat} (C : pj_X g c_Di_addInt 4 R_Di (some .int) rm_Di_addInt) {K : Int32 → pj_M → Prop} (hE : pj_E g b (pj_Ki K))   {u : pj_M} {x2 : Int32}   (h : pb_Di_addInt_28  K u x2) : pj_J g (pj_N g b u) 28 [none, none, some (.int x2), none] [] := by
  unfold pb_Di_addInt_28 at h
  refine pj_iload_n C d_Di_addInt_28 (pc' := 29) (i := 2) (x := x2) rfl rfl rfl ?_
  exact pj_iret C hE d_Di_addInt_29 ⟨_, rfl, h⟩
def pb_Di_addInt_9 (R5 : pj_M → Int32 → Int32 → Prop) (K : Int32 → pj_M → Prop) (u : pj_M) (x1 : Int32) (x2 : Int32) (x3 : Int32) : Prop := pj_let ((x2 ^^^ (((x1.toUInt32 >>> (x3.toUInt32 &&& Int32.toUInt32 31)).toInt32) &&& 255)) * 16777619) fun y1 => (R5 u y1 (x3 + (-8)))
set_option maxHeartbeats 1000000 in
theorem pt_Di_addInt_9 {g : pj_G} {b : Nat} (C : pj_X g c_Di_addInt 4 R_Di (some .int) rm_Di_addInt) {K : Int32 → pj_M → Prop} (hE : pj_E g b (pj_Ki K)) {R5 : pj_M → Int32 → Int32 → Prop}  {u : pj_M} {x1 : Int32} {x2 : Int32} {x3 : Int32} (hR5 : ∀ (u : pj_M) (x2 : Int32) (x3 : Int32), R5 u x2 x3 → pj_J g (pj_N g b u) 5 [none, some (.int x1), some (.int x2), some (.int x3)] [])  (h : pb_Di_addInt_9 R5 K u x1 x2 x3) : pj_J g (pj_N g b u) 9 [none, some (.int x1), some (.int x2), some (.int x3)] [] := by
  unfold pb_Di_addInt_9 at h
  refine pj_iload_n C d_Di_addInt_9 (pc' := 10) (i := 2) (x := x2) rfl rfl rfl ?_
  refine pj_iload_n C d_Di_addInt_10 (pc' := 11) (i := 1) (x := x1) rfl rfl rfl ?_
  refine pj_iload_n C d_Di_addInt_11 (pc' := 12) (i := 3) (x := x3) rfl rfl rfl ?_
  refine pj_iushr C d_Di_addInt_12 (pc' := 13) rfl ?_
  refine pj_sipush C d_Di_addInt_13 (pc' := 16) rfl (v := 255) (by decide) ?_
  refine pj_iand C d_Di_addInt_16 (pc' := 17) rfl ?_
  refine pj_ixor C d_Di_addInt_17 (pc' := 18) rfl ?_
  refine pj_ldc C d_Di_addInt_18 (pc' := 20) rfl (v := 16777619) wm_755 ?_
  refine pj_imul C d_Di_addInt_20 (pc' := 21) rfl ?_
  refine pj_name h (fun y1 h => ?_)
  refine pj_istore_n C d_Di_addInt_21 (pc' := 22) (i := 2) (vs' := [none, some (.int x1), some (.int y1), some (.int x3)]) rfl rfl (Nat.le_of_ble_eq_true rfl) (Nat.le_of_ble_eq_true rfl) rfl rfl ?_
  refine pj_iinc C d_Di_addInt_22 (pc' := 25) (x := x3) (d := (-8)) (vs' := [none, some (.int x1), some (.int y1), some (.int (x3 + (-8)))]) rfl rfl (Nat.le_of_ble_eq_true rfl) rfl (by decide) rfl ?_
  refine pj_goto C d_Di_addInt_25 (tgt := 5) (by decide) ?_
  exact pj_cut (pj_le_n (pj_le_s (pj_le_s (pj_le_s pj_le_e)))) (hR5 _ _ _ h)
def pb_Di_addInt_5b (R5 : pj_M → Int32 → Int32 → Prop) (K : Int32 → pj_M → Prop) (u : pj_M) (x1 : Int32) (x2 : Int32) (x3 : Int32) : Prop := ((x3 < 0) → (pb_Di_addInt_28  K u x2)) ∧ (¬ (x3 < 0) → (pb_Di_addInt_9 R5 K u x1 x2 x3))
set_option maxHeartbeats 1000000 in
theorem pt_Di_addInt_5b {g : pj_G} {b : Nat} (C : pj_X g c_Di_addInt 4 R_Di (some .int) rm_Di_addInt) {K : Int32 → pj_M → Prop} (hE : pj_E g b (pj_Ki K)) {R5 : pj_M → Int32 → Int32 → Prop}  {u : pj_M} {x1 : Int32} {x2 : Int32} {x3 : Int32} (hR5 : ∀ (u : pj_M) (x2 : Int32) (x3 : Int32), R5 u x2 x3 → pj_J g (pj_N g b u) 5 [none, some (.int x1), some (.int x2), some (.int x3)] [])  (h : pb_Di_addInt_5b R5 K u x1 x2 x3) : pj_J g (pj_N g b u) 5 [none, some (.int x1), some (.int x2), some (.int x3)] [] := by
  unfold pb_Di_addInt_5b at h
  refine pj_iload_n C d_Di_addInt_5 (pc' := 6) (i := 3) (x := x3) rfl rfl rfl ?_
  refine pj_if_lt C d_Di_addInt_6 (pc' := 9) rfl (tgt := 28) (by decide) h (fun h => ?_) (fun h => ?_)
  · exact pj_cut (pj_le_n (pj_le_n (pj_le_s (pj_le_n pj_le_e)))) (pt_Di_addInt_28 C hE   h)
  · exact pj_cut (pj_le_n (pj_le_s (pj_le_s (pj_le_s pj_le_e)))) (pt_Di_addInt_9 C hE hR5  h)
def pb_Di_addInt_5  (K : Int32 → pj_M → Prop) (x1 : Int32) : Nat → pj_M → Int32 → Int32 → Prop
  | 0 => fun _ _ _ => False
  | n + 1 => fun u x2 x3 => pb_Di_addInt_5b (pb_Di_addInt_5  K x1 n) K u x1 x2 x3
theorem pt_Di_addInt_5 {g : pj_G} {b : Nat} (C : pj_X g c_Di_addInt 4 R_Di (some .int) rm_Di_addInt) {K : Int32 → pj_M → Prop} (hE : pj_E g b (pj_Ki K))  {x1 : Int32}   : ∀ (n : Nat) (u : pj_M) (x2 : Int32) (x3 : Int32), pb_Di_addInt_5  K x1 n u x2 x3 → pj_J g (pj_N g b u) 5 [none, some (.int x1), some (.int x2), some (.int x3)] [] := by
  intro n
  induction n with
  | zero => intro u x2 x3 h; exact False.elim h
  | succ n ih =>
    intro u x2 x3 h
    exact (pt_Di_addInt_5b C hE ih  h)
def pb_Di_addInt_0  (K : Int32 → pj_M → Prop) (u : pj_M) (x0 : Int32) (x1 : Int32) : Prop := ∃ n, pb_Di_addInt_5  K x1 n u x0 24
set_option maxHeartbeats 1000000 in
theorem pt_Di_addInt_0 {g : pj_G} {b : Nat} (C : pj_X g c_Di_addInt 4 R_Di (some .int) rm_Di_addInt) {K : Int32 → pj_M → Prop} (hE : pj_E g b (pj_Ki K))   {u : pj_M} {x0 : Int32} {x1 : Int32}   (h : pb_Di_addInt_0  K u x0 x1) : pj_J g (pj_N g b u) 0 [some (.int x0), some (.int x1), none, none] [] := by
  unfold pb_Di_addInt_0 at h
  refine pj_iload_n C d_Di_addInt_0 (pc' := 1) (i := 0) (x := x0) rfl rfl rfl ?_
  refine pj_istore_n C d_Di_addInt_1 (pc' := 2) (i := 2) (vs' := [some (.int x0), some (.int x1), some (.int x0), none]) rfl rfl (Nat.le_of_ble_eq_true rfl) (Nat.le_of_ble_eq_true rfl) rfl rfl ?_
  refine pj_bipush C d_Di_addInt_2 (pc' := 4) rfl (v := 24) (by decide) ?_
  refine pj_istore_n C d_Di_addInt_4 (pc' := 5) (i := 3) (vs' := [some (.int x0), some (.int x1), some (.int x0), some (.int 24)]) rfl rfl (Nat.le_of_ble_eq_true rfl) (Nat.le_of_ble_eq_true rfl) rfl rfl ?_
  obtain ⟨n, h⟩ := h
  exact pj_cut (pj_le_n (pj_le_s (pj_le_s (pj_le_s pj_le_e)))) (pt_Di_addInt_5 C hE   n _ _ _ h)
def pw_Di_addInt (u : pj_M) (x0 : Int32) (x1 : Int32) (K : Int32 → pj_M → Prop) : Prop := pb_Di_addInt_0  K u x0 x1
theorem pc_Di_addInt (l : Launch) (D : va_G) (E : Nat → ClassId) {b : Nat} {u : pj_M} {x0 : Int32} {x1 : Int32} {K : Int32 → pj_M → Prop}  (h : pw_Di_addInt u x0 x1 K) : pj_C l y_Di_addInt c_Di_addInt 4 (some .int) rm_Di_addInt D E b [.int x0, .int x1] u (pj_Ki K) := by
  refine pj_met (own := R_Di) (by decide +kernel) rfl (Nat.le_of_ble_eq_true rfl) (fun g hE C => ?_)
  unfold pw_Di_addInt at h
  show pj_J g (pj_N g b u) 0 [some (.int x0), some (.int x1), none, none] []
  exact pj_cut (pj_le_s (pj_le_s (pj_le_n (pj_le_n pj_le_e)))) (pt_Di_addInt_0 C hE   h)
/-! Digest.addRow(ILPortGuard$Row;)I -/
theorem fg_Digest_10_R {g : pj_G} {b : Nat} {cc : ByteArray} {nL : Nat} {ret : Option FieldType} {rm : Room} {u : pj_M} {pc pc' : Nat} {vs : List (Option Value)} {st : List Value} (C : pj_X g cc nL R_Di ret rm) {i : Nat} (t : pj_R i) (hdg : decode cc pc = .ok (.getfield 10, 3)) (hp : pc + 3 = pc') (kk : pj_J g (pj_N g b u) pc' vs (.int (u i 1) :: st)) : pj_J g (pj_N g b u) pc vs (.ref (b + i) :: st) := by
  rcases t with t | t
  · exact pj_get C cl_Row hin_Row (k := 1) (Nat.le_of_ble_eq_true rfl) wm_151 (Or.inl rfl) (pj_lt t (by decide)) (fun E => ko_3 t) rfl hdg hp kk
  · exact pj_get C cl_Packet hin_Packet (k := 1) (Nat.le_of_ble_eq_true rfl) wm_151 (Or.inl rfl) (pj_lt t (by decide)) (fun E => ko_4 t) rfl hdg hp kk
theorem fg_Digest_16_R {g : pj_G} {b : Nat} {cc : ByteArray} {nL : Nat} {ret : Option FieldType} {rm : Room} {u : pj_M} {pc pc' : Nat} {vs : List (Option Value)} {st : List Value} (C : pj_X g cc nL R_Di ret rm) {i : Nat} (t : pj_R i) (hdg : decode cc pc = .ok (.getfield 16, 3)) (hp : pc + 3 = pc') (kk : pj_J g (pj_N g b u) pc' vs (.ref (b + (i + 1)) :: st)) : pj_J g (pj_N g b u) pc vs (.ref (b + i) :: st) := by
  rcases t with t | t
  · exact pj_get C cl_Row hin_Row (k := 0) (Nat.le_of_ble_eq_true rfl) wm_147 (Or.inl rfl) (pj_lt t (by decide)) (fun E => ko_3 t) rfl hdg hp kk
  · exact pj_get C cl_Packet hin_Packet (k := 0) (Nat.le_of_ble_eq_true rfl) wm_147 (Or.inl rfl) (pj_lt t (by decide)) (fun E => ko_4 t) rfl hdg hp kk
def rm_Di_addRow : Room := { frames := 0, cells := 0, slots := 0, locals := 0 }
def pb_Di_addRow_30  (K : Int32 → pj_M → Prop) (u : pj_M) (x2 : Int32) : Prop := K x2 u
set_option maxHeartbeats 1000000 in
theorem pt_Di_addRow_30 {g : pj_G} {b : Nat} (C : pj_X g c_Di_addRow 4 R_Di (some .int) rm_Di_addRow) {K : Int32 → pj_M → Prop} (hE : pj_E g b (pj_Ki K))   {u : pj_M} {x2 : Int32}   (h : pb_Di_addRow_30  K u x2) : pj_J g (pj_N g b u) 30 [none, none, some (.int x2), none] [] := by
  unfold pb_Di_addRow_30 at h
  refine pj_iload_n C d_Di_addRow_30 (pc' := 31) (i := 2) (x := x2) rfl rfl rfl ?_
  exact pj_iret C hE d_Di_addRow_31 ⟨_, rfl, h⟩
def pb_Di_addRow_12 (R4 : pj_M → Int32 → Int32 → Prop) (K : Int32 → pj_M → Prop) (u : pj_M) (i1 : Nat) (x2 : Int32) (x3 : Int32) : Prop := vp_in x3 48 ∧ (pj_let ((x2 ^^^ (u (i1 + 1) x3.toNatClampNeg)) * 16777619) fun y1 => (R4 u y1 (x3 + 1)))
set_option maxHeartbeats 1000000 in
theorem pt_Di_addRow_12 {g : pj_G} {b : Nat} (C : pj_X g c_Di_addRow 4 R_Di (some .int) rm_Di_addRow) {K : Int32 → pj_M → Prop} (hE : pj_E g b (pj_Ki K)) {R4 : pj_M → Int32 → Int32 → Prop}  {u : pj_M} {i1 : Nat} {x2 : Int32} {x3 : Int32} (hR4 : ∀ (u : pj_M) (x2 : Int32) (x3 : Int32), R4 u x2 x3 → pj_J g (pj_N g b u) 4 [none, some (.ref (b + i1)), some (.int x2), some (.int x3)] []) (t1 : pj_R i1) (h : pb_Di_addRow_12 R4 K u i1 x2 x3) : pj_J g (pj_N g b u) 12 [none, some (.ref (b + i1)), some (.int x2), some (.int x3)] [] := by
  unfold pb_Di_addRow_12 at h
  refine pj_iload_n C d_Di_addRow_12 (pc' := 13) (i := 2) (x := x2) rfl rfl rfl ?_
  refine pj_aload_n C d_Di_addRow_13 (pc' := 14) (i := 1) (x := b + i1) rfl rfl rfl ?_
  refine fg_Digest_16_R C t1 d_Di_addRow_14 (pc' := 17) rfl ?_
  refine pj_iload_n C d_Di_addRow_17 (pc' := 18) (i := 3) (x := x3) rfl rfl rfl ?_
  refine pj_iald C (pj_lt (pl_R_bytes t1) (by decide)) (fun E u => ka_22 (pl_R_bytes t1)) d_Di_addRow_18 (pc' := 19) rfl h (fun h => ?_)
  refine pj_ixor C d_Di_addRow_19 (pc' := 20) rfl ?_
  refine pj_ldc C d_Di_addRow_20 (pc' := 22) rfl (v := 16777619) wm_755 ?_
  refine pj_imul C d_Di_addRow_22 (pc' := 23) rfl ?_
  refine pj_name h (fun y1 h => ?_)
  refine pj_istore_n C d_Di_addRow_23 (pc' := 24) (i := 2) (vs' := [none, some (.ref (b + i1)), some (.int y1), some (.int x3)]) rfl rfl (Nat.le_of_ble_eq_true rfl) (Nat.le_of_ble_eq_true rfl) rfl rfl ?_
  refine pj_iinc C d_Di_addRow_24 (pc' := 27) (x := x3) (d := 1) (vs' := [none, some (.ref (b + i1)), some (.int y1), some (.int (x3 + 1))]) rfl rfl (Nat.le_of_ble_eq_true rfl) rfl (by decide) rfl ?_
  refine pj_goto C d_Di_addRow_27 (tgt := 4) (by decide) ?_
  exact pj_cut (pj_le_n (pj_le_s (pj_le_s (pj_le_s pj_le_e)))) (hR4 _ _ _ h)
def pb_Di_addRow_4b (R4 : pj_M → Int32 → Int32 → Prop) (K : Int32 → pj_M → Prop) (u : pj_M) (i1 : Nat) (x2 : Int32) (x3 : Int32) : Prop := (((u i1 1) ≤ x3) → (pb_Di_addRow_30  K u x2)) ∧ (¬ ((u i1 1) ≤ x3) → (pb_Di_addRow_12 R4 K u i1 x2 x3))
set_option maxHeartbeats 1000000 in
theorem pt_Di_addRow_4b {g : pj_G} {b : Nat} (C : pj_X g c_Di_addRow 4 R_Di (some .int) rm_Di_addRow) {K : Int32 → pj_M → Prop} (hE : pj_E g b (pj_Ki K)) {R4 : pj_M → Int32 → Int32 → Prop}  {u : pj_M} {i1 : Nat} {x2 : Int32} {x3 : Int32} (hR4 : ∀ (u : pj_M) (x2 : Int32) (x3 : Int32), R4 u x2 x3 → pj_J g (pj_N g b u) 4 [none, some (.ref (b + i1)), some (.int x2), some (.int x3)] []) (t1 : pj_R i1) (h : pb_Di_addRow_4b R4 K u i1 x2 x3) : pj_J g (pj_N g b u) 4 [none, some (.ref (b + i1)), some (.int x2), some (.int x3)] [] := by
  unfold pb_Di_addRow_4b at h
  refine pj_iload_n C d_Di_addRow_4 (pc' := 5) (i := 3) (x := x3) rfl rfl rfl ?_
  refine pj_aload_n C d_Di_addRow_5 (pc' := 6) (i := 1) (x := b + i1) rfl rfl rfl ?_
  refine fg_Digest_10_R C t1 d_Di_addRow_6 (pc' := 9) rfl ?_
  refine pj_icmp_ge C d_Di_addRow_9 (pc' := 12) rfl (tgt := 30) (by decide) h (fun h => ?_) (fun h => ?_)
  · exact pj_cut (pj_le_n (pj_le_n (pj_le_s (pj_le_n pj_le_e)))) (pt_Di_addRow_30 C hE   h)
  · exact pj_cut (pj_le_n (pj_le_s (pj_le_s (pj_le_s pj_le_e)))) (pt_Di_addRow_12 C hE hR4 t1 h)
def pb_Di_addRow_4  (K : Int32 → pj_M → Prop) (i1 : Nat) : Nat → pj_M → Int32 → Int32 → Prop
  | 0 => fun _ _ _ => False
  | n + 1 => fun u x2 x3 => pb_Di_addRow_4b (pb_Di_addRow_4  K i1 n) K u i1 x2 x3
theorem pt_Di_addRow_4 {g : pj_G} {b : Nat} (C : pj_X g c_Di_addRow 4 R_Di (some .int) rm_Di_addRow) {K : Int32 → pj_M → Prop} (hE : pj_E g b (pj_Ki K))  {i1 : Nat}  (t1 : pj_R i1) : ∀ (n : Nat) (u : pj_M) (x2 : Int32) (x3 : Int32), pb_Di_addRow_4  K i1 n u x2 x3 → pj_J g (pj_N g b u) 4 [none, some (.ref (b + i1)), some (.int x2), some (.int x3)] [] := by
  intro n
  induction n with
  | zero => intro u x2 x3 h; exact False.elim h
  | succ n ih =>
    intro u x2 x3 h
    exact (pt_Di_addRow_4b C hE ih t1 h)
def pb_Di_addRow_0  (K : Int32 → pj_M → Prop) (u : pj_M) (x0 : Int32) (i1 : Nat) : Prop := ∃ n, pb_Di_addRow_4  K i1 n u x0 0
set_option maxHeartbeats 1000000 in
theorem pt_Di_addRow_0 {g : pj_G} {b : Nat} (C : pj_X g c_Di_addRow 4 R_Di (some .int) rm_Di_addRow) {K : Int32 → pj_M → Prop} (hE : pj_E g b (pj_Ki K))   {u : pj_M} {x0 : Int32} {i1 : Nat}  (t1 : pj_R i1) (h : pb_Di_addRow_0  K u x0 i1) : pj_J g (pj_N g b u) 0 [some (.int x0), some (.ref (b + i1)), none, none] [] := by
  unfold pb_Di_addRow_0 at h
  refine pj_iload_n C d_Di_addRow_0 (pc' := 1) (i := 0) (x := x0) rfl rfl rfl ?_
  refine pj_istore_n C d_Di_addRow_1 (pc' := 2) (i := 2) (vs' := [some (.int x0), some (.ref (b + i1)), some (.int x0), none]) rfl rfl (Nat.le_of_ble_eq_true rfl) (Nat.le_of_ble_eq_true rfl) rfl rfl ?_
  refine pj_iconst C d_Di_addRow_2 (pc' := 3) rfl (v := 0) (by decide) ?_
  refine pj_istore_n C d_Di_addRow_3 (pc' := 4) (i := 3) (vs' := [some (.int x0), some (.ref (b + i1)), some (.int x0), some (.int 0)]) rfl rfl (Nat.le_of_ble_eq_true rfl) (Nat.le_of_ble_eq_true rfl) rfl rfl ?_
  obtain ⟨n, h⟩ := h
  exact pj_cut (pj_le_n (pj_le_s (pj_le_s (pj_le_s pj_le_e)))) (pt_Di_addRow_4 C hE  t1 n _ _ _ h)
def pw_Di_addRow (u : pj_M) (x0 : Int32) (i1 : Nat) (K : Int32 → pj_M → Prop) : Prop := pb_Di_addRow_0  K u x0 i1
theorem pc_Di_addRow (l : Launch) (D : va_G) (E : Nat → ClassId) {b : Nat} {u : pj_M} {x0 : Int32} {i1 : Nat} {K : Int32 → pj_M → Prop} (t1 : pj_R i1) (h : pw_Di_addRow u x0 i1 K) : pj_C l y_Di_addRow c_Di_addRow 4 (some .int) rm_Di_addRow D E b [.int x0, .ref (b + i1)] u (pj_Ki K) := by
  refine pj_met (own := R_Di) (by decide +kernel) rfl (Nat.le_of_ble_eq_true rfl) (fun g hE C => ?_)
  unfold pw_Di_addRow at h
  show pj_J g (pj_N g b u) 0 [some (.int x0), some (.ref (b + i1)), none, none] []
  exact pj_cut (pj_le_s (pj_le_s (pj_le_n (pj_le_n pj_le_e)))) (pt_Di_addRow_0 C hE  t1 h)
/-! Digest.end(I)I -/
def rm_Di_end : Room := { frames := 0, cells := 0, slots := 0, locals := 0 }
def pb_Di_end_0  (K : Int32 → pj_M → Prop) (u : pj_M) (x0 : Int32) : Prop := K (x0 ^^^ ((x0.toUInt32 >>> ((15 : Int32).toUInt32 &&& Int32.toUInt32 31)).toInt32)) u
set_option maxHeartbeats 1000000 in
theorem pt_Di_end_0 {g : pj_G} {b : Nat} (C : pj_X g c_Di_end 1 R_Di (some .int) rm_Di_end) {K : Int32 → pj_M → Prop} (hE : pj_E g b (pj_Ki K))   {u : pj_M} {x0 : Int32}   (h : pb_Di_end_0  K u x0) : pj_J g (pj_N g b u) 0 [some (.int x0)] [] := by
  unfold pb_Di_end_0 at h
  refine pj_iload_n C d_Di_end_0 (pc' := 1) (i := 0) (x := x0) rfl rfl rfl ?_
  refine pj_iload_n C d_Di_end_1 (pc' := 2) (i := 0) (x := x0) rfl rfl rfl ?_
  refine pj_bipush C d_Di_end_2 (pc' := 4) rfl (v := 15) (by decide) ?_
  refine pj_iushr C d_Di_end_4 (pc' := 5) rfl ?_
  refine pj_ixor C d_Di_end_5 (pc' := 6) rfl ?_
  exact pj_iret C hE d_Di_end_6 ⟨_, rfl, h⟩
def pw_Di_end (u : pj_M) (x0 : Int32) (K : Int32 → pj_M → Prop) : Prop := pb_Di_end_0  K u x0
theorem pc_Di_end (l : Launch) (D : va_G) (E : Nat → ClassId) {b : Nat} {u : pj_M} {x0 : Int32} {K : Int32 → pj_M → Prop}  (h : pw_Di_end u x0 K) : pj_C l y_Di_end c_Di_end 1 (some .int) rm_Di_end D E b [.int x0] u (pj_Ki K) := by
  refine pj_met (own := R_Di) (by decide +kernel) rfl (Nat.le_of_ble_eq_true rfl) (fun g hE C => ?_)
  unfold pw_Di_end at h
  show pj_J g (pj_N g b u) 0 [some (.int x0)] []
  exact pj_cut (pj_le_s pj_le_e) (pt_Di_end_0 C hE   h)
/-! Digest.macOfRow(ILPortGuard$Row;)I -/
theorem ck_Digest_21 {g : pj_G} {b : Nat} {cc : ByteArray} {nL : Nat} {ret : Option FieldType} {rm : Room} {u : pj_M} {pc pc' : Nat} {vs : List (Option Value)} {st : List Value} (C : pj_X g cc nL R_Di ret rm) {x0 : Int32} {x1 : Int32} {K : Int32 → pj_M → Prop}  (h : pw_Di_addInt u x0 x1 K) (hdg : decode cc pc = .ok (.invokestatic 21, 3)) (hp : pc + 3 = pc') (hR : rm_Di_addInt.frames + 1 ≤ rm.frames ∧ 8 + (4 + 11) + rm_Di_addInt.locals ≤ rm.locals) (h8 : (st.map fun v => v.category).sum ≤ 8) (kk : ∀ r u', K r u' → pj_J g (pj_N g b u') pc' vs (.int r :: st)) : pj_J g (pj_N g b u) pc vs (.int x1 :: .int x0 :: st) :=
  pj_callS C (As := [.int x0, .int x1]) (fun l D E => pc_Di_addInt l D E  h) rfl rfl wm_752 wm_753 wm_105 wm_754 (by decide +kernel) (n := 2) rfl hR rfl h8 hdg hp (fun v u' hq => by obtain ⟨r, rfl, hk⟩ := hq; exact kk r u' hk)
theorem ck_Digest_25 {g : pj_G} {b : Nat} {cc : ByteArray} {nL : Nat} {ret : Option FieldType} {rm : Room} {u : pj_M} {pc pc' : Nat} {vs : List (Option Value)} {st : List Value} (C : pj_X g cc nL R_Di ret rm) {x0 : Int32} {x1 : Int32} {K : Int32 → pj_M → Prop}  (h : pw_Di_addByte u x0 x1 K) (hdg : decode cc pc = .ok (.invokestatic 25, 3)) (hp : pc + 3 = pc') (hR : rm_Di_addByte.frames + 1 ≤ rm.frames ∧ 8 + (2 + 11) + rm_Di_addByte.locals ≤ rm.locals) (h8 : (st.map fun v => v.category).sum ≤ 8) (kk : ∀ r u', K r u' → pj_J g (pj_N g b u') pc' vs (.int r :: st)) : pj_J g (pj_N g b u) pc vs (.int x1 :: .int x0 :: st) :=
  pj_callS C (As := [.int x0, .int x1]) (fun l D E => pc_Di_addByte l D E  h) rfl rfl wm_788 wm_789 wm_105 wm_790 (by decide +kernel) (n := 2) rfl hR rfl h8 hdg hp (fun v u' hq => by obtain ⟨r, rfl, hk⟩ := hq; exact kk r u' hk)
theorem ck_Digest_28 {g : pj_G} {b : Nat} {cc : ByteArray} {nL : Nat} {ret : Option FieldType} {rm : Room} {u : pj_M} {pc pc' : Nat} {vs : List (Option Value)} {st : List Value} (C : pj_X g cc nL R_Di ret rm) {x0 : Int32} {i1 : Nat} {K : Int32 → pj_M → Prop} (t1 : pj_R i1) (h : pw_Di_addRow u x0 i1 K) (hdg : decode cc pc = .ok (.invokestatic 28, 3)) (hp : pc + 3 = pc') (hR : rm_Di_addRow.frames + 1 ≤ rm.frames ∧ 8 + (4 + 11) + rm_Di_addRow.locals ≤ rm.locals) (h8 : (st.map fun v => v.category).sum ≤ 8) (kk : ∀ r u', K r u' → pj_J g (pj_N g b u') pc' vs (.int r :: st)) : pj_J g (pj_N g b u) pc vs (.ref (b + i1) :: .int x0 :: st) :=
  pj_callS C (As := [.int x0, .ref (b + i1)]) (fun l D E => pc_Di_addRow l D E t1 h) rfl rfl wm_791 wm_792 wm_105 wm_793 (by decide +kernel) (n := 2) rfl hR rfl h8 hdg hp (fun v u' hq => by obtain ⟨r, rfl, hk⟩ := hq; exact kk r u' hk)
theorem ck_Digest_32 {g : pj_G} {b : Nat} {cc : ByteArray} {nL : Nat} {ret : Option FieldType} {rm : Room} {u : pj_M} {pc pc' : Nat} {vs : List (Option Value)} {st : List Value} (C : pj_X g cc nL R_Di ret rm) {x0 : Int32} {K : Int32 → pj_M → Prop}  (h : pw_Di_end u x0 K) (hdg : decode cc pc = .ok (.invokestatic 32, 3)) (hp : pc + 3 = pc') (hR : rm_Di_end.frames + 1 ≤ rm.frames ∧ 8 + (1 + 11) + rm_Di_end.locals ≤ rm.locals) (h8 : (st.map fun v => v.category).sum ≤ 8) (kk : ∀ r u', K r u' → pj_J g (pj_N g b u') pc' vs (.int r :: st)) : pj_J g (pj_N g b u) pc vs (.int x0 :: st) :=
  pj_callS C (As := [.int x0]) (fun l D E => pc_Di_end l D E  h) rfl rfl wm_756 wm_757 wm_105 wm_758 (by decide +kernel) (n := 1) rfl hR rfl h8 hdg hp (fun v u' hq => by obtain ⟨r, rfl, hk⟩ := hq; exact kk r u' hk)
def rm_Di_macOfRow : Room := { frames := 1, cells := 0, slots := 0, locals := 23 }
def pb_Di_macOfRow_0  (K : Int32 → pj_M → Prop) (u : pj_M) (x0 : Int32) (i1 : Nat) : Prop := pw_Di_addInt u ((-2128831035)) x0 fun r2 u1 => (pw_Di_addByte u1 r2 54 fun r4 u3 => (pw_Di_addRow u3 r4 i1 fun r6 u5 => (pw_Di_end u5 r6 fun r8 u7 => (pw_Di_addInt u7 ((-2128831035)) x0 fun r10 u9 => (pw_Di_addByte u9 r10 92 fun r12 u11 => (pw_Di_addInt u11 r12 r8 fun r14 u13 => (pw_Di_end u13 r14 fun r16 u15 => (K r16 u15))))))))
set_option maxHeartbeats 1000000 in
theorem pt_Di_macOfRow_0 {g : pj_G} {b : Nat} (C : pj_X g c_Di_macOfRow 3 R_Di (some .int) rm_Di_macOfRow) {K : Int32 → pj_M → Prop} (hE : pj_E g b (pj_Ki K))   {u : pj_M} {x0 : Int32} {i1 : Nat}  (t1 : pj_R i1) (h : pb_Di_macOfRow_0  K u x0 i1) : pj_J g (pj_N g b u) 0 [some (.int x0), some (.ref (b + i1)), none] [] := by
  unfold pb_Di_macOfRow_0 at h
  refine pj_ldc C d_Di_macOfRow_0 (pc' := 2) rfl (v := (-2128831035)) wm_751 ?_
  refine pj_iload_n C d_Di_macOfRow_2 (pc' := 3) (i := 0) (x := x0) rfl rfl rfl ?_
  refine ck_Digest_21 C  h d_Di_macOfRow_3 (pc' := 6) rfl ⟨Nat.le_of_ble_eq_true rfl, Nat.le_of_ble_eq_true rfl⟩ (Nat.le_of_ble_eq_true rfl) (fun r2 u1 h => ?_)
  refine pj_bipush C d_Di_macOfRow_6 (pc' := 8) rfl (v := 54) (by decide) ?_
  refine ck_Digest_25 C  h d_Di_macOfRow_8 (pc' := 11) rfl ⟨Nat.le_of_ble_eq_true rfl, Nat.le_of_ble_eq_true rfl⟩ (Nat.le_of_ble_eq_true rfl) (fun r4 u3 h => ?_)
  refine pj_aload_n C d_Di_macOfRow_11 (pc' := 12) (i := 1) (x := b + i1) rfl rfl rfl ?_
  refine ck_Digest_28 C t1 h d_Di_macOfRow_12 (pc' := 15) rfl ⟨Nat.le_of_ble_eq_true rfl, Nat.le_of_ble_eq_true rfl⟩ (Nat.le_of_ble_eq_true rfl) (fun r6 u5 h => ?_)
  refine ck_Digest_32 C  h d_Di_macOfRow_15 (pc' := 18) rfl ⟨Nat.le_of_ble_eq_true rfl, Nat.le_of_ble_eq_true rfl⟩ (Nat.le_of_ble_eq_true rfl) (fun r8 u7 h => ?_)
  refine pj_istore_n C d_Di_macOfRow_18 (pc' := 19) (i := 2) (vs' := [some (.int x0), some (.ref (b + i1)), some (.int r8)]) rfl rfl (Nat.le_of_ble_eq_true rfl) (Nat.le_of_ble_eq_true rfl) rfl rfl ?_
  refine pj_ldc C d_Di_macOfRow_19 (pc' := 21) rfl (v := (-2128831035)) wm_751 ?_
  refine pj_iload_n C d_Di_macOfRow_21 (pc' := 22) (i := 0) (x := x0) rfl rfl rfl ?_
  refine ck_Digest_21 C  h d_Di_macOfRow_22 (pc' := 25) rfl ⟨Nat.le_of_ble_eq_true rfl, Nat.le_of_ble_eq_true rfl⟩ (Nat.le_of_ble_eq_true rfl) (fun r10 u9 h => ?_)
  refine pj_bipush C d_Di_macOfRow_25 (pc' := 27) rfl (v := 92) (by decide) ?_
  refine ck_Digest_25 C  h d_Di_macOfRow_27 (pc' := 30) rfl ⟨Nat.le_of_ble_eq_true rfl, Nat.le_of_ble_eq_true rfl⟩ (Nat.le_of_ble_eq_true rfl) (fun r12 u11 h => ?_)
  refine pj_iload_n C d_Di_macOfRow_30 (pc' := 31) (i := 2) (x := r8) rfl rfl rfl ?_
  refine ck_Digest_21 C  h d_Di_macOfRow_31 (pc' := 34) rfl ⟨Nat.le_of_ble_eq_true rfl, Nat.le_of_ble_eq_true rfl⟩ (Nat.le_of_ble_eq_true rfl) (fun r14 u13 h => ?_)
  refine ck_Digest_32 C  h d_Di_macOfRow_34 (pc' := 37) rfl ⟨Nat.le_of_ble_eq_true rfl, Nat.le_of_ble_eq_true rfl⟩ (Nat.le_of_ble_eq_true rfl) (fun r16 u15 h => ?_)
  exact pj_iret C hE d_Di_macOfRow_37 ⟨_, rfl, h⟩
def pw_Di_macOfRow (u : pj_M) (x0 : Int32) (i1 : Nat) (K : Int32 → pj_M → Prop) : Prop := pb_Di_macOfRow_0  K u x0 i1
theorem pc_Di_macOfRow (l : Launch) (D : va_G) (E : Nat → ClassId) {b : Nat} {u : pj_M} {x0 : Int32} {i1 : Nat} {K : Int32 → pj_M → Prop} (t1 : pj_R i1) (h : pw_Di_macOfRow u x0 i1 K) : pj_C l y_Di_macOfRow c_Di_macOfRow 3 (some .int) rm_Di_macOfRow D E b [.int x0, .ref (b + i1)] u (pj_Ki K) := by
  refine pj_met (own := R_Di) (by decide +kernel) rfl (Nat.le_of_ble_eq_true rfl) (fun g hE C => ?_)
  unfold pw_Di_macOfRow at h
  show pj_J g (pj_N g b u) 0 [some (.int x0), some (.ref (b + i1)), none] []
  exact pj_cut (pj_le_s (pj_le_s (pj_le_n pj_le_e))) (pt_Di_macOfRow_0 C hE  t1 h)
/-! Digest.macOfProof(IIII)I -/
def rm_Di_macOfProof : Room := { frames := 1, cells := 0, slots := 0, locals := 23 }
def pb_Di_macOfProof_0  (K : Int32 → pj_M → Prop) (u : pj_M) (x0 : Int32) (x1 : Int32) (x2 : Int32) (x3 : Int32) : Prop := pw_Di_addInt u ((-2128831035)) x0 fun r2 u1 => (pw_Di_addByte u1 r2 54 fun r4 u3 => (pw_Di_addByte u3 r4 x1 fun r6 u5 => (pw_Di_addInt u5 r6 x2 fun r8 u7 => (pw_Di_addInt u7 r8 x3 fun r10 u9 => (pw_Di_end u9 r10 fun r12 u11 => (pw_Di_addInt u11 ((-2128831035)) x0 fun r14 u13 => (pw_Di_addByte u13 r14 92 fun r16 u15 => (pw_Di_addInt u15 r16 r12 fun r18 u17 => (pw_Di_end u17 r18 fun r20 u19 => (K r20 u19))))))))))
set_option maxHeartbeats 1000000 in
theorem pt_Di_macOfProof_0 {g : pj_G} {b : Nat} (C : pj_X g c_Di_macOfProof 6 R_Di (some .int) rm_Di_macOfProof) {K : Int32 → pj_M → Prop} (hE : pj_E g b (pj_Ki K))   {u : pj_M} {x0 : Int32} {x1 : Int32} {x2 : Int32} {x3 : Int32}   (h : pb_Di_macOfProof_0  K u x0 x1 x2 x3) : pj_J g (pj_N g b u) 0 [some (.int x0), some (.int x1), some (.int x2), some (.int x3), none, none] [] := by
  unfold pb_Di_macOfProof_0 at h
  refine pj_ldc C d_Di_macOfProof_0 (pc' := 2) rfl (v := (-2128831035)) wm_751 ?_
  refine pj_iload_n C d_Di_macOfProof_2 (pc' := 3) (i := 0) (x := x0) rfl rfl rfl ?_
  refine ck_Digest_21 C  h d_Di_macOfProof_3 (pc' := 6) rfl ⟨Nat.le_of_ble_eq_true rfl, Nat.le_of_ble_eq_true rfl⟩ (Nat.le_of_ble_eq_true rfl) (fun r2 u1 h => ?_)
  refine pj_bipush C d_Di_macOfProof_6 (pc' := 8) rfl (v := 54) (by decide) ?_
  refine ck_Digest_25 C  h d_Di_macOfProof_8 (pc' := 11) rfl ⟨Nat.le_of_ble_eq_true rfl, Nat.le_of_ble_eq_true rfl⟩ (Nat.le_of_ble_eq_true rfl) (fun r4 u3 h => ?_)
  refine pj_iload_n C d_Di_macOfProof_11 (pc' := 12) (i := 1) (x := x1) rfl rfl rfl ?_
  refine ck_Digest_25 C  h d_Di_macOfProof_12 (pc' := 15) rfl ⟨Nat.le_of_ble_eq_true rfl, Nat.le_of_ble_eq_true rfl⟩ (Nat.le_of_ble_eq_true rfl) (fun r6 u5 h => ?_)
  refine pj_istore C d_Di_macOfProof_15 (pc' := 17) (i := 4) (vs' := [some (.int x0), some (.int x1), some (.int x2), some (.int x3), some (.int r6), none]) rfl (Nat.le_of_ble_eq_true rfl) (Nat.le_of_ble_eq_true rfl) rfl rfl ?_
  refine pj_iload C d_Di_macOfProof_17 (pc' := 19) (i := 4) (x := r6) rfl rfl ?_
  refine pj_iload_n C d_Di_macOfProof_19 (pc' := 20) (i := 2) (x := x2) rfl rfl rfl ?_
  refine ck_Digest_21 C  h d_Di_macOfProof_20 (pc' := 23) rfl ⟨Nat.le_of_ble_eq_true rfl, Nat.le_of_ble_eq_true rfl⟩ (Nat.le_of_ble_eq_true rfl) (fun r8 u7 h => ?_)
  refine pj_iload_n C d_Di_macOfProof_23 (pc' := 24) (i := 3) (x := x3) rfl rfl rfl ?_
  refine ck_Digest_21 C  h d_Di_macOfProof_24 (pc' := 27) rfl ⟨Nat.le_of_ble_eq_true rfl, Nat.le_of_ble_eq_true rfl⟩ (Nat.le_of_ble_eq_true rfl) (fun r10 u9 h => ?_)
  refine ck_Digest_32 C  h d_Di_macOfProof_27 (pc' := 30) rfl ⟨Nat.le_of_ble_eq_true rfl, Nat.le_of_ble_eq_true rfl⟩ (Nat.le_of_ble_eq_true rfl) (fun r12 u11 h => ?_)
  refine pj_istore C d_Di_macOfProof_30 (pc' := 32) (i := 5) (vs' := [some (.int x0), some (.int x1), some (.int x2), some (.int x3), some (.int r6), some (.int r12)]) rfl (Nat.le_of_ble_eq_true rfl) (Nat.le_of_ble_eq_true rfl) rfl rfl ?_
  refine pj_ldc C d_Di_macOfProof_32 (pc' := 34) rfl (v := (-2128831035)) wm_751 ?_
  refine pj_iload_n C d_Di_macOfProof_34 (pc' := 35) (i := 0) (x := x0) rfl rfl rfl ?_
  refine ck_Digest_21 C  h d_Di_macOfProof_35 (pc' := 38) rfl ⟨Nat.le_of_ble_eq_true rfl, Nat.le_of_ble_eq_true rfl⟩ (Nat.le_of_ble_eq_true rfl) (fun r14 u13 h => ?_)
  refine pj_bipush C d_Di_macOfProof_38 (pc' := 40) rfl (v := 92) (by decide) ?_
  refine ck_Digest_25 C  h d_Di_macOfProof_40 (pc' := 43) rfl ⟨Nat.le_of_ble_eq_true rfl, Nat.le_of_ble_eq_true rfl⟩ (Nat.le_of_ble_eq_true rfl) (fun r16 u15 h => ?_)
  refine pj_iload C d_Di_macOfProof_43 (pc' := 45) (i := 5) (x := r12) rfl rfl ?_
  refine ck_Digest_21 C  h d_Di_macOfProof_45 (pc' := 48) rfl ⟨Nat.le_of_ble_eq_true rfl, Nat.le_of_ble_eq_true rfl⟩ (Nat.le_of_ble_eq_true rfl) (fun r18 u17 h => ?_)
  refine ck_Digest_32 C  h d_Di_macOfProof_48 (pc' := 51) rfl ⟨Nat.le_of_ble_eq_true rfl, Nat.le_of_ble_eq_true rfl⟩ (Nat.le_of_ble_eq_true rfl) (fun r20 u19 h => ?_)
  exact pj_iret C hE d_Di_macOfProof_51 ⟨_, rfl, h⟩
def pw_Di_macOfProof (u : pj_M) (x0 : Int32) (x1 : Int32) (x2 : Int32) (x3 : Int32) (K : Int32 → pj_M → Prop) : Prop := pb_Di_macOfProof_0  K u x0 x1 x2 x3
theorem pc_Di_macOfProof (l : Launch) (D : va_G) (E : Nat → ClassId) {b : Nat} {u : pj_M} {x0 : Int32} {x1 : Int32} {x2 : Int32} {x3 : Int32} {K : Int32 → pj_M → Prop}  (h : pw_Di_macOfProof u x0 x1 x2 x3 K) : pj_C l y_Di_macOfProof c_Di_macOfProof 6 (some .int) rm_Di_macOfProof D E b [.int x0, .int x1, .int x2, .int x3] u (pj_Ki K) := by
  refine pj_met (own := R_Di) (by decide +kernel) rfl (Nat.le_of_ble_eq_true rfl) (fun g hE C => ?_)
  unfold pw_Di_macOfProof at h
  show pj_J g (pj_N g b u) 0 [some (.int x0), some (.int x1), some (.int x2), some (.int x3), none, none] []
  exact pj_cut (pj_le_s (pj_le_s (pj_le_s (pj_le_s (pj_le_n (pj_le_n pj_le_e)))))) (pt_Di_macOfProof_0 C hE   h)
/-! Digest.hashOfInts(II)I -/
def rm_Di_hashOfInts : Room := { frames := 1, cells := 0, slots := 0, locals := 23 }
def pb_Di_hashOfInts_0  (K : Int32 → pj_M → Prop) (u : pj_M) (x0 : Int32) (x1 : Int32) : Prop := pw_Di_addInt u ((-2128831035)) x0 fun r2 u1 => (pw_Di_addInt u1 r2 x1 fun r4 u3 => (pw_Di_end u3 r4 fun r6 u5 => (K r6 u5)))
set_option maxHeartbeats 1000000 in
theorem pt_Di_hashOfInts_0 {g : pj_G} {b : Nat} (C : pj_X g c_Di_hashOfInts 2 R_Di (some .int) rm_Di_hashOfInts) {K : Int32 → pj_M → Prop} (hE : pj_E g b (pj_Ki K))   {u : pj_M} {x0 : Int32} {x1 : Int32}   (h : pb_Di_hashOfInts_0  K u x0 x1) : pj_J g (pj_N g b u) 0 [some (.int x0), some (.int x1)] [] := by
  unfold pb_Di_hashOfInts_0 at h
  refine pj_ldc C d_Di_hashOfInts_0 (pc' := 2) rfl (v := (-2128831035)) wm_751 ?_
  refine pj_iload_n C d_Di_hashOfInts_2 (pc' := 3) (i := 0) (x := x0) rfl rfl rfl ?_
  refine ck_Digest_21 C  h d_Di_hashOfInts_3 (pc' := 6) rfl ⟨Nat.le_of_ble_eq_true rfl, Nat.le_of_ble_eq_true rfl⟩ (Nat.le_of_ble_eq_true rfl) (fun r2 u1 h => ?_)
  refine pj_iload_n C d_Di_hashOfInts_6 (pc' := 7) (i := 1) (x := x1) rfl rfl rfl ?_
  refine ck_Digest_21 C  h d_Di_hashOfInts_7 (pc' := 10) rfl ⟨Nat.le_of_ble_eq_true rfl, Nat.le_of_ble_eq_true rfl⟩ (Nat.le_of_ble_eq_true rfl) (fun r4 u3 h => ?_)
  refine ck_Digest_32 C  h d_Di_hashOfInts_10 (pc' := 13) rfl ⟨Nat.le_of_ble_eq_true rfl, Nat.le_of_ble_eq_true rfl⟩ (Nat.le_of_ble_eq_true rfl) (fun r6 u5 h => ?_)
  exact pj_iret C hE d_Di_hashOfInts_13 ⟨_, rfl, h⟩
def pw_Di_hashOfInts (u : pj_M) (x0 : Int32) (x1 : Int32) (K : Int32 → pj_M → Prop) : Prop := pb_Di_hashOfInts_0  K u x0 x1
theorem pc_Di_hashOfInts (l : Launch) (D : va_G) (E : Nat → ClassId) {b : Nat} {u : pj_M} {x0 : Int32} {x1 : Int32} {K : Int32 → pj_M → Prop}  (h : pw_Di_hashOfInts u x0 x1 K) : pj_C l y_Di_hashOfInts c_Di_hashOfInts 2 (some .int) rm_Di_hashOfInts D E b [.int x0, .int x1] u (pj_Ki K) := by
  refine pj_met (own := R_Di) (by decide +kernel) rfl (Nat.le_of_ble_eq_true rfl) (fun g hE C => ?_)
  unfold pw_Di_hashOfInts at h
  show pj_J g (pj_N g b u) 0 [some (.int x0), some (.int x1)] []
  exact pj_cut (pj_le_s (pj_le_s pj_le_e)) (pt_Di_hashOfInts_0 C hE   h)
/-! Digest.hashOfRow(LPortGuard$Row;I)I -/
def rm_Di_hashOfRow : Room := { frames := 1, cells := 0, slots := 0, locals := 23 }
def pb_Di_hashOfRow_0  (K : Int32 → pj_M → Prop) (u : pj_M) (i0 : Nat) (x1 : Int32) : Prop := pw_Di_addRow u ((-2128831035)) i0 fun r2 u1 => (pw_Di_addInt u1 r2 x1 fun r4 u3 => (pw_Di_end u3 r4 fun r6 u5 => (K r6 u5)))
set_option maxHeartbeats 1000000 in
theorem pt_Di_hashOfRow_0 {g : pj_G} {b : Nat} (C : pj_X g c_Di_hashOfRow 2 R_Di (some .int) rm_Di_hashOfRow) {K : Int32 → pj_M → Prop} (hE : pj_E g b (pj_Ki K))   {u : pj_M} {i0 : Nat} {x1 : Int32}  (t0 : pj_R i0) (h : pb_Di_hashOfRow_0  K u i0 x1) : pj_J g (pj_N g b u) 0 [some (.ref (b + i0)), some (.int x1)] [] := by
  unfold pb_Di_hashOfRow_0 at h
  refine pj_ldc C d_Di_hashOfRow_0 (pc' := 2) rfl (v := (-2128831035)) wm_751 ?_
  refine pj_aload_n C d_Di_hashOfRow_2 (pc' := 3) (i := 0) (x := b + i0) rfl rfl rfl ?_
  refine ck_Digest_28 C t0 h d_Di_hashOfRow_3 (pc' := 6) rfl ⟨Nat.le_of_ble_eq_true rfl, Nat.le_of_ble_eq_true rfl⟩ (Nat.le_of_ble_eq_true rfl) (fun r2 u1 h => ?_)
  refine pj_iload_n C d_Di_hashOfRow_6 (pc' := 7) (i := 1) (x := x1) rfl rfl rfl ?_
  refine ck_Digest_21 C  h d_Di_hashOfRow_7 (pc' := 10) rfl ⟨Nat.le_of_ble_eq_true rfl, Nat.le_of_ble_eq_true rfl⟩ (Nat.le_of_ble_eq_true rfl) (fun r4 u3 h => ?_)
  refine ck_Digest_32 C  h d_Di_hashOfRow_10 (pc' := 13) rfl ⟨Nat.le_of_ble_eq_true rfl, Nat.le_of_ble_eq_true rfl⟩ (Nat.le_of_ble_eq_true rfl) (fun r6 u5 h => ?_)
  exact pj_iret C hE d_Di_hashOfRow_13 ⟨_, rfl, h⟩
def pw_Di_hashOfRow (u : pj_M) (i0 : Nat) (x1 : Int32) (K : Int32 → pj_M → Prop) : Prop := pb_Di_hashOfRow_0  K u i0 x1
theorem pc_Di_hashOfRow (l : Launch) (D : va_G) (E : Nat → ClassId) {b : Nat} {u : pj_M} {i0 : Nat} {x1 : Int32} {K : Int32 → pj_M → Prop} (t0 : pj_R i0) (h : pw_Di_hashOfRow u i0 x1 K) : pj_C l y_Di_hashOfRow c_Di_hashOfRow 2 (some .int) rm_Di_hashOfRow D E b [.ref (b + i0), .int x1] u (pj_Ki K) := by
  refine pj_met (own := R_Di) (by decide +kernel) rfl (Nat.le_of_ble_eq_true rfl) (fun g hE C => ?_)
  unfold pw_Di_hashOfRow at h
  show pj_J g (pj_N g b u) 0 [some (.ref (b + i0)), some (.int x1)] []
  exact pj_cut (pj_le_s (pj_le_s pj_le_e)) (pt_Di_hashOfRow_0 C hE  t0 h)
/-! Digest.random(III)I -/
def rm_Di_random : Room := { frames := 1, cells := 0, slots := 0, locals := 23 }
def pb_Di_random_0  (K : Int32 → pj_M → Prop) (u : pj_M) (x0 : Int32) (x1 : Int32) (x2 : Int32) : Prop := pw_Di_addInt u ((-2128831035)) x0 fun r2 u1 => (pw_Di_addByte u1 r2 x1 fun r4 u3 => (pw_Di_addInt u3 r4 x2 fun r6 u5 => (pw_Di_end u5 r6 fun r8 u7 => (K r8 u7))))
set_option maxHeartbeats 1000000 in
theorem pt_Di_random_0 {g : pj_G} {b : Nat} (C : pj_X g c_Di_random 3 R_Di (some .int) rm_Di_random) {K : Int32 → pj_M → Prop} (hE : pj_E g b (pj_Ki K))   {u : pj_M} {x0 : Int32} {x1 : Int32} {x2 : Int32}   (h : pb_Di_random_0  K u x0 x1 x2) : pj_J g (pj_N g b u) 0 [some (.int x0), some (.int x1), some (.int x2)] [] := by
  unfold pb_Di_random_0 at h
  refine pj_ldc C d_Di_random_0 (pc' := 2) rfl (v := (-2128831035)) wm_751 ?_
  refine pj_iload_n C d_Di_random_2 (pc' := 3) (i := 0) (x := x0) rfl rfl rfl ?_
  refine ck_Digest_21 C  h d_Di_random_3 (pc' := 6) rfl ⟨Nat.le_of_ble_eq_true rfl, Nat.le_of_ble_eq_true rfl⟩ (Nat.le_of_ble_eq_true rfl) (fun r2 u1 h => ?_)
  refine pj_iload_n C d_Di_random_6 (pc' := 7) (i := 1) (x := x1) rfl rfl rfl ?_
  refine ck_Digest_25 C  h d_Di_random_7 (pc' := 10) rfl ⟨Nat.le_of_ble_eq_true rfl, Nat.le_of_ble_eq_true rfl⟩ (Nat.le_of_ble_eq_true rfl) (fun r4 u3 h => ?_)
  refine pj_iload_n C d_Di_random_10 (pc' := 11) (i := 2) (x := x2) rfl rfl rfl ?_
  refine ck_Digest_21 C  h d_Di_random_11 (pc' := 14) rfl ⟨Nat.le_of_ble_eq_true rfl, Nat.le_of_ble_eq_true rfl⟩ (Nat.le_of_ble_eq_true rfl) (fun r6 u5 h => ?_)
  refine ck_Digest_32 C  h d_Di_random_14 (pc' := 17) rfl ⟨Nat.le_of_ble_eq_true rfl, Nat.le_of_ble_eq_true rfl⟩ (Nat.le_of_ble_eq_true rfl) (fun r8 u7 h => ?_)
  exact pj_iret C hE d_Di_random_17 ⟨_, rfl, h⟩
def pw_Di_random (u : pj_M) (x0 : Int32) (x1 : Int32) (x2 : Int32) (K : Int32 → pj_M → Prop) : Prop := pb_Di_random_0  K u x0 x1 x2
theorem pc_Di_random (l : Launch) (D : va_G) (E : Nat → ClassId) {b : Nat} {u : pj_M} {x0 : Int32} {x1 : Int32} {x2 : Int32} {K : Int32 → pj_M → Prop}  (h : pw_Di_random u x0 x1 x2 K) : pj_C l y_Di_random c_Di_random 3 (some .int) rm_Di_random D E b [.int x0, .int x1, .int x2] u (pj_Ki K) := by
  refine pj_met (own := R_Di) (by decide +kernel) rfl (Nat.le_of_ble_eq_true rfl) (fun g hE C => ?_)
  unfold pw_Di_random at h
  show pj_J g (pj_N g b u) 0 [some (.int x0), some (.int x1), some (.int x2)] []
  exact pj_cut (pj_le_s (pj_le_s (pj_le_s pj_le_e))) (pt_Di_random_0 C hE   h)
/-! Digest.challengeResponse(III)I -/
def rm_Di_challengeResponse : Room := { frames := 1, cells := 0, slots := 0, locals := 23 }
def pb_Di_challengeResponse_0  (K : Int32 → pj_M → Prop) (u : pj_M) (x0 : Int32) (x1 : Int32) (x2 : Int32) : Prop := pw_Di_addByte u ((-2128831035)) x0 fun r2 u1 => (pw_Di_addInt u1 r2 x1 fun r4 u3 => (pw_Di_addInt u3 r4 x2 fun r6 u5 => (pw_Di_end u5 r6 fun r8 u7 => (K r8 u7))))
set_option maxHeartbeats 1000000 in
theorem pt_Di_challengeResponse_0 {g : pj_G} {b : Nat} (C : pj_X g c_Di_challengeResponse 3 R_Di (some .int) rm_Di_challengeResponse) {K : Int32 → pj_M → Prop} (hE : pj_E g b (pj_Ki K))   {u : pj_M} {x0 : Int32} {x1 : Int32} {x2 : Int32}   (h : pb_Di_challengeResponse_0  K u x0 x1 x2) : pj_J g (pj_N g b u) 0 [some (.int x0), some (.int x1), some (.int x2)] [] := by
  unfold pb_Di_challengeResponse_0 at h
  refine pj_ldc C d_Di_challengeResponse_0 (pc' := 2) rfl (v := (-2128831035)) wm_751 ?_
  refine pj_iload_n C d_Di_challengeResponse_2 (pc' := 3) (i := 0) (x := x0) rfl rfl rfl ?_
  refine ck_Digest_25 C  h d_Di_challengeResponse_3 (pc' := 6) rfl ⟨Nat.le_of_ble_eq_true rfl, Nat.le_of_ble_eq_true rfl⟩ (Nat.le_of_ble_eq_true rfl) (fun r2 u1 h => ?_)
  refine pj_iload_n C d_Di_challengeResponse_6 (pc' := 7) (i := 1) (x := x1) rfl rfl rfl ?_
  refine ck_Digest_21 C  h d_Di_challengeResponse_7 (pc' := 10) rfl ⟨Nat.le_of_ble_eq_true rfl, Nat.le_of_ble_eq_true rfl⟩ (Nat.le_of_ble_eq_true rfl) (fun r4 u3 h => ?_)
  refine pj_iload_n C d_Di_challengeResponse_10 (pc' := 11) (i := 2) (x := x2) rfl rfl rfl ?_
  refine ck_Digest_21 C  h d_Di_challengeResponse_11 (pc' := 14) rfl ⟨Nat.le_of_ble_eq_true rfl, Nat.le_of_ble_eq_true rfl⟩ (Nat.le_of_ble_eq_true rfl) (fun r6 u5 h => ?_)
  refine ck_Digest_32 C  h d_Di_challengeResponse_14 (pc' := 17) rfl ⟨Nat.le_of_ble_eq_true rfl, Nat.le_of_ble_eq_true rfl⟩ (Nat.le_of_ble_eq_true rfl) (fun r8 u7 h => ?_)
  exact pj_iret C hE d_Di_challengeResponse_17 ⟨_, rfl, h⟩
def pw_Di_challengeResponse (u : pj_M) (x0 : Int32) (x1 : Int32) (x2 : Int32) (K : Int32 → pj_M → Prop) : Prop := pb_Di_challengeResponse_0  K u x0 x1 x2
theorem pc_Di_challengeResponse (l : Launch) (D : va_G) (E : Nat → ClassId) {b : Nat} {u : pj_M} {x0 : Int32} {x1 : Int32} {x2 : Int32} {K : Int32 → pj_M → Prop}  (h : pw_Di_challengeResponse u x0 x1 x2 K) : pj_C l y_Di_challengeResponse c_Di_challengeResponse 3 (some .int) rm_Di_challengeResponse D E b [.int x0, .int x1, .int x2] u (pj_Ki K) := by
  refine pj_met (own := R_Di) (by decide +kernel) rfl (Nat.le_of_ble_eq_true rfl) (fun g hE C => ?_)
  unfold pw_Di_challengeResponse at h
  show pj_J g (pj_N g b u) 0 [some (.int x0), some (.int x1), some (.int x2)] []
  exact pj_cut (pj_le_s (pj_le_s (pj_le_s pj_le_e))) (pt_Di_challengeResponse_0 C hE   h)
