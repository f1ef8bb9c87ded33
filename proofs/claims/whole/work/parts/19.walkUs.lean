/-! Users.knows(I)Z -/
theorem fg_Users_15_Users {g : pj_G} {b : Nat} {cc : ByteArray} {nL : Nat} {ret : Option FieldType} {rm : Room} {u : pj_M} {pc pc' : Nat} {vs : List (Option Value)} {st : List Value} (C : pj_X g cc nL R_Us ret rm) {i : Nat} (t : pj_T i = 1) (hdg : decode cc pc = .ok (.getfield 15, 3)) (hp : pc + 3 = pc') (kk : pj_J g (pj_N g b u) pc' vs (.ref (b + 3) :: st)) : pj_J g (pj_N g b u) pc vs (.ref (b + i) :: st) :=
  pj_get C cl_Users hin_Users (k := 1) (Nat.le_of_ble_eq_true rfl) wm_124 (Or.inl rfl) (pj_lt t (by decide)) (fun E => ko_1 t) rfl hdg hp kk
def rm_Us_knows : Room := { frames := 0, cells := 0, slots := 0, locals := 0 }
def pb_Us_knows_24  (K : Int32 → pj_M → Prop) (u : pj_M) (s0 : Int32) : Prop := pj_bi s0 ∧ K s0 u
set_option maxHeartbeats 1000000 in
theorem pt_Us_knows_24 {g : pj_G} {b : Nat} (C : pj_X g c_Us_knows 2 R_Us (some .boolean) rm_Us_knows) {K : Int32 → pj_M → Prop} (hE : pj_E g b (pj_Ki K))   {u : pj_M} {s0 : Int32}   (h : pb_Us_knows_24  K u s0) : pj_J g (pj_N g b u) 24 [none, none] [.int s0] := by
  unfold pb_Us_knows_24 at h
  exact pj_zret C hE d_Us_knows_24 h.1 ⟨_, rfl, h.2⟩
def pb_Us_knows_23  (K : Int32 → pj_M → Prop) (u : pj_M)  : Prop := pb_Us_knows_24  K u 0
set_option maxHeartbeats 1000000 in
theorem pt_Us_knows_23 {g : pj_G} {b : Nat} (C : pj_X g c_Us_knows 2 R_Us (some .boolean) rm_Us_knows) {K : Int32 → pj_M → Prop} (hE : pj_E g b (pj_Ki K))   {u : pj_M}    (h : pb_Us_knows_23  K u ) : pj_J g (pj_N g b u) 23 [none, none] [] := by
  unfold pb_Us_knows_23 at h
  refine pj_iconst C d_Us_knows_23 (pc' := 24) rfl (v := 0) (by decide) ?_
  exact pj_cut (pj_le_n (pj_le_n pj_le_e)) (pt_Us_knows_24 C hE   h)
def pb_Us_knows_19  (K : Int32 → pj_M → Prop) (u : pj_M)  : Prop := pb_Us_knows_24  K u 1
set_option maxHeartbeats 1000000 in
theorem pt_Us_knows_19 {g : pj_G} {b : Nat} (C : pj_X g c_Us_knows 2 R_Us (some .boolean) rm_Us_knows) {K : Int32 → pj_M → Prop} (hE : pj_E g b (pj_Ki K))   {u : pj_M}    (h : pb_Us_knows_19  K u ) : pj_J g (pj_N g b u) 19 [none, none] [] := by
  unfold pb_Us_knows_19 at h
  refine pj_iconst C d_Us_knows_19 (pc' := 20) rfl (v := 1) (by decide) ?_
  refine pj_goto C d_Us_knows_20 (tgt := 24) (by decide) ?_
  exact pj_cut (pj_le_n (pj_le_n pj_le_e)) (pt_Us_knows_24 C hE   h)
def pb_Us_knows_10  (K : Int32 → pj_M → Prop) (u : pj_M) (x1 : Int32) : Prop := vp_in x1 8 ∧ ((((u 3 x1.toNatClampNeg) = 0) → (pb_Us_knows_23  K u )) ∧ (¬ ((u 3 x1.toNatClampNeg) = 0) → (pb_Us_knows_19  K u )))
set_option maxHeartbeats 1000000 in
theorem pt_Us_knows_10 {g : pj_G} {b : Nat} (C : pj_X g c_Us_knows 2 R_Us (some .boolean) rm_Us_knows) {K : Int32 → pj_M → Prop} (hE : pj_E g b (pj_Ki K))   {u : pj_M} {x1 : Int32}   (h : pb_Us_knows_10  K u x1) : pj_J g (pj_N g b u) 10 [some (.ref (b + 1)), some (.int x1)] [] := by
  unfold pb_Us_knows_10 at h
  refine pj_aload_n C d_Us_knows_10 (pc' := 11) (i := 0) (x := b + 1) rfl rfl rfl ?_
  refine fg_Users_15_Users C tk_1 d_Us_knows_11 (pc' := 14) rfl ?_
  refine pj_iload_n C d_Us_knows_14 (pc' := 15) (i := 1) (x := x1) rfl rfl rfl ?_
  refine pj_iald C (pj_lt tk_3 (by decide)) (fun E u => ka_20 tk_3) d_Us_knows_15 (pc' := 16) rfl h (fun h => ?_)
  refine pj_if_eq C d_Us_knows_16 (pc' := 19) rfl (tgt := 23) (by decide) h (fun h => ?_) (fun h => ?_)
  · exact pj_cut (pj_le_n (pj_le_n pj_le_e)) (pt_Us_knows_23 C hE   h)
  · exact pj_cut (pj_le_n (pj_le_n pj_le_e)) (pt_Us_knows_19 C hE   h)
def pb_Us_knows_4  (K : Int32 → pj_M → Prop) (u : pj_M) (x1 : Int32) : Prop := ((8 ≤ x1) → (pb_Us_knows_23  K u )) ∧ (¬ (8 ≤ x1) → (pb_Us_knows_10  K u x1))
set_option maxHeartbeats 1000000 in
theorem pt_Us_knows_4 {g : pj_G} {b : Nat} (C : pj_X g c_Us_knows 2 R_Us (some .boolean) rm_Us_knows) {K : Int32 → pj_M → Prop} (hE : pj_E g b (pj_Ki K))   {u : pj_M} {x1 : Int32}   (h : pb_Us_knows_4  K u x1) : pj_J g (pj_N g b u) 4 [some (.ref (b + 1)), some (.int x1)] [] := by
  unfold pb_Us_knows_4 at h
  refine pj_iload_n C d_Us_knows_4 (pc' := 5) (i := 1) (x := x1) rfl rfl rfl ?_
  refine pj_bipush C d_Us_knows_5 (pc' := 7) rfl (v := 8) (by decide) ?_
  refine pj_icmp_ge C d_Us_knows_7 (pc' := 10) rfl (tgt := 23) (by decide) h (fun h => ?_) (fun h => ?_)
  · exact pj_cut (pj_le_n (pj_le_n pj_le_e)) (pt_Us_knows_23 C hE   h)
  · exact pj_cut (pj_le_s (pj_le_s pj_le_e)) (pt_Us_knows_10 C hE   h)
def pb_Us_knows_0  (K : Int32 → pj_M → Prop) (u : pj_M) (x1 : Int32) : Prop := ((x1 < 0) → (pb_Us_knows_23  K u )) ∧ (¬ (x1 < 0) → (pb_Us_knows_4  K u x1))
set_option maxHeartbeats 1000000 in
theorem pt_Us_knows_0 {g : pj_G} {b : Nat} (C : pj_X g c_Us_knows 2 R_Us (some .boolean) rm_Us_knows) {K : Int32 → pj_M → Prop} (hE : pj_E g b (pj_Ki K))   {u : pj_M} {x1 : Int32}   (h : pb_Us_knows_0  K u x1) : pj_J g (pj_N g b u) 0 [some (.ref (b + 1)), some (.int x1)] [] := by
  unfold pb_Us_knows_0 at h
  refine pj_iload_n C d_Us_knows_0 (pc' := 1) (i := 1) (x := x1) rfl rfl rfl ?_
  refine pj_if_lt C d_Us_knows_1 (pc' := 4) rfl (tgt := 23) (by decide) h (fun h => ?_) (fun h => ?_)
  · exact pj_cut (pj_le_n (pj_le_n pj_le_e)) (pt_Us_knows_23 C hE   h)
  · exact pj_cut (pj_le_s (pj_le_s pj_le_e)) (pt_Us_knows_4 C hE   h)
def pw_Us_knows (u : pj_M) (x1 : Int32) (K : Int32 → pj_M → Prop) : Prop := pb_Us_knows_0  K u x1
theorem pc_Us_knows (l : Launch) (D : va_G) (E : Nat → ClassId) {b : Nat} {u : pj_M} {x1 : Int32} {K : Int32 → pj_M → Prop}  (h : pw_Us_knows u x1 K) : pj_C l y_Us_knows c_Us_knows 2 (some .boolean) rm_Us_knows D E b [.ref (b + 1), .int x1] u (pj_Ki K) := by
  refine pj_met (own := R_Us) (by decide +kernel) rfl (Nat.le_of_ble_eq_true rfl) (fun g hE C => ?_)
  unfold pw_Us_knows at h
  show pj_J g (pj_N g b u) 0 [some (.ref (b + 1)), some (.int x1)] []
  exact pj_cut (pj_le_s (pj_le_s pj_le_e)) (pt_Us_knows_0 C hE   h)
