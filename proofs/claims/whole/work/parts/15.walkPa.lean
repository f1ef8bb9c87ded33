/-! Packet.code()I -/
theorem ck_Packet_15_Packet {g : pj_G} {b : Nat} {cc : ByteArray} {nL : Nat} {ret : Option FieldType} {rm : Room} {u : pj_M} {pc pc' : Nat} {vs : List (Option Value)} {st : List Value} (C : pj_X g cc nL R_Pa ret rm) {i0 : Nat} {x1 : Int32} {K : Int32 → pj_M → Prop} (t : pj_T i0 = 4) (h : pw_Ro_at u i0 x1 K) (hdg : decode cc pc = .ok (.invokevirtual 15, 3)) (hp : pc + 3 = pc') (hR : rm_Ro_at.frames + 1 ≤ rm.frames ∧ 8 + (2 + 11) + rm_Ro_at.locals ≤ rm.locals) (h8 : (st.map fun v => v.category).sum ≤ 8) (kk : ∀ r u', K r u' → pj_J g (pj_N g b u') pc' vs (.int r :: st)) : pj_J g (pj_N g b u) pc vs (.int x1 :: .ref (b + i0) :: st) := by
  have t0 : pj_R i0 := Or.inr t
  exact pj_callU C (x := ⟨"PortGuard$Packet", "at", "(I)I"⟩) (owner := "PortGuard$Row") (As := [.int x1]) (fun l D E => pc_Ro_at l D E t0 h) rfl rfl cl_Packet (pj_lt t (by decide)) (fun E => ko_4 t) rfl wm_646 wm_650 wm_649 wm_94 wm_651 wm_647 (by decide +kernel) (n := 1) rfl hR rfl h8 hdg hp (fun v u' hq => by obtain ⟨r, rfl, hk⟩ := hq; exact kk r u' hk)
def rm_Pa_code : Room := { frames := 1, cells := 0, slots := 0, locals := 21 }
def pb_Pa_code_0  (K : Int32 → pj_M → Prop) (u : pj_M) (i0 : Nat) : Prop := pw_Ro_at u i0 0 fun r2 u1 => (K r2 u1)
set_option maxHeartbeats 1000000 in
theorem pt_Pa_code_0 {g : pj_G} {b : Nat} (C : pj_X g c_Pa_code 1 R_Pa (some .int) rm_Pa_code) {K : Int32 → pj_M → Prop} (hE : pj_E g b (pj_Ki K))   {u : pj_M} {i0 : Nat}  (t0 : pj_T i0 = 4) (h : pb_Pa_code_0  K u i0) : pj_J g (pj_N g b u) 0 [some (.ref (b + i0))] [] := by
  unfold pb_Pa_code_0 at h
  refine pj_aload_n C d_Pa_code_0 (pc' := 1) (i := 0) (x := b + i0) rfl rfl rfl ?_
  refine pj_iconst C d_Pa_code_1 (pc' := 2) rfl (v := 0) (by decide) ?_
  refine ck_Packet_15_Packet C t0 h d_Pa_code_2 (pc' := 5) rfl ⟨Nat.le_of_ble_eq_true rfl, Nat.le_of_ble_eq_true rfl⟩ (Nat.le_of_ble_eq_true rfl) (fun r2 u1 h => ?_)
  exact pj_iret C hE d_Pa_code_5 ⟨_, rfl, h⟩
def pw_Pa_code (u : pj_M) (i0 : Nat) (K : Int32 → pj_M → Prop) : Prop := pb_Pa_code_0  K u i0
theorem pc_Pa_code (l : Launch) (D : va_G) (E : Nat → ClassId) {b : Nat} {u : pj_M} {i0 : Nat} {K : Int32 → pj_M → Prop} (t0 : pj_T i0 = 4) (h : pw_Pa_code u i0 K) : pj_C l y_Pa_code c_Pa_code 1 (some .int) rm_Pa_code D E b [.ref (b + i0)] u (pj_Ki K) := by
  refine pj_met (own := R_Pa) (by decide +kernel) rfl (Nat.le_of_ble_eq_true rfl) (fun g hE C => ?_)
  unfold pw_Pa_code at h
  show pj_J g (pj_N g b u) 0 [some (.ref (b + i0))] []
  exact pj_cut (pj_le_s pj_le_e) (pt_Pa_code_0 C hE  t0 h)
/-! Packet.isRight()Z -/
theorem fg_Packet_9_Packet {g : pj_G} {b : Nat} {cc : ByteArray} {nL : Nat} {ret : Option FieldType} {rm : Room} {u : pj_M} {pc pc' : Nat} {vs : List (Option Value)} {st : List Value} (C : pj_X g cc nL R_Pa ret rm) {i : Nat} (t : pj_T i = 4) (hdg : decode cc pc = .ok (.getfield 9, 3)) (hp : pc + 3 = pc') (kk : pj_J g (pj_N g b u) pc' vs (.int (u i 1) :: st)) : pj_J g (pj_N g b u) pc vs (.ref (b + i) :: st) :=
  pj_get C cl_Packet hin_Packet (k := 1) (Nat.le_of_ble_eq_true rfl) wm_148 (Or.inr wm_149) (pj_lt t (by decide)) (fun E => ko_4 t) rfl hdg hp kk
theorem ck_Packet_19_Packet {g : pj_G} {b : Nat} {cc : ByteArray} {nL : Nat} {ret : Option FieldType} {rm : Room} {u : pj_M} {pc pc' : Nat} {vs : List (Option Value)} {st : List Value} (C : pj_X g cc nL R_Pa ret rm) {i0 : Nat} {K : Int32 → pj_M → Prop} (t0 : pj_T i0 = 4) (h : pw_Pa_code u i0 K) (hdg : decode cc pc = .ok (.invokevirtual 19, 3)) (hp : pc + 3 = pc') (hR : rm_Pa_code.frames + 1 ≤ rm.frames ∧ 8 + (1 + 11) + rm_Pa_code.locals ≤ rm.locals) (h8 : (st.map fun v => v.category).sum ≤ 8) (kk : ∀ r u', K r u' → pj_J g (pj_N g b u') pc' vs (.int r :: st)) : pj_J g (pj_N g b u) pc vs (.ref (b + i0) :: st) :=
  pj_callV C (As := []) (fun l D E => pc_Pa_code l D E t0 h) rfl rfl cl_Packet (pj_lt t0 (by decide)) (fun E => ko_4 t0) wm_719 wm_720 wm_721 wm_96 wm_722 (by decide +kernel) (n := 0) rfl hR rfl h8 hdg hp (fun v u' hq => by obtain ⟨r, rfl, hk⟩ := hq; exact kk r u' hk)
def rm_Pa_isRight : Room := { frames := 2, cells := 0, slots := 0, locals := 41 }
def pb_Pa_isRight_29  (K : Int32 → pj_M → Prop) (u : pj_M)  : Prop := K 0 u
set_option maxHeartbeats 1000000 in
theorem pt_Pa_isRight_29 {g : pj_G} {b : Nat} (C : pj_X g c_Pa_isRight 1 R_Pa (some .boolean) rm_Pa_isRight) {K : Int32 → pj_M → Prop} (hE : pj_E g b (pj_Ki K))   {u : pj_M}    (h : pb_Pa_isRight_29  K u ) : pj_J g (pj_N g b u) 29 [none] [] := by
  unfold pb_Pa_isRight_29 at h
  refine pj_iconst C d_Pa_isRight_29 (pc' := 30) rfl (v := 0) (by decide) ?_
  exact pj_zret C hE d_Pa_isRight_30 pj_bi0 ⟨_, rfl, h⟩
def pb_Pa_isRight_60  (K : Int32 → pj_M → Prop) (u : pj_M) (s0 : Int32) : Prop := pj_bi s0 ∧ K s0 u
set_option maxHeartbeats 1000000 in
theorem pt_Pa_isRight_60 {g : pj_G} {b : Nat} (C : pj_X g c_Pa_isRight 1 R_Pa (some .boolean) rm_Pa_isRight) {K : Int32 → pj_M → Prop} (hE : pj_E g b (pj_Ki K))   {u : pj_M} {s0 : Int32}   (h : pb_Pa_isRight_60  K u s0) : pj_J g (pj_N g b u) 60 [none] [.int s0] := by
  unfold pb_Pa_isRight_60 at h
  exact pj_zret C hE d_Pa_isRight_60 h.1 ⟨_, rfl, h.2⟩
def pb_Pa_isRight_59  (K : Int32 → pj_M → Prop) (u : pj_M)  : Prop := pb_Pa_isRight_60  K u 0
set_option maxHeartbeats 1000000 in
theorem pt_Pa_isRight_59 {g : pj_G} {b : Nat} (C : pj_X g c_Pa_isRight 1 R_Pa (some .boolean) rm_Pa_isRight) {K : Int32 → pj_M → Prop} (hE : pj_E g b (pj_Ki K))   {u : pj_M}    (h : pb_Pa_isRight_59  K u ) : pj_J g (pj_N g b u) 59 [none] [] := by
  unfold pb_Pa_isRight_59 at h
  refine pj_iconst C d_Pa_isRight_59 (pc' := 60) rfl (v := 0) (by decide) ?_
  exact pj_cut (pj_le_n pj_le_e) (pt_Pa_isRight_60 C hE   h)
def pb_Pa_isRight_55  (K : Int32 → pj_M → Prop) (u : pj_M)  : Prop := pb_Pa_isRight_60  K u 1
set_option maxHeartbeats 1000000 in
theorem pt_Pa_isRight_55 {g : pj_G} {b : Nat} (C : pj_X g c_Pa_isRight 1 R_Pa (some .boolean) rm_Pa_isRight) {K : Int32 → pj_M → Prop} (hE : pj_E g b (pj_Ki K))   {u : pj_M}    (h : pb_Pa_isRight_55  K u ) : pj_J g (pj_N g b u) 55 [none] [] := by
  unfold pb_Pa_isRight_55 at h
  refine pj_iconst C d_Pa_isRight_55 (pc' := 56) rfl (v := 1) (by decide) ?_
  refine pj_goto C d_Pa_isRight_56 (tgt := 60) (by decide) ?_
  exact pj_cut (pj_le_n pj_le_e) (pt_Pa_isRight_60 C hE   h)
def pb_Pa_isRight_47  (K : Int32 → pj_M → Prop) (u : pj_M) (i0 : Nat) : Prop := (((u i0 1) ≤ 3) → (pb_Pa_isRight_59  K u )) ∧ (¬ ((u i0 1) ≤ 3) → (pb_Pa_isRight_55  K u ))
set_option maxHeartbeats 1000000 in
theorem pt_Pa_isRight_47 {g : pj_G} {b : Nat} (C : pj_X g c_Pa_isRight 1 R_Pa (some .boolean) rm_Pa_isRight) {K : Int32 → pj_M → Prop} (hE : pj_E g b (pj_Ki K))   {u : pj_M} {i0 : Nat}  (t0 : pj_T i0 = 4) (h : pb_Pa_isRight_47  K u i0) : pj_J g (pj_N g b u) 47 [some (.ref (b + i0))] [] := by
  unfold pb_Pa_isRight_47 at h
  refine pj_aload_n C d_Pa_isRight_47 (pc' := 48) (i := 0) (x := b + i0) rfl rfl rfl ?_
  refine fg_Packet_9_Packet C t0 d_Pa_isRight_48 (pc' := 51) rfl ?_
  refine pj_iconst C d_Pa_isRight_51 (pc' := 52) rfl (v := 3) (by decide) ?_
  refine pj_icmp_le C d_Pa_isRight_52 (pc' := 55) rfl (tgt := 59) (by decide) h (fun h => ?_) (fun h => ?_)
  · exact pj_cut (pj_le_n pj_le_e) (pt_Pa_isRight_59 C hE   h)
  · exact pj_cut (pj_le_n pj_le_e) (pt_Pa_isRight_55 C hE   h)
def pb_Pa_isRight_90  (K : Int32 → pj_M → Prop) (u : pj_M) (s0 : Int32) : Prop := pj_bi s0 ∧ K s0 u
set_option maxHeartbeats 1000000 in
theorem pt_Pa_isRight_90 {g : pj_G} {b : Nat} (C : pj_X g c_Pa_isRight 1 R_Pa (some .boolean) rm_Pa_isRight) {K : Int32 → pj_M → Prop} (hE : pj_E g b (pj_Ki K))   {u : pj_M} {s0 : Int32}   (h : pb_Pa_isRight_90  K u s0) : pj_J g (pj_N g b u) 90 [none] [.int s0] := by
  unfold pb_Pa_isRight_90 at h
  exact pj_zret C hE d_Pa_isRight_90 h.1 ⟨_, rfl, h.2⟩
def pb_Pa_isRight_89  (K : Int32 → pj_M → Prop) (u : pj_M)  : Prop := pb_Pa_isRight_90  K u 0
set_option maxHeartbeats 1000000 in
theorem pt_Pa_isRight_89 {g : pj_G} {b : Nat} (C : pj_X g c_Pa_isRight 1 R_Pa (some .boolean) rm_Pa_isRight) {K : Int32 → pj_M → Prop} (hE : pj_E g b (pj_Ki K))   {u : pj_M}    (h : pb_Pa_isRight_89  K u ) : pj_J g (pj_N g b u) 89 [none] [] := by
  unfold pb_Pa_isRight_89 at h
  refine pj_iconst C d_Pa_isRight_89 (pc' := 90) rfl (v := 0) (by decide) ?_
  exact pj_cut (pj_le_n pj_le_e) (pt_Pa_isRight_90 C hE   h)
def pb_Pa_isRight_85  (K : Int32 → pj_M → Prop) (u : pj_M)  : Prop := pb_Pa_isRight_90  K u 1
set_option maxHeartbeats 1000000 in
theorem pt_Pa_isRight_85 {g : pj_G} {b : Nat} (C : pj_X g c_Pa_isRight 1 R_Pa (some .boolean) rm_Pa_isRight) {K : Int32 → pj_M → Prop} (hE : pj_E g b (pj_Ki K))   {u : pj_M}    (h : pb_Pa_isRight_85  K u ) : pj_J g (pj_N g b u) 85 [none] [] := by
  unfold pb_Pa_isRight_85 at h
  refine pj_iconst C d_Pa_isRight_85 (pc' := 86) rfl (v := 1) (by decide) ?_
  refine pj_goto C d_Pa_isRight_86 (tgt := 90) (by decide) ?_
  exact pj_cut (pj_le_n pj_le_e) (pt_Pa_isRight_90 C hE   h)
def pb_Pa_isRight_77  (K : Int32 → pj_M → Prop) (u : pj_M) (i0 : Nat) : Prop := (((u i0 1) = 3) → (pb_Pa_isRight_85  K u )) ∧ (¬ ((u i0 1) = 3) → (pb_Pa_isRight_89  K u ))
set_option maxHeartbeats 1000000 in
theorem pt_Pa_isRight_77 {g : pj_G} {b : Nat} (C : pj_X g c_Pa_isRight 1 R_Pa (some .boolean) rm_Pa_isRight) {K : Int32 → pj_M → Prop} (hE : pj_E g b (pj_Ki K))   {u : pj_M} {i0 : Nat}  (t0 : pj_T i0 = 4) (h : pb_Pa_isRight_77  K u i0) : pj_J g (pj_N g b u) 77 [some (.ref (b + i0))] [] := by
  unfold pb_Pa_isRight_77 at h
  refine pj_aload_n C d_Pa_isRight_77 (pc' := 78) (i := 0) (x := b + i0) rfl rfl rfl ?_
  refine fg_Packet_9_Packet C t0 d_Pa_isRight_78 (pc' := 81) rfl ?_
  refine pj_iconst C d_Pa_isRight_81 (pc' := 82) rfl (v := 3) (by decide) ?_
  refine pj_icmp_ne C d_Pa_isRight_82 (pc' := 85) rfl (tgt := 89) (by decide) h (fun h => ?_) (fun h => ?_)
  · exact pj_cut (pj_le_n pj_le_e) (pt_Pa_isRight_89 C hE   h)
  · exact pj_cut (pj_le_n pj_le_e) (pt_Pa_isRight_85 C hE   h)
def pb_Pa_isRight_69  (K : Int32 → pj_M → Prop) (u : pj_M) (i0 : Nat) : Prop := pw_Pa_code u i0 fun r2 u1 => (((r2 = 4) → (pb_Pa_isRight_77  K u1 i0)) ∧ (¬ (r2 = 4) → (pb_Pa_isRight_89  K u1 )))
set_option maxHeartbeats 1000000 in
theorem pt_Pa_isRight_69 {g : pj_G} {b : Nat} (C : pj_X g c_Pa_isRight 1 R_Pa (some .boolean) rm_Pa_isRight) {K : Int32 → pj_M → Prop} (hE : pj_E g b (pj_Ki K))   {u : pj_M} {i0 : Nat}  (t0 : pj_T i0 = 4) (h : pb_Pa_isRight_69  K u i0) : pj_J g (pj_N g b u) 69 [some (.ref (b + i0))] [] := by
  unfold pb_Pa_isRight_69 at h
  refine pj_aload_n C d_Pa_isRight_69 (pc' := 70) (i := 0) (x := b + i0) rfl rfl rfl ?_
  refine ck_Packet_19_Packet C t0 h d_Pa_isRight_70 (pc' := 73) rfl ⟨Nat.le_of_ble_eq_true rfl, Nat.le_of_ble_eq_true rfl⟩ (Nat.le_of_ble_eq_true rfl) (fun r2 u1 h => ?_)
  refine pj_iconst C d_Pa_isRight_73 (pc' := 74) rfl (v := 4) (by decide) ?_
  refine pj_icmp_ne C d_Pa_isRight_74 (pc' := 77) rfl (tgt := 89) (by decide) h (fun h => ?_) (fun h => ?_)
  · exact pj_cut (pj_le_n pj_le_e) (pt_Pa_isRight_89 C hE   h)
  · exact pj_cut (pj_le_s pj_le_e) (pt_Pa_isRight_77 C hE  t0 h)
def pb_Pa_isRight_61  (K : Int32 → pj_M → Prop) (u : pj_M) (i0 : Nat) : Prop := pw_Pa_code u i0 fun r2 u1 => (((r2 = 3) → (pb_Pa_isRight_77  K u1 i0)) ∧ (¬ (r2 = 3) → (pb_Pa_isRight_69  K u1 i0)))
set_option maxHeartbeats 1000000 in
theorem pt_Pa_isRight_61 {g : pj_G} {b : Nat} (C : pj_X g c_Pa_isRight 1 R_Pa (some .boolean) rm_Pa_isRight) {K : Int32 → pj_M → Prop} (hE : pj_E g b (pj_Ki K))   {u : pj_M} {i0 : Nat}  (t0 : pj_T i0 = 4) (h : pb_Pa_isRight_61  K u i0) : pj_J g (pj_N g b u) 61 [some (.ref (b + i0))] [] := by
  unfold pb_Pa_isRight_61 at h
  refine pj_aload_n C d_Pa_isRight_61 (pc' := 62) (i := 0) (x := b + i0) rfl rfl rfl ?_
  refine ck_Packet_19_Packet C t0 h d_Pa_isRight_62 (pc' := 65) rfl ⟨Nat.le_of_ble_eq_true rfl, Nat.le_of_ble_eq_true rfl⟩ (Nat.le_of_ble_eq_true rfl) (fun r2 u1 h => ?_)
  refine pj_iconst C d_Pa_isRight_65 (pc' := 66) rfl (v := 3) (by decide) ?_
  refine pj_icmp_eq C d_Pa_isRight_66 (pc' := 69) rfl (tgt := 77) (by decide) h (fun h => ?_) (fun h => ?_)
  · exact pj_cut (pj_le_s pj_le_e) (pt_Pa_isRight_77 C hE  t0 h)
  · exact pj_cut (pj_le_s pj_le_e) (pt_Pa_isRight_69 C hE  t0 h)
def pb_Pa_isRight_39  (K : Int32 → pj_M → Prop) (u : pj_M) (i0 : Nat) : Prop := pw_Pa_code u i0 fun r2 u1 => (((r2 = 2) → (pb_Pa_isRight_47  K u1 i0)) ∧ (¬ (r2 = 2) → (pb_Pa_isRight_61  K u1 i0)))
set_option maxHeartbeats 1000000 in
theorem pt_Pa_isRight_39 {g : pj_G} {b : Nat} (C : pj_X g c_Pa_isRight 1 R_Pa (some .boolean) rm_Pa_isRight) {K : Int32 → pj_M → Prop} (hE : pj_E g b (pj_Ki K))   {u : pj_M} {i0 : Nat}  (t0 : pj_T i0 = 4) (h : pb_Pa_isRight_39  K u i0) : pj_J g (pj_N g b u) 39 [some (.ref (b + i0))] [] := by
  unfold pb_Pa_isRight_39 at h
  refine pj_aload_n C d_Pa_isRight_39 (pc' := 40) (i := 0) (x := b + i0) rfl rfl rfl ?_
  refine ck_Packet_19_Packet C t0 h d_Pa_isRight_40 (pc' := 43) rfl ⟨Nat.le_of_ble_eq_true rfl, Nat.le_of_ble_eq_true rfl⟩ (Nat.le_of_ble_eq_true rfl) (fun r2 u1 h => ?_)
  refine pj_iconst C d_Pa_isRight_43 (pc' := 44) rfl (v := 2) (by decide) ?_
  refine pj_icmp_ne C d_Pa_isRight_44 (pc' := 47) rfl (tgt := 61) (by decide) h (fun h => ?_) (fun h => ?_)
  · exact pj_cut (pj_le_s pj_le_e) (pt_Pa_isRight_61 C hE  t0 h)
  · exact pj_cut (pj_le_s pj_le_e) (pt_Pa_isRight_47 C hE  t0 h)
def pb_Pa_isRight_31  (K : Int32 → pj_M → Prop) (u : pj_M) (i0 : Nat) : Prop := pw_Pa_code u i0 fun r2 u1 => (((r2 = 1) → (pb_Pa_isRight_47  K u1 i0)) ∧ (¬ (r2 = 1) → (pb_Pa_isRight_39  K u1 i0)))
set_option maxHeartbeats 1000000 in
theorem pt_Pa_isRight_31 {g : pj_G} {b : Nat} (C : pj_X g c_Pa_isRight 1 R_Pa (some .boolean) rm_Pa_isRight) {K : Int32 → pj_M → Prop} (hE : pj_E g b (pj_Ki K))   {u : pj_M} {i0 : Nat}  (t0 : pj_T i0 = 4) (h : pb_Pa_isRight_31  K u i0) : pj_J g (pj_N g b u) 31 [some (.ref (b + i0))] [] := by
  unfold pb_Pa_isRight_31 at h
  refine pj_aload_n C d_Pa_isRight_31 (pc' := 32) (i := 0) (x := b + i0) rfl rfl rfl ?_
  refine ck_Packet_19_Packet C t0 h d_Pa_isRight_32 (pc' := 35) rfl ⟨Nat.le_of_ble_eq_true rfl, Nat.le_of_ble_eq_true rfl⟩ (Nat.le_of_ble_eq_true rfl) (fun r2 u1 h => ?_)
  refine pj_iconst C d_Pa_isRight_35 (pc' := 36) rfl (v := 1) (by decide) ?_
  refine pj_icmp_eq C d_Pa_isRight_36 (pc' := 39) rfl (tgt := 47) (by decide) h (fun h => ?_) (fun h => ?_)
  · exact pj_cut (pj_le_s pj_le_e) (pt_Pa_isRight_47 C hE  t0 h)
  · exact pj_cut (pj_le_s pj_le_e) (pt_Pa_isRight_39 C hE  t0 h)
def pb_Pa_isRight_17  (K : Int32 → pj_M → Prop) (u : pj_M) (i0 : Nat) : Prop := pw_Ro_at u i0 2 fun r2 u1 => (((r2 = (u1 i0 1)) → (pb_Pa_isRight_31  K u1 i0)) ∧ (¬ (r2 = (u1 i0 1)) → (pb_Pa_isRight_29  K u1 )))
set_option maxHeartbeats 1000000 in
theorem pt_Pa_isRight_17 {g : pj_G} {b : Nat} (C : pj_X g c_Pa_isRight 1 R_Pa (some .boolean) rm_Pa_isRight) {K : Int32 → pj_M → Prop} (hE : pj_E g b (pj_Ki K))   {u : pj_M} {i0 : Nat}  (t0 : pj_T i0 = 4) (h : pb_Pa_isRight_17  K u i0) : pj_J g (pj_N g b u) 17 [some (.ref (b + i0))] [] := by
  unfold pb_Pa_isRight_17 at h
  refine pj_aload_n C d_Pa_isRight_17 (pc' := 18) (i := 0) (x := b + i0) rfl rfl rfl ?_
  refine pj_iconst C d_Pa_isRight_18 (pc' := 19) rfl (v := 2) (by decide) ?_
  refine ck_Packet_15_Packet C t0 h d_Pa_isRight_19 (pc' := 22) rfl ⟨Nat.le_of_ble_eq_true rfl, Nat.le_of_ble_eq_true rfl⟩ (Nat.le_of_ble_eq_true rfl) (fun r2 u1 h => ?_)
  refine pj_aload_n C d_Pa_isRight_22 (pc' := 23) (i := 0) (x := b + i0) rfl rfl rfl ?_
  refine fg_Packet_9_Packet C t0 d_Pa_isRight_23 (pc' := 26) rfl ?_
  refine pj_icmp_eq C d_Pa_isRight_26 (pc' := 29) rfl (tgt := 31) (by decide) h (fun h => ?_) (fun h => ?_)
  · exact pj_cut (pj_le_s pj_le_e) (pt_Pa_isRight_31 C hE  t0 h)
  · exact pj_cut (pj_le_n pj_le_e) (pt_Pa_isRight_29 C hE   h)
def pb_Pa_isRight_8  (K : Int32 → pj_M → Prop) (u : pj_M) (i0 : Nat) : Prop := ((20 < (u i0 1)) → (pb_Pa_isRight_29  K u )) ∧ (¬ (20 < (u i0 1)) → (pb_Pa_isRight_17  K u i0))
set_option maxHeartbeats 1000000 in
theorem pt_Pa_isRight_8 {g : pj_G} {b : Nat} (C : pj_X g c_Pa_isRight 1 R_Pa (some .boolean) rm_Pa_isRight) {K : Int32 → pj_M → Prop} (hE : pj_E g b (pj_Ki K))   {u : pj_M} {i0 : Nat}  (t0 : pj_T i0 = 4) (h : pb_Pa_isRight_8  K u i0) : pj_J g (pj_N g b u) 8 [some (.ref (b + i0))] [] := by
  unfold pb_Pa_isRight_8 at h
  refine pj_aload_n C d_Pa_isRight_8 (pc' := 9) (i := 0) (x := b + i0) rfl rfl rfl ?_
  refine fg_Packet_9_Packet C t0 d_Pa_isRight_9 (pc' := 12) rfl ?_
  refine pj_bipush C d_Pa_isRight_12 (pc' := 14) rfl (v := 20) (by decide) ?_
  refine pj_icmp_gt C d_Pa_isRight_14 (pc' := 17) rfl (tgt := 29) (by decide) h (fun h => ?_) (fun h => ?_)
  · exact pj_cut (pj_le_n pj_le_e) (pt_Pa_isRight_29 C hE   h)
  · exact pj_cut (pj_le_s pj_le_e) (pt_Pa_isRight_17 C hE  t0 h)
def pb_Pa_isRight_0  (K : Int32 → pj_M → Prop) (u : pj_M) (i0 : Nat) : Prop := (((u i0 1) < 3) → (pb_Pa_isRight_29  K u )) ∧ (¬ ((u i0 1) < 3) → (pb_Pa_isRight_8  K u i0))
set_option maxHeartbeats 1000000 in
theorem pt_Pa_isRight_0 {g : pj_G} {b : Nat} (C : pj_X g c_Pa_isRight 1 R_Pa (some .boolean) rm_Pa_isRight) {K : Int32 → pj_M → Prop} (hE : pj_E g b (pj_Ki K))   {u : pj_M} {i0 : Nat}  (t0 : pj_T i0 = 4) (h : pb_Pa_isRight_0  K u i0) : pj_J g (pj_N g b u) 0 [some (.ref (b + i0))] [] := by
  unfold pb_Pa_isRight_0 at h
  refine pj_aload_n C d_Pa_isRight_0 (pc' := 1) (i := 0) (x := b + i0) rfl rfl rfl ?_
  refine fg_Packet_9_Packet C t0 d_Pa_isRight_1 (pc' := 4) rfl ?_
  refine pj_iconst C d_Pa_isRight_4 (pc' := 5) rfl (v := 3) (by decide) ?_
  refine pj_icmp_lt C d_Pa_isRight_5 (pc' := 8) rfl (tgt := 29) (by decide) h (fun h => ?_) (fun h => ?_)
  · exact pj_cut (pj_le_n pj_le_e) (pt_Pa_isRight_29 C hE   h)
  · exact pj_cut (pj_le_s pj_le_e) (pt_Pa_isRight_8 C hE  t0 h)
def pw_Pa_isRight (u : pj_M) (i0 : Nat) (K : Int32 → pj_M → Prop) : Prop := pb_Pa_isRight_0  K u i0
theorem pc_Pa_isRight (l : Launch) (D : va_G) (E : Nat → ClassId) {b : Nat} {u : pj_M} {i0 : Nat} {K : Int32 → pj_M → Prop} (t0 : pj_T i0 = 4) (h : pw_Pa_isRight u i0 K) : pj_C l y_Pa_isRight c_Pa_isRight 1 (some .boolean) rm_Pa_isRight D E b [.ref (b + i0)] u (pj_Ki K) := by
  refine pj_met (own := R_Pa) (by decide +kernel) rfl (Nat.le_of_ble_eq_true rfl) (fun g hE C => ?_)
  unfold pw_Pa_isRight at h
  show pj_J g (pj_N g b u) 0 [some (.ref (b + i0))] []
  exact pj_cut (pj_le_s pj_le_e) (pt_Pa_isRight_0 C hE  t0 h)
/-! Packet.id()I -/
def rm_Pa_id : Room := { frames := 1, cells := 0, slots := 0, locals := 21 }
def pb_Pa_id_0  (K : Int32 → pj_M → Prop) (u : pj_M) (i0 : Nat) : Prop := pw_Ro_at u i0 1 fun r2 u1 => (K r2 u1)
set_option maxHeartbeats 1000000 in
theorem pt_Pa_id_0 {g : pj_G} {b : Nat} (C : pj_X g c_Pa_id 1 R_Pa (some .int) rm_Pa_id) {K : Int32 → pj_M → Prop} (hE : pj_E g b (pj_Ki K))   {u : pj_M} {i0 : Nat}  (t0 : pj_T i0 = 4) (h : pb_Pa_id_0  K u i0) : pj_J g (pj_N g b u) 0 [some (.ref (b + i0))] [] := by
  unfold pb_Pa_id_0 at h
  refine pj_aload_n C d_Pa_id_0 (pc' := 1) (i := 0) (x := b + i0) rfl rfl rfl ?_
  refine pj_iconst C d_Pa_id_1 (pc' := 2) rfl (v := 1) (by decide) ?_
  refine ck_Packet_15_Packet C t0 h d_Pa_id_2 (pc' := 5) rfl ⟨Nat.le_of_ble_eq_true rfl, Nat.le_of_ble_eq_true rfl⟩ (Nat.le_of_ble_eq_true rfl) (fun r2 u1 h => ?_)
  exact pj_iret C hE d_Pa_id_5 ⟨_, rfl, h⟩
def pw_Pa_id (u : pj_M) (i0 : Nat) (K : Int32 → pj_M → Prop) : Prop := pb_Pa_id_0  K u i0
theorem pc_Pa_id (l : Launch) (D : va_G) (E : Nat → ClassId) {b : Nat} {u : pj_M} {i0 : Nat} {K : Int32 → pj_M → Prop} (t0 : pj_T i0 = 4) (h : pw_Pa_id u i0 K) : pj_C l y_Pa_id c_Pa_id 1 (some .int) rm_Pa_id D E b [.ref (b + i0)] u (pj_Ki K) := by
  refine pj_met (own := R_Pa) (by decide +kernel) rfl (Nat.le_of_ble_eq_true rfl) (fun g hE C => ?_)
  unfold pw_Pa_id at h
  show pj_J g (pj_N g b u) 0 [some (.ref (b + i0))] []
  exact pj_cut (pj_le_s pj_le_e) (pt_Pa_id_0 C hE  t0 h)
/-! Packet.type()I -/
def rm_Pa_type : Room := { frames := 1, cells := 0, slots := 0, locals := 21 }
def pb_Pa_type_0  (K : Int32 → pj_M → Prop) (u : pj_M) (i0 : Nat) : Prop := pw_Ro_at u i0 3 fun r2 u1 => (K r2 u1)
set_option maxHeartbeats 1000000 in
theorem pt_Pa_type_0 {g : pj_G} {b : Nat} (C : pj_X g c_Pa_type 1 R_Pa (some .int) rm_Pa_type) {K : Int32 → pj_M → Prop} (hE : pj_E g b (pj_Ki K))   {u : pj_M} {i0 : Nat}  (t0 : pj_T i0 = 4) (h : pb_Pa_type_0  K u i0) : pj_J g (pj_N g b u) 0 [some (.ref (b + i0))] [] := by
  unfold pb_Pa_type_0 at h
  refine pj_aload_n C d_Pa_type_0 (pc' := 1) (i := 0) (x := b + i0) rfl rfl rfl ?_
  refine pj_iconst C d_Pa_type_1 (pc' := 2) rfl (v := 3) (by decide) ?_
  refine ck_Packet_15_Packet C t0 h d_Pa_type_2 (pc' := 5) rfl ⟨Nat.le_of_ble_eq_true rfl, Nat.le_of_ble_eq_true rfl⟩ (Nat.le_of_ble_eq_true rfl) (fun r2 u1 h => ?_)
  exact pj_iret C hE d_Pa_type_5 ⟨_, rfl, h⟩
def pw_Pa_type (u : pj_M) (i0 : Nat) (K : Int32 → pj_M → Prop) : Prop := pb_Pa_type_0  K u i0
theorem pc_Pa_type (l : Launch) (D : va_G) (E : Nat → ClassId) {b : Nat} {u : pj_M} {i0 : Nat} {K : Int32 → pj_M → Prop} (t0 : pj_T i0 = 4) (h : pw_Pa_type u i0 K) : pj_C l y_Pa_type c_Pa_type 1 (some .int) rm_Pa_type D E b [.ref (b + i0)] u (pj_Ki K) := by
  refine pj_met (own := R_Pa) (by decide +kernel) rfl (Nat.le_of_ble_eq_true rfl) (fun g hE C => ?_)
  unfold pw_Pa_type at h
  show pj_J g (pj_N g b u) 0 [some (.ref (b + i0))] []
  exact pj_cut (pj_le_s pj_le_e) (pt_Pa_type_0 C hE  t0 h)
/-! Packet.dataSize()I -/
def rm_Pa_dataSize : Room := { frames := 0, cells := 0, slots := 0, locals := 0 }
def pb_Pa_dataSize_0  (K : Int32 → pj_M → Prop) (u : pj_M) (i0 : Nat) : Prop := K (((u i0 1) - 3) - 1) u
set_option maxHeartbeats 1000000 in
theorem pt_Pa_dataSize_0 {g : pj_G} {b : Nat} (C : pj_X g c_Pa_dataSize 1 R_Pa (some .int) rm_Pa_dataSize) {K : Int32 → pj_M → Prop} (hE : pj_E g b (pj_Ki K))   {u : pj_M} {i0 : Nat}  (t0 : pj_T i0 = 4) (h : pb_Pa_dataSize_0  K u i0) : pj_J g (pj_N g b u) 0 [some (.ref (b + i0))] [] := by
  unfold pb_Pa_dataSize_0 at h
  refine pj_aload_n C d_Pa_dataSize_0 (pc' := 1) (i := 0) (x := b + i0) rfl rfl rfl ?_
  refine fg_Packet_9_Packet C t0 d_Pa_dataSize_1 (pc' := 4) rfl ?_
  refine pj_iconst C d_Pa_dataSize_4 (pc' := 5) rfl (v := 3) (by decide) ?_
  refine pj_isub C d_Pa_dataSize_5 (pc' := 6) rfl ?_
  refine pj_iconst C d_Pa_dataSize_6 (pc' := 7) rfl (v := 1) (by decide) ?_
  refine pj_isub C d_Pa_dataSize_7 (pc' := 8) rfl ?_
  exact pj_iret C hE d_Pa_dataSize_8 ⟨_, rfl, h⟩
def pw_Pa_dataSize (u : pj_M) (i0 : Nat) (K : Int32 → pj_M → Prop) : Prop := pb_Pa_dataSize_0  K u i0
theorem pc_Pa_dataSize (l : Launch) (D : va_G) (E : Nat → ClassId) {b : Nat} {u : pj_M} {i0 : Nat} {K : Int32 → pj_M → Prop} (t0 : pj_T i0 = 4) (h : pw_Pa_dataSize u i0 K) : pj_C l y_Pa_dataSize c_Pa_dataSize 1 (some .int) rm_Pa_dataSize D E b [.ref (b + i0)] u (pj_Ki K) := by
  refine pj_met (own := R_Pa) (by decide +kernel) rfl (Nat.le_of_ble_eq_true rfl) (fun g hE C => ?_)
  unfold pw_Pa_dataSize at h
  show pj_J g (pj_N g b u) 0 [some (.ref (b + i0))] []
  exact pj_cut (pj_le_s pj_le_e) (pt_Pa_dataSize_0 C hE  t0 h)
/-! Packet.firstData()I -/
def rm_Pa_firstData : Room := { frames := 1, cells := 0, slots := 0, locals := 21 }
def pb_Pa_firstData_0  (K : Int32 → pj_M → Prop) (u : pj_M) (i0 : Nat) : Prop := pw_Ro_at u i0 4 fun r2 u1 => (K r2 u1)
set_option maxHeartbeats 1000000 in
theorem pt_Pa_firstData_0 {g : pj_G} {b : Nat} (C : pj_X g c_Pa_firstData 1 R_Pa (some .int) rm_Pa_firstData) {K : Int32 → pj_M → Prop} (hE : pj_E g b (pj_Ki K))   {u : pj_M} {i0 : Nat}  (t0 : pj_T i0 = 4) (h : pb_Pa_firstData_0  K u i0) : pj_J g (pj_N g b u) 0 [some (.ref (b + i0))] [] := by
  unfold pb_Pa_firstData_0 at h
  refine pj_aload_n C d_Pa_firstData_0 (pc' := 1) (i := 0) (x := b + i0) rfl rfl rfl ?_
  refine pj_iconst C d_Pa_firstData_1 (pc' := 2) rfl (v := 4) (by decide) ?_
  refine ck_Packet_15_Packet C t0 h d_Pa_firstData_2 (pc' := 5) rfl ⟨Nat.le_of_ble_eq_true rfl, Nat.le_of_ble_eq_true rfl⟩ (Nat.le_of_ble_eq_true rfl) (fun r2 u1 h => ?_)
  exact pj_iret C hE d_Pa_firstData_5 ⟨_, rfl, h⟩
def pw_Pa_firstData (u : pj_M) (i0 : Nat) (K : Int32 → pj_M → Prop) : Prop := pb_Pa_firstData_0  K u i0
theorem pc_Pa_firstData (l : Launch) (D : va_G) (E : Nat → ClassId) {b : Nat} {u : pj_M} {i0 : Nat} {K : Int32 → pj_M → Prop} (t0 : pj_T i0 = 4) (h : pw_Pa_firstData u i0 K) : pj_C l y_Pa_firstData c_Pa_firstData 1 (some .int) rm_Pa_firstData D E b [.ref (b + i0)] u (pj_Ki K) := by
  refine pj_met (own := R_Pa) (by decide +kernel) rfl (Nat.le_of_ble_eq_true rfl) (fun g hE C => ?_)
  unfold pw_Pa_firstData at h
  show pj_J g (pj_N g b u) 0 [some (.ref (b + i0))] []
  exact pj_cut (pj_le_s pj_le_e) (pt_Pa_firstData_0 C hE  t0 h)
/-! Packet.dataIntAt(I)I -/
theorem ck_Packet_23_Packet {g : pj_G} {b : Nat} {cc : ByteArray} {nL : Nat} {ret : Option FieldType} {rm : Room} {u : pj_M} {pc pc' : Nat} {vs : List (Option Value)} {st : List Value} (C : pj_X g cc nL R_Pa ret rm) {i0 : Nat} {x1 : Int32} {K : Int32 → pj_M → Prop} (t : pj_T i0 = 4) (h : pw_Ro_intAt u i0 x1 K) (hdg : decode cc pc = .ok (.invokevirtual 23, 3)) (hp : pc + 3 = pc') (hR : rm_Ro_intAt.frames + 1 ≤ rm.frames ∧ 8 + (4 + 11) + rm_Ro_intAt.locals ≤ rm.locals) (h8 : (st.map fun v => v.category).sum ≤ 8) (kk : ∀ r u', K r u' → pj_J g (pj_N g b u') pc' vs (.int r :: st)) : pj_J g (pj_N g b u) pc vs (.int x1 :: .ref (b + i0) :: st) := by
  have t0 : pj_R i0 := Or.inr t
  exact pj_callU C (x := ⟨"PortGuard$Packet", "intAt", "(I)I"⟩) (owner := "PortGuard$Row") (As := [.int x1]) (fun l D E => pc_Ro_intAt l D E t0 h) rfl rfl cl_Packet (pj_lt t (by decide)) (fun E => ko_4 t) rfl wm_835 wm_839 wm_838 wm_94 wm_840 wm_836 (by decide +kernel) (n := 1) rfl hR rfl h8 hdg hp (fun v u' hq => by obtain ⟨r, rfl, hk⟩ := hq; exact kk r u' hk)
def rm_Pa_dataIntAt : Room := { frames := 2, cells := 0, slots := 0, locals := 44 }
def pb_Pa_dataIntAt_0  (K : Int32 → pj_M → Prop) (u : pj_M) (i0 : Nat) (x1 : Int32) : Prop := pw_Ro_intAt u i0 (4 + x1) fun r2 u1 => (K r2 u1)
set_option maxHeartbeats 1000000 in
theorem pt_Pa_dataIntAt_0 {g : pj_G} {b : Nat} (C : pj_X g c_Pa_dataIntAt 2 R_Pa (some .int) rm_Pa_dataIntAt) {K : Int32 → pj_M → Prop} (hE : pj_E g b (pj_Ki K))   {u : pj_M} {i0 : Nat} {x1 : Int32}  (t0 : pj_T i0 = 4) (h : pb_Pa_dataIntAt_0  K u i0 x1) : pj_J g (pj_N g b u) 0 [some (.ref (b + i0)), some (.int x1)] [] := by
  unfold pb_Pa_dataIntAt_0 at h
  refine pj_aload_n C d_Pa_dataIntAt_0 (pc' := 1) (i := 0) (x := b + i0) rfl rfl rfl ?_
  refine pj_iconst C d_Pa_dataIntAt_1 (pc' := 2) rfl (v := 4) (by decide) ?_
  refine pj_iload_n C d_Pa_dataIntAt_2 (pc' := 3) (i := 1) (x := x1) rfl rfl rfl ?_
  refine pj_iadd C d_Pa_dataIntAt_3 (pc' := 4) rfl ?_
  refine ck_Packet_23_Packet C t0 h d_Pa_dataIntAt_4 (pc' := 7) rfl ⟨Nat.le_of_ble_eq_true rfl, Nat.le_of_ble_eq_true rfl⟩ (Nat.le_of_ble_eq_true rfl) (fun r2 u1 h => ?_)
  exact pj_iret C hE d_Pa_dataIntAt_7 ⟨_, rfl, h⟩
def pw_Pa_dataIntAt (u : pj_M) (i0 : Nat) (x1 : Int32) (K : Int32 → pj_M → Prop) : Prop := pb_Pa_dataIntAt_0  K u i0 x1
theorem pc_Pa_dataIntAt (l : Launch) (D : va_G) (E : Nat → ClassId) {b : Nat} {u : pj_M} {i0 : Nat} {x1 : Int32} {K : Int32 → pj_M → Prop} (t0 : pj_T i0 = 4) (h : pw_Pa_dataIntAt u i0 x1 K) : pj_C l y_Pa_dataIntAt c_Pa_dataIntAt 2 (some .int) rm_Pa_dataIntAt D E b [.ref (b + i0), .int x1] u (pj_Ki K) := by
  refine pj_met (own := R_Pa) (by decide +kernel) rfl (Nat.le_of_ble_eq_true rfl) (fun g hE C => ?_)
  unfold pw_Pa_dataIntAt at h
  show pj_J g (pj_N g b u) 0 [some (.ref (b + i0)), some (.int x1)] []
  exact pj_cut (pj_le_s (pj_le_s pj_le_e)) (pt_Pa_dataIntAt_0 C hE  t0 h)
/-! Packet.make(II)V -/
theorem ck_Packet_26_Packet {g : pj_G} {b : Nat} {cc : ByteArray} {nL : Nat} {ret : Option FieldType} {rm : Room} {u : pj_M} {pc pc' : Nat} {vs : List (Option Value)} {st : List Value} (C : pj_X g cc nL R_Pa ret rm) {i0 : Nat} {K : pj_M → Prop} (t : pj_T i0 = 4) (h : pw_Ro_clear u i0 K) (hdg : decode cc pc = .ok (.invokevirtual 26, 3)) (hp : pc + 3 = pc') (hR : rm_Ro_clear.frames + 1 ≤ rm.frames ∧ 8 + (1 + 11) + rm_Ro_clear.locals ≤ rm.locals) (h8 : (st.map fun v => v.category).sum ≤ 8) (kk : ∀ u', K u' → pj_J g (pj_N g b u') pc' vs st) : pj_J g (pj_N g b u) pc vs (.ref (b + i0) :: st) := by
  have t0 : pj_R i0 := Or.inr t
  exact pj_callU C (x := ⟨"PortGuard$Packet", "clear", "()V"⟩) (owner := "PortGuard$Row") (As := []) (fun l D E => pc_Ro_clear l D E t0 h) rfl rfl cl_Packet (pj_lt t (by decide)) (fun E => ko_4 t) rfl wm_610 wm_583 wm_613 wm_94 wm_587 wm_611 (by decide +kernel) (n := 0) rfl hR rfl h8 hdg hp (fun v u' hq => by obtain ⟨rfl, hk⟩ := hq; exact kk u' hk)
theorem ck_Packet_29_Packet {g : pj_G} {b : Nat} {cc : ByteArray} {nL : Nat} {ret : Option FieldType} {rm : Room} {u : pj_M} {pc pc' : Nat} {vs : List (Option Value)} {st : List Value} (C : pj_X g cc nL R_Pa ret rm) {i0 : Nat} {x1 : Int32} {K : pj_M → Prop} (t : pj_T i0 = 4) (h : pw_Ro_put u i0 x1 K) (hdg : decode cc pc = .ok (.invokevirtual 29, 3)) (hp : pc + 3 = pc') (hR : rm_Ro_put.frames + 1 ≤ rm.frames ∧ 8 + (2 + 11) + rm_Ro_put.locals ≤ rm.locals) (h8 : (st.map fun v => v.category).sum ≤ 8) (kk : ∀ u', K u' → pj_J g (pj_N g b u') pc' vs st) : pj_J g (pj_N g b u) pc vs (.int x1 :: .ref (b + i0) :: st) := by
  have t0 : pj_R i0 := Or.inr t
  exact pj_callU C (x := ⟨"PortGuard$Packet", "put", "(I)V"⟩) (owner := "PortGuard$Row") (As := [.int x1]) (fun l D E => pc_Ro_put l D E t0 h) rfl rfl cl_Packet (pj_lt t (by decide)) (fun E => ko_4 t) rfl wm_614 wm_589 wm_617 wm_94 wm_593 wm_615 (by decide +kernel) (n := 1) rfl hR rfl h8 hdg hp (fun v u' hq => by obtain ⟨rfl, hk⟩ := hq; exact kk u' hk)
def rm_Pa_make : Room := { frames := 1, cells := 0, slots := 0, locals := 21 }
def pb_Pa_make_0  (K : pj_M → Prop) (u : pj_M) (i0 : Nat) (x1 : Int32) (x2 : Int32) : Prop := pw_Ro_clear u i0 fun u1 => (pw_Ro_put u1 i0 x1 fun u2 => (pw_Ro_put u2 i0 x2 fun u3 => (pw_Ro_put u3 i0 3 fun u4 => (K u4))))
set_option maxHeartbeats 1000000 in
theorem pt_Pa_make_0 {g : pj_G} {b : Nat} (C : pj_X g c_Pa_make 3 R_Pa none rm_Pa_make) {K : pj_M → Prop} (hE : pj_E g b (pj_Kv K))   {u : pj_M} {i0 : Nat} {x1 : Int32} {x2 : Int32}  (t0 : pj_T i0 = 4) (h : pb_Pa_make_0  K u i0 x1 x2) : pj_J g (pj_N g b u) 0 [some (.ref (b + i0)), some (.int x1), some (.int x2)] [] := by
  unfold pb_Pa_make_0 at h
  refine pj_aload_n C d_Pa_make_0 (pc' := 1) (i := 0) (x := b + i0) rfl rfl rfl ?_
  refine ck_Packet_26_Packet C t0 h d_Pa_make_1 (pc' := 4) rfl ⟨Nat.le_of_ble_eq_true rfl, Nat.le_of_ble_eq_true rfl⟩ (Nat.le_of_ble_eq_true rfl) (fun u1 h => ?_)
  refine pj_aload_n C d_Pa_make_4 (pc' := 5) (i := 0) (x := b + i0) rfl rfl rfl ?_
  refine pj_iload_n C d_Pa_make_5 (pc' := 6) (i := 1) (x := x1) rfl rfl rfl ?_
  refine ck_Packet_29_Packet C t0 h d_Pa_make_6 (pc' := 9) rfl ⟨Nat.le_of_ble_eq_true rfl, Nat.le_of_ble_eq_true rfl⟩ (Nat.le_of_ble_eq_true rfl) (fun u2 h => ?_)
  refine pj_aload_n C d_Pa_make_9 (pc' := 10) (i := 0) (x := b + i0) rfl rfl rfl ?_
  refine pj_iload_n C d_Pa_make_10 (pc' := 11) (i := 2) (x := x2) rfl rfl rfl ?_
  refine ck_Packet_29_Packet C t0 h d_Pa_make_11 (pc' := 14) rfl ⟨Nat.le_of_ble_eq_true rfl, Nat.le_of_ble_eq_true rfl⟩ (Nat.le_of_ble_eq_true rfl) (fun u3 h => ?_)
  refine pj_aload_n C d_Pa_make_14 (pc' := 15) (i := 0) (x := b + i0) rfl rfl rfl ?_
  refine pj_iconst C d_Pa_make_15 (pc' := 16) rfl (v := 3) (by decide) ?_
  refine ck_Packet_29_Packet C t0 h d_Pa_make_16 (pc' := 19) rfl ⟨Nat.le_of_ble_eq_true rfl, Nat.le_of_ble_eq_true rfl⟩ (Nat.le_of_ble_eq_true rfl) (fun u4 h => ?_)
  exact pj_vret C hE d_Pa_make_19 ⟨rfl, h⟩
def pw_Pa_make (u : pj_M) (i0 : Nat) (x1 : Int32) (x2 : Int32) (K : pj_M → Prop) : Prop := pb_Pa_make_0  K u i0 x1 x2
theorem pc_Pa_make (l : Launch) (D : va_G) (E : Nat → ClassId) {b : Nat} {u : pj_M} {i0 : Nat} {x1 : Int32} {x2 : Int32} {K : pj_M → Prop} (t0 : pj_T i0 = 4) (h : pw_Pa_make u i0 x1 x2 K) : pj_C l y_Pa_make c_Pa_make 3 none rm_Pa_make D E b [.ref (b + i0), .int x1, .int x2] u (pj_Kv K) := by
  refine pj_met (own := R_Pa) (by decide +kernel) rfl (Nat.le_of_ble_eq_true rfl) (fun g hE C => ?_)
  unfold pw_Pa_make at h
  show pj_J g (pj_N g b u) 0 [some (.ref (b + i0)), some (.int x1), some (.int x2)] []
  exact pj_cut (pj_le_s (pj_le_s (pj_le_s pj_le_e))) (pt_Pa_make_0 C hE  t0 h)
/-! Packet.open(III)V -/
def rm_Pa_open : Room := { frames := 1, cells := 0, slots := 0, locals := 21 }
def pb_Pa_open_0  (K : pj_M → Prop) (u : pj_M) (i0 : Nat) (x1 : Int32) (x2 : Int32) (x3 : Int32) : Prop := pw_Ro_clear u i0 fun u1 => (pw_Ro_put u1 i0 x1 fun u2 => (pw_Ro_put u2 i0 x2 fun u3 => (pw_Ro_put u3 i0 0 fun u4 => (pw_Ro_put u4 i0 x3 fun u5 => (K u5)))))
set_option maxHeartbeats 1000000 in
theorem pt_Pa_open_0 {g : pj_G} {b : Nat} (C : pj_X g c_Pa_open 4 R_Pa none rm_Pa_open) {K : pj_M → Prop} (hE : pj_E g b (pj_Kv K))   {u : pj_M} {i0 : Nat} {x1 : Int32} {x2 : Int32} {x3 : Int32}  (t0 : pj_T i0 = 4) (h : pb_Pa_open_0  K u i0 x1 x2 x3) : pj_J g (pj_N g b u) 0 [some (.ref (b + i0)), some (.int x1), some (.int x2), some (.int x3)] [] := by
  unfold pb_Pa_open_0 at h
  refine pj_aload_n C d_Pa_open_0 (pc' := 1) (i := 0) (x := b + i0) rfl rfl rfl ?_
  refine ck_Packet_26_Packet C t0 h d_Pa_open_1 (pc' := 4) rfl ⟨Nat.le_of_ble_eq_true rfl, Nat.le_of_ble_eq_true rfl⟩ (Nat.le_of_ble_eq_true rfl) (fun u1 h => ?_)
  refine pj_aload_n C d_Pa_open_4 (pc' := 5) (i := 0) (x := b + i0) rfl rfl rfl ?_
  refine pj_iload_n C d_Pa_open_5 (pc' := 6) (i := 1) (x := x1) rfl rfl rfl ?_
  refine ck_Packet_29_Packet C t0 h d_Pa_open_6 (pc' := 9) rfl ⟨Nat.le_of_ble_eq_true rfl, Nat.le_of_ble_eq_true rfl⟩ (Nat.le_of_ble_eq_true rfl) (fun u2 h => ?_)
  refine pj_aload_n C d_Pa_open_9 (pc' := 10) (i := 0) (x := b + i0) rfl rfl rfl ?_
  refine pj_iload_n C d_Pa_open_10 (pc' := 11) (i := 2) (x := x2) rfl rfl rfl ?_
  refine ck_Packet_29_Packet C t0 h d_Pa_open_11 (pc' := 14) rfl ⟨Nat.le_of_ble_eq_true rfl, Nat.le_of_ble_eq_true rfl⟩ (Nat.le_of_ble_eq_true rfl) (fun u3 h => ?_)
  refine pj_aload_n C d_Pa_open_14 (pc' := 15) (i := 0) (x := b + i0) rfl rfl rfl ?_
  refine pj_iconst C d_Pa_open_15 (pc' := 16) rfl (v := 0) (by decide) ?_
  refine ck_Packet_29_Packet C t0 h d_Pa_open_16 (pc' := 19) rfl ⟨Nat.le_of_ble_eq_true rfl, Nat.le_of_ble_eq_true rfl⟩ (Nat.le_of_ble_eq_true rfl) (fun u4 h => ?_)
  refine pj_aload_n C d_Pa_open_19 (pc' := 20) (i := 0) (x := b + i0) rfl rfl rfl ?_
  refine pj_iload_n C d_Pa_open_20 (pc' := 21) (i := 3) (x := x3) rfl rfl rfl ?_
  refine ck_Packet_29_Packet C t0 h d_Pa_open_21 (pc' := 24) rfl ⟨Nat.le_of_ble_eq_true rfl, Nat.le_of_ble_eq_true rfl⟩ (Nat.le_of_ble_eq_true rfl) (fun u5 h => ?_)
  exact pj_vret C hE d_Pa_open_24 ⟨rfl, h⟩
def pw_Pa_open (u : pj_M) (i0 : Nat) (x1 : Int32) (x2 : Int32) (x3 : Int32) (K : pj_M → Prop) : Prop := pb_Pa_open_0  K u i0 x1 x2 x3
theorem pc_Pa_open (l : Launch) (D : va_G) (E : Nat → ClassId) {b : Nat} {u : pj_M} {i0 : Nat} {x1 : Int32} {x2 : Int32} {x3 : Int32} {K : pj_M → Prop} (t0 : pj_T i0 = 4) (h : pw_Pa_open u i0 x1 x2 x3 K) : pj_C l y_Pa_open c_Pa_open 4 none rm_Pa_open D E b [.ref (b + i0), .int x1, .int x2, .int x3] u (pj_Kv K) := by
  refine pj_met (own := R_Pa) (by decide +kernel) rfl (Nat.le_of_ble_eq_true rfl) (fun g hE C => ?_)
  unfold pw_Pa_open at h
  show pj_J g (pj_N g b u) 0 [some (.ref (b + i0)), some (.int x1), some (.int x2), some (.int x3)] []
  exact pj_cut (pj_le_s (pj_le_s (pj_le_s (pj_le_s pj_le_e)))) (pt_Pa_open_0 C hE  t0 h)
/-! Packet.setLength()V -/
theorem ck_Packet_33_Packet {g : pj_G} {b : Nat} {cc : ByteArray} {nL : Nat} {ret : Option FieldType} {rm : Room} {u : pj_M} {pc pc' : Nat} {vs : List (Option Value)} {st : List Value} (C : pj_X g cc nL R_Pa ret rm) {i0 : Nat} {x1 : Int32} {x2 : Int32} {K : pj_M → Prop} (t : pj_T i0 = 4) (h : pw_Ro_set u i0 x1 x2 K) (hdg : decode cc pc = .ok (.invokevirtual 33, 3)) (hp : pc + 3 = pc') (hR : rm_Ro_set.frames + 1 ≤ rm.frames ∧ 8 + (3 + 11) + rm_Ro_set.locals ≤ rm.locals) (h8 : (st.map fun v => v.category).sum ≤ 8) (kk : ∀ u', K u' → pj_J g (pj_N g b u') pc' vs st) : pj_J g (pj_N g b u) pc vs (.int x2 :: .int x1 :: .ref (b + i0) :: st) := by
  have t0 : pj_R i0 := Or.inr t
  exact pj_callU C (x := ⟨"PortGuard$Packet", "set", "(II)V"⟩) (owner := "PortGuard$Row") (As := [.int x1, .int x2]) (fun l D E => pc_Ro_set l D E t0 h) rfl rfl cl_Packet (pj_lt t (by decide)) (fun E => ko_4 t) rfl wm_622 wm_626 wm_625 wm_94 wm_627 wm_623 (by decide +kernel) (n := 2) rfl hR rfl h8 hdg hp (fun v u' hq => by obtain ⟨rfl, hk⟩ := hq; exact kk u' hk)
def rm_Pa_setLength : Room := { frames := 1, cells := 0, slots := 0, locals := 22 }
def pb_Pa_setLength_0  (K : pj_M → Prop) (u : pj_M) (i0 : Nat) : Prop := pw_Ro_set u i0 2 (u i0 1) fun u1 => (K u1)
set_option maxHeartbeats 1000000 in
theorem pt_Pa_setLength_0 {g : pj_G} {b : Nat} (C : pj_X g c_Pa_setLength 1 R_Pa none rm_Pa_setLength) {K : pj_M → Prop} (hE : pj_E g b (pj_Kv K))   {u : pj_M} {i0 : Nat}  (t0 : pj_T i0 = 4) (h : pb_Pa_setLength_0  K u i0) : pj_J g (pj_N g b u) 0 [some (.ref (b + i0))] [] := by
  unfold pb_Pa_setLength_0 at h
  refine pj_aload_n C d_Pa_setLength_0 (pc' := 1) (i := 0) (x := b + i0) rfl rfl rfl ?_
  refine pj_iconst C d_Pa_setLength_1 (pc' := 2) rfl (v := 2) (by decide) ?_
  refine pj_aload_n C d_Pa_setLength_2 (pc' := 3) (i := 0) (x := b + i0) rfl rfl rfl ?_
  refine fg_Packet_9_Packet C t0 d_Pa_setLength_3 (pc' := 6) rfl ?_
  refine ck_Packet_33_Packet C t0 h d_Pa_setLength_6 (pc' := 9) rfl ⟨Nat.le_of_ble_eq_true rfl, Nat.le_of_ble_eq_true rfl⟩ (Nat.le_of_ble_eq_true rfl) (fun u1 h => ?_)
  exact pj_vret C hE d_Pa_setLength_9 ⟨rfl, h⟩
def pw_Pa_setLength (u : pj_M) (i0 : Nat) (K : pj_M → Prop) : Prop := pb_Pa_setLength_0  K u i0
theorem pc_Pa_setLength (l : Launch) (D : va_G) (E : Nat → ClassId) {b : Nat} {u : pj_M} {i0 : Nat} {K : pj_M → Prop} (t0 : pj_T i0 = 4) (h : pw_Pa_setLength u i0 K) : pj_C l y_Pa_setLength c_Pa_setLength 1 none rm_Pa_setLength D E b [.ref (b + i0)] u (pj_Kv K) := by
  refine pj_met (own := R_Pa) (by decide +kernel) rfl (Nat.le_of_ble_eq_true rfl) (fun g hE C => ?_)
  unfold pw_Pa_setLength at h
  show pj_J g (pj_N g b u) 0 [some (.ref (b + i0))] []
  exact pj_cut (pj_le_s pj_le_e) (pt_Pa_setLength_0 C hE  t0 h)
/-! Packet.readFrame(LPortGuard$Row;)I -/
theorem fg_Packet_37_R {g : pj_G} {b : Nat} {cc : ByteArray} {nL : Nat} {ret : Option FieldType} {rm : Room} {u : pj_M} {pc pc' : Nat} {vs : List (Option Value)} {st : List Value} (C : pj_X g cc nL R_Pa ret rm) {i : Nat} (t : pj_R i) (hdg : decode cc pc = .ok (.getfield 37, 3)) (hp : pc + 3 = pc') (kk : pj_J g (pj_N g b u) pc' vs (.int (u i 1) :: st)) : pj_J g (pj_N g b u) pc vs (.ref (b + i) :: st) := by
  rcases t with t | t
  · exact pj_get C cl_Row hin_Row (k := 1) (Nat.le_of_ble_eq_true rfl) wm_156 (Or.inl rfl) (pj_lt t (by decide)) (fun E => ko_3 t) rfl hdg hp kk
  · exact pj_get C cl_Packet hin_Packet (k := 1) (Nat.le_of_ble_eq_true rfl) wm_156 (Or.inl rfl) (pj_lt t (by decide)) (fun E => ko_4 t) rfl hdg hp kk
theorem ck_Packet_38_R {g : pj_G} {b : Nat} {cc : ByteArray} {nL : Nat} {ret : Option FieldType} {rm : Room} {u : pj_M} {pc pc' : Nat} {vs : List (Option Value)} {st : List Value} (C : pj_X g cc nL R_Pa ret rm) {i0 : Nat} {x1 : Int32} {K : Int32 → pj_M → Prop} (t0 : pj_R i0) (h : pw_Ro_at u i0 x1 K) (hdg : decode cc pc = .ok (.invokevirtual 38, 3)) (hp : pc + 3 = pc') (hR : rm_Ro_at.frames + 1 ≤ rm.frames ∧ 8 + (2 + 11) + rm_Ro_at.locals ≤ rm.locals) (h8 : (st.map fun v => v.category).sum ≤ 8) (kk : ∀ r u', K r u' → pj_J g (pj_N g b u') pc' vs (.int r :: st)) : pj_J g (pj_N g b u) pc vs (.int x1 :: .ref (b + i0) :: st) := by
  rcases t0 with t | t
  · have t0 : pj_R i0 := Or.inl t
    exact pj_callV C (As := [.int x1]) (fun l D E => pc_Ro_at l D E t0 h) rfl rfl cl_Row (pj_lt t (by decide)) (fun E => ko_3 t) wm_710 wm_650 wm_1633 wm_94 wm_651 (by decide +kernel) (n := 1) rfl hR rfl h8 hdg hp (fun v u' hq => by obtain ⟨r, rfl, hk⟩ := hq; exact kk r u' hk)
  · have t0 : pj_R i0 := Or.inr t
    exact pj_callV C (As := [.int x1]) (fun l D E => pc_Ro_at l D E t0 h) rfl rfl cl_Packet (pj_lt t (by decide)) (fun E => ko_4 t) wm_710 wm_650 wm_1632 wm_94 wm_651 (by decide +kernel) (n := 1) rfl hR rfl h8 hdg hp (fun v u' hq => by obtain ⟨r, rfl, hk⟩ := hq; exact kk r u' hk)
theorem ck_Packet_39_Packet {g : pj_G} {b : Nat} {cc : ByteArray} {nL : Nat} {ret : Option FieldType} {rm : Room} {u : pj_M} {pc pc' : Nat} {vs : List (Option Value)} {st : List Value} (C : pj_X g cc nL R_Pa ret rm) {i0 : Nat} {i1 : Nat} {x2 : Int32} {x3 : Int32} {K : pj_M → Prop} (t : pj_T i0 = 4) (t1 : pj_R i1) (h : pw_Ro_append u i0 i1 x2 x3 K) (hdg : decode cc pc = .ok (.invokevirtual 39, 3)) (hp : pc + 3 = pc') (hR : rm_Ro_append.frames + 1 ≤ rm.frames ∧ 8 + (5 + 11) + rm_Ro_append.locals ≤ rm.locals) (h8 : (st.map fun v => v.category).sum ≤ 8) (kk : ∀ u', K u' → pj_J g (pj_N g b u') pc' vs st) : pj_J g (pj_N g b u) pc vs (.int x3 :: .int x2 :: .ref (b + i1) :: .ref (b + i0) :: st) := by
  have t0 : pj_R i0 := Or.inr t
  exact pj_callU C (x := ⟨"PortGuard$Packet", "append", "(LPortGuard$Row;II)V"⟩) (owner := "PortGuard$Row") (As := [.ref (b + i1), .int x2, .int x3]) (fun l D E => pc_Ro_append l D E t0 t1 h) rfl rfl cl_Packet (pj_lt t (by decide)) (fun E => ko_4 t) rfl wm_711 wm_637 wm_714 wm_94 wm_641 wm_712 (by decide +kernel) (n := 3) rfl hR rfl h8 hdg hp (fun v u' hq => by obtain ⟨rfl, hk⟩ := hq; exact kk u' hk)
theorem ck_Packet_43_Packet {g : pj_G} {b : Nat} {cc : ByteArray} {nL : Nat} {ret : Option FieldType} {rm : Room} {u : pj_M} {pc pc' : Nat} {vs : List (Option Value)} {st : List Value} (C : pj_X g cc nL R_Pa ret rm) {i0 : Nat} {K : Int32 → pj_M → Prop} (t0 : pj_T i0 = 4) (h : pw_Pa_isRight u i0 K) (hdg : decode cc pc = .ok (.invokevirtual 43, 3)) (hp : pc + 3 = pc') (hR : rm_Pa_isRight.frames + 1 ≤ rm.frames ∧ 8 + (1 + 11) + rm_Pa_isRight.locals ≤ rm.locals) (h8 : (st.map fun v => v.category).sum ≤ 8) (kk : ∀ r u', K r u' → pj_J g (pj_N g b u') pc' vs (.int r :: st)) : pj_J g (pj_N g b u) pc vs (.ref (b + i0) :: st) :=
  pj_callV C (As := []) (fun l D E => pc_Pa_isRight l D E t0 h) rfl rfl cl_Packet (pj_lt t0 (by decide)) (fun E => ko_4 t0) wm_715 wm_716 wm_717 wm_96 wm_718 (by decide +kernel) (n := 0) rfl hR rfl h8 hdg hp (fun v u' hq => by obtain ⟨r, rfl, hk⟩ := hq; exact kk r u' hk)
def rm_Pa_readFrame : Room := { frames := 3, cells := 0, slots := 0, locals := 61 }
def pb_Pa_readFrame_70  (K : Int32 → pj_M → Prop) (u : pj_M) (s0 : Int32) : Prop := K s0 u
set_option maxHeartbeats 1000000 in
theorem pt_Pa_readFrame_70 {g : pj_G} {b : Nat} (C : pj_X g c_Pa_readFrame 2 R_Pa (some .int) rm_Pa_readFrame) {K : Int32 → pj_M → Prop} (hE : pj_E g b (pj_Ki K))   {u : pj_M} {s0 : Int32}   (h : pb_Pa_readFrame_70  K u s0) : pj_J g (pj_N g b u) 70 [none, none] [.int s0] := by
  unfold pb_Pa_readFrame_70 at h
  exact pj_iret C hE d_Pa_readFrame_70 ⟨_, rfl, h⟩
def pb_Pa_readFrame_69  (K : Int32 → pj_M → Prop) (u : pj_M)  : Prop := pb_Pa_readFrame_70  K u ((-1))
set_option maxHeartbeats 1000000 in
theorem pt_Pa_readFrame_69 {g : pj_G} {b : Nat} (C : pj_X g c_Pa_readFrame 2 R_Pa (some .int) rm_Pa_readFrame) {K : Int32 → pj_M → Prop} (hE : pj_E g b (pj_Ki K))   {u : pj_M}    (h : pb_Pa_readFrame_69  K u ) : pj_J g (pj_N g b u) 69 [none, none] [] := by
  unfold pb_Pa_readFrame_69 at h
  refine pj_iconst C d_Pa_readFrame_69 (pc' := 70) rfl (v := (-1)) (by decide) ?_
  exact pj_cut (pj_le_n (pj_le_n pj_le_e)) (pt_Pa_readFrame_70 C hE   h)
def pb_Pa_readFrame_65  (K : Int32 → pj_M → Prop) (u : pj_M)  : Prop := pb_Pa_readFrame_70  K u 0
set_option maxHeartbeats 1000000 in
theorem pt_Pa_readFrame_65 {g : pj_G} {b : Nat} (C : pj_X g c_Pa_readFrame 2 R_Pa (some .int) rm_Pa_readFrame) {K : Int32 → pj_M → Prop} (hE : pj_E g b (pj_Ki K))   {u : pj_M}    (h : pb_Pa_readFrame_65  K u ) : pj_J g (pj_N g b u) 65 [none, none] [] := by
  unfold pb_Pa_readFrame_65 at h
  refine pj_iconst C d_Pa_readFrame_65 (pc' := 66) rfl (v := 0) (by decide) ?_
  refine pj_goto C d_Pa_readFrame_66 (tgt := 70) (by decide) ?_
  exact pj_cut (pj_le_n (pj_le_n pj_le_e)) (pt_Pa_readFrame_70 C hE   h)
def pb_Pa_readFrame_46  (K : Int32 → pj_M → Prop) (u : pj_M) (i0 : Nat) (i1 : Nat) : Prop := pw_Ro_append u i0 i1 1 ((u i1 1) - 1) fun u1 => (pw_Pa_isRight u1 i0 fun r3 u2 => (((r3 = 0) → (pb_Pa_readFrame_69  K u2 )) ∧ (¬ (r3 = 0) → (pb_Pa_readFrame_65  K u2 ))))
set_option maxHeartbeats 1000000 in
theorem pt_Pa_readFrame_46 {g : pj_G} {b : Nat} (C : pj_X g c_Pa_readFrame 2 R_Pa (some .int) rm_Pa_readFrame) {K : Int32 → pj_M → Prop} (hE : pj_E g b (pj_Ki K))   {u : pj_M} {i0 : Nat} {i1 : Nat}  (t0 : pj_T i0 = 4) (t1 : pj_R i1) (h : pb_Pa_readFrame_46  K u i0 i1) : pj_J g (pj_N g b u) 46 [some (.ref (b + i0)), some (.ref (b + i1))] [] := by
  unfold pb_Pa_readFrame_46 at h
  refine pj_aload_n C d_Pa_readFrame_46 (pc' := 47) (i := 0) (x := b + i0) rfl rfl rfl ?_
  refine pj_aload_n C d_Pa_readFrame_47 (pc' := 48) (i := 1) (x := b + i1) rfl rfl rfl ?_
  refine pj_iconst C d_Pa_readFrame_48 (pc' := 49) rfl (v := 1) (by decide) ?_
  refine pj_aload_n C d_Pa_readFrame_49 (pc' := 50) (i := 1) (x := b + i1) rfl rfl rfl ?_
  refine fg_Packet_37_R C t1 d_Pa_readFrame_50 (pc' := 53) rfl ?_
  refine pj_iconst C d_Pa_readFrame_53 (pc' := 54) rfl (v := 1) (by decide) ?_
  refine pj_isub C d_Pa_readFrame_54 (pc' := 55) rfl ?_
  refine ck_Packet_39_Packet C t0 t1 h d_Pa_readFrame_55 (pc' := 58) rfl ⟨Nat.le_of_ble_eq_true rfl, Nat.le_of_ble_eq_true rfl⟩ (Nat.le_of_ble_eq_true rfl) (fun u1 h => ?_)
  refine pj_aload_n C d_Pa_readFrame_58 (pc' := 59) (i := 0) (x := b + i0) rfl rfl rfl ?_
  refine ck_Packet_43_Packet C t0 h d_Pa_readFrame_59 (pc' := 62) rfl ⟨Nat.le_of_ble_eq_true rfl, Nat.le_of_ble_eq_true rfl⟩ (Nat.le_of_ble_eq_true rfl) (fun r3 u2 h => ?_)
  refine pj_if_eq C d_Pa_readFrame_62 (pc' := 65) rfl (tgt := 69) (by decide) h (fun h => ?_) (fun h => ?_)
  · exact pj_cut (pj_le_n (pj_le_n pj_le_e)) (pt_Pa_readFrame_69 C hE   h)
  · exact pj_cut (pj_le_n (pj_le_n pj_le_e)) (pt_Pa_readFrame_65 C hE   h)
def pb_Pa_readFrame_44  (K : Int32 → pj_M → Prop) (u : pj_M)  : Prop := K ((-1)) u
set_option maxHeartbeats 1000000 in
theorem pt_Pa_readFrame_44 {g : pj_G} {b : Nat} (C : pj_X g c_Pa_readFrame 2 R_Pa (some .int) rm_Pa_readFrame) {K : Int32 → pj_M → Prop} (hE : pj_E g b (pj_Ki K))   {u : pj_M}    (h : pb_Pa_readFrame_44  K u ) : pj_J g (pj_N g b u) 44 [none, none] [] := by
  unfold pb_Pa_readFrame_44 at h
  refine pj_iconst C d_Pa_readFrame_44 (pc' := 45) rfl (v := (-1)) (by decide) ?_
  exact pj_iret C hE d_Pa_readFrame_45 ⟨_, rfl, h⟩
def pb_Pa_readFrame_36  (K : Int32 → pj_M → Prop) (u : pj_M) (i0 : Nat) (i1 : Nat) : Prop := pw_Ro_at u i1 0 fun r2 u1 => (((r2 = 0) → (pb_Pa_readFrame_46  K u1 i0 i1)) ∧ (¬ (r2 = 0) → (pb_Pa_readFrame_44  K u1 )))
set_option maxHeartbeats 1000000 in
theorem pt_Pa_readFrame_36 {g : pj_G} {b : Nat} (C : pj_X g c_Pa_readFrame 2 R_Pa (some .int) rm_Pa_readFrame) {K : Int32 → pj_M → Prop} (hE : pj_E g b (pj_Ki K))   {u : pj_M} {i0 : Nat} {i1 : Nat}  (t0 : pj_T i0 = 4) (t1 : pj_R i1) (h : pb_Pa_readFrame_36  K u i0 i1) : pj_J g (pj_N g b u) 36 [some (.ref (b + i0)), some (.ref (b + i1))] [] := by
  unfold pb_Pa_readFrame_36 at h
  refine pj_aload_n C d_Pa_readFrame_36 (pc' := 37) (i := 1) (x := b + i1) rfl rfl rfl ?_
  refine pj_iconst C d_Pa_readFrame_37 (pc' := 38) rfl (v := 0) (by decide) ?_
  refine ck_Packet_38_R C t1 h d_Pa_readFrame_38 (pc' := 41) rfl ⟨Nat.le_of_ble_eq_true rfl, Nat.le_of_ble_eq_true rfl⟩ (Nat.le_of_ble_eq_true rfl) (fun r2 u1 h => ?_)
  refine pj_if_eq C d_Pa_readFrame_41 (pc' := 44) rfl (tgt := 46) (by decide) h (fun h => ?_) (fun h => ?_)
  · exact pj_cut (pj_le_s (pj_le_s pj_le_e)) (pt_Pa_readFrame_46 C hE  t0 t1 h)
  · exact pj_cut (pj_le_n (pj_le_n pj_le_e)) (pt_Pa_readFrame_44 C hE   h)
def pb_Pa_readFrame_30  (K : Int32 → pj_M → Prop) (u : pj_M) (i1 : Nat) : Prop := pw_Ro_at u i1 0 fun r2 u1 => (K r2 u1)
set_option maxHeartbeats 1000000 in
theorem pt_Pa_readFrame_30 {g : pj_G} {b : Nat} (C : pj_X g c_Pa_readFrame 2 R_Pa (some .int) rm_Pa_readFrame) {K : Int32 → pj_M → Prop} (hE : pj_E g b (pj_Ki K))   {u : pj_M} {i1 : Nat}  (t1 : pj_R i1) (h : pb_Pa_readFrame_30  K u i1) : pj_J g (pj_N g b u) 30 [none, some (.ref (b + i1))] [] := by
  unfold pb_Pa_readFrame_30 at h
  refine pj_aload_n C d_Pa_readFrame_30 (pc' := 31) (i := 1) (x := b + i1) rfl rfl rfl ?_
  refine pj_iconst C d_Pa_readFrame_31 (pc' := 32) rfl (v := 0) (by decide) ?_
  refine ck_Packet_38_R C t1 h d_Pa_readFrame_32 (pc' := 35) rfl ⟨Nat.le_of_ble_eq_true rfl, Nat.le_of_ble_eq_true rfl⟩ (Nat.le_of_ble_eq_true rfl) (fun r2 u1 h => ?_)
  exact pj_iret C hE d_Pa_readFrame_35 ⟨_, rfl, h⟩
def pb_Pa_readFrame_21  (K : Int32 → pj_M → Prop) (u : pj_M) (i0 : Nat) (i1 : Nat) : Prop := pw_Ro_at u i1 0 fun r2 u1 => (((r2 = 2) → (pb_Pa_readFrame_30  K u1 i1)) ∧ (¬ (r2 = 2) → (pb_Pa_readFrame_36  K u1 i0 i1)))
set_option maxHeartbeats 1000000 in
theorem pt_Pa_readFrame_21 {g : pj_G} {b : Nat} (C : pj_X g c_Pa_readFrame 2 R_Pa (some .int) rm_Pa_readFrame) {K : Int32 → pj_M → Prop} (hE : pj_E g b (pj_Ki K))   {u : pj_M} {i0 : Nat} {i1 : Nat}  (t0 : pj_T i0 = 4) (t1 : pj_R i1) (h : pb_Pa_readFrame_21  K u i0 i1) : pj_J g (pj_N g b u) 21 [some (.ref (b + i0)), some (.ref (b + i1))] [] := by
  unfold pb_Pa_readFrame_21 at h
  refine pj_aload_n C d_Pa_readFrame_21 (pc' := 22) (i := 1) (x := b + i1) rfl rfl rfl ?_
  refine pj_iconst C d_Pa_readFrame_22 (pc' := 23) rfl (v := 0) (by decide) ?_
  refine ck_Packet_38_R C t1 h d_Pa_readFrame_23 (pc' := 26) rfl ⟨Nat.le_of_ble_eq_true rfl, Nat.le_of_ble_eq_true rfl⟩ (Nat.le_of_ble_eq_true rfl) (fun r2 u1 h => ?_)
  refine pj_iconst C d_Pa_readFrame_26 (pc' := 27) rfl (v := 2) (by decide) ?_
  refine pj_icmp_ne C d_Pa_readFrame_27 (pc' := 30) rfl (tgt := 36) (by decide) h (fun h => ?_) (fun h => ?_)
  · exact pj_cut (pj_le_s (pj_le_s pj_le_e)) (pt_Pa_readFrame_36 C hE  t0 t1 h)
  · exact pj_cut (pj_le_n (pj_le_s pj_le_e)) (pt_Pa_readFrame_30 C hE  t1 h)
def pb_Pa_readFrame_12  (K : Int32 → pj_M → Prop) (u : pj_M) (i0 : Nat) (i1 : Nat) : Prop := pw_Ro_at u i1 0 fun r2 u1 => (((r2 = 1) → (pb_Pa_readFrame_30  K u1 i1)) ∧ (¬ (r2 = 1) → (pb_Pa_readFrame_21  K u1 i0 i1)))
set_option maxHeartbeats 1000000 in
theorem pt_Pa_readFrame_12 {g : pj_G} {b : Nat} (C : pj_X g c_Pa_readFrame 2 R_Pa (some .int) rm_Pa_readFrame) {K : Int32 → pj_M → Prop} (hE : pj_E g b (pj_Ki K))   {u : pj_M} {i0 : Nat} {i1 : Nat}  (t0 : pj_T i0 = 4) (t1 : pj_R i1) (h : pb_Pa_readFrame_12  K u i0 i1) : pj_J g (pj_N g b u) 12 [some (.ref (b + i0)), some (.ref (b + i1))] [] := by
  unfold pb_Pa_readFrame_12 at h
  refine pj_aload_n C d_Pa_readFrame_12 (pc' := 13) (i := 1) (x := b + i1) rfl rfl rfl ?_
  refine pj_iconst C d_Pa_readFrame_13 (pc' := 14) rfl (v := 0) (by decide) ?_
  refine ck_Packet_38_R C t1 h d_Pa_readFrame_14 (pc' := 17) rfl ⟨Nat.le_of_ble_eq_true rfl, Nat.le_of_ble_eq_true rfl⟩ (Nat.le_of_ble_eq_true rfl) (fun r2 u1 h => ?_)
  refine pj_iconst C d_Pa_readFrame_17 (pc' := 18) rfl (v := 1) (by decide) ?_
  refine pj_icmp_eq C d_Pa_readFrame_18 (pc' := 21) rfl (tgt := 30) (by decide) h (fun h => ?_) (fun h => ?_)
  · exact pj_cut (pj_le_n (pj_le_s pj_le_e)) (pt_Pa_readFrame_30 C hE  t1 h)
  · exact pj_cut (pj_le_s (pj_le_s pj_le_e)) (pt_Pa_readFrame_21 C hE  t0 t1 h)
def pb_Pa_readFrame_0  (K : Int32 → pj_M → Prop) (u : pj_M) (i0 : Nat) (i1 : Nat) : Prop := pw_Ro_clear u i0 fun u1 => ((((u1 i1 1) = 1) → (pb_Pa_readFrame_12  K u1 i0 i1)) ∧ (¬ ((u1 i1 1) = 1) → (pb_Pa_readFrame_36  K u1 i0 i1)))
set_option maxHeartbeats 1000000 in
theorem pt_Pa_readFrame_0 {g : pj_G} {b : Nat} (C : pj_X g c_Pa_readFrame 2 R_Pa (some .int) rm_Pa_readFrame) {K : Int32 → pj_M → Prop} (hE : pj_E g b (pj_Ki K))   {u : pj_M} {i0 : Nat} {i1 : Nat}  (t0 : pj_T i0 = 4) (t1 : pj_R i1) (h : pb_Pa_readFrame_0  K u i0 i1) : pj_J g (pj_N g b u) 0 [some (.ref (b + i0)), some (.ref (b + i1))] [] := by
  unfold pb_Pa_readFrame_0 at h
  refine pj_aload_n C d_Pa_readFrame_0 (pc' := 1) (i := 0) (x := b + i0) rfl rfl rfl ?_
  refine ck_Packet_26_Packet C t0 h d_Pa_readFrame_1 (pc' := 4) rfl ⟨Nat.le_of_ble_eq_true rfl, Nat.le_of_ble_eq_true rfl⟩ (Nat.le_of_ble_eq_true rfl) (fun u1 h => ?_)
  refine pj_aload_n C d_Pa_readFrame_4 (pc' := 5) (i := 1) (x := b + i1) rfl rfl rfl ?_
  refine fg_Packet_37_R C t1 d_Pa_readFrame_5 (pc' := 8) rfl ?_
  refine pj_iconst C d_Pa_readFrame_8 (pc' := 9) rfl (v := 1) (by decide) ?_
  refine pj_icmp_ne C d_Pa_readFrame_9 (pc' := 12) rfl (tgt := 36) (by decide) h (fun h => ?_) (fun h => ?_)
  · exact pj_cut (pj_le_s (pj_le_s pj_le_e)) (pt_Pa_readFrame_36 C hE  t0 t1 h)
  · exact pj_cut (pj_le_s (pj_le_s pj_le_e)) (pt_Pa_readFrame_12 C hE  t0 t1 h)
def pw_Pa_readFrame (u : pj_M) (i0 : Nat) (i1 : Nat) (K : Int32 → pj_M → Prop) : Prop := pb_Pa_readFrame_0  K u i0 i1
theorem pc_Pa_readFrame (l : Launch) (D : va_G) (E : Nat → ClassId) {b : Nat} {u : pj_M} {i0 : Nat} {i1 : Nat} {K : Int32 → pj_M → Prop} (t0 : pj_T i0 = 4) (t1 : pj_R i1) (h : pw_Pa_readFrame u i0 i1 K) : pj_C l y_Pa_readFrame c_Pa_readFrame 2 (some .int) rm_Pa_readFrame D E b [.ref (b + i0), .ref (b + i1)] u (pj_Ki K) := by
  refine pj_met (own := R_Pa) (by decide +kernel) rfl (Nat.le_of_ble_eq_true rfl) (fun g hE C => ?_)
  unfold pw_Pa_readFrame at h
  show pj_J g (pj_N g b u) 0 [some (.ref (b + i0)), some (.ref (b + i1))] []
  exact pj_cut (pj_le_s (pj_le_s pj_le_e)) (pt_Pa_readFrame_0 C hE  t0 t1 h)
