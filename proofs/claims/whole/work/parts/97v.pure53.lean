/-! The pure part: the law's loop -/
theorem brT {c A B : Prop} (h : c) : ((c → A) ∧ (¬ c → B)) = A := propext ⟨fun z => z.1 h, fun a => ⟨fun _ => a, fun n => absurd h n⟩⟩
theorem brF {c A B : Prop} (h : ¬ c) : ((c → A) ∧ (¬ c → B)) = B := propext ⟨fun z => z.2 h, fun b => ⟨fun n => absurd n h, fun _ => b⟩⟩
theorem anT {c A : Prop} (h : c) : (c ∧ A) = A := propext ⟨fun z => z.2, fun a => ⟨h, a⟩⟩
theorem la_user {R28 : pj_M → Int32 → Prop} {L : Nat} {xs : Nat → Int32} {u : pj_M} {x3 : Int32} (R : Rel u) (v1 : vp_in (x3 + 1) L) (v2 : vp_in (x3 + 2) L) (v3 : vp_in (x3 + 3) L) (k : ∀ u', Rel u' → R28 u' (x3 + 5)) : pb_La_law_132 R28 L xs u x3 := by
  unfold pb_La_law_132
  simp only [anT v1, anT v2, anT v3]
  exact lw_user R (fun r u' R' => ⟨fun _ => k u' R', fun z => absurd rfl z⟩)
theorem la_host {R28 : pj_M → Int32 → Prop} {L : Nat} {xs : Nat → Int32} {u : pj_M} {x3 : Int32} (R : Rel u) (v1 : vp_in (x3 + 1) L) (v2 : vp_in (x3 + 2) L) (v3 : vp_in (x3 + 3) L) (v4 : vp_in (x3 + 4) L) (k : ∀ u', Rel u' → R28 u' (x3 + 5)) : pb_La_law_175 R28 L xs u x3 := by
  unfold pb_La_law_175
  simp only [anT v1, anT v2, anT v3, anT v4]
  exact lw_host R (fun r u' R' => ⟨fun _ => k u' R', fun z => absurd rfl z⟩)
theorem la_start {R28 : pj_M → Int32 → Prop} {L : Nat} {xs : Nat → Int32} {u : pj_M} {x3 : Int32} (R : Rel u) (v1 : vp_in (x3 + 1) L) (v2 : vp_in (x3 + 2) L) (k : ∀ u', Rel u' → R28 u' (x3 + 5)) : pb_La_law_228 R28 L xs u x3 := by
  refine ⟨v1, v2, br_c (fun e => ?_) (fun e => ?_)⟩
  · unfold pb_La_law_246 pb_La_law_247
    simp only [anT v1, anT v2, brT e]
    unfold pb_La_law_268 pb_La_law_269
    exact lw_start R (fun r u' R' => ⟨fun _ => k u' R', fun z => absurd rfl z⟩)
  · unfold pb_La_law_242 pb_La_law_247
    simp only [anT v1, anT v2, brF e]
    unfold pb_La_law_264 pb_La_law_269
    exact lw_start R (fun r u' R' => ⟨fun _ => k u' R', fun z => absurd rfl z⟩)
theorem la_link {R28 : pj_M → Int32 → Prop} {L : Nat} {xs : Nat → Int32} {u : pj_M} {x3 : Int32} (R : Rel u) (v1 : vp_in (x3 + 1) L) (v2 : vp_in (x3 + 2) L) (k : ∀ u', Rel u' → R28 u' (x3 + 5)) : pb_La_law_277 R28 L xs u x3 := by
  refine ⟨v1, v2, br_c (fun e => ?_) (fun e => ?_)⟩
  · unfold pb_La_law_295 pb_La_law_296
    simp only [anT v1, anT v2, brT e]
    unfold pb_La_law_317 pb_La_law_318
    exact lw_link R (Or.inl rfl) (fun r u' R' => ⟨fun _ => k u' R', fun z => absurd rfl z⟩)
  · unfold pb_La_law_291 pb_La_law_296
    simp only [anT v1, anT v2, brF e]
    unfold pb_La_law_313 pb_La_law_318
    exact lw_link R (Or.inr rfl) (fun r u' R' => ⟨fun _ => k u' R', fun z => absurd rfl z⟩)
theorem la_power {R28 : pj_M → Int32 → Prop} {L : Nat} {xs : Nat → Int32} {u : pj_M} {x3 : Int32} (R : Rel u) (v1 : vp_in (x3 + 1) L) (v2 : vp_in (x3 + 2) L) (k : ∀ u', Rel u' → R28 u' (x3 + 5)) : pb_La_law_326 R28 L xs u x3 := by
  refine ⟨v1, v2, br_c (fun e => ?_) (fun e => ?_)⟩
  · unfold pb_La_law_344 pb_La_law_345
    simp only [anT v1, anT v2, brT e]
    unfold pb_La_law_366 pb_La_law_367
    exact lw_power R (Or.inl rfl) (fun r u' R' => ⟨fun _ => k u' R', fun z => absurd rfl z⟩)
  · unfold pb_La_law_340 pb_La_law_345
    simp only [anT v1, anT v2, brF e]
    unfold pb_La_law_362 pb_La_law_367
    exact lw_power R (Or.inr rfl) (fun r u' R' => ⟨fun _ => k u' R', fun z => absurd rfl z⟩)
theorem la_pass {R28 : pj_M → Int32 → Prop} {L : Nat} {xs : Nat → Int32} {u : pj_M} {x3 : Int32} (R : Rel u) (v1 : vp_in (x3 + 1) L) (v2 : vp_in (x3 + 2) L) (k : ∀ u', Rel u' → R28 u' (x3 + 5)) : pb_La_law_375 R28 L xs u x3 := by
  unfold pb_La_law_375
  simp only [anT v1, anT v2]
  exact lw_pass R (fun r u' R' => ⟨fun _ => k u' R', fun z => absurd rfl z⟩)
theorem la_alter {R28 : pj_M → Int32 → Prop} {L : Nat} {xs : Nat → Int32} {u : pj_M} {x3 : Int32} (R : Rel u) (v1 : vp_in (x3 + 1) L) (v2 : vp_in (x3 + 2) L) (v3 : vp_in (x3 + 3) L) (k : ∀ u', Rel u' → R28 u' (x3 + 5)) : pb_La_law_408 R28 L xs u x3 := by
  unfold pb_La_law_408
  simp only [anT v1, anT v2, anT v3]
  exact lw_alter R (fun r u' R' => ⟨fun _ => k u' R', fun z => absurd rfl z⟩)
theorem la_draft {R28 : pj_M → Int32 → Prop} {L : Nat} {xs : Nat → Int32} {u : pj_M} {x3 : Int32} (R : Rel u) (v1 : vp_in (x3 + 1) L) (v2 : vp_in (x3 + 2) L) (v3 : vp_in (x3 + 3) L) (k : ∀ u', Rel u' → R28 u' (x3 + 5)) : pb_La_law_451 R28 L xs u x3 := by
  unfold pb_La_law_451
  simp only [anT v1, anT v2, anT v3]
  exact lw_draft R (fun r u' R' => ⟨fun _ => k u' R', fun z => absurd rfl z⟩)
theorem la_forge {R28 : pj_M → Int32 → Prop} {L : Nat} {xs : Nat → Int32} {u : pj_M} {x3 : Int32} (R : Rel u) (v1 : vp_in (x3 + 1) L) (v2 : vp_in (x3 + 2) L) (k : ∀ u', Rel u' → R28 u' (x3 + 5)) : pb_La_law_514 R28 L xs u x3 := by
  unfold pb_La_law_514
  simp only [anT v1, anT v2]
  exact lw_forge R (fun r u' R' => ⟨fun _ => k u' R', fun z => absurd rfl z⟩)
theorem la_tick {R28 : pj_M → Int32 → Prop} {L : Nat} {xs : Nat → Int32} {u : pj_M} {x3 : Int32} (R : Rel u)  (k : ∀ u', Rel u' → R28 u' (x3 + 5)) : pb_La_law_547 R28 L xs u x3 := by
  unfold pb_La_law_547
  exact lw_tick R (fun r u' R' => ⟨fun _ => k u' R', fun z => absurd rfl z⟩)
theorem la_data {R28 : pj_M → Int32 → Prop} {L : Nat} {xs : Nat → Int32} {u : pj_M} {x3 : Int32} (R : Rel u) (v1 : vp_in (x3 + 1) L) (v2 : vp_in (x3 + 2) L) (v3 : vp_in (x3 + 3) L) (k : ∀ u', Rel u' → R28 u' (x3 + 5)) : pb_La_law_560 R28 L xs u x3 := by
  unfold pb_La_law_560
  simp only [anT v1, anT v2, anT v3]
  exact lw_data R (fun r u' R' => ⟨fun _ => k u' R', fun z => absurd rfl z⟩)
theorem la_waiting {R28 : pj_M → Int32 → Prop} {L : Nat} {xs : Nat → Int32} {u : pj_M} {x3 : Int32} (R : Rel u)  (k : ∀ u', Rel u' → R28 u' (x3 + 5)) : pb_La_law_603 R28 L xs u x3 := by
  unfold pb_La_law_603
  exact lw_waiting R (fun r u' R' => ⟨fun _ => k u' R', fun z => absurd rfl z⟩)
theorem la_message {R28 : pj_M → Int32 → Prop} {L : Nat} {xs : Nat → Int32} {u : pj_M} {x3 : Int32} (R : Rel u) (v1 : vp_in (x3 + 1) L) (v2 : vp_in (x3 + 2) L) (k : ∀ u', Rel u' → R28 u' (x3 + 5)) : pb_La_law_616 R28 L xs u x3 := by
  unfold pb_La_law_616
  simp only [anT v1, anT v2]
  exact lw_message R (fun r u' R' => ⟨fun _ => k u' R', fun z => absurd rfl z⟩)
theorem la_port {R28 : pj_M → Int32 → Prop} {L : Nat} {xs : Nat → Int32} {u : pj_M} {x3 : Int32} (R : Rel u) (v1 : vp_in (x3 + 1) L) (v2 : vp_in (x3 + 2) L) (k : ∀ u', Rel u' → R28 u' (x3 + 5)) : pb_La_law_649 R28 L xs u x3 := by
  unfold pb_La_law_649
  simp only [anT v1, anT v2]
  exact lw_port R (fun r u' R' => ⟨fun _ => k u' R', fun z => absurd rfl z⟩)
theorem la_station {R28 : pj_M → Int32 → Prop} {L : Nat} {xs : Nat → Int32} {u : pj_M} {x3 : Int32} (R : Rel u) (v1 : vp_in (x3 + 1) L) (v2 : vp_in (x3 + 2) L) (k : ∀ u', Rel u' → R28 u' (x3 + 5)) : pb_La_law_682 R28 L xs u x3 := by
  unfold pb_La_law_682
  simp only [anT v1, anT v2]
  exact lw_station R (fun r u' R' => ⟨fun _ => k u' R', fun z => absurd rfl z⟩)
theorem la_server {R28 : pj_M → Int32 → Prop} {L : Nat} {xs : Nat → Int32} {u : pj_M} {x3 : Int32} (R : Rel u) (v1 : vp_in (x3 + 1) L) (v2 : vp_in (x3 + 2) L) (k : ∀ u', Rel u' → R28 u' (x3 + 5)) : pb_La_law_715 R28 L xs u x3 := by
  unfold pb_La_law_715
  simp only [anT v1, anT v2]
  exact lw_server R (fun r u' R' => ⟨fun _ => k u' R', fun z => absurd rfl z⟩)
theorem la_wrong {R28 : pj_M → Int32 → Prop} {L : Nat} {xs : Nat → Int32} {u : pj_M} {x3 : Int32} (R : Rel u) (v1 : vp_in (x3 + 1) L) (k : ∀ u', Rel u' → R28 u' (x3 + 5)) : pb_La_law_748 R28 L xs u x3 := by
  unfold pb_La_law_748
  simp only [anT v1]
  exact lw_wrong R (fun r u' R' => ⟨fun _ => k u' R', fun z => absurd rfl z⟩)
theorem la_learned {R28 : pj_M → Int32 → Prop} {L : Nat} {xs : Nat → Int32} {u : pj_M} {x3 : Int32} (R : Rel u) (v1 : vp_in (x3 + 1) L) (k : ∀ u', Rel u' → R28 u' (x3 + 5)) : pb_La_law_771 R28 L xs u x3 := by
  unfold pb_La_law_771
  simp only [anT v1]
  exact lw_learned R (fun r u' R' => ⟨fun _ => k u' R', fun z => absurd rfl z⟩)
theorem la_favourite {R28 : pj_M → Int32 → Prop} {L : Nat} {xs : Nat → Int32} {u : pj_M} {x3 : Int32} (R : Rel u)  (k : ∀ u', Rel u' → R28 u' (x3 + 5)) : pb_La_law_794 R28 L xs u x3 := by
  unfold pb_La_law_794
  exact lw_favourite R (fun r u' R' => ⟨fun _ => k u' R', fun z => absurd rfl z⟩)
theorem la_loop {L : Nat} {xs : Nat → Int32} (hL : L ≤ 2561) (h5 : 5 ≤ L) : ∀ (d t : Nat) (u : pj_M), Rel u → L < t + 5 * d + 5 → t ≤ L + 5 → pb_La_law_28 L xs (d + 1) u (nI t) := by
  have e5 : nI L - 5 = nI (L - 5) := pk_sub (b := 5) h5
  intro d
  induction d with
  | zero =>
    intro t u R h1 h2
    exact br_t (by rw [e5]; exact nI_lt (by omega) (by omega)) trivial
  | succ d ih =>
    intro t u R h1 h2
    by_cases c : L - 5 < t
    · exact br_t (by rw [e5]; exact nI_lt c (by omega)) trivial
    have v : ∀ i, i < 5 → vp_in (nI (t + i)) L := fun i hi => vp_in_nI (by omega) (by omega)
    have v1 : vp_in (nI t + 1) L := by rw [nI_1]; exact v 1 (by decide)
    have v2 : vp_in (nI t + 2) L := by rw [show (2 : Int32) = nI 2 from rfl, nI_add]; exact v 2 (by decide)
    have v3 : vp_in (nI t + 3) L := by rw [show (3 : Int32) = nI 3 from rfl, nI_add]; exact v 3 (by decide)
    have v4' : vp_in (nI t + 4) L := by rw [show (4 : Int32) = nI 4 from rfl, nI_add]; exact v 4 (by decide)
    have k : ∀ u', Rel u' → pb_La_law_28 L xs (d + 1) u' (nI t + 5) := by
      intro u' R'
      rw [show (5 : Int32) = nI 5 from rfl, nI_add]
      exact ih (t + 5) u' R' (by omega) (by omega)
    refine br_f (by rw [e5]; exact nI_nlt (by omega) (by omega)) ⟨v 0 (by decide), ?_⟩
    exact br_c (fun _ => la_user R v1 v2 v3 k) (fun _ => br_c (fun _ => la_host R v1 v2 v3 v4' k) (fun _ => br_c (fun _ => la_start R v1 v2 k) (fun _ => br_c (fun _ => la_link R v1 v2 k) (fun _ => br_c (fun _ => la_power R v1 v2 k) (fun _ => br_c (fun _ => la_pass R v1 v2 k) (fun _ => br_c (fun _ => la_alter R v1 v2 v3 k) (fun _ => br_c (fun _ => la_draft R v1 v2 v3 k) (fun _ => br_c (fun _ => la_forge R v1 v2 k) (fun _ => br_c (fun _ => la_tick R k) (fun _ => br_c (fun _ => la_data R v1 v2 v3 k) (fun _ => br_c (fun _ => la_waiting R k) (fun _ => br_c (fun _ => la_message R v1 v2 k) (fun _ => br_c (fun _ => la_port R v1 v2 k) (fun _ => br_c (fun _ => la_station R v1 v2 k) (fun _ => br_c (fun _ => la_server R v1 v2 k) (fun _ => br_c (fun _ => la_wrong R v1 k) (fun _ => br_c (fun _ => la_learned R v1 k) (fun _ => br_c (fun _ => la_favourite R k) (fun _ => k u R)))))))))))))))))))
theorem la_26 {L : Nat} {xs : Nat → Int32} (hL : L ≤ 2561) {u : pj_M} (R : Rel u) : pb_La_law_26 L xs u := by
  by_cases h5 : 5 ≤ L
  · exact ⟨L + 1, la_loop hL h5 L 1 u R (by omega) (by omega)⟩
  · refine ⟨1, br_t ?_ trivial⟩
    have : L = 0 ∨ L = 1 ∨ L = 2 ∨ L = 3 ∨ L = 4 := by omega
    rcases this with e | e | e | e | e <;> subst e <;> decide
