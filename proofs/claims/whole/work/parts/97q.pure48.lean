/-! The pure part: questions -/
theorem ge_lt {t n : Nat} (ht : t < 2 ^ 31) (hn : n + 1 < 2 ^ 31) : nI (n + 1) ≤ nI t ↔ nI n < nI t := by
  constructor
  · intro h
    rcases Nat.lt_or_ge n t with z | z
    · exact nI_lt z ht
    · exact absurd h (nI_ge (by omega) hn)
  · intro h
    rcases Nat.lt_or_ge n t with z | z
    · exact nI_le (by omega) ht
    · exact absurd h (nI_nlt z (by omega))
theorem le_ge {t n : Nat} (ht : t < 2 ^ 31) (hn : n + 1 < 2 ^ 31) : nI t ≤ nI n ↔ ¬ nI (n + 1) ≤ nI t := by
  constructor
  · intro h z
    rcases Nat.lt_or_ge n t with y | y
    · exact nI_ge y ht h
    · exact nI_ge (by omega) hn z
  · intro h
    rcases Nat.lt_or_ge n t with y | y
    · exact absurd (nI_le (by omega) ht) h
    · exact nI_le y (by omega)
theorem sp_PG_isPort {u : pj_M} {x : Int32} {K : Int32 → pj_M → Prop} (kt : ∀ p, p < 4 → x = nI p → K 1 u) (kf : (x < 0 ∨ ∃ t, t < 2 ^ 31 ∧ 4 ≤ t ∧ x = nI t) → K 0 u) : pw_PG_isPort u x K := by
  refine br_c (fun h => ⟨pj_bi0, kf (Or.inl h)⟩) (fun h => ?_)
  obtain ⟨t, ht, rfl⟩ := nI_of h
  refine br_c (fun h4 => ⟨pj_bi0, kf (Or.inr ⟨t, ht, ?_, rfl⟩)⟩) (fun h4 => ⟨pj_bi1, kt t ?_ rfl⟩)
  · rcases Nat.lt_or_ge t 4 with z | z
    · exact absurd h4 (nI_ge (a := t) (b := 4) z (by decide))
    · exact z
  · exact Nat.lt_of_not_le (fun z => h4 (nI_le (a := 4) z ht))
theorem sp_PG_isServer {u : pj_M} {x : Int32} {K : Int32 → pj_M → Prop} (kt : ∀ s, s < 2 → x = nI s → K 1 u) (kf : (x < 0 ∨ ∃ t, t < 2 ^ 31 ∧ 2 ≤ t ∧ x = nI t) → K 0 u) : pw_PG_isServer u x K := by
  refine br_c (fun h => ⟨pj_bi0, kf (Or.inl h)⟩) (fun h => ?_)
  obtain ⟨t, ht, rfl⟩ := nI_of h
  refine br_c (fun h4 => ⟨pj_bi0, kf (Or.inr ⟨t, ht, ?_, rfl⟩)⟩) (fun h4 => ⟨pj_bi1, kt t ?_ rfl⟩)
  · rcases Nat.lt_or_ge t 2 with z | z
    · exact absurd h4 (nI_ge (a := t) (b := 2) z (by decide))
    · exact z
  · exact Nat.lt_of_not_le (fun z => h4 (nI_le (a := 2) z ht))
theorem nn0 {t : Nat} (h : t < 2 ^ 31) : ¬ nI t < 0 := Int32.not_lt.mpr (nI_nn h)
theorem lw_waiting {u : pj_M} {K : Int32 → Int32 → pj_M → Prop} (R : Rel u) (k : ∀ r u', Rel u' → K r r u') : pw_PG_waiting u fun r u1 => pw_Mo_waiting u1 fun r' u2 => K r r' u2 := by
  obtain ⟨ms, C, hb, hm, hw⟩ := R
  have e : u 4 4 = u 217 4 := by
    obtain ⟨ρ, _, h4, _⟩ := hb
    rw [h4, hm.1]
  show K (u 4 4) (u 217 4) u
  rw [e]
  exact k _ u ⟨ms, C, hb, hm, hw⟩
theorem lw_favourite {u : pj_M} {K : Int32 → Int32 → pj_M → Prop} (R : Rel u) (k : ∀ r u', Rel u' → K r r u') : pw_PG_favourite u fun r u1 => pw_Mo_favourite u1 fun r' u2 => K r r' u2 := by
  have R0 := R
  obtain ⟨ms, C, hb, hm, hw⟩ := R
  show K (u 170 8) (u 217 69) u
  rw [C.2.2.2.1.1.2.2.1]
  exact k _ u R0
theorem lw_learned {u : pj_M} {x1 : Int32} {K : Int32 → Int32 → pj_M → Prop} (R : Rel u) (k : ∀ r u', Rel u' → K r r u') : pw_PG_learned u x1 fun r u1 => pw_Mo_learned u1 x1 fun r' u2 => K r r' u2 := by
  have R0 := R
  obtain ⟨ms, C, hb, hm, hw⟩ := R
  refine br_c (fun h => br_t h (k _ u R0)) (fun h => ?_)
  obtain ⟨t, ht, rfl⟩ := nI_of h
  refine br_c (fun h8 => br_f h (br_f (fun z => (le_ge (n := 7) ht (by decide)).mp z h8) (k _ u R0))) (fun n8 => ?_)
  have t8 : t < 8 := Nat.lt_of_not_le (fun z => n8 (nI_le (a := 8) z ht))
  refine ⟨v8 t8, br_f h (br_t ((le_ge (n := 7) ht (by decide)).mpr n8) ⟨v8 t8, ?_⟩)⟩
  rw [nI_clamp ht]
  show K (u 172 t) (u 278 t) u
  rw [C.2.2.2.1.2 t t8]
  exact k _ u R0
theorem lw_wrong {u : pj_M} {x1 : Int32} {K : Int32 → Int32 → pj_M → Prop} (R : Rel u) (k : ∀ r u', Rel u' → K r r u') : pw_PG_wrong u x1 fun r u1 => pw_Mo_wrong u1 x1 fun r' u2 => K r r' u2 := by
  have R0 := R
  obtain ⟨ms, C, hb, hm, hw⟩ := R
  refine br_c (fun e => ?_) (fun e0 => br_c (fun e => ?_) (fun e1 => br_c (fun e => ?_) (fun e2 => ?_)))
  · subst e
    refine br_f (by decide) (br_t (by decide) ⟨vp_in_nI (n := 0) (N := 3) (by decide) (by decide), ?_⟩)
    show K (u 170 9) (u 277 0) u
    rw [C.2.2.2.1.1.2.2.2.2]
    exact k _ u R0
  · subst e
    have fin : ∀ r, r = u 277 1 → pw_Mo_wrong u 1 fun r' u2 => K r r' u2 := by
      intro r hr
      refine br_f (by decide) (br_t (by decide) ⟨vp_in_nI (n := 1) (N := 3) (by decide) (by decide), ?_⟩)
      show K r (u 277 1) u
      rw [hr]
      exact k _ u R0
    have hs := C.2.2.2.2.2.2.2.1.1
    refine ⟨5, br_f (by decide) ⟨v4 (by decide : 0 < 4), plt (br_f (by decide) ⟨v4 (by decide : 1 < 4), plt (br_f (by decide) ⟨v4 (by decide : 2 < 4), plt (br_f (by decide) ⟨v4 (by decide : 3 < 4), plt (br_t (by decide) (fin _ ?_))⟩)⟩)⟩)⟩⟩
    exact hs
  · subst e
    have fin : ∀ r, r = u 277 2 → pw_Mo_wrong u 2 fun r' u2 => K r r' u2 := by
      intro r hr
      refine br_f (by decide) (br_t (by decide) ⟨vp_in_nI (n := 2) (N := 3) (by decide) (by decide), ?_⟩)
      show K r (u 277 2) u
      rw [hr]
      exact k _ u R0
    have hs := C.2.2.2.2.2.2.2.1.2
    refine ⟨3, br_f (by decide) ⟨v2 (by decide : 0 < 2), plt (br_f (by decide) ⟨v2 (by decide : 1 < 2), plt (br_t (by decide) (fin _ ?_))⟩)⟩⟩
    exact hs
  · refine br_c (fun _ => k _ u R0) (fun h => br_f (fun h2 => ?_) (k _ u R0))
    obtain ⟨t, ht, rfl⟩ := nI_of h
    have t3 : t < 3 := by
      rcases Nat.lt_or_ge t 3 with z | z
      · exact z
      · exact absurd h2 (nI_ge (a := 2) (b := t) (by omega) ht)
    have : t = 0 ∨ t = 1 ∨ t = 2 := by omega
    rcases this with e | e | e <;> subst e
    · exact e0 rfl
    · exact e1 rfl
    · exact e2 rfl
theorem lw_server {u : pj_M} {x1 x2 : Int32} {K : Int32 → Int32 → pj_M → Prop} (R : Rel u) (k : ∀ r u', Rel u' → K r r u') : pw_PG_server u x1 x2 fun r u1 => pw_Mo_server u1 x1 x2 fun r' u2 => K r r' u2 := by
  have R0 := R
  obtain ⟨ms, C, hb, hm, hw⟩ := R
  refine sp_PG_isServer (fun s hs e => br_f (by decide) ?_) (fun hn => br_t rfl ?_)
  rotate_left
  · rcases hn with h | ⟨t, ht, h2, e⟩
    · exact br_t h (k _ u R0)
    · subst e
      exact br_f (nn0 ht) (br_f (nI_ge (a := 1) (b := t) (by omega) ht) (k _ u R0))
  subst e
  obtain ⟨L, A, hC, hM, hI, hCA, hMA, hdK, e0, e1, hup, e15, e16⟩ := C.2.2.2.2.1 s hs
  have h14 : u (112 + 29 * s) 14 = u 242 s := by
    obtain ⟨ρ, z⟩ := hC
    rw [z.2.2.1, hM.1]
  have go : ∀ r, pb_Mo_server_12 (fun r' u2 => K r r' u2) u (nI s) x2 → pw_Mo_server u (nI s) x2 fun r' u2 => K r r' u2 := fun r kk => br_f (nn0 (by omega)) (br_t (nI_le (b := 1) (by omega) (by decide)) kk)
  refine ⟨v2 hs, ?_⟩
  rw [c2 hs]
  refine br_c (fun e => ?_) (fun z0 => br_c (fun e => ?_) (fun z1 => br_c (fun e => ?_) (fun z2 => br_c (fun e => ?_) (fun z3 => ?_))))
  · subst e
    refine br_c (fun h => ?_) (fun h => ?_)
    · refine go 0 (br_t rfl ⟨v2 hs, ?_⟩)
      rw [c2 hs]
      rcases hup with y | y
      · rw [y.2]; exact br_f (by decide) (k _ u R0)
      · rw [y.1] at h; exact absurd h (by decide)
    · refine go 1 (br_t rfl ⟨v2 hs, ?_⟩)
      rw [c2 hs]
      rcases hup with y | y
      · exact absurd y.1 h
      · rw [y.2]; exact br_t rfl (k _ u R0)
  · subst e
    refine go _ (br_f (by decide) (br_t rfl ⟨v2 hs, ?_⟩))
    rw [c2 hs, h14]
    exact k _ u R0
  · subst e
    refine go _ (br_f (by decide) (br_f (by decide) (br_t rfl ⟨v2 hs, ?_⟩)))
    rw [c2 hs, e15]
    exact k _ u R0
  · subst e
    refine go _ (br_f (by decide) (br_f (by decide) (br_f (by decide) (br_t rfl ⟨v2 hs, ?_⟩))))
    rw [c2 hs, e16]
    exact k _ u R0
  · exact go _ (br_f z0 (br_f z1 (br_f z2 (br_f z3 (k _ u R0)))))
theorem lw_station {u : pj_M} {x1 x2 : Int32} {K : Int32 → Int32 → pj_M → Prop} (R : Rel u) (k : ∀ r u', Rel u' → K r r u') : pw_PG_station u x1 x2 fun r u1 => pw_Mo_station u1 x1 x2 fun r' u2 => K r r' u2 := by
  have R0 := R
  obtain ⟨ms, C, hb, hm, hw⟩ := R
  refine sp_PG_isPort (fun h hh e => br_f (by decide) ?_) (fun hn => br_t rfl ?_)
  rotate_left
  · rcases hn with h | ⟨t, ht, h2, e⟩
    · exact br_t h (k _ u R0)
    · subst e
      exact br_f (nn0 ht) (br_f (nI_ge (a := 3) (b := t) (by omega) ht) (k _ u R0))
  subst e
  obtain ⟨⟨a0, a1, a2, a3, a4, a5⟩, ⟨b1, b2, b3, b4⟩, d, e7⟩ := C.2.1 h hh
  have go : ∀ r, pb_Mo_station_12 (fun r' u2 => K r r' u2) u (nI h) x2 → pw_Mo_station u (nI h) x2 fun r' u2 => K r r' u2 := fun r kk => br_f (nn0 (by omega)) (br_t (nI_le (b := 3) (by omega) (by decide)) kk)
  refine ⟨v4 hh, ?_⟩
  rw [c4 hh]
  refine br_c (fun e => ?_) (fun z0 => br_c (fun e => ?_) (fun z1 => br_c (fun e => ?_) (fun z2 => br_c (fun e => ?_) (fun z3 => br_c (fun e => ?_) (fun z4 => ?_)))))
  · subst e
    refine go _ (br_t rfl ⟨v4 hh, ?_⟩)
    rw [c4 hh, a5]
    exact k _ u R0
  · subst e
    unfold pb_Ho_tell_41
    rw [a4]
    refine br_c (fun y => ?_) (fun y => ?_)
    · refine go _ (br_f (by decide) (br_t rfl ⟨v4 hh, ?_⟩))
      rw [c4 hh]
      exact br_t y (k _ u R0)
    · refine go _ (br_f (by decide) (br_t rfl ⟨v4 hh, ?_⟩))
      rw [c4 hh]
      exact br_f y (k _ u R0)
  · subst e
    rcases e7 with ⟨y, y'⟩ | ⟨y, l, r, n, n3, bb, ar⟩
    · refine br_t y (go _ (br_f (by decide) (br_f (by decide) (br_t rfl ⟨v4 hh, ?_⟩))))
      rw [c4 hh]
      exact br_t y' (k _ u R0)
    · have l20 := ar.1
      refine br_f (by rw [y]; decide) (sp_Pa_id r (go _ (br_f (by decide) (br_f (by decide) (br_t rfl ⟨v4 hh, ?_⟩)))))
      rw [c4 hh, n]
      refine br_f (fun z => ?_) ⟨by rw [i21]; exact vp_in_nI (by omega) (by decide), ?_⟩
      · have := (nI_e 0 (by omega) (by decide)).mp z
        omega
      · rw [i21, nI_clamp (by omega), ar.at (show 1 < l.length by omega)]
        exact k _ u R0
  · subst e
    refine go _ (br_f (by decide) (br_f (by decide) (br_f (by decide) (br_t rfl ⟨v4 hh, ?_⟩))))
    rw [c4 hh, a1]
    exact k _ u R0
  · subst e
    refine go _ (br_f (by decide) (br_f (by decide) (br_f (by decide) (br_f (by decide) (br_t rfl ⟨v4 hh, ?_⟩)))))
    rw [c4 hh, b4]
    exact k _ u R0
  · exact go _ (br_f z0 (br_f z1 (br_f z2 (br_f z3 (br_f z4 (k _ u R0))))))
theorem lw_port {u : pj_M} {x1 x2 : Int32} {K : Int32 → Int32 → pj_M → Prop} (R : Rel u) (k : ∀ r u', Rel u' → K r r u') : pw_PG_port u x1 x2 fun r u1 => pw_Mo_port u1 x1 x2 fun r' u2 => K r r' u2 := by
  have R0 := R
  obtain ⟨ms, C, hb, hm, hw⟩ := R
  refine sp_PG_isPort (fun p hp e => br_f (by decide) ?_) (fun hn => br_t rfl ?_)
  rotate_left
  · rcases hn with h | ⟨t, ht, h2, e⟩
    · exact br_t h (k _ u R0)
    · subst e
      exact br_f (nn0 ht) (br_f (nI_ge (a := 3) (b := t) (by omega) ht) (k _ u R0))
  subst e
  obtain ⟨la, as, ⟨a1, a2, a3, a4, a5, a6, a7⟩, rl, rq⟩ := C.2.2.1 p hp
  have g : ∀ q, 4 ≤ q → q ≤ 17 → q ≠ 12 → q ≠ 13 → u (185 + 7 * p) q = rs u p q := a1
  have go : ∀ r, pb_Mo_port_12 (fun r' u2 => K r r' u2) u (nI p) x2 → pw_Mo_port u (nI p) x2 fun r' u2 => K r r' u2 := fun r kk => br_f (nn0 (by omega)) (br_t (nI_le (b := 3) (by omega) (by decide)) kk)
  refine ⟨v4 hp, ?_⟩
  rw [c4 hp]
  refine br_c (fun e => ?_) (fun z0 => br_c (fun e => ?_) (fun z1 => br_c (fun e => ?_) (fun z2 => br_c (fun e => ?_) (fun z3 => br_c (fun e => ?_) (fun z4 => br_c (fun e => ?_) (fun z5 => br_c (fun e => ?_) (fun z6 => br_c (fun e => ?_) (fun z7 => br_c (fun e => ?_) (fun z8 => br_c (fun e => ?_) (fun z9 => br_c (fun e => ?_) (fun z10 => br_c (fun e => ?_) (fun z11 => ?_))))))))))))
  · subst e
    refine go _ (br_t rfl ⟨v4 hp, ?_⟩)
    rw [c4 hp, g 5 (by decide) (by decide) (by decide) (by decide)]
    exact k _ u R0
  · subst e
    unfold pb_Po_tell_69
    rw [g 6 (by decide) (by decide) (by decide) (by decide)]
    refine br_c (fun y => ?_) (fun y => ?_)
    · refine go _ (br_f (by decide) (br_t rfl ⟨v4 hp, ?_⟩))
      rw [c4 hp]
      exact br_t y (k _ u R0)
    · refine go _ (br_f (by decide) (br_t rfl ⟨v4 hp, ?_⟩))
      rw [c4 hp]
      exact br_f y (k _ u R0)
  · subst e
    unfold pb_Po_tell_82
    rw [g 8 (by decide) (by decide) (by decide) (by decide)]
    refine br_c (fun y => ?_) (fun y => ?_)
    · refine go _ (br_f (by decide) (br_f (by decide) (br_t rfl ⟨v4 hp, ?_⟩)))
      rw [c4 hp]
      exact br_t y (k _ u R0)
    · refine go _ (br_f (by decide) (br_f (by decide) (br_t rfl ⟨v4 hp, ?_⟩)))
      rw [c4 hp]
      exact br_f y (k _ u R0)
  · subst e
    refine go _ (br_f (by decide) (br_f (by decide) (br_f (by decide) (br_t rfl ⟨v4 hp, ?_⟩))))
    rw [c4 hp, g 9 (by decide) (by decide) (by decide) (by decide)]
    exact k _ u R0
  · subst e
    refine go _ (br_f (by decide) (br_f (by decide) (br_f (by decide) (br_f (by decide) (br_t rfl ⟨v4 hp, ?_⟩)))))
    rw [c4 hp, g 7 (by decide) (by decide) (by decide) (by decide)]
    exact k _ u R0
  · subst e
    have fin : ∀ r, r = u 271 p → pw_Mo_port u (nI p) 5 fun r' u2 => K r r' u2 := by
      intro r hr
      refine go _ (br_f (by decide) (br_f (by decide) (br_f (by decide) (br_f (by decide) (br_f (by decide) (br_t rfl ⟨v4 hp, ?_⟩))))))
      rw [c4 hp, hr]
      exact k _ u R0
    rcases a7 with ⟨y, y'⟩ | ⟨_, y2, _, y4, y5, _⟩
    · refine br_t (by rw [y]; decide) (fin _ y'.symm)
    · refine br_f ?_ (fin _ y4)
      rcases y2 with w | w <;> rw [w] <;> decide
  · subst e
    have fin : ∀ r, ((0 ≤ u 271 p ∧ r = u 272 p) ∨ (¬ 0 ≤ u 271 p ∧ r = 0)) → pw_Mo_port u (nI p) 6 fun r' u2 => K r r' u2 := by
      intro r hr
      refine go _ (br_f (by decide) (br_f (by decide) (br_f (by decide) (br_f (by decide) (br_f (by decide) (br_f (by decide) (br_t rfl ⟨v4 hp, ?_⟩)))))))
      rw [c4 hp]
      rcases hr with ⟨h1, h2⟩ | ⟨h1, h2⟩
      · refine br_t h1 ⟨v4 hp, ?_⟩
        rw [c4 hp, h2]
        exact k _ u R0
      · rw [h2]
        exact br_f h1 (k _ u R0)
    rcases a7 with ⟨y, y'⟩ | ⟨_, y2, y3, y4, y5, _⟩
    · refine fin _ (Or.inr ⟨?_, y⟩)
      rw [show u 271 p = -1 from y']; decide
    · refine fin _ (Or.inl ⟨?_, y3⟩)
      have y5 : u 271 p = 0 ∨ u 271 p = 1 := y5
      rcases y5 with w | w <;> rw [w] <;> decide
  · subst e
    refine go _ (br_f (by decide) (br_f (by decide) (br_f (by decide) (br_f (by decide) (br_f (by decide) (br_f (by decide) (br_f (by decide) (br_t rfl ⟨v4 hp, ?_⟩))))))))
    rw [c4 hp, g 10 (by decide) (by decide) (by decide) (by decide)]
    exact k _ u R0
  · subst e
    refine go _ (br_f (by decide) (br_f (by decide) (br_f (by decide) (br_f (by decide) (br_f (by decide) (br_f (by decide) (br_f (by decide) (br_f (by decide) (br_t rfl ⟨v4 hp, ?_⟩)))))))))
    rw [c4 hp, g 11 (by decide) (by decide) (by decide) (by decide)]
    exact k _ u R0
  · subst e
    refine go _ (br_f (by decide) (br_f (by decide) (br_f (by decide) (br_f (by decide) (br_f (by decide) (br_f (by decide) (br_f (by decide) (br_f (by decide) (br_f (by decide) (br_t rfl ⟨v4 hp, ?_⟩))))))))))
    rw [c4 hp, g 15 (by decide) (by decide) (by decide) (by decide)]
    exact k _ u R0
  · subst e
    refine go _ (br_f (by decide) (br_f (by decide) (br_f (by decide) (br_f (by decide) (br_f (by decide) (br_f (by decide) (br_f (by decide) (br_f (by decide) (br_f (by decide) (br_f (by decide) (br_t rfl ⟨v4 hp, ?_⟩)))))))))))
    rw [c4 hp, g 16 (by decide) (by decide) (by decide) (by decide)]
    exact k _ u R0
  · subst e
    refine go _ (br_f (by decide) (br_f (by decide) (br_f (by decide) (br_f (by decide) (br_f (by decide) (br_f (by decide) (br_f (by decide) (br_f (by decide) (br_f (by decide) (br_f (by decide) (br_f (by decide) (br_t rfl ⟨v4 hp, ?_⟩))))))))))))
    rw [c4 hp, g 17 (by decide) (by decide) (by decide) (by decide)]
    exact k _ u R0
  · exact go _ (br_f z0 (br_f z1 (br_f z2 (br_f z3 (br_f z4 (br_f z5 (br_f z6 (br_f z7 (br_f z8 (br_f z9 (br_f z10 (br_f z11 (k _ u R0)))))))))))))
