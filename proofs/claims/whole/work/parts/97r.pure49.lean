/-! The pure part: message, user, host, start, link, power -/
theorem lw_message {u : pj_M} {x1 x2 : Int32} {K : Int32 → Int32 → pj_M → Prop} (R : Rel u) (k : ∀ r u', Rel u' → K r r u') : pw_PG_message u x1 x2 fun r u1 => pw_Mo_message u1 x1 x2 fun r' u2 => K r r' u2 := by
  have R0 := R
  obtain ⟨ms, C, hb, hm, hw⟩ := R
  have l40 := hm.2.1
  have no : ¬ ((∃ t, t < ms.length ∧ x1 = nI t) ∧ ¬ x2 < 0) → pw_Mo_message u x1 x2 fun r' u2 => K (-1) r' u2 := by
    intro hn
    refine br_c (fun _ => k _ u R0) (fun h1 => ?_)
    obtain ⟨t, ht, e⟩ := nI_of h1
    refine br_c (fun _ => k _ u R0) (fun h2 => br_t (Decidable.byContradiction (fun h3 => hn ⟨⟨t, ?_, e⟩, h3⟩)) (k _ u R0))
    rw [hm.1, e] at h2
    exact Nat.lt_of_not_le (fun z => h2 (nI_le z ht))
  refine sp_Ma_has hb (fun t ht e => br_f (by decide) ?_) (fun hn => br_t rfl (no (fun z => hn z.1)))
  subst e
  refine br_c (fun n0 => ?_) (fun n0 => no (fun z => n0 (Int32.not_lt.mp z.2)))
  obtain ⟨r, g5, g6, g7, gT, gr_, r10, r89⟩ := hb.get ht
  obtain ⟨e1, e2, e3, e4, e5⟩ := hm.2.2 t ht
  have t31 : t < 2 ^ 31 := by omega
  obtain ⟨j, hj, ej⟩ := nI_of (Int32.not_lt.mpr n0)
  subst ej
  have go : ∀ r, pb_Mo_message_16 (fun r' u2 => K r r' u2) u (nI t) (nI j) → pw_Mo_message u (nI t) (nI j) fun r' u2 => K r r' u2 := fun r kk => br_f (nn0 t31) (br_f (by rw [hm.1]; exact nI_ge ht (by omega)) (br_f (nn0 hj) kk))
  have lo : ∀ r, j ≤ 2 → pb_Mo_message_35 (fun r' u2 => K r r' u2) u (nI t) (nI j) → pw_Mo_message u (nI t) (nI j) fun r' u2 => K r r' u2 := fun r hj2 kk => go r (br_t (nI_le (b := 2) hj2 (by decide)) kk)
  refine br_c (fun e => ?_) (fun z0 => br_c (fun e => ?_) (fun z1 => br_c (fun e => ?_) (fun z2 => ?_)))
  · have ej : j = 0 := (nI_e 0 hj (by decide)).mp e
    subst ej
    refine ⟨v40 (by omega), ?_⟩
    rw [nI_clamp t31, g5]
    refine lo _ (by decide) (br_t rfl ⟨v40 (by omega), ?_⟩)
    rw [nI_clamp t31, e1]
    exact k _ u R0
  · have ej : j = 1 := (nI_e 1 hj (by decide)).mp e
    subst ej
    refine ⟨v40 (by omega), ?_⟩
    rw [nI_clamp t31, g6]
    refine lo _ (by decide) (br_f (by decide) (br_t rfl ⟨v40 (by omega), ?_⟩))
    rw [nI_clamp t31, e2]
    exact k _ u R0
  · have ej : j = 2 := (nI_e 2 hj (by decide)).mp e
    subst ej
    refine ⟨v40 (by omega), ?_⟩
    rw [nI_clamp t31, g7]
    refine plt ⟨gT, ?_⟩
    rw [gr_.1]
    refine lo _ (by decide) (br_f (by decide) (br_f (by decide) (br_t rfl ⟨v40 (by omega), ?_⟩)))
    rw [nI_clamp t31, e3]
    exact k _ u R0
  · have j3 : 3 ≤ j := by
      rcases Nat.lt_or_ge j 3 with z | z
      · have : j = 0 ∨ j = 1 ∨ j = 2 := by omega
        rcases this with e | e | e <;> subst e
        · exact absurd rfl z0
        · exact absurd rfl z1
        · exact absurd rfl z2
      · exact z
    have em : nI j - 3 = nI (j - 3) := pk_sub (b := 3) j3
    refine ⟨v40 (by omega), ?_⟩
    rw [nI_clamp t31, g7]
    refine plt ⟨gT, sp_Ro_at gr_ (j - 3) em (by omega) ?_⟩
    refine go _ (br_f (nI_ge (a := 2) (b := j) (by omega) hj) ⟨v40 (by omega), ?_⟩)
    rw [nI_clamp t31, e3, em]
    by_cases c : j - 3 < (mg ms t).2.2.length
    · refine br_t (nI_lt c (by omega)) (br_f z0 (br_f z1 (br_f z2 ?_)))
      have e48 : (48 : Int32) * nI t + nI j - 3 = nI (48 * t + (j - 3)) := by
        rw [show (48 : Int32) * nI t = nI (48 * t) from pk_mul 48 t, nI_add, show (3 : Int32) = nI 3 from rfl, pk_sub (by omega)]
        congr 1
        omega
      refine ⟨by rw [e48]; exact vp_in_nI (by omega) (by decide), ?_⟩
      rw [e48, nI_clamp (by omega), e5 _ c, gd_in (d := 0) (e := -1) c]
      exact k _ u R0
    · refine br_f (nI_nlt (by omega) (by omega)) ?_
      have : (mg ms t).2.2.getD (j - 3) (-1) = -1 := aT_out (by omega)
      rw [this]
      exact k _ u R0
theorem RC.users {c c' u u' : pj_M} (R : RC c u) (hU : RU c' u') (hc : ∀ a, 90 ≤ a → a < 215 → c' a = c a) (hu : ∀ a, 217 ≤ a → (a < 218 ∨ 220 < a) → u' a = u a) : RC c' u' := by
  obtain ⟨r1, r2, r3, r4, r5, r6, r7, r8, r9⟩ := R
  refine ⟨hU, fun h hh => (r2 h hh).keep (fun a h1 h2 => hc a (by omega) (by omega)) (fun a h1 h2 _ => by rw [hu a (by omega) (by omega)]) (fun j _ => by rw [hu 232 (by decide) (by decide)]), fun p hp => (r3 p hp).keep (fun a h1 h2 => hc a (by omega) (by omega)) (rs_keep (fun a h _ _ _ _ => hu a (by omega) (by omega))) (fun j _ => by rw [hu 263 (by decide) (by decide)]) (fun j _ => by rw [hu 276 (by decide) (by decide)]) (by rw [hu 217 (by decide) (by decide)]), r4.keep (hc _ (by decide) (by decide)) (hc _ (by decide) (by decide)) (by rw [hu 217 (by decide) (by decide)]) (by rw [hu 217 (by decide) (by decide)]) (by rw [hu 217 (by decide) (by decide)]) (by rw [hu 277 (by decide) (by decide)]) (hu _ (by decide) (by decide)), fun s hs => ?_, fun x hx => by rw [hu 249 (by decide) (by decide)]; exact r6 x hx, r7.keep (hc _ (by decide) (by decide)) (hc _ (by decide) (by decide)) (by rw [hu 217 (by decide) (by decide)]) (hu _ (by decide) (by decide)), ?_, fun j hj => by rw [hu 278 (by decide) (by decide)]; exact r9 j hj⟩
  · obtain ⟨L, A, R⟩ := r5 s hs
    exact ⟨L, A, R.keep (fun a h1 h2 => hc a (by omega) (by omega)) (fun a h => by rw [hu a (by omega) (by omega)]) (fun a q' h _ _ => by rw [hu a (by omega) (by omega)]) (fun q' _ _ => by rw [hu 257 (by decide) (by decide)]) (by rw [hu 217 (by decide) (by decide)])⟩
  · unfold WS
    rw [hc 91 (by decide) (by decide), hc 96 (by decide) (by decide), hc 101 (by decide) (by decide), hc 106 (by decide) (by decide), hc 112 (by decide) (by decide), hc 141 (by decide) (by decide), hu 277 (by decide) (by decide)]
    exact r8
theorem lw_user {u : pj_M} {x1 x2 x3 : Int32} {K : Int32 → Int32 → pj_M → Prop} (R : Rel u) (k : ∀ r u', Rel u' → K r r u') : pw_PG_user u x1 x2 x3 fun r u1 => pw_Mo_user u1 x1 x2 x3 fun r' u2 => K r r' u2 := by
  have R0 := R
  obtain ⟨ms, C, hb, hm, hw⟩ := R
  refine br_c (fun h => br_t h (k _ u R0)) (fun h => ?_)
  obtain ⟨t, ht, rfl⟩ := nI_of h
  refine br_c (fun h8 => br_f h (br_t ((ge_lt (n := 7) ht (by decide)).mp h8) (k _ u R0))) (fun n8 => ?_)
  have n7 : ¬ 7 < nI t := fun z => n8 ((ge_lt (n := 7) ht (by decide)).mpr z)
  have t8 : t < 8 := Nat.lt_of_not_le (fun z => n8 (nI_le (a := 8) z ht))
  refine br_c (fun h1 => br_f h (br_f n7 (br_t h1 (k _ u R0)))) (fun n1 => br_c (fun h3 => ?_) (fun n3 => br_f h (br_f n7 (br_f n1 (br_f n3 (k _ u R0))))))
  unfold pb_PG_user_22
  refine ⟨v8 t8, pu ⟨v8 t8, pu ?_⟩⟩
  rw [nI_clamp ht]
  have oc : ∀ a, a ≠ 2 → a ≠ 3 → (pj_set (pj_set u 2 t x2) 3 t x3) a = u a := fun a h1 h2 => by rw [ps_i h2, ps_i h1]
  have e2 : (pj_set (pj_set u 2 t x2) 3 t x3) 2 = up (u 2) t x2 := by rw [ps_i (by decide), st_up]
  have e3 : (pj_set (pj_set u 2 t x2) 3 t x3) 3 = up (u 3) t x3 := by rw [st_up, ps_i (by decide)]
  generalize pj_set (pj_set u 2 t x2) 3 t x3 = c' at oc e2 e3 ⊢
  refine br_f h (br_f n7 (br_f n1 (br_t h3 ⟨v8 t8, pu ⟨v8 t8, pu ⟨v8 t8, pu ?_⟩⟩⟩)))
  rw [nI_clamp ht, nr1]
  have ou : ∀ a, a ≠ 218 → a ≠ 219 → a ≠ 220 → (pj_set (pj_set (pj_set c' 218 t 1) 219 t x2) 220 t x3) a = c' a := fun a h1 h2 h3 => by rw [ps_i h3, ps_i h2, ps_i h1]
  have f8 : (pj_set (pj_set (pj_set c' 218 t 1) 219 t x2) 220 t x3) 218 = up (u 218) t 1 := by rw [ps_i (by decide), ps_i (by decide), st_up, oc 218 (by decide) (by decide)]
  have f9 : (pj_set (pj_set (pj_set c' 218 t 1) 219 t x2) 220 t x3) 219 = up (u 219) t x2 := by rw [ps_i (by decide), st_up, ps_i (by decide), oc 219 (by decide) (by decide)]
  have f0 : (pj_set (pj_set (pj_set c' 218 t 1) 219 t x2) 220 t x3) 220 = up (u 220) t x3 := by rw [st_up, ps_i (by decide), ps_i (by decide), oc 220 (by decide) (by decide)]
  generalize pj_set (pj_set (pj_set c' 218 t 1) 219 t x2) 220 t x3 = u' at ou f8 f9 f0 ⊢
  refine k 1 u' (Rel.mk (c' := c') (C.users (fun y hy => ?_) (fun a h1 h2 => oc a (by omega) (by omega)) (fun a h1 h2 => (ou a (by omega) (by omega) (by omega)).trans (oc a (by omega) (by omega)))) (hb.keep (fun a h1 h2 _ _ => oc a (by omega) (by omega))) (hm.keep ?_ ?_ ?_ ?_ ?_) hw (fun a h => ou a (by omega) (by omega) (by omega)))
  · rw [e2, e3, f8, f9, f0]
    by_cases c : y = t
    · rw [c, up_s, up_s, up_s, up_s, up_s]
      refine ⟨rfl, rfl, fun z => absurd z (by decide), fun z => ?_⟩
      rw [z] at n1
      exact absurd (by decide) n1
    · rw [up_k c, up_k c, up_k c, up_k c, up_k c]
      exact C.1 y hy
  · rw [ou 217 (by decide) (by decide) (by decide), oc 217 (by decide) (by decide)]
  · rw [ou 221 (by decide) (by decide) (by decide), oc 221 (by decide) (by decide)]
  · rw [ou 222 (by decide) (by decide) (by decide), oc 222 (by decide) (by decide)]
  · rw [ou 223 (by decide) (by decide) (by decide), oc 223 (by decide) (by decide)]
  · rw [ou 224 (by decide) (by decide) (by decide), oc 224 (by decide) (by decide)]
theorem sp_Ho_forget {u : pj_M} {i : Nat} {K : pj_M → Prop} (k : ∀ u', u' i = up (up (up (up (u i) 7 0) 8 0) 11 0) 12 0 → (∀ a, a ≠ i → u' a = u a) → K u') : pw_Ho_forget u i K := by
  unfold pw_Ho_forget pb_Ho_forget_0
  exact pu (pu (pu (pu (k _ (by rw [st_up, st_up, st_up, st_up]) (fun a h => by rw [ps_i h, ps_i h, ps_i h, ps_i h])))))
theorem sp_Mo_fresh {u : pj_M} {h : Nat} {K : pj_M → Prop} (hh : h < 4) (k : ∀ u', u' 231 h = 0 → u' 235 h = 0 → u' 233 h = 0 → u' 234 h = 0 → (∀ a, a ≠ 231 → a ≠ 235 → a ≠ 233 → a ≠ 234 → u' a = u a) → frH h u u' → K u') : pw_Mo_fresh u (nI h) K := by
  unfold pw_Mo_fresh pb_Mo_fresh_0
  refine ⟨v4 hh, pu ⟨v4 hh, pu ⟨v4 hh, pu ⟨v4 hh, pu ?_⟩⟩⟩⟩
  rw [c4 hh, nr0]
  refine k _ ?_ ?_ ?_ ?_ (fun a h1 h2 h3 h4 => by rw [ps_i h4, ps_i h3, ps_i h2, ps_i h1]) ((frH.set (by decide) (by decide) (by decide)).tr ((frH.set (by decide) (by decide) (by decide)).tr ((frH.set (by decide) (by decide) (by decide)).tr (frH.set (by decide) (by decide) (by decide)))))
  · rw [ps_i (by decide), ps_i (by decide), ps_i (by decide), ps_s]
  · rw [ps_i (by decide), ps_i (by decide), ps_s]
  · rw [ps_i (by decide), ps_s]
  · rw [ps_s]
/-- a host that has forgotten -/
theorem rH_fresh {c' u' : pj_M} {h : Nat} (e0 : c' (91 + 5 * h) 0 = nI h) (e4 : c' (91 + 5 * h) 4 = u' 228 h) (e5 : c' (91 + 5 * h) 5 = u' 229 h) (e6 : c' (91 + 5 * h) 6 = u' 230 h) (e9 : c' (91 + 5 * h) 9 = u' 236 h) (e10 : c' (91 + 5 * h) 10 = u' 237 h) (e13 : c' (91 + 5 * h) 13 = u' 238 h) (hu : u' 228 h = -1 ∨ 0 ≤ u' 228 h) (c7 : c' (91 + 5 * h) 7 = 0) (c8 : c' (91 + 5 * h) 8 = 0) (c11 : c' (91 + 5 * h) 11 = 0) (c12 : c' (91 + 5 * h) 12 = 0) (u1 : u' 231 h = 0) (u5 : u' 235 h = 0) (u3 : u' 233 h = 0) (u4 : u' 234 h = 0) : RH c' u' h :=
  ⟨⟨e0, e4, e5, e6, c11.trans u3.symm, c12.trans u4.symm⟩, ⟨c8.trans u5.symm, e9, e10, e13⟩, hu, Or.inl ⟨c7, u1⟩⟩
theorem gem1 {x : Int32} (h : ¬ x < -1) : x = -1 ∨ 0 ≤ x := by
  by_cases e : x < 0
  · left
    have a := Int32.lt_iff_toInt_lt.mp e
    have b : ¬ x.toInt < (-1 : Int32).toInt := fun z => h (Int32.lt_iff_toInt_lt.mpr z)
    have e0 : (0 : Int32).toInt = 0 := by decide
    have e1 : (-1 : Int32).toInt = -1 := by decide
    apply Int32.toInt_inj.mp
    omega
  · exact Or.inr (Int32.not_lt.mp e)
theorem lw_host {u : pj_M} {x1 x2 x3 x4 : Int32} {K : Int32 → Int32 → pj_M → Prop} (R : Rel u) (k : ∀ r u', Rel u' → K r r u') : pw_PG_host u x1 x2 x3 x4 fun r u1 => pw_Mo_host u1 x1 x2 x3 x4 fun r' u2 => K r r' u2 := by
  have R0 := R
  obtain ⟨ms, C, hb, hm, hw⟩ := R
  refine sp_PG_isPort (fun h hh e => br_f (by decide) ?_) (fun hn => br_t rfl ?_)
  rotate_left
  · rcases hn with h | ⟨t, ht, h2, e⟩
    · exact br_t h (k _ u R0)
    · subst e
      exact br_f (nn0 ht) (br_t (nI_lt (a := 3) (by omega) ht) (k _ u R0))
  subst e
  have n3 : ¬ 3 < nI h := nI_nlt (a := 3) (b := h) (by omega) (by decide)
  have h0 : ¬ nI h < 0 := nn0 (by omega)
  refine br_c (fun y => br_f h0 (br_f n3 (br_t y (k _ u R0)))) (fun y1 => br_c (fun y => ?_) (fun y2 => ?_))
  · refine br_f h0 (br_f n3 (br_f y1 (br_t ?_ (k _ u R0))))
    rcases gem1 y1 with z | z
    · rw [z] at y; exact absurd y (by decide)
    · obtain ⟨t, ht, e⟩ := nI_of (Int32.not_lt.mpr z)
      rw [e] at y ⊢
      exact (ge_lt (n := 7) ht (by decide)).mp y
  have n7 : ¬ 7 < x2 := by
    rcases gem1 y1 with z | z
    · rw [z]; decide
    · obtain ⟨t, ht, e⟩ := nI_of (Int32.not_lt.mpr z)
      rw [e] at y2 ⊢
      exact fun w => y2 ((ge_lt (n := 7) ht (by decide)).mpr w)
  refine br_c (fun y => br_f h0 (br_f n3 (br_f y1 (br_f n7 (br_t y (k _ u R0)))))) (fun y3 => br_c (fun y4 => ?_) (fun y4 => br_f h0 (br_f n3 (br_f y1 (br_f n7 (br_f y3 (br_f y4 (k _ u R0))))))))
  unfold pb_PG_host_31
  refine ⟨v4 hh, ?_⟩
  rw [c4 hh]
  obtain ⟨⟨a0, a1, a2, a3, a4, a5⟩, ⟨b1, b2, b3, b4⟩, d, e7⟩ := C.2.1 h hh
  unfold pw_Ho_become pb_Ho_become_0
  refine pu (pu (pu (sp_Ho_forget (fun c' ec oc => ?_))))
  rw [st_up, st_up, st_up] at ec
  have oc' : ∀ a, a ≠ 91 + 5 * h → c' a = u a := fun a ha => by rw [oc a ha, ps_i ha, ps_i ha, ps_i ha]
  refine br_f h0 (br_f n3 (br_f y1 (br_f n7 (br_f y3 (br_t y4 ⟨v4 hh, pu ⟨v4 hh, pu ⟨v4 hh, pu ?_⟩⟩⟩)))))
  rw [c4 hh]
  have o3 : ∀ a, a ≠ 228 → a ≠ 229 → a ≠ 230 → (pj_set (pj_set (pj_set c' 228 h x2) 229 h x3) 230 h x4) a = c' a := fun a h1 h2 h3 => by rw [ps_i h3, ps_i h2, ps_i h1]
  have g8 : (pj_set (pj_set (pj_set c' 228 h x2) 229 h x3) 230 h x4) 228 h = x2 := by rw [ps_i (by decide), ps_i (by decide), ps_s]
  have g9 : (pj_set (pj_set (pj_set c' 228 h x2) 229 h x3) 230 h x4) 229 h = x3 := by rw [ps_i (by decide), ps_s]
  have g0 : (pj_set (pj_set (pj_set c' 228 h x2) 229 h x3) 230 h x4) 230 h = x4 := ps_s
  have f3 : frH h c' (pj_set (pj_set (pj_set c' 228 h x2) 229 h x3) 230 h x4) := (frH.set (by decide) (by decide) (by decide)).tr ((frH.set (by decide) (by decide) (by decide)).tr (frH.set (by decide) (by decide) (by decide)))
  generalize pj_set (pj_set (pj_set c' 228 h x2) 229 h x3) 230 h x4 = u3 at o3 g8 g9 g0 f3 ⊢
  refine sp_Mo_fresh hh (fun u4 w1 w5 w3 w4 o4 f4 => ?_)
  have f := f3.tr f4
  have cv : ∀ q, q ≠ 4 → q ≠ 5 → q ≠ 6 → q ≠ 7 → q ≠ 8 → q ≠ 11 → q ≠ 12 → c' (91 + 5 * h) q = u (91 + 5 * h) q := fun q h1 h2 h3 h4 h5 h6 h7 => by rw [ec, up_k h7, up_k h6, up_k h5, up_k h4, up_k h3, up_k h2, up_k h1]
  have uv : ∀ a, (a = 236 ∨ a = 237 ∨ a = 238 ∨ a = 277) → u4 a = u a := fun a ha => by rw [o4 a (by omega) (by omega) (by omega) (by omega), o3 a (by omega) (by omega) (by omega), oc' a (by omega)]
  have RCc : RC u c' := C.keep (fun _ _ => rfl) (gr.of (fun a ha => oc' a (by omega)))
  refine k 1 u4 (Rel.mk (c' := c') (RCc.host hh (rH_fresh ?_ ?_ ?_ ?_ ?_ ?_ ?_ ?_ (by rw [ec, up_k (by decide), up_k (by decide), up_k (by decide), up_s]) (by rw [ec, up_k (by decide), up_k (by decide), up_s]) (by rw [ec, up_k (by decide), up_s]) (by rw [ec, up_s]) w1 w5 w3 w4) (fun a h1 h2 => oc' a (by omega)) f (Or.inl ⟨cv 14 (by decide) (by decide) (by decide) (by decide) (by decide) (by decide) (by decide), ?_⟩)) (hb.keep (fun a h1 h2 _ _ => oc' a (by omega))) (hm.of (fun a h1 h2 => ?_)) hw (fun a ha => ?_))
  · rw [cv 0 (by decide) (by decide) (by decide) (by decide) (by decide) (by decide) (by decide)]; exact a0
  · rw [ec, up_k (by decide), up_k (by decide), up_k (by decide), up_k (by decide), up_k (by decide), up_k (by decide), up_s, o4 228 (by decide) (by decide) (by decide) (by decide), g8]
  · rw [ec, up_k (by decide), up_k (by decide), up_k (by decide), up_k (by decide), up_k (by decide), up_s, o4 229 (by decide) (by decide) (by decide) (by decide), g9]
  · rw [ec, up_k (by decide), up_k (by decide), up_k (by decide), up_k (by decide), up_s, o4 230 (by decide) (by decide) (by decide) (by decide), g0]
  · rw [cv 9 (by decide) (by decide) (by decide) (by decide) (by decide) (by decide) (by decide), uv 236 (by decide)]; exact b2
  · rw [cv 10 (by decide) (by decide) (by decide) (by decide) (by decide) (by decide) (by decide), uv 237 (by decide)]; exact b3
  · rw [cv 13 (by decide) (by decide) (by decide) (by decide) (by decide) (by decide) (by decide), uv 238 (by decide)]; exact b4
  · rw [o4 228 (by decide) (by decide) (by decide) (by decide), g8]; exact gem1 y1
  · rw [uv 277 (by decide), oc' 277 (by omega)]
  · rw [o4 a (by omega) (by omega) (by omega) (by omega), o3 a (by omega) (by omega) (by omega), oc' a (by omega)]
  · rw [o4 a (by omega) (by omega) (by omega) (by omega), o3 a (by omega) (by omega) (by omega)]
theorem lw_start {u : pj_M} {x1 x2 : Int32} {K : Int32 → Int32 → pj_M → Prop} (R : Rel u) (k : ∀ r u', Rel u' → K r r u') : pw_PG_start u x1 x2 fun r u1 => pw_Mo_start u1 x1 x2 fun r' u2 => K r r' u2 := by
  have R0 := R
  obtain ⟨ms, C, hb, hm, hw⟩ := R
  refine sp_PG_isPort (fun h hh e => br_f (by decide) ?_) (fun hn => br_t rfl ?_)
  rotate_left
  · rcases hn with h | ⟨t, ht, h2, e⟩
    · exact br_t h (k _ u R0)
    · subst e
      exact br_f (nn0 ht) (br_t (nI_lt (a := 3) (by omega) ht) (k _ u R0))
  subst e
  have n3 : ¬ 3 < nI h := nI_nlt (a := 3) (b := h) (by omega) (by decide)
  have h0 : ¬ nI h < 0 := nn0 (by omega)
  obtain ⟨⟨a0, a1, a2, a3, a4, a5⟩, ⟨b1, b2, b3, b4⟩, d, e7⟩ := C.2.1 h hh
  refine ⟨v4 hh, ?_⟩
  rw [c4 hh]
  refine br_c (fun y => br_f h0 (br_f n3 ⟨v4 hh, ?_⟩)) (fun y => ⟨v4 hh, ?_⟩)
  · rw [c4 hh, ← a1, y]
    exact br_f (by decide) (k _ u R0)
  have pos : 0 ≤ u 228 h := d.resolve_left (fun z => y (a1.trans z))
  rw [c4 hh]
  have main : ∀ s0 : Int32, ((x2 = 0 ∧ s0 = 2) ∨ (¬ x2 = 0 ∧ s0 = 1)) → s0 &&& 255 = s0 → pw_Ho_call u (91 + 5 * h) s0 fun u1 => pw_Mo_start u1 (nI h) x2 fun r' u2 => K 1 r' u2 := by
    intro s0 hs0 hb0
    unfold pw_Ho_call pb_Ho_call_0
    refine sp_Ho_forget (fun c1 ec oc => ?_)
    have e0 : c1 (91 + 5 * h) 0 = nI h := by rw [ec, up_k (by decide), up_k (by decide), up_k (by decide), up_k (by decide)]; exact a0
    rw [e0]
    refine sp_Ma_sendByte (hb.keep (fun a h1 h2 _ _ => oc a (by omega))) (fun c' m' g' => ?_)
    have oc' : ∀ a, (a < 4 ∨ 90 ≤ a) → a ≠ 91 + 5 * h → c' a = u a := fun a h1 h2 => (g' a h1).trans (oc a h2)
    have ec' : c' (91 + 5 * h) = up (up (up (up (u (91 + 5 * h)) 7 0) 8 0) 11 0) 12 0 := (g' _ (by omega)).trans ec
    have e28 : c' 228 h = u 228 h := by rw [oc' 228 (by omega) (by omega)]
    refine br_f h0 (br_f n3 ⟨v4 hh, ?_⟩)
    rw [c4 hh, e28]
    refine br_t pos (sp_Mo_fresh hh (fun u1 w1 w5 w3 w4 o1 f1 => pu ?_))
    have m1 : mm u1 ms := hm.of (fun a h1 h2 => (o1 a (by omega) (by omega) (by omega) (by omega)).trans (oc' a (by omega) (by omega)))
    have g2 : fR u1 (pj_set u1 217 11 0) := fR.n
    have r2 : mR (pj_set u1 217 11 0) [] := mR0
    generalize pj_set u1 217 11 0 = u2 at g2 r2 ⊢
    have fin : pb_Mo_start_40 (fun r' u2 => K 1 r' u2) u2 (nI h) s0 := by
      refine sp_Mo_toRow r2 (by decide) (fun u3 r3 g3 => ?_)
      have gg := g2.tr g3
      refine sp_Mo_send (m1.gs gg.gs) r3 (fun u4 m4 g4 => ?_)
      have gA : gm u1 u4 := gg.gs.gm.tr g4.gm
      have cv : ∀ q, q ≠ 7 → q ≠ 8 → q ≠ 11 → q ≠ 12 → c' (91 + 5 * h) q = u (91 + 5 * h) q := fun q h4 h5 h6 h7 => by rw [ec', up_k h7, up_k h6, up_k h5, up_k h4]
      have uv : ∀ a, 228 ≤ a → a ≠ 231 → a ≠ 233 → a ≠ 234 → a ≠ 235 → u4 a = u a := fun a ha h1 h2 h3 h4 => by rw [gA.cells a ha, o1 a h1 h4 h2 h3, oc' a (by omega) (by omega)]
      have RCc : RC u c' := C.keep (fun _ _ => rfl) (gr.of (fun a ha => oc' a (by omega) (by omega)))
      have f : frH h c' u4 := f1.tr gA.frH
      refine k 1 u4 (Rel.mk (c' := c') (RCc.host hh (rH_fresh ?_ ?_ ?_ ?_ ?_ ?_ ?_ ?_ (by rw [ec', up_k (by decide), up_k (by decide), up_k (by decide), up_s]) (by rw [ec', up_k (by decide), up_k (by decide), up_s]) (by rw [ec', up_k (by decide), up_s]) (by rw [ec', up_s]) ?_ ?_ ?_ ?_) (fun a h1 h2 => oc' a (by omega) (by omega)) f (Or.inl ⟨cv 14 (by decide) (by decide) (by decide) (by decide), ?_⟩)) m' m4 (hw.add (ok01 (Or.inl rfl) hh rfl (bl_cons (and255 _) bl_nil))) (fun a ha => ?_))
      · rw [cv 0 (by decide) (by decide) (by decide) (by decide)]; exact a0
      · rw [cv 4 (by decide) (by decide) (by decide) (by decide), uv 228 (by decide) (by decide) (by decide) (by decide) (by decide)]; exact a1
      · rw [cv 5 (by decide) (by decide) (by decide) (by decide), uv 229 (by decide) (by decide) (by decide) (by decide) (by decide)]; exact a2
      · rw [cv 6 (by decide) (by decide) (by decide) (by decide), uv 230 (by decide) (by decide) (by decide) (by decide) (by decide)]; exact a3
      · rw [cv 9 (by decide) (by decide) (by decide) (by decide), uv 236 (by decide) (by decide) (by decide) (by decide) (by decide)]; exact b2
      · rw [cv 10 (by decide) (by decide) (by decide) (by decide), uv 237 (by decide) (by decide) (by decide) (by decide) (by decide)]; exact b3
      · rw [cv 13 (by decide) (by decide) (by decide) (by decide), uv 238 (by decide) (by decide) (by decide) (by decide) (by decide)]; exact b4
      · rw [uv 228 (by decide) (by decide) (by decide) (by decide) (by decide)]; exact d
      · rw [gA.cells 231 (by decide)]; exact w1
      · rw [gA.cells 235 (by decide)]; exact w5
      · rw [gA.cells 233 (by decide)]; exact w3
      · rw [gA.cells 234 (by decide)]; exact w4
      · rw [uv 277 (by decide) (by decide) (by decide) (by decide) (by decide), oc' 277 (by omega) (by omega)]
      · rw [gA.1 a (by omega) (by omega) (by omega) (by omega), o1 a (by omega) (by omega) (by omega) (by omega)]
    rcases hs0 with ⟨z1, z2⟩ | ⟨z1, z2⟩
    · subst z2
      exact br_t z1 fin
    · subst z2
      exact br_f z1 fin
  exact br_c (fun z => main 2 (Or.inl ⟨z, rfl⟩) (by decide)) (fun z => main 1 (Or.inr ⟨z, rfl⟩) (by decide))
