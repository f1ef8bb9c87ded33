/-! The pure part: the first state: the class -/
def hoZ (u' : pj_M) (h : Nat) : Prop := u' (91 + 5 * h) = hF (nI h) ∧ u' (91 + 5 * h + 1) = rZ ∧ u' (91 + 5 * h + 3) = rZ
theorem hoZ.keep {u u' : pj_M} {h : Nat} (z : hoZ u h) (hk : ∀ a, 91 + 5 * h ≤ a → a ≤ 91 + 5 * h + 4 → u' a = u a) : hoZ u' h := ⟨(hk _ (by omega) (by omega)).trans z.1, (hk _ (by omega) (by omega)).trans z.2.1, (hk _ (by omega) (by omega)).trans z.2.2⟩
theorem svZ.keep {u u' : pj_M} {s : Nat} {x1 x2 : Int32} (z : svZ u s x1 x2) (hk : ∀ a, 112 + 29 * s ≤ a → a ≤ 112 + 29 * s + 28 → u' a = u a) : svZ u' s x1 x2 := by
  obtain ⟨a1, a2, a3, a4, a5, a6, a7, a8, a9, a10, a11⟩ := z
  refine ⟨(hk _ (by omega) (by omega)).trans a1, fun q hq => ?_, fun q hq => ?_, (hk _ (by omega) (by omega)).trans a4, (hk _ (by omega) (by omega)).trans a5, (hk _ (by omega) (by omega)).trans a6, (hk _ (by omega) (by omega)).trans a7, (hk _ (by omega) (by omega)).trans a8, (hk _ (by omega) (by omega)).trans a9, (hk _ (by omega) (by omega)).trans a10, fun q hq => (hk _ (by omega) (by omega)).trans (a11 q hq)⟩
  · rw [hk _ (by omega) (by omega)]; exact a2 q hq
  · rw [hk _ (by omega) (by omega)]; exact a3 q hq
theorem lp_PG_hosts {K : pj_M → Prop} {x : Int32} {u0 : pj_M} (h1 : u0 0 1 = 1) (h2 : u0 0 2 = 1) (hz : ∀ a, 91 ≤ a → u0 a = zz) (kk : ∀ u', (∀ h, h < 4 → hoZ u' h) → (∀ q, q < 4 → u' 90 q = 1) → (∀ a, a ≠ 90 → (a < 91 ∨ 111 ≤ a) → u' a = u0 a) → pb_PG_init_65 217 K 111 u' x) : ∀ (d t : Nat) (u : pj_M), t + d = 4 → (∀ h, h < t → hoZ u h) → (∀ q, q < t → u 90 q = 1) → (∀ a, a ≠ 90 → (a < 91 ∨ 91 + 5 * t ≤ a) → u a = u0 a) → pb_PG_init_36 217 K x (d + 1) (91 + 5 * t) u (nI t) := by
  intro d
  induction d with
  | zero =>
    intro t u ht g1 g3 g4
    have e : t = 4 := by omega
    subst e
    exact br_t (by decide) (kk u g1 g3 (fun a h h' => g4 a h (by omega)))
  | succ d ih =>
    intro t u ht g1 g3 g4
    have t4 : t < 4 := by omega
    obtain ⟨T0, T1, T2, T3, T4⟩ := hT t t4
    have z : ∀ a, 91 + 5 * t ≤ a → a ≤ 91 + 5 * t + 4 → u a = zz := fun a ha hb => (g4 a (by omega) (by omega)).trans (hz a (by omega))
    have e0 : u 0 = u0 0 := g4 0 (by decide) (by omega)
    refine br_f (fun q => nI_ge (a := t) (b := 4) (by omega) (by decide) q) ⟨by omega, by rw [e0]; exact h2, by omega, T0, z _ (by omega) (by omega), by omega, by rw [e0]; exact h1, by omega, sn_Ho T1 T2 T3 T4 z (fun u2 f0 f1 f3 o2 => ⟨by omega, by omega, ?_, v4 t4, pu ?_⟩)⟩
    · show 91 + 5 * t = 91 + 5 * (nI t).toNatClampNeg
      rw [c4 t4]
    rw [c4 t4, nI_1, show 91 + 5 * t + 1 + 4 = 91 + 5 * (t + 1) by omega]
    have o3 : ∀ a, a ≠ 90 → a ≠ 91 + 5 * t → a ≠ 91 + 5 * t + 1 → a ≠ 91 + 5 * t + 3 → (pj_set u2 90 t 1) a = u a := fun a h1 h2 h3 h4 => (ps_i h1).trans (o2 a h2 h3 h4)
    refine ih (t + 1) _ (by omega) (fun p hp => ?_) (fun q hq => ?_) (fun a ha hb => ?_)
    · by_cases c : p = t
      · rw [c]
        exact ⟨(ps_i (by omega)).trans f0, (ps_i (by omega)).trans f1, (ps_i (by omega)).trans f3⟩
      · exact (g1 p (by omega)).keep (fun a ha hb => o3 a (by omega) (by omega) (by omega) (by omega))
    · by_cases c : q = t
      · rw [c, ps_s]
      · rw [ps_k c, o2 90 (by omega) (by omega) (by omega)]; exact g3 q (by omega)
    · rw [o3 a ha (by omega) (by omega) (by omega)]; exact g4 a ha (by omega)
theorem lp_PG_servers {K : pj_M → Prop} {x : Int32} {u0 : pj_M} (h0 : u0 0 0 = 1) (h1 : u0 0 1 = 1) (h3 : u0 0 3 = 1) (hz : ∀ a, 112 ≤ a → u0 a = zz) (kk : ∀ u', (∀ s, s < 2 → svZ u' s (nI s) x) → (∀ q, q < 2 → u' 111 q = 1) → (∀ a, a ≠ 111 → (a < 112 ∨ 170 ≤ a) → u' a = u0 a) → pb_PG_init_109 217 K 170 u' x) : ∀ (d t : Nat) (u : pj_M), t + d = 2 → (∀ s, s < t → svZ u s (nI s) x) → (∀ q, q < t → u 111 q = 1) → (∀ a, a ≠ 111 → (a < 112 ∨ 112 + 29 * t ≤ a) → u a = u0 a) → pb_PG_init_75 217 K x (d + 1) (112 + 29 * t) u (nI t) := by
  intro d
  induction d with
  | zero =>
    intro t u ht g1 g3 g4
    have e : t = 2 := by omega
    subst e
    exact br_t (by decide) (kk u g1 g3 (fun a h h' => g4 a h (by omega)))
  | succ d ih =>
    intro t u ht g1 g3 g4
    have t2 : t < 2 := by omega
    obtain ⟨T0, _⟩ := svT t t2
    have z : ∀ a, 112 + 29 * t ≤ a → a ≤ 112 + 29 * t + 28 → u a = zz := fun a ha hb => (g4 a (by omega) (by omega)).trans (hz a (by omega))
    have e0 : u 0 = u0 0 := g4 0 (by decide) (by omega)
    refine br_f (fun q => nI_ge (a := t) (b := 2) (by omega) (by decide) q) ⟨by omega, by rw [e0]; exact h3, by omega, T0, z _ (by omega) (by omega), by omega, by rw [e0]; exact h0, by omega, by rw [e0]; exact h1, by omega, sn_Sv t2 z (fun u2 f0 o2 => ⟨by omega, by omega, ?_, v2 t2, pu ?_⟩)⟩
    · show 112 + 29 * t = 112 + 29 * (nI t).toNatClampNeg
      rw [c2 t2]
    rw [c2 t2, nI_1, show 112 + 29 * t + 1 + 28 = 112 + 29 * (t + 1) by omega]
    refine ih (t + 1) _ (by omega) (fun p hp => ?_) (fun q hq => ?_) (fun a ha hb => ?_)
    · by_cases c : p = t
      · rw [c]
        exact f0.keep (fun a h1 h2 => ps_i (by omega))
      · exact (g1 p (by omega)).keep (fun a ha hb => (ps_i (by omega)).trans (o2 a (by omega)))
    · by_cases c : q = t
      · rw [c, ps_s]
      · rw [ps_k c, o2 111 (by omega)]; exact g3 q (by omega)
    · rw [ps_i ha, o2 a (by omega)]; exact g4 a ha (by omega)
def pgF : Nat → Int32 := up (up (up (up (up (up (up zz 0 1) 1 1) 2 1) 3 1) 4 1) 5 1) 6 1
/-- a new object of the class -/
def pgZ (u : pj_M) (x : Int32) : Prop := u 0 = pgF ∧ u 1 = dF ∧ u 2 = zz ∧ u 3 = zz ∧ u 4 = maF ∧ (∀ k, k < 40 → u 7 k = nI (10 + 2 * k)) ∧ u 8 = rZ ∧ (∀ k, k < 40 → u (10 + 2 * k) = rZ) ∧ (∀ q, q < 4 → u 90 q = 1) ∧ (∀ h, h < 4 → hoZ u h) ∧ (∀ q, q < 2 → u 111 q = 1) ∧ (∀ s, s < 2 → svZ u s (nI s) x) ∧ swZ u x ∧ u 213 = rZ ∧ u 215 = rZ ∧ ∀ a, 217 ≤ a → u a = zz
theorem sn_PG {x : Int32} {K : pj_M → Prop} (k : ∀ u, pgZ u x → K u) : pw_PG_init 1 217 (fun _ _ => 0) x K := by
  unfold pw_PG_init pb_PG_init_0
  refine ⟨by omega, by decide, rfl, by omega, rfl, sn_Us (fun _ _ _ => rfl) (fun u2 e2 o2 => ⟨by omega, rfl, pu ?_⟩)⟩
  have o3 : ∀ a, a ≠ 0 → a ≠ 1 → (pj_set u2 0 0 1) a = zz := fun a h1 h2 => (ps_i h1).trans (o2 a h2)
  have e3 : (pj_set u2 0 0 1) 0 = up zz 0 1 := by rw [st_up, o2 0 (by decide)]
  have d3 : (pj_set u2 0 0 1) 1 = dF := (ps_i (by decide)).trans e2
  generalize pj_set u2 0 0 1 = u3 at o3 e3 d3 ⊢
  refine ⟨by omega, by decide, o3 _ (by decide) (by decide), by omega, rfl, sn_Ma (fun a h1 h2 => o3 a (by omega) (by omega)) (fun u5 m4 m7 m8 m10 o5 => ⟨by omega, rfl, pu ⟨by omega, by decide, ?_, by omega, rfl, pu ⟨5, ?_⟩⟩⟩)⟩
  · rw [ps_i (by decide), o5 _ (by decide) (by decide) (by decide) (by decide)]; exact o3 _ (by decide) (by decide)
  have e8 : (pj_set (pj_set u5 0 1 1) 0 2 1) 0 = up (up (up zz 0 1) 1 1) 2 1 := by rw [st_up, st_up, o5 0 (by decide) (by decide) (by decide) (by decide), e3]
  have o8 : ∀ a, a ≠ 0 → (pj_set (pj_set u5 0 1 1) 0 2 1) a = u5 a := fun a h => by rw [ps_i h, ps_i h]
  generalize pj_set (pj_set u5 0 1 1) 0 2 1 = u8 at e8 o8 ⊢
  have z8 : ∀ a, 90 ≤ a → u8 a = zz := fun a h => by rw [o8 a (by omega), o5 a (by omega) (by omega) (by omega) (by omega)]; exact o3 a (by omega) (by omega)
  refine lp_PG_hosts (u0 := u8) (by rw [e8]; rfl) (by rw [e8]; rfl) (fun a h => z8 a (by omega)) (fun u9 gH g90 o9 => ?_) 4 0 u8 (by decide) (fun h hh => absurd hh (Nat.not_lt_zero h)) (fun q hq => absurd hq (Nat.not_lt_zero q)) (fun _ _ _ => rfl)
  refine ⟨by omega, by decide, (o9 _ (by decide) (by decide)).trans (z8 _ (by decide)), by omega, rfl, pu ⟨3, ?_⟩⟩
  have e10 : (pj_set u9 0 3 1) 0 = up (up (up (up zz 0 1) 1 1) 2 1) 3 1 := by rw [st_up, o9 0 (by decide) (by decide), e8]
  have o10 : ∀ a, a ≠ 0 → (pj_set u9 0 3 1) a = u9 a := fun a h => ps_i h
  generalize pj_set u9 0 3 1 = u10 at e10 o10 ⊢
  refine lp_PG_servers (u0 := u10) (by rw [e10]; rfl) (by rw [e10]; rfl) (by rw [e10]; rfl) (fun a h => by rw [o10 a (by omega), o9 a (by omega) (by omega)]; exact z8 a (by omega)) (fun u11 gS g111 o11 => ?_) 2 0 u10 (by decide) (fun h hh => absurd hh (Nat.not_lt_zero h)) (fun q hq => absurd hq (Nat.not_lt_zero q)) (fun _ _ _ => rfl)
  have e11 : u11 0 = up (up (up (up zz 0 1) 1 1) 2 1) 3 1 := (o11 0 (by decide) (by decide)).trans e10
  have z11 : ∀ a, 170 ≤ a → u11 a = zz := fun a h => by rw [o11 a (by omega) (by omega), o10 a (by omega), o9 a (by omega) (by omega)]; exact z8 a (by omega)
  refine ⟨by omega, by decide, z11 _ (by decide), by omega, by rw [e11]; rfl, by omega, rfl, sn_Sw (fun a h1 h2 => z11 a (by omega)) (fun u12 gW o12 => ⟨by omega, rfl, pu ⟨by omega, by decide, ?_, by omega, sn_Ro (i := 170 + 1 + 42) (by decide) ?_ (fun u13 e13 o13 => ⟨by omega, rfl, pu ⟨by omega, by decide, ?_, by omega, sn_Ro (i := 170 + 1 + 42 + 1 + 1) (by decide) ?_ (fun u14 e14 o14 => ⟨by omega, rfl, pu ⟨rfl, ?_⟩⟩)⟩⟩)⟩⟩)⟩
  · rw [ps_i (by decide), o12 _ (by decide)]; exact z11 _ (by decide)
  · rw [ps_i (by decide), o12 _ (by decide)]; exact z11 _ (by decide)
  · rw [ps_i (by decide), o13 _ (by decide), ps_i (by decide), o12 _ (by decide)]; exact z11 _ (by decide)
  · rw [ps_i (by decide), o13 _ (by decide), ps_i (by decide), o12 _ (by decide)]; exact z11 _ (by decide)
  have oF : ∀ a, a ≠ 0 → a ≠ 213 → a ≠ 215 → (pj_set u14 0 6 1) a = u12 a := fun a h1 h2 h3 => by rw [ps_i h1, o14 a (by omega), ps_i h1, o13 a (by omega), ps_i h1]
  have e0 : (pj_set u14 0 6 1) 0 = pgF := by rw [st_up, o14 0 (by decide), st_up, o13 0 (by decide), st_up, o12 0 (by decide), e11]; rfl
  have e213 : (pj_set u14 0 6 1) 213 = rZ := by
    have : u13 213 = up ((pj_set u12 0 4 1) 213) 0 1 := e13
    rw [ps_i (by decide), o14 _ (by decide), ps_i (by decide), this, ps_i (by decide), o12 _ (by decide), z11 _ (by decide)]; rfl
  have e215 : (pj_set u14 0 6 1) 215 = rZ := by
    have : u14 215 = up ((pj_set u13 0 5 1) 215) 0 1 := e14
    rw [ps_i (by decide), this, ps_i (by decide), o13 _ (by decide), ps_i (by decide), o12 _ (by decide), z11 _ (by decide)]; rfl
  generalize pj_set u14 0 6 1 = uF at oF e0 e213 e215 ⊢
  have q11 : ∀ a, a ≠ 0 → a < 170 → uF a = u11 a := fun a h1 h2 => (oF a h1 (by omega) (by omega)).trans (o12 a (Or.inl h2))
  have q9 : ∀ a, a ≠ 0 → a < 111 → uF a = u9 a := fun a h1 h2 => (q11 a h1 (by omega)).trans ((o11 a (by omega) (Or.inl (by omega))).trans (o10 a h1))
  have q5 : ∀ a, a ≠ 0 → a < 90 → uF a = u5 a := fun a h1 h2 => (q9 a h1 (by omega)).trans ((o9 a (by omega) (Or.inl (by omega))).trans (o8 a h1))
  have q3 : ∀ a, (a = 1 ∨ a = 2 ∨ a = 3) → uF a = u3 a := fun a h => (q5 a (by omega) (by omega)).trans (o5 a (by omega) (by omega) (by omega) (by omega))
  refine k uF ⟨e0, by rw [q3 1 (by decide), d3], by rw [q3 2 (by decide)]; exact o3 2 (by decide) (by decide), by rw [q3 3 (by decide)]; exact o3 3 (by decide) (by decide), by rw [q5 4 (by decide) (by decide), m4], fun j hj => by rw [q5 7 (by decide) (by decide)]; exact m7 j hj, by rw [q5 8 (by decide) (by decide), m8], fun j hj => by rw [q5 _ (by omega) (by omega)]; exact m10 j hj, fun q hq => by rw [q9 90 (by decide) (by decide)]; exact g90 q hq, fun h hh => (gH h hh).keep (fun a h1 h2 => q9 a (by omega) (by omega)), fun q hq => by rw [q11 111 (by decide) (by decide)]; exact g111 q hq, fun s hs => (gS s hs).keep (fun a h1 h2 => q11 a (by omega) (by omega)), ?_, e213, e215, fun a h => by rw [oF a (by omega) (by omega) (by omega), o12 a (by omega)]; exact z11 a (by omega)⟩
  obtain ⟨w1, w2, w3, w4, w5, w6, w7, w8, w9, w10, w11⟩ := gW
  have qw : ∀ a, 170 ≤ a → a < 213 → uF a = u12 a := fun a h1 h2 => oF a (by omega) (by omega) (by omega)
  exact ⟨(qw _ (by decide) (by decide)).trans w1, fun q hq => by rw [qw 171 (by decide) (by decide)]; exact w2 q hq, fun q hq => by rw [qw 172 (by decide) (by decide)]; exact w3 q hq, (qw _ (by decide) (by decide)).trans w4, (qw _ (by decide) (by decide)).trans w5, (qw _ (by decide) (by decide)).trans w6, (qw _ (by decide) (by decide)).trans w7, (qw _ (by decide) (by decide)).trans w8, (qw _ (by decide) (by decide)).trans w9, (qw _ (by decide) (by decide)).trans w10, fun p hp => (w11 p hp).keep (fun a h1 h2 => qw a (by omega) (by omega))⟩
