/-! The pure part: the first state: servers, switch, the class -/
theorem svT : ∀ s, s < 2 → (pj_T (112 + 29 * s) = 8 ∧ pj_T (112 + 29 * s + 1) = 27 ∧ pj_T (112 + 29 * s + 2) = 23 ∧ pj_T (112 + 29 * s + 3) = 23 ∧ pj_T (112 + 29 * s + 4) = 28 ∧ pj_T (112 + 29 * s + 5) = 5 ∧ pj_T (112 + 29 * s + 6) = 3 ∧ pj_T (112 + 29 * s + 7) = 22 ∧ pj_T (112 + 29 * s + 8) = 4 ∧ pj_T (112 + 29 * s + 9) = 22 ∧ pj_T (112 + 29 * s + 10) = 5 ∧ pj_T (112 + 29 * s + 11) = 3 ∧ pj_T (112 + 29 * s + 12) = 22 ∧ pj_T (112 + 29 * s + 13) = 4 ∧ pj_T (112 + 29 * s + 14) = 22 ∧ pj_T (112 + 29 * s + 15) = 4 ∧ pj_T (112 + 29 * s + 16) = 22) := by decide +kernel
theorem svT2 : ∀ s, s < 2 → ∀ k, k < 4 → (pj_T (112 + 29 * s + 17 + k) = 7 ∧ pj_T (112 + 29 * s + 21 + 2 * k) = 3 ∧ pj_T (112 + 29 * s + 21 + 2 * k + 1) = 22) := by decide +kernel
theorem lp_Sv_rows {K : pj_M → Prop} {u0 : pj_M} {s : Nat} (hs : s < 2) (h7 : u0 (112 + 29 * s) 7 = 1) (hz : ∀ a, 112 + 29 * s + 21 ≤ a → a ≤ 112 + 29 * s + 28 → u0 a = zz) (kk : ∀ u', (∀ q, q < 4 → u' (112 + 29 * s + 4) q = 1) → (∀ q, q < 4 → u' (112 + 29 * s + 21 + 2 * q) = rZ) → (∀ a, a ≠ 112 + 29 * s + 4 → (a < 112 + 29 * s + 21 ∨ 112 + 29 * s + 28 < a) → u' a = u0 a) → K u') : ∀ (d t : Nat) (u : pj_M), t + d = 4 → (∀ q, q < t → u (112 + 29 * s + 4) q = 1) → (∀ q, q < t → u (112 + 29 * s + 21 + 2 * q) = rZ) → (∀ a, a ≠ 112 + 29 * s + 4 → (a < 112 + 29 * s + 21 ∨ 112 + 29 * s + 21 + 2 * t ≤ a) → u a = u0 a) → pb_Sv_init_125 (112 + 29 * s + 29) K (112 + 29 * s) (d + 1) (112 + 29 * s + 21 + 2 * t) u (nI t) := by
  intro d
  induction d with
  | zero =>
    intro t u ht h1 h2 h3
    have e : t = 4 := by omega
    subst e
    exact br_t (by decide) ⟨by omega, kk u h1 h2 (fun a h h' => h3 a h (by omega))⟩
  | succ d ih =>
    intro t u ht h1 h2 h3
    have t4 : t < 4 := by omega
    obtain ⟨_, T1, T2⟩ := svT2 s hs t t4
    have z0 : u (112 + 29 * s + 21 + 2 * t) = zz := by rw [h3 _ (by omega) (by omega)]; exact hz _ (by omega) (by omega)
    have z1 : u (112 + 29 * s + 21 + 2 * t + 1) = zz := by rw [h3 _ (by omega) (by omega)]; exact hz _ (by omega) (by omega)
    refine br_f (fun q => nI_ge (a := t) (b := 4) (by omega) (by decide) q) ⟨by omega, by rw [h3 _ (by omega) (by omega)]; exact h7, by omega, T1, z0, by omega, sn_Ro T2 z1 (fun u2 e2 o2 => ⟨by omega, by omega, ?_, v4 t4, pu ?_⟩)⟩
    · show 112 + 29 * s + 21 + 2 * t = 112 + 29 * s + 4 + 17 + 2 * (nI t).toNatClampNeg
      rw [c4 t4]
    rw [c4 t4, nI_1, show 112 + 29 * s + 21 + 2 * t + 1 + 1 = 112 + 29 * s + 21 + 2 * (t + 1) by omega]
    refine ih (t + 1) _ (by omega) (fun q hq => ?_) (fun q hq => ?_) (fun a ha hb => ?_)
    · by_cases c : q = t
      · rw [c, ps_s]
      · rw [ps_k c, o2 _ (by omega)]; exact h1 q (by omega)
    · rw [ps_i (by omega)]
      by_cases c : q = t
      · rw [c, e2, z0]; rfl
      · rw [o2 _ (by omega)]; exact h2 q (by omega)
    · rw [ps_i ha, o2 a (by omega)]; exact h3 a ha (by omega)
theorem lp_Sv_sess {K : pj_M → Prop} {u0 : pj_M} {s : Nat} (hs : s < 2) (h4 : u0 (112 + 29 * s) 4 = 1) (hz : ∀ a, 112 + 29 * s + 17 ≤ a → a ≤ 112 + 29 * s + 20 → u0 a = zz) (kk : ∀ u', (∀ q, q < 4 → u' (112 + 29 * s + 1) q = nI (112 + 29 * s + 17 + q)) → (∀ a, a ≠ 112 + 29 * s + 1 → u' a = u0 a) → pb_Sv_init_122 (112 + 29 * s + 29) K (112 + 29 * s + 21) u' (112 + 29 * s)) : ∀ (d t : Nat) (u : pj_M), t + d = 4 → (∀ q, q < t → u (112 + 29 * s + 1) q = nI (112 + 29 * s + 17 + q)) → (∀ a, a ≠ 112 + 29 * s + 1 → u a = u0 a) → pb_Sv_init_96 (112 + 29 * s + 29) K (112 + 29 * s) (d + 1) (112 + 29 * s + 17 + t) u (nI t) := by
  intro d
  induction d with
  | zero =>
    intro t u ht h1 h3
    have e : t = 4 := by omega
    subst e
    exact br_t (by decide) (kk u h1 h3)
  | succ d ih =>
    intro t u ht h1 h3
    have t4 : t < 4 := by omega
    obtain ⟨T1, _⟩ := svT2 s hs t t4
    refine br_f (fun q => nI_ge (a := t) (b := 4) (by omega) (by decide) q) ⟨by omega, by rw [h3 _ (by omega)]; exact h4, by omega, T1, (h3 _ (by omega)).trans (hz _ (by omega) (by omega)), by omega, rfl, by omega, by omega, by omega, v4 t4, pu ?_⟩
    rw [c4 t4, nI_1]
    refine ih (t + 1) _ (by omega) (fun q hq => ?_) (fun a ha => (ps_i ha).trans (h3 a ha))
    by_cases c : q = t
    · rw [c, ps_s]
    · rw [ps_k c]; exact h1 q (by omega)
def svF (x1 x2 : Int32) : Nat → Int32 := up (up (up (up (up (up (up (up (up (up (up (up zz 4 1) 5 1) 6 1) 7 1) 8 1) 9 1) 10 1) 13 1) 0 x1) 1 x2) 2 1) 3 1
/-- a new server -/
def svZ (u' : pj_M) (s : Nat) (x1 x2 : Int32) : Prop := u' (112 + 29 * s) = svF x1 x2 ∧ (∀ q, q < 4 → u' (112 + 29 * s + 1) q = nI (112 + 29 * s + 17 + q)) ∧ (∀ q, q < 4 → u' (112 + 29 * s + 4) q = 1) ∧ u' (112 + 29 * s + 5) = dF ∧ u' (112 + 29 * s + 6) = rZ ∧ u' (112 + 29 * s + 8) = rZ ∧ u' (112 + 29 * s + 10) = dF ∧ u' (112 + 29 * s + 11) = rZ ∧ u' (112 + 29 * s + 13) = rZ ∧ u' (112 + 29 * s + 15) = rZ ∧ (∀ q, q < 4 → u' (112 + 29 * s + 21 + 2 * q) = rZ)
theorem sn_Sv {u : pj_M} {s : Nat} {x1 x2 : Int32} {K : pj_M → Prop} (hs : s < 2) (hz : ∀ a, 112 + 29 * s ≤ a → a ≤ 112 + 29 * s + 28 → u a = zz) (k : ∀ u', svZ u' s x1 x2 → (∀ a, (a < 112 + 29 * s ∨ 112 + 29 * s + 28 < a) → u' a = u a) → K u') : pw_Sv_init (112 + 29 * s + 1) (112 + 29 * s + 1 + 28) u (112 + 29 * s) x1 x2 K := by
  obtain ⟨T0, T1, T2, T3, T4, T5, T6, T7, T8, T9, T10, T11, T12, T13, T14, T15, T16⟩ := svT s hs
  generalize hi : 112 + 29 * s = i at *
  unfold pw_Sv_init pb_Sv_init_0
  refine ⟨by omega, T1, hz _ (by omega) (by omega), by omega, rfl, pu ⟨by omega, T2, ?_, by omega, rfl, pu ⟨by omega, T3, ?_, by omega, rfl, pu ⟨by omega, T4, ?_, by omega, rfl, pu ?_⟩⟩⟩⟩
  · rw [ps_i (by omega)]; exact hz _ (by omega) (by omega)
  · rw [ps_i (by omega), ps_i (by omega)]; exact hz _ (by omega) (by omega)
  · rw [ps_i (by omega), ps_i (by omega), ps_i (by omega)]; exact hz _ (by omega) (by omega)
  have o8 : ∀ a, a ≠ i → (pj_set (pj_set (pj_set (pj_set u i 4 1) i 5 1) i 6 1) i 7 1) a = u a := fun a h => by rw [ps_i h, ps_i h, ps_i h, ps_i h]
  have e8 : (pj_set (pj_set (pj_set (pj_set u i 4 1) i 5 1) i 6 1) i 7 1) i = up (up (up (up zz 4 1) 5 1) 6 1) 7 1 := by rw [st_up, st_up, st_up, st_up, hz i (by omega) (by omega)]
  generalize pj_set (pj_set (pj_set (pj_set u i 4 1) i 5 1) i 6 1) i 7 1 = u8 at o8 e8 ⊢
  have z8 : ∀ a, i < a → a ≤ i + 28 → u8 a = zz := fun a h1 h2 => (o8 a (by omega)).trans (hz a (by omega) h2)
  refine ⟨by omega, T5, z8 _ (by omega) (by omega), by omega, sn_Da (i := i + 1 + 1 + 1 + 1 + 1) T6 T7 T8 T9 (fun a h1 h2 => z8 a (by omega) (by omega)) (fun u10 d0 d1 d3 o10 => ⟨by omega, rfl, pu ?_⟩)⟩
  have o11 : ∀ a, a ≠ i → a ≠ i + 5 → a ≠ i + 6 → a ≠ i + 8 → (pj_set u10 i 8 1) a = u8 a := fun a h1 h2 h3 h4 => (ps_i h1).trans (o10 a (by omega) (by omega) (by omega))
  have e11 : (pj_set u10 i 8 1) i = up (up (up (up (up zz 4 1) 5 1) 6 1) 7 1) 8 1 := by rw [st_up, o10 i (by omega) (by omega) (by omega), e8]
  have f5 : (pj_set u10 i 8 1) (i + 5) = dF := (ps_i (by omega)).trans d0
  have f6 : (pj_set u10 i 8 1) (i + 6) = rZ := (ps_i (by omega)).trans d1
  have f8 : (pj_set u10 i 8 1) (i + 8) = rZ := (ps_i (by omega)).trans d3
  generalize pj_set u10 i 8 1 = u11 at o11 e11 f5 f6 f8 ⊢
  have z11 : ∀ a, i + 9 ≤ a → a ≤ i + 28 → u11 a = zz := fun a h1 h2 => (o11 a (by omega) (by omega) (by omega) (by omega)).trans (z8 a (by omega) h2)
  refine ⟨by omega, T10, z11 _ (by omega) (by omega), by omega, sn_Da (i := i + 1 + 1 + 1 + 1 + 1 + 1 + 4) T11 T12 T13 T14 (fun a h1 h2 => z11 a (by omega) (by omega)) (fun u13 d0' d1' d3' o13 => ⟨by omega, by omega, pu ?_⟩)⟩
  have o14 : ∀ a, a ≠ i → a ≠ i + 10 → a ≠ i + 11 → a ≠ i + 13 → (pj_set u13 i 9 1) a = u11 a := fun a h1 h2 h3 h4 => (ps_i h1).trans (o13 a (by omega) (by omega) (by omega))
  have e14 : (pj_set u13 i 9 1) i = up (up (up (up (up (up zz 4 1) 5 1) 6 1) 7 1) 8 1) 9 1 := by rw [st_up, o13 i (by omega) (by omega) (by omega), e11]
  have g10 : (pj_set u13 i 9 1) (i + 10) = dF := (ps_i (by omega)).trans d0'
  have g11 : (pj_set u13 i 9 1) (i + 11) = rZ := (ps_i (by omega)).trans d1'
  have g13 : (pj_set u13 i 9 1) (i + 13) = rZ := (ps_i (by omega)).trans d3'
  generalize pj_set u13 i 9 1 = u14 at o14 e14 g10 g11 g13 ⊢
  have z14 : ∀ a, i + 14 ≤ a → a ≤ i + 28 → u14 a = zz := fun a h1 h2 => (o14 a (by omega) (by omega) (by omega) (by omega)).trans (z11 a (by omega) h2)
  refine ⟨by omega, T15, z14 _ (by omega) (by omega), by omega, sn_Pa (i := i + 1 + 1 + 1 + 1 + 1 + 1 + 4 + 1 + 4) T16 (z14 _ (by omega) (by omega)) (fun u16 e16 o16 => ⟨by omega, by omega, pu ⟨by omega, pu ⟨by omega, pu ⟨by omega, pu ⟨by omega, rfl, pu ⟨by omega, rfl, pu ⟨5, ?_⟩⟩⟩⟩⟩⟩⟩)⟩
  have o22 : ∀ a, a ≠ i → a ≠ i + 15 → (pj_set (pj_set (pj_set (pj_set (pj_set (pj_set u16 i 10 1) i 13 1) i 0 x1) i 1 x2) i 2 1) i 3 1) a = u14 a := fun a h1 h2 => by rw [ps_i h1, ps_i h1, ps_i h1, ps_i h1, ps_i h1, ps_i h1, o16 a (by omega)]
  have e22 : (pj_set (pj_set (pj_set (pj_set (pj_set (pj_set u16 i 10 1) i 13 1) i 0 x1) i 1 x2) i 2 1) i 3 1) i = svF x1 x2 := by rw [st_up, st_up, st_up, st_up, st_up, st_up, o16 i (by omega), e14]; rfl
  have h15 : (pj_set (pj_set (pj_set (pj_set (pj_set (pj_set u16 i 10 1) i 13 1) i 0 x1) i 1 x2) i 2 1) i 3 1) (i + 15) = rZ := by
    have : u16 (i + 15) = up (u14 (i + 15)) 0 1 := e16
    rw [ps_i (by omega), ps_i (by omega), ps_i (by omega), ps_i (by omega), ps_i (by omega), ps_i (by omega), this, z14 _ (by omega) (by omega)]; rfl
  generalize pj_set (pj_set (pj_set (pj_set (pj_set (pj_set u16 i 10 1) i 13 1) i 0 x1) i 1 x2) i 2 1) i 3 1 = u22 at o22 e22 h15 ⊢
  subst hi
  have z22 : ∀ a, 112 + 29 * s + 16 ≤ a → a ≤ 112 + 29 * s + 28 → u22 a = zz := fun a h1 h2 => (o22 a (by omega) (by omega)).trans (z14 a (by omega) h2)
  refine lp_Sv_sess hs (u0 := u22) (by rw [e22]; rfl) (fun a h1 h2 => z22 a (by omega) (by omega)) (fun u23 s1 o23 => ⟨5, ?_⟩) 4 0 u22 (by decide) (fun q hq => absurd hq (Nat.not_lt_zero q)) (fun _ _ => rfl)
  refine lp_Sv_rows hs (u0 := u23) (by rw [o23 _ (by omega), e22]; rfl) (fun a h1 h2 => (o23 a (by omega)).trans (z22 a (by omega) h2)) (fun u24 r1 r2 o24 => ?_) 4 0 u23 (by decide) (fun q hq => absurd hq (Nat.not_lt_zero q)) (fun q hq => absurd hq (Nat.not_lt_zero q)) (fun _ _ _ => rfl)
  have b : ∀ a, (a = 112 + 29 * s ∨ a = 112 + 29 * s + 15) → u24 a = u22 a := fun a h => (o24 a (by omega) (by omega)).trans (o23 a (by omega))
  have b14 : ∀ a, (a = 112 + 29 * s + 10 ∨ a = 112 + 29 * s + 11 ∨ a = 112 + 29 * s + 13) → u24 a = u14 a := fun a h => (o24 a (by omega) (by omega)).trans ((o23 a (by omega)).trans (o22 a (by omega) (by omega)))
  have b11 : ∀ a, (a = 112 + 29 * s + 5 ∨ a = 112 + 29 * s + 6 ∨ a = 112 + 29 * s + 8) → u24 a = u11 a := fun a h => (o24 a (by omega) (by omega)).trans ((o23 a (by omega)).trans ((o22 a (by omega) (by omega)).trans (o14 a (by omega) (by omega) (by omega) (by omega))))
  refine k u24 ⟨?_, fun q hq => ?_, r1, ?_, ?_, ?_, ?_, ?_, ?_, ?_, r2⟩ (fun a ha => ?_)
  · rw [b _ (Or.inl rfl), e22]
  · rw [o24 _ (by omega) (by omega)]; exact s1 q hq
  · rw [b11 _ (Or.inl rfl), f5]
  · rw [b11 _ (Or.inr (Or.inl rfl)), f6]
  · rw [b11 _ (Or.inr (Or.inr rfl)), f8]
  · rw [b14 _ (Or.inl rfl), g10]
  · rw [b14 _ (Or.inr (Or.inl rfl)), g11]
  · rw [b14 _ (Or.inr (Or.inr rfl)), g13]
  · rw [b _ (Or.inr rfl), h15]
  · rw [o24 a (by omega) (by omega), o23 a (by omega), o22 a (by omega) (by omega), o14 a (by omega) (by omega) (by omega) (by omega), o11 a (by omega) (by omega) (by omega) (by omega), o8 a (by omega)]
theorem lp_Ar_fill {K : pj_M → Prop} {u0 : pj_M} {x : Int32} {m : Nat} (hm : 172 < m) (kk : ∀ u', (∀ q, q < 8 → u' 172 q = x) → (∀ a, a ≠ 172 → u' a = u0 a) → K u') : ∀ (d t : Nat) (u : pj_M), t + d = 8 → (∀ q, q < t → u 172 q = x) → (∀ a, a ≠ 172 → u a = u0 a) → pb_Ar_fill_5 m K 172 x (nI 8) (d + 1) m u (nI t) := by
  intro d
  induction d with
  | zero =>
    intro t u ht h1 h3
    have e : t = 8 := by omega
    subst e
    exact br_t (by decide) ⟨rfl, kk u h1 h3⟩
  | succ d ih =>
    intro t u ht h1 h3
    refine br_f (fun q => nI_ge (a := t) (b := 8) (by omega) (by decide) q) ⟨hm, v8 (by omega), pu ?_⟩
    rw [nI_clamp (show t < 2 ^ 31 by omega), nI_1]
    refine ih (t + 1) _ (by omega) (fun q hq => ?_) (fun a ha => (ps_i ha).trans (h3 a ha))
    by_cases c : q = t
    · rw [c, ps_s]
    · rw [ps_k c]; exact h1 q (by omega)
def swF (x : Int32) : Nat → Int32 := up (up (up (up (up (up (up zz 2 1) 3 1) 4 1) 5 1) 6 1) 0 x) 1 1
def poZ (u' : pj_M) (p : Nat) : Prop := u' (185 + 7 * p) = poF (nI p) ∧ u' (185 + 7 * p + 1) = rZ ∧ u' (185 + 7 * p + 3) = rZ ∧ u' (185 + 7 * p + 5) = rZ
theorem poZ.keep {u u' : pj_M} {p : Nat} (h : poZ u p) (hk : ∀ a, 185 + 7 * p ≤ a → a ≤ 185 + 7 * p + 6 → u' a = u a) : poZ u' p := ⟨(hk _ (by omega) (by omega)).trans h.1, (hk _ (by omega) (by omega)).trans h.2.1, (hk _ (by omega) (by omega)).trans h.2.2.1, (hk _ (by omega) (by omega)).trans h.2.2.2⟩
theorem lp_Sw_init {K : pj_M → Prop} {u0 : pj_M} (h2 : u0 170 2 = 1) (hz : ∀ a, 185 ≤ a → a < 213 → u0 a = zz) (kk : ∀ u', (∀ p, p < 4 → poZ u' p) → (∀ q, q < 4 → u' 171 q = 1) → (∀ a, a ≠ 171 → (a < 185 ∨ 213 ≤ a) → u' a = u0 a) → pb_Sw_init_90 213 K 213 u') : ∀ (d t : Nat) (u : pj_M), t + d = 4 → (∀ p, p < t → poZ u p) → (∀ q, q < t → u 171 q = 1) → (∀ a, a ≠ 171 → (a < 185 ∨ 185 + 7 * t ≤ a) → u a = u0 a) → pb_Sw_init_65 213 K (d + 1) (185 + 7 * t) u (nI t) := by
  intro d
  induction d with
  | zero =>
    intro t u ht h1 h3 h4
    have e : t = 4 := by omega
    subst e
    exact br_t (by decide) (kk u h1 h3 (fun a h h' => h4 a h (by omega)))
  | succ d ih =>
    intro t u ht h1 h3 h4
    have t4 : t < 4 := by omega
    obtain ⟨T0, T1, T2, T3, T4, T5, T6⟩ := pT t t4
    have z : ∀ a, 185 + 7 * t ≤ a → a ≤ 185 + 7 * t + 6 → u a = zz := fun a ha hb => (h4 a (by omega) (by omega)).trans (hz a (by omega) (by omega))
    refine br_f (fun q => nI_ge (a := t) (b := 4) (by omega) (by decide) q) ⟨by omega, by rw [h4 170 (by decide) (by omega)]; exact h2, by omega, T0, z _ (by omega) (by omega), by omega, sn_Po T1 T2 T3 T4 T5 T6 z (fun u2 e0 e1 e3 e5 o2 => ⟨by omega, by omega, ?_, v4 t4, pu ?_⟩)⟩
    · show 185 + 7 * t = 185 + 7 * (nI t).toNatClampNeg
      rw [c4 t4]
    rw [c4 t4, nI_1, show 185 + 7 * t + 1 + 6 = 185 + 7 * (t + 1) by omega]
    have o3 : ∀ a, a ≠ 171 → a ≠ 185 + 7 * t → a ≠ 185 + 7 * t + 1 → a ≠ 185 + 7 * t + 3 → a ≠ 185 + 7 * t + 5 → (pj_set u2 171 t 1) a = u a := fun a h1 h2 h3 h4 h5 => (ps_i h1).trans (o2 a h2 h3 h4 h5)
    refine ih (t + 1) _ (by omega) (fun p hp => ?_) (fun q hq => ?_) (fun a ha hb => ?_)
    · by_cases c : p = t
      · rw [c]
        exact ⟨(ps_i (by omega)).trans e0, (ps_i (by omega)).trans e1, (ps_i (by omega)).trans e3, (ps_i (by omega)).trans e5⟩
      · exact (h1 p (by omega)).keep (fun a ha hb => o3 a (by omega) (by omega) (by omega) (by omega) (by omega))
    · by_cases c : q = t
      · rw [c, ps_s]
      · rw [ps_k c, o2 171 (by omega) (by omega) (by omega) (by omega)]; exact h3 q (by omega)
    · rw [o3 a ha (by omega) (by omega) (by omega) (by omega)]; exact h4 a ha (by omega)
def swZ (u' : pj_M) (x : Int32) : Prop := u' 170 = swF x ∧ (∀ q, q < 4 → u' 171 q = 1) ∧ (∀ q, q < 8 → u' 172 q = -1) ∧ u' 173 = rZ ∧ u' 175 = dF ∧ u' 176 = rZ ∧ u' 178 = rZ ∧ u' 180 = dF ∧ u' 181 = rZ ∧ u' 183 = rZ ∧ (∀ p, p < 4 → poZ u' p)
theorem sn_Sw {u : pj_M} {x : Int32} {K : pj_M → Prop} (hz : ∀ a, 170 ≤ a → a < 213 → u a = zz) (k : ∀ u', swZ u' x → (∀ a, (a < 170 ∨ 213 ≤ a) → u' a = u a) → K u') : pw_Sw_init 171 213 u x K := by
  unfold pw_Sw_init pb_Sw_init_0
  refine ⟨by omega, by decide, hz _ (by decide) (by decide), by omega, rfl, pu ⟨by omega, by decide, ?_, by omega, rfl, pu ?_⟩⟩
  · rw [ps_i (by decide)]; exact hz _ (by decide) (by decide)
  have o4 : ∀ a, a ≠ 170 → (pj_set (pj_set u 170 2 1) 170 3 1) a = u a := fun a h => by rw [ps_i h, ps_i h]
  have e4 : (pj_set (pj_set u 170 2 1) 170 3 1) 170 = up (up zz 2 1) 3 1 := by rw [st_up, st_up, hz 170 (by decide) (by decide)]
  generalize pj_set (pj_set u 170 2 1) 170 3 1 = u4 at o4 e4 ⊢
  have z4 : ∀ a, 170 < a → a < 213 → u4 a = zz := fun a h1 h2 => (o4 a (by omega)).trans (hz a (by omega) h2)
  refine ⟨by omega, by decide, z4 _ (by decide) (by decide), by omega, sn_Pa (i := 171 + 1 + 1) (by decide) (z4 _ (by decide) (by decide)) (fun u6 e6 o6 => ⟨by omega, rfl, pu ?_⟩)⟩
  have o7 : ∀ a, a ≠ 170 → a ≠ 173 → (pj_set u6 170 4 1) a = u4 a := fun a h1 h2 => (ps_i h1).trans (o6 a (by omega))
  have e7 : (pj_set u6 170 4 1) 170 = up (up (up zz 2 1) 3 1) 4 1 := by rw [st_up, o6 170 (by decide), e4]
  have d73 : (pj_set u6 170 4 1) 173 = rZ := by
    have : u6 173 = up (u4 173) 0 1 := e6
    rw [ps_i (by decide), this, z4 173 (by decide) (by decide)]; rfl
  generalize pj_set u6 170 4 1 = u7 at o7 e7 d73 ⊢
  have z7 : ∀ a, 174 ≤ a → a < 213 → u7 a = zz := fun a h1 h2 => (o7 a (by omega) (by omega)).trans (z4 a (by omega) h2)
  refine ⟨by omega, by decide, z7 _ (by decide) (by decide), by omega, sn_Da (i := 171 + 1 + 1 + 1 + 1) (by decide) (by decide) (by decide) (by decide) (fun a h1 h2 => z7 a (by omega) (by omega)) (fun u9 d0 d1 d3 o9 => ⟨by omega, rfl, pu ?_⟩)⟩
  have o10 : ∀ a, a ≠ 170 → a ≠ 175 → a ≠ 176 → a ≠ 178 → (pj_set u9 170 5 1) a = u7 a := fun a h1 h2 h3 h4 => (ps_i h1).trans (o9 a (by omega) (by omega) (by omega))
  have e10 : (pj_set u9 170 5 1) 170 = up (up (up (up zz 2 1) 3 1) 4 1) 5 1 := by rw [st_up, o9 170 (by decide) (by decide) (by decide), e7]
  have f5 : (pj_set u9 170 5 1) 175 = dF := (ps_i (by decide)).trans d0
  have f6 : (pj_set u9 170 5 1) 176 = rZ := (ps_i (by decide)).trans d1
  have f8 : (pj_set u9 170 5 1) 178 = rZ := (ps_i (by decide)).trans d3
  generalize pj_set u9 170 5 1 = u10 at o10 e10 f5 f6 f8 ⊢
  have z10 : ∀ a, 179 ≤ a → a < 213 → u10 a = zz := fun a h1 h2 => (o10 a (by omega) (by omega) (by omega) (by omega)).trans (z7 a (by omega) h2)
  refine ⟨by omega, by decide, z10 _ (by decide) (by decide), by omega, sn_Da (i := 171 + 1 + 1 + 1 + 1 + 1 + 4) (by decide) (by decide) (by decide) (by decide) (fun a h1 h2 => z10 a (by omega) (by omega)) (fun u12 d0' d1' d3' o12 => ⟨by omega, rfl, pu ⟨by omega, pu ⟨by omega, rfl, pu ⟨5, ?_⟩⟩⟩⟩)⟩
  have o15 : ∀ a, a ≠ 170 → a ≠ 180 → a ≠ 181 → a ≠ 183 → (pj_set (pj_set (pj_set u12 170 6 1) 170 0 x) 170 1 1) a = u10 a := fun a h1 h2 h3 h4 => by rw [ps_i h1, ps_i h1, ps_i h1]; exact o12 a (by omega) (by omega) (by omega)
  have e15 : (pj_set (pj_set (pj_set u12 170 6 1) 170 0 x) 170 1 1) 170 = swF x := by rw [st_up, st_up, st_up, o12 170 (by decide) (by decide) (by decide), e10]; rfl
  have g0 : (pj_set (pj_set (pj_set u12 170 6 1) 170 0 x) 170 1 1) 180 = dF := by rw [ps_i (by decide), ps_i (by decide), ps_i (by decide)]; exact d0'
  have g1 : (pj_set (pj_set (pj_set u12 170 6 1) 170 0 x) 170 1 1) 181 = rZ := by rw [ps_i (by decide), ps_i (by decide), ps_i (by decide)]; exact d1'
  have g3 : (pj_set (pj_set (pj_set u12 170 6 1) 170 0 x) 170 1 1) 183 = rZ := by rw [ps_i (by decide), ps_i (by decide), ps_i (by decide)]; exact d3'
  generalize pj_set (pj_set (pj_set u12 170 6 1) 170 0 x) 170 1 1 = u15 at o15 e15 g0 g1 g3 ⊢
  refine lp_Sw_init (u0 := u15) (by rw [e15]; rfl) (fun a h1 h2 => (o15 a (by omega) (by omega) (by omega) (by omega)).trans (z10 a (by omega) h2)) (fun u16 hp h171 o16 => ?_) 4 0 u15 (by decide) (fun p hp => absurd hp (Nat.not_lt_zero p)) (fun q hq => absurd hq (Nat.not_lt_zero q)) (fun _ _ _ => rfl)
  refine ⟨by decide, by rw [o16 170 (by decide) (by decide), e15]; rfl, by decide, plt ⟨9, lp_Ar_fill (u0 := u16) (by decide) (fun u17 hf o17 => ⟨rfl, ?_⟩) 8 0 u16 (by decide) (fun q hq => absurd hq (Nat.not_lt_zero q)) (fun _ _ => rfl)⟩⟩
  have b : ∀ a, a ≠ 171 → a ≠ 172 → a < 185 → u17 a = u15 a := fun a h1 h2 h3 => (o17 a h2).trans (o16 a h1 (Or.inl h3))
  refine k u17 ⟨?_, fun q hq => ?_, hf, ?_, ?_, ?_, ?_, ?_, ?_, ?_, fun p hp' => (hp p hp').keep (fun a h1 h2 => o17 a (by omega))⟩ (fun a ha => ?_)
  · rw [b _ (by decide) (by decide) (by decide), e15]
  · rw [o17 171 (by decide)]; exact h171 q hq
  · rw [b _ (by decide) (by decide) (by decide), o15 _ (by decide) (by decide) (by decide) (by decide), o10 _ (by decide) (by decide) (by decide) (by decide), d73]
  · rw [b _ (by decide) (by decide) (by decide), o15 _ (by decide) (by decide) (by decide) (by decide), f5]
  · rw [b _ (by decide) (by decide) (by decide), o15 _ (by decide) (by decide) (by decide) (by decide), f6]
  · rw [b _ (by decide) (by decide) (by decide), o15 _ (by decide) (by decide) (by decide) (by decide), f8]
  · rw [b _ (by decide) (by decide) (by decide), g0]
  · rw [b _ (by decide) (by decide) (by decide), g1]
  · rw [b _ (by decide) (by decide) (by decide), g3]
  · rw [o17 a (by omega), o16 a (by omega) (by omega), o15 a (by omega) (by omega) (by omega) (by omega), o10 a (by omega) (by omega) (by omega) (by omega), o7 a (by omega) (by omega), o4 a (by omega)]
