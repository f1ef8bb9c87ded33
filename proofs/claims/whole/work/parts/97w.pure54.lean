/-! The pure part: the first state: small constructors -/
abbrev zz : Nat → Int32 := fun _ => 0
def rZ : Nat → Int32 := up zz 0 1
def dF : Nat → Int32 := up (up zz 0 1) 1 1
theorem sn_Ro {u : pj_M} {i : Nat} {K : pj_M → Prop} (hT : pj_T (i + 1) = 22) (hz : u (i + 1) = zz) (k : ∀ u', u' i = up (u i) 0 1 → (∀ a, a ≠ i → u' a = u a) → K u') : pw_Ro_init (i + 1) (i + 1 + 1) u i K :=
  ⟨Nat.le_refl _, hT, hz, by omega, rfl, pu ⟨rfl, k _ st_up (fun a h => ps_i h)⟩⟩
theorem sn_Pa {u : pj_M} {i : Nat} {K : pj_M → Prop} (hT : pj_T (i + 1) = 22) (hz : u (i + 1) = zz) (k : ∀ u', u' i = up (u i) 0 1 → (∀ a, a ≠ i → u' a = u a) → K u') : pw_Pa_init (i + 1) (i + 1 + 1) u i K :=
  ⟨Nat.le_refl _, sn_Ro hT hz (fun u' e o => ⟨rfl, k u' e o⟩)⟩
theorem sn_Da {u : pj_M} {i : Nat} {K : pj_M → Prop} (hT1 : pj_T (i + 1) = 3) (hT2 : pj_T (i + 1 + 1) = 22) (hT3 : pj_T (i + 1 + 1 + 1) = 4) (hT4 : pj_T (i + 1 + 1 + 1 + 1) = 22) (hz : ∀ a, i ≤ a → a ≤ i + 4 → u a = zz) (k : ∀ u', u' i = dF → u' (i + 1) = rZ → u' (i + 3) = rZ → (∀ a, a ≠ i → a ≠ i + 1 → a ≠ i + 3 → u' a = u a) → K u') : pw_Da_init (i + 1) (i + 1 + 4) u i K := by
  unfold pw_Da_init pb_Da_init_0
  refine ⟨by omega, hT1, hz _ (by omega) (by omega), by omega, sn_Ro hT2 (hz _ (by omega) (by omega)) (fun u2 e2 o2 => ⟨by omega, rfl, pu ?_⟩)⟩
  have o3 : ∀ a, a ≠ i → a ≠ i + 1 → (pj_set u2 i 0 1) a = u a := fun a h1 h2 => (ps_i h1).trans (o2 a h2)
  have e3 : (pj_set u2 i 0 1) i = up zz 0 1 := by rw [st_up, o2 i (by omega), hz i (by omega) (by omega)]
  have d3 : (pj_set u2 i 0 1) (i + 1) = rZ := by rw [ps_i (by omega), e2, hz _ (by omega) (by omega)]; rfl
  generalize pj_set u2 i 0 1 = u3 at o3 e3 d3 ⊢
  refine ⟨by omega, hT3, (o3 _ (by omega) (by omega)).trans (hz _ (by omega) (by omega)), by omega, sn_Pa hT4 ((o3 _ (by omega) (by omega)).trans (hz _ (by omega) (by omega))) (fun u5 e5 o5 => ⟨by omega, by omega, pu ⟨by omega, ?_⟩⟩)⟩
  have z3 : u5 (i + 3) = rZ := by
    have : u5 (i + 1 + 1 + 1) = up (u3 (i + 1 + 1 + 1)) 0 1 := e5
    rw [show i + 3 = i + 1 + 1 + 1 by omega, this, o3 _ (by omega) (by omega), hz _ (by omega) (by omega)]; rfl
  refine k _ ?_ ?_ ?_ (fun a h1 h2 h3 => ?_)
  · rw [st_up, o5 i (by omega), e3]; rfl
  · rw [ps_i (by omega), o5 _ (by omega), d3]
  · rw [ps_i (by omega), z3]
  · rw [ps_i h1, o5 a (by omega), o3 a h1 h2]
theorem sn_Us {u : pj_M} {K : pj_M → Prop} (hz : ∀ a, 1 ≤ a → a ≤ 3 → u a = zz) (k : ∀ u', u' 1 = dF → (∀ a, a ≠ 1 → u' a = u a) → K u') : pw_Us_init 2 4 u K := by
  unfold pw_Us_init pb_Us_init_0
  refine ⟨by omega, by decide, hz 2 (by decide) (by decide), by omega, rfl, pu ⟨by omega, by decide, ?_, by omega, rfl, pu ⟨rfl, k _ ?_ (fun a h => by rw [ps_i h, ps_i h])⟩⟩⟩
  · exact (ps_i (by decide)).trans (hz 3 (by decide) (by decide))
  · rw [st_up, st_up, hz 1 (by decide) (by decide)]; rfl
theorem rT : ∀ k, k < 40 → pj_T (10 + 2 * k) = 3 ∧ pj_T (10 + 2 * k + 1) = 22 := by decide +kernel
theorem lp_Ma_init {K : pj_M → Prop} {u0 : pj_M} (h42 : u0 4 2 = 1) (kk : ∀ u', (∀ k, k < 40 → u' 7 k = nI (10 + 2 * k)) → (∀ k, k < 40 → u' (10 + 2 * k) = rZ) → (∀ a, a ≠ 7 → (a < 10 ∨ 90 ≤ a ∨ a % 2 = 1) → u' a = u0 a) → K u') (hz : ∀ a, 10 ≤ a → a < 90 → u0 a = zz) : ∀ (d t : Nat) (u : pj_M), t + d = 40 → (∀ k, k < t → u 7 k = nI (10 + 2 * k)) → (∀ k, k < t → u (10 + 2 * k) = rZ) → (∀ a, a ≠ 7 → (a < 10 ∨ 90 ≤ a ∨ a % 2 = 1 ∨ 10 + 2 * t ≤ a) → u a = u0 a) → pb_Ma_init_42 90 K (d + 1) (10 + 2 * t) u (nI t) := by
  intro d
  induction d with
  | zero =>
    intro t u ht h1 h2 h3
    have e : t = 40 := by omega
    subst e
    exact br_t (by decide) ⟨rfl, kk u h1 h2 (fun a h h' => h3 a h (by omega))⟩
  | succ d ih =>
    intro t u ht h1 h2 h3
    have t40 : t < 40 := by omega
    obtain ⟨T1, T2⟩ := rT t t40
    have e42 : u 4 2 = 1 := by rw [h3 4 (by decide) (by omega)]; exact h42
    have z0 : u (10 + 2 * t) = zz := by rw [h3 _ (by omega) (by omega)]; exact hz _ (by omega) (by omega)
    have z1 : u (10 + 2 * t + 1) = zz := by rw [h3 _ (by omega) (by omega)]; exact hz _ (by omega) (by omega)
    refine br_f (fun q => nI_ge (a := t) (b := 40) (by omega) (by decide) q) ⟨by omega, e42, by omega, T1, z0, by omega, sn_Ro T2 z1 (fun u2 e2 o2 => ⟨by omega, by omega, by omega, v40 t40, pu ?_⟩)⟩
    rw [nI_clamp (show t < 2 ^ 31 by omega), nI_1, show 10 + 2 * t + 1 + 1 = 10 + 2 * (t + 1) by omega]
    refine ih (t + 1) _ (by omega) (fun k hk => ?_) (fun k hk => ?_) (fun a ha hb => ?_)
    · by_cases c : k = t
      · rw [c, ps_s]
      · rw [ps_k c, o2 7 (by omega)]; exact h1 k (by omega)
    · rw [ps_i (by omega)]
      by_cases c : k = t
      · rw [c, e2, z0]; rfl
      · rw [o2 _ (by omega)]; exact h2 k (by omega)
    · rw [ps_i ha, o2 a (by omega)]; exact h3 a ha (by omega)
def maF : Nat → Int32 := up (up (up (up zz 0 1) 1 1) 2 1) 3 1
theorem sn_Ma {u : pj_M} {K : pj_M → Prop} (hz : ∀ a, 4 ≤ a → a < 90 → u a = zz) (k : ∀ u', u' 4 = maF → (∀ k, k < 40 → u' 7 k = nI (10 + 2 * k)) → u' 8 = rZ → (∀ k, k < 40 → u' (10 + 2 * k) = rZ) → (∀ a, a ≠ 4 → a ≠ 7 → a ≠ 8 → (a < 10 ∨ 90 ≤ a ∨ a % 2 = 1) → u' a = u a) → K u') : pw_Ma_init 5 90 u K := by
  unfold pw_Ma_init pb_Ma_init_0
  refine ⟨by omega, by decide, hz 5 (by decide) (by decide), by omega, rfl, pu ⟨by omega, by decide, ?_, by omega, rfl, pu ⟨by omega, by decide, ?_, by omega, rfl, pu ?_⟩⟩⟩
  · exact (ps_i (by decide)).trans (hz 6 (by decide) (by decide))
  · exact (ps_i (by decide)).trans ((ps_i (by decide)).trans (hz 7 (by decide) (by decide)))
  have o6 : ∀ a, a ≠ 4 → (pj_set (pj_set (pj_set u 4 0 1) 4 1 1) 4 2 1) a = u a := fun a h => by rw [ps_i h, ps_i h, ps_i h]
  have e6 : (pj_set (pj_set (pj_set u 4 0 1) 4 1 1) 4 2 1) 4 = up (up (up zz 0 1) 1 1) 2 1 := by rw [st_up, st_up, st_up, hz 4 (by decide) (by decide)]
  generalize pj_set (pj_set (pj_set u 4 0 1) 4 1 1) 4 2 1 = u6 at o6 e6 ⊢
  refine ⟨by omega, by decide, (o6 _ (by decide)).trans (hz _ (by decide) (by decide)), by omega, sn_Ro (i := 5 + 1 + 1 + 1) (by decide) ((o6 _ (by decide)).trans (hz _ (by decide) (by decide))) (fun u8 e8 o8 => ⟨by omega, rfl, pu ⟨41, ?_⟩⟩)⟩
  have o9 : ∀ a, a ≠ 4 → a ≠ 8 → (pj_set u8 4 3 1) a = u a := fun a h1 h2 => (ps_i h1).trans ((o8 a h2).trans (o6 a h1))
  have e9 : (pj_set u8 4 3 1) 4 = maF := by rw [st_up, o8 4 (by decide), e6]; rfl
  have d9 : (pj_set u8 4 3 1) 8 = rZ := by
    have : u8 8 = up (u6 8) 0 1 := e8
    rw [ps_i (by decide), this, o6 8 (by decide), hz 8 (by decide) (by decide)]; rfl
  generalize pj_set u8 4 3 1 = u9 at o9 e9 d9 ⊢
  refine lp_Ma_init (u0 := u9) (by rw [e9]; rfl) (fun u' h7 hr ho => k u' ?_ h7 ?_ hr (fun a h1 h2 h3 h4 => (ho a h2 h4).trans (o9 a h1 h3))) (fun a h1 h2 => (o9 a (by omega) (by omega)).trans (hz a (by omega) h2)) 40 0 u9 (by omega) (fun k hk => absurd hk (Nat.not_lt_zero k)) (fun k hk => absurd hk (Nat.not_lt_zero k)) (fun _ _ _ => rfl)
  · rw [ho 4 (by decide) (by decide)]; exact e9
  · rw [ho 8 (by decide) (by decide)]; exact d9
def hF (x : Int32) : Nat → Int32 := up (up (up (up (up zz 2 1) 3 1) 4 (-1)) 0 x) 1 1
theorem hT : ∀ h, h < 4 → pj_T (91 + 5 * h) = 6 ∧ pj_T (91 + 5 * h + 1) = 4 ∧ pj_T (91 + 5 * h + 1 + 1) = 22 ∧ pj_T (91 + 5 * h + 1 + 1 + 1) = 4 ∧ pj_T (91 + 5 * h + 1 + 1 + 1 + 1) = 22 := by decide +kernel
theorem sn_Ho {u : pj_M} {i : Nat} {x : Int32} {K : pj_M → Prop} (hT1 : pj_T (i + 1) = 4) (hT2 : pj_T (i + 1 + 1) = 22) (hT3 : pj_T (i + 1 + 1 + 1) = 4) (hT4 : pj_T (i + 1 + 1 + 1 + 1) = 22) (hz : ∀ a, i ≤ a → a ≤ i + 4 → u a = zz) (k : ∀ u', u' i = hF x → u' (i + 1) = rZ → u' (i + 3) = rZ → (∀ a, a ≠ i → a ≠ i + 1 → a ≠ i + 3 → u' a = u a) → K u') : pw_Ho_init (i + 1) (i + 1 + 4) u i x K := by
  unfold pw_Ho_init pb_Ho_init_0
  refine ⟨by omega, hT1, hz _ (by omega) (by omega), by omega, sn_Pa hT2 (hz _ (by omega) (by omega)) (fun u2 e2 o2 => ⟨by omega, rfl, pu ?_⟩)⟩
  have o3 : ∀ a, a ≠ i → a ≠ i + 1 → (pj_set u2 i 2 1) a = u a := fun a h1 h2 => (ps_i h1).trans (o2 a h2)
  have e3 : (pj_set u2 i 2 1) i = up zz 2 1 := by rw [st_up, o2 i (by omega), hz i (by omega) (by omega)]
  have d3 : (pj_set u2 i 2 1) (i + 1) = rZ := by rw [ps_i (by omega), e2, hz _ (by omega) (by omega)]; rfl
  generalize pj_set u2 i 2 1 = u3 at o3 e3 d3 ⊢
  refine ⟨by omega, hT3, (o3 _ (by omega) (by omega)).trans (hz _ (by omega) (by omega)), by omega, sn_Pa hT4 ((o3 _ (by omega) (by omega)).trans (hz _ (by omega) (by omega))) (fun u5 e5 o5 => ⟨by omega, by omega, pu ⟨by omega, pu ⟨by omega, pu ⟨by omega, rfl, pu ⟨by omega, ?_⟩⟩⟩⟩⟩)⟩
  have z3 : u5 (i + 3) = rZ := by
    have : u5 (i + 1 + 1 + 1) = up (u3 (i + 1 + 1 + 1)) 0 1 := e5
    rw [show i + 3 = i + 1 + 1 + 1 by omega, this, o3 _ (by omega) (by omega), hz _ (by omega) (by omega)]; rfl
  refine k _ ?_ ?_ ?_ (fun a h1 h2 h3 => ?_)
  · rw [st_up, st_up, st_up, st_up, o5 i (by omega), e3]; rfl
  · rw [ps_i (by omega), ps_i (by omega), ps_i (by omega), ps_i (by omega), o5 _ (by omega), d3]
  · rw [ps_i (by omega), ps_i (by omega), ps_i (by omega), ps_i (by omega), z3]
  · rw [ps_i h1, ps_i h1, ps_i h1, ps_i h1, o5 a (by omega), o3 a h1 h2]
def poF (x : Int32) : Nat → Int32 := up (up (up (up (up (up (up zz 1 1) 2 1) 3 1) 5 0) 10 (-1)) 11 (-1)) 0 x
theorem pT : ∀ p, p < 4 → pj_T (185 + 7 * p) = 9 ∧ pj_T (185 + 7 * p + 1) = 4 ∧ pj_T (185 + 7 * p + 1 + 1) = 22 ∧ pj_T (185 + 7 * p + 1 + 1 + 1) = 4 ∧ pj_T (185 + 7 * p + 1 + 1 + 1 + 1) = 22 ∧ pj_T (185 + 7 * p + 1 + 1 + 1 + 1 + 1) = 3 ∧ pj_T (185 + 7 * p + 1 + 1 + 1 + 1 + 1 + 1) = 22 := by decide +kernel
theorem sn_Po {u : pj_M} {i : Nat} {x : Int32} {K : pj_M → Prop} (hT1 : pj_T (i + 1) = 4) (hT2 : pj_T (i + 1 + 1) = 22) (hT3 : pj_T (i + 1 + 1 + 1) = 4) (hT4 : pj_T (i + 1 + 1 + 1 + 1) = 22) (hT5 : pj_T (i + 1 + 1 + 1 + 1 + 1) = 3) (hT6 : pj_T (i + 1 + 1 + 1 + 1 + 1 + 1) = 22) (hz : ∀ a, i ≤ a → a ≤ i + 6 → u a = zz) (k : ∀ u', u' i = poF x → u' (i + 1) = rZ → u' (i + 3) = rZ → u' (i + 5) = rZ → (∀ a, a ≠ i → a ≠ i + 1 → a ≠ i + 3 → a ≠ i + 5 → u' a = u a) → K u') : pw_Po_init (i + 1) (i + 1 + 6) u i x K := by
  unfold pw_Po_init pb_Po_init_0
  refine ⟨by omega, hT1, hz _ (by omega) (by omega), by omega, sn_Pa hT2 (hz _ (by omega) (by omega)) (fun u2 e2 o2 => ⟨by omega, rfl, pu ?_⟩)⟩
  have o3 : ∀ a, a ≠ i → a ≠ i + 1 → (pj_set u2 i 1 1) a = u a := fun a h1 h2 => (ps_i h1).trans (o2 a h2)
  have e3 : (pj_set u2 i 1 1) i = up zz 1 1 := by rw [st_up, o2 i (by omega), hz i (by omega) (by omega)]
  have d3 : (pj_set u2 i 1 1) (i + 1) = rZ := by rw [ps_i (by omega), e2, hz _ (by omega) (by omega)]; rfl
  generalize pj_set u2 i 1 1 = u3 at o3 e3 d3 ⊢
  refine ⟨by omega, hT3, (o3 _ (by omega) (by omega)).trans (hz _ (by omega) (by omega)), by omega, sn_Pa hT4 ((o3 _ (by omega) (by omega)).trans (hz _ (by omega) (by omega))) (fun u5 e5 o5 => ⟨by omega, by omega, pu ?_⟩)⟩
  have e5' : u5 (i + 3) = rZ := by
    have : u5 (i + 1 + 1 + 1) = up (u3 (i + 1 + 1 + 1)) 0 1 := e5
    rw [show i + 3 = i + 1 + 1 + 1 by omega, this, o3 _ (by omega) (by omega), hz _ (by omega) (by omega)]; rfl
  have o6 : ∀ a, a ≠ i → a ≠ i + 1 → a ≠ i + 3 → (pj_set u5 i 2 1) a = u a := fun a h1 h2 h3 => (ps_i h1).trans ((o5 a (by omega)).trans (o3 a h1 h2))
  have e6 : (pj_set u5 i 2 1) i = up (up zz 1 1) 2 1 := by rw [st_up, o5 i (by omega), e3]
  have d61 : (pj_set u5 i 2 1) (i + 1) = rZ := by rw [ps_i (by omega), o5 _ (by omega), d3]
  have d63 : (pj_set u5 i 2 1) (i + 3) = rZ := by rw [ps_i (by omega), e5']
  generalize pj_set u5 i 2 1 = u6 at o6 e6 d61 d63 ⊢
  refine ⟨by omega, hT5, (o6 _ (by omega) (by omega) (by omega)).trans (hz _ (by omega) (by omega)), by omega, sn_Ro hT6 ((o6 _ (by omega) (by omega) (by omega)).trans (hz _ (by omega) (by omega))) (fun u8 e8 o8 => ⟨by omega, by omega, pu ⟨by omega, pu ⟨by omega, pu ⟨by omega, pu ⟨by omega, pu ⟨by omega, ?_⟩⟩⟩⟩⟩⟩)⟩
  have z5 : u8 (i + 5) = rZ := by
    have : u8 (i + 1 + 1 + 1 + 1 + 1) = up (u6 (i + 1 + 1 + 1 + 1 + 1)) 0 1 := e8
    rw [show i + 5 = i + 1 + 1 + 1 + 1 + 1 by omega, this, o6 _ (by omega) (by omega) (by omega), hz _ (by omega) (by omega)]; rfl
  refine k _ ?_ ?_ ?_ ?_ (fun a h1 h2 h3 h4 => ?_)
  · rw [st_up, st_up, st_up, st_up, st_up, o8 i (by omega), e6]; rfl
  · rw [ps_i (by omega), ps_i (by omega), ps_i (by omega), ps_i (by omega), ps_i (by omega), o8 _ (by omega), d61]
  · rw [ps_i (by omega), ps_i (by omega), ps_i (by omega), ps_i (by omega), ps_i (by omega), o8 _ (by omega), d63]
  · rw [ps_i (by omega), ps_i (by omega), ps_i (by omega), ps_i (by omega), ps_i (by omega), z5]
  · rw [ps_i h1, ps_i h1, ps_i h1, ps_i h1, ps_i h1, o8 a (by omega), o6 a h1 h2 h3]
