/-! The pure part: draft, forge, tick, data -/
def dby (x : Int64) (t : Nat) : Int32 := (((x.toUInt64 >>> (((8 : Int32) * nI t).toInt64.toUInt64 &&& Int64.toUInt64 63)).toInt64).toInt32) &&& 255
def dbl (x : Int64) : Nat → List Int32
  | 0 => []
  | t + 1 => dbl x t ++ [dby x t]
theorem dbl_len (x : Int64) : ∀ t, (dbl x t).length = t := by
  intro t
  induction t with
  | zero => rfl
  | succ t ih =>
    show (dbl x t ++ [dby x t]).length = t + 1
    rw [List.length_append, ih]; rfl
theorem bl_dbl (x : Int64) : ∀ t, bl (dbl x t) := by
  intro t
  induction t with
  | zero => exact bl_nil
  | succ t ih => exact bl_app ih (bl_cons (and255 _) bl_nil)
theorem dby_and (y : Int64) : (y &&& 255).toInt32 = y.toInt32 &&& 255 := by
  rw [Int64.toInt32_and]
  rfl
theorem lp_PG_draft {x1 : Int64} {K : Int32 → pj_M → Prop} {n : Nat} (hn : n ≤ 8) {l : List Int32} (hl : l.length + n ≤ 48) {u0 : pj_M} (kk : ∀ u', rw_ u' 213 (l ++ dbl x1 n) → f2 213 u0 u' → K 1 u') : ∀ (d t : Nat) (u : pj_M), t + d = n → rw_ u 213 (l ++ dbl x1 t) → f2 213 u0 u → pb_PG_draft_30 K x1 (nI n) (d + 1) u (nI t) := by
  intro d
  induction d with
  | zero =>
    intro t u ht hr hf
    have e : t = n := by omega
    subst e
    exact br_t (Int32.le_refl _) (kk u hr hf)
  | succ d ih =>
    intro t u ht hr hf
    refine br_f (nI_ge (by omega) (by omega)) (sp_Ro_put hr (by rw [List.length_append, dbl_len]; omega) (fun u' r' g' => ?_))
    show pb_PG_draft_30 K x1 (nI n) (d + 1) u' (nI t + 1)
    rw [nI_1]
    refine ih (t + 1) u' (by omega) ?_ (hf.tr g')
    rw [List.append_assoc] at r'
    exact r'
theorem lp_Mo_draft {x1 : Int64} {K : Int32 → pj_M → Prop} {n m : Nat} (hn : n ≤ 8) (hm : m + n ≤ 48) {u0 : pj_M} (h9 : u0 217 9 = nI m) (kk : ∀ u', (∀ j, j < n → u' 225 (m + j) = dby x1 j) → (∀ q, q < m → u' 225 q = u0 225 q) → (∀ a, a ≠ 225 → u' a = u0 a) → pb_Mo_draft_63 K u' (nI n)) : ∀ (d t : Nat) (u : pj_M), t + d = n → (∀ j, j < t → u 225 (m + j) = dby x1 j) → (∀ q, q < m → u 225 q = u0 225 q) → (∀ a, a ≠ 225 → u a = u0 a) → pb_Mo_draft_27 K x1 (nI n) (d + 1) u (nI t) := by
  intro d
  induction d with
  | zero =>
    intro t u ht h1 h2 h3
    have e : t = n := by omega
    subst e
    exact br_t (Int32.le_refl _) (kk u h1 h2 h3)
  | succ d ih =>
    intro t u ht h1 h2 h3
    have e9 : u 217 9 + nI t = nI (m + t) := by rw [h3 217 (by decide), h9, nI_add]
    refine br_f (nI_ge (by omega) (by omega)) ⟨by rw [e9]; exact v48 (by omega), pu ?_⟩
    rw [e9, nI_clamp (show m + t < 2 ^ 31 by omega), dby_and, nI_1]
    refine ih (t + 1) _ (by omega) (fun j hj => ?_) (fun q hq => ?_) (fun a ha => (ps_i ha).trans (h3 a ha))
    · by_cases c : j = t
      · rw [c, ps_s]; rfl
      · rw [ps_k (by omega)]; exact h1 j (by omega)
    · rw [ps_k (by omega)]; exact h2 q hq
theorem dbl_at (x : Int64) : ∀ n j, j < n → (dbl x n).getD j 0 = dby x j := by
  intro n
  induction n with
  | zero => intro j hj; omega
  | succ n ih =>
    intro j hj
    show (dbl x n ++ [dby x n]).getD j 0 = dby x j
    by_cases c : j = n
    · have := gd_hi (l := dbl x n) (x := dby x n)
      rw [dbl_len] at this
      rw [c]; exact this
    · rw [gd_app (by rw [dbl_len]; omega)]; exact ih j (by omega)
theorem RC.draft {c c' u u' : pj_M} (R : RC c u) (hD : RD c' u') (hc : ∀ a, (a < 4 ∨ (90 ≤ a ∧ a < 213)) → c' a = c a) (hu : ∀ a, 217 < a → (a < 221 ∨ 224 < a) → a ≠ 225 → a ≠ 226 → a ≠ 227 → u' a = u a) (h17 : ∀ k, k ≠ 4 → k ≠ 9 → (k < 11 ∨ 18 < k) → u' 217 k = u 217 k) : RC c' u' := by
  obtain ⟨r1, r2, r3, r4, r5, r6, r7, r8, r9⟩ := R
  have q : ∀ a, (a = 218 ∨ a = 219 ∨ a = 220 ∨ 228 ≤ a) → u' a = u a := fun a h => hu a (by omega) (by omega) (by omega) (by omega) (by omega)
  refine ⟨r1.keep (hc _ (by decide)) (hc _ (by decide)) (q _ (by decide)) (q _ (by decide)) (q _ (by decide)), fun h hh => (r2 h hh).keep (fun a h1 h2 => hc a (by omega)) (fun a h1 h2 _ => by rw [q a (by omega)]) (fun j _ => by rw [q 232 (by decide)]), fun p hp => (r3 p hp).keep (fun a h1 h2 => hc a (by omega)) (rs_keep (fun a h _ _ _ _ => q a (by omega))) (fun j _ => by rw [q 263 (by decide)]) (fun j _ => by rw [q 276 (by decide)]) (h17 0 (by decide) (by decide) (by decide)), r4.keep (hc _ (by decide)) (hc _ (by decide)) (h17 0 (by decide) (by decide) (by decide)) (h17 68 (by decide) (by decide) (by decide)) (h17 69 (by decide) (by decide) (by decide)) (by rw [q 277 (by decide)]) (q _ (by decide)), fun s hs => ?_, fun x hx => by rw [q 249 (by decide)]; exact r6 x hx, hD, ?_, fun j hj => by rw [q 278 (by decide)]; exact r9 j hj⟩
  · obtain ⟨L, A, R⟩ := r5 s hs
    exact ⟨L, A, R.keep (fun a h1 h2 => hc a (by omega)) (fun a h => by rw [q a (by omega)]) (fun a q' h _ _ => by rw [q a (by omega)]) (fun q' _ _ => by rw [q 257 (by decide)]) (h17 0 (by decide) (by decide) (by decide))⟩
  · unfold WS
    rw [hc 91 (by decide), hc 96 (by decide), hc 101 (by decide), hc 106 (by decide), hc 112 (by decide), hc 141 (by decide), q 277 (by decide)]
    exact r8
theorem lw_draft {u : pj_M} {x1 : Int64} {x3 : Int32} {K : Int32 → Int32 → pj_M → Prop} (R : Rel u) (k : ∀ r u', Rel u' → K r r u') : pw_PG_draft u x1 x3 fun r u1 => pw_Mo_draft u1 x1 x3 fun r' u2 => K r r' u2 := by
  have R0 := R
  obtain ⟨ms, C, hb, hm, hw⟩ := R
  obtain ⟨l, rl, e9, lb, g25⟩ := C.2.2.2.2.2.2.1
  have l48 := rl.2.1
  refine br_c (fun y => br_t y (k _ u R0)) (fun y1 => br_c (fun y => br_f y1 (br_t y (k _ u R0))) (fun y2 => ?_))
  have p3 : ¬ x3 < 0 := fun z => y1 (Int32.lt_iff_toInt_lt.mpr (by
    have := Int32.lt_iff_toInt_lt.mp z
    have e0 : (0 : Int32).toInt = 0 := by decide
    have e1 : (1 : Int32).toInt = 1 := by decide
    omega))
  obtain ⟨n, hn, en⟩ := nI_of p3
  subst en
  have n8 : n ≤ 8 := Nat.le_of_not_lt (fun z => y2 (nI_lt (a := 8) z hn))
  have ea : u 213 1 + nI n = nI (l.length + n) := by rw [rl.1, nI_add]
  have eb : u 217 9 + nI n = nI (l.length + n) := by rw [e9, nI_add]
  unfold pb_PG_draft_11
  rw [ea]
  refine br_c (fun y => ?_) (fun y => br_f y1 (br_f y2 (br_f (by rw [eb]; exact y) (k _ u R0))))
  have hlen : l.length + n ≤ 48 := by
    rcases Nat.lt_or_ge 48 (l.length + n) with z | z
    · exact absurd y (nI_ge (b := l.length + n) z (by omega))
    · exact z
  refine ⟨n + 1, lp_PG_draft n8 hlen (u0 := u) (fun c' r' f' => ?_) n 0 u (by omega) (by rw [show dbl x1 0 = [] from rfl, List.append_nil]; exact rl) (fun _ _ _ => rfl)⟩
  have oc : ∀ a, a ≠ 213 → a ≠ 214 → c' a = u a := fun a h1 h2 => f' a h1 h2
  refine br_f y1 (br_f y2 (br_t (by rw [oc 217 (by decide) (by decide), eb]; exact y) ⟨n + 1, lp_Mo_draft n8 hlen (u0 := c') (by rw [oc 217 (by decide) (by decide)]; exact e9) (fun u2 h1 h2 h3 => pu ?_) n 0 c' (by omega) (fun j hj => absurd hj (Nat.not_lt_zero j)) (fun _ _ => rfl) (fun _ _ => rfl)⟩))
  have e2 : u2 217 9 + nI n = nI (l.length + n) := by rw [h3 217 (by decide), oc 217 (by decide) (by decide)]; exact eb
  rw [e2]
  have el : (l ++ dbl x1 n).length = l.length + n := by rw [List.length_append, dbl_len]
  have D : RD c' (pj_set u2 217 9 (nI (l.length + n))) := by
    refine ⟨l ++ dbl x1 n, r', by rw [ps_s, el], bl_app lb (bl_dbl x1 n), fun j hj => ?_⟩
    rw [el] at hj
    rw [ps_i (by decide)]
    by_cases c : j < l.length
    · rw [h2 j c, oc 225 (by decide) (by decide), gd_app c]; exact g25 j c
    · have ej : j = l.length + (j - l.length) := by omega
      rw [ej, gd_apr, dbl_at x1 n _ (by omega)]
      exact h1 _ (by omega)
  have uu : ∀ a, a ≠ 217 → a ≠ 225 → a ≠ 213 → a ≠ 214 → (pj_set u2 217 9 (nI (l.length + n))) a = u a := fun a h4 h5 h6 h7 => by rw [ps_i h4, h3 a h5, oc a h6 h7]
  refine k 1 _ (Rel.mk (c' := c') (C.draft D (fun a h => oc a (by omega) (by omega)) (fun a h1 h2 h3 _ _ => uu a (by omega) h3 (by omega) (by omega)) (fun q h4 h9 h => by rw [ps_k h9, h3 217 (by decide), oc 217 (by decide) (by decide)])) (hb.keep (fun a h1 h2 _ _ => oc a (by omega) (by omega))) (hm.keep (by rw [ps_k (by decide), h3 217 (by decide), oc 217 (by decide) (by decide)]) (uu _ (by decide) (by decide) (by decide) (by decide)) (uu _ (by decide) (by decide) (by decide) (by decide)) (uu _ (by decide) (by decide) (by decide) (by decide)) (uu _ (by decide) (by decide) (by decide) (by decide))) hw (fun a ha => ?_))
  rw [ps_i (by omega), h3 a (by omega)]
theorem sp_PG_isPlace {u : pj_M} {x0 x1 : Int32} {K : Int32 → pj_M → Prop} (kt : (((x0 = 0 ∨ x0 = 1) ∧ ∃ p, p < 4 ∧ x1 = nI p) ∨ ((x0 = 2 ∨ x0 = 3) ∧ ∃ s, s < 2 ∧ x1 = nI s)) → K 1 u) (kf : ¬ (((x0 = 0 ∨ x0 = 1) ∧ ∃ p, p < 4 ∧ x1 = nI p) ∨ ((x0 = 2 ∨ x0 = 3) ∧ ∃ s, s < 2 ∧ x1 = nI s)) → K 0 u) : pw_PG_isPlace u x0 x1 K := by
  have bad4 : (x1 < 0 ∨ ∃ t, t < 2 ^ 31 ∧ 4 ≤ t ∧ x1 = nI t) → ∀ p, p < 4 → ¬ x1 = nI p := by
    rintro (h | ⟨t, ht, h4, e⟩) p hp e'
    · rw [e'] at h; exact nn0 (by omega) h
    · have := (nI_eq ht (by omega)).mp (e.symm.trans e')
      omega
  have bad2 : (x1 < 0 ∨ ∃ t, t < 2 ^ 31 ∧ 2 ≤ t ∧ x1 = nI t) → ∀ p, p < 2 → ¬ x1 = nI p := by
    rintro (h | ⟨t, ht, h4, e⟩) p hp e'
    · rw [e'] at h; exact nn0 (by omega) h
    · have := (nI_eq ht (by omega)).mp (e.symm.trans e')
      omega
  have prt : (x0 = 0 ∨ x0 = 1) → pb_PG_isPlace_9 K u x1 := by
    intro h01
    refine sp_PG_isPort (fun p hp e => ⟨pj_bi1, kt (Or.inl ⟨h01, p, hp, e⟩)⟩) (fun hn => ⟨pj_bi0, kf (fun z => ?_)⟩)
    rcases z with ⟨_, p, hp, e⟩ | ⟨h23, _⟩
    · exact bad4 hn p hp e
    · rcases h01 with w | w <;> rcases h23 with w' | w' <;> rw [w] at w' <;> exact absurd w' (by decide)
  have srv : (x0 = 2 ∨ x0 = 3) → pb_PG_isPlace_24 K u x1 := by
    intro h23
    refine sp_PG_isServer (fun s hs e => br_f (by decide) ⟨pj_bi1, kt (Or.inr ⟨h23, s, hs, e⟩)⟩) (fun hn => br_t rfl ⟨pj_bi0, kf (fun z => ?_)⟩)
    rcases z with ⟨h01, _⟩ | ⟨_, s, hs, e⟩
    · rcases h01 with w | w <;> rcases h23 with w' | w' <;> rw [w] at w' <;> exact absurd w' (by decide)
    · exact bad2 hn s hs e
  refine br_c (fun e => prt (Or.inl e)) (fun e0 => br_c (fun e => prt (Or.inr e)) (fun e1 => br_c (fun e => srv (Or.inl e)) (fun e2 => br_c (fun e => srv (Or.inr e)) (fun e3 => ⟨pj_bi0, kf (fun z => ?_)⟩))))
  rcases z with ⟨z, _⟩ | ⟨z, _⟩
  · exact z.elim e0 e1
  · exact z.elim e2 e3
theorem lp_Mo_forge {K : Int32 → pj_M → Prop} {x1 x2 : Int32} {l : List Int32} {u0 : pj_M} (l48 : l.length ≤ 48) (h9 : u0 217 9 = nI l.length) (h : ∀ j, j < l.length → u0 225 j = l.getD j 0) (kk : ∀ u', mR u' l → fR u0 u' → pb_Mo_forge_72 K u' x1 x2) : ∀ (d t : Nat) (u : pj_M), t + d = l.length → u 217 11 = nI l.length → (∀ j, j < t → u 226 j = l.getD j 0) → fR u0 u → pb_Mo_forge_46 K x1 x2 (d + 1) u (nI t) := by
  intro d
  induction d with
  | zero =>
    intro t u ht hp hj hf
    refine br_t (by rw [hf.2 9 (by decide), h9]; exact nI_le (by omega) (by omega)) ?_
    exact kk u ⟨hp, l48, fun j q => hj j (by omega)⟩ hf
  | succ d ih =>
    intro t u ht hp hj hf
    refine br_f (by rw [hf.2 9 (by decide), h9]; exact nI_ge (by omega) (by omega)) ⟨v48 (by omega), v48 (by omega), pu ?_⟩
    rw [nI_1, nI_clamp (show t < 2 ^ 31 by omega)]
    refine ih (t + 1) _ (by omega) (by rw [ps_i (by decide)]; exact hp) (fun j hj' => ?_) (hf.tr fR.a)
    by_cases e : j = t
    · rw [e, ps_s, hf.1 225 (by decide) (by decide)]; exact h t (by omega)
    · rw [ps_k (by omega)]; exact hj j (by omega)
theorem lw_forge {u : pj_M} {x1 x2 : Int32} {K : Int32 → Int32 → pj_M → Prop} (R : Rel u) (k : ∀ r u', Rel u' → K r r u') : pw_PG_forge u x1 x2 fun r u1 => pw_Mo_forge u1 x1 x2 fun r' u2 => K r r' u2 := by
  have R0 := R
  obtain ⟨ms, C, hb, hm, hw⟩ := R
  obtain ⟨l, rl, e9, lb, g25⟩ := C.2.2.2.2.2.2.1
  have l48 := rl.2.1
  -- the reference's question of the place
  have pl : ∀ (w : pj_M) (r : Int32), ((((x1 = 0 ∨ x1 = 1) ∧ ∃ p, p < 4 ∧ x2 = nI p) ∨ ((x1 = 2 ∨ x1 = 3) ∧ ∃ s, s < 2 ∧ x2 = nI s)) → pb_Mo_forge_27 (fun r' u2 => K r r' u2) w x1 x2) → (¬ (((x1 = 0 ∨ x1 = 1) ∧ ∃ p, p < 4 ∧ x2 = nI p) ∨ ((x1 = 2 ∨ x1 = 3) ∧ ∃ s, s < 2 ∧ x2 = nI s)) → K r 0 w) → pw_Mo_forge w x1 x2 fun r' u2 => K r r' u2 := by
    intro w r kt kf
    refine br_c (fun y => kf (fun z => ?_)) (fun y => ?_)
    · rcases z with ⟨z | z, _⟩ | ⟨z | z, _⟩ <;> rw [z] at y <;> exact absurd y (by decide)
    obtain ⟨a, ha, ea⟩ := nI_of y
    refine br_c (fun y3 => kf (fun z => ?_)) (fun y3 => br_c (fun y0 => kf (fun z => ?_)) (fun y0 => ?_))
    · rcases z with ⟨z | z, _⟩ | ⟨z | z, _⟩ <;> rw [z] at y3 <;> exact absurd y3 (by decide)
    · rcases z with ⟨_, p, hp, e⟩ | ⟨_, p, hp, e⟩ <;> rw [e] at y0 <;> exact nn0 (by omega) y0
    obtain ⟨b, hb', eb⟩ := nI_of y0
    have a4 : a < 4 := by
      rw [ea] at y3
      exact Nat.lt_of_not_le (fun z => y3 (nI_lt (a := 3) (by omega) ha))
    refine br_c (fun y2 => br_c (fun z1 => kf (fun z => ?_)) (fun z1 => kt ?_)) (fun y2 => br_c (fun z1 => kf (fun z => ?_)) (fun z1 => kt ?_))
    · rcases z with ⟨z | z, _⟩ | ⟨_, s, hs, e⟩
      · rw [z] at y2; exact absurd y2 (by decide)
      · rw [z] at y2; exact absurd y2 (by decide)
      · rw [e] at z1; exact nI_nlt (a := 1) (b := s) (by omega) (by decide) z1
    · rw [ea] at y2
      have a2 : 2 ≤ a := by
        rcases Nat.lt_or_ge a 2 with z | z
        · exact absurd y2 (nI_ge (b := 2) z (by decide))
        · exact z
      have : a = 2 ∨ a = 3 := by omega
      rw [eb] at z1
      refine Or.inr ⟨?_, b, Nat.lt_of_not_le (fun z => z1 (nI_lt (a := 1) (by omega) hb')), eb⟩
      rcases this with w | w <;> rw [w] at ea
      · exact Or.inl ea
      · exact Or.inr ea
    · rcases z with ⟨_, p, hp, e⟩ | ⟨z | z, _⟩
      · rw [e] at z1; exact nI_nlt (a := 3) (b := p) (by omega) (by decide) z1
      · rw [z] at y2; exact absurd (by decide) y2
      · rw [z] at y2; exact absurd (by decide) y2
    · rw [ea] at y2
      have a2 : a < 2 := Nat.lt_of_not_le (fun z => y2 (nI_le (a := 2) z ha))
      have : a = 0 ∨ a = 1 := by omega
      rw [eb] at z1
      refine Or.inl ⟨?_, b, Nat.lt_of_not_le (fun z => z1 (nI_lt (a := 3) (by omega) hb')), eb⟩
      rcases this with w | w <;> rw [w] at ea
      · exact Or.inl ea
      · exact Or.inr ea
  refine sp_PG_isPlace (fun ok => br_f (by decide) ?_) (fun nok => br_t rfl (pl u 0 (fun z => absurd z nok) (fun _ => k _ u R0)))
  unfold pb_PG_forge_8
  rw [rl.1]
  refine br_c (fun y => pl u 0 (fun _ => br_t (by rw [e9]; exact y) (k _ u R0)) (fun z => absurd ok z)) (fun y => ?_)
  refine sp_Ma_send hb rl (by decide) (fun c1 m1 g1 => sp_Ro_clear (fun c' r' f' => ?_))
  have oc : ∀ a, (a < 4 ∨ 90 ≤ a) → a ≠ 213 → a ≠ 214 → c' a = u a := fun a h1 h2 h3 => (f' a h2 h3).trans (g1 a h1)
  have ocr : ∀ a, 217 ≤ a → c' a = u a := fun a h => oc a (by omega) (by omega) (by omega)
  refine pl c' 1 (fun _ => br_f (by rw [ocr 217 (by decide), e9]; exact y) (pu ⟨l.length + 1, ?_⟩)) (fun z => absurd ok z)
  rw [show c' 217 9 = nI l.length by rw [ocr 217 (by decide)]; exact e9]
  refine lp_Mo_forge l48 (u0 := pj_set c' 217 11 (nI l.length)) (by rw [ps_k (by decide), ocr 217 (by decide)]; exact e9) (fun j hj => by rw [ps_i (by decide), ocr 225 (by decide)]; exact g25 j hj) (fun u2 r2 f2 => pu ?_) l.length 0 _ (by omega) ps_s (fun j hj => absurd hj (Nat.not_lt_zero j)) fR.rf
  have gg : fR c' u2 := fR.n.tr f2
  have o3 : ∀ a, a ≠ 217 → (pj_set u2 217 9 0) a = u2 a := fun a h => ps_i h
  have k3 : ∀ q, q ≠ 9 → (pj_set u2 217 9 0) 217 q = u2 217 q := fun q h => ps_k h
  have z9 : (pj_set u2 217 9 0) 217 9 = 0 := ps_s
  generalize pj_set u2 217 9 0 = u3 at o3 k3 z9 ⊢
  have m3 : mm u3 ms := hm.keep (by rw [k3 4 (by decide), gg.2 4 (by decide), ocr 217 (by decide)]) (by rw [o3 221 (by decide), gg.1 221 (by decide) (by decide), ocr 221 (by decide)]) (by rw [o3 222 (by decide), gg.1 222 (by decide) (by decide), ocr 222 (by decide)]) (by rw [o3 223 (by decide), gg.1 223 (by decide) (by decide), ocr 223 (by decide)]) (by rw [o3 224 (by decide), gg.1 224 (by decide) (by decide), ocr 224 (by decide)])
  refine sp_Mo_send m3 (r2.keep (k3 11 (by decide)) (o3 226 (by decide))) (fun u4 m4 g4 => ?_)
  have D : RD c' u4 := ⟨[], r', by rw [g4.2 9 (by decide), z9]; rfl, bl_nil, fun j hj => absurd hj (Nat.not_lt_zero j)⟩
  refine k 1 u4 (Rel.mk (c' := c') (C.draft D (fun a h => oc a (by omega) (by omega) (by omega)) (fun a h1 h2 h3 h4 h5 => ?_) (fun q h4 h9 h => ?_)) (m1.keep (fun a h1 h2 _ _ => f' a (by omega) (by omega))) m4 (hw.add ⟨ok, lb⟩) (fun a ha => ?_))
  · rw [g4.1 a (by omega) h2, o3 a (by omega), gg.1 a (by omega) h4, ocr a (by omega)]
  · rw [g4.2 q h4, k3 q h9, gg.2 q (by omega), ocr 217 (by decide)]
  · rw [g4.1 a (by omega) (by omega), o3 a (by omega), gg.1 a (by omega) (by omega)]
theorem puH {c : pj_M} {u : pj_M} {p : Nat} (P : PP c u p) : (¬ c (185 + 7 * p) 4 = 0 → ∃ la, rw_ c (185 + 7 * p + 1) la ∧ la.length ≤ 20) ∧ (¬ c (185 + 7 * p) 12 ≤ 0 → ∃ as q, rw_ c (185 + 7 * p + 3) as ∧ rw_ c (185 + 7 * p + 5) q ∧ as.length ≤ 20) := by
  obtain ⟨la, as, ⟨a1, a2, a3, a4, a5, a6, a7⟩, rl, rq⟩ := P
  refine ⟨fun n4 => ⟨la, rl.resolve_left n4, (a5.resolve_left n4).2.2.2.1⟩, fun n12 => ?_⟩
  have n0 : ¬ c (185 + 7 * p) 12 = 0 := fun z => n12 (by rw [z]; decide)
  obtain ⟨_, _, _, _, _, _, _, _, _, _, z11⟩ := a7.resolve_left (fun z => n0 z.1)
  exact ⟨as, _, (rq.resolve_left n0).1, (rq.resolve_left n0).2, z11.1⟩
theorem lw_tick {u : pj_M} {K : Int32 → Int32 → pj_M → Prop} (R : Rel u) (k : ∀ r u', Rel u' → K r r u') : pw_PG_tick u fun r u1 => pw_Mo_tick u1 fun r' u2 => K r r' u2 := by
  obtain ⟨ms, C, hb, hm, hw⟩ := R
  have hP : ∀ p, p < 4 → PP u u p := C.2.2.1
  have P' : ∀ (c : pj_M) (p : Nat), p < 4 → (∀ a, 185 + 7 * p ≤ a → a ≤ 185 + 7 * p + 6 → c a = u a) → PP c u p := fun c p hp h => (hP p hp).keep h rfl (fun _ _ => rfl) (fun _ _ => rfl) rfl
  have pl : ∀ (c : pj_M) (ms' : List mT) (p : Nat) (K' : pj_M → Prop), p < 4 → (∀ a, 185 + 7 * p ≤ a → a ≤ 185 + 7 * p + 6 → c a = u a) → mb c ms' → (∀ n c' o, puS (185 + 7 * p) c c' o n → mb c' (om ms' o) → fSw (185 + 7 * p) c c' → K' c') → pw_Sw_pulse c (185 + 7 * p) K' := by
    intro c ms' p K' hp h hb' kk
    obtain ⟨q1, q2⟩ := puH (P' c p hp h)
    exact sp_Sw_pulse (by omega) (by omega) hb' q1 q2 kk
  unfold pw_PG_tick pb_PG_tick_0
  refine ⟨5, br_f (by decide) ⟨v4 (by decide : 0 < 4), pl u ms 0 _ (by decide) (fun _ _ _ => rfl) hb (fun n0 c1 o0 S0 m1 g0 => br_f (by decide) ⟨v4 (by decide : 1 < 4), pl c1 _ 1 _ (by decide) (fun a h1 h2 => g0 a (by omega) (by omega) (by omega)) m1 (fun n1 c2 o1 S1 m2 g1 => br_f (by decide) ⟨v4 (by decide : 2 < 4), pl c2 _ 2 _ (by decide) (fun a h1 h2 => (g1 a (by omega) (by omega) (by omega)).trans (g0 a (by omega) (by omega) (by omega))) m2 (fun n2 c3 o2 S2 m3 g2 => br_f (by decide) ⟨v4 (by decide : 3 < 4), pl c3 _ 3 _ (by decide) (fun a h1 h2 => (g2 a (by omega) (by omega) (by omega)).trans ((g1 a (by omega) (by omega) (by omega)).trans (g0 a (by omega) (by omega) (by omega)))) m3 (fun n3 c4 o3 S3 m4 g3 => br_t (by decide) ?_)⟩)⟩)⟩)⟩⟩
  have cr : ∀ a, 217 ≤ a → c4 a = u a := fun a h => (g3 a (by omega) (by omega) (by omega)).trans ((g2 a (by omega) (by omega) (by omega)).trans ((g1 a (by omega) (by omega) (by omega)).trans (g0 a (by omega) (by omega) (by omega))))
  have C0 : RC u c4 := C.keep (fun _ _ => rfl) (gr.of cr)
  have mm0 : mm c4 ms := hm.of (fun a h1 _ => cr a h1)
  have stp : ∀ {c c' w w' : pj_M} {p n : Nat} {o : Option mT}, p < 4 → RC c w → puS (185 + 7 * p) c c' o n → fSw (185 + 7 * p) c c' → PP c' w' p → RW c' w' → frP p w w' → RC c' w' := by
    intro c c' w w' p n o hp RCw hS g hP' hW' f
    exact RCw.port hp hP' hW' (RCw.2.2.2.2.2.2.2.2.step RCw.2.2.2.1 hW' (ln_pu hS)) (fun a h1 h2 h3 => g a (by omega) h2 h3) f
  have o0k := ok_pu (by decide : 0 < 4) (C0.2.2.1 0 (by decide)) S0
  refine ⟨5, br_f (by decide) (rf_pulse (p := 0) (by decide) (C0.2.2.1 0 (by decide)) C0.2.2.2.1 mm0 S0 (fun u1 P1 W1 mm1 f1 => ?_))⟩
  have C1 := stp (by decide : 0 < 4) C0 S0 g0 P1 W1 f1
  have o1k := ok_pu (by decide : 1 < 4) (C1.2.2.1 1 (by decide)) S1
  refine br_f (by decide) (rf_pulse (p := 1) (by decide) (C1.2.2.1 1 (by decide)) C1.2.2.2.1 mm1 S1 (fun u2 P2 W2 mm2 f2 => ?_))
  have C2 := stp (by decide : 1 < 4) C1 S1 g1 P2 W2 f2
  have o2k := ok_pu (by decide : 2 < 4) (C2.2.2.1 2 (by decide)) S2
  refine br_f (by decide) (rf_pulse (p := 2) (by decide) (C2.2.2.1 2 (by decide)) C2.2.2.2.1 mm2 S2 (fun u3 P3 W3 mm3 f3 => ?_))
  have C3 := stp (by decide : 2 < 4) C2 S2 g2 P3 W3 f3
  have o3k := ok_pu (by decide : 3 < 4) (C3.2.2.1 3 (by decide)) S3
  refine br_f (by decide) (rf_pulse (p := 3) (by decide) (C3.2.2.1 3 (by decide)) C3.2.2.2.1 mm3 S3 (fun u4 P4 W4 mm4 f4 => br_t (by decide) ?_))
  have C4 := stp (by decide : 3 < 4) C3 S3 g3 P4 W4 f4
  have e4 : c4 4 4 = u4 217 4 := by
    obtain ⟨ρ, _, h4, _⟩ := m4
    rw [h4, mm4.1]
  show K (c4 4 4) (u4 217 4) u4
  rw [e4]
  refine k _ u4 (Rel.mk (c' := c4) C4 m4 mm4 ((((hw.omm o0k).omm o1k).omm o2k).omm o3k) (fun a ha => ?_))
  rw [f4.1 a (by omega) (by omega) (by omega) (by omega) (by omega), f3.1 a (by omega) (by omega) (by omega) (by omega) (by omega), f2.1 a (by omega) (by omega) (by omega) (by omega) (by omega), f1.1 a (by omega) (by omega) (by omega) (by omega) (by omega)]
