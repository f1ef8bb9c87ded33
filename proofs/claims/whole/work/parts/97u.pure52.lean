/-! The pure part: data -/
def mk4 (B : Nat → Bool) : Nat → Nat
  | 0 => 0
  | t + 1 => mk4 B t + (if B t then 2 ^ t else 0)
theorem mk4_lt (B : Nat → Bool) : ∀ t, mk4 B t < 2 ^ t := by
  intro t
  induction t with
  | zero => exact Nat.zero_lt_one
  | succ t ih =>
    show mk4 B t + (if B t then 2 ^ t else 0) < 2 ^ (t + 1)
    have : 2 ^ (t + 1) = 2 ^ t + 2 ^ t := by rw [Nat.pow_succ]; omega
    split <;> omega
theorem m_or : ∀ t, t < 4 → ∀ a, a < 8 → (a < 2 ^ t → nI a ||| (1 <<< (nI t &&& 31)) = nI (a + 2 ^ t)) := by decide +kernel
theorem m_ad : ∀ t, t < 4 → ∀ a, a < 8 → (a < 2 ^ t → nI a + (1 <<< (nI t &&& 31)) = nI (a + 2 ^ t)) := by decide +kernel
theorem mk4_8 (B : Nat → Bool) {t : Nat} (h : t < 4) : mk4 B t < 8 := by
  have a := mk4_lt B t
  have : t = 0 ∨ t = 1 ∨ t = 2 ∨ t = 3 := by omega
  rcases this with e | e | e | e <;> rw [e] at a ⊢ <;> omega
theorem lp_Sw_carry {u : pj_M} {i p : Nat} {x4 : Int32} {K : Int32 → pj_M → Prop} {B : Nat → Bool} (hp : p < 4) (e0 : u i 0 = nI p) (hB : ∀ t, t < 4 → (B t = true ↔ ((x4 = -1 ∨ x4 = nI t) ∧ ¬ t = p ∧ ¬ u (185 + 7 * t) 6 = 0))) (kk : K (nI (mk4 B 4)) u) : ∀ (d t : Nat), t + d = 4 → pb_Sw_carry_53 K i x4 (d + 1) u (nI (mk4 B t)) (nI t) := by
  intro d
  induction d with
  | zero =>
    intro t ht
    have e : t = 4 := by omega
    subst e
    exact br_t (by decide) kk
  | succ d ih =>
    intro t ht
    have t4 : t < 4 := by omega
    have no : ¬ ((x4 = -1 ∨ x4 = nI t) ∧ ¬ t = p ∧ ¬ u (185 + 7 * t) 6 = 0) → pb_Sw_carry_115 (pb_Sw_carry_53 K i x4 (d + 1)) K u i x4 (nI (mk4 B t)) (nI t) := by
      intro hn
      have b0 : B t = false := by
        cases hb : B t
        · rfl
        · exact absurd ((hB t t4).mp hb) hn
      have e : mk4 B (t + 1) = mk4 B t := by
        show mk4 B t + (if B t then 2 ^ t else 0) = mk4 B t
        rw [b0]; simp
      show pb_Sw_carry_53 K i x4 (d + 1) u (nI (mk4 B t)) (nI t + 1)
      rw [nI_1, ← e]
      exact ih (t + 1) (by omega)
    have yes : (x4 = -1 ∨ x4 = nI t) → pb_Sw_carry_84 (pb_Sw_carry_53 K i x4 (d + 1)) K u i x4 (nI (mk4 B t)) (nI t) := by
      intro hx
      unfold pb_Sw_carry_84
      rw [e0]
      refine br_c (fun e => no (fun z => z.2.1 ((nI_eq (by omega) (by omega)).mp e))) (fun e => ⟨v4 t4, ?_⟩)
      rw [c4 t4]
      refine br_c (fun y => no (fun z => z.2.2 y)) (fun y => plt ?_)
      have b1 : B t = true := (hB t t4).mpr ⟨hx, fun z => e (by rw [z]), y⟩
      have ee : mk4 B (t + 1) = mk4 B t + 2 ^ t := by
        show mk4 B t + (if B t then 2 ^ t else 0) = mk4 B t + 2 ^ t
        rw [b1]; simp
      rw [m_or t t4 _ (mk4_8 B t4) (mk4_lt B t)]
      show pb_Sw_carry_53 K i x4 (d + 1) u (nI (mk4 B t + 2 ^ t)) (nI t + 1)
      rw [nI_1, ← ee]
      exact ih (t + 1) (by omega)
    refine br_f (fun q => nI_ge (a := t) (b := 4) (by omega) (by decide) q) (br_c (fun e => br_f (by decide) (yes (Or.inl e))) (fun e => br_c (fun e' => br_f (by decide) (yes (Or.inr e'))) (fun e' => br_t rfl (no (fun z => z.1.elim e e')))))
theorem lp_Mo_data {u : pj_M} {p : Nat} {x4 : Int32} {K : Int32 → pj_M → Prop} {B : Nat → Bool} (hp : p < 4) (hB : ∀ t, t < 4 → (B t = true ↔ ((x4 < 0 ∨ x4 = nI t) ∧ ¬ t = p ∧ ¬ u 260 t = 0))) (kk : K (nI (mk4 B 4)) u) : ∀ (d t : Nat), t + d = 4 → pb_Mo_data_83 K (nI p) x4 (d + 1) u (nI (mk4 B t)) (nI t) := by
  intro d
  induction d with
  | zero =>
    intro t ht
    have e : t = 4 := by omega
    subst e
    exact br_t (by decide) kk
  | succ d ih =>
    intro t ht
    have t4 : t < 4 := by omega
    have no : ¬ ((x4 < 0 ∨ x4 = nI t) ∧ ¬ t = p ∧ ¬ u 260 t = 0) → pb_Mo_data_126 (pb_Mo_data_83 K (nI p) x4 (d + 1)) K u (nI p) x4 (nI t) (nI (mk4 B t)) := by
      intro hn
      have b0 : B t = false := by
        cases hb : B t
        · rfl
        · exact absurd ((hB t t4).mp hb) hn
      have e : mk4 B (t + 1) = mk4 B t := by
        show mk4 B t + (if B t then 2 ^ t else 0) = mk4 B t
        rw [b0]; simp
      unfold pb_Mo_data_126 pb_Mo_data_127
      refine plt ?_
      rw [Int32.add_zero, nI_1, ← e]
      exact ih (t + 1) (by omega)
    have yes : ((x4 < 0 ∨ x4 = nI t) ∧ ¬ t = p ∧ ¬ u 260 t = 0) → pb_Mo_data_119 (pb_Mo_data_83 K (nI p) x4 (d + 1)) K u (nI p) x4 (nI t) (nI (mk4 B t)) := by
      intro hx
      have b1 : B t = true := (hB t t4).mpr hx
      have ee : mk4 B (t + 1) = mk4 B t + 2 ^ t := by
        show mk4 B t + (if B t then 2 ^ t else 0) = mk4 B t + 2 ^ t
        rw [b1]; simp
      unfold pb_Mo_data_119 pb_Mo_data_127
      refine plt ?_
      rw [m_ad t t4 _ (mk4_8 B t4) (mk4_lt B t), nI_1, ← ee]
      exact ih (t + 1) (by omega)
    refine br_f (fun q => nI_ge (a := t) (b := 4) (by omega) (by decide) q) ⟨v4 t4, ?_⟩
    rw [c4 t4]
    refine br_c (fun y => no (fun z => z.2.2 y)) (fun y => br_c (fun e => no (fun z => z.2.1 ((nI_eq (by omega) (by omega)).mp e))) (fun e => ?_))
    have ne : ¬ t = p := fun z => e (by rw [z])
    exact br_c (fun w => yes ⟨Or.inl w, ne, y⟩) (fun w => br_c (fun w' => yes ⟨Or.inr w', ne, y⟩) (fun w' => no (fun z => z.1.elim w w')))
theorem pp_16 {c c' u u' : pj_M} {p : Nat} {v : Int32} (P : PP c u p) (ec : c' (185 + 7 * p) = up (c (185 + 7 * p)) 16 v) (hc : ∀ a, 185 + 7 * p < a → a ≤ 185 + 7 * p + 6 → c' a = c a) (er : rs u' p = up (rs u p) 16 v) (h3 : u' 263 = u 263) (h6 : u' 276 = u 276) (h0 : u' 217 0 = u 217 0) : PP c' u' p := by
  obtain ⟨la, as, ⟨a1, a2, a3, a4, a5, a6, a7⟩, r1, r2⟩ := P
  refine ⟨la, as, ?_, ?_, ?_⟩
  · rw [ec, er]
    refine ⟨cm_up a1 rfl, a2, a3, a4, ?_, a6, ?_⟩
    · rcases a5 with z | ⟨z1, z2, z3, z4⟩
      · exact Or.inl z
      · exact Or.inr ⟨z1, z2, z3, z4.keep (fun j _ => by rw [h3])⟩
    · rcases a7 with z | ⟨z1, z2, z3, z4, z5, z6, z7, z8, z9, z10, z11⟩
      · exact Or.inl z
      · exact Or.inr ⟨z1, z2, z3, z4, z5, z6, z7, z8, z9, z10, z11.keep (fun j _ => by rw [h6])⟩
  · rw [ec]
    rcases r1 with z | z
    · exact Or.inl z
    · exact Or.inr (z.keep (hc _ (by omega) (by omega)) (hc _ (by omega) (by omega)))
  · rw [ec, er, h0]
    rcases r2 with z | ⟨z1, z2⟩
    · exact Or.inl z
    · exact Or.inr ⟨z1.keep (hc _ (by omega) (by omega)) (hc _ (by omega) (by omega)), z2.keep (hc _ (by omega) (by omega)) (hc _ (by omega) (by omega))⟩
theorem lw_data {u : pj_M} {x1 x2 x3 : Int32} {K : Int32 → Int32 → pj_M → Prop} (R : Rel u) (k : ∀ r u', Rel u' → K r r u') : pw_PG_data u x1 x2 x3 fun r u1 => pw_Mo_data u1 x1 x2 x3 fun r' u2 => K r r' u2 := by
  have R0 := R
  obtain ⟨ms, C, hb, hm, hw⟩ := R
  refine sp_PG_isPort (fun p hp e => br_f (by decide) ?_) (fun hn => br_t rfl ?_)
  rotate_left
  · rcases hn with h | ⟨t, ht, h2, e⟩
    · exact br_t h (k _ u R0)
    · subst e
      exact br_f (nn0 ht) (br_t (nI_lt (a := 3) (by omega) ht) (k _ u R0))
  subst e
  have n3 : ¬ 3 < nI p := nI_nlt (a := 3) (b := p) (by omega) (by decide)
  have h0 : ¬ nI p < 0 := nn0 (by omega)
  refine br_c (fun y => br_f h0 (br_f n3 (br_t y (k _ u R0)))) (fun y2 => ?_)
  obtain ⟨a, ha, ea⟩ := nI_of y2
  subst ea
  refine br_c (fun y => br_f h0 (br_f n3 (br_f y2 (br_t ((ge_lt (n := 7) ha (by decide)).mp y) (k _ u R0))))) (fun y8 => ?_)
  have n7 : ¬ 7 < nI a := fun z => y8 ((ge_lt (n := 7) ha (by decide)).mpr z)
  have a8 : a < 8 := Nat.lt_of_not_le (fun z => y8 (nI_le (a := 8) z ha))
  refine br_c (fun y => br_f h0 (br_f n3 (br_f y2 (br_f n7 (br_t y (k _ u R0)))))) (fun y3 => br_c (fun y38 => ?_) (fun y => br_f h0 (br_f n3 (br_f y2 (br_f n7 (br_f y3 (br_f y (k _ u R0))))))))
  obtain ⟨b, hb', eb⟩ := nI_of y3
  subst eb
  have b8 : b ≤ 8 := by
    rcases Nat.lt_or_ge 8 b with z | z
    · exact absurd y38 (nI_ge (a := 8) z hb')
    · exact z
  have P := C.2.2.1 p hp
  obtain ⟨la, as, ⟨a1, a2, a3, a4, a5, a6, a7⟩, rl, rq⟩ := C.2.2.1 p hp
  have t6 : ∀ q, q < 4 → u 260 q = u (185 + 7 * q) 6 := by
    intro q hq
    obtain ⟨_, _, ⟨z, _⟩, _⟩ := C.2.2.1 q hq
    exact (z 6 (by decide) (by decide) (by decide) (by decide)).symm
  have t16 : u 270 p = u (185 + 7 * p) 16 := (a1 16 (by decide) (by decide) (by decide) (by decide)).symm
  unfold pb_PG_data_29 pw_Sw_carry pb_Sw_carry_0
  refine ⟨v4 hp, ?_⟩
  rw [c4 hp]
  have ent : ∀ (w : pj_M) (r : Int32), pb_Mo_data_31 (fun r' u2 => K r r' u2) w (nI p) (nI a) (nI b) → pw_Mo_data w (nI p) (nI a) (nI b) fun r' u2 => K r r' u2 := fun w r kk => br_f h0 (br_f n3 (br_f y2 (br_f n7 (br_f y3 (br_t y38 kk)))))
  refine br_c (fun y => ent u 0 ⟨v4 hp, ?_⟩) (fun y6 => ⟨v8 a8, pu (pu ?_)⟩)
  · rw [c4 hp, t6 p hp]
    exact br_t y (k _ u R0)
  have z16 : (pj_set u 172 (nI a).toNatClampNeg (u (185 + 7 * p) 0)) (185 + 7 * p) 16 = u (185 + 7 * p) 16 := by rw [ps_i (by omega)]
  rw [z16, nI_clamp ha, a2]
  have oc : ∀ q, q ≠ 172 → q ≠ 185 + 7 * p → (pj_set (pj_set u 172 a (nI p)) (185 + 7 * p) 16 (u (185 + 7 * p) 16 + 1)) q = u q := fun q h1 h2 => by rw [ps_i h2, ps_i h1]
  have e72 : (pj_set (pj_set u 172 a (nI p)) (185 + 7 * p) 16 (u (185 + 7 * p) 16 + 1)) 172 = up (u 172) a (nI p) := by rw [ps_i (by omega), st_up]
  have ec : (pj_set (pj_set u 172 a (nI p)) (185 + 7 * p) 16 (u (185 + 7 * p) 16 + 1)) (185 + 7 * p) = up (u (185 + 7 * p)) 16 (u (185 + 7 * p) 16 + 1) := by rw [st_up, ps_i (by omega)]
  generalize pj_set (pj_set u 172 a (nI p)) (185 + 7 * p) 16 (u (185 + 7 * p) 16 + 1) = c' at oc e72 ec ⊢
  have ocr : ∀ q, 217 ≤ q → c' q = u q := fun q h => oc q (by omega) (by omega)
  -- where the destination was last seen
  have W := C.2.2.2.1
  have wl : ∀ j, j < 8 → up (u 172) a (nI p) j = up (u 278) a (nI p) j := by
    intro j hj
    by_cases c : j = a
    · rw [c, up_s, up_s]
    · rw [up_k c, up_k c]; exact W.2 j hj
  have key : ∀ x4 : Int32, (x4 = -1 ∨ 0 ≤ x4) → ((nI b = 8 ∧ x4 = -1) ∨ (¬ nI b = 8 ∧ b < 8 ∧ x4 = up (u 278) a (nI p) b)) → pb_Sw_carry_45 (fun r u1 => pw_Mo_data u1 (nI p) (nI a) (nI b) fun r' u2 => K r r' u2) c' (185 + 7 * p) x4 := by
    intro x4 hx hxb
    have hneg : x4 < 0 ↔ x4 = -1 := by
      constructor
      · intro z
        exact hx.resolve_right (Int32.not_le.mpr z)
      · intro z; rw [z]; decide
    have v6 : ∀ q, q < 4 → c' (185 + 7 * q) 6 = u (185 + 7 * q) 6 := by
      intro q hq
      by_cases c : q = p
      · rw [c, ec, up_k (by decide)]
      · rw [oc _ (by omega) (by omega)]
    refine ⟨5, lp_Sw_carry (p := p) (B := fun t => decide ((x4 = -1 ∨ x4 = nI t) ∧ ¬ t = p ∧ ¬ c' (185 + 7 * t) 6 = 0)) hp (by rw [ec, up_k (by decide)]; exact a2) (fun t _ => by simp only [decide_eq_true_eq]) ?_ 4 0 (by decide)⟩
    refine ent c' _ ⟨v4 hp, br_f ?_ ⟨v8 a8, pu ⟨v4 hp, v4 hp, pu ?_⟩⟩⟩
    · rw [c4 hp, ocr 260 (by decide), t6 p hp]; exact y6
    rw [c4 hp, nI_clamp ha]
    have z70 : (pj_set c' 278 a (nI p)) 270 p = u (185 + 7 * p) 16 := by rw [ps_i (by decide), ocr 270 (by decide), t16]
    rw [z70]
    have ou : ∀ q, q ≠ 278 → q ≠ 270 → (pj_set (pj_set c' 278 a (nI p)) 270 p (u (185 + 7 * p) 16 + 1)) q = c' q := fun q h1 h2 => by rw [ps_i h2, ps_i h1]
    have e78 : (pj_set (pj_set c' 278 a (nI p)) 270 p (u (185 + 7 * p) 16 + 1)) 278 = up (u 278) a (nI p) := by rw [ps_i (by decide), st_up, ocr 278 (by decide)]
    have er : rs (pj_set (pj_set c' 278 a (nI p)) 270 p (u (185 + 7 * p) 16 + 1)) p = up (rs u p) 16 (u (185 + 7 * p) 16 + 1) := by rw [rs_16, rs_keep (u := u) (fun q h _ _ _ h' => (ps_i h').trans (ocr q (by omega)))]
    have f : frP p c' (pj_set (pj_set c' 278 a (nI p)) 270 p (u (185 + 7 * p) 16 + 1)) := (frP.ln (fun q h => ps_i h)).tr (frP.set (by decide) (by decide) (by decide))
    generalize pj_set (pj_set c' 278 a (nI p)) 270 p (u (185 + 7 * p) 16 + 1) = u' at ou e78 er f ⊢
    have q : ∀ q, 217 ≤ q → q ≠ 278 → q ≠ 270 → u' q = u q := fun q h1 h2 h3 => (ou q h2 h3).trans (ocr q h1)
    have RCc : RC u c' := C.keep (fun _ _ => rfl) (gr.of ocr)
    have P' : PP c' u' p := pp_16 P ec (fun q h1 h2 => oc q (by omega) (by omega)) er (q 263 (by decide) (by decide) (by decide)) (q 276 (by decide) (by decide) (by decide)) (by rw [q 217 (by decide) (by decide) (by decide)])
    have W' : RW c' u' := by
      obtain ⟨⟨w0, w7, w8, wf, w9⟩, _⟩ := W
      refine ⟨⟨?_, ?_, ?_, ?_, ?_⟩, fun j hj => ?_⟩
      · rw [oc 170 (by decide) (by omega), q 217 (by decide) (by decide) (by decide)]; exact w0
      · rw [oc 170 (by decide) (by omega), q 217 (by decide) (by decide) (by decide)]; exact w7
      · rw [oc 170 (by decide) (by omega), q 217 (by decide) (by decide) (by decide)]; exact w8
      · rw [q 217 (by decide) (by decide) (by decide)]; exact wf
      · rw [oc 170 (by decide) (by omega), q 277 (by decide) (by decide) (by decide)]; exact w9
      · rw [e72, e78]; exact wl j hj
    have L' : LN u' := by
      intro j hj
      rw [e78]
      by_cases c : j = a
      · rw [c, up_s]; exact Or.inr (nI_nn (by omega))
      · rw [up_k c]; exact C.2.2.2.2.2.2.2.2 j hj
    have fin : ∀ r, K r r u' := fun r => k r u' (Rel.mk (c' := c') (RCc.port hp P' W' L' (fun q h1 h2 h3 => oc q (by omega) (by omega)) f) (hb.keep (fun q h1 h2 _ _ => oc q (by omega) (by omega))) (hm.of (fun j h1 h2 => q j h1 (by omega) (by omega))) hw (fun q h => ou q (by omega) (by omega)))
    have v60 : ∀ t, t < 4 → u' 260 t = c' (185 + 7 * t) 6 := by
      intro t ht
      rw [q 260 (by decide) (by decide) (by decide), t6 t ht, v6 t ht]
    have go : pb_Mo_data_75 (fun r' u2 => K (nI (mk4 (fun t => decide ((x4 = -1 ∨ x4 = nI t) ∧ ¬ t = p ∧ ¬ c' (185 + 7 * t) 6 = 0)) 4)) r' u2) u' (nI p) x4 := by
      refine ⟨5, lp_Mo_data (p := p) (B := fun t => decide ((x4 = -1 ∨ x4 = nI t) ∧ ¬ t = p ∧ ¬ c' (185 + 7 * t) 6 = 0)) hp (fun t ht => ?_) (fin _) 4 0 (by decide)⟩
      rw [decide_eq_true_eq, hneg, v60 t ht]
    rcases hxb with ⟨e8, ex⟩ | ⟨e8, b8', ex⟩
    · subst ex
      exact br_t e8 go
    · refine br_f e8 ⟨v8 b8', ?_⟩
      rw [nI_clamp hb', e78, ← ex]
      exact go
  refine br_c (fun e => key (-1) (Or.inl rfl) (Or.inl ⟨e, rfl⟩)) (fun e => ?_)
  have b8' : b < 8 := by
    rcases Nat.lt_or_ge b 8 with z | z
    · exact z
    · have : b = 8 := by omega
      subst this
      exact absurd rfl e
  refine ⟨v8 b8', ?_⟩
  rw [nI_clamp hb', e72, wl b b8']
  refine key _ ?_ (Or.inr ⟨e, b8', rfl⟩)
  by_cases c : b = a
  · rw [c, up_s]; exact Or.inr (nI_nn (by omega))
  · rw [up_k c]; exact C.2.2.2.2.2.2.2.2 b b8'
