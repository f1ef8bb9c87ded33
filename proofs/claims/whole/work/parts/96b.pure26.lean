/-! The pure part: a port of class and reference -/
def cm (σ τ : Nat → Int32) : Prop := ∀ q, 4 ≤ q → q ≤ 17 → q ≠ 12 → q ≠ 13 → σ q = τ q
theorem cm_up {σ τ : Nat → Int32} {k : Nat} {v w : Int32} (h : cm σ τ) (e : v = w) : cm (up σ k v) (up τ k w) := by
  intro q h1 h2 h3 h4
  by_cases c : q = k
  · rw [c, up_s, up_s, e]
  · rw [up_k c, up_k c]; exact h q h1 h2 h3 h4
theorem cm_l {σ τ : Nat → Int32} {k : Nat} {v : Int32} (h : cm σ τ) (hk : k = 12 ∨ k = 13) : cm (up σ k v) τ := by
  intro q h1 h2 h3 h4
  rw [up_k (by omega)]; exact h q h1 h2 h3 h4
theorem cm_r {σ τ : Nat → Int32} {k : Nat} {v : Int32} (h : cm σ τ) (hk : k = 12 ∨ k = 13 ∨ 17 < k) : cm σ (up τ k v) := by
  intro q h1 h2 h3 h4
  rw [up_k (by omega)]; exact h q h1 h2 h3 h4
theorem cm_v {σ τ : Nat → Int32} {k : Nat} {v : Int32} (h : cm σ τ) (e : σ k = v) : cm σ (up τ k v) := by
  intro q h1 h2 h3 h4
  by_cases c : q = k
  · rw [c, up_s, e]
  · rw [up_k c]; exact h q h1 h2 h3 h4
theorem up_cm {σ : Nat → Int32} {k l : Nat} {v w : Int32} (h : k ≠ l) : up (up σ k v) l w = up (up σ l w) k v := by
  funext q
  by_cases a : q = l
  · rw [a, up_s, up_k (Ne.symm h), up_s]
  · rw [up_k a]
    by_cases b : q = k
    · rw [b, up_s, up_s]
    · rw [up_k b, up_k b, up_k a]
/-- port p: σ in the class, τ in the reference -/
def RP (σ τ : Nat → Int32) (la as : List Int32) (u : pj_M) (p : Nat) : Prop :=
  cm σ τ ∧ σ 0 = nI p ∧ ((σ 4 = 0 ∨ σ 4 = 1) ∧ (σ 6 = 0 ∨ σ 6 = 1)) ∧ ((σ 10 = -1 ∨ 0 ≤ σ 10) ∧ (σ 11 = -1 ∨ 0 ≤ σ 11)) ∧
  (σ 4 = 0 ∨ (τ 20 = nI la.length ∧ 3 ≤ la.length ∧ bl la ∧ aR u 263 p la)) ∧
  (σ 8 = 0 ∨ (¬ σ 4 = 0 ∧ (σ 5 = 1 ∨ σ 5 = 2) ∧ σ 12 = 0)) ∧
  ((σ 12 = 0 ∧ τ 13 = -1) ∨ (¬ σ 4 = 0 ∧ (σ 12 = 1 ∨ σ 12 = 2) ∧ σ 12 = τ 12 ∧ σ 13 = τ 13 ∧ (τ 13 = 0 ∨ τ 13 = 1) ∧ σ 5 = 2 ∧ σ 8 = 0 ∧ τ 19 = nI as.length ∧ 3 < as.length ∧ bl as ∧ aR u 276 p as))
def PP (c u : pj_M) (p : Nat) : Prop := ∃ la as, RP (c (185 + 7 * p)) (rs u p) la as u p ∧ (c (185 + 7 * p) 4 = 0 ∨ rw_ c (185 + 7 * p + 1) la) ∧ (c (185 + 7 * p) 12 = 0 ∨ (rw_ c (185 + 7 * p + 3) as ∧ rw_ c (185 + 7 * p + 5) (gY (u 217 0) 1 (rs u p 18 &&& 255) (hInts (u 217 0) (rs u p 18)) (c (185 + 7 * p) 10) (c (185 + 7 * p) 11) as)))
theorem PP.keep {c c' u u' : pj_M} {p : Nat} (P : PP c u p) (hc : ∀ a, 185 + 7 * p ≤ a → a ≤ 185 + 7 * p + 6 → c' a = c a) (hr : rs u' p = rs u p) (h3 : ∀ j, j < 20 → u' 263 (20 * p + j) = u 263 (20 * p + j)) (h6 : ∀ j, j < 20 → u' 276 (20 * p + j) = u 276 (20 * p + j)) (h0 : u' 217 0 = u 217 0) : PP c' u' p := by
  obtain ⟨la, as, ⟨a1, a2, a3, a4, a5, a6, a7⟩, r1, r2⟩ := P
  refine ⟨la, as, ?_, ?_, ?_⟩
  · rw [hc _ (by omega) (by omega), hr]
    refine ⟨a1, a2, a3, a4, ?_, a6, ?_⟩
    · rcases a5 with z | ⟨z1, z2, z3, z4⟩
      · exact Or.inl z
      · exact Or.inr ⟨z1, z2, z3, z4.keep h3⟩
    · rcases a7 with z | ⟨z1, z2, z3, z4, z5, z6, z7, z8, z9, z10, z11⟩
      · exact Or.inl z
      · exact Or.inr ⟨z1, z2, z3, z4, z5, z6, z7, z8, z9, z10, z11.keep h6⟩
  · rw [hc (185 + 7 * p) (by omega) (by omega)]
    rcases r1 with z | z
    · exact Or.inl z
    · exact Or.inr (z.keep (hc _ (by omega) (by omega)) (hc _ (by omega) (by omega)))
  · rw [hc (185 + 7 * p) (by omega) (by omega), hr, h0]
    rcases r2 with z | ⟨z1, z2⟩
    · exact Or.inl z
    · exact Or.inr ⟨z1.keep (hc _ (by omega) (by omega)) (hc _ (by omega) (by omega)), z2.keep (hc _ (by omega) (by omega)) (hc _ (by omega) (by omega))⟩
theorem frP.rs {p q : Nat} {u u' : pj_M} (f : frP p u u') (h : q ≠ p) : rs u' q = rs u q := by
  funext r
  show u' (ce r) q = u (ce r) q
  by_cases c : 4 ≤ r ∧ r ≤ 20
  · have := ce_lo r (by omega) c.1
    exact f.2.2.1 _ q this.1 this.2.1 this.2.2 h
  · rw [ce_hi (by omega), f.1 _ (by omega) (by omega) (by omega) (by omega) (by omega)]
theorem PP.other {c c' u u' : pj_M} {p q : Nat} (P : PP c u q) (hpq : q ≠ p) (hc : ∀ a, 185 + 7 * q ≤ a → a ≤ 185 + 7 * q + 6 → c' a = c a) (f : frP p u u') : PP c' u' q :=
  P.keep hc (f.rs hpq) (fun j hj => f.2.2.2.1 263 _ (Or.inl rfl) (by omega)) (fun j hj => f.2.2.2.1 276 _ (Or.inr rfl) (by omega)) (f.2.1 0 (by decide) (by decide) (by decide) (by decide))
/-- the switch -/
def RW (c u : pj_M) : Prop := (c 170 0 = u 217 0 ∧ c 170 7 = u 217 68 ∧ c 170 8 = u 217 69 ∧ (u 217 69 = 0 ∨ u 217 69 = 1) ∧ c 170 9 = u 277 0) ∧ ∀ j, j < 8 → c 172 j = u 278 j
theorem RW.same {c c' u u' : pj_M} (W : RW c u) (h1 : c' 170 = c 170) (h2 : c' 172 = c 172) (s : swK u u') : RW c' u' := by
  obtain ⟨⟨a, b, d, e, g⟩, l⟩ := W
  refine ⟨⟨?_, ?_, ?_, ?_, ?_⟩, fun j hj => ?_⟩
  · rw [h1, s.2.2.2.2]; exact a
  · rw [h1, s.1]; exact b
  · rw [h1, s.2.1]; exact d
  · rw [s.2.1]; exact e
  · rw [h1, s.2.2.1]; exact g
  · rw [h2, s.2.2.2.1]; exact l j hj
theorem RW.cl {c c' u u' : pj_M} {x : Int32} (W : RW c u) (h1 : c' 170 = c 170) (h2 : ∀ j, j < 8 → c' 172 j = clS (c 172) x j) (h3 : ∀ j, j < 8 → u' 278 j = clS (u 278) x j) (s1 : u' 217 68 = u 217 68) (s2 : u' 217 69 = u 217 69) (s3 : u' 277 0 = u 277 0) (s4 : u' 217 0 = u 217 0) : RW c' u' := by
  obtain ⟨⟨a, b, d, e, g⟩, l⟩ := W
  refine ⟨⟨?_, ?_, ?_, ?_, ?_⟩, fun j hj => ?_⟩
  · rw [h1, s4]; exact a
  · rw [h1, s1]; exact b
  · rw [h1, s2]; exact d
  · rw [s2]; exact e
  · rw [h1, s3]; exact g
  · rw [h2 j hj, h3 j hj]
    unfold clS
    rw [l j hj]
theorem pp_begin {c' u' : pj_M} {p : Nat} {σ τ : Nat → Int32} (h : cm σ τ) (h0 : σ 0 = nI p) (h4 : σ 4 = 1) (h6 : σ 6 = 0 ∨ σ 6 = 1) (h10 : σ 10 = -1 ∨ 0 ≤ σ 10) (ec : c' (185 + 7 * p) = bgS σ) (r1 : rw_ c' (185 + 7 * p + 1) (ph 1 (σ 17) 1)) (eu : rs u' p = bgM τ) (ar : aR u' 263 p (ph 1 (τ 17) 1)) : PP c' u' p := by
  have e17 : σ 17 = τ 17 := h 17 (by decide) (by decide) (by decide) (by decide)
  have b4 : bgS σ 4 = 1 := h4
  have b8 : ¬ bgS σ 8 = 0 := by show ¬ (1 : Int32) = 0; decide
  have b12 : bgS σ 12 = 0 := rfl
  refine ⟨ph 1 (τ 17) 1, [], ?_, Or.inr (by rw [← e17]; exact r1), Or.inl (by rw [ec]; exact b12)⟩
  rw [ec, eu]
  refine ⟨?_, h0, ⟨Or.inr b4, h6⟩, ⟨h10, Or.inl rfl⟩, Or.inr ⟨rfl, by rw [ph1_len]; decide, bl_ph1, ar⟩, Or.inr ⟨by rw [b4]; decide, Or.inl rfl, b12⟩, Or.inl ⟨b12, rfl⟩⟩
  unfold bgS bgM slS
  rw [up_cm (show (17 : Nat) ≠ 8 by decide), up_cm (show (17 : Nat) ≠ 9 by decide), up_cm (show (17 : Nat) ≠ 7 by decide)]
  refine cm_up (cm_up (cm_up (cm_up (cm_r (cm_up (cm_r (cm_l (cm_up h rfl) (Or.inl rfl)) (Or.inr (Or.inl rfl))) rfl) (Or.inr (Or.inr (by decide)))) rfl) rfl) rfl) ?_
  rw [e17]
theorem pp_ask {c' u' : pj_M} {p : Nat} {σ τ : Nat → Int32} {la as : List Int32} {x s n : Int32} (h : cm σ τ) (h0 : σ 0 = nI p) (h4 : σ 4 = 1) (h6 : σ 6 = 0 ∨ σ 6 = 1) (h10 : σ 10 = -1 ∨ 0 ≤ σ 10) (h11 : σ 11 = -1 ∨ 0 ≤ σ 11) (hla : τ 20 = nI la.length ∧ 3 ≤ la.length ∧ bl la ∧ aR u' 263 p la) (rla : rw_ c' (185 + 7 * p + 1) la) (h5 : σ 5 = 2) (h8 : σ 8 = 0) (hx : x = 0 ∨ x = 1) (h19 : τ 19 = nI as.length) (a3 : 3 < as.length) (ab : bl as) (aa : aR u' 276 p as) (ec : c' (185 + 7 * p) = akS σ x) (eu : rs u' p = up (up (up (up τ 13 x) 18 n) 12 1) 7 0) (r3 : rw_ c' (185 + 7 * p + 3) as) (r5 : rw_ c' (185 + 7 * p + 5) (gY s 1 (n &&& 255) (hInts s n) (σ 10) (σ 11) as)) (hs : u' 217 0 = s) : PP c' u' p := by
  refine ⟨la, as, ?_, Or.inr rla, Or.inr ⟨r3, ?_⟩⟩
  · rw [ec, eu]
    refine ⟨?_, h0, ⟨Or.inr h4, h6⟩, ⟨h10, h11⟩, Or.inr hla, Or.inl h8, Or.inr ⟨?_, Or.inl rfl, rfl, rfl, hx, h5, h8, h19, a3, ab, aa⟩⟩
    · unfold akS
      refine cm_up (cm_r (cm_l (cm_r (cm_r (cm_l h (Or.inr rfl)) (Or.inr (Or.inl rfl))) (Or.inr (Or.inr (by decide)))) (Or.inl rfl)) (Or.inl rfl)) rfl
    · show ¬ σ 4 = 0
      rw [h4]; decide
  · rw [ec, eu, hs]
    exact r5
