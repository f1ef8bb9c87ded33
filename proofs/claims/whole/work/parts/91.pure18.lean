/-! The pure part: a host of the reference takes a frame -/
/-- host h: class cells in c, reference cells in u -/
def RH (c u : pj_M) (h : Nat) : Prop :=
  (c (91 + 5 * h) 0 = nI h ∧ c (91 + 5 * h) 4 = u 228 h ∧ c (91 + 5 * h) 5 = u 229 h ∧ c (91 + 5 * h) 6 = u 230 h ∧ c (91 + 5 * h) 11 = u 233 h ∧ c (91 + 5 * h) 12 = u 234 h) ∧
  (c (91 + 5 * h) 8 = u 235 h ∧ c (91 + 5 * h) 9 = u 236 h ∧ c (91 + 5 * h) 10 = u 237 h ∧ c (91 + 5 * h) 13 = u 238 h) ∧
  (u 228 h = -1 ∨ 0 ≤ u 228 h) ∧
  ((c (91 + 5 * h) 7 = 0 ∧ u 231 h = 0) ∨ (c (91 + 5 * h) 7 = 1 ∧ ∃ l, rw_ c (91 + 5 * h + 3) l ∧ u 231 h = nI l.length ∧ 3 ≤ l.length ∧ bl l ∧ aR u 232 h l))
/-- what a host's step leaves of the reference -/
def frH (h : Nat) (u u' : pj_M) : Prop := (∀ a, a ≠ 217 → (a < 221 ∨ 224 < a) → a ≠ 226 → a ≠ 227 → (a < 228 ∨ 238 < a) → a ≠ 277 → u' a = u a) ∧ (∀ k, k ≠ 4 → (k < 11 ∨ 18 < k) → u' 217 k = u 217 k) ∧ (∀ a q, 228 ≤ a → a ≤ 238 → a ≠ 232 → q ≠ h → u' a q = u a q) ∧ ∀ q, (q < 20 * h ∨ 20 * h + 20 ≤ q) → u' 232 q = u 232 q
theorem frH.rf {h : Nat} {u : pj_M} : frH h u u := ⟨fun _ _ _ _ _ _ _ => rfl, fun _ _ _ => rfl, fun _ _ _ _ _ _ => rfl, fun _ _ => rfl⟩
theorem frH.tr {h : Nat} {u v w : pj_M} (p : frH h u v) (q : frH h v w) : frH h u w := ⟨fun a h1 h2 h3 h4 h5 h6 => (q.1 a h1 h2 h3 h4 h5 h6).trans (p.1 a h1 h2 h3 h4 h5 h6), fun k h1 h2 => (q.2.1 k h1 h2).trans (p.2.1 k h1 h2), fun a r h1 h2 h3 h4 => (q.2.2.1 a r h1 h2 h3 h4).trans (p.2.2.1 a r h1 h2 h3 h4), fun r h1 => (q.2.2.2 r h1).trans (p.2.2.2 r h1)⟩
theorem gm.frH {h : Nat} {u v : pj_M} (g : gm u v) : frH h u v := ⟨fun a h1 h2 h3 h4 _ _ => g.1 a h1 h2 h3 h4, g.2, fun a r h1 h2 _ _ => by rw [g.1 a (by omega) (by omega) (by omega) (by omega)], fun r _ => by rw [g.1 232 (by decide) (by decide) (by decide) (by decide)]⟩
theorem frH.set {h a : Nat} {v : Int32} {u : pj_M} (h1 : 228 ≤ a) (h2 : a ≤ 238) (h3 : a ≠ 232) : frH h u (pj_set u a h v) := ⟨fun b _ _ _ _ h5 _ => ps_i (by omega), fun k _ _ => by rw [ps_i (by omega)], fun b q _ _ _ h4 => by
  by_cases e : b = a
  · rw [e, ps_k h4]
  · rw [ps_i e], fun q _ => by rw [ps_i (by omega)]⟩
theorem frH.w {h : Nat} {v : Int32} {u : pj_M} : frH h u (pj_set u 277 1 v) := ⟨fun b _ _ _ _ _ h6 => ps_i h6, fun k _ _ => by rw [ps_i (by decide)], fun b q _ _ _ _ => by rw [ps_i (by omega)], fun q _ => by rw [ps_i (by decide)]⟩
theorem frH.la {h : Nat} {u v : pj_M} (g : fA 232 h u v) : frH h u v := ⟨fun b _ _ _ _ h5 _ => g.1 b (by omega), fun k _ _ => by rw [g.1 217 (by decide)], fun b q _ _ h3 _ => by rw [g.1 b h3], g.2⟩
theorem v4 {h : Nat} (hh : h < 4) : vp_in (nI h) 4 := vp_in_nI hh (by decide)
theorem c4 {h : Nat} (hh : h < 4) : (nI h).toNatClampNeg = h := nI_clamp (by omega)
theorem nr0 : vp_nar .boolean 0 = 0 := by decide
theorem nr1 : vp_nar .boolean 1 = 1 := by decide
theorem bl.drop {l : List Int32} (h : bl l) : bl (l.drop 1) := by
  intro j hj
  rw [List.length_drop] at hj
  have := h (j + 1) (by omega)
  rw [List.getD_eq_getElem?_getD, List.getElem?_drop, Nat.add_comm, ← List.getD_eq_getElem?_getD]
  exact this
theorem bl_y (v : Int32) : y3 v &&& 255 = y3 v ∧ y2 v &&& 255 = y2 v ∧ y1 v &&& 255 = y1 v ∧ y0 v &&& 255 = y0 v := by
  have e : ∀ x : Int32, (x &&& 255) &&& 255 = x &&& 255 := fun x => by
    apply b_ext
    intro i _
    rw [b_and, b_and, b_255]
    cases bt x i <;> simp
  exact ⟨e _, e _, e _, e _⟩
theorem and255 (x : Int32) : (x &&& 255) &&& 255 = x &&& 255 := (bl_y x).2.2.2
theorem bl_nil : bl [] := fun j hj => absurd hj (Nat.not_lt_zero j)
theorem bl_cons {x : Int32} {l : List Int32} (hx : x &&& 255 = x) (hl : bl l) : bl (x :: l) := by
  intro j hj
  cases j with
  | zero => exact hx
  | succ j => exact hl j (by simpa using hj)
theorem bl_app {a c : List Int32} (ha : bl a) (hc : bl c) : bl (a ++ c) := by
  intro j hj
  by_cases h : j < a.length
  · rw [gd_app h]; exact ha j h
  · have e : j = a.length + (j - a.length) := by omega
    rw [e, gd_apr]
    exact hc _ (by rw [List.length_append] at hj; omega)
theorem bl_b4 (v : Int32) : bl (b4 v) := bl_cons (bl_y v).1 (bl_cons (bl_y v).2.1 (bl_cons (bl_y v).2.2.1 (bl_cons (bl_y v).2.2.2 bl_nil)))
theorem bl_set {l : List Int32} {j : Nat} {x : Int32} (hl : bl l) (hx : x &&& 255 = x) : bl (l.set j x) := by
  intro t ht
  rw [List.length_set] at ht
  by_cases hj : j < l.length
  · rw [gd_set hj]
    split
    · exact hx
    · exact hl t ht
  · rw [List.set_eq_of_length_le (by omega)]
    exact hl t ht
theorem bl_pd {l ds : List Int32} (hl : bl l) (hd : bl ds) (h : l.length + ds.length < 256) : bl (pd l ds) := bl_set (bl_app hl hd) (b255 _ h)
theorem bl_ph2 {i t : Int32} (ht : t &&& 255 = t) : bl (ph 2 i t) := by
  rw [ph2]
  exact bl_cons (by decide) (bl_cons (and255 i) (bl_cons (by decide) (bl_cons ht bl_nil)))
theorem rH_ser {h : Nat} {c u u' : pj_M} (R : RH c u h) (g : ∀ a, 228 ≤ a → a ≤ 238 → u' a = u a) : RH c u' h := by
  obtain ⟨⟨a0, a1, a2, a3, a4, a5⟩, ⟨b1, b2, b3, b4⟩, d, e⟩ := R
  have gg : ∀ a, 228 ≤ a → a ≤ 238 → u' a h = u a h := fun a h1 h2 => by rw [g a h1 h2]
  refine ⟨⟨a0, ?_, ?_, ?_, ?_, ?_⟩, ⟨?_, ?_, ?_, ?_⟩, ?_, ?_⟩
  · rw [gg 228 (by decide) (by decide)]; exact a1
  · rw [gg 229 (by decide) (by decide)]; exact a2
  · rw [gg 230 (by decide) (by decide)]; exact a3
  · rw [gg 233 (by decide) (by decide)]; exact a4
  · rw [gg 234 (by decide) (by decide)]; exact a5
  · rw [gg 235 (by decide) (by decide)]; exact b1
  · rw [gg 236 (by decide) (by decide)]; exact b2
  · rw [gg 237 (by decide) (by decide)]; exact b3
  · rw [gg 238 (by decide) (by decide)]; exact b4
  · rw [gg 228 (by decide) (by decide)]; exact d
  · rw [gg 231 (by decide) (by decide)]
    rcases e with e | ⟨e, l, r, n, n3, bb, ar⟩
    · exact Or.inl e
    · exact Or.inr ⟨e, l, r, n, n3, bb, ar.keep (fun j _ => by rw [g 232 (by decide) (by decide)])⟩
/-- the wrong frames are counted alike -/
def wrS (c c' u u' : pj_M) (i q : Nat) (k : Nat) : Prop := (c' i k = c i k ∧ u' 277 = u 277) ∨ (c' i k = c i k + 1 ∧ u' 277 = (pj_set u 277 q (u 277 q + 1)) 277)
