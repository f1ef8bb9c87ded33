/-! The pure part: the reference's digests -/
def fh (u u' : pj_M) : Prop := (∀ a, a ≠ 217 → u' a = u a) ∧ ∀ k, k ≠ 18 → u' 217 k = u 217 k
theorem fh.rf {u : pj_M} : fh u u := ⟨fun _ _ => rfl, fun _ _ => rfl⟩
theorem fh.tr {u v w : pj_M} (h : fh u v) (k : fh v w) : fh u w := ⟨fun a ha => (k.1 a ha).trans (h.1 a ha), fun a ha => (k.2 a ha).trans (h.2 a ha)⟩
theorem fh.set {u : pj_M} {v : Int32} : fh u (pj_set u 217 18 v) := ⟨fun _ ha => ps_i ha, fun _ hk => ps_k hk⟩
theorem sp_Mo_begun {u : pj_M} {K : pj_M → Prop} (k : ∀ u', u' 217 18 = d0 → fh u u' → K u') : pw_Mo_begun u K := k _ ps_s fh.set
theorem sp_Mo_add {u : pj_M} {h x : Int32} {K : pj_M → Prop} (hh : u 217 18 = h) (k : ∀ u', u' 217 18 = dB h x → fh u u' → K u') : pw_Mo_add u x K :=
  k _ (by rw [ps_s, hh]; rfl) fh.set
theorem sp_Mo_addInt {u : pj_M} {h v : Int32} {K : pj_M → Prop} (hh : u 217 18 = h) (k : ∀ u', u' 217 18 = dI h v → fh u u' → K u') : pw_Mo_addInt u v K := by
  refine ⟨5, br_f (by decide) ?_⟩
  refine sp_Mo_add hh (fun u1 h1 g1 => br_f (by decide) ?_)
  refine sp_Mo_add h1 (fun u2 h2 g2 => br_f (by decide) ?_)
  refine sp_Mo_add h2 (fun u3 h3 g3 => br_f (by decide) ?_)
  refine sp_Mo_add h3 (fun u4 h4 g4 => br_t (by decide) ?_)
  refine k u4 ?_ (g1.tr (g2.tr (g3.tr g4)))
  rw [h4, y_sh3, show (24 : Int32) + -8 = 16 by decide, y_sh2, show (16 : Int32) + -8 = 8 by decide, y_sh1, show (8 : Int32) + -8 = 0 by decide, y_sh0]
  rfl
theorem sp_Mo_sum {u : pj_M} {h : Int32} {K : Int32 → pj_M → Prop} (hh : u 217 18 = h) (k : K (dE h) u) : pw_Mo_sum u K := by
  show K _ u
  rw [hh]
  exact k
theorem sp_Mo_mixed {u : pj_M} {key x n : Int32} {K : Int32 → pj_M → Prop} (hx : x &&& 255 = x) (k : ∀ u', fh u u' → K (rnd key x n) u') : pw_Mo_mixed u key x n K := by
  refine sp_Mo_begun (fun u1 h1 g1 => sp_Mo_addInt h1 (fun u2 h2 g2 => sp_Mo_add h2 (fun u3 h3 g3 => sp_Mo_addInt h3 (fun u4 h4 g4 => sp_Mo_sum h4 ?_))))
  have e : rnd key x n = dE (dI (dB (dI d0 key) x) n) := by unfold rnd; rw [hx]
  rw [← e]
  exact k u4 (g1.tr (g2.tr (g3.tr g4)))
theorem sp_Mo_proved {u : pj_M} {id key r : Int32} {K : Int32 → pj_M → Prop} (hx : id &&& 255 = id) (k : ∀ u', fh u u' → K (chal id key r) u') : pw_Mo_proved u id key r K := by
  refine sp_Mo_begun (fun u1 h1 g1 => sp_Mo_add h1 (fun u2 h2 g2 => sp_Mo_addInt h2 (fun u3 h3 g3 => sp_Mo_addInt h3 (fun u4 h4 g4 => sp_Mo_sum h4 ?_))))
  have e : chal id key r = dE (dI (dI (dB d0 id) key) r) := by unfold chal; rw [hx]
  rw [← e]
  exact k u4 (g1.tr (g2.tr (g3.tr g4)))
theorem sp_Mo_outer {u : pj_M} {key x : Int32} {K : Int32 → pj_M → Prop} (k : ∀ u', fh u u' → K (mOut key x) u') : pw_Mo_outer u key x K :=
  sp_Mo_begun (fun u1 h1 g1 => sp_Mo_addInt h1 (fun u2 h2 g2 => sp_Mo_add h2 (fun u3 h3 g3 => sp_Mo_addInt h3 (fun u4 h4 g4 => sp_Mo_sum h4 (k u4 (g1.tr (g2.tr (g3.tr g4))))))))
theorem sp_Mo_mac {u : pj_M} {key b x y : Int32} {K : Int32 → pj_M → Prop} (hb : b &&& 255 = b) (k : ∀ u', fh u u' → K (mPrf key b x y) u') : pw_Mo_mac u key b x y K := by
  refine sp_Mo_begun (fun u1 h1 g1 => sp_Mo_addInt h1 (fun u2 h2 g2 => sp_Mo_add h2 (fun u3 h3 g3 => sp_Mo_add h3 (fun u4 h4 g4 => sp_Mo_addInt h4 (fun u5 h5 g5 => sp_Mo_addInt h5 (fun u6 h6 g6 => sp_Mo_sum h6 (sp_Mo_outer (fun u7 g7 => ?_))))))))
  have e : mPrf key b x y = mOut key (dE (dI (dI (dB (dB (dI d0 key) 54) b) x) y)) := by unfold mPrf; rw [hb]
  rw [← e]
  exact k u7 (g1.tr (g2.tr (g3.tr (g4.tr (g5.tr (g6.tr g7))))))
theorem sp_Mo_authOf {u : pj_M} {s n : Int32} {K : Int32 → pj_M → Prop} (hs : u 217 0 = s) (k : ∀ u', fh u u' → K (hInts s n) u') : pw_Mo_authOf u n K := by
  refine sp_Mo_begun (fun u1 h1 g1 => ?_)
  show pw_Mo_addInt u1 (u1 217 0) _
  rw [g1.2 0 (by decide), hs]
  exact sp_Mo_addInt h1 (fun u2 h2 g2 => sp_Mo_addInt h2 (fun u3 h3 g3 => sp_Mo_sum h3 (k u3 (g1.tr (g2.tr g3)))))
/-- the reference's row holds the list l; its packet holds the list l -/
def mR (u : pj_M) (l : List Int32) : Prop := u 217 11 = nI l.length ∧ l.length ≤ 48 ∧ ∀ j, j < l.length → u 226 j = l.getD j 0
def mP (u : pj_M) (l : List Int32) : Prop := u 217 16 = nI l.length ∧ l.length ≤ 48 ∧ ∀ j, j < l.length → u 227 j = l.getD j 0
theorem mR.keep {u u' : pj_M} {l : List Int32} (h : mR u l) (h0 : u' 217 11 = u 217 11) (h1 : u' 226 = u 226) : mR u' l := ⟨by rw [h0]; exact h.1, h.2.1, fun j hj => by rw [h1]; exact h.2.2 j hj⟩
theorem mP.keep {u u' : pj_M} {l : List Int32} (h : mP u l) (h0 : u' 217 16 = u 217 16) (h1 : u' 227 = u 227) : mP u' l := ⟨by rw [h0]; exact h.1, h.2.1, fun j hj => by rw [h1]; exact h.2.2 j hj⟩
theorem mR.fh {u u' : pj_M} {l : List Int32} (h : mR u l) (g : fh u u') : mR u' l := h.keep (g.2 11 (by decide)) (g.1 226 (by decide))
theorem mP.fh {u u' : pj_M} {l : List Int32} (h : mP u l) (g : fh u u') : mP u' l := h.keep (g.2 16 (by decide)) (g.1 227 (by decide))
theorem gd_set {l : List Int32} {j t : Nat} {v d : Int32} (h : j < l.length) : (l.set j v).getD t d = if t = j then v else l.getD t d := by
  rw [List.getD_eq_getElem?_getD, List.getD_eq_getElem?_getD]
  by_cases e : t = j
  · subst e
    rw [if_pos rfl, List.getElem?_set_self h]
    rfl
  · rw [if_neg e, List.getElem?_set_ne (Ne.symm e)]
theorem si_gd {l : List Int32} {j t : Nat} {v d : Int32} (h : j + 3 < l.length) : (si l j v).getD t d = if t = j + 3 then y0 v else if t = j + 2 then y1 v else if t = j + 1 then y2 v else if t = j then y3 v else l.getD t d := by
  unfold si
  rw [gd_set (by simp; omega), gd_set (by simp; omega), gd_set (by simp; omega), gd_set (by omega)]
theorem sp_Mo_byteWith {u : pj_M} {l : List Int32} {t : Nat} {a : Int32} {K : Int32 → pj_M → Prop} (hr : mR u l) (ht : t < l.length) (h6 : 6 < l.length) (k : K ((si l 3 a).getD t 0) u) : pw_Mo_byteWith u (nI t) a K := by
  have h48 := hr.2.1
  rw [si_gd (by omega)] at k
  have go : (t < 3 ∨ 7 ≤ t) → pb_Mo_byteWith_27 K u (nI t) := by
    intro h
    refine ⟨vp_in_nI (by omega) (by decide), ?_⟩
    show K (u 226 (nI t).toNatClampNeg) u
    rw [nI_clamp (by omega), hr.2.2 t ht]
    rw [if_neg (by omega), if_neg (by omega), if_neg (by omega), if_neg (by omega)] at k
    exact k
  refine br_c (fun h => ?_) (fun h => ?_)
  · exact go (Or.inl ((nI_ltI (b := 3) (by omega) (by decide)).mp h))
  refine br_c (fun h2 => ?_) (fun h2 => ?_)
  · exact go (Or.inr ((nI_leI (a := 7) (by decide) (by omega)).mp h2))
  have h3 : 3 ≤ t := Nat.le_of_not_lt (fun z => h (nI_lt (b := 3) z (by decide)))
  have h7 : t < 7 := Nat.lt_of_not_le (fun z => h2 (nI_le (a := 7) z (by omega)))
  show K ((a >>> ((8 * (6 - nI t)) &&& 31)) &&& 255) u
  have ht' : t = 3 ∨ t = 4 ∨ t = 5 ∨ t = 6 := by omega
  rcases ht' with rfl | rfl | rfl | rfl
  · rw [show (8 : Int32) * (6 - nI 3) = 24 by decide, y_sh3]; exact k
  · rw [show (8 : Int32) * (6 - nI 4) = 16 by decide, y_sh2]; exact k
  · rw [show (8 : Int32) * (6 - nI 5) = 8 by decide, y_sh1]; exact k
  · rw [show (8 : Int32) * (6 - nI 6) = 0 by decide, y_sh0]; exact k
theorem lp_Mo_authWith {l : List Int32} {a s : Int32} {K : Int32 → pj_M → Prop} (h6 : 6 < l.length) : ∀ (d t : Nat) (u : pj_M) (h : Int32), t + d = l.length → mR u l → u 217 0 = s → u 217 18 = h → (∀ u', fh u u' → K (dE (dI (dL h ((si l 3 a).drop t)) s)) u') → pb_Mo_authWith_6 K a (d + 1) u (nI t) := by
  intro d
  induction d with
  | zero =>
    intro t u h ht hr hs hh k
    refine br_t (by rw [hr.1]; exact nI_le (by omega) (by have := hr.2.1; omega)) ?_
    rw [List.drop_eq_nil_of_le (by rw [si_len]; omega)] at k
    show pw_Mo_addInt u (u 217 0) _
    rw [hs]
    exact sp_Mo_addInt hh (fun u1 h1 g1 => sp_Mo_sum h1 (k u1 g1))
  | succ d ih =>
    intro t u h ht hr hs hh k
    have h48 := hr.2.1
    refine br_f (by rw [hr.1]; exact nI_ge (by omega) (by omega)) ?_
    refine sp_Mo_byteWith hr (by omega) h6 (sp_Mo_add hh (fun u1 h1 g1 => ?_))
    show pb_Mo_authWith_6 K a (d + 1) u1 (nI t + 1)
    rw [nI_1]
    refine ih (t + 1) u1 _ (by omega) (hr.fh g1) ((g1.2 0 (by decide)).trans hs) h1 (fun u' g' => ?_)
    have := k u' (g1.tr g')
    rw [dr_c (by rw [si_len]; omega)] at this
    exact this
theorem sp_Mo_authWith {u : pj_M} {l : List Int32} {a s : Int32} {K : Int32 → pj_M → Prop} (hr : mR u l) (h6 : 6 < l.length) (hs : u 217 0 = s) (k : ∀ u', fh u u' → K (hRow (si l 3 a) s) u') : pw_Mo_authWith u a K :=
  sp_Mo_begun (fun u1 h1 g1 => ⟨l.length + 1, lp_Mo_authWith h6 l.length 0 u1 d0 (by omega) (hr.fh g1) ((g1.2 0 (by decide)).trans hs) h1 (fun u' g' => k u' (g1.tr g'))⟩)
theorem lp_Mo_sealWith {l : List Int32} {a s : Int32} {j : Nat} {K : Int32 → pj_M → Prop} (h6 : 6 < l.length) (hj : j + 3 < l.length) : ∀ (d t : Nat) (u : pj_M) (h : Int32), t + d = l.length → mR u l → u 217 0 = s → u 217 15 = nI j → u 217 18 = h → (∀ u', fh u u' → K (mOut s (dE (dL h ((si (si l 3 a) j 0).drop t)))) u') → pb_Mo_sealWith_20 K a (d + 1) u (nI t) := by
  intro d
  induction d with
  | zero =>
    intro t u h ht hr hs hse hh k
    refine br_t (by rw [hr.1]; exact nI_le (by omega) (by have := hr.2.1; omega)) ?_
    rw [List.drop_eq_nil_of_le (by rw [si_len, si_len]; omega)] at k
    refine sp_Mo_sum hh ?_
    show pw_Mo_outer u (u 217 0) _ _
    rw [hs]
    exact sp_Mo_outer k
  | succ d ih =>
    intro t u h ht hr hs hse hh k
    have h48 := hr.2.1
    refine br_f (by rw [hr.1]; exact nI_ge (by omega) (by omega)) ?_
    have go : ∀ x, x = (si (si l 3 a) j 0).getD t 0 → pb_Mo_sealWith_57 (pb_Mo_sealWith_20 K a (d + 1)) K u a (nI t) x := by
      intro x hx
      refine sp_Mo_add hh (fun u1 h1 g1 => ?_)
      show pb_Mo_sealWith_20 K a (d + 1) u1 (nI t + 1)
      rw [nI_1]
      refine ih (t + 1) u1 _ (by omega) (hr.fh g1) ((g1.2 0 (by decide)).trans hs) ((g1.2 15 (by decide)).trans hse) h1 (fun u' g' => ?_)
      have := k u' (g1.tr g')
      rw [dr_c (by rw [si_len, si_len]; omega), ← hx] at this
      exact this
    have out : (t < j ∨ j + 4 ≤ t) → pb_Mo_sealWith_51 (pb_Mo_sealWith_20 K a (d + 1)) K u a (nI t) := by
      intro hc
      refine sp_Mo_byteWith hr (by omega) h6 (go _ ?_)
      rw [si_gd (l := si l 3 a) (by rw [si_len]; omega), if_neg (by omega), if_neg (by omega), if_neg (by omega), if_neg (by omega)]
    refine br_c (fun h1 => ?_) (fun h1 => ?_)
    · rw [hse] at h1
      exact out (Or.inl ((nI_ltI (by omega) (by omega)).mp h1))
    rw [hse] at h1
    have hjt : j ≤ t := Nat.le_of_not_lt (fun z => h1 (nI_lt z (by omega)))
    refine br_c (fun h2 => ?_) (fun h2 => ?_)
    · rw [hse, show nI j + 4 = nI (j + 4) from nI_add j 4] at h2
      exact out (Or.inr ((nI_leI (by omega) (by omega)).mp h2))
    rw [hse, show nI j + 4 = nI (j + 4) from nI_add j 4] at h2
    have hjt4 : t < j + 4 := Nat.lt_of_not_le (fun z => h2 (nI_le z (by omega)))
    refine go 0 ?_
    rw [si_gd (l := si l 3 a) (by rw [si_len]; omega)]
    have hc : t = j ∨ t = j + 1 ∨ t = j + 2 ∨ t = j + 3 := by omega
    rcases hc with rfl | rfl | rfl | rfl
    · rw [if_neg (by omega), if_neg (by omega), if_neg (by omega), if_pos rfl]; decide
    · rw [if_neg (by omega), if_neg (by omega), if_pos rfl]; decide
    · rw [if_neg (by omega), if_pos rfl]; decide
    · rw [if_pos rfl]; decide
theorem sp_Mo_sealWith {u : pj_M} {l : List Int32} {a s : Int32} {j : Nat} {K : Int32 → pj_M → Prop} (hr : mR u l) (h6 : 6 < l.length) (hj : j + 3 < l.length) (hs : u 217 0 = s) (hse : u 217 15 = nI j) (k : ∀ u', fh u u' → K (mRow s (si (si l 3 a) j 0)) u') : pw_Mo_sealWith u a K := by
  refine sp_Mo_begun (fun u1 h1 g1 => ?_)
  show pw_Mo_addInt u1 (u1 217 0) _
  rw [g1.2 0 (by decide), hs]
  refine sp_Mo_addInt h1 (fun u2 h2 g2 => sp_Mo_add h2 (fun u3 h3 g3 => ?_))
  have g := g1.tr (g2.tr g3)
  exact ⟨l.length + 1, lp_Mo_sealWith h6 hj l.length 0 u3 _ (by omega) (hr.fh g) ((g.2 0 (by decide)).trans hs) ((g.2 15 (by decide)).trans hse) h3 (fun u' g' => k u' (g.tr g'))⟩
