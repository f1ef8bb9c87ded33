/-! The pure part: the reference's row and packet -/
theorem jn_eq (a b c d : Int32) : (((a <<< ((24 : Int32) &&& 31)) ||| (b <<< ((16 : Int32) &&& 31))) ||| (c <<< ((8 : Int32) &&& 31))) ||| d = jn a b c d := by
  apply b_ext
  intro i hi
  unfold jn
  rw [b_or, b_or, b_or, b_or, b_shl24 a hi, b_shl16 b hi, b_shl8 c hi, b_shl8 _ hi, b_or, b_shl8 _ (show i - 8 < 32 by omega), b_or, b_shl8 _ (show i - 8 - 8 < 32 by omega), b_or, b_shl8 _ (show i - 8 - 8 - 8 < 32 by omega), b_0]
  rw [show i - 8 - 8 - 8 = i - 24 by omega, show i - 8 - 8 = i - 16 by omega]
  by_cases h8 : 8 ≤ i
  · by_cases h16 : 16 ≤ i
    · by_cases h24 : 24 ≤ i
      · have e1 : 8 ≤ i - 8 := by omega
        have e2 : 8 ≤ i - 16 := by omega
        simp [h8, h16, h24, e1, e2]
      · have e1 : 8 ≤ i - 8 := by omega
        have e2 : ¬ 8 ≤ i - 16 := by omega
        simp [h8, h16, h24, e1, e2]
    · have e1 : ¬ 8 ≤ i - 8 := by omega
      have e3 : ¬ 24 ≤ i := by omega
      simp [h8, h16, e1, e3]
  · have e2 : ¬ 16 ≤ i := by omega
    have e3 : ¬ 24 ≤ i := by omega
    simp [h8, e2, e3]
/-- bytes alone -/
def bl (l : List Int32) : Prop := ∀ j, j < l.length → l.getD j 0 &&& 255 = l.getD j 0
theorem gd_in {l : List Int32} {j : Nat} {d e : Int32} (h : j < l.length) : l.getD j d = l.getD j e := by
  rw [List.getD_eq_getElem?_getD, List.getD_eq_getElem?_getD, List.getElem?_eq_getElem h]
  rfl
theorem iA_in {l : List Int32} {i : Nat} (hb : bl l) (h : i + 3 < l.length) : iA l i = jn (l.getD i 0) (l.getD (i + 1) 0) (l.getD (i + 2) 0) (l.getD (i + 3) 0) := by
  unfold iA
  rw [gd_in (e := 0) (show i < l.length by omega), gd_in (e := 0) (show i + 1 < l.length by omega), gd_in (e := 0) (show i + 2 < l.length by omega), gd_in (e := 0) h, hb i (by omega), hb (i + 1) (by omega), hb (i + 2) (by omega), hb (i + 3) h]
theorem sp_Mo_intAt {u : pj_M} {l : List Int32} {x : Int32} {i : Nat} {K : Int32 → pj_M → Prop} (hr : mR u l) (hb : bl l) (hx : x = nI i) (hi : i + 3 < l.length) (k : K (iA l i) u) : pw_Mo_intAt u x K := by
  subst hx
  have h48 := hr.2.1
  have c : ∀ d, d ≤ 3 → vp_in (nI (i + d)) 48 ∧ (nI (i + d)).toNatClampNeg = i + d := fun d hd => ⟨vp_in_nI (by omega) (by decide), nI_clamp (by omega)⟩
  show vp_in (nI i) 48 ∧ (vp_in (nI i + 1) 48 ∧ (vp_in (nI i + 2) 48 ∧ (vp_in (nI i + 3) 48 ∧ (K (((((u 226 (nI i).toNatClampNeg) <<< ((24 : Int32) &&& 31)) ||| ((u 226 (nI i + 1).toNatClampNeg) <<< ((16 : Int32) &&& 31))) ||| ((u 226 (nI i + 2).toNatClampNeg) <<< ((8 : Int32) &&& 31))) ||| (u 226 (nI i + 3).toNatClampNeg)) u))))
  rw [show nI i + 1 = nI (i + 1) from nI_add i 1, show nI i + 2 = nI (i + 2) from nI_add i 2, show nI i + 3 = nI (i + 3) from nI_add i 3, (c 1 (by omega)).2, (c 2 (by omega)).2, (c 3 (by omega)).2, show (nI i).toNatClampNeg = i from (c 0 (by omega)).2]
  refine ⟨(c 0 (by omega)).1, (c 1 (by omega)).1, (c 2 (by omega)).1, (c 3 (by omega)).1, ?_⟩
  rw [jn_eq, hr.2.2 i (by omega), hr.2.2 (i + 1) (by omega), hr.2.2 (i + 2) (by omega), hr.2.2 (i + 3) hi]
  rw [iA_in hb hi] at k
  exact k
theorem sp_Mo_packetInt {u : pj_M} {l : List Int32} {x : Int32} {i : Nat} {K : Int32 → pj_M → Prop} (hr : mP u l) (hb : bl l) (hx : x = nI i) (hi : i + 3 < l.length) (k : K (iA l i) u) : pw_Mo_packetInt u x K := by
  subst hx
  have h48 := hr.2.1
  have c : ∀ d, d ≤ 3 → vp_in (nI (i + d)) 48 ∧ (nI (i + d)).toNatClampNeg = i + d := fun d hd => ⟨vp_in_nI (by omega) (by decide), nI_clamp (by omega)⟩
  show vp_in (nI i) 48 ∧ (vp_in (nI i + 1) 48 ∧ (vp_in (nI i + 2) 48 ∧ (vp_in (nI i + 3) 48 ∧ (K (((((u 227 (nI i).toNatClampNeg) <<< ((24 : Int32) &&& 31)) ||| ((u 227 (nI i + 1).toNatClampNeg) <<< ((16 : Int32) &&& 31))) ||| ((u 227 (nI i + 2).toNatClampNeg) <<< ((8 : Int32) &&& 31))) ||| (u 227 (nI i + 3).toNatClampNeg)) u))))
  rw [show nI i + 1 = nI (i + 1) from nI_add i 1, show nI i + 2 = nI (i + 2) from nI_add i 2, show nI i + 3 = nI (i + 3) from nI_add i 3, (c 1 (by omega)).2, (c 2 (by omega)).2, (c 3 (by omega)).2, show (nI i).toNatClampNeg = i from (c 0 (by omega)).2]
  refine ⟨(c 0 (by omega)).1, (c 1 (by omega)).1, (c 2 (by omega)).1, (c 3 (by omega)).1, ?_⟩
  rw [jn_eq, hr.2.2 i (by omega), hr.2.2 (i + 1) (by omega), hr.2.2 (i + 2) (by omega), hr.2.2 (i + 3) hi]
  rw [iA_in hb hi] at k
  exact k
/-- the row alone has changed; the packet alone has changed -/
def fR (u u' : pj_M) : Prop := (∀ a, a ≠ 217 → a ≠ 226 → u' a = u a) ∧ ∀ k, k ≠ 11 → u' 217 k = u 217 k
def fP' (u u' : pj_M) : Prop := (∀ a, a ≠ 217 → a ≠ 227 → u' a = u a) ∧ ∀ k, k ≠ 16 → u' 217 k = u 217 k
theorem fR.rf {u : pj_M} : fR u u := ⟨fun _ _ _ => rfl, fun _ _ => rfl⟩
theorem fR.tr {u v w : pj_M} (h : fR u v) (k : fR v w) : fR u w := ⟨fun a h1 h2 => (k.1 a h1 h2).trans (h.1 a h1 h2), fun a ha => (k.2 a ha).trans (h.2 a ha)⟩
theorem fP'.tr {u v w : pj_M} (h : fP' u v) (k : fP' v w) : fP' u w := ⟨fun a h1 h2 => (k.1 a h1 h2).trans (h.1 a h1 h2), fun a ha => (k.2 a ha).trans (h.2 a ha)⟩
theorem fR.n {u : pj_M} {v : Int32} : fR u (pj_set u 217 11 v) := ⟨fun _ h _ => ps_i h, fun _ h => ps_k h⟩
theorem fR.a {u : pj_M} {k : Nat} {v : Int32} : fR u (pj_set u 226 k v) := ⟨fun _ _ h => ps_i h, fun _ _ => by rw [ps_i (by decide)]⟩
theorem fP'.n {u : pj_M} {v : Int32} : fP' u (pj_set u 217 16 v) := ⟨fun _ h _ => ps_i h, fun _ h => ps_k h⟩
theorem fP'.a {u : pj_M} {k : Nat} {v : Int32} : fP' u (pj_set u 227 k v) := ⟨fun _ _ h => ps_i h, fun _ _ => by rw [ps_i (by decide)]⟩
theorem mP.fR {u u' : pj_M} {l : List Int32} (h : mP u l) (g : fR u u') : mP u' l := h.keep (g.2 16 (by decide)) (g.1 227 (by decide) (by decide))
theorem mR.fP {u u' : pj_M} {l : List Int32} (h : mR u l) (g : fP' u u') : mR u' l := h.keep (g.2 11 (by decide)) (g.1 226 (by decide) (by decide))
theorem mR0 {u : pj_M} : mR (pj_set u 217 11 0) [] := ⟨ps_s, by simp, fun j hj => absurd hj (Nat.not_lt_zero j)⟩
theorem sp_Mo_toRow {u : pj_M} {l : List Int32} {x : Int32} {K : pj_M → Prop} (hr : mR u l) (hl : l.length < 48) (k : ∀ u', mR u' (l ++ [x &&& 255]) → fR u u' → K u') : pw_Mo_toRow u x K := by
  refine ⟨by rw [hr.1]; exact vp_in_nI hl (by decide), ?_⟩
  refine k _ ⟨?_, by simp; omega, fun j hj => ?_⟩ (fR.a.tr fR.n)
  · rw [ps_s, ps_i (by decide), hr.1, nI_1]; simp
  · rw [ps_i (by decide), hr.1, nI_clamp (by omega)]
    rw [List.length_append, List.length_singleton] at hj
    by_cases e : j = l.length
    · rw [e, ps_s, gd_hi]
    · rw [ps_k e, gd_lo (by omega), hr.2.2 j (by omega)]
theorem mR.put {u : pj_M} {l : List Int32} {j : Nat} {v : Int32} (hr : mR u l) (hj : j < l.length) : mR (pj_set u 226 j v) (l.set j v) := by
  refine ⟨by rw [ps_i (by decide), hr.1]; simp, by simp; exact hr.2.1, fun t ht => ?_⟩
  rw [List.length_set] at ht
  rw [gd_set hj]
  by_cases e : t = j
  · rw [e, ps_s, if_pos rfl]
  · rw [ps_k e, if_neg e]; exact hr.2.2 t ht
theorem sp_Mo_intoRow {u : pj_M} {l : List Int32} {x v : Int32} {j : Nat} {K : pj_M → Prop} (hr : mR u l) (hx : x = nI j) (hj : j + 3 < l.length) (k : ∀ u', mR u' (si l j v) → fR u u' → K u') : pw_Mo_intoRow u x v K := by
  subst hx
  have h48 := hr.2.1
  have c : ∀ d, d ≤ 3 → vp_in (nI j + nI d) 48 ∧ (nI j + nI d).toNatClampNeg = j + d := fun d hd => by
    rw [nI_add]; exact ⟨vp_in_nI (by omega) (by decide), nI_clamp (by omega)⟩
  have r0 := hr.put (j := j) (v := y3 v) (by omega)
  have r1 := r0.put (j := j + 1) (v := y2 v) (by simp; omega)
  have r2 := r1.put (j := j + 2) (v := y1 v) (by simp; omega)
  have r3 := r2.put (j := j + 3) (v := y0 v) (by simp; omega)
  have hk := k _ r3 ((fR.a.tr fR.a).tr (fR.a.tr fR.a))
  have e0 : (nI j + 0).toNatClampNeg = j := (c 0 (by omega)).2
  have e1 : (nI j + (0 + 1)).toNatClampNeg = j + 1 := (c 1 (by omega)).2
  have e2 : (nI j + (0 + 1 + 1)).toNatClampNeg = j + 2 := (c 2 (by omega)).2
  have e3 : (nI j + (0 + 1 + 1 + 1)).toNatClampNeg = j + 3 := (c 3 (by omega)).2
  refine ⟨5, br_f (by decide) ⟨(c 0 (by omega)).1, br_f (by decide) ⟨(c 1 (by omega)).1, br_f (by decide) ⟨(c 2 (by omega)).1, br_f (by decide) ⟨(c 3 (by omega)).1, br_t (by decide) ?_⟩⟩⟩⟩⟩
  show K (pj_set (pj_set (pj_set (pj_set u 226 (nI j + 0).toNatClampNeg ((v >>> ((24 - (8 * 0)) &&& 31)) &&& 255)) 226 (nI j + (0 + 1)).toNatClampNeg ((v >>> ((24 - (8 * (0 + 1))) &&& 31)) &&& 255)) 226 (nI j + (0 + 1 + 1)).toNatClampNeg ((v >>> ((24 - (8 * (0 + 1 + 1))) &&& 31)) &&& 255)) 226 (nI j + (0 + 1 + 1 + 1)).toNatClampNeg ((v >>> ((24 - (8 * (0 + 1 + 1 + 1))) &&& 31)) &&& 255))
  rw [e0, e1, e2, e3, show (24 : Int32) - 8 * 0 = 24 by decide, show (24 : Int32) - 8 * (0 + 1) = 16 by decide, show (24 : Int32) - 8 * (0 + 1 + 1) = 8 by decide, show (24 : Int32) - 8 * (0 + 1 + 1 + 1) = 0 by decide, y_sh3, y_sh2, y_sh1, y_sh0]
  exact hk
