/-! The pure part: datagrams of the class, written, sealed, checked -/
def pC (m : List Int32) : Nat → Nat → List Int32
  | 0, _ => []
  | n + 1, a => if m.length ≤ a then [] else [79, nI (min 8 (m.length - a) + 2)] ++ (sl m a (min 8 (m.length - a)) ++ pC m n (a + 8))
theorem b255 : ∀ n, n < 256 → nI n &&& 255 = nI n := by decide +kernel
theorem min8 {a c : Nat} (ha : a ≤ c) (hc : c < 2 ^ 31) : (if nI c - nI a < 8 then nI c - nI a else 8) = nI (min 8 (c - a)) := by
  rw [pk_sub ha]
  by_cases h : c - a < 8
  · have e : nI (c - a) < 8 := nI_lt (b := 8) h (by decide)
    rw [if_pos e, Nat.min_eq_right (by omega)]
  · have e : ¬ nI (c - a) < 8 := nI_nlt (a := c - a) (b := 8) (by omega) (by omega)
    rw [if_neg e, Nat.min_eq_left (by omega)]
    rfl
theorem lp_Da_writePieces {i q : Nat} {m : List Int32} {K : pj_M → Prop} (hd : q + 1 < i ∨ i + 4 < q) : ∀ (d a : Nat) (u : pj_M) (l : List Int32), m.length < a + 8 * d → a ≤ 1000 → rw_ u (i + 1) l → rw_ u q m → l.length + (pC m d a).length ≤ 48 → (∀ u', rw_ u' (i + 1) (l ++ pC m d a) → f2 (i + 1) u u' → K u') → pb_Da_writePieces_2 K i q (d + 1) u (nI a) := by
  intro d
  induction d with
  | zero =>
    intro a u l hm ha hr hq hlen k
    refine br_t (by rw [hq.1]; exact nI_le (by omega) (by omega)) ?_
    exact k u (by simpa [pC] using hr) f2.rf
  | succ d ih =>
    intro a u l hm ha hr hq hlen k
    have hm48 := hq.2.1
    by_cases h : m.length ≤ a
    · refine br_t (by rw [hq.1]; exact nI_le h (by omega)) ?_
      rw [pC, if_pos h] at k
      exact k u (by simpa using hr) f2.rf
    · refine br_f (by rw [hq.1]; exact nI_ge (by omega) (by omega)) ?_
      rw [pC, if_neg h] at hlen k
      have hc8 : min 8 (m.length - a) ≤ 8 := Nat.min_le_left _ _
      have hcl : min 8 (m.length - a) ≤ m.length - a := Nat.min_le_right _ _
      show pj_let (if u q 1 - nI a < 8 then u q 1 - nI a else 8) _
      rw [hq.1, min8 (by omega) (by omega)]
      generalize min 8 (m.length - a) = c at *
      have hsl : (sl m a c).length = c := by simp [sl]; omega
      simp only [List.length_append, List.length_cons, List.length_nil, hsl] at hlen
      refine sp_Ro_put hr (by omega) (fun u1 h1 g1 => ?_)
      refine sp_Ro_put h1 (by simp; omega) (fun u2 h2 g2 => ?_)
      have g12 := g1.tr g2
      have hq2 : rw_ u2 q m := hq.keep (g12 _ (by omega) (by omega)) (g12 _ (by omega) (by omega))
      refine sp_Ro_append a c rfl rfl (by omega) h2 hq2 (by omega) (by omega) (by omega) (by simp [hsl]; omega) (fun u3 h3 g3 => ?_)
      have hq3 : rw_ u3 q m := hq2.keep (g3 _ (by omega) (by omega)) (g3 _ (by omega) (by omega))
      show pb_Da_writePieces_2 K i q (d + 1) u3 (nI a + 8)
      rw [show nI a + 8 = nI (a + 8) from nI_add a 8]
      have e2 : (nI c + 2) &&& 255 = nI (c + 2) := by
        rw [show nI c + 2 = nI (c + 2) from nI_add c 2]
        exact b255 _ (by omega)
      have e1 : (79 : Int32) &&& 255 = 79 := by decide
      rw [e1, e2] at h3
      refine ih (a + 8) u3 _ (by omega) (by omega) h3 hq3 (by simp [hsl]; omega) (fun u' h' g' => ?_)
      refine k u' ?_ (g12.tr (g3.tr g'))
      simpa [List.append_assoc] using h'
theorem sp_Da_writePieces {u : pj_M} {i q : Nat} {l m : List Int32} {K : pj_M → Prop} (hd : q + 1 < i ∨ i + 4 < q) (hr : rw_ u (i + 1) l) (hq : rw_ u q m) (hlen : l.length + (pC m 7 0).length ≤ 48) (k : ∀ u', rw_ u' (i + 1) (l ++ pC m 7 0) → f2 (i + 1) u u' → K u') : pw_Da_writePieces u i q K :=
  ⟨8, lp_Da_writePieces hd 7 0 u l (by have := hq.2.1; omega) (by omega) hr hq hlen k⟩
/-- the datagram's bytes ahead of the seal; unsealed; sealed -/
def gH (code id au nm tk : Int32) : List Int32 := [code &&& 255, id &&& 255, 0, y3 au, y2 au, y1 au, y0 au] ++ ((if nm = -1 then [] else [1, 3, nm &&& 255]) ++ (if tk = -1 then [] else [24, 4, y1 tk, y0 tk]))
def gB (code id au nm tk : Int32) (m : List Int32) : List Int32 := (gH code id au nm tk ++ pC m 7 0) ++ [80, 6]
def gU (code id au nm tk : Int32) (m : List Int32) : List Int32 := (gB code id au nm tk m ++ [0, 0, 0, 0]).set 2 (nI ((gB code id au nm tk m).length + 4) &&& 255)
theorem gH_len (code id au nm tk : Int32) : (gH code id au nm tk).length ≤ 14 := by
  unfold gH
  split <;> split <;> simp
theorem gH_len7 (code id au nm tk : Int32) : 7 ≤ (gH code id au nm tk).length := by
  unfold gH
  simp
theorem sp_Da_write {u : pj_M} {i q : Nat} {code id au nm tk : Int32} {m : List Int32} {K : pj_M → Prop} (hd : q + 1 < i ∨ i + 4 < q) (hq : rw_ u q m) (hlen : (pC m 7 0).length ≤ 28) (k : ∀ u', rw_ u' (i + 1) (gU code id au nm tk m) → u' i 4 = nI (gB code id au nm tk m).length → f5 i u u' → K u') : pw_Da_write u i code id au nm tk q K := by
  have e114 : ∀ (u1 : pj_M), rw_ u1 (i + 1) (gH code id au nm tk) → f2 (i + 1) u u1 → pb_Da_write_114 K u1 i q := by
    intro u1 h1 g1
    have hH := gH_len code id au nm tk
    have hq1 : rw_ u1 q m := hq.keep (g1 _ (by omega) (by omega)) (g1 _ (by omega) (by omega))
    refine sp_Da_writePieces hd h1 hq1 (by omega) (fun u2 h2 g2 => ?_)
    refine sp_Ro_put h2 (by simp; omega) (fun u3 h3 g3 => ?_)
    refine sp_Ro_put h3 (by simp; omega) (fun u4 h4 g4 => ?_)
    have h4' : rw_ u4 (i + 1) (gB code id au nm tk m) := by
      have e1 : (80 : Int32) &&& 255 = 80 := by decide
      have e2 : (6 : Int32) &&& 255 = 6 := by decide
      rw [e1, e2, List.append_assoc] at h4
      exact h4
    have hB : (gB code id au nm tk m).length ≤ 44 := by unfold gB; simp; omega
    have g14 : f5 i u u4 := f5.row (g1.tr (g2.tr (g3.tr g4)))
    have h5 : rw_ (pj_set u4 i 4 (u4 (i + 1) 1)) (i + 1) (gB code id au nm tk m) := h4'.keep (ps_i (by omega)) (ps_i (by omega))
    refine sp_Ro_putInt h5 (by omega) (fun u6 h6 g6 => ?_)
    have e0 : [y3 0, y2 0, y1 0, y0 0] = ([0, 0, 0, 0] : List Int32) := by decide
    rw [e0] at h6
    refine sp_Ro_set h6 2 rfl (by unfold gB; simp; omega) (fun u7 h7 g7 => ?_)
    refine k u7 ?_ ?_ (g14.tr (f5.set.tr ((f5.row g6).tr (f5.row g7))))
    · rw [h6.1] at h7
      have el : (gB code id au nm tk m ++ [0, 0, 0, 0]).length = (gB code id au nm tk m).length + 4 := by simp
      rw [el] at h7
      exact h7
    · rw [g7 i (by omega) (by omega), g6 i (by omega) (by omega), ps_s]
      exact h4'.1
  have e70 : ∀ (u1 : pj_M) (l : List Int32), rw_ u1 (i + 1) l → l.length ≤ 10 → f2 (i + 1) u u1 → gH code id au nm tk = l ++ (if tk = -1 then [] else [24, 4, y1 tk, y0 tk]) → pb_Da_write_70 K u1 i tk q := by
    intro u1 l h1 hl g1 e
    refine br_c (fun ht => ?_) (fun ht => ?_)
    · rw [if_pos ht, List.append_nil] at e
      exact e114 u1 (by rw [e]; exact h1) g1
    · rw [if_neg ht] at e
      refine sp_Ro_put h1 (by omega) (fun u2 h2 g2 => ?_)
      refine sp_Ro_put h2 (by simp; omega) (fun u3 h3 g3 => ?_)
      refine sp_Ro_put h3 (by simp; omega) (fun u4 h4 g4 => ?_)
      refine sp_Ro_put h4 (by simp; omega) (fun u5 h5 g5 => ?_)
      have h5' : rw_ u5 (i + 1) ((((l ++ [24]) ++ [4]) ++ [y1 tk]) ++ [y0 tk]) := h5
      refine e114 u5 ?_ (g1.tr (g2.tr (g3.tr (g4.tr g5))))
      rw [e]
      simpa [List.append_assoc] using h5'
  refine sp_Ro_clear (fun u1 h1 g1 => ?_)
  refine sp_Ro_put h1 (by decide) (fun u2 h2 g2 => ?_)
  refine sp_Ro_put h2 (by simp) (fun u3 h3 g3 => ?_)
  refine sp_Ro_put h3 (by simp) (fun u4 h4 g4 => ?_)
  refine sp_Ro_putInt h4 (by simp) (fun u5 h5 g5 => ?_)
  have g15 := g1.tr (g2.tr (g3.tr (g4.tr g5)))
  have h5' : rw_ u5 (i + 1) [code &&& 255, id &&& 255, 0, y3 au, y2 au, y1 au, y0 au] := h5
  refine br_c (fun hn => ?_) (fun hn => ?_)
  · refine e70 u5 _ h5' (by simp) g15 ?_
    unfold gH
    rw [if_pos hn, List.nil_append]
  · refine sp_Ro_put h5' (by simp) (fun u6 h6 g6 => ?_)
    refine sp_Ro_put h6 (by simp) (fun u7 h7 g7 => ?_)
    refine sp_Ro_put h7 (by simp) (fun u8 h8 g8 => ?_)
    refine e70 u8 _ h8 (by simp) (g15.tr (g6.tr (g7.tr g8))) ?_
    unfold gH
    rw [if_neg hn, ← List.append_assoc]
    rfl
theorem sp_Da_sealRequest {u : pj_M} {i j : Nat} {key : Int32} {l : List Int32} {K : pj_M → Prop} (hr : rw_ u (i + 1) l) (hs : u i 4 = nI j) (hj : j + 3 < l.length) (k : ∀ u', rw_ u' (i + 1) (si l j (mRow key l)) → f2 (i + 1) u u' → K u') : pw_Da_sealRequest u i key K :=
  sp_Di_macOfRow hr (sp_Ro_setInt hr j hs hj k)
theorem sp_Da_sealAnswer {u : pj_M} {i j : Nat} {key : Int32} {l : List Int32} {K : pj_M → Prop} (hr : rw_ u (i + 1) l) (hs : u i 4 = nI j) (hj : j + 3 < l.length) (h6 : 6 < l.length) (k : ∀ u', rw_ u' (i + 1) (si (si l j (mRow key l)) 3 (hRow (si l j (mRow key l)) key)) → f2 (i + 1) u u' → K u') : pw_Da_sealAnswer u i key K := by
  refine sp_Da_sealRequest hr hs hj (fun u1 h1 g1 => ?_)
  refine sp_Di_hashOfRow h1 (sp_Ro_setInt h1 3 rfl (by rw [si_len]; omega) (fun u2 h2 g2 => ?_))
  exact k u2 h2 (g1.tr g2)
theorem sp_Da_isSealed {u : pj_M} {i j : Nat} {key au sl0 : Int32} {l : List Int32} {K : Int32 → pj_M → Prop} (hr : rw_ u (i + 1) l) (hs : u i 4 = nI j) (hse : u i 6 = sl0) (hj : j + 3 < l.length) (h6 : 6 < l.length) (k : ∀ u', rw_ u' (i + 1) (si (si (si l 3 au) j 0) j sl0) → f2 (i + 1) u u' → (mRow key (si (si l 3 au) j 0) = sl0 → K 1 u') ∧ (¬ mRow key (si (si l 3 au) j 0) = sl0 → K 0 u')) : pw_Da_isSealed u i key au K := by
  refine sp_Ro_setInt hr 3 rfl (by omega) (fun u1 h1 g1 => ?_)
  refine sp_Ro_setInt h1 j (by rw [g1 i (by omega) (by omega)]; exact hs) (by rw [si_len]; omega) (fun u2 h2 g2 => ?_)
  have g12 := g1.tr g2
  have e4 : u2 i 4 = nI j := by rw [g12 i (by omega) (by omega)]; exact hs
  have e6 : u2 i 6 = sl0 := by rw [g12 i (by omega) (by omega)]; exact hse
  refine sp_Di_macOfRow h2 (br_c (fun h => ?_) (fun h => ?_))
  · rw [e6] at h
    refine sp_Ro_setInt h2 j e4 (by rw [si_len, si_len]; omega) (fun u3 h3 g3 => ⟨pj_bi1, ?_⟩)
    rw [e6] at h3
    exact (k u3 h3 (g12.tr g3)).1 h
  · rw [e6] at h
    refine sp_Ro_setInt h2 j e4 (by rw [si_len, si_len]; omega) (fun u3 h3 g3 => ⟨pj_bi0, ?_⟩)
    rw [e6] at h3
    exact (k u3 h3 (g12.tr g3)).2 h
theorem sp_Da_isAnswerTo {u : pj_M} {i j : Nat} {key au sl0 at0 : Int32} {l : List Int32} {K : Int32 → pj_M → Prop} (hr : rw_ u (i + 1) l) (hs : u i 4 = nI j) (hse : u i 6 = sl0) (hat : u i 5 = at0) (hj : j + 3 < l.length) (h6 : 6 < l.length) (kt : mRow key (si (si l 3 au) j 0) = sl0 → hRow (si (si (si l 3 au) j 0) j sl0) key = at0 → ∀ u', rw_ u' (i + 1) (si (si (si l 3 au) j 0) j sl0) → f2 (i + 1) u u' → K 1 u') (kf : ¬ (mRow key (si (si l 3 au) j 0) = sl0 ∧ hRow (si (si (si l 3 au) j 0) j sl0) key = at0) → ∀ u', f2 (i + 1) u u' → K 0 u') : pw_Da_isAnswerTo u i key au K := by
  refine sp_Da_isSealed hr hs hse hj h6 (fun u1 h1 g1 => ⟨fun hm => ?_, fun hm => ?_⟩)
  · refine br_f (by decide) (sp_Di_hashOfRow h1 (br_c (fun h => ?_) (fun h => ?_)))
    · rw [g1 i (by omega) (by omega), hat] at h
      exact ⟨pj_bi1, kt hm h u1 h1 g1⟩
    · rw [g1 i (by omega) (by omega), hat] at h
      exact ⟨pj_bi0, kf (fun z => h z.2) u1 g1⟩
  · exact br_t rfl ⟨pj_bi0, kf (fun z => hm z.1) u1 g1⟩
