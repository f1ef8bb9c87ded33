/-! The pure part: packets and frames of the class -/
def aT (l : List Int32) (j : Nat) : Int32 := l.getD j (-1)
/-- a RIGHT packet -/
def rP (l : List Int32) : Prop := 3 ≤ l.length ∧ l.length ≤ 20 ∧ aT l 2 = nI l.length ∧ (((aT l 0 = 1 ∨ aT l 0 = 2) ∧ 3 < l.length) ∨ ((aT l 0 = 3 ∨ aT l 0 = 4) ∧ l.length = 3))
theorem sp_Pa_code {u : pj_M} {r : Nat} {l : List Int32} {K : Int32 → pj_M → Prop} (hr : rw_ u r l) (k : K (aT l 0) u) : pw_Pa_code u r K := sp_Ro_at hr 0 rfl (by decide) k
theorem sp_Pa_id {u : pj_M} {r : Nat} {l : List Int32} {K : Int32 → pj_M → Prop} (hr : rw_ u r l) (k : K (aT l 1) u) : pw_Pa_id u r K := sp_Ro_at hr 1 rfl (by decide) k
theorem sp_Pa_type {u : pj_M} {r : Nat} {l : List Int32} {K : Int32 → pj_M → Prop} (hr : rw_ u r l) (k : K (aT l 3) u) : pw_Pa_type u r K := sp_Ro_at hr 3 rfl (by decide) k
theorem sp_Pa_firstData {u : pj_M} {r : Nat} {l : List Int32} {K : Int32 → pj_M → Prop} (hr : rw_ u r l) (k : K (aT l 4) u) : pw_Pa_firstData u r K := sp_Ro_at hr 4 rfl (by decide) k
theorem sp_Pa_dataIntAt {u : pj_M} {r : Nat} {x : Int32} {l : List Int32} {K : Int32 → pj_M → Prop} (hr : rw_ u r l) (i : Nat) (hx : x = nI i) (hi : i < 1000) (k : K (iA l (4 + i)) u) : pw_Pa_dataIntAt u r x K := by
  subst hx
  exact sp_Ro_intAt hr (4 + i) (nI_add 4 i) (by omega) k
/-- the size of the DATA, as the class reckons it -/
theorem sp_Pa_dataSize {u : pj_M} {r : Nat} {l : List Int32} {K : Int32 → pj_M → Prop} (hr : rw_ u r l) (k : K (nI l.length - 3 - 1) u) : pw_Pa_dataSize u r K := by
  show K (u r 1 - 3 - 1) u
  rw [hr.1]
  exact k
theorem nI_e {a : Nat} (c : Nat) (ha : a < 2 ^ 31) (hc : c < 2 ^ 31) : nI a = nI c ↔ a = c := nI_eq ha hc
theorem sp_Pa_isRight {u : pj_M} {r : Nat} {l : List Int32} {K : Int32 → pj_M → Prop} (hr : rw_ u r l) (kt : rP l → K 1 u) (kf : ¬ rP l → K 0 u) : pw_Pa_isRight u r K := by
  have h31 := hr.lt
  have h48 := hr.2.1
  have hs := hr.1
  refine br_c (fun h => ?_) (fun h => ?_)
  · refine kf (fun q => ?_)
    rw [hs] at h
    exact nI_nlt (a := l.length) (b := 3) q.1 h31 h
  have h3 : 3 ≤ l.length := Nat.le_of_not_lt (fun q => h (by rw [hs]; exact nI_lt (b := 3) q (by decide)))
  refine br_c (fun h => ?_) (fun h => ?_)
  · refine kf (fun q => ?_)
    rw [hs] at h
    exact nI_nlt (a := 20) (b := l.length) q.2.1 (by decide) h
  have h20 : l.length ≤ 20 := Nat.le_of_not_lt (fun q => h (by rw [hs]; exact nI_lt (a := 20) q h31))
  refine sp_Ro_at hr 2 rfl (by decide) (br_c (fun h => ?_) (fun h => ?_))
  rotate_left
  · exact kf (fun q => h (by rw [hs]; exact q.2.2.1))
  have h2 : aT l 2 = nI l.length := by rw [← hs]; exact h
  have e47 : (aT l 0 = 1 ∨ aT l 0 = 2) → pb_Pa_isRight_47 K u r := by
    intro hc
    refine br_c (fun h => ?_) (fun h => ?_)
    · refine ⟨pj_bi0, kf (fun q => ?_)⟩
      rw [hs] at h
      rcases q.2.2.2 with ⟨-, q⟩ | ⟨q, -⟩
      · exact nI_ge (a := 3) (b := l.length) q h31 h
      · rcases hc with hc | hc <;> rw [hc] at q <;> rcases q with q | q <;> exact absurd q (by decide)
    · refine ⟨pj_bi1, kt ⟨h3, h20, h2, Or.inl ⟨hc, ?_⟩⟩⟩
      exact Nat.lt_of_not_le (fun q => h (by rw [hs]; exact nI_le (b := 3) q (by decide)))
  have e77 : (aT l 0 = 3 ∨ aT l 0 = 4) → pb_Pa_isRight_77 K u r := by
    intro hc
    refine br_c (fun h => ?_) (fun h => ?_)
    · refine ⟨pj_bi1, kt ⟨h3, h20, h2, Or.inr ⟨hc, ?_⟩⟩⟩
      rw [hs] at h
      exact (nI_e 3 h31 (by decide)).mp h
    · refine ⟨pj_bi0, kf (fun q => ?_)⟩
      rcases q.2.2.2 with ⟨q, -⟩ | ⟨-, q⟩
      · rcases hc with hc | hc <;> rw [hc] at q <;> rcases q with q | q <;> exact absurd q (by decide)
      · exact h (by rw [hs, q]; rfl)
  refine sp_Pa_code hr (br_c (fun h => e47 (Or.inl h)) (fun n1 => ?_))
  refine sp_Pa_code hr (br_c (fun h => e47 (Or.inr h)) (fun n2 => ?_))
  refine sp_Pa_code hr (br_c (fun h => e77 (Or.inl h)) (fun n3 => ?_))
  refine sp_Pa_code hr (br_c (fun h => e77 (Or.inr h)) (fun n4 => ?_))
  refine ⟨pj_bi0, kf (fun q => ?_)⟩
  rcases q.2.2.2 with ⟨q | q, -⟩ | ⟨q | q, -⟩
  · exact n1 q
  · exact n2 q
  · exact n3 q
  · exact n4 q
theorem sp_Pa_make {u : pj_M} {r : Nat} {c i : Int32} {K : pj_M → Prop} (k : ∀ u', rw_ u' r [c &&& 255, i &&& 255, 3] → f2 r u u' → K u') : pw_Pa_make u r c i K := by
  refine sp_Ro_clear (fun u1 h1 g1 => ?_)
  refine sp_Ro_put h1 (by decide) (fun u2 h2 g2 => ?_)
  refine sp_Ro_put h2 (by simp) (fun u3 h3 g3 => ?_)
  refine sp_Ro_put h3 (by simp) (fun u4 h4 g4 => ?_)
  exact k u4 h4 (g1.tr (g2.tr (g3.tr g4)))
theorem sp_Pa_open {u : pj_M} {r : Nat} {c i t : Int32} {K : pj_M → Prop} (k : ∀ u', rw_ u' r [c &&& 255, i &&& 255, 0, t &&& 255] → f2 r u u' → K u') : pw_Pa_open u r c i t K := by
  refine sp_Ro_clear (fun u1 h1 g1 => ?_)
  refine sp_Ro_put h1 (by decide) (fun u2 h2 g2 => ?_)
  refine sp_Ro_put h2 (by simp) (fun u3 h3 g3 => ?_)
  refine sp_Ro_put h3 (by simp) (fun u4 h4 g4 => ?_)
  refine sp_Ro_put h4 (by simp) (fun u5 h5 g5 => ?_)
  exact k u5 h5 (g1.tr (g2.tr (g3.tr (g4.tr g5))))
theorem sp_Pa_setLength {u : pj_M} {r : Nat} {l : List Int32} {K : pj_M → Prop} (hr : rw_ u r l) (h2 : 2 < l.length) (k : ∀ u', rw_ u' r (l.set 2 (nI l.length &&& 255)) → f2 r u u' → K u') : pw_Pa_setLength u r K := by
  refine sp_Ro_set hr 2 rfl h2 (fun u1 h1 g1 => ?_)
  rw [hr.1] at h1
  exact k u1 h1 g1
/-- what a row is as a frame: 1, 2, 0 (with a right packet behind the first byte), -1 -/
def fS (f : List Int32) : Prop := f.length = 1 ∧ (aT f 0 = 1 ∨ aT f 0 = 2)
def fP (f : List Int32) : Prop := aT f 0 = 0 ∧ rP (f.drop 1)
theorem sl_all {f : List Int32} {a c : Nat} (h : f.length ≤ a + c) : sl f a c = f.drop a := by
  unfold sl
  exact List.take_of_length_le (by simp; omega)
theorem sp_Pa_readFrame {u : pj_M} {r q : Nat} {f : List Int32} {K : Int32 → pj_M → Prop} (hq : rw_ u q f) (h0 : q ≠ r) (h1 : q + 1 ≠ r) (h2 : q ≠ r + 1)
    (ks : fS f → ∀ u', f2 r u u' → K (aT f 0) u') (kp : ¬ fS f → fP f → ∀ u', rw_ u' r (f.drop 1) → f2 r u u' → K 0 u') (kn : ¬ fS f → ¬ fP f → ∀ u', f2 r u u' → K (-1) u') : pw_Pa_readFrame u r q K := by
  refine sp_Ro_clear (fun u1 hr1 g1 => ?_)
  have hq1 : rw_ u1 q f := hq.keep (g1 q h0 h2) (g1 (q + 1) h1 (by omega))
  have h31 := hq.lt
  have h48 := hq.2.1
  have e36 : ¬ fS f → pb_Pa_readFrame_36 K u1 r q := by
    intro hn
    refine sp_Ro_at hq1 0 rfl (by decide) (br_c (fun h => ?_) (fun h => ?_))
    · have hlen : 0 < f.length := by
        rcases Nat.eq_zero_or_pos f.length with z | z
        · rw [List.getD_eq_getElem?_getD, List.getElem?_eq_none (by omega)] at h
          exact absurd h (by decide)
        · exact z
      refine sp_Ro_append 1 (f.length - 1) rfl (by rw [hq1.1]; exact pk_sub (b := 1) (by omega)) (by omega) hr1 hq1 h0 h1 h2 (by simp [sl]; omega) (fun u2 hr2 g2 => ?_)
      rw [sl_all (by omega), List.nil_append] at hr2
      refine sp_Pa_isRight hr2 (fun hp => ?_) (fun hp => ?_)
      · exact br_f (by decide) (kp hn ⟨h, hp⟩ u2 hr2 (g1.tr g2))
      · exact br_t rfl (kn hn (fun z => hp z.2) u2 (g1.tr g2))
    · exact kn hn (fun z => h z.1) u1 g1
  have e30 : fS f → pb_Pa_readFrame_30 K u1 q := fun hs => sp_Ro_at hq1 0 rfl (by decide) (ks hs u1 g1)
  refine br_c (fun h => ?_) (fun h => ?_)
  · have hl : f.length = 1 := by
      rw [hq1.1] at h
      exact (nI_e 1 h31 (by decide)).mp h
    refine sp_Ro_at hq1 0 rfl (by decide) (br_c (fun h => e30 ⟨hl, Or.inl h⟩) (fun n1 => ?_))
    refine sp_Ro_at hq1 0 rfl (by decide) (br_c (fun h => e30 ⟨hl, Or.inr h⟩) (fun n2 => ?_))
    exact e36 (fun z => z.2.elim n1 n2)
  · exact e36 (fun z => h (by rw [hq1.1, z.1]; rfl))
