/-! The pure part: the reference's right datagrams -/
theorem pS_no {f pk : List Int32} {p : Nat} {nm tk sa : Int32} (h : ∀ z : Nat, aT f (p + 1) = nI z → 3 ≤ z → z ≤ 10 → False) : pS f p nm tk sa pk = none := by
  cases e : pS f p nm tk sa pk with
  | none => rfl
  | some q =>
    obtain ⟨z, nm', tk', sa', pk'⟩ := q
    obtain ⟨a, c, d, -⟩ := pS_size e
    exact absurd (h z a c d) id
theorem pA_no {f pk : List Int32} {p d : Nat} {nm tk sa : Int32} (hle : ¬ f.length ≤ p) (h : pS f p nm tk sa pk = none) : pA f (d + 1) p nm tk sa pk = none := by
  rw [pA, if_neg hle, h]
  split <;> rfl
theorem aT_out {f : List Int32} {j : Nat} (h : f.length ≤ j) : aT f j = -1 := by
  unfold aT
  rw [List.getD_eq_getElem?_getD, List.getElem?_eq_none h]
  rfl
theorem nI_m1 {z : Nat} (h : z < 2 ^ 31) : ¬ (-1 : Int32) = nI z := fun q => nI_pos h (by rw [← q]; decide)
theorem dm.nm {u : pj_M} {f pk : List Int32} {nm tk sa : Int32} (h : dm u f nm tk sa pk) : mR u f := h.1
theorem lp_Mo_rightGram {f : List Int32} {K : Int32 → pj_M → Prop} (hb : bl f) : ∀ (d p : Nat) (u : pj_M) (nm tk sa : Int32) (pk : List Int32), f.length < p + d → p ≤ f.length → pk.length ≤ p → dm u f nm tk sa pk →
    (pA f d p nm tk sa pk = none → ∀ u', mR u' f → gs u u' → K 0 u') → (∀ nm' tk' sa' pk', pA f d p nm tk sa pk = some (nm', tk', sa', pk') → ∀ u', dm u' f nm' tk' sa' pk' → gs u u' → pb_Mo_rightGram_111 K u') → pb_Mo_rightGram_47 K (d + 1) u (nI p) := by
  intro d
  induction d with
  | zero => intro p u nm tk sa pk h1 h2; omega
  | succ d ih =>
    intro p u nm tk sa pk hd hp hpk h kn ks
    have hr := h.1
    have h48 := hr.2.1
    by_cases hle : f.length ≤ p
    · refine br_t (by rw [hr.1]; exact nI_le hle (by omega)) ?_
      exact ks nm tk sa pk (by rw [pA, if_pos hle]) u h gs.rf
    refine br_f (by rw [hr.1]; exact nI_ge (by omega) (by omega)) ?_
    by_cases h1 : f.length ≤ p + 1
    · refine br_t (by rw [hr.1, nI_1]; exact nI_le h1 (by omega)) (br_t (by decide) ?_)
      refine kn (pA_no hle (pS_no (fun z e _ z10 => ?_))) u hr gs.rf
      rw [aT_out (by omega)] at e
      exact nI_m1 (by omega) e
    refine br_f (by rw [hr.1, nI_1]; exact nI_ge (by omega) (by omega)) ⟨by rw [nI_1]; exact v48 (by omega), ?_⟩
    rw [nI_1, nI_clamp (by omega), hr.at (show p + 1 < f.length by omega)]
    obtain ⟨n, hn, en⟩ := by_N (hb.at (show p + 1 < f.length by omega))
    rw [en]
    refine br_c (fun q => ?_) (fun q => ?_)
    · have n3 : n < 3 := (nI_ltI (b := 3) (by omega) (by decide)).mp q
      refine kn (pA_no hle (pS_no (fun z e z3 z10 => ?_))) u hr gs.rf
      rw [en] at e
      have := (nI_eq (by omega) (by omega)).mp e
      omega
    have n3 : 3 ≤ n := Nat.le_of_not_lt (fun z => q (nI_lt (b := 3) z (by decide)))
    refine br_c (fun q2 => ?_) (fun q2 => ?_)
    · rw [hr.1] at q2
      exact kn (by rw [pA, if_neg hle, en, if_pos q2]) u hr gs.rf
    rw [hr.1] at q2
    have hpn : p + n ≤ f.length := by
      rw [nI_add] at q2
      exact Nat.le_of_not_lt (fun z => q2 (nI_lt z (by omega)))
    refine sp_Mo_attribute h hb hpk en n3 hpn (fun e => ?_) (fun nm' tk' sa' pk' e u' h' g' => ?_)
    · exact br_t rfl (kn (pA_no hle e) u hr gs.rf)
    · refine br_f (by decide) ?_
      show pb_Mo_rightGram_47 K (d + 1) u' (nI p + nI n)
      rw [nI_add]
      obtain ⟨-, -, -, hpl⟩ := pS_size e
      have epA : pA f (d + 1) p nm tk sa pk = pA f d (p + n) nm' tk' sa' pk' := by
        rw [pA, if_neg hle, en, if_neg q2, e]
      refine ih (p + n) u' nm' tk' sa' pk' (by omega) hpn (by omega) h' (fun e2 u2 h2 g2 => ?_) (fun a1 a2 a3 a4 e2 u2 h2 g2 => ?_)
      · exact kn (epA.trans e2) u2 h2 (g'.tr g2)
      · exact ks a1 a2 a3 a4 (epA.trans e2) u2 h2 (g'.tr g2)
theorem sp_Mo_rightGram {u : pj_M} {f : List Int32} {K : Int32 → pj_M → Prop} (hr : mR u f) (hb : bl f)
    (kt : ∀ nm tk pk j, gR f nm tk (nI j) pk → 2 ≤ j → j + 4 ≤ f.length → ∀ u', dm u' f nm tk (nI j) pk → gs u u' → K 1 u') (kf : (¬ ∃ nm tk sa pk, gR f nm tk sa pk) → ∀ u', mR u' f → gs u u' → K 0 u') : pw_Mo_rightGram u K := by
  have h48 := hr.2.1
  have h31 := hr.lt
  show (_ → _) ∧ (_ → _)
  generalize hu5 : pj_set (pj_set (pj_set (pj_set u 217 13 (-1)) 217 14 (-1)) 217 15 (-1)) 217 16 0 = u5
  have g5 : gs u u5 := by rw [← hu5]; exact ((gs.set (by decide)).tr (gs.set (by decide))).tr ((gs.set (by decide)).tr (gs.set (by decide)))
  have h5 : dm u5 f 0 (-1) (-1) [] := by
    rw [← hu5]
    refine ⟨hr.keep ?_ ?_, mP0, Or.inl ⟨rfl, ?_⟩, ?_, Or.inl rfl, ?_, Or.inl rfl⟩
    · rw [ps_k (by decide), ps_k (by decide), ps_k (by decide), ps_k (by decide)]
    · rw [ps_i (by decide), ps_i (by decide), ps_i (by decide), ps_i (by decide)]
    · rw [ps_k (by decide), ps_k (by decide), ps_k (by decide), ps_s]
    · rw [ps_k (by decide), ps_k (by decide), ps_s]
    · rw [ps_k (by decide), ps_s]
  clear hu5
  have hr5 := h5.1
  refine br_c (fun h => ?_) (fun h => ?_)
  · refine kf (fun ⟨a1, a2, a3, a4, z⟩ => ?_) u5 hr5 g5
    have h : u5 217 11 < 7 := h
    rw [hr5.1] at h
    exact nI_nlt (a := f.length) (b := 7) z.1 h31 h
  have h7 : 7 ≤ f.length := Nat.le_of_not_lt (fun z => h (by show u5 217 11 < 7; rw [hr5.1]; exact nI_lt (b := 7) z (by decide)))
  refine ⟨v48 (n := 2) (by decide), br_c (fun h2 => ?_) (fun h2 => ?_)⟩
  rotate_left
  · refine kf (fun ⟨a1, a2, a3, a4, z⟩ => h2 ?_) u5 hr5 g5
    rw [show u5 226 (2 : Int32).toNatClampNeg = aT f 2 from hr5.at (j := 2) (by omega), hr5.1]
    exact z.2.1
  have h2' : aT f 2 = nI f.length := by rw [← hr5.1, ← hr5.at (j := 2) (by omega)]; exact h2
  refine ⟨50, lp_Mo_rightGram hb 49 7 u5 0 (-1) (-1) [] (by omega) h7 (by simp) h5 (fun e u6 r6 g6 => ?_) (fun nm tk sa pk e u6 h6 g6 => ?_)⟩
  · exact kf (fun ⟨a1, a2, a3, a4, z⟩ => by rw [z.2.2.1] at e; cases e) u6 r6 (g5.tr g6)
  have e15 := h6.2.2.2.2.2.1
  have e15' := h6.2.2.2.2.2.2
  refine br_c (fun h => ?_) (fun h => ?_)
  · rw [e15] at h
    have hs : sa = -1 := e15'.resolve_right (Int32.not_le.mpr h)
    exact ⟨pj_bi0, kf (fun ⟨a1, a2, a3, a4, z⟩ => by rw [z.2.2.1] at e; cases e; exact z.2.2.2.1 hs) u6 h6.1 (g5.tr g6)⟩
  rw [e15] at h
  have hs : ¬ sa = -1 := fun z => h (by rw [z]; decide)
  rcases pA_seal 49 7 0 (-1) (-1) nm tk sa [] pk h48 (by decide) (Or.inl rfl) e with z | ⟨j, rfl, hj2, hj4⟩
  · exact absurd z hs
  refine sp_Mo_rightPacket h6.2.1 (fun hp => br_f (by decide) ⟨pj_bi1, ?_⟩) (fun hp => br_t rfl ⟨pj_bi0, ?_⟩)
  · exact kt nm tk pk j ⟨h7, h2', e, hs, hp⟩ hj2 hj4 u6 h6 (g5.tr g6)
  · exact kf (fun ⟨a1, a2, a3, a4, z⟩ => by rw [z.2.2.1] at e; cases e; exact hp z.2.2.2.2) u6 h6.1 (g5.tr g6)
