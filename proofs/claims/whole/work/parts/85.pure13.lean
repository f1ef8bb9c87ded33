/-! The pure part: the reference reads a datagram -/
theorem by_N {x : Int32} (h : x &&& 255 = x) : ∃ n, n < 256 ∧ x = nI n := by
  refine ⟨x.toBitVec.toNat, ?_, ?_⟩
  · have e : x.toBitVec &&& (255 : Int32).toBitVec = x.toBitVec := by rw [← Int32.toBitVec_and, h]
    have e2 := congrArg BitVec.toNat e
    rw [BitVec.toNat_and] at e2
    have e3 : (255 : Int32).toBitVec.toNat = 255 := by decide
    rw [e3] at e2
    have := Nat.and_le_right (n := x.toBitVec.toNat) (m := 255)
    omega
  · apply Int32.toBitVec_inj.mp
    simp [nI]
theorem nn31 {x : Int32} (h : bt x 31 = false) : ¬ x < 0 := by
  intro q
  have q1 := Int32.lt_iff_toInt_lt.mp q
  have e0 : (0 : Int32).toInt = 0 := by decide
  rw [e0] at q1
  have m : x.toBitVec.msb = true := by
    rw [BitVec.msb_eq_toInt]
    exact decide_eq_true q1
  rw [BitVec.msb_eq_getLsbD_last] at m
  unfold bt at h
  rw [h] at m
  exact absurd m (by decide)
theorem by_31 {x : Int32} (h : x &&& 255 = x) (i : Nat) (hi : 8 ≤ i) : bt x i = false := by
  rw [← h, b_and, b_255]
  simp
  intro _
  omega
theorem by_nn {x : Int32} (h : x &&& 255 = x) : ¬ x < 0 := nn31 (by_31 h 31 (by decide))
theorem tk_nn {a c : Int32} (ha : a &&& 255 = a) (hc : c &&& 255 = c) : ¬ ((a <<< ((8 : Int32) &&& 31)) ||| c) < 0 := by
  apply nn31
  rw [b_or, b_shl8 a (by decide), by_31 ha _ (by decide), by_31 hc _ (by decide)]
  rfl
theorem bl.at {l : List Int32} {j : Nat} (h : bl l) (hj : j < l.length) : aT l j &&& 255 = aT l j := by
  have := h j hj
  rw [gd_in (e := -1) hj] at this
  exact this
/-- the reference's datagram: its row, its packet, what was found so far -/
def dm (u : pj_M) (f : List Int32) (nm tk sa : Int32) (pk : List Int32) : Prop := mR u f ∧ mP u pk ∧ ((nm = 0 ∧ u 217 13 = -1) ∨ (nm = 1 ∧ 0 ≤ u 217 13)) ∧ u 217 14 = tk ∧ (tk = -1 ∨ 0 ≤ tk) ∧ u 217 15 = sa ∧ (sa = -1 ∨ 0 ≤ sa)
theorem ng1 : ¬ (0 : Int32) ≤ -1 := by decide
theorem lp_Mo_attribute {f : List Int32} {K : Int32 → pj_M → Prop} {x1 x2 : Int32} {e : Nat} (he : x1 + x2 = nI e) (he48 : e ≤ f.length) : ∀ (d t : Nat) (u : pj_M) (l : List Int32), t + d = e → l.length + d ≤ 48 → mR u f → mP u l → (∀ u', mP u' (l ++ sl f t d) → fP' u u' → K 1 u') → pb_Mo_attribute_129 K x1 x2 (d + 1) u (nI t) := by
  intro d
  induction d with
  | zero =>
    intro t u l ht hl hr hp k
    have h48 := hr.2.1
    refine br_t (by rw [he]; exact nI_le (by omega) (by omega)) ?_
    have e0 : sl f t 0 = [] := by simp [sl]
    rw [e0, List.append_nil] at k
    exact k u hp ⟨fun _ _ _ => rfl, fun _ _ => rfl⟩
  | succ d ih =>
    intro t u l ht hl hr hp k
    have h48 := hr.2.1
    refine br_f (by rw [he]; exact nI_ge (by omega) (by omega)) ⟨v48 (by omega), by rw [hp.1]; exact v48 (by omega), ?_⟩
    have g : fP' u (pj_set (pj_set u 227 (u 217 16).toNatClampNeg (u 226 (nI t).toNatClampNeg)) 217 16 (pj_set u 227 (u 217 16).toNatClampNeg (u 226 (nI t).toNatClampNeg) 217 16 + 1)) := fP'.a.tr fP'.n
    have hp1 := hp.push (x := u 226 (nI t).toNatClampNeg) (by omega)
    show pb_Mo_attribute_129 K x1 x2 (d + 1) _ (nI t + 1)
    rw [nI_1]
    refine ih (t + 1) _ _ (by omega) (by simp; omega) (hr.fP g) hp1 (fun u' h2 g' => ?_)
    refine k u' ?_ (g.tr g')
    rw [nI_clamp (by omega), hr.2.2 t (by omega), List.append_assoc] at h2
    rw [sl_step (show t < f.length by omega)]
    exact h2
theorem sp_Mo_attribute {u : pj_M} {p z : Nat} {f pk : List Int32} {nm tk sa : Int32} {K : Int32 → pj_M → Prop} (h : dm u f nm tk sa pk) (hb : bl f) (hin : pk.length ≤ p) (hz : aT f (p + 1) = nI z) (z3 : 3 ≤ z) (hpz : p + z ≤ f.length)
    (kn : pS f p nm tk sa pk = none → K 0 u) (ks : ∀ nm' tk' sa' pk', pS f p nm tk sa pk = some (z, nm', tk', sa', pk') → ∀ u', dm u' f nm' tk' sa' pk' → gs u u' → K 1 u') : pw_Mo_attribute u (nI p) (nI z) K := by
  obtain ⟨hr, hk, hnm, htk, htk', hsa, hsa'⟩ := h
  have h48 := hr.2.1
  have c0 : (nI p).toNatClampNeg = p := nI_clamp (by omega)
  have c2 : (nI p + 2).toNatClampNeg = p + 2 := by rw [show nI p + 2 = nI (p + 2) from nI_add p 2]; exact nI_clamp (by omega)
  have w2 : vp_in (nI p + 2) 48 := by rw [show nI p + 2 = nI (p + 2) from nI_add p 2]; exact v48 (by omega)
  have e110 : (aT f p = 1 → pS f p nm tk sa pk = none) → (aT f p = 24 → pS f p nm tk sa pk = none) → (aT f p = 80 → pS f p nm tk sa pk = none) → pb_Mo_attribute_110 K u (nI p) (nI z) (aT f p) := by
    intro n1 n2 n3
    refine br_c (fun h => ?_) (fun h => ?_)
    · refine br_c (fun h2 => ?_) (fun h2 => ?_)
      · have z10 : z ≤ 10 := (nI_leI (b := 10) (by omega) (by decide)).mp h2
        refine ⟨z - 2 + 1, ?_⟩
        rw [show nI p + 2 = nI (p + 2) from nI_add p 2]
        refine lp_Mo_attribute (nI_add p z) hpz (z - 2) (p + 2) u pk (by omega) (by omega) hr hk (fun u' hp' g' => ?_)
        refine ks nm tk sa _ (by
          unfold pS
          rw [if_neg (by rw [h]; decide), if_neg (by rw [h]; decide), if_pos h, hz, if_pos ⟨nI_le (a := 3) z3 (by omega), h2⟩, nI_clamp (by omega)]) u' ⟨hr.fP g', hp', ?_, ?_, htk', ?_, hsa'⟩ g'.gs
        · rw [g'.2 13 (by decide)]; exact hnm
        · rw [g'.2 14 (by decide)]; exact htk
        · rw [g'.2 15 (by decide)]; exact hsa
      · refine kn ?_
        unfold pS
        rw [if_neg (by rw [h]; decide), if_neg (by rw [h]; decide), if_pos h, hz, if_neg (fun q => h2 q.2)]
    · refine kn ?_
      by_cases q1 : aT f p = 1
      · exact n1 q1
      by_cases q2 : aT f p = 24
      · exact n2 q2
      by_cases q3 : aT f p = 80
      · exact n3 q3
      unfold pS
      rw [if_neg q1, if_neg q2, if_neg h, if_neg q3]
  have e82 : (aT f p = 1 → pS f p nm tk sa pk = none) → (aT f p = 24 → pS f p nm tk sa pk = none) → pb_Mo_attribute_82 K u (nI p) (nI z) (aT f p) := by
    intro n1 n2
    refine br_c (fun h => ?_) (fun h => e110 n1 n2 (fun q => absurd q h))
    refine br_c (fun h6 => ?_) (fun h6 => ?_)
    · have z6 : z = 6 := (nI_e 6 (by omega) (by decide)).mp h6
      refine br_c (fun hs => ?_) (fun hs => ?_)
      · refine e110 n1 n2 (fun _ => ?_)
        unfold pS
        rw [if_neg (by rw [h]; decide), if_neg (by rw [h]; decide), if_neg (by rw [h]; decide), if_pos h, if_neg (fun q => ?_)]
        rw [hsa, q.2] at hs
        exact ng1 hs
      · rw [hsa] at hs
        have hs1 : sa = -1 := hsa'.resolve_right hs
        refine ks nm tk (nI (p + 2)) pk (by
          unfold pS
          rw [if_neg (by rw [h]; decide), if_neg (by rw [h]; decide), if_neg (by rw [h]; decide), if_pos h, hz, if_pos ⟨h6, hs1⟩, z6]) _ ⟨hr.keep (ps_k (by decide)) (ps_i (by decide)), hk.keep (ps_k (by decide)) (ps_i (by decide)), ?_, ?_, htk', ?_, Or.inr (Int32.not_lt.mp (nI_pos (by omega)))⟩ (gs.set (by decide))
        · rw [ps_k (by decide)]; exact hnm
        · rw [ps_k (by decide)]; exact htk
        · rw [ps_s]; exact nI_add p 2
    · refine e110 n1 n2 (fun _ => ?_)
      unfold pS
      rw [if_neg (by rw [h]; decide), if_neg (by rw [h]; decide), if_neg (by rw [h]; decide), if_pos h, hz, if_neg (fun q => h6 q.1)]
  have e38 : (aT f p = 1 → pS f p nm tk sa pk = none) → pb_Mo_attribute_38 K u (nI p) (nI z) (aT f p) := by
    intro n1
    refine br_c (fun h => ?_) (fun h => e82 n1 (fun q => absurd q h))
    refine br_c (fun h6 => ?_) (fun h6 => ?_)
    · have z4 : z = 4 := (nI_e 4 (by omega) (by decide)).mp h6
      refine br_c (fun hs => ?_) (fun hs => ?_)
      · refine e82 n1 (fun _ => ?_)
        unfold pS
        rw [if_neg (by rw [h]; decide), if_pos h, if_neg (fun q => ?_)]
        rw [htk, q.2] at hs
        exact ng1 hs
      · rw [htk] at hs
        have ht1 : tk = -1 := htk'.resolve_right hs
        have c3 : (nI p + 3).toNatClampNeg = p + 3 := by rw [show nI p + 3 = nI (p + 3) from nI_add p 3]; exact nI_clamp (by omega)
        have w3 : vp_in (nI p + 3) 48 := by rw [show nI p + 3 = nI (p + 3) from nI_add p 3]; exact v48 (by omega)
        refine ⟨w2, w3, ?_⟩
        rw [c2, c3, hr.at (show p + 2 < f.length by omega), hr.at (show p + 3 < f.length by omega)]
        refine ks nm _ sa pk (by
          unfold pS
          rw [if_neg (by rw [h]; decide), if_pos h, hz, if_pos ⟨h6, ht1⟩, z4]) _ ⟨hr.keep (ps_k (by decide)) (ps_i (by decide)), hk.keep (ps_k (by decide)) (ps_i (by decide)), ?_, ps_s, Or.inr (Int32.not_lt.mp (tk_nn (hb.at (by omega)) (hb.at (by omega)))), ?_, hsa'⟩ (gs.set (by decide))
        · rw [ps_k (by decide)]; exact hnm
        · rw [ps_k (by decide)]; exact hsa
    · refine e82 n1 (fun _ => ?_)
      unfold pS
      rw [if_neg (by rw [h]; decide), if_pos h, hz, if_neg (fun q => h6 q.1)]
  refine ⟨by exact v48 (by omega), ?_⟩
  rw [c0, hr.at (show p < f.length by omega)]
  refine br_c (fun h => ?_) (fun h => e38 (fun q => absurd q h))
  refine br_c (fun h6 => ?_) (fun h6 => ?_)
  · have z4 : z = 3 := (nI_e 3 (by omega) (by decide)).mp h6
    refine br_c (fun hs => ?_) (fun hs => ?_)
    · refine e38 (fun _ => ?_)
      unfold pS
      rw [if_pos h, if_neg (fun q => ?_)]
      rcases hnm with ⟨a, c⟩ | ⟨a, c⟩
      · rw [c] at hs; exact ng1 hs
      · rw [a] at q; exact absurd q.2 (by decide)
    · have hn1 : nm = 0 := by
        rcases hnm with ⟨a, c⟩ | ⟨a, c⟩
        · exact a
        · exact absurd c hs
      refine ⟨w2, ?_⟩
      rw [c2, hr.at (show p + 2 < f.length by omega)]
      refine ks 1 tk sa pk (by unfold pS; rw [if_pos h, hz, if_pos ⟨h6, hn1⟩, z4]) _ ⟨hr.keep (ps_k (by decide)) (ps_i (by decide)), hk.keep (ps_k (by decide)) (ps_i (by decide)), Or.inr ⟨rfl, by rw [ps_s]; exact Int32.not_lt.mp (by_nn (hb.at (by omega)))⟩, ?_, htk', ?_, hsa'⟩ (gs.set (by decide))
      · rw [ps_k (by decide)]; exact htk
      · rw [ps_k (by decide)]; exact hsa
  · refine e38 (fun _ => ?_)
    unfold pS
    rw [if_pos h, hz, if_neg (fun q => h6 q.1)]
