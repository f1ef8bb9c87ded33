/-! The pure part: datagrams of the class: all attributes, reading -/
theorem dg.in5 {u u' : pj_M} {i : Nat} {f pk : List Int32} {nm tk sa : Int32} (h : dg u i f nm tk sa pk) (h0 : u' i = u i) (h1 : u' (i + 1) = u (i + 1)) (h2 : u' (i + 2) = u (i + 2)) (h3 : u' (i + 3) = u (i + 3)) (h4 : u' (i + 4) = u (i + 4)) : dg u' i f nm tk sa pk :=
  ⟨h.1.keep h1 h2, h.2.1.keep h3 h4, by rw [h0]; exact h.2.2.1, by rw [h0]; exact h.2.2.2.1, by rw [h0]; exact h.2.2.2.2⟩
theorem lp_Da_readAttributes {i : Nat} {f : List Int32} {K : Int32 → pj_M → Prop} (hf : f.length ≤ 48) : ∀ (d p x : Nat) (u : pj_M) (nm tk sa : Int32) (pk : List Int32), f.length < p + d → p ≤ f.length → 3 * x + 7 ≤ p → pk.length ≤ p → dg u i f nm tk sa pk →
    (pA f d p nm tk sa pk = none → ∀ u', f5 i u u' → K 0 u') → (∀ nm' tk' sa' pk', pA f d p nm tk sa pk = some (nm', tk', sa', pk') → ∀ u', dg u' i f nm' tk' sa' pk' → f5 i u u' → (sa' = -1 → K 0 u') ∧ (¬ sa' = -1 → K 1 u')) → pb_Da_readAttributes_5 K i (d + 1) u (nI p) (nI x) := by
  intro d
  induction d with
  | zero => intro p x u nm tk sa pk h1 h2; omega
  | succ d ih =>
    intro p x u nm tk sa pk hd hp hx hpk hdg kn ks
    have hsz : u (i + 1) 1 = nI f.length := hdg.1.1
    refine br_f (fun q => nI_ge (a := x) (b := 48) (by omega) (by decide) q) ?_
    by_cases hle : f.length ≤ p
    · refine br_t (by rw [hsz]; exact nI_le hle (by omega)) ?_
      have hk := ks nm tk sa pk (by unfold pA; rw [if_pos hle]) u hdg f5.rf
      refine br_c (fun h => ?_) (fun h => ?_)
      · rw [hdg.2.2.2.2] at h
        exact ⟨pj_bi0, hk.1 h⟩
      · rw [hdg.2.2.2.2] at h
        exact ⟨pj_bi1, hk.2 h⟩
    refine br_f (fun q => hle (by
      rw [hsz] at q
      exact (nI_leI (by omega) (by omega)).mp q)) ?_
    refine sp_Ro_at hdg.1 (p + 1) (nI_add p 1) (by omega) ?_
    refine br_c (fun h => ?_) (fun h => ?_)
    · rw [hsz] at h
      have h' : nI f.length < nI p + aT f (p + 1) := h
      exact kn (by unfold pA; rw [if_neg hle, if_pos h']) u f5.rf
    rw [hsz] at h
    have h' : ¬ nI f.length < nI p + aT f (p + 1) := h
    have hz : ∀ z : Nat, aT f (p + 1) = nI z → 3 ≤ z → z ≤ 10 → p + z ≤ f.length := by
      intro z e z3 z10
      rw [e, nI_add] at h'
      exact Nat.le_of_not_lt (fun q => h' (nI_lt q (by omega)))
    refine sp_Da_readAttribute hdg (by omega) hpk (fun z e z3 z10 => by have := hz z e z3 z10; omega) (fun e => ?_) (fun z nm' tk' sa' pk' e u' hdg' g' => ?_)
    · exact br_t rfl (kn (by unfold pA; rw [if_neg hle, if_neg h', e]) u f5.rf)
    · refine br_f (by decide) ?_
      obtain ⟨ez, z3, z10, hpl⟩ := pS_size e
      have hzl := hz z ez z3 z10
      show pb_Da_readAttributes_5 K i (d + 1) u' (nI p + aT f (p + 1)) (nI x + 1)
      rw [ez, nI_add, nI_1]
      have epA : pA f (d + 1) p nm tk sa pk = pA f d (p + z) nm' tk' sa' pk' := by
        rw [pA, if_neg hle, if_neg h', e]
      refine ih (p + z) (x + 1) u' nm' tk' sa' pk' (by omega) hzl (by omega) (by omega) hdg' (fun e2 u2 g2 => ?_) (fun a1 a2 a3 a4 e2 u2 h2 g2 => ?_)
      · exact kn (epA.trans e2) u2 (g'.tr g2)
      · exact ks a1 a2 a3 a4 (epA.trans e2) u2 h2 (g'.tr g2)
/-- f is a RIGHT datagram, and that is found in it -/
def gR (f : List Int32) (nm tk sa : Int32) (pk : List Int32) : Prop := 7 ≤ f.length ∧ aT f 2 = nI f.length ∧ pA f 49 7 0 (-1) (-1) [] = some (nm, tk, sa, pk) ∧ ¬ sa = -1 ∧ rP pk
theorem gR.uniq {f pk pk' : List Int32} {nm tk sa nm' tk' sa' : Int32} (h : gR f nm tk sa pk) (h' : gR f nm' tk' sa' pk') : nm = nm' ∧ tk = tk' ∧ sa = sa' ∧ pk = pk' := by
  have e := h.2.2.1.symm.trans h'.2.2.1
  cases e
  exact ⟨rfl, rfl, rfl, rfl⟩
/-- the place of the seal lies within -/
theorem pA_seal {f : List Int32} : ∀ (d p : Nat) (nm tk sa nm' tk' sa' : Int32) (pk pk' : List Int32), f.length ≤ 48 → p ≤ 48 → (sa = -1 ∨ ∃ j, sa = nI j ∧ 2 ≤ j ∧ j + 4 ≤ f.length) → pA f d p nm tk sa pk = some (nm', tk', sa', pk') → sa' = -1 ∨ ∃ j, sa' = nI j ∧ 2 ≤ j ∧ j + 4 ≤ f.length := by
  intro d
  induction d with
  | zero => intro p nm tk sa nm' tk' sa' pk pk' _ _ _ h; cases h
  | succ d ih =>
    intro p nm tk sa nm' tk' sa' pk pk' hf hp hs h
    rw [pA] at h
    split at h
    · cases h; exact hs
    · rename_i hle
      split at h
      · cases h
      · rename_i hlt
        split at h
        · cases h
        · rename_i z a1 a2 a3 a4 e
          obtain ⟨ez, z3, z10, -⟩ := pS_size e
          have hzl : p + z ≤ f.length := by
            rw [ez, nI_add] at hlt
            exact Nat.le_of_not_lt (fun q => hlt (nI_lt q (by omega)))
          refine ih (p + z) _ _ _ _ _ _ _ _ hf (by omega) ?_ h
          unfold pS at e
          split at e
          · split at e
            · cases e; exact hs
            · cases e
          · split at e
            · split at e
              · cases e; exact hs
              · cases e
            · split at e
              · split at e
                · cases e; exact hs
                · cases e
              · split at e
                · split at e
                  · cases e
                    exact Or.inr ⟨p + 2, rfl, by omega, by omega⟩
                  · cases e
                · cases e
theorem sp_Da_read {u : pj_M} {i q : Nat} {f : List Int32} {K : Int32 → pj_M → Prop} (hq : rw_ u q f) (hd : q + 1 < i ∨ i + 4 < q)
    (kt : ∀ nm tk pk j, gR f nm tk (nI j) pk → 2 ≤ j → j + 4 ≤ f.length → ∀ u', dg u' i f nm tk (nI j) pk → u' i 5 = iA f 3 → u' i 6 = iA f j → f5 i u u' → K 1 u') (kf : (¬ ∃ nm tk sa pk, gR f nm tk sa pk) → ∀ u', f5 i u u' → K 0 u') : pw_Da_read u i q K := by
  refine sp_Ro_copy hq (by omega) (by omega) (fun u1 h1 g1 => ?_)
  refine sp_Ro_clear (fun u2 h2 g2 => ?_)
  have h48 := hq.2.1
  have h31 := hq.lt
  have hf1 : rw_ u2 (i + 1) f := h1.keep (g2 _ (by omega) (by omega)) (g2 _ (by omega) (by omega))
  show (_ → _) ∧ (_ → _)
  generalize hu5 : pj_set (pj_set (pj_set u2 i 2 0) i 3 (-1)) i 4 (-1) = u5
  have o5 : ∀ a, a ≠ i → u5 a = u2 a := fun a ha => by rw [← hu5, ps_i ha, ps_i ha, ps_i ha]
  have hdg : dg u5 i f 0 (-1) (-1) [] := by
    refine ⟨hf1.keep (o5 _ (by omega)) (o5 _ (by omega)), h2.keep (o5 _ (by omega)) (o5 _ (by omega)), ?_, ?_, ?_⟩
    · rw [← hu5, ps_k (by decide), ps_k (by decide), ps_s]
    · rw [← hu5, ps_k (by decide), ps_s]
    · rw [← hu5, ps_s]
  have g5 : f5 i u u5 := (f5.row g1).tr ((f5.pkt g2).tr (fun a ha => o5 a (by omega)))
  clear hu5
  refine br_c (fun h => ?_) (fun h => ?_)
  · refine kf (fun ⟨a1, a2, a3, a4, z⟩ => ?_) u5 g5
    have h : u5 (i + 1) 1 < 7 := h
    rw [hdg.1.1] at h
    exact nI_nlt (a := f.length) (b := 7) z.1 h31 h
  have h7 : 7 ≤ f.length := Nat.le_of_not_lt (fun z => h (by show u5 (i + 1) 1 < 7; rw [hdg.1.1]; exact nI_lt (b := 7) z (by decide)))
  refine sp_Ro_at hdg.1 2 rfl (by decide) (br_c (fun h2 => ?_) (fun h2 => ?_))
  rotate_left
  · exact kf (fun ⟨a1, a2, a3, a4, z⟩ => h2 (by rw [hdg.1.1]; exact z.2.1)) u5 g5
  rw [hdg.1.1] at h2
  refine ⟨50, lp_Da_readAttributes h48 49 7 0 u5 0 (-1) (-1) [] (by omega) h7 (by omega) (by simp) hdg (fun e u6 g6 => ?_) (fun nm tk sa pk e u6 h6 g6 => ⟨fun hs => ?_, fun hs => ?_⟩)⟩
  · exact br_t rfl (kf (fun ⟨a1, a2, a3, a4, z⟩ => by rw [z.2.2.1] at e; cases e) u6 (g5.tr g6))
  · exact br_t rfl (kf (fun ⟨a1, a2, a3, a4, z⟩ => by rw [z.2.2.1] at e; cases e; exact z.2.2.2.1 hs) u6 (g5.tr g6))
  · refine br_f (by decide) ?_
    rcases pA_seal 49 7 0 (-1) (-1) nm tk sa [] pk h48 (by decide) (Or.inl rfl) e with z | ⟨j, rfl, hj2, hj4⟩
    · exact absurd z hs
    refine sp_Ro_intAt h6.1 3 rfl (by decide) ?_
    have o7 : ∀ a, a ≠ i → pj_set u6 i 5 (iA f 3) a = u6 a := fun a ha => ps_i ha
    have r7 : rw_ (pj_set u6 i 5 (iA f 3)) (i + 1) f := h6.1.keep (o7 _ (by omega)) (o7 _ (by omega))
    refine sp_Ro_intAt r7 j (by rw [ps_k (by decide)]; exact h6.2.2.2.2) (by omega) ?_
    show pw_Pa_isRight (pj_set (pj_set u6 i 5 (iA f 3)) i 6 (iA f j)) (i + 3) (fun r8 u7 => pj_bi r8 ∧ K r8 u7)
    generalize hu8 : pj_set (pj_set u6 i 5 (iA f 3)) i 6 (iA f j) = u8
    have o8 : ∀ a, a ≠ i → u8 a = u6 a := fun a ha => by rw [← hu8, ps_i ha, ps_i ha]
    have h8 : dg u8 i f nm tk (nI j) pk := by
      refine ⟨h6.1.keep (o8 _ (by omega)) (o8 _ (by omega)), h6.2.1.keep (o8 _ (by omega)) (o8 _ (by omega)), ?_, ?_, ?_⟩
      · rw [← hu8, ps_k (by decide), ps_k (by decide)]; exact h6.2.2.1
      · rw [← hu8, ps_k (by decide), ps_k (by decide)]; exact h6.2.2.2.1
      · rw [← hu8, ps_k (by decide), ps_k (by decide)]; exact h6.2.2.2.2
    have e5 : u8 i 5 = iA f 3 := by rw [← hu8, ps_k (by decide), ps_s]
    have e6 : u8 i 6 = iA f j := by rw [← hu8, ps_s]
    have g8 : f5 i u u8 := g5.tr (g6.tr (fun a ha => o8 a (by omega)))
    refine sp_Pa_isRight h8.2.1 (fun hp => ?_) (fun hp => ?_)
    · exact ⟨pj_bi1, kt nm tk pk j ⟨h7, h2, e, hs, hp⟩ hj2 hj4 u8 h8 e5 e6 g8⟩
    · exact ⟨pj_bi0, kf (fun ⟨a1, a2, a3, a4, z⟩ => by rw [z.2.2.1] at e; cases e; exact hp z.2.2.2.2) u8 g8⟩
