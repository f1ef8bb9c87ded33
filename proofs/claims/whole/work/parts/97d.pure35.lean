/-! The pure part: the class's server proceeds, decides -/
theorem sp_Sv_proceed {u : pj_M} {i k y : Nat} {ρ : Nat → Nat} {L : List (Nat → Int32)} {pk : List Int32} {K : Int32 → pj_M → Prop} (hi : 90 ≤ i) (h : CSr u i ρ L) (hk : k < L.length) (hp : rw_ u (i + 5 + 3) pk) (hy : y < 8) (h1 : sg L k 1 = nI y)
    (k0 : ¬ okI (u 2) (sg L k) pk y → (∀ x, ¬ swI (u 3) (sg L k) pk y x) → ¬ fpI (u 2) (sg L k) pk y → K 0 u)
    (kok : okI (u 2) (sg L k) pk y → ∀ u', dcP i u u' (L.eraseIdx k) 2 (-1) (ph 3 (aT pk 1) 0) (u i 15) (u i 16) → K 1 u')
    (ksw : ∀ x, swI (u 3) (sg L k) pk y x → ∀ u', dcP i u u' (L.set k (bmS (sg L k) x (rnd (u 2 y) (u i 0) (u i 16)) (awN pk))) 11 (sg L k 0) (bmM x (awN pk) (rnd (u 2 y) (u i 0) (u i 16))) (u i 15) (u i 16 + 1) → K 1 u')
    (kfp : fpI (u 2) (sg L k) pk y → ∀ u', dcP i u u' (L.set k (fpS (sg L k) pk)) 11 (sg L k 0) (pd (ph 1 (awN pk) 51) (3 :: b4 (mPrf (u 2 y) 3 (iA pk 5) (sg L k 5)))) (u i 15) (u i 16) → K 1 u') : pw_Sv_proceed u i (ρ k) (i + 5 + 3) K := by
  have h48 := hp.2.1
  have n4 := h.2.2.2.1
  have k4 : k < 4 := by omega
  have hr := h.1.2 k k4
  have eS : u (ρ k) = sg L k := h.2.2.2.2 k hk
  have y31 : y < 2 ^ 31 := by omega
  have uy : (u (ρ k) 1).toNatClampNeg = y := by rw [eS, h1]; exact nI_clamp y31
  have vy : vp_in (u (ρ k) 1) 8 := by rw [eS, h1]; exact v8 hy
  have ph3e : ∀ x : Int32, [3 &&& 255, x &&& 255, 3] = ph 3 x 0 := fun x => by
    rw [show (3 : Int32) &&& 255 = 3 by decide]
    exact (if_pos (by decide)).symm
  have fin : ∀ (w : pj_M), w = u → okI (u 2) (sg L k) pk y → (∀ u', dcP i u u' (L.eraseIdx k) 2 (-1) (ph 3 (aT pk 1) 0) (u i 15) (u i 16) → K 1 u') → pw_Sv_finish u i 2 3 (some (ρ k)) fun u1 => K 1 u1 := by
    intro w _ _ kk
    refine sp_Sv_finish (o := some k) h (fun j hj => by cases hj; exact hk) hp (fun u' D => kk u' ?_)
    rw [ph3e] at D
    exact D
  refine sp_Pa_type hp (br_c (fun t3 => ?_) (fun t3 => br_c (fun t4 => ?_) (fun t4 => br_c (fun t51 => ?_) (fun t51 => ?_))))
  · -- another method is wanted
    have t3 : aT pk 3 = 3 := t3
    have nok : ¬ okI (u 2) (sg L k) pk y := by
      rintro (z | z)
      · rw [t3] at z; exact absurd z.1 (by decide)
      · rw [t3] at z; exact absurd z.1 (by decide)
    have nfp : ¬ fpI (u 2) (sg L k) pk y := by
      intro z
      rw [fpI, t3] at z
      exact absurd z.1 (by decide)
    have no : ∀ r : Int32, (∀ x, swI (u 3) (sg L k) pk y x → x = r) → r = 0 → pb_Sv_proceed_57 K u r := fun r hx hr0 => by
      rw [hr0]
      exact br_t rfl ⟨pj_bi0, k0 nok (fun x z => z.2.2.2 ((hx x z).trans hr0)) nfp⟩
    unfold pb_Sv_proceed_40 pw_Sv_methodWanted pb_Sv_methodWanted_0
    refine sp_Pa_dataSize hp (br_c (fun e5 => ?_) (fun e5 => ?_))
    rotate_left
    · exact br_t rfl (no 0 (fun x z => absurd ((pk_dsz (n := 1) h48 (by decide)).mpr z.2.1) e5) rfl)
    have l5 : pk.length = 5 := (pk_dsz (n := 1) h48 (by decide)).mp e5
    refine ⟨vy, ?_⟩
    rw [uy, eS]
    refine plt (sp_Pa_firstData hp ?_)
    have sw : ∀ x : Int32, ((aT pk 4 = 4 ∧ x = (u 3 y &&& (sg L k 3 ^^^ (-1))) &&& 1) ∨ (aT pk 4 = 51 ∧ x = (u 3 y &&& (sg L k 3 ^^^ (-1))) &&& 2)) → ¬ x = 0 → pb_Sv_proceed_51 K u i (ρ k) x := by
      intro x hx nx
      have hS : swI (u 3) (sg L k) pk y x := ⟨t3, l5, hx, nx⟩
      refine sp_Sv_beginMethod (y := y) hi hr.2.1 hr.2.2 hp hy (by rw [eS]; exact h1) (fun u1 d1 e1 h1' g1 => br_f nx ⟨pj_bi1, ksw x hS u1 ⟨⟨ρ, CSr.set h hk ?_ ?_ (by rw [e1, eS]; rfl) (fun a ha hb hc => ?_)⟩, ?_, ?_, h1', ?_, ?_, fun q h1 h2 h3 h4 h5 => ?_, fun a h1 h2 h3 h4 h5 => ?_⟩⟩)
      · exact g1 _ (by omega) (by omega) (by omega) (by omega)
      · rw [d1, up_k (by decide), up_k (by decide), up_k (by decide)]
      · exact g1 a (by omega) hc (by omega) (by omega)
      · rw [d1, up_k (by decide), up_s]
      · rw [d1, up_s, eS]
      · rw [d1, up_k (by decide), up_k (by decide), up_k (by decide)]
      · rw [d1, up_k (by decide), up_k (by decide), up_s]
      · rw [d1, up_k h2, up_k h1, up_k h5]
      · exact g1 a h1 (by omega) h3 h4
    refine br_c (fun q4 => ?_) (fun q4 => br_c (fun q51 => ?_) (fun q51 => ?_))
    · have q4 : aT pk 4 = 4 := q4
      refine br_c (fun z => no _ (fun x hx => ?_) z) (fun z => sw _ (Or.inl ⟨q4, rfl⟩) z)
      rcases hx.2.2.1 with w | w
      · exact w.2
      · rw [q4] at w; exact absurd w.1 (by decide)
    · have q51 : aT pk 4 = 51 := q51
      refine br_c (fun z => no _ (fun x hx => ?_) z) (fun z => sw _ (Or.inr ⟨q51, rfl⟩) z)
      rcases hx.2.2.1 with w | w
      · rw [q51] at w; exact absurd w.1 (by decide)
      · exact w.2
    · refine br_t rfl (no 0 (fun x hx => ?_) rfl)
      rcases hx.2.2.1 with w | w
      · exact absurd w.1 q4
      · exact absurd w.1 q51
  · -- an answer to a challenge
    have t4 : aT pk 3 = 4 := t4
    have nsw : ∀ x, ¬ swI (u 3) (sg L k) pk y x := by
      intro x z
      rw [swI, t4] at z
      exact absurd z.1 (by decide)
    have nfp : ¬ fpI (u 2) (sg L k) pk y := by
      intro z
      rw [fpI, t4] at z
      exact absurd z.1 (by decide)
    have no : ¬ (sg L k 2 = 1 ∧ pk.length = 8 ∧ iA pk 4 = chal (aT pk 1) (u 2 y) (sg L k 5)) → K 0 u := fun z => k0 (by
      rintro (w | w)
      · exact z w.2
      · rw [t4] at w; exact absurd w.1 (by decide)) nsw nfp
    unfold pb_Sv_proceed_67
    rw [eS]
    refine br_c (fun m1 => ?_) (fun m1 => ⟨pj_bi0, no (fun z => m1 z.1)⟩)
    unfold pb_Sv_proceed_75 pw_Sv_takeChallengeResponse pb_Sv_takeChallengeResponse_0
    refine sp_Pa_id hp ⟨vy, ?_⟩
    rw [uy, eS]
    refine sp_Di_challengeResponse (sp_Pa_dataSize hp (br_c (fun e => ?_) (fun e => br_t rfl ⟨pj_bi0, no (fun z => e ((pk_dsz (n := 4) h48 (by decide)).mpr z.2.1))⟩)))
    have l8 : pk.length = 8 := (pk_dsz (n := 4) h48 (by decide)).mp e
    refine sp_Pa_dataIntAt hp 0 rfl (by decide) (br_c (fun e2 => ?_) (fun e2 => br_t rfl ⟨pj_bi0, no (fun z => e2 z.2.2)⟩))
    have ok : okI (u 2) (sg L k) pk y := Or.inl ⟨t4, m1, l8, e2⟩
    unfold pb_Sv_takeChallengeResponse_43
    refine sp_Sv_finish (o := some k) h (fun j hj => by cases hj; exact hk) hp (fun u' D => br_f (by decide) ⟨pj_bi1, kok ok u' ?_⟩)
    rw [ph3e] at D
    exact D
  · -- proofs
    have t51 : aT pk 3 = 51 := t51
    have nsw : ∀ x, ¬ swI (u 3) (sg L k) pk y x := by
      intro x z
      rw [swI, t51] at z
      exact absurd z.1 (by decide)
    unfold pb_Sv_proceed_90
    rw [eS]
    refine br_c (fun m2 => ?_) (fun m2 => ?_)
    rotate_left
    · refine k0 ?_ nsw (fun z => m2 z.2.1)
      rintro (w | w)
      · rw [t51] at w; exact absurd w.1 (by decide)
      · exact m2 w.2.1
    unfold pb_Sv_proceed_100
    rw [eS]
    refine br_c (fun s7 => ?_) (fun s7 => ?_)
    · -- the first
      have nok : ¬ okI (u 2) (sg L k) pk y := by
        rintro (w | w)
        · rw [t51] at w; exact absurd w.1 (by decide)
        · exact w.2.2.1 s7
      have no : ¬ (pk.length = 13 ∧ aT pk 4 = 2 ∧ iA pk 9 = mPrf (u 2 y) 2 (sg L k 5) (iA pk 5)) → pb_Sv_proceed_122 K u 0 := fun z => ⟨pj_bi0, k0 nok nsw (fun w => z w.2.2.2)⟩
      unfold pb_Sv_proceed_116 pw_Sv_takeFirstProof pb_Sv_takeFirstProof_0
      refine ⟨vy, ?_⟩
      rw [uy]
      refine plt (sp_Pa_dataIntAt hp 1 rfl (by decide) (sp_Pa_dataSize hp (br_c (fun e => ?_) (fun e => no (fun z => e ((pk_dsz (n := 9) h48 (by decide)).mpr z.1))))))
      have l13 : pk.length = 13 := (pk_dsz (n := 9) h48 (by decide)).mp e
      refine sp_Pa_firstData hp (br_c (fun d2 => ?_) (fun d2 => no (fun z => d2 z.2.1)))
      refine sp_Pa_dataIntAt hp 5 rfl (by decide) (sp_Di_macOfProof ?_)
      rw [eS]
      refine br_c (fun e2 => ?_) (fun e2 => no (fun z => e2 z.2.2))
      have fp : fpI (u 2) (sg L k) pk y := ⟨t51, m2, s7, l13, d2, e2⟩
      unfold pb_Sv_takeFirstProof_58
      refine pu (pu ?_)
      have o2 : ∀ a, a ≠ ρ k → (pj_set (pj_set u (ρ k) 6 (iA pk (4 + 1))) (ρ k) 7 1) a = u a := fun a h => by rw [ps_i h, ps_i h]
      have e2' : (pj_set (pj_set u (ρ k) 6 (iA pk (4 + 1))) (ρ k) 7 1) (ρ k) = up (up (sg L k) 6 (iA pk 5)) 7 1 := by rw [st_up, st_up, eS]
      generalize pj_set (pj_set u (ρ k) 6 (iA pk (4 + 1))) (ρ k) 7 1 = u2 at o2 e2' ⊢
      refine sp_Sv_openRequest hr.2.1 hr.2.2 (hp.keep (o2 _ (by omega)) (o2 _ (by omega))) (fun u3 d3 e3 h3 g3 => ?_)
      rw [e2', o2 i (by omega)] at d3
      rw [e2'] at e3
      refine sp_Ro_put h3 (by simp) (fun u4 h4 g4 => ?_)
      have e45 : u4 (ρ k) 5 = sg L k 5 := by rw [g4 _ (by omega) (by omega), e3, up_k (by decide), up_k (by decide), up_k (by decide)]
      rw [e45]
      refine sp_Di_macOfProof (sp_Ro_putInt h4 (by simp) (fun u5 h5 g5 => sp_Pa_setLength h5 (by simp) (fun u6 h6 g6 => ⟨pj_bi1, kfp fp u6 ?_⟩)))
      have g := g4.tr (g5.tr g6)
      have gi : u6 i = up (up (u i) 11 11) 12 (sg L k 0) := by
        rw [g i (by omega) (by omega), d3]
        rw [up_k (show (0 : Nat) ≠ 7 by decide), up_k (show (0 : Nat) ≠ 6 by decide)]
      have go : ∀ a, a ≠ i → a ≠ ρ k → a ≠ i + 15 → a ≠ i + 16 → u6 a = u a := fun a h1 h2 h3 h4 => (g a h3 h4).trans ((g3 a h1 h2 h3 h4).trans (o2 a h2))
      refine ⟨⟨ρ, CSr.set h hk (go _ (by omega) (by omega) (by omega) (by omega)) (by rw [gi, up_k (by decide), up_k (by decide)]) ?_ (fun a ha hb hc => go a (by omega) hc (by omega) (by omega))⟩, by rw [gi, up_k (by decide), up_s], by rw [gi, up_s], ?_, by rw [gi, up_k (by decide), up_k (by decide)], by rw [gi, up_k (by decide), up_k (by decide)], fun q h1 h2 h3 h4 h5 => by rw [gi, up_k h2, up_k h1], fun a h1 h2 h3 h4 h5 => go a h1 (by omega) h3 h4⟩
      · rw [g _ (by omega) (by omega), e3]; rfl
      · rw [← op_pd1 (by simp [b4])]
        have x3 : (3 : Int32) &&& 255 = 3 := by decide
        have x51 : (51 : Int32) &&& 255 = 51 := by decide
        rw [x3, x51] at h6
        simpa [b4, awN] using h6
    · -- the last
      have nfp : ¬ fpI (u 2) (sg L k) pk y := fun z => s7 z.2.2.1
      have no : ¬ (pk.length = 9 ∧ aT pk 4 = 4 ∧ iA pk 5 = mPrf (u 2 y) 4 (sg L k 5) (sg L k 6)) → pb_Sv_proceed_122 K u 0 := fun z => ⟨pj_bi0, k0 (by
        rintro (w | w)
        · rw [t51] at w; exact absurd w.1 (by decide)
        · exact z w.2.2.2) nsw nfp⟩
      unfold pb_Sv_proceed_107 pw_Sv_takeLastProof pb_Sv_takeLastProof_0
      refine ⟨vy, ?_⟩
      rw [uy, eS]
      refine sp_Di_macOfProof (sp_Pa_dataSize hp (br_c (fun e => ?_) (fun e => no (fun z => e ((pk_dsz (n := 5) h48 (by decide)).mpr z.1)))))
      have l9 : pk.length = 9 := (pk_dsz (n := 5) h48 (by decide)).mp e
      refine sp_Pa_firstData hp (br_c (fun d2 => ?_) (fun d2 => no (fun z => d2 z.2.1)))
      refine sp_Pa_dataIntAt hp 1 rfl (by decide) (br_c (fun e2 => ?_) (fun e2 => no (fun z => e2 z.2.2)))
      have ok : okI (u 2) (sg L k) pk y := Or.inr ⟨t51, m2, s7, l9, d2, e2⟩
      unfold pb_Sv_takeLastProof_52
      refine sp_Sv_finish (o := some k) h (fun j hj => by cases hj; exact hk) hp (fun u' D => ⟨pj_bi1, kok ok u' ?_⟩)
      rw [ph3e] at D
      exact D
  · refine k0 ?_ (fun x z => t3 z.1) (fun z => t51 z.1)
    rintro (w | w)
    · exact t4 w.1
    · exact t51 w.1
theorem sp_Sv_decide {u : pj_M} {i : Nat} {ρ : Nat → Nat} {L : List (Nat → Int32)} {pk : List Int32} {tk : Int32} {K : pj_M → Prop} (hi : 90 ≤ i) (h : CSr u i ρ L) (hU : ∀ k, k < L.length → ∃ y, y < 8 ∧ sg L k 1 = nI y) (hp : rw_ u (i + 5 + 3) pk) (htk : u (i + 5) 3 = tk) (k : ∀ n L' code tok m bg rn u', deR (u 2) (u 3) (u i 0) (u i 15) (u i 16) pk tk L L' code tok m bg rn n → dcP i u u' L' code tok m bg rn → K u') : pw_Sv_decide u i (i + 5 + 3) K := by
  have n4 := h.2.2.2.1
  unfold pw_Sv_decide pb_Sv_decide_0
  rw [htk]
  have ph4e : ∀ x : Int32, [4 &&& 255, x &&& 255, 3] = ph 4 x 0 := fun x => by
    rw [show (4 : Int32) &&& 255 = 4 by decide]
    exact (if_pos (by decide)).symm
  have main : ∀ o : Option Nat, oI L tk o → pw_Pa_code u (i + 5 + 3) fun r4 u3 => (((r4 = 2) → (pb_Sv_decide_22 K u3 i (i + 5 + 3) (o.map ρ) 0)) ∧ (¬ (r4 = 2) → (pb_Sv_decide_39 K u3 i (i + 5 + 3) (o.map ρ) 0))) := by
    intro o hO
    have ok : ∀ k, o = some k → k < L.length := fun k e => by rw [e] at hO; exact hO.1
    have no : (∀ x, ¬ opC (u 3) pk x) → (∀ k y, o = some k → hvC L tk pk k y → ¬ okI (u 2) (sg L k) pk y ∧ (∀ x, ¬ swI (u 3) (sg L k) pk y x) ∧ ¬ fpI (u 2) (sg L k) pk y) → pb_Sv_decide_69 K u i (o.map ρ) 0 := by
      intro h1 h2
      refine br_t rfl (sp_Sv_finish h ok hp (fun u' D => ?_))
      rw [ph4e] at D
      exact k 0 _ _ _ _ _ _ u' ⟨o, hO, h1, h2, rfl, rfl, rfl, rfl, rfl, rfl⟩ D
    refine sp_Pa_code hp (br_c (fun c2 => ?_) (fun c2 => ?_))
    rotate_left
    · refine sp_Pa_code hp (br_f c2 (no (fun x z => c2 z.1) (fun k y _ z => absurd z.2.1 c2)))
    have c2 : aT pk 0 = 2 := c2
    refine sp_Pa_type hp (br_c (fun t1 => ?_) (fun t1 => ?_))
    · have t1 : aT pk 3 = 1 := t1
      refine sp_Sv_openSession hi h hp (fun hn => no (fun x z => hn ⟨x, z.2.2⟩) (fun k y _ z => absurd t1 z.2.2.1)) (fun x σ0 u' hx D => br_f (by decide) ?_)
      exact k 2 _ _ _ _ _ _ u' ⟨x, σ0, ⟨c2, t1, hx⟩, rfl, rfl, rfl, rfl, rfl, rfl⟩ D
    · refine sp_Pa_code hp (br_t c2 ?_)
      cases o with
      | none => exact ⟨fun _ => no (fun x z => t1 z.2.1) (fun k y z _ => by cases z), fun _ z => by cases z⟩
      | some j =>
        refine ⟨fun z => (by cases z), fun i101 z => ?_⟩
        cases z
        have hj := ok j rfl
        refine ⟨h.T (by omega), sp_Pa_id hp ?_⟩
        rw [h.2.2.2.2 j hj]
        obtain ⟨y, hy, ey⟩ := hU j hj
        refine br_c (fun ei => ?_) (fun ei => no (fun x z => t1 z.2.1) (fun k y z w => by cases z; exact absurd w.2.2.2.1 ei))
        have hv : hvC L tk pk j y := ⟨hO, c2, t1, ei, hy, ey⟩
        refine sp_Sv_proceed hi h hj hp hy ey (fun a b c => no (fun x z => t1 z.2.1) (fun k y' z w => ?_)) (fun a u' D => br_f (by decide) (k 1 _ _ _ _ _ _ u' ⟨j, y, hv, a, rfl, rfl, rfl, rfl, rfl, rfl⟩ D)) (fun x a u' D => br_f (by decide) (k 3 _ _ _ _ _ _ u' ⟨j, y, x, hv, a, rfl, rfl, rfl, rfl, rfl, rfl⟩ D)) (fun a u' D => br_f (by decide) (k 4 _ _ _ _ _ _ u' ⟨j, y, hv, a, rfl, rfl, rfl, rfl, rfl, rfl⟩ D))
        cases z
        have ey' : y' = y := by
          have := w.2.2.2.2.2.symm.trans ey
          exact (nI_eq (by have := w.2.2.2.2.1; omega) (by omega)).mp this
        subst ey'
        exact ⟨a, b, c⟩
  refine sp_Sv_sessionNumbered h (fun k hk hlt he => main (some k) ⟨hk, he, hlt⟩) (fun hn => main none hn)
