/-! The pure part: what is sent is bytes, to a place -/
theorem bl_pC {m : List Int32} (hb : bl m) : ∀ d a, bl (pC m d a) := by
  intro d
  induction d with
  | zero => intro a; exact bl_nil
  | succ d ih =>
    intro a
    unfold pC
    split
    · exact bl_nil
    · exact bl_app (bl_cons (by decide) (bl_cons (b255 _ (by omega)) bl_nil)) (bl_app (bl_sl hb) (ih _))
theorem bl_gH (code id au nm tk : Int32) : bl (gH code id au nm tk) := by
  unfold gH
  refine bl_app (bl_cons (and255 _) (bl_cons (and255 _) (bl_cons (by decide) (bl_b4 au)))) (bl_app ?_ ?_)
  · split
    · exact bl_nil
    · exact bl_cons (by decide) (bl_cons (by decide) (bl_cons (and255 _) bl_nil))
  · split
    · exact bl_nil
    · exact bl_cons (by decide) (bl_cons (by decide) (bl_cons (bl_y tk).2.2.1 (bl_cons (bl_y tk).2.2.2 bl_nil)))
theorem bl_gU {code id au nm tk : Int32} {m : List Int32} (hb : bl m) : bl (gU code id au nm tk m) := by
  unfold gU gB
  exact bl_set (bl_app (bl_app (bl_app (bl_gH _ _ _ _ _) (bl_pC hb _ _)) (bl_cons (by decide) (bl_cons (by decide) bl_nil))) (bl_cons (by decide) (bl_cons (by decide) (bl_cons (by decide) (bl_cons (by decide) bl_nil))))) (and255 _)
theorem bl_si {l : List Int32} {j : Nat} {v : Int32} (h : bl l) : bl (si l j v) := by
  unfold si
  exact bl_set (bl_set (bl_set (bl_set h (bl_y v).1) (bl_y v).2.1) (bl_y v).2.2.1) (bl_y v).2.2.2
theorem bl_gY {s code id au nm tk : Int32} {m : List Int32} (hb : bl m) : bl (gY s code id au nm tk m) := bl_si (bl_gU hb)
theorem bl_rO {s code id au tok : Int32} {m : List Int32} (hb : bl m) : bl (rO s code id au tok m) := bl_si (bl_gY hb)
theorem bl_0 {l : List Int32} (h : bl l) : bl (0 :: l) := bl_cons (by decide) h
theorem ok01 {w x : Int32} {p : Nat} {l : List Int32} (hw : w = 0 ∨ w = 1) (hp : p < 4) (hx : x = nI p) (hl : bl l) : okM (w, x, l) := ⟨Or.inl ⟨hw, p, hp, hx⟩, hl⟩
theorem ok2 {x : Int32} {l : List Int32} (hx : x = 0 ∨ x = 1) (hl : bl l) : okM (2, x, l) := by
  refine ⟨Or.inr ⟨Or.inl rfl, ?_⟩, hl⟩
  rcases hx with e | e
  · exact ⟨0, by decide, e⟩
  · exact ⟨1, by decide, e⟩
theorem ok3 {x : Int32} {s : Nat} {l : List Int32} (hs : s < 2) (hx : x = nI s) (hl : bl l) : okM (3, x, l) := ⟨Or.inr ⟨Or.inr rfl, s, hs, hx⟩, hl⟩
theorem ok_ho {c c' u : pj_M} {h n : Nat} {f : List Int32} {o : Option mT} (hh : h < 4) (R : RH c u h) (hS : hoS (91 + 5 * h) f c c' o n) : ∀ x, o = some x → okM x := by
  intro x hx
  have e0 := R.1.1
  have nn : o = none → okM x := fun z => by rw [z] at hx; cases hx
  have an : ∀ {e : pj_M} {L : List Int32}, bl L → hoA (91 + 5 * h) c e c' o L → okM x := by
    intro e L bL hA
    rw [hA.2.2] at hx
    cases hx
    exact ok01 (Or.inl rfl) hh e0 (bl_0 bL)
  match n, hS with
  | 0, hS => exact nn hS.2.2.2
  | 1, hS => exact nn hS.2.2.2.2
  | 2, hS => exact nn hS.2.2.2.2.2
  | 3, hS =>
    obtain ⟨_, _, _, _, h7, ⟨la, r, _, ho⟩, _⟩ := hS
    rw [ho] at hx
    cases hx
    rcases R.2.2.2 with ⟨z, _⟩ | ⟨_, l, r', _, _, bb, _⟩
    · exact absurd z h7
    · rw [r.uniq r']
      exact ok01 (Or.inl rfl) hh e0 (bl_0 bb)
  | 4, hS => exact an (bl_pd (bl_ph2 (by decide)) (bl_cons (and255 _) bl_nil) (by rw [ph2_len]; exact (by decide : 4 + 1 < 256))) hS.2.2
  | 5, hS =>
    rcases hS.2.2 with z | z | z
    · exact an (bl_pd (bl_ph2 (by decide)) (bl_cons (by decide) bl_nil) (by rw [ph2_len]; exact (by decide : 4 + 1 < 256))) z.2
    · exact an (bl_pd (bl_ph2 (by decide)) (bl_cons (by decide) bl_nil) (by rw [ph2_len]; exact (by decide : 4 + 1 < 256))) z.2.2
    · exact an (bl_pd (bl_ph2 (by decide)) (bl_cons (by decide) bl_nil) (by rw [ph2_len]; exact (by decide : 4 + 1 < 256))) z.2.2
  | 6, hS => exact an (bl_pd (bl_ph2 (by decide)) (bl_b4 _) (by rw [ph2_len, b4_len]; decide)) hS.2.2.2.2
  | 7, hS => exact an (bl_pd (bl_ph2 (by decide)) (bl_cons (by decide) (bl_app (bl_b4 _) (bl_b4 _))) (by rw [ph2_len]; exact (by decide : 4 + 9 < 256))) hS.2.2.2.2.2
  | 8, hS => exact an (bl_pd (bl_ph2 (by decide)) (bl_cons (by decide) (bl_b4 _)) (by rw [ph2_len]; exact (by decide : 4 + 5 < 256))) hS.2.2.2.2.2.2.2
  | 9, hS => exact nn hS.2.2.2.2
  | 10, hS => exact nn hS.2.2.2.2.2.2
  | 11, hS => exact nn hS.2.2.2.2.2.2.2
  | 12, hS => exact nn hS.2.2.2.2.2.2.2
  | 13, hS => exact nn hS.2.2.2.2.2.2
  | n + 14, hS => exact absurd hS (fun z => z)
theorem ok_po {c c' u : pj_M} {p n : Nat} {f : List Int32} {o : Option mT} (hp : p < 4) (P : PP c u p) (W : RW c u) (fb : bl f) (hS : poS (185 + 7 * p) f c c' o n) : ∀ x, o = some x → okM x := by
  intro x hx
  obtain ⟨la, as, ⟨a1, a2, a3, a4, a5, a6, a7⟩, rl, rq⟩ := P
  have hf : c 170 8 = 0 ∨ c 170 8 = 1 := by rw [W.1.2.2.1]; exact W.1.2.2.2.1
  match n, hS with
  | 0, hS => rw [hS.2.2.2] at hx; cases hx
  | 1, hS =>
    rw [hS.2.2.2.2.1.2.2.2] at hx
    cases hx
    exact ok01 (Or.inr rfl) hp a2 (bl_0 bl_ph1)
  | 2, hS =>
    rw [hS.2.2.2.2.1.2.2.2] at hx
    cases hx
    exact ok01 (Or.inr rfl) hp a2 (bl_0 bl_ph1)
  | 3, hS => rw [hS.2.2.2.2.2.2] at hx; cases hx
  | 4, hS => rw [hS.2.2.2.2.2.2.2] at hx; cases hx
  | 5, hS =>
    obtain ⟨_, _, _, _, _, _, _, _, _, _, hA⟩ := hS
    rw [hA.2.2.2.2.2.2] at hx
    cases hx
    exact ok2 hf (bl_gY fb.drop)
  | 6, hS =>
    obtain ⟨_, _, _, _, _, _, _, _, hA⟩ := hS
    rw [hA.2.2.2.2.2.2] at hx
    cases hx
    exact ok2 hf (bl_gY fb.drop)
  | n + 7, hS => exact absurd hS (fun z => z)
theorem ok_an {c c' u : pj_M} {sv : Int32} {p n : Nat} {f : List Int32} {o : Option mT} (hp : p < 4) (P : PP c u p) (fb : bl f) (hS : anS sv f c c' o p n) : ∀ x, o = some x → okM x := by
  intro x hx
  obtain ⟨la, as, ⟨a1, a2, a3, a4, a5, a6, a7⟩, rl, rq⟩ := P
  match n, hS with
  | 0, hS => rw [hS.2.2.2] at hx; cases hx
  | 1, hS =>
    obtain ⟨nm, tk, j, pk, q, hW, _, _, _, _, _, ho⟩ := hS
    rw [ho] at hx
    cases hx
    exact ok01 (Or.inr rfl) hp a2 (bl_0 (hW.2.1.bl fb))
  | 2, hS =>
    obtain ⟨nm, tk, j, pk, q, hW, _, _, _, _, _, ho⟩ := hS
    rw [ho] at hx
    cases hx
    exact ok01 (Or.inr rfl) hp a2 (bl_0 (hW.2.1.bl fb))
  | 3, hS =>
    obtain ⟨nm, tk, j, pk, q, hW, _, _, _, _, _, ho⟩ := hS
    rw [ho] at hx
    cases hx
    exact ok01 (Or.inr rfl) hp a2 (bl_0 (hW.2.1.bl fb))
  | n + 4, hS => exact absurd hS (fun z => z)
theorem ok_pu {c c' u : pj_M} {p n : Nat} {o : Option mT} (hp : p < 4) (P : PP c u p) (hS : puS (185 + 7 * p) c c' o n) : ∀ x, o = some x → okM x := by
  intro x hx
  obtain ⟨la, as, ⟨a1, a2, a3, a4, a5, a6, a7⟩, rl, rq⟩ := P
  have bg : ∀ {σ : Nat → Int32}, σ 0 = nI p → poB (185 + 7 * p) σ c c' o → okM x := by
    intro σ h0 hB
    rw [hB.2.2.2] at hx
    cases hx
    exact ok01 (Or.inr rfl) hp h0 (bl_0 bl_ph1)
  match n, hS with
  | 0, hS => rw [hS.2.2.2] at hx; cases hx
  | 1, hS => rw [hS.2.2.2.2.2.2] at hx; cases hx
  | 2, hS =>
    obtain ⟨n4, _, _, _, ⟨la', r', _, ho⟩, _⟩ := hS
    rw [ho] at hx
    cases hx
    rw [r'.uniq (rl.resolve_left n4)]
    exact ok01 (Or.inr rfl) hp a2 (bl_0 (a5.resolve_left n4).2.2.1)
  | 3, hS => exact bg (σ := up (pul (c (185 + 7 * p))) 6 0) a2 hS.2.2.2.2.2.1
  | 4, hS => exact bg (σ := pul (c (185 + 7 * p))) a2 hS.2.2.2.2.2.1
  | 5, hS =>
    obtain ⟨n4, _, n12, _, _, _, ⟨q, r, ho⟩, _⟩ := hS
    have n0 : ¬ c (185 + 7 * p) 12 = 0 := fun z => n12 (by rw [z]; decide)
    obtain ⟨_, _, _, z4, z5, _, _, _, _, z10, _⟩ := a7.resolve_left (fun z => n0 z.1)
    rw [ho] at hx
    cases hx
    rw [r.uniq (rq.resolve_left n0).2, z4]
    exact ok2 z5 (bl_gY z10)
  | 6, hS =>
    obtain ⟨n4, _, n12, _, _, _, as', r, hA⟩ := hS
    have n0 : ¬ c (185 + 7 * p) 12 = 0 := fun z => n12 (by rw [z]; decide)
    obtain ⟨_, _, _, z4, z5, _, _, _, _, z10, _⟩ := a7.resolve_left (fun z => n0 z.1)
    rw [hA.2.2.2.2.2.2] at hx
    cases hx
    rw [r.uniq (rq.resolve_left n0).1]
    refine ok2 ?_ (bl_gY z10)
    rw [z4]
    rcases z5 with y | y <;> rw [y]
    · exact Or.inr (by decide)
    · exact Or.inl (by decide)
  | 7, hS =>
    obtain ⟨n4, _, _, _, _, _, ⟨la', r', _, ho⟩, _⟩ := hS
    rw [ho] at hx
    cases hx
    refine ok01 (Or.inr rfl) hp a2 (bl_0 ?_)
    rw [ph4]
    exact bl_cons (by decide) (bl_cons (and255 _) (bl_cons (by decide) bl_nil))
  | 8, hS => exact bg (σ := pul (c (185 + 7 * p))) a2 hS.2.2.2.2.1
  | n + 9, hS => exact absurd hS (fun z => z)
theorem ok_sv {c c' u : pj_M} {s n : Nat} {f : List Int32} {L : List (Nat → Int32)} {A : List aTy} {o : Option mT} (hs : s < 2) (R : RSx c u s L A) (hS : svS (112 + 29 * s) f L A c c' o n) : ∀ x, o = some x → okM x := by
  intro x hx
  obtain ⟨_, _, _, _, MA_, _, e0, _⟩ := R
  match n, hS with
  | 0, hS => rw [hS.2.2] at hx; cases hx
  | 1, hS => rw [hS.2.2.2.2.2] at hx; cases hx
  | 2, hS =>
    obtain ⟨_, _, ⟨t, ht, _, _, ho⟩, _⟩ := hS
    rw [ho] at hx
    cases hx
    exact ok3 hs e0 (bl_rO (MA_.2.2 t ht).2.2.2.2.2.2.1)
  | 3, hS =>
    obtain ⟨_, tk, pk, n', L', code, tok, m, bg, rn, _, _, hD, _, _, _, _, _, ho⟩ := hS
    rw [ho] at hx
    cases hx
    exact ok3 hs e0 (bl_rO (deR_m hD).1)
  | n + 4, hS => exact absurd hS (fun z => z)
theorem cl_ln {c c' : pj_M} {x : Int32} (h : ∀ j, j < 8 → c' 172 j = clS (c 172) x j) : ∀ j, j < 8 → c' 172 j = c 172 j ∨ c' 172 j = -1 := by
  intro j hj
  rw [h j hj]
  unfold clS
  split
  · exact Or.inr rfl
  · exact Or.inl rfl
theorem sm_ln {c c' : pj_M} (h : c' 172 = c 172) : ∀ j, j < 8 → c' 172 j = c 172 j ∨ c' 172 j = -1 := fun j _ => Or.inl (by rw [h])
theorem ln_po {c c' : pj_M} {i n : Nat} {f : List Int32} {o : Option mT} (hS : poS i f c c' o n) : ∀ j, j < 8 → c' 172 j = c 172 j ∨ c' 172 j = -1 := by
  match n, hS with
  | 0, hS => exact sm_ln hS.2.2.1.2
  | 1, hS => exact sm_ln hS.2.2.2.2.2
  | 2, hS => exact cl_ln hS.2.2.2.2.2
  | 3, hS => exact sm_ln hS.2.2.2.2.2.1.2
  | 4, hS => exact sm_ln hS.2.2.2.2.2.2.1.2
  | 5, hS =>
    obtain ⟨_, _, _, _, _, _, _, _, _, _, hA⟩ := hS
    exact sm_ln hA.2.2.2.1
  | 6, hS =>
    obtain ⟨_, _, _, _, _, _, _, _, hA⟩ := hS
    exact sm_ln hA.2.2.2.1
  | n + 7, hS => exact absurd hS (fun z => z)
theorem ln_an {c c' : pj_M} {sv : Int32} {p n : Nat} {f : List Int32} {o : Option mT} (hS : anS sv f c c' o p n) : ∀ j, j < 8 → c' 172 j = c 172 j ∨ c' 172 j = -1 := by
  match n, hS with
  | 0, hS => exact sm_ln hS.2.2.1.2
  | 1, hS =>
    obtain ⟨nm, tk, j, pk, q, hW, _, _, _, _, e, ho⟩ := hS
    exact sm_ln e
  | 2, hS =>
    obtain ⟨nm, tk, j, pk, q, hW, _, _, _, _, e, ho⟩ := hS
    exact sm_ln e
  | 3, hS =>
    obtain ⟨nm, tk, j, pk, q, hW, _, _, _, _, e, ho⟩ := hS
    exact cl_ln e
  | n + 4, hS => exact absurd hS (fun z => z)
theorem ln_pu {c c' : pj_M} {i n : Nat} {o : Option mT} (hS : puS i c c' o n) : ∀ j, j < 8 → c' 172 j = c 172 j ∨ c' 172 j = -1 := by
  match n, hS with
  | 0, hS => exact sm_ln hS.2.2.1.2
  | 1, hS => exact sm_ln hS.2.2.2.2.2.1
  | 2, hS => exact sm_ln hS.2.2.2.2.2.2.2
  | 3, hS => exact cl_ln hS.2.2.2.2.2.2
  | 4, hS => exact sm_ln hS.2.2.2.2.2.2
  | 5, hS => exact sm_ln hS.2.2.2.2.2.2.2.2.2
  | 6, hS =>
    obtain ⟨_, _, _, _, _, _, as, _, hA⟩ := hS
    exact sm_ln hA.2.2.2.1
  | 7, hS =>
    obtain ⟨_, _, _, _, _, _, _, _, _, e⟩ := hS
    exact cl_ln e
  | 8, hS => exact sm_ln hS.2.2.2.2.2
  | n + 9, hS => exact absurd hS (fun z => z)
