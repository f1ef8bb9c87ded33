/-! The pure part: the reference's switch hears a server -/
def aM (u : pj_M) (sv id : Int32) (p : Nat) : Prop := u 271 p = sv ∧ u 274 p &&& 255 = id
theorem lp_Mo_portFor {u : pj_M} {sv id : Int32} {K : Int32 → pj_M → Prop} (kt : ∀ p, p < 4 → (∀ t, t < p → ¬ aM u sv id t) → aM u sv id p → K (nI p) u) (kn : (∀ t, t < 4 → ¬ aM u sv id t) → K (-1) u) : ∀ (d t : Nat), t + d = 4 → (∀ q, q < t → ¬ aM u sv id q) → pb_Mo_portFor_2 K sv id (d + 1) u (nI t) := by
  intro d
  induction d with
  | zero =>
    intro t ht hq
    have e : t = 4 := by omega
    subst e
    exact br_t (by decide) (kn hq)
  | succ d ih =>
    intro t ht hq
    have t4 : t < 4 := by omega
    have nx : ¬ aM u sv id t → pb_Mo_portFor_33 (pb_Mo_portFor_2 K sv id (d + 1)) K u sv id (nI t) := by
      intro h
      show pb_Mo_portFor_2 K sv id (d + 1) u (nI t + 1)
      rw [nI_1]
      refine ih (t + 1) (by omega) (fun q h1 => ?_)
      by_cases c : q = t
      · rw [c]; exact h
      · exact hq q (by omega)
    refine br_f (fun q => nI_ge (a := t) (b := 4) (by omega) (by decide) q) ⟨v4 t4, ?_⟩
    try rw [c4 t4]
    refine br_c (fun e => ⟨v4 t4, ?_⟩) (fun e => nx (fun z => e z.1))
    try rw [c4 t4]
    exact br_c (fun e2 => kt t t4 hq ⟨e, e2⟩) (fun e2 => nx (fun z => e2 z.2))
theorem sp_Mo_portFor {u : pj_M} {sv id : Int32} {K : Int32 → pj_M → Prop} (kt : ∀ p, p < 4 → (∀ t, t < p → ¬ aM u sv id t) → aM u sv id p → K (nI p) u) (kn : (∀ t, t < 4 → ¬ aM u sv id t) → K (-1) u) : pw_Mo_portFor u sv id K :=
  ⟨5, lp_Mo_portFor kt kn 4 0 (by decide) (fun q h => absurd h (Nat.not_lt_zero q))⟩
theorem aw_aM {c u : pj_M} {sv id : Int32} {p : Nat} (hsv : sv = 0 ∨ sv = 1) (P : PP c u p) : aw c sv id p ↔ aM u sv id p := by
  obtain ⟨la, as, ⟨a1, a2, a3, a4, a5, a6, a7⟩, rl, rq⟩ := P
  constructor
  · rintro ⟨h1, h2, l, r, e⟩
    have n12 : ¬ c (185 + 7 * p) 12 = 0 := fun z => h1 (by rw [z]; decide)
    obtain ⟨_, _, _, z4, _⟩ := a7.resolve_left (fun z => n12 z.1)
    obtain ⟨_, r5⟩ := rq.resolve_left n12
    refine ⟨?_, ?_⟩
    · show rs u p 13 = sv
      rw [← z4]; exact h2
    · rw [r.uniq r5, gY_1, and255] at e
      exact e
  · rintro ⟨h1, h2⟩
    have n12 : ¬ c (185 + 7 * p) 12 = 0 := by
      intro z
      rcases a7 with ⟨_, y⟩ | ⟨_, y, _⟩
      · have y : u 271 p = -1 := y
        rw [y] at h1
        rcases hsv with q | q <;> rw [q] at h1 <;> exact absurd h1 (by decide)
      · rw [z] at y
        exact absurd y (by decide)
    obtain ⟨_, z2, _, z4, _⟩ := a7.resolve_left (fun z => n12 z.1)
    obtain ⟨_, r5⟩ := rq.resolve_left n12
    refine ⟨?_, z4.trans h1, _, r5, ?_⟩
    · rcases z2 with z | z <;> rw [z] <;> decide
    · rw [gY_1, and255]
      exact h2
theorem rf_fit {u : pj_M} {sv : Int32} {x : Int32} {f pk : List Int32} {K : pj_M → Prop} (hr : mR u f) (f0 : 0 < f.length) (hP : mP u pk) (p0 : 0 < pk.length) (kt : fit f pk → pb_Mo_switchHears_156 K u sv x 1) (kf : ¬ fit f pk → pb_Mo_switchHears_156 K u sv x 0) : pb_Mo_switchHears_90 K u sv x := by
  have e0 : u 226 (0 : Int32).toNatClampNeg = aT f 0 := hr.at (j := 0) f0
  have e1 : u 227 (0 : Int32).toNatClampNeg = aT pk 0 := hP.at (j := 0) p0
  have v0 : vp_in 0 48 := v48 (n := 0) (by decide)
  have s131 : ¬ (aT f 0 = 11 ∧ aT pk 0 = 1) → ¬ (aT f 0 = 2 ∧ aT pk 0 = 3) → pb_Mo_switchHears_131 K u sv x := by
    intro n1 n2
    refine ⟨v0, ?_⟩
    rw [e0]
    refine br_c (fun a => ⟨v0, ?_⟩) (fun a => kf (fun z => ?_))
    · rw [e1]
      refine br_c (fun b => kt (Or.inr (Or.inr ⟨a, b⟩))) (fun b => kf (fun z => ?_))
      rcases z with z | z | z
      · exact n1 z
      · exact n2 z
      · exact b z.2
    · rcases z with z | z | z
      · exact n1 z
      · exact n2 z
      · exact a z.1
  have s111 : ¬ (aT f 0 = 11 ∧ aT pk 0 = 1) → pb_Mo_switchHears_111 K u sv x := by
    intro n1
    refine ⟨v0, ?_⟩
    rw [e0]
    refine br_c (fun a => ⟨v0, ?_⟩) (fun a => s131 n1 (fun z => a z.1))
    rw [e1]
    exact br_c (fun b => kt (Or.inr (Or.inl ⟨a, b⟩))) (fun b => s131 n1 (fun z => b z.2))
  refine ⟨v0, ?_⟩
  rw [e0]
  refine br_c (fun a => ⟨v0, ?_⟩) (fun a => s111 (fun z => a z.1))
  rw [e1]
  exact br_c (fun b => kt (Or.inl ⟨a, b⟩)) (fun b => s111 (fun z => b z.2))
theorem nI_nn {n : Nat} (h : n < 2 ^ 31) : 0 ≤ nI n := nI_le (a := 0) (by omega) h
theorem rf_hears {c u : pj_M} {sv : Int32} {f : List Int32} {K : pj_M → Prop} (hsv : sv = 0 ∨ sv = 1) (P : ∀ q, q < 4 → PP c u q) (W : RW c u) (hr : mR u f) (hb : bl f) (ka : ∀ p nm tk j pk q u1, anW c sv f p nm tk j pk q → mP u1 pk → u1 217 14 = tk → (tk = -1 ∨ 0 ≤ tk) → gs u u1 → pb_Mo_switchHears_172 K u1 sv (nI p)) (kw : (¬ ∃ p nm tk j pk q, anW c sv f p nm tk j pk q) → ∀ u1, gs u u1 → pb_Mo_switchHears_161 K u1) : pw_Mo_switchHears u sv K := by
  have f48 := hr.2.1
  have no : ∀ u1 x3, gs u u1 → (¬ ∃ p nm tk j pk q, anW c sv f p nm tk j pk q) → pb_Mo_switchHears_84 K u1 sv x3 := fun u1 x3 g h => br_t rfl (br_t rfl (kw h u1 g))
  refine sp_Mo_rightGram hr hb (fun nm tk pk j hg j2 j4 u1 d1 g1 => br_f (by decide) ⟨v48 (n := 1) (by decide), ?_⟩) (fun hn u1 m1 g1 => br_t rfl (br_f (by decide) (br_t (by decide) (no u1 _ g1 (fun ⟨p, nm, tk, j, pk, q, z⟩ => hn ⟨nm, tk, _, pk, z.2.1⟩)))))
  have f7 := hg.1
  have pk3 : 3 ≤ pk.length := hg.2.2.2.2.1
  have j9 := hg.j9 f48 (by omega)
  rw [show u1 226 (1 : Int32).toNatClampNeg = aT f 1 from d1.1.at (j := 1) (by omega)]
  have aq : ∀ t, t < 4 → (aw c sv (aT f 1) t ↔ aM u1 sv (aT f 1) t) := by
    intro t ht
    rw [aw_aM hsv (P t ht)]
    unfold aM
    rw [g1.cells 271 (by decide), g1.cells 274 (by decide)]
  refine sp_Mo_portFor (fun p hp h1 h2 => ?_) (fun hn => br_f (by decide) (br_t (by decide) (no u1 _ g1 (fun ⟨p, nm', tk', j', pk', q, z⟩ => hn p z.1 ((aq p z.1).mp z.2.2.2.2.1)))))
  have h1' : ∀ t, t < p → ¬ aw c sv (aT f 1) t := fun t ht z => h1 t ht ((aq t (by omega)).mp z)
  have h2' : aw c sv (aT f 1) p := (aq p hp).mpr h2
  refine br_t (nI_nn (by omega)) ⟨v4 hp, ?_⟩
  try rw [c4 hp]
  have w0 : c 170 0 = u 217 0 := W.1.1
  have q1 : ∀ k, k < 11 → u1 217 k = u 217 k := fun k h => g1.2 k (Or.inl h)
  -- the query of port p
  obtain ⟨la, as, ⟨a1, a2, a3, a4, a5, a6, a7⟩, rl, rq⟩ := P p hp
  have n12 : ¬ c (185 + 7 * p) 12 = 0 := fun z => h2'.1 (by rw [z]; decide)
  obtain ⟨_, r5⟩ := rq.resolve_left n12
  have e3 : iA (gY (u 217 0) 1 (rs u p 18 &&& 255) (hInts (u 217 0) (rs u p 18)) (c (185 + 7 * p) 10) (c (185 + 7 * p) 11) as) 3 = hInts (u 217 0) (u 274 p) := gY_3 _ _ _ _ _ _ _
  generalize gY (u 217 0) 1 (rs u p 18 &&& 255) (hInts (u 217 0) (rs u p 18)) (c (185 + 7 * p) 10) (c (185 + 7 * p) 11) as = q at r5 e3
  refine sp_Mo_authOf (s := u 217 0) (q1 0 (by decide)) (fun u2 g2 => ?_)
  rw [g1.cells 274 (by decide), ← e3]
  have un : ∀ {p' nm' tk' j' pk' q'}, anW c sv f p' nm' tk' j' pk' q' → p' = p ∧ nm' = nm ∧ tk' = tk ∧ j' = j ∧ pk' = pk ∧ q' = q := by
    intro p' nm' tk' j' pk' q' z
    obtain ⟨z1, z2, z3, z4, z5, z6, z7⟩ := z
    have ep : p' = p := by
      rcases Nat.lt_trichotomy p' p with c | c | c
      · exact absurd z5 (h1' p' c)
      · exact c
      · exact absurd h2' (z4 p c)
    subst ep
    obtain ⟨b1, b2, b3, b4⟩ := z2.uniq hg
    exact ⟨rfl, b1, b2, (nI_eq (by omega) (by omega)).mp b3, b4, z6.uniq r5⟩
  have m2 : mR u2 f := d1.1.fh g2
  have P2 : mP u2 pk := d1.2.1.fh g2
  have g12 : gs u u2 := g1.tr g2.gs
  refine br_f (fun z => absurd z (Int32.not_lt.mpr (nI_nn (by omega)))) ?_
  refine sp_Mo_intAt m2 hb (i := j) (by rw [g2.2 15 (by decide)]; exact d1.2.2.2.2.2.1) (by omega) ?_
  refine sp_Mo_sealWith (s := u 217 0) (j := j) m2 (by omega) (by omega) (g12.2 0 (by decide)) (by rw [g2.2 15 (by decide)]; exact d1.2.2.2.2.2.1) (fun u3 g3 => br_c (fun c1 => ?_) (fun c1 => no u3 _ (g12.tr g3.gs) (fun ⟨p', nm', tk', j', pk', q', z⟩ => ?_)))
  rotate_left
  · obtain ⟨e1, e2, e3', e4, e5, e6⟩ := un z
    subst e4
    subst e6
    have := z.2.2.2.2.2.2.2.1
    rw [w0] at this
    exact c1 this.symm
  refine sp_Mo_intAt (m2.fh g3) hb (i := 3) rfl (by omega) ?_
  refine sp_Mo_authWith (s := u 217 0) (m2.fh g3) (by omega) ((g12.tr g3.gs).2 0 (by decide)) (fun u4 g4 => br_c (fun c2 => ?_) (fun c2 => no u4 _ ((g12.tr g3.gs).tr g4.gs) (fun ⟨p', nm', tk', j', pk', q', z⟩ => ?_)))
  rotate_left
  · obtain ⟨e1, e2, e3', e4, e5, e6⟩ := un z
    subst e4
    subst e6
    have := z.2.2.2.2.2.2.2.2
    rw [w0, si_back hb (by omega) (by omega)] at this
    exact c2 this.symm
  have g14 : gs u u4 := (g12.tr g3.gs).tr g4.gs
  refine br_f (by decide) (rf_fit ((m2.fh g3).fh g4) (by omega) ((P2.fh g3).fh g4) (by omega) (fun hf => br_f (by decide) ?_) (fun hf => br_t rfl (kw (fun ⟨p', nm', tk', j', pk', q', z⟩ => hf ?_) u4 g14)))
  rotate_left
  · obtain ⟨e1, e2, e3', e4, e5, e6⟩ := un z
    subst e5
    exact z.2.2.2.2.2.2.1
  refine ka p nm tk j pk q u4 ⟨hp, hg, ⟨j2, j4⟩, h1', h2', r5, hf, ?_, ?_⟩ ((P2.fh g3).fh g4) ?_ d1.2.2.2.2.1 g14
  · rw [w0]; exact c1.symm
  · rw [w0, si_back hb (by omega) (by omega)]; exact c2.symm
  · rw [g4.2 14 (by decide), g3.2 14 (by decide), g2.2 14 (by decide)]; exact d1.2.2.2.1
