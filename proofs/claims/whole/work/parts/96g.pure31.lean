/-! The pure part: a pulse of the reference's port -/
theorem le0 {x : Int32} (h : x = 0 ∨ x = 1 ∨ x = 2) : x ≤ 0 ↔ x = 0 := by
  rcases h with h | h | h <;> rw [h] <;> decide
theorem rf_pulse {c c' u : pj_M} {p n : Nat} {ms : List mT} {o : Option mT} {R2 : pj_M → Int32 → Prop} {K : Int32 → pj_M → Prop} (hp : p < 4) (P : PP c u p) (W : RW c u) (hm : mm u ms) (hS : puS (185 + 7 * p) c c' o n)
    (k : ∀ u', PP c' u' p → RW c' u' → mm u' (om ms o) → frP p u u' → R2 u' (nI p + 1)) : pb_Mo_tick_7 R2 K u (nI p) := by
  have P0 := P
  obtain ⟨la, as, ⟨a1, a2, a3, a4, a5, a6, a7⟩, rl, rq⟩ := P
  have g : ∀ q, 4 ≤ q → q ≤ 17 → q ≠ 12 → q ≠ 13 → rs u p q = c (185 + 7 * p) q := fun q h1 h2 h3 h4 => (a1 q h1 h2 h3 h4).symm
  have t4 : u 258 p = c (185 + 7 * p) 4 := g 4 (by decide) (by decide) (by decide) (by decide)
  have l12 : c (185 + 7 * p) 12 ≤ 0 ↔ c (185 + 7 * p) 12 = 0 := by
    apply le0
    rcases a7 with z | z
    · exact Or.inl z.1
    · exact Or.inr z.2.1
  -- the clock has gone on
  have step : ¬ c (185 + 7 * p) 4 = 0 → (∀ u1 : pj_M, rs u1 p = pul (rs u p) → (∀ a, a ≠ 261 → u1 a = u a) → frP p u u1 → mm u1 ms → pw_Mo_late u1 (nI p) fun u2 => pb_Mo_tick_31 R2 K u2 (nI p)) → pb_Mo_tick_7 R2 K u (nI p) := by
    intro n4 kk
    refine ⟨v4 hp, br_f ?_ ⟨v4 hp, v4 hp, pu ?_⟩⟩
    · (try rw [c4 hp]); rw [t4]; exact n4
    try rw [c4 hp]
    exact kk _ rs_7 (fun a h => ps_i h) (frP.set (by decide) (by decide) (by decide)) (hm.of (fun a _ _ => ps_i (by omega)))
  have pq : ∀ {τ : Nat → Int32} {q : Nat}, q ≠ 7 → pul τ q = τ q := fun h => up_k h
  have p7 : ∀ {τ : Nat → Int32}, pul τ 7 = τ 7 + 1 := up_s
  have lin : ∀ u1 : pj_M, rs u1 p = pul (rs u p) → ∀ q, 4 ≤ q → q ≤ 17 → q ≠ 12 → q ≠ 13 → q ≠ 7 → rs u1 p q = c (185 + 7 * p) q := fun u1 e q h1 h2 h3 h4 h5 => by rw [e, pq h5]; exact g q h1 h2 h3 h4
  have lin7 : ∀ u1 : pj_M, rs u1 p = pul (rs u p) → u1 261 p = c (185 + 7 * p) 7 + 1 := fun u1 e => by
    show rs u1 p 7 = _
    rw [e, p7, g 7 (by decide) (by decide) (by decide) (by decide)]
  have cpul : cm (pul (c (185 + 7 * p))) (pul (rs u p)) := cm_up a1 (by rw [g 7 (by decide) (by decide) (by decide) (by decide)])
  -- a new beginning
  have bg : ∀ (w : pj_M) (σ τ : Nat → Int32), cm σ τ → σ 0 = nI p → σ 4 = 1 → (σ 6 = 0 ∨ σ 6 = 1) → (σ 10 = -1 ∨ 0 ≤ σ 10) → rs w p = τ → mm w ms → frP p u w → poB (185 + 7 * p) σ c c' o → (∀ u', swK w u' → RW c' u') → pw_Mo_beginPort w (nI p) fun u1 => pb_Mo_tick_31 R2 K u1 (nI p) := by
    intro w σ τ hc h0 h4 h6 h10 ew mw fw hB hW
    obtain ⟨ec, r1, e170, ho⟩ := hB
    refine sp_Mo_beginPort hp mw (fun u' m' e' ar' k' f' s' => ?_)
    rw [ew] at m' e' ar'
    refine k u' (pp_begin hc h0 h4 h6 h10 ec r1 e' ar') (hW u' s') ?_ (fw.tr f')
    rw [ho, h0, hc 17 (by decide) (by decide) (by decide) (by decide)]; exact m'
  match n, hS with
  | 0, hS =>
    obtain ⟨e4, e170, hk, ho⟩ := hS
    refine ⟨v4 hp, br_t ?_ (k u (P0.keep hk.1 rfl (fun _ _ => rfl) (fun _ _ => rfl) rfl) (W.same e170 hk.2 swK.rf) (by rw [ho]; exact hm) frP.rf)⟩
    (try rw [c4 hp]); rw [t4]; exact e4
  | 1, hS =>
    obtain ⟨n4, hi, ec, e170, kr, e172, ho⟩ := hS
    refine step n4 (fun u1 e1 o1 f1 m1 => ?_)
    have kk : R2 u1 (nI p + 1) := by
      refine k u1 ⟨la, as, ?_, Or.inr ((rl.resolve_left n4).keep (kr _ (by omega) (by omega)) (kr _ (by omega) (by omega))), ?_⟩ (W.same e170 e172 (swK.of (fun a h => o1 a (by omega)))) (by rw [ho]; exact m1) f1
      · rw [ec, e1]
        refine ⟨cpul, a2, a3, a4, ?_, a6, ?_⟩
        · obtain ⟨z1, z2, z3, z4⟩ := a5.resolve_left n4
          exact Or.inr ⟨z1, z2, z3, z4.keep (fun j _ => by rw [o1 263 (by decide)])⟩
        · rcases a7 with z | ⟨z1, z2, z3, z4, z5, z6, z7, z8, z9, z10, z11⟩
          · exact Or.inl z
          · exact Or.inr ⟨z1, z2, z3, z4, z5, z6, z7, z8, z9, z10, z11.keep (fun j _ => by rw [o1 276 (by decide)])⟩
      · rw [ec, e1, o1 217 (by decide)]
        rcases rq with z | ⟨z1, z2⟩
        · exact Or.inl z
        · exact Or.inr ⟨z1.keep (kr _ (by omega) (by omega)) (kr _ (by omega) (by omega)), z2.keep (kr _ (by omega) (by omega)) (kr _ (by omega) (by omega))⟩
    have s5 : u1 259 p = c (185 + 7 * p) 5 := lin u1 e1 5 (by decide) (by decide) (by decide) (by decide) (by decide)
    have s7 := lin7 u1 e1
    have s8 : u1 264 p = c (185 + 7 * p) 8 := lin u1 e1 8 (by decide) (by decide) (by decide) (by decide) (by decide)
    have s13 : u1 271 p = rs u p 13 := by
      show rs u1 p 13 = _
      rw [e1, pq (by decide)]
    have r231 : ¬ (c (185 + 7 * p) 5 = 3 ∧ c (185 + 7 * p) 7 + 1 = 30) → ¬ (c (185 + 7 * p) 5 = 4 ∧ c (185 + 7 * p) 7 + 1 = 6) → pb_Mo_late_231 (fun u2 => pb_Mo_tick_31 R2 K u2 (nI p)) u1 (nI p) := by
      intro n1 n2
      have r252 : pb_Mo_late_252 (fun u2 => pb_Mo_tick_31 R2 K u2 (nI p)) u1 (nI p) := by
        refine ⟨v4 hp, ?_⟩
        (try rw [c4 hp]); rw [s5]
        refine br_c (fun e => ⟨v4 hp, ?_⟩) (fun _ => kk)
        (try rw [c4 hp]); rw [s7]
        exact br_c (fun e' => absurd ⟨e, e'⟩ n2) (fun _ => kk)
      refine ⟨v4 hp, ?_⟩
      (try rw [c4 hp]); rw [s5]
      refine br_c (fun e => ⟨v4 hp, ?_⟩) (fun _ => r252)
      (try rw [c4 hp]); rw [s7]
      exact br_c (fun e' => absurd ⟨e, e'⟩ n1) (fun _ => r252)
    refine ⟨v4 hp, ?_⟩
    (try rw [c4 hp]); rw [s8]
    rcases hi with ⟨n8, n7⟩ | ⟨e8, n12, n7⟩ | ⟨e8, e12, n1, n2⟩
    · obtain ⟨_, q5, q12⟩ := a6.resolve_left n8
      have q13 : rs u p 13 = -1 := by
        rcases a7 with z | z
        · exact z.2
        · exact absurd z.2.2.2.2.2.2.1 n8
      have n3 : ¬ c (185 + 7 * p) 5 = 3 := by rcases q5 with z | z <;> rw [z] <;> decide
      have n4' : ¬ c (185 + 7 * p) 5 = 4 := by rcases q5 with z | z <;> rw [z] <;> decide
      refine br_f n8 ⟨v4 hp, ?_⟩
      (try rw [c4 hp]); rw [s7]
      refine br_f n7 ⟨v4 hp, br_t ?_ (r231 (fun z => n3 z.1) (fun z => n4' z.1))⟩
      (try rw [c4 hp]); rw [s13, q13]; decide
    · have z := a7.resolve_left (fun z => n12 (by rw [z.1]; decide))
      refine br_t e8 ⟨v4 hp, br_f ?_ ⟨v4 hp, ?_⟩⟩
      · (try rw [c4 hp]); rw [s13]
        rcases z.2.2.2.2.1 with y | y <;> rw [y] <;> decide
      (try rw [c4 hp]); rw [s7]
      exact br_f n7 (r231 (fun y => absurd (y.1.symm.trans z.2.2.2.2.2.1) (by decide)) (fun y => absurd (y.1.symm.trans z.2.2.2.2.2.1) (by decide)))
    · have q12 := l12.mp e12
      have q13 : rs u p 13 = -1 := by
        rcases a7 with z | z
        · exact z.2
        · rcases z.2.1 with y | y <;> rw [q12] at y <;> exact absurd y (by decide)
      refine br_t e8 ⟨v4 hp, br_t ?_ (r231 n1 n2)⟩
      (try rw [c4 hp]); rw [s13, q13]; decide
  | 2, hS =>
    obtain ⟨n4, n8, e7, n9, ⟨la', z1, ec, ho⟩, e170, kr, e172⟩ := hS
    have rla := rl.resolve_left n4
    have el := z1.uniq rla
    subst el
    obtain ⟨l0, l3, lb, lar⟩ := a5.resolve_left n4
    obtain ⟨q4, q5, q12⟩ := a6.resolve_left n8
    have q13 : rs u p 13 = -1 := by
      rcases a7 with z | z
      · exact z.2
      · exact absurd z.2.2.2.2.2.2.1 n8
    have l20 := lar.1
    refine step n4 (fun u1 e1 o1 f1 m1 => ?_)
    refine ⟨v4 hp, br_f ?_ ⟨v4 hp, br_t ?_ ⟨v4 hp, br_f ?_ ⟨v4 hp, pu ⟨la'.length + 1, ?_⟩⟩⟩⟩⟩
    · (try rw [c4 hp]); rw [show u1 264 p = c (185 + 7 * p) 8 from lin u1 e1 8 (by decide) (by decide) (by decide) (by decide) (by decide)]; exact n8
    · (try rw [c4 hp]); rw [lin7 u1 e1]; exact e7
    · (try rw [c4 hp]); rw [show u1 265 p = c (185 + 7 * p) 9 from lin u1 e1 9 (by decide) (by decide) (by decide) (by decide) (by decide)]; exact n9
    have s20 : u1 262 p = nI la'.length := by
      show rs u1 p 20 = _
      rw [e1, pq (by decide)]; exact l0
    (try rw [c4 hp]); rw [s20]
    refine ll_late_41 hp (u0 := pj_set u1 217 16 (nI la'.length)) (lar.keep (fun j _ => by rw [ps_i (by decide), o1 263 (by decide)])) (fun u2 P2 g2 => ?_) la'.length 0 _ (by omega) ps_s (fun j hj => absurd hj (Nat.not_lt_zero j)) fP'.rf
    have gg : fP' u1 u2 := fP'.n.tr g2
    refine ⟨v4 hp, pu ⟨v4 hp, v4 hp, pu ?_⟩⟩
    try rw [c4 hp]
    have s9 : (pj_set u2 261 p 0) 265 p = c (185 + 7 * p) 9 := by
      rw [ps_i (by decide), gg.cells 265 (by decide)]; exact lin u1 e1 9 (by decide) (by decide) (by decide) (by decide) (by decide)
    rw [s9]
    have o3 : ∀ a, a ≠ 261 → a ≠ 265 → (pj_set (pj_set u2 261 p 0) 265 p (c (185 + 7 * p) 9 + 1)) a = u2 a := fun a h1 h2 => by rw [ps_i h2, ps_i h1]
    have e3 : rs (pj_set (pj_set u2 261 p 0) 265 p (c (185 + 7 * p) 9 + 1)) p = up (up (pul (rs u p)) 7 0) 9 (c (185 + 7 * p) 9 + 1) := by rw [rs_9, rs_7, rs_keep (fun a h _ _ _ _ => gg.cells a (by omega)), e1]
    have f3 : frP p u2 (pj_set (pj_set u2 261 p 0) 265 p (c (185 + 7 * p) 9 + 1)) := (frP.set (by decide) (by decide) (by decide)).tr (frP.set (by decide) (by decide) (by decide))
    generalize pj_set (pj_set u2 261 p 0) 265 p (c (185 + 7 * p) 9 + 1) = u3 at o3 e3 f3 ⊢
    refine sp_Mo_sendPacket hp ((m1.gs gg.gs).of (fun a _ _ => o3 a (by omega) (by omega))) (P2.of (fun a _ => o3 a (by omega) (by omega))) lb (by omega) (by omega) (fun u4 m4 p4 e4 o4 f4 s4 => ?_)
    rw [e3] at e4
    refine k u4 (pp_mk0 (la := la') ec e4 ?_ a2 a3 a4 (Or.inr ⟨l0, l3, lb, lar.keep (fun j _ => ?_)⟩) (Or.inr (rla.keep (kr _ (by omega) (by omega)) (kr _ (by omega) (by omega)))) (Or.inr ⟨n4, q5, q12⟩) q12 q13) (W.same e170 e172 ((swK.of (fun a h => o1 a (by omega))).tr (gg.gs.gm.swK.tr ((swK.of (fun a h => o3 a (by omega) (by omega))).tr s4)))) (by rw [ho, a2]; exact m4) (f1.tr (gg.frP.tr (f3.tr f4)))
    · rw [up_cm (show (17 : Nat) ≠ 7 by decide), up_cm (show (17 : Nat) ≠ 9 by decide)]
      exact cm_up (cm_up (cm_up cpul rfl) rfl) rfl
    · rw [o4 263 (by decide) (by decide), o3 263 (by decide) (by decide), gg.cells 263 (by decide), o1 263 (by decide)]
  | 3, hS =>
    obtain ⟨n4, n8, e7, e9, e5, hB, e172⟩ := hS
    refine step n4 (fun u1 e1 o1 f1 m1 => ?_)
    refine ⟨v4 hp, br_f ?_ ⟨v4 hp, br_t ?_ ⟨v4 hp, br_t ?_ ⟨v4 hp, br_t ?_ (sp_Mo_close hp (fun u2 c2 e2 o2 f2' => ?_))⟩⟩⟩⟩
    · (try rw [c4 hp]); rw [show u1 264 p = c (185 + 7 * p) 8 from lin u1 e1 8 (by decide) (by decide) (by decide) (by decide) (by decide)]; exact n8
    · (try rw [c4 hp]); rw [lin7 u1 e1]; exact e7
    · (try rw [c4 hp]); rw [show u1 265 p = c (185 + 7 * p) 9 from lin u1 e1 9 (by decide) (by decide) (by decide) (by decide) (by decide)]; exact e9
    · (try rw [c4 hp]); rw [show u1 259 p = c (185 + 7 * p) 5 from lin u1 e1 5 (by decide) (by decide) (by decide) (by decide) (by decide)]; exact e5
    refine bg u2 (up (pul (c (185 + 7 * p))) 6 0) (up (pul (rs u p)) 6 0) (cm_up cpul rfl) a2 (bools a3.1 n4) (Or.inl rfl) a4.1 (by rw [e2, e1]) (m1.of (fun a _ _ => o2 a (by omega) (by omega))) (f1.tr f2') hB (fun u' s' => W.cl hB.2.2.1 e172 (fun j hj => ?_) ?_ ?_ ?_ ?_)
    · rw [s'.2.2.2.1, c2 j hj, a2, o1 278 (by decide)]
    · rw [s'.1, o2 217 (by decide) (by decide), o1 217 (by decide)]
    · rw [s'.2.1, o2 217 (by decide) (by decide), o1 217 (by decide)]
    · rw [s'.2.2.1, o2 277 (by decide) (by decide), o1 277 (by decide)]
    · rw [s'.2.2.2.2, o2 217 (by decide) (by decide), o1 217 (by decide)]
  | 4, hS =>
    obtain ⟨n4, n8, e7, e9, n5, hB, e172⟩ := hS
    refine step n4 (fun u1 e1 o1 f1 m1 => ?_)
    refine ⟨v4 hp, br_f ?_ ⟨v4 hp, br_t ?_ ⟨v4 hp, br_t ?_ ⟨v4 hp, br_f ?_ ?_⟩⟩⟩⟩
    · (try rw [c4 hp]); rw [show u1 264 p = c (185 + 7 * p) 8 from lin u1 e1 8 (by decide) (by decide) (by decide) (by decide) (by decide)]; exact n8
    · (try rw [c4 hp]); rw [lin7 u1 e1]; exact e7
    · (try rw [c4 hp]); rw [show u1 265 p = c (185 + 7 * p) 9 from lin u1 e1 9 (by decide) (by decide) (by decide) (by decide) (by decide)]; exact e9
    · (try rw [c4 hp]); rw [show u1 259 p = c (185 + 7 * p) 5 from lin u1 e1 5 (by decide) (by decide) (by decide) (by decide) (by decide)]; exact n5
    exact bg u1 (pul (c (185 + 7 * p))) (pul (rs u p)) cpul a2 (bools a3.1 n4) a3.2 a4.1 e1 m1 f1 hB (fun u' s' => W.same hB.2.2.1 e172 ((swK.of (fun a h => o1 a (by omega))).tr s'))
  | 5, hS =>
    obtain ⟨n4, e8, n12, e7, t1, ec, ⟨q', r', ho⟩, e170, kr, e172⟩ := hS
    have n0 : ¬ c (185 + 7 * p) 12 = 0 := fun z => n12 (by rw [z]; decide)
    obtain ⟨z1, z2, z3, z4, z5, z6, z7, z8, z9, z10, z11⟩ := a7.resolve_left (fun z => n0 z.1)
    obtain ⟨r3, r5⟩ := rq.resolve_left n0
    have rla := rl.resolve_left n4
    obtain ⟨l0, l3, lb, lar⟩ := a5.resolve_left n4
    refine step n4 (fun u1 e1 o1 f1 m1 => ?_)
    have s13 : u1 271 p = rs u p 13 := by
      show rs u1 p 13 = _
      rw [e1, pq (by decide)]
    have s12 : u1 272 p = c (185 + 7 * p) 12 := by
      show rs u1 p 12 = _
      rw [e1, pq (by decide), z3]
    refine ⟨v4 hp, br_t ?_ ⟨v4 hp, br_f ?_ ⟨v4 hp, br_t ?_ ⟨v4 hp, br_t ?_ ⟨v4 hp, pu ⟨v4 hp, pu ?_⟩⟩⟩⟩⟩⟩
    · (try rw [c4 hp]); rw [show u1 264 p = c (185 + 7 * p) 8 from lin u1 e1 8 (by decide) (by decide) (by decide) (by decide) (by decide)]; exact e8
    · (try rw [c4 hp]); rw [s13]
      rcases z5 with y | y <;> rw [y] <;> decide
    · (try rw [c4 hp]); rw [lin7 u1 e1]; exact e7
    · (try rw [c4 hp]); rw [s12]; exact t1
    try rw [c4 hp]
    have o3 : ∀ a, a ≠ 272 → a ≠ 261 → (pj_set (pj_set u1 272 p 2) 261 p 0) a = u1 a := fun a h1 h2 => by rw [ps_i h2, ps_i h1]
    have e3 : rs (pj_set (pj_set u1 272 p 2) 261 p 0) p = up (up (pul (rs u p)) 12 2) 7 0 := by rw [rs_7, rs_12, e1]
    have f3 : frP p u1 (pj_set (pj_set u1 272 p 2) 261 p 0) := (frP.set (by decide) (by decide) (by decide)).tr (frP.set (by decide) (by decide) (by decide))
    generalize pj_set (pj_set u1 272 p 2) 261 p 0 = u3 at o3 e3 f3 ⊢
    have y : ∀ q, q ≠ 7 → q ≠ 12 → rs u3 p q = rs u p q := fun q h1 h2 => by rw [e3, up_k h1, up_k h2, pq h1]
    have y10 : rs u3 p 10 = c (185 + 7 * p) 10 := (y 10 (by decide) (by decide)).trans (g 10 (by decide) (by decide) (by decide) (by decide))
    have y11 : rs u3 p 11 = c (185 + 7 * p) 11 := (y 11 (by decide) (by decide)).trans (g 11 (by decide) (by decide) (by decide) (by decide))
    refine sp_Mo_sendQuery (s := u 217 0) (as := as) hp (m1.of (fun a _ _ => o3 a (by omega) (by omega))) (by rw [o3 217 (by decide) (by decide), o1 217 (by decide)]) (by rw [y 19 (by decide) (by decide)]; exact z8) (z11.keep (fun j _ => by rw [o3 276 (by decide) (by decide), o1 276 (by decide)])) z10 (by rw [y10]; exact a4.1) (by rw [y11]; exact a4.2) (fun u4 m4 g4 => ?_)
    rw [y 13 (by decide) (by decide), y 18 (by decide) (by decide), y10, y11, ← r'.uniq r5, ← z4] at m4
    have e4 : rs u4 p = up (up (pul (rs u p)) 12 2) 7 0 := (rs_keep (fun a h _ _ _ _ => g4.cells a (by omega))).trans e3
    have h0 : u4 217 0 = u 217 0 := by rw [g4.2 0 (by decide) (by decide), o3 217 (by decide) (by decide), o1 217 (by decide)]
    refine k u4 ⟨la, as, ?_, Or.inr (rla.keep (kr _ (by omega) (by omega)) (kr _ (by omega) (by omega))), Or.inr ⟨r3.keep (kr _ (by omega) (by omega)) (kr _ (by omega) (by omega)), ?_⟩⟩ (W.same e170 e172 ((swK.of (fun a h => (o3 a (by omega) (by omega)).trans (o1 a (by omega)))).tr g4.swK)) (by rw [ho]; exact m4) (f1.tr (f3.tr g4.frP))
    · rw [ec, e4]
      refine ⟨?_, a2, a3, a4, Or.inr ⟨l0, l3, lb, lar.keep (fun j _ => ?_)⟩, Or.inl e8, Or.inr ⟨n4, Or.inr rfl, rfl, z4, z5, z6, e8, z8, z9, z10, z11.keep (fun j _ => ?_)⟩⟩
      · exact cm_up (cm_r (cm_l cpul (Or.inl rfl)) (Or.inl rfl)) rfl
      · rw [g4.cells 263 (by decide), o3 263 (by decide) (by decide), o1 263 (by decide)]
      · rw [g4.cells 276 (by decide), o3 276 (by decide) (by decide), o1 276 (by decide)]
    · rw [ec, e4, h0]
      exact r5.keep (kr _ (by omega) (by omega)) (kr _ (by omega) (by omega))
  | 6, hS =>
    obtain ⟨n4, e8, n12, e7, t1, t2, as', ra', hA⟩ := hS
    obtain ⟨ec, e170, ⟨k1, k2⟩, e172, r3', r5', ho⟩ := hA
    have n0 : ¬ c (185 + 7 * p) 12 = 0 := fun z => n12 (by rw [z]; decide)
    obtain ⟨z1, z2, z3, z4, z5, z6, z7, z8, z9, z10, z11⟩ := a7.resolve_left (fun z => n0 z.1)
    obtain ⟨r3, r5⟩ := rq.resolve_left n0
    have ea := ra'.uniq r3
    subst ea
    have rla := rl.resolve_left n4
    obtain ⟨l0, l3, lb, lar⟩ := a5.resolve_left n4
    obtain ⟨⟨w0, w7, w8, wf, w9⟩, wl⟩ := W
    refine step n4 (fun u1 e1 o1 f1 m1 => ?_)
    have s13 : u1 271 p = rs u p 13 := by
      show rs u1 p 13 = _
      rw [e1, pq (by decide)]
    have s12 : u1 272 p = c (185 + 7 * p) 12 := by
      show rs u1 p 12 = _
      rw [e1, pq (by decide), z3]
    refine ⟨v4 hp, br_t ?_ ⟨v4 hp, br_f ?_ ⟨v4 hp, br_t ?_ ⟨v4 hp, br_f ?_ ⟨v4 hp, br_t ?_ ⟨v4 hp, pu ⟨v4 hp, ?_⟩⟩⟩⟩⟩⟩⟩
    · (try rw [c4 hp]); rw [show u1 264 p = c (185 + 7 * p) 8 from lin u1 e1 8 (by decide) (by decide) (by decide) (by decide) (by decide)]; exact e8
    · (try rw [c4 hp]); rw [s13]
      rcases z5 with y | y <;> rw [y] <;> decide
    · (try rw [c4 hp]); rw [lin7 u1 e1]; exact e7
    · (try rw [c4 hp]); rw [s12]; exact t1
    · (try rw [c4 hp]); rw [show u1 273 p = c (185 + 7 * p) 14 from lin u1 e1 14 (by decide) (by decide) (by decide) (by decide) (by decide)]; exact t2
    (try rw [c4 hp]); rw [nr1]
    have s13' : (pj_set u1 273 p 1) 271 p = c (185 + 7 * p) 13 := by rw [ps_i (by decide), s13, z4]
    rw [s13']
    have o3 : ∀ a, a ≠ 273 → a ≠ 261 → (pj_set u1 273 p 1) a = u a := fun a h1 h2 => (ps_i h1).trans (o1 a h2)
    have e3 : rs (pj_set u1 273 p 1) p = up (pul (rs u p)) 14 1 := by rw [rs_14, e1]
    have f3 : frP p u1 (pj_set u1 273 p 1) := frP.set (by decide) (by decide) (by decide)
    generalize pj_set u1 273 p 1 = u3 at o3 e3 f3 ⊢
    have y : ∀ q, q ≠ 7 → q ≠ 14 → rs u3 p q = rs u p q := fun q h1 h2 => by rw [e3, up_k h2, pq h1]
    have y10 : rs u3 p 10 = c (185 + 7 * p) 10 := (y 10 (by decide) (by decide)).trans (g 10 (by decide) (by decide) (by decide) (by decide))
    have y11 : rs u3 p 11 = c (185 + 7 * p) 11 := (y 11 (by decide) (by decide)).trans (g 11 (by decide) (by decide) (by decide) (by decide))
    have hx : (1 : Int32) - c (185 + 7 * p) 13 = 0 ∨ (1 : Int32) - c (185 + 7 * p) 13 = 1 := by
      rw [z4]
      rcases z5 with y | y <;> rw [y]
      · exact Or.inr (by decide)
      · exact Or.inl (by decide)
    refine sp_Mo_ask (s := c 170 0) (n := c 170 7) (as := as') hp (hm.of (fun a _ _ => o3 a (by omega) (by omega))) (by rw [o3 217 (by decide) (by decide), w0]) (by rw [o3 217 (by decide) (by decide), w7]) (by rw [y 19 (by decide) (by decide)]; exact z8) (z11.keep (fun j _ => by rw [o3 276 (by decide) (by decide)])) z10 (by rw [y10]; exact a4.1) (by rw [y11]; exact a4.2) (fun u4 m4 e4 n4' s4 o4 f4 => ?_)
    rw [e3] at e4
    rw [y10, y11] at m4
    refine k u4 (pp_ask (σ := up (pul (c (185 + 7 * p))) 14 1) (x := 1 - c (185 + 7 * p) 13) (s := c 170 0) (n := c 170 7) (cm_up cpul rfl) a2 (bools a3.1 n4) a3.2 a4.1 a4.2 (la := la) ⟨l0, l3, lb, lar.keep (fun j _ => ?_)⟩ (rla.keep k1 k2) z6 e8 hx z8 z9 z10 (z11.keep (fun j _ => ?_)) ec e4 r3' r5' (by rw [s4.2, o3 217 (by decide) (by decide), w0])) ⟨⟨?_, ?_, ?_, ?_, ?_⟩, fun j hj => ?_⟩ (by rw [ho]; exact m4) (f1.tr (f3.tr f4))
    · rw [o4 263 (by decide) (by decide), o3 263 (by decide) (by decide)]
    · rw [o4 276 (by decide) (by decide), o3 276 (by decide) (by decide)]
    · rw [e170, up_k (by decide), s4.2, o3 217 (by decide) (by decide)]; exact w0
    · rw [e170, up_s, n4']
    · rw [e170, up_k (by decide), s4.1, o3 217 (by decide) (by decide)]; exact w8
    · rw [s4.1, o3 217 (by decide) (by decide)]; exact wf
    · rw [e170, up_k (by decide), o4 277 (by decide) (by decide), o3 277 (by decide) (by decide)]; exact w9
    · rw [e172, o4 278 (by decide) (by decide), o3 278 (by decide) (by decide)]; exact wl j hj
  | 7, hS =>
    obtain ⟨n4, e8, n12, e7, t1, t2, ⟨la', r', ec, ho⟩, e170, kr, e172⟩ := hS
    have n0 : ¬ c (185 + 7 * p) 12 = 0 := fun z => n12 (by rw [z]; decide)
    obtain ⟨z1, z2, z3, z4, z5, z6, z7, z8, z9, z10, z11⟩ := a7.resolve_left (fun z => n0 z.1)
    have rla := rl.resolve_left n4
    have el := r'.uniq rla
    subst el
    obtain ⟨l0, l3, lb, lar⟩ := a5.resolve_left n4
    have l20 := lar.1
    refine step n4 (fun u1 e1 o1 f1 m1 => ?_)
    have s13 : u1 271 p = rs u p 13 := by
      show rs u1 p 13 = _
      rw [e1, pq (by decide)]
    have s12 : u1 272 p = c (185 + 7 * p) 12 := by
      show rs u1 p 12 = _
      rw [e1, pq (by decide), z3]
    refine ⟨v4 hp, br_t ?_ ⟨v4 hp, br_f ?_ ⟨v4 hp, br_t ?_ ⟨v4 hp, br_f ?_ ⟨v4 hp, br_f ?_ ⟨by rw [i21]; exact vp_in_nI (by omega) (by decide), ?_⟩⟩⟩⟩⟩⟩
    · (try rw [c4 hp]); rw [show u1 264 p = c (185 + 7 * p) 8 from lin u1 e1 8 (by decide) (by decide) (by decide) (by decide) (by decide)]; exact e8
    · (try rw [c4 hp]); rw [s13]
      rcases z5 with y | y <;> rw [y] <;> decide
    · (try rw [c4 hp]); rw [lin7 u1 e1]; exact e7
    · (try rw [c4 hp]); rw [s12]; exact t1
    · (try rw [c4 hp]); rw [show u1 273 p = c (185 + 7 * p) 14 from lin u1 e1 14 (by decide) (by decide) (by decide) (by decide) (by decide)]; exact t2
    rw [i21, nI_clamp (by omega), o1 263 (by decide), lar.at (show 1 < la'.length by omega)]
    have b4 : bl (ph 4 (aT la' 1) 0) := by
      rw [ph4]
      exact bl_cons (by decide) (bl_cons (and255 _) (bl_cons (by decide) bl_nil))
    refine sp_Mo_packet (fun u2 P2 g2 => sp_Mo_sendPacket hp (m1.gs g2.gs) P2 b4 (by rw [ph4_len]; decide) (by rw [ph4_len]; decide) (fun u3 m3 p3 e3 o3 f3 s3 => sp_Mo_failPort hp (fun u4 c4' e4 o4 f4 => ?_)))
    rw [e3, rs_keep (fun a h _ _ _ _ => g2.cells a (by omega)), e1] at e4
    rw [s3.2.2.2.1, g2.cells 278 (by decide), o1 278 (by decide)] at c4'
    have x : ∀ q, q ≠ 16 → u2 217 q = u 217 q := fun q h => by rw [g2.2 q h, o1 217 (by decide)]
    refine k u4 (pp_mk0 (la := la') ec e4 ?_ a2 ⟨a3.1, Or.inl rfl⟩ a4 (Or.inr ⟨l0, l3, lb, lar.keep (fun j _ => ?_)⟩) (Or.inr (rla.keep (kr _ (by omega) (by omega)) (kr _ (by omega) (by omega)))) (Or.inl rfl) rfl rfl) (W.cl e170 e172 (fun j hj => ?_) ?_ ?_ ?_ ?_) (by rw [ho, a2]; exact m3.of (fun a h1 h2 => o4 a (by omega) (by omega))) (f1.tr (g2.frP.tr (f3.tr f4)))
    · unfold flS flM
      exact cm_up (cm_up (cm_r (cm_l (cm_up (cm_up (cm_up cpul rfl) rfl) rfl) (Or.inl rfl)) (Or.inr (Or.inl rfl))) rfl) rfl
    · rw [o4 263 (by decide) (by decide), o3 263 (by decide) (by decide), g2.cells 263 (by decide), o1 263 (by decide)]
    · rw [c4' j hj, a2]
    · rw [o4 217 (by decide) (by decide), s3.1, x 68 (by decide)]
    · rw [o4 217 (by decide) (by decide), s3.2.1, x 69 (by decide)]
    · rw [o4 277 (by decide) (by decide), s3.2.2.1, g2.cells 277 (by decide), o1 277 (by decide)]
    · rw [o4 217 (by decide) (by decide), s3.2.2.2.2, x 0 (by decide)]
  | 8, hS =>
    obtain ⟨n4, e8, e12, hi, hB, e172⟩ := hS
    have q12 := l12.mp e12
    have q13 : rs u p 13 = -1 := by
      rcases a7 with z | z
      · exact z.2
      · rcases z.2.1 with y | y <;> rw [q12] at y <;> exact absurd y (by decide)
    refine step n4 (fun u1 e1 o1 f1 m1 => ?_)
    have s5 : u1 259 p = c (185 + 7 * p) 5 := lin u1 e1 5 (by decide) (by decide) (by decide) (by decide) (by decide)
    have s7 := lin7 u1 e1
    have s13 : u1 271 p = -1 := by
      show rs u1 p 13 = _
      rw [e1, pq (by decide), q13]
    have go : pw_Mo_beginPort u1 (nI p) fun u1 => pb_Mo_tick_31 R2 K u1 (nI p) := bg u1 (pul (c (185 + 7 * p))) (pul (rs u p)) cpul a2 (bools a3.1 n4) a3.2 a4.1 e1 m1 f1 hB (fun u' s' => W.same hB.2.2.1 e172 ((swK.of (fun a h => o1 a (by omega))).tr s'))
    refine ⟨v4 hp, br_t ?_ ⟨v4 hp, br_t ?_ ⟨v4 hp, ?_⟩⟩⟩
    · (try rw [c4 hp]); rw [show u1 264 p = c (185 + 7 * p) 8 from lin u1 e1 8 (by decide) (by decide) (by decide) (by decide) (by decide)]; exact e8
    · (try rw [c4 hp]); rw [s13]; decide
    (try rw [c4 hp]); rw [s5]
    rcases hi with ⟨x, y⟩ | ⟨x, y⟩
    · refine br_t x ⟨v4 hp, br_t ?_ go⟩
      (try rw [c4 hp]); rw [s7]; exact y
    · refine br_f (by rw [x]; decide) ⟨v4 hp, ?_⟩
      (try rw [c4 hp]); rw [s5]
      refine br_t x ⟨v4 hp, br_t ?_ go⟩
      (try rw [c4 hp]); rw [s7]; exact y
  | n + 9, hS => exact absurd hS (fun z => z)
