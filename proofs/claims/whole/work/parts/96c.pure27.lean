/-! The pure part: a port of the reference takes a frame -/
theorem bools {x : Int32} (h : x = 0 ∨ x = 1) (n : ¬ x = 0) : x = 1 := h.elim (fun z => absurd z n) id
theorem i20p {p : Nat} : (20 : Int32) * nI p + 1 = nI (20 * p + 1) := i21
theorem swK.cells {u u' : pj_M} (h : ∀ a, 217 ≤ a → a ≠ 261 → a < 258 ∨ 276 < a → u' a = u a) : swK u u' := swK.of (fun a ha => h a (by omega) (by omega) (by omega))
/-- the asked packet is stored, and the first server is asked -/
theorem rf_161 {c c' u : pj_M} {p : Nat} {σ0 : Nat → Int32} {pk la : List Int32} {y : Int32} {ms : List mT} {o : Option mT} {K : pj_M → Prop} (hp : p < 4) (W : RW c u) (hm : mm u ms) (hP : mP u pk) (pb : bl pk) (p3 : 3 < pk.length) (p20 : pk.length ≤ 20)
    (h : cm σ0 (up (up (up (up (rs u p) 10 y) 5 2) 8 0) 14 0)) (h0 : σ0 0 = nI p) (h4 : σ0 4 = 1) (h6 : σ0 6 = 0 ∨ σ0 6 = 1) (h10 : σ0 10 = -1 ∨ 0 ≤ σ0 10) (h11 : σ0 11 = -1 ∨ 0 ≤ σ0 11) (h5 : σ0 5 = 2) (h8 : σ0 8 = 0)
    (hla : rs u p 20 = nI la.length ∧ 3 ≤ la.length ∧ bl la ∧ aR u 263 p la) (rla : rw_ c (185 + 7 * p + 1) la) (hA : poA (185 + 7 * p) σ0 pk (c 170 8) c c' o)
    (k : ∀ u', PP c' u' p → RW c' u' → mm u' (om ms o) → frP p u u' → K u') : pb_Mo_switchTakes_161 K u (nI p) y (nI p) := by
  obtain ⟨⟨w0, w7, w8, wf, w9⟩, wl⟩ := W
  obtain ⟨ec, e170, ⟨k1, k2⟩, k172, r3, r5, ho⟩ := hA
  have y10 : σ0 10 = y := h 10 (by decide) (by decide) (by decide) (by decide)
  have t11 : σ0 11 = rs u p 11 := h 11 (by decide) (by decide) (by decide) (by decide)
  refine ⟨v4 hp, pu ⟨v4 hp, pu ⟨v4 hp, pu ⟨v4 hp, pu ⟨v4 hp, pu ⟨pk.length + 1, ?_⟩⟩⟩⟩⟩⟩
  (try rw [c4 hp]); rw [nr0]
  have o4 : ∀ a, a ≠ 267 → a ≠ 259 → a ≠ 264 → a ≠ 273 → (pj_set (pj_set (pj_set (pj_set u 267 p y) 259 p 2) 264 p 0) 273 p 0) a = u a := fun a h1 h2 h3 h4 => by rw [ps_i h4, ps_i h3, ps_i h2, ps_i h1]
  have e4 : rs (pj_set (pj_set (pj_set (pj_set u 267 p y) 259 p 2) 264 p 0) 273 p 0) p = up (up (up (up (rs u p) 10 y) 5 2) 8 0) 14 0 := by rw [rs_14, rs_8, rs_5, rs_10]
  have f4 : frP p u (pj_set (pj_set (pj_set (pj_set u 267 p y) 259 p 2) 264 p 0) 273 p 0) := (frP.set (by decide) (by decide) (by decide)).tr ((frP.set (by decide) (by decide) (by decide)).tr ((frP.set (by decide) (by decide) (by decide)).tr (frP.set (by decide) (by decide) (by decide))))
  generalize pj_set (pj_set (pj_set (pj_set u 267 p y) 259 p 2) 264 p 0) 273 p 0 = u4 at o4 e4 f4 ⊢
  have q4 : ∀ a, a < 258 ∨ 273 < a → u4 a = u a := fun a h => o4 a (by omega) (by omega) (by omega) (by omega)
  have P4 : mP u4 pk := hP.of (fun a ha => q4 a (by omega))
  rw [P4.1]
  refine ls_switchTakes_195 hp p20 (u0 := pj_set u4 275 p (nI pk.length)) (fun u6 P6 a6 g6 => ?_) pk.length 0 _ (by omega) (P4.of (fun a h => ps_i (by omega))) (fun j hj => absurd hj (Nat.not_lt_zero j)) ⟨fun _ _ => rfl, fun _ _ => rfl⟩
  have o6 : ∀ a, a ≠ 275 → a ≠ 276 → u6 a = u4 a := fun a h1 h2 => (g6.1 a h2).trans (ps_i h1)
  have e6 : rs u6 p = up (up (up (up (up (rs u p) 10 y) 5 2) 8 0) 14 0) 19 (nI pk.length) := (rs_keep (fun a _ _ h _ _ => g6.1 a h)).trans (by rw [rs_19, e4])
  have q6 : ∀ a, a < 258 ∨ 276 < a → u6 a = u a := fun a h => (o6 a (by omega) (by omega)).trans (q4 a (by omega))
  have z10 : rs u6 p 10 = σ0 10 := by rw [e6, up_k (by decide), up_k (by decide), up_k (by decide), up_k (by decide), up_s, y10]
  have z11 : rs u6 p 11 = σ0 11 := by rw [e6, up_k (by decide), up_k (by decide), up_k (by decide), up_k (by decide), up_k (by decide), t11]
  have hc := cm_r (k := 19) (v := nI pk.length) h (Or.inr (Or.inr (by decide)))
  refine sp_Mo_ask (s := c 170 0) (n := c 170 7) (as := pk) hp (hm.of (fun a _ _ => q6 a (by omega))) (by rw [q6 217 (by decide), w0]) (by rw [q6 217 (by decide), w7]) (by rw [e6, up_s]) a6 pb (by rw [z10]; exact h10) (by rw [z11]; exact h11) (fun u7 m7 e7 n7 s7 o7 f7 => ?_)
  rw [q6 217 (by decide), ← w8, z10, z11] at m7
  rw [q6 217 (by decide), ← w8, e6] at e7
  refine k u7 ?_ ⟨⟨?_, ?_, ?_, ?_, ?_⟩, fun j hj => ?_⟩ (by rw [ho]; exact m7) (f4.tr ((frP.set (by decide) (by decide) (by decide)).tr ((frP.la (Or.inr rfl) g6).tr f7)))
  · refine pp_ask (x := c 170 8) (s := c 170 0) (n := c 170 7) hc h0 h4 h6 h10 h11 (la := la) ?_ (rla.keep k1 k2) h5 h8 (by rw [w8]; exact wf) up_s p3 pb (a6.keep (fun j _ => by rw [o7 276 (by decide) (by decide)])) ec e7 r3 r5 (by rw [s7.2, q6 217 (by decide), w0])
    refine ⟨?_, hla.2.1, hla.2.2.1, hla.2.2.2.keep (fun j _ => ?_)⟩
    · rw [up_k (by decide), up_k (by decide), up_k (by decide), up_k (by decide), up_k (by decide)]; exact hla.1
    · rw [o7 263 (by decide) (by decide), o6 263 (by decide) (by decide), o4 263 (by decide) (by decide) (by decide) (by decide)]
  · rw [e170, up_k (by decide), s7.2, q6 217 (by decide)]; exact w0
  · rw [e170, up_s, n7]
  · rw [e170, up_k (by decide), s7.1, q6 217 (by decide)]; exact w8
  · rw [s7.1, q6 217 (by decide)]; exact wf
  · rw [e170, up_k (by decide), o7 277 (by decide) (by decide), q6 277 (by decide)]; exact w9
  · rw [k172, o7 278 (by decide) (by decide), q6 278 (by decide)]; exact wl j hj
theorem fP'.frP {p : Nat} {u v : pj_M} (g : fP' u v) : frP p u v := g.gs.gm.frP
theorem rf_switchTakes {c c' u : pj_M} {p n : Nat} {f : List Int32} {ms : List mT} {o : Option mT} {K : pj_M → Prop} (hp : p < 4) (P : PP c u p) (W : RW c u) (hr : mR u f) (hb : bl f) (hm : mm u ms) (hS : poS (185 + 7 * p) f c c' o n)
    (k : ∀ u', PP c' u' p → RW c' u' → mm u' (om ms o) → frP p u u' → K u') : pw_Mo_switchTakes u (nI p) K := by
  have P0 := P
  obtain ⟨la, as, ⟨a1, a2, a3, a4, a5, a6, a7⟩, rl, rq⟩ := P
  have g : ∀ q, 4 ≤ q → q ≤ 17 → q ≠ 12 → q ≠ 13 → c (185 + 7 * p) q = rs u p q := a1
  have t4 : u 258 p = c (185 + 7 * p) 4 := (g 4 (by decide) (by decide) (by decide) (by decide)).symm
  have t5 : u 259 p = c (185 + 7 * p) 5 := (g 5 (by decide) (by decide) (by decide) (by decide)).symm
  have t8 : u 264 p = c (185 + 7 * p) 8 := (g 8 (by decide) (by decide) (by decide) (by decide)).symm
  have same : ∀ u1, (∀ a, 228 ≤ a → u1 a = u a) → u1 217 0 = u 217 0 → poK (185 + 7 * p) c c' → PP c' u1 p := fun u1 h1 h2 hk => P0.keep hk.1 (rs_keep (fun a h _ _ _ _ => h1 a (by omega))) (fun j _ => by rw [h1 263 (by decide)]) (fun j _ => by rw [h1 276 (by decide)]) h2
  have enter : ¬ c (185 + 7 * p) 4 = 0 → ¬ c (185 + 7 * p) 5 = 4 → pb_Mo_switchTakes_20 K u (nI p) → pw_Mo_switchTakes u (nI p) K := by
    intro n4 n5 kk
    refine ⟨v4 hp, br_f ?_ ⟨v4 hp, br_f ?_ kk⟩⟩
    · try rw [c4 hp]
      rw [t4]; exact n4
    · try rw [c4 hp]
      rw [t5]; exact n5
  have frame0 : ¬ fS f → fP f → (∀ u1, mP u1 (f.drop 1) → fP' u u1 → pb_Mo_switchTakes_64 K u1 (nI p)) → pb_Mo_switchTakes_20 K u (nI p) := fun ns q kk => sp_Mo_frame hr (fun s => absurd s ns) (fun _ _ u1 p1 g1 => br_t (Int32.le_refl _) (br_t (Int32.le_refl _) (kk u1 p1 g1))) (fun _ np => absurd q np)
  have pk3 : fP f → 3 ≤ (f.drop 1).length ∧ (f.drop 1).length ≤ 20 ∧ (aT (f.drop 1) 0 = 2 → 3 < (f.drop 1).length) := by
    intro q
    obtain ⟨_, q3, q20, _, z⟩ := q
    refine ⟨q3, q20, fun e => ?_⟩
    rcases z with ⟨_, z⟩ | ⟨z, _⟩
    · exact z
    · rw [e] at z
      exact absurd z (by decide)
  have hb1 := hb.drop
  match n, hS with
  | 0, hS =>
    obtain ⟨e, e170, hk, ho⟩ := hS
    have kk : K u := k u (same u (fun _ _ => rfl) rfl hk) (W.same e170 hk.2 swK.rf) (by rw [ho]; exact hm) frP.rf
    by_cases z : c (185 + 7 * p) 4 = 0
    · refine ⟨v4 hp, br_t ?_ kk⟩
      try rw [c4 hp]
      rw [t4]; exact z
    · refine ⟨v4 hp, br_f ?_ ⟨v4 hp, br_t ?_ kk⟩⟩
      · try rw [c4 hp]
        rw [t4]; exact z
      · try rw [c4 hp]
        rw [t5]; exact e.resolve_left z
  | 1, hS =>
    obtain ⟨n4, n5, s, e, ⟨ec, r1, e170, ho⟩, e172⟩ := hS
    refine enter n4 n5 (sp_Mo_frame hr (fun _ => ?_) (fun ns => absurd s ns) (fun ns => absurd s ns))
    rw [e]
    refine br_t (by decide) (br_f (by decide) (br_f (by decide) (sp_Mo_beginPort hp hm (fun u' m' e' ar' k' f' s' => ?_))))
    refine k u' (pp_begin a1 a2 (bools a3.1 n4) a3.2 a4.1 ec r1 e' ar') (W.same e170 e172 s') ?_ f'
    rw [ho, a2, g 17 (by decide) (by decide) (by decide) (by decide)]; exact m'
  | 2, hS =>
    obtain ⟨n4, n5, s, e, ⟨ec, r1, e170, ho⟩, e172⟩ := hS
    refine enter n4 n5 (sp_Mo_frame hr (fun _ => ?_) (fun ns => absurd s ns) (fun ns => absurd s ns))
    rw [e]
    refine br_t (by decide) (br_f (by decide) (br_t rfl (sp_Mo_close hp (fun u1 c1 e1 o1 f1 => sp_Mo_beginPort hp (hm.of (fun a _ _ => o1 a (by omega) (by omega))) (fun u' m' e' ar' k' f' s' => ?_)))))
    rw [e1] at m' e' ar'
    have e17 : rs u p 17 = c (185 + 7 * p) 17 := (g 17 (by decide) (by decide) (by decide) (by decide)).symm
    refine k u' (pp_begin (τ := up (rs u p) 6 0) (cm_up a1 rfl) ?_ ?_ (Or.inl up_s) ?_ ec r1 e' ar') (W.cl e170 e172 (fun j hj => ?_) ?_ ?_ ?_ ?_) ?_ (f1.tr f')
    · rw [up_k (by decide)]; exact a2
    · rw [up_k (by decide)]; exact bools a3.1 n4
    · rw [up_k (by decide)]; exact a4.1
    · rw [s'.2.2.2.1, c1 j hj, a2]
    · rw [s'.1, o1 217 (by decide) (by decide)]
    · rw [s'.2.1, o1 217 (by decide) (by decide)]
    · rw [s'.2.2.1, o1 277 (by decide) (by decide)]
    · rw [s'.2.2.2.2, o1 217 (by decide) (by decide)]
    · rw [up_k (show (17 : Nat) ≠ 6 by decide), e17] at m'
      rw [ho, up_k (show (0 : Nat) ≠ 6 by decide), up_k (show (17 : Nat) ≠ 6 by decide), a2]; exact m'
  | 3, hS =>
    obtain ⟨n4, n5, ns, np, e170, hk, ho⟩ := hS
    refine enter n4 n5 (sp_Mo_frame hr (fun s => absurd s ns) (fun _ q => absurd q np) (fun _ _ u1 g1 => br_f (by decide) ⟨vp_in_nI (n := 0) (N := 3) (by decide) (by decide), vp_in_nI (n := 0) (N := 3) (by decide) (by decide), pu ?_⟩))
    have o1 : ∀ a, 228 ≤ a → a ≠ 277 → (pj_set u1 277 0 (u1 277 0 + 1)) a = u a := fun a h1 h2 => (ps_i h2).trans (g1.cells a h1)
    have o2 : (pj_set u1 277 0 (u1 277 0 + 1)) 217 = u1 217 := ps_i (by decide)
    have o3 : (pj_set u1 277 0 (u1 277 0 + 1)) 277 0 = u 277 0 + 1 := by rw [ps_s, g1.cells 277 (by decide)]
    have f1 : frP p u1 (pj_set u1 277 0 (u1 277 0 + 1)) := frP.w
    have m1 : mm (pj_set u1 277 0 (u1 277 0 + 1)) ms := (hm.gs g1.gs).of (fun a _ _ => ps_i (by omega))
    show K (pj_set u1 277 0 (u1 277 0 + 1))
    generalize pj_set u1 277 0 (u1 277 0 + 1) = u2 at o1 o2 o3 f1 m1 ⊢
    obtain ⟨⟨w0, w7, w8, wf, w9⟩, wl⟩ := W
    have x : ∀ q, q ≠ 16 → u2 217 q = u 217 q := fun q h => by rw [o2, g1.2 q h]
    refine k u2 (P0.keep hk.1 (rs_keep (fun a h _ _ h' _ => o1 a (by omega) h')) (fun j _ => by rw [o1 263 (by decide) (by decide)]) (fun j _ => by rw [o1 276 (by decide) (by decide)]) (x 0 (by decide))) ⟨⟨?_, ?_, ?_, ?_, ?_⟩, fun j hj => ?_⟩ (by rw [ho]; exact m1) (g1.frP.tr f1)
    · rw [e170, up_k (by decide), x 0 (by decide)]; exact w0
    · rw [e170, up_k (by decide), x 68 (by decide)]; exact w7
    · rw [e170, up_k (by decide), x 69 (by decide)]; exact w8
    · rw [x 69 (by decide)]; exact wf
    · rw [e170, up_s, o3, w9]
    · rw [hk.2, o1 278 (by decide) (by decide)]; exact wl j hj
  | 4, hS =>
    obtain ⟨n4, n5, ns, q, hno, e170, hk, ho⟩ := hS
    refine enter n4 n5 (frame0 ns q (fun u1 p1 g1 => ?_))
    have kk : K u1 := k u1 (same u1 g1.cells (g1.2 0 (by decide)) hk) (W.same e170 hk.2 g1.gs.gm.swK) (by rw [ho]; exact hm.gs g1.gs) g1.frP
    have rla := rl.resolve_left n4
    obtain ⟨-, l3, lb, lar⟩ := a5.resolve_left n4
    have l20 := lar.1
    obtain ⟨q3, q20, q4⟩ := pk3 q
    refine ⟨v48 (n := 0) (by decide), ?_⟩
    rw [show u1 227 (0 : Int32).toNatClampNeg = aT (f.drop 1) 0 from p1.at (j := 0) (by omega)]
    refine br_c (fun e2 => ⟨v4 hp, ?_⟩) (fun _ => kk)
    try rw [c4 hp]
    rw [g1.cells 264 (by decide), t8]
    refine br_c (fun _ => kk) (fun e8 => ⟨v48 (n := 1) (by decide), by rw [i21]; exact vp_in_nI (by omega) (by decide), ?_⟩)
    rw [i21, nI_clamp (by omega), show u1 227 (1 : Int32).toNatClampNeg = aT (f.drop 1) 1 from p1.at (j := 1) (by omega), g1.cells 263 (by decide), lar.at (show 1 < la.length by omega)]
    refine br_c (fun e1 => ?_) (fun _ => kk)
    have fin : c (185 + 7 * p) 5 = 1 ∧ ¬ (aT (f.drop 1) 3 = 1 ∧ (f.drop 1).length = 5) := by
      rcases hno with z | z | ⟨la', z1, z2⟩ | z
      · exact absurd e2 z
      · exact absurd z e8
      · rw [z1.uniq rla] at z2
        exact absurd e1 z2
      · exact z
    refine ⟨v4 hp, ?_⟩
    try rw [c4 hp]
    rw [g1.cells 259 (by decide), t5, fin.1]
    refine br_f (by decide) ⟨v48 (n := 3) (by decide), ?_⟩
    rw [show u1 227 (3 : Int32).toNatClampNeg = aT (f.drop 1) 3 from p1.at (j := 3) (q4 e2)]
    refine br_c (fun e3 => br_f (fun e4 => ?_) kk) (fun _ => kk)
    rw [p1.1] at e4
    exact fin.2 ⟨e3, (nI_e 5 (by omega) (by decide)).mp e4⟩
  | 5, hS =>
    obtain ⟨n4, n5, ns, q, e2, e8, ⟨la', z1, z2⟩, e5, e3, e4, hA⟩ := hS
    refine enter n4 n5 (frame0 ns q (fun u1 p1 g1 => ?_))
    have rla := rl.resolve_left n4
    obtain ⟨l0, l3, lb, lar⟩ := a5.resolve_left n4
    have l20 := lar.1
    rw [z1.uniq rla] at z2
    obtain ⟨q3, q20, q4⟩ := pk3 q
    have rs1 : rs u1 p = rs u p := rs_keep (fun a h _ _ _ _ => g1.cells a (by omega))
    refine ⟨v48 (n := 0) (by decide), br_t ((p1.at (j := 0) (by omega)).trans e2) ⟨v4 hp, br_f ?_ ⟨v48 (n := 1) (by decide), by rw [i21]; exact vp_in_nI (by omega) (by decide), br_t ?_ ⟨v4 hp, br_f ?_ ⟨v48 (n := 3) (by decide), br_t ((p1.at (j := 3) (by omega)).trans e3) (br_t (by rw [p1.1, e4]; rfl) ⟨v4 hp, br_t ?_ ⟨v48 (n := 4) (by decide), ?_⟩⟩)⟩⟩⟩⟩⟩
    · (try rw [c4 hp]); rw [g1.cells 264 (by decide), t8]; exact e8
    · rw [i21, nI_clamp (by omega), g1.cells 263 (by decide), lar.at (show 1 < la.length by omega)]
      exact (p1.at (j := 1) (by omega)).trans z2
    · (try rw [c4 hp]); rw [g1.cells 259 (by decide), t5, e5]; decide
    · (try rw [c4 hp]); rw [g1.cells 259 (by decide), t5, e5]
    rw [show u1 227 (4 : Int32).toNatClampNeg = aT (f.drop 1) 4 from p1.at (j := 4) (by omega)]
    refine rf_161 (c' := c') (σ0 := up (up (up (up (c (185 + 7 * p)) 10 (aT (f.drop 1) 4)) 5 2) 8 0) 14 0) (la := la) hp (W.same rfl rfl g1.gs.gm.swK) (hm.gs g1.gs) p1 hb1 (q4 e2) q20 (by rw [rs1]; exact cm_up (cm_up (cm_up (cm_up a1 rfl) rfl) rfl) rfl) a2 (bools a3.1 n4) a3.2 (Or.inr ?_) a4.2 rfl rfl (by rw [rs1]; exact ⟨l0, l3, lb, lar.keep (fun j _ => by rw [g1.cells 263 (by decide)])⟩) rla hA (fun u' x1 x2 x3 x4 => k u' x1 x2 x3 (g1.frP.tr x4))
    show 0 ≤ aT (f.drop 1) 4
    exact Int32.not_lt.mp (by_nn (hb1.at (by omega)))
  | 6, hS =>
    obtain ⟨n4, n5, ns, q, e2, e8, ⟨la', z1, z2⟩, e5, hA⟩ := hS
    refine enter n4 n5 (frame0 ns q (fun u1 p1 g1 => ?_))
    have rla := rl.resolve_left n4
    obtain ⟨l0, l3, lb, lar⟩ := a5.resolve_left n4
    have l20 := lar.1
    rw [z1.uniq rla] at z2
    obtain ⟨q3, q20, q4⟩ := pk3 q
    have s2 : c (185 + 7 * p) 5 = 2 := ((a6.resolve_left e8).2.1).resolve_left e5
    have rs1 : rs u1 p = rs u p := rs_keep (fun a h _ _ _ _ => g1.cells a (by omega))
    refine ⟨v48 (n := 0) (by decide), br_t ((p1.at (j := 0) (by omega)).trans e2) ⟨v4 hp, br_f ?_ ⟨v48 (n := 1) (by decide), by rw [i21]; exact vp_in_nI (by omega) (by decide), br_t ?_ ⟨v4 hp, br_t ?_ ⟨v4 hp, br_f ?_ ⟨v4 hp, ?_⟩⟩⟩⟩⟩⟩
    · (try rw [c4 hp]); rw [g1.cells 264 (by decide), t8]; exact e8
    · rw [i21, nI_clamp (by omega), g1.cells 263 (by decide), lar.at (show 1 < la.length by omega)]
      exact (p1.at (j := 1) (by omega)).trans z2
    · (try rw [c4 hp]); rw [g1.cells 259 (by decide), t5, s2]
    · (try rw [c4 hp]); rw [g1.cells 259 (by decide), t5, s2]; decide
    try rw [c4 hp]
    have t10 : u1 267 p = c (185 + 7 * p) 10 := by rw [g1.cells 267 (by decide)]; exact (g 10 (by decide) (by decide) (by decide) (by decide)).symm
    rw [t10]
    exact rf_161 (c' := c') (σ0 := up (up (c (185 + 7 * p)) 8 0) 14 0) (la := la) hp (W.same rfl rfl g1.gs.gm.swK) (hm.gs g1.gs) p1 hb1 (q4 e2) q20 (by rw [rs1]; exact cm_up (cm_up (cm_v (cm_v a1 rfl) s2) rfl) rfl) a2 (bools a3.1 n4) a3.2 a4.1 a4.2 s2 rfl (by rw [rs1]; exact ⟨l0, l3, lb, lar.keep (fun j _ => by rw [g1.cells 263 (by decide)])⟩) rla hA (fun u' x1 x2 x3 x4 => k u' x1 x2 x3 (g1.frP.tr x4))
  | n + 7, hS => exact absurd hS (fun z => z)
