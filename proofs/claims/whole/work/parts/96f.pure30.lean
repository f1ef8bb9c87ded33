/-! The pure part: the reference's switch hears a server: what follows -/
theorem bl_sl {f : List Int32} {a n : Nat} (h : bl f) : bl (sl f a n) := by
  intro j hj
  unfold sl at hj ⊢
  rw [List.length_take, List.length_drop] at hj
  have e : ((f.drop a).take n).getD j 0 = f.getD (a + j) 0 := by
    rw [List.getD_eq_getElem?_getD, List.getD_eq_getElem?_getD, List.getElem?_take, if_pos (by omega), List.getElem?_drop]
  rw [e]
  exact h (a + j) (by omega)
theorem pA_bl {f : List Int32} (hb : bl f) : ∀ (d p : Nat) (nm tk sa nm' tk' sa' : Int32) (pk pk' : List Int32), bl pk → pA f d p nm tk sa pk = some (nm', tk', sa', pk') → bl pk' := by
  intro d
  induction d with
  | zero => intro p nm tk sa nm' tk' sa' pk pk' _ h; cases h
  | succ d ih =>
    intro p nm tk sa nm' tk' sa' pk pk' hk h
    rw [pA] at h
    split at h
    · cases h; exact hk
    · split at h
      · cases h
      · split at h
        · cases h
        · rename_i z a1 a2 a3 a4 e
          refine ih (p + z) _ _ _ _ _ _ _ _ ?_ h
          unfold pS at e
          split at e
          · split at e
            · cases e; exact hk
            · cases e
          · split at e
            · split at e
              · cases e; exact hk
              · cases e
            · split at e
              · split at e
                · cases e; exact bl_app hk (bl_sl hb)
                · cases e
              · split at e
                · split at e
                  · cases e; exact hk
                  · cases e
                · cases e
theorem gR.bl {f pk : List Int32} {nm tk sa : Int32} (h : gR f nm tk sa pk) (hb : bl f) : bl pk := pA_bl hb 49 7 0 (-1) (-1) nm tk sa [] pk bl_nil h.2.2.1
theorem anW.uniq {c : pj_M} {sv : Int32} {f : List Int32} {p p' : Nat} {nm tk nm' tk' : Int32} {j j' : Nat} {pk q pk' q' : List Int32} (h : anW c sv f p nm tk j pk q) (h' : anW c sv f p' nm' tk' j' pk' q') : p' = p ∧ tk' = tk ∧ pk' = pk := by
  have ep : p' = p := by
    rcases Nat.lt_trichotomy p' p with z | z | z
    · exact absurd h'.2.2.2.2.1 (h.2.2.2.1 p' z)
    · exact z
    · exact absurd h.2.2.2.2.1 (h'.2.2.2.1 p z)
  obtain ⟨b1, b2, b3, b4⟩ := h'.2.1.uniq h.2.1
  exact ⟨ep, b2, b4⟩
theorem pp_mk0 {c' u' : pj_M} {p : Nat} {σ τ : Nat → Int32} {la : List Int32} (ec : c' (185 + 7 * p) = σ) (eu : rs u' p = τ) (h : cm σ τ) (h0 : σ 0 = nI p) (hb : (σ 4 = 0 ∨ σ 4 = 1) ∧ (σ 6 = 0 ∨ σ 6 = 1)) (hu : (σ 10 = -1 ∨ 0 ≤ σ 10) ∧ (σ 11 = -1 ∨ 0 ≤ σ 11)) (hl : σ 4 = 0 ∨ (τ 20 = nI la.length ∧ 3 ≤ la.length ∧ bl la ∧ aR u' 263 p la)) (rl : σ 4 = 0 ∨ rw_ c' (185 + 7 * p + 1) la) (he : σ 8 = 0 ∨ (¬ σ 4 = 0 ∧ (σ 5 = 1 ∨ σ 5 = 2) ∧ σ 12 = 0)) (h12 : σ 12 = 0) (h13 : τ 13 = -1) : PP c' u' p :=
  ⟨la, [], by rw [ec, eu]; exact ⟨h, h0, hb, hu, hl, he, Or.inl ⟨h12, h13⟩⟩, by rw [ec]; exact rl, Or.inl (by rw [ec]; exact h12)⟩
theorem RW.fav {c c' u u' : pj_M} {sv : Int32} (W : RW c u) (hsv : sv = 0 ∨ sv = 1) (h1 : c' 170 = up (c 170) 8 sv) (hl : ∀ j, j < 8 → c' 172 j = u' 278 j) (s1 : u' 217 68 = u 217 68) (s2 : u' 217 69 = sv) (s3 : u' 277 0 = u 277 0) (s4 : u' 217 0 = u 217 0) : RW c' u' := by
  obtain ⟨⟨a, b, d, e, g⟩, l⟩ := W
  refine ⟨⟨?_, ?_, ?_, ?_, ?_⟩, hl⟩
  · rw [h1, s4, up_k (by decide)]; exact a
  · rw [h1, s1, up_k (by decide)]; exact b
  · rw [h1, s2, up_s]
  · rw [s2]; exact hsv
  · rw [h1, s3, up_k (by decide)]; exact g
theorem rf_switchHears {c c' u : pj_M} {sv : Int32} {p n : Nat} {f : List Int32} {ms : List mT} {o : Option mT} {K : pj_M → Prop} (hsv : sv = 0 ∨ sv = 1) (hp : p < 4) (P : ∀ q, q < 4 → PP c u q) (W : RW c u) (hr : mR u f) (hb : bl f) (hm : mm u ms) (hS : anS sv f c c' o p n)
    (k : ∀ u', PP c' u' p → RW c' u' → mm u' (om ms o) → frP p u u' → K u') : pw_Mo_switchHears u sv K := by
  refine rf_hears hsv P W hr hb (fun p' nm tk j pk q u1 hW P1 e14 htk g1 => ?_) (fun hn u1 g1 => ?_)
  rotate_left
  · -- wrong
    match n, hS with
    | 0, hS =>
      obtain ⟨_, e170, hk, ho⟩ := hS
      refine ⟨vp_in_nI (n := 0) (N := 3) (by decide) (by decide), vp_in_nI (n := 0) (N := 3) (by decide) (by decide), pu ?_⟩
      have o1 : ∀ a, 228 ≤ a → a ≠ 277 → (pj_set u1 277 0 (u1 277 0 + 1)) a = u a := fun a h1 h2 => (ps_i h2).trans (g1.cells a h1)
      have o2 : (pj_set u1 277 0 (u1 277 0 + 1)) 217 = u1 217 := ps_i (by decide)
      have o3 : (pj_set u1 277 0 (u1 277 0 + 1)) 277 0 = u 277 0 + 1 := by rw [ps_s, g1.cells 277 (by decide)]
      have f1 : frP p u1 (pj_set u1 277 0 (u1 277 0 + 1)) := frP.w
      have m1 : mm (pj_set u1 277 0 (u1 277 0 + 1)) ms := (hm.gs g1).of (fun a _ _ => ps_i (by omega))
      show K (pj_set u1 277 0 (u1 277 0 + 1))
      generalize pj_set u1 277 0 (u1 277 0 + 1) = u2 at o1 o2 o3 f1 m1 ⊢
      obtain ⟨⟨w0, w7, w8, wf, w9⟩, wl⟩ := W
      have x : ∀ q, (q < 11 ∨ 18 < q) → u2 217 q = u 217 q := fun q h => by rw [o2, g1.2 q h]
      refine k u2 ((P p hp).keep hk.1 (rs_keep (fun a h _ _ h' _ => o1 a (by omega) h')) (fun j _ => by rw [o1 263 (by decide) (by decide)]) (fun j _ => by rw [o1 276 (by decide) (by decide)]) (x 0 (by decide))) ⟨⟨?_, ?_, ?_, ?_, ?_⟩, fun j hj => ?_⟩ (by rw [ho]; exact m1) (g1.gm.frP.tr f1)
      · rw [e170, up_k (by decide), x 0 (by decide)]; exact w0
      · rw [e170, up_k (by decide), x 68 (by decide)]; exact w7
      · rw [e170, up_k (by decide), x 69 (by decide)]; exact w8
      · rw [x 69 (by decide)]; exact wf
      · rw [e170, up_s, o3, w9]
      · rw [hk.2, o1 278 (by decide) (by decide)]; exact wl j hj
    | 1, hS =>
      obtain ⟨nm, tk, j, pk, q, z, _⟩ := hS
      exact absurd ⟨p, nm, tk, j, pk, q, z⟩ hn
    | 2, hS =>
      obtain ⟨nm, tk, j, pk, q, z, _⟩ := hS
      exact absurd ⟨p, nm, tk, j, pk, q, z⟩ hn
    | 3, hS =>
      obtain ⟨nm, tk, j, pk, q, z, _⟩ := hS
      exact absurd ⟨p, nm, tk, j, pk, q, z⟩ hn
    | n + 4, hS => exact absurd hS (fun z => z)
  have pkb : bl pk := hW.2.1.bl hb
  obtain ⟨pk3, pk20, pkl, pkc⟩ := hW.2.1.2.2.2.2
  have fitW := hW.2.2.2.2.2.2.1
  -- port p' as it was
  have ent : ∀ u2 : pj_M, p' = p → (∀ a, 228 ≤ a → a ≠ 271 → u2 a = u a) → rs u2 p = up (rs u p) 13 (-1) → ∃ la, cm (c (185 + 7 * p)) (rs u p) ∧ c (185 + 7 * p) 0 = nI p ∧ (c (185 + 7 * p) 4 = 1 ∧ (c (185 + 7 * p) 6 = 0 ∨ c (185 + 7 * p) 6 = 1)) ∧ ((c (185 + 7 * p) 10 = -1 ∨ 0 ≤ c (185 + 7 * p) 10) ∧ (c (185 + 7 * p) 11 = -1 ∨ 0 ≤ c (185 + 7 * p) 11)) ∧ (rs u p 20 = nI la.length ∧ 3 ≤ la.length ∧ bl la ∧ aR u2 263 p la) ∧ rw_ c (185 + 7 * p + 1) la ∧ c (185 + 7 * p) 5 = 2 ∧ c (185 + 7 * p) 8 = 0 := by
    intro u2 ep o2 e2
    obtain ⟨la, as, ⟨a1, a2, a3, a4, a5, a6, a7⟩, rl, rq⟩ := P p hp
    have n12 : ¬ c (185 + 7 * p) 12 = 0 := by
      intro z
      have := hW.2.2.2.2.1.1
      rw [ep, z] at this
      exact this (by decide)
    obtain ⟨n4, _, _, _, _, s5, s8, _⟩ := a7.resolve_left (fun z => n12 z.1)
    obtain ⟨l0, l3, lb, lar⟩ := a5.resolve_left n4
    exact ⟨la, a1, a2, ⟨bools a3.1 n4, a3.2⟩, a4, ⟨l0, l3, lb, lar.keep (fun j _ => by rw [o2 263 (by decide) (by decide)])⟩, rl.resolve_left n4, s5, s8⟩
  have go : p' = p → (∀ u2 : pj_M, (∀ a, 228 ≤ a → a ≠ 271 → u2 a = u a) → rs u2 p = up (rs u p) 13 (-1) → (∀ k, (k < 11 ∨ 18 < k) → k ≠ 69 → u2 217 k = u 217 k) → u2 217 69 = sv → u2 217 14 = tk → mP u2 pk → mm u2 ms → frP p u u2 → vp_in 0 48 ∧ (((u2 227 (0 : Int32).toNatClampNeg = 1) → pb_Mo_switchHears_194 K u2 (nI p)) ∧ (¬ (u2 227 (0 : Int32).toNatClampNeg = 1) → pb_Mo_switchHears_212 K u2 (nI p)))) → pb_Mo_switchHears_172 K u1 sv (nI p') := by
    intro ep kk
    rw [ep]
    refine ⟨v4 hp, pu (pu ?_)⟩
    try rw [c4 hp]
    refine kk _ (fun a h1 h2 => by rw [ps_i (by omega), ps_i h2, g1.cells a h1]) ?_ (fun k h1 h2 => by rw [ps_k h2, ps_i (by decide), g1.2 k h1]) ps_s (by rw [ps_k (by decide), ps_i (by decide)]; exact e14) (P1.keep (by rw [ps_k (by decide), ps_i (by decide)]) (by rw [ps_i (by decide), ps_i (by decide)])) ((hm.gs g1).keep (by rw [ps_k (by decide), ps_i (by decide)]) (by rw [ps_i (by decide), ps_i (by decide)]) (by rw [ps_i (by decide), ps_i (by decide)]) (by rw [ps_i (by decide), ps_i (by decide)]) (by rw [ps_i (by decide), ps_i (by decide)])) (g1.gm.frP.tr ((frP.set (by decide) (by decide) (by decide)).tr (frP.n68 (Or.inr rfl))))
    rw [rs_keep (u := pj_set u1 271 p (-1)) (fun a h _ _ _ _ => ps_i (by omega)), rs_13, rs_keep (fun a h _ _ _ _ => g1.cells a (by omega))]
  match n, hS with
  | 0, hS => exact absurd ⟨p', nm, tk, j, pk, q, hW⟩ hS.1
  | 1, hS =>
    obtain ⟨nm2, tk2, j2, pk2, q2, hW2, e11, ec, e170, r1, e172, ho⟩ := hS
    obtain ⟨ep, et, ek⟩ := hW2.uniq hW
    subst et
    subst ek
    refine go ep (fun u2 o2 e2 x2 y2 z2 P2 m2 f2' => ⟨v48 (n := 0) (by decide), ?_⟩)
    obtain ⟨la, b1, b2, b3, b4, b5, b6, b7, b8⟩ := ent u2 ep o2 e2
    have c1 : aT pk 0 = 1 := by
      rcases fitW with z | z | z
      · exact z.2
      · rw [e11] at z; exact absurd z.1 (by decide)
      · rw [e11] at z; exact absurd z.1 (by decide)
    rw [show u2 227 (0 : Int32).toNatClampNeg = 1 from (P2.at (j := 0) (by omega)).trans c1]
    refine br_t rfl ⟨v4 hp, pu ?_⟩
    (try rw [c4 hp]); rw [z2]
    have o3 : ∀ a, a ≠ 268 → (pj_set u2 268 p tk) a = u2 a := fun a h => ps_i h
    have e3 : rs (pj_set u2 268 p tk) p = up (up (rs u p) 13 (-1)) 11 tk := by rw [rs_11, e2]
    have f3 : frP p u2 (pj_set u2 268 p tk) := frP.set (by decide) (by decide) (by decide)
    generalize pj_set u2 268 p tk = u3 at o3 e3 f3 ⊢
    refine sp_Mo_sendLast hp (m2.of (fun a _ _ => o3 a (by omega))) (P2.of (fun a _ => o3 a (by omega))) pkb (by omega) pk20 (fun u4 m4 e4 a4 k4 f4 s4 => ?_)
    rw [e3] at e4
    have x4 : ∀ k, (k = 0 ∨ k = 68) → u4 217 k = u 217 k := by
      intro k hk
      rcases hk with z | z
      · rw [z, s4.2.2.2.2, o3 217 (by decide), x2 0 (by decide) (by decide)]
      · rw [z, s4.1, o3 217 (by decide), x2 68 (by decide) (by decide)]
    refine k u4 (pp_mk0 (la := pk) ec e4 ?_ b2 ⟨Or.inr b3.1, b3.2⟩ ⟨b4.1, htk⟩ (Or.inr ⟨rfl, pk3, pkb, a4⟩) (Or.inr r1) (Or.inr ⟨?_, Or.inr b7, rfl⟩) rfl rfl) (W.fav hsv e170 (fun j hj => ?_) (x4 68 (Or.inr rfl)) ?_ ?_ (x4 0 (Or.inl rfl))) (by rw [ho, b2]; exact m4) (f2'.tr (f3.tr f4))
    · unfold slS
      rw [up_cm (show (17 : Nat) ≠ 8 by decide), up_cm (show (17 : Nat) ≠ 9 by decide), up_cm (show (17 : Nat) ≠ 7 by decide)]
      exact cm_up (cm_up (cm_up (cm_up (cm_r (cm_up (cm_r (cm_l b1 (Or.inl rfl)) (Or.inr (Or.inl rfl))) rfl) (Or.inr (Or.inr (by decide)))) rfl) rfl) rfl) rfl
    · show ¬ c (185 + 7 * p) 4 = 0
      rw [b3.1]; decide
    · rw [e172, s4.2.2.2.1, o3 278 (by decide), o2 278 (by decide) (by decide)]; exact W.2 j hj
    · rw [s4.2.1, o3 217 (by decide), y2]
    · rw [s4.2.2.1, o3 277 (by decide), o2 277 (by decide) (by decide)]
  | 2, hS =>
    obtain ⟨nm2, tk2, j2, pk2, q2, hW2, e11, ec, e170, kr, e172, ho⟩ := hS
    obtain ⟨ep, et, ek⟩ := hW2.uniq hW
    subst et
    subst ek
    refine go ep (fun u2 o2 e2 x2 y2 z2 P2 m2 f2' => ⟨v48 (n := 0) (by decide), ?_⟩)
    obtain ⟨la, b1, b2, b3, b4, b5, b6, b7, b8⟩ := ent u2 ep o2 e2
    have c1 : aT pk 0 = 3 := by
      rcases fitW with z | z | z
      · rw [e11] at z; exact absurd z.1 (by decide)
      · exact z.2
      · rw [e11] at z; exact absurd z.1 (by decide)
    have c0 : u2 227 (0 : Int32).toNatClampNeg = 3 := (P2.at (j := 0) (by omega)).trans c1
    rw [c0]
    refine br_f (by decide) ⟨v48 (n := 0) (by decide), ?_⟩
    rw [c0]
    refine br_t rfl (sp_Mo_sendPacket hp m2 P2 pkb (by omega) (by omega) (fun u3 m3 p3 e3 o3 f3 s3 => ⟨v4 hp, pu ⟨v4 hp, pu ⟨v4 hp, v4 hp, ?_⟩⟩⟩))
    try rw [c4 hp]
    rw [e2] at e3
    have o4 : ∀ a, a ≠ 259 → a ≠ 261 → (pj_set (pj_set u3 259 p 3) 261 p 0) a = u3 a := fun a h1 h2 => by rw [ps_i h2, ps_i h1]
    have e4 : rs (pj_set (pj_set u3 259 p 3) 261 p 0) p = up (up (up (up (rs u p) 13 (-1)) 17 ((aT pk 1 + 1) &&& 255)) 5 3) 7 0 := by rw [rs_7, rs_5, e3]
    have f4 : frP p u3 (pj_set (pj_set u3 259 p 3) 261 p 0) := (frP.set (by decide) (by decide) (by decide)).tr (frP.set (by decide) (by decide) (by decide))
    generalize pj_set (pj_set u3 259 p 3) 261 p 0 = u4 at o4 e4 f4 ⊢
    have t6 : u4 260 p = c (185 + 7 * p) 6 := by
      show rs u4 p 6 = _
      rw [e4, up_k (by decide), up_k (by decide), up_k (by decide), up_k (by decide)]
      exact (b1 6 (by decide) (by decide) (by decide) (by decide)).symm
    have t15 : u4 269 p = c (185 + 7 * p) 15 := by
      show rs u4 p 15 = _
      rw [e4, up_k (by decide), up_k (by decide), up_k (by decide), up_k (by decide)]
      exact (b1 15 (by decide) (by decide) (by decide) (by decide)).symm
    have t16 : u4 270 p = c (185 + 7 * p) 16 := by
      show rs u4 p 16 = _
      rw [e4, up_k (by decide), up_k (by decide), up_k (by decide), up_k (by decide)]
      exact (b1 16 (by decide) (by decide) (by decide) (by decide)).symm
    rw [t6, t15]
    have base : cm (up (up (up (up (c (185 + 7 * p)) 12 0) 17 ((aT pk 1 + 1) &&& 255)) 5 3) 7 0) (up (up (up (up (rs u p) 13 (-1)) 17 ((aT pk 1 + 1) &&& 255)) 5 3) 7 0) := cm_up (cm_up (cm_up (cm_r (cm_l b1 (Or.inl rfl)) (Or.inr (Or.inl rfl))) rfl) rfl) rfl
    have fin : ∀ (u5 : pj_M) (σ τ : Nat → Int32), c' (185 + 7 * p) = σ → rs u5 p = τ → cm σ τ → (∀ q, q ≠ 5 → q ≠ 6 → q ≠ 7 → q ≠ 12 → q ≠ 15 → q ≠ 16 → q ≠ 17 → σ q = c (185 + 7 * p) q) → σ 6 = 1 → σ 12 = 0 → τ 13 = -1 → τ 20 = rs u p 20 → (∀ a, a ≠ 260 → a ≠ 269 → a ≠ 270 → u5 a = u4 a) → frP p u4 u5 → pb_Mo_switchHears_309 K u5 := by
      intro u5 σ τ h1 h2 h3 h4 h5 h6 h7 h8 h9 h10
      have ou : ∀ a, a < 258 ∨ 275 < a → u5 a = u3 a := fun a h => (h9 a (by omega) (by omega) (by omega)).trans (o4 a (by omega) (by omega))
      have lw : rw_ c' (185 + 7 * p + 1) la := b6.keep (kr _ (by omega) (by omega)) (kr _ (by omega) (by omega))
      refine k u5 (pp_mk0 (la := la) h1 h2 h3 ?_ ⟨Or.inr ?_, Or.inr h5⟩ ?_ (Or.inr ⟨h8.trans b5.1, b5.2.1, b5.2.2.1, b5.2.2.2.keep (fun j _ => ?_)⟩) (Or.inr lw) (Or.inl ?_) h6 h7) (W.fav hsv e170 (fun j hj => ?_) ?_ ?_ ?_ ?_) ?_ (f2'.tr (f3.tr (f4.tr h10)))
      · rw [h4 0 (by decide) (by decide) (by decide) (by decide) (by decide) (by decide) (by decide)]; exact b2
      · rw [h4 4 (by decide) (by decide) (by decide) (by decide) (by decide) (by decide) (by decide)]; exact b3.1
      · rw [h4 10 (by decide) (by decide) (by decide) (by decide) (by decide) (by decide) (by decide), h4 11 (by decide) (by decide) (by decide) (by decide) (by decide) (by decide) (by decide)]; exact b4
      · rw [h9 263 (by decide) (by decide) (by decide), o4 263 (by decide) (by decide), o3 263 (by decide) (by decide)]
      · rw [h4 8 (by decide) (by decide) (by decide) (by decide) (by decide) (by decide) (by decide)]; exact b8
      · rw [e172, ou 278 (by decide), s3.2.2.2.1, o2 278 (by decide) (by decide)]; exact W.2 j hj
      · rw [ou 217 (by decide), s3.1, x2 68 (by decide) (by decide)]
      · rw [ou 217 (by decide), s3.2.1, y2]
      · rw [ou 277 (by decide), s3.2.2.1, o2 277 (by decide) (by decide)]
      · rw [ou 217 (by decide), s3.2.2.2.2, x2 0 (by decide) (by decide)]
      · rw [ho, b2]
        exact m3.of (fun a h1 h2 => ou a (by omega))
    refine br_c (fun h6 => ?_) (fun h6 => ?_)
    · refine ⟨v4 hp, pu ⟨v4 hp, br_t ?_ ⟨v4 hp, pu ⟨v4 hp, pu ?_⟩⟩⟩⟩
      · (try rw [c4 hp]); rw [ps_i (by decide), t6]; exact h6
      (try rw [c4 hp]); rw [nr1]
      refine fin _ (up (up (up (up (up (up (up (c (185 + 7 * p)) 12 0) 17 ((aT pk 1 + 1) &&& 255)) 5 3) 7 0) 6 1) 15 (c (185 + 7 * p) 15 + 1)) 16 0) (up (up (up (up (up (up (up (rs u p) 13 (-1)) 17 ((aT pk 1 + 1) &&& 255)) 5 3) 7 0) 15 (c (185 + 7 * p) 15 + 1)) 16 0) 6 1) ?_ ?_ ?_ (fun q h1 h2 h3 h4 h5 h6 h7 => ?_) rfl rfl rfl rfl (fun a h1 h2 h3 => by rw [ps_i h1, ps_i h3, ps_i h2]) ((frP.set (by decide) (by decide) (by decide)).tr ((frP.set (by decide) (by decide) (by decide)).tr (frP.set (by decide) (by decide) (by decide))))
      · rw [ec]
        unfold adS
        rw [if_pos (by rw [up_k (by decide), up_k (by decide)]; exact h6)]
        rfl
      · rw [rs_6, rs_16, rs_15, e4]
      · rw [up_cm (show (6 : Nat) ≠ 15 by decide), up_cm (show (6 : Nat) ≠ 16 by decide)]
        exact cm_up (cm_up (cm_up base rfl) rfl) rfl
      · rw [up_k h6, up_k h5, up_k h2, up_k h3, up_k h1, up_k h7, up_k h4]
    · have h61 := bools b3.2 h6
      refine ⟨v4 hp, pu ⟨v4 hp, br_f ?_ ⟨v4 hp, ⟨v4 hp, pu ⟨v4 hp, pu ?_⟩⟩⟩⟩⟩
      · (try rw [c4 hp]); rw [ps_i (by decide), t6]; exact h6
      (try rw [c4 hp]); rw [nr1]
      have t16' : (pj_set u4 269 p (c (185 + 7 * p) 15 + 0)) 270 p = c (185 + 7 * p) 16 := by rw [ps_i (by decide), t16]
      rw [t16']
      refine fin _ (up (up (up (up (c (185 + 7 * p)) 12 0) 17 ((aT pk 1 + 1) &&& 255)) 5 3) 7 0) (up (up (up (up (up (up (up (rs u p) 13 (-1)) 17 ((aT pk 1 + 1) &&& 255)) 5 3) 7 0) 15 (c (185 + 7 * p) 15 + 0)) 16 (c (185 + 7 * p) 16)) 6 1) ?_ ?_ ?_ (fun q h1 h2 h3 h4 h5 h6 h7 => ?_) h61 rfl rfl rfl (fun a h1 h2 h3 => by rw [ps_i h1, ps_i h3, ps_i h2]) ((frP.set (by decide) (by decide) (by decide)).tr ((frP.set (by decide) (by decide) (by decide)).tr (frP.set (by decide) (by decide) (by decide))))
      · rw [ec]
        unfold adS
        rw [if_neg (by rw [up_k (by decide), up_k (by decide)]; exact h6)]
      · rw [rs_6, rs_16, rs_15, e4]
      · exact cm_v (cm_v (cm_v base (by show c (185 + 7 * p) 15 = _; rw [Int32.add_zero])) rfl) h61
      · rw [up_k h3, up_k h1, up_k h7, up_k h4]
  | 3, hS =>
    obtain ⟨nm2, tk2, j2, pk2, q2, hW2, e11, ec, e170, kr, e172, ho⟩ := hS
    obtain ⟨ep, et, ek⟩ := hW2.uniq hW
    subst et
    subst ek
    refine go ep (fun u2 o2 e2 x2 y2 z2 P2 m2 f2' => ⟨v48 (n := 0) (by decide), ?_⟩)
    obtain ⟨la, b1, b2, b3, b4, b5, b6, b7, b8⟩ := ent u2 ep o2 e2
    have c1 : aT pk 0 = 4 := by
      rcases fitW with z | z | z
      · rw [e11] at z; exact absurd z.1 (by decide)
      · rw [e11] at z; exact absurd z.1 (by decide)
      · exact z.2
    have c0 : u2 227 (0 : Int32).toNatClampNeg = 4 := (P2.at (j := 0) (by omega)).trans c1
    rw [c0]
    refine br_f (by decide) ⟨v48 (n := 0) (by decide), ?_⟩
    rw [c0]
    refine br_f (by decide) (sp_Mo_sendPacket hp m2 P2 pkb (by omega) (by omega) (fun u3 m3 p3 e3 o3 f3 s3 => sp_Mo_failPort hp (fun u4 c4' e4 o4 f4 => ?_)))
    rw [e3, e2] at e4
    rw [s3.2.2.2.1, o2 278 (by decide) (by decide)] at c4'
    have lw : rw_ c' (185 + 7 * p + 1) la := b6.keep (kr _ (by omega) (by omega)) (kr _ (by omega) (by omega))
    refine k u4 (pp_mk0 (la := la) ec e4 ?_ b2 ⟨Or.inr b3.1, Or.inl rfl⟩ b4 (Or.inr ⟨b5.1, b5.2.1, b5.2.2.1, b5.2.2.2.keep (fun j _ => ?_)⟩) (Or.inr lw) (Or.inl rfl) rfl rfl) (W.fav hsv e170 (fun j hj => ?_) ?_ ?_ ?_ ?_) ?_ (f2'.tr (f3.tr f4))
    · unfold flS flM
      exact cm_up (cm_up (cm_r (cm_l (cm_up (cm_up (cm_up (cm_r (cm_l b1 (Or.inl rfl)) (Or.inr (Or.inl rfl))) rfl) rfl) rfl) (Or.inl rfl)) (Or.inr (Or.inl rfl))) rfl) rfl
    · rw [o4 263 (by decide) (by decide), o3 263 (by decide) (by decide)]
    · rw [e172 j hj, c4' j hj, b2]
      unfold clS
      rw [W.2 j hj]
    · rw [o4 217 (by decide) (by decide), s3.1, x2 68 (by decide) (by decide)]
    · rw [o4 217 (by decide) (by decide), s3.2.1, y2]
    · rw [o4 277 (by decide) (by decide), s3.2.2.1, o2 277 (by decide) (by decide)]
    · rw [o4 217 (by decide) (by decide), s3.2.2.2.2, x2 0 (by decide) (by decide)]
    · rw [ho, b2]
      exact m3.of (fun a h1 h2 => o4 a (by omega) (by omega))
  | n + 4, hS => exact absurd hS (fun z => z)
