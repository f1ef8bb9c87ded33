/-! The pure part: a host of the reference takes a frame: the walk -/
theorem rw_.uniq {u : pj_M} {r : Nat} {l l' : List Int32} (h : rw_ u r l) (h' : rw_ u r l') : l = l' := by
  have hlen : l.length = l'.length := (nI_eq h.lt h'.lt).mp (h.1.symm.trans h'.1)
  apply List.ext_getElem?
  intro j
  by_cases hj : j < l.length
  · have a1 := h.2.2 j hj
    have a2 := h'.2.2 j (by omega)
    rw [a1] at a2
    rw [List.getD_eq_getElem?_getD, List.getD_eq_getElem?_getD, List.getElem?_eq_getElem hj, List.getElem?_eq_getElem (by omega)] at a2
    rw [List.getElem?_eq_getElem hj, List.getElem?_eq_getElem (by omega)]
    exact congrArg some a2
  · rw [List.getElem?_eq_none (by omega), List.getElem?_eq_none (by omega)]
theorem i21 {h : Nat} : (20 : Int32) * nI h + 1 = nI (20 * h + 1) := i20 (t := 1)
theorem rq_331 {u : pj_M} {h : Nat} {L : List Int32} {ms : List mT} {K : pj_M → Prop} (hh : h < 4) (hp : mP u L) (hb : bl L) (hL : L.length ≤ 20) (hm : mm u ms) (k : ∀ u', mm u' (ad ms (0, nI h, 0 :: L)) → u' 231 h = nI L.length → aR u' 232 h L → (∀ a, 228 ≤ a → a ≤ 238 → a ≠ 231 → a ≠ 232 → u' a = u a) → frH h u u' → u' 277 = u 277 → K u') : pb_Mo_requested_331 K u (nI h) := by
  refine ⟨v4 hh, pu ⟨L.length + 1, ?_⟩⟩
  rw [c4 hh, hp.1]
  refine ls_requested_344 hh hL (u0 := pj_set u 231 h (nI L.length)) (fun u' p' a' g' => ?_) L.length 0 _ (by omega) (hp.keep (by rw [ps_i (by decide)]) (ps_i (by decide))) (fun j hj => absurd hj (Nat.not_lt_zero j)) ⟨fun _ _ => rfl, fun _ _ => rfl⟩
  have o : ∀ a, a ≠ 231 → a ≠ 232 → u' a = u a := fun a h1 h2 => (g'.1 a h2).trans (ps_i h1)
  refine sp_Mo_sendFrame (hm.keep (by rw [o 217 (by decide) (by decide)]) (o _ (by decide) (by decide)) (o _ (by decide) (by decide)) (o _ (by decide) (by decide)) (o _ (by decide) (by decide))) p' hb (by omega) (fun u2 h2 p2 g2 => ?_)
  refine k u2 h2 ?_ (a'.keep (fun j _ => by rw [g2.1 232 (by decide) (by decide) (by decide) (by decide)])) (fun a h1 h2 h3 h4 => (g2.1 a (by omega) (by omega) (by omega) (by omega)).trans (o a h3 h4)) ((frH.set (by decide) (by decide) (by decide)).tr ((frH.la g').tr g2.frH)) ((g2.1 277 (by decide) (by decide) (by decide) (by decide)).trans (o 277 (by decide) (by decide)))
  rw [g2.1 231 (by decide) (by decide) (by decide) (by decide), g'.1 231 (by decide), ps_s]
theorem rq_79 {c u : pj_M} {h : Nat} {pk : List Int32} {K : pj_M → Prop} (hh : h < 4) (R : RH c u h) (hp : mP u pk) (h3 : 3 < pk.length) (hq : c (91 + 5 * h) 7 = 0 ∨ ∃ la, rw_ c (91 + 5 * h + 3) la ∧ ¬ aT la 1 = aT pk 1) (k : pb_Mo_requested_79 K u (nI h)) : pw_Mo_requested u (nI h) K := by
  refine ⟨v4 hh, ?_⟩
  rw [c4 hh]
  rcases R.2.2.2 with ⟨e7, e⟩ | ⟨e7, l, r, n, n3, bb, ar⟩
  · exact br_t (by rw [e]; exact Int32.le_refl _) k
  · rcases hq with hq | ⟨la, rl, hq⟩
    · rw [e7] at hq; exact absurd hq (by decide)
    · have el := rl.uniq r
      subst el
      have hl20 := ar.1
      refine br_f (fun z => ?_) ⟨by rw [i21]; exact vp_in_nI (by omega) (by decide), v48 (n := 1) (by decide), br_f (fun z => hq ?_) k⟩
      · rw [n] at z
        exact nI_ge (a := 0) (b := la.length) (by omega) (by omega) z
      · rw [i21, nI_clamp (by omega), ar.at (show 1 < la.length by omega)] at z
        exact z.trans (hp.at (j := 1) (by omega))
theorem rq_124 {u : pj_M} {h : Nat} {pk : List Int32} {K : pj_M → Prop} (hh : h < 4) (hp : mP u pk) (h3 : 3 < pk.length) (k : ∀ s, ((s = 0 ∧ ¬ ((aT pk 3 = 4 ∧ ¬ u 230 h &&& 1 = 0) ∨ (aT pk 3 = 51 ∧ ¬ u 230 h &&& 2 = 0))) ∨ (s = 1 ∧ ((aT pk 3 = 4 ∧ ¬ u 230 h &&& 1 = 0) ∨ (aT pk 3 = 51 ∧ ¬ u 230 h &&& 2 = 0)))) → pb_Mo_requested_124 K u (nI h) (aT pk 3) s) : pb_Mo_requested_79 K u (nI h) := by
  refine ⟨v48 (n := 3) (by decide), plt ?_⟩
  rw [show u 227 (3 : Int32).toNatClampNeg = aT pk 3 from hp.at (j := 3) h3]
  have e102 : ¬ (aT pk 3 = 4 ∧ ¬ u 230 h &&& 1 = 0) → pb_Mo_requested_102 K u (nI h) (aT pk 3) := by
    intro n1
    refine br_c (fun t51 => ?_) (fun t51 => k 0 (Or.inl ⟨rfl, fun z => z.elim n1 (fun q => t51 q.1)⟩))
    refine ⟨v4 hh, ?_⟩
    rw [c4 hh]
    exact br_c (fun q => k 0 (Or.inl ⟨rfl, fun z => z.elim n1 (fun w => w.2 q)⟩)) (fun q => k 1 (Or.inr ⟨rfl, Or.inr ⟨t51, q⟩⟩))
  refine br_c (fun t4 => ?_) (fun t4 => e102 (fun z => t4 z.1))
  refine ⟨v4 hh, ?_⟩
  rw [c4 hh]
  exact br_c (fun q => e102 (fun z => z.2 q)) (fun q => k 1 (Or.inr ⟨rfl, Or.inl ⟨t4, q⟩⟩))
theorem rf_answer {c c' e u u2 : pj_M} {h : Nat} {L : List Int32} {ms : List mT} {o : Option mT} {K : pj_M → Prop} (hh : h < 4) (hm : mm u2 ms) (hp : mP u2 L) (hb : bl L) (hL3 : 3 ≤ L.length) (hL : L.length ≤ 20) (hA : hoA (91 + 5 * h) c e c' o L) (h0 : c (91 + 5 * h) 0 = nI h) (g2 : frH h u u2) (w2 : u2 277 = u 277) (e14 : e (91 + 5 * h) 14 = c (91 + 5 * h) 14)
    (he : (e (91 + 5 * h) 0 = nI h ∧ e (91 + 5 * h) 4 = u2 228 h ∧ e (91 + 5 * h) 5 = u2 229 h ∧ e (91 + 5 * h) 6 = u2 230 h ∧ e (91 + 5 * h) 11 = u2 233 h ∧ e (91 + 5 * h) 12 = u2 234 h) ∧ (e (91 + 5 * h) 8 = u2 235 h ∧ e (91 + 5 * h) 9 = u2 236 h ∧ e (91 + 5 * h) 10 = u2 237 h ∧ e (91 + 5 * h) 13 = u2 238 h) ∧ (u2 228 h = -1 ∨ 0 ≤ u2 228 h))
    (k : ∀ u', RH c' u' h → mm u' (om ms o) → frH h u u' → wrS c c' u u' (91 + 5 * h) 1 14 → K u') : pb_Mo_requested_326 (fun u' => K u') u2 (nI h) 1 := by
  obtain ⟨hc, hr, ho⟩ := hA
  refine br_f (by decide) (rq_331 hh hp hb hL hm (fun u3 m3 n3 a3 o3 g3 w3 => ?_))
  have cc : ∀ q, q ≠ 7 → c' (91 + 5 * h) q = e (91 + 5 * h) q := fun q hq => by rw [hc, ps_k hq]
  have uu : ∀ a, 228 ≤ a → a ≤ 238 → a ≠ 231 → a ≠ 232 → u3 a h = u2 a h := fun a h1 h2 h3 h4 => by rw [o3 a h1 h2 h3 h4]
  obtain ⟨⟨a0, a1, a2, a3', a4, a5⟩, ⟨b1, b2, b3, b4⟩, d⟩ := he
  refine k u3 ⟨⟨?_, ?_, ?_, ?_, ?_, ?_⟩, ⟨?_, ?_, ?_, ?_⟩, ?_, Or.inr ⟨by rw [hc, ps_s], L, hr, n3, hL3, hb, a3⟩⟩ ?_ (g2.tr g3) (Or.inl ⟨by rw [cc 14 (by decide), e14], w3.trans w2⟩)
  · rw [cc 0 (by decide)]; exact a0
  · rw [cc 4 (by decide), uu 228 (by decide) (by decide) (by decide) (by decide)]; exact a1
  · rw [cc 5 (by decide), uu 229 (by decide) (by decide) (by decide) (by decide)]; exact a2
  · rw [cc 6 (by decide), uu 230 (by decide) (by decide) (by decide) (by decide)]; exact a3'
  · rw [cc 11 (by decide), uu 233 (by decide) (by decide) (by decide) (by decide)]; exact a4
  · rw [cc 12 (by decide), uu 234 (by decide) (by decide) (by decide) (by decide)]; exact a5
  · rw [cc 8 (by decide), uu 235 (by decide) (by decide) (by decide) (by decide)]; exact b1
  · rw [cc 9 (by decide), uu 236 (by decide) (by decide) (by decide) (by decide)]; exact b2
  · rw [cc 10 (by decide), uu 237 (by decide) (by decide) (by decide) (by decide)]; exact b3
  · rw [cc 13 (by decide), uu 238 (by decide) (by decide) (by decide) (by decide)]; exact b4
  · rw [uu 228 (by decide) (by decide) (by decide) (by decide)]; exact d
  · rw [ho, h0]; exact m3
