/-! The pure part: the reference's server answers, takes a request -/
theorem sp_Mo_163 {u : pj_M} {s : Nat} {id au code tok s0 : Int32} {A : List aTy} {m : List Int32} {ms : List mT} {K : pj_M → Prop} (hs : s < 2) (h : ∀ t, t < A.length → aE u (4 * s + t) (ag A t)) (hl : A.length < 4) (h251 : u 251 s = nI A.length) (hP : mP u m) (mbl : bl m) (m20 : m.length ≤ 20) (ht : tok = -1 ∨ 0 ≤ tok) (hm : mm u ms) (hk : u 217 0 = s0) (k : ∀ u', MA u' s (A ++ [(id, au, code, tok, m)]) → mm u' (ad ms (3, nI s, rO s0 code id au tok m)) → (∀ a, 228 ≤ a → (a < 251 ∨ 257 < a) → u' a = u a) → frV s u u' → K u') : pb_Mo_answer_163 K u (nI s) id au code tok := by
  have hy : 4 * s + A.length < 8 := by omega
  unfold pb_Mo_answer_163
  refine ⟨v2 hs, ?_⟩
  rw [c2 hs, h251, i4, nI_add, nI_1]
  refine plt ⟨v2 hs, v2 hs, pu ⟨v8 hy, pu ⟨v8 hy, pu ⟨v8 hy, pu ⟨v8 hy, pu ⟨v8 hy, pu ⟨m.length + 1, ?_⟩⟩⟩⟩⟩⟩⟩
  rw [nI_clamp (show 4 * s + A.length < 2 ^ 31 by omega)]
  generalize hn : 4 * s + A.length = n at *
  have x16 : (pj_set (pj_set (pj_set (pj_set (pj_set u 251 s (nI (A.length + 1))) 252 n id) 253 n au) 254 n code) 255 n tok) 217 16 = nI m.length := by rw [ps_i (by decide), ps_i (by decide), ps_i (by decide), ps_i (by decide), ps_i (by decide)]; exact hP.1
  rw [x16]
  have o7 : ∀ a, (a < 251 ∨ 256 < a) → (pj_set (pj_set (pj_set (pj_set (pj_set (pj_set u 251 s (nI (A.length + 1))) 252 n id) 253 n au) 254 n code) 255 n tok) 256 n (nI m.length)) a = u a := fun a ha => by rw [ps_i (by omega), ps_i (by omega), ps_i (by omega), ps_i (by omega), ps_i (by omega), ps_i (by omega)]
  have e51 : (pj_set (pj_set (pj_set (pj_set (pj_set (pj_set u 251 s (nI (A.length + 1))) 252 n id) 253 n au) 254 n code) 255 n tok) 256 n (nI m.length)) 251 s = nI (A.length + 1) := by rw [ps_i (by decide), ps_i (by decide), ps_i (by decide), ps_i (by decide), ps_i (by decide), ps_s]
  have e52 : (pj_set (pj_set (pj_set (pj_set (pj_set (pj_set u 251 s (nI (A.length + 1))) 252 n id) 253 n au) 254 n code) 255 n tok) 256 n (nI m.length)) 252 = up (u 252) n id := by rw [ps_i (by decide), ps_i (by decide), ps_i (by decide), ps_i (by decide), st_up, ps_i (by decide)]
  have e53 : (pj_set (pj_set (pj_set (pj_set (pj_set (pj_set u 251 s (nI (A.length + 1))) 252 n id) 253 n au) 254 n code) 255 n tok) 256 n (nI m.length)) 253 = up (u 253) n au := by rw [ps_i (by decide), ps_i (by decide), ps_i (by decide), st_up, ps_i (by decide), ps_i (by decide)]
  have e54 : (pj_set (pj_set (pj_set (pj_set (pj_set (pj_set u 251 s (nI (A.length + 1))) 252 n id) 253 n au) 254 n code) 255 n tok) 256 n (nI m.length)) 254 = up (u 254) n code := by rw [ps_i (by decide), ps_i (by decide), st_up, ps_i (by decide), ps_i (by decide), ps_i (by decide)]
  have e55 : (pj_set (pj_set (pj_set (pj_set (pj_set (pj_set u 251 s (nI (A.length + 1))) 252 n id) 253 n au) 254 n code) 255 n tok) 256 n (nI m.length)) 255 = up (u 255) n tok := by rw [ps_i (by decide), st_up, ps_i (by decide), ps_i (by decide), ps_i (by decide), ps_i (by decide)]
  have e56 : (pj_set (pj_set (pj_set (pj_set (pj_set (pj_set u 251 s (nI (A.length + 1))) 252 n id) 253 n au) 254 n code) 255 n tok) 256 n (nI m.length)) 256 = up (u 256) n (nI m.length) := by rw [st_up, ps_i (by decide), ps_i (by decide), ps_i (by decide), ps_i (by decide), ps_i (by decide)]
  have f7 : frV s u (pj_set (pj_set (pj_set (pj_set (pj_set (pj_set u 251 s (nI (A.length + 1))) 252 n id) 253 n au) 254 n code) 255 n tok) 256 n (nI m.length)) := (frV.s (Or.inr rfl)).tr ((frV.x (Or.inr ⟨by decide, by decide⟩) (by omega) (by omega)).tr ((frV.x (Or.inr ⟨by decide, by decide⟩) (by omega) (by omega)).tr ((frV.x (Or.inr ⟨by decide, by decide⟩) (by omega) (by omega)).tr ((frV.x (Or.inr ⟨by decide, by decide⟩) (by omega) (by omega)).tr (frV.x (Or.inr ⟨by decide, by decide⟩) (by omega) (by omega))))))
  generalize pj_set (pj_set (pj_set (pj_set (pj_set (pj_set u 251 s (nI (A.length + 1))) 252 n id) 253 n au) 254 n code) 255 n tok) 256 n (nI m.length) = u7 at o7 e51 e52 e53 e54 e55 e56 f7 ⊢
  refine ls_answer_233 hy m20 (u0 := u7) (fun u8 P8 a8 g8 => ?_) m.length 0 u7 (by omega) (hP.keep (by rw [o7 217 (by decide)]) (o7 227 (by decide))) (fun j hj => absurd hj (Nat.not_lt_zero j)) ⟨fun _ _ => rfl, fun _ _ => rfl⟩
  have E8 : aE u8 n (id, au, code, tok, m) := ⟨by rw [g8.1 252 (by decide), e52, up_s], by rw [g8.1 253 (by decide), e53, up_s], by rw [g8.1 254 (by decide), e54, up_s], by rw [g8.1 255 (by decide), e55, up_s], by rw [g8.1 256 (by decide), e56, up_s], a8, mbl, ht⟩
  have f8 : frV s u7 u8 := ⟨fun a _ _ _ _ h5 _ => g8.1 a (by omega), fun k _ _ => by rw [g8.1 217 (by decide)], fun a q h _ => by rw [g8.1 a (by omega)], fun a q h _ => by rw [g8.1 a (by omega)], fun q hq => g8.2 q (by omega), fun q _ => by rw [g8.1 277 (by decide)]⟩
  have m8 : mm u8 ms := hm.of (fun a h1 h2 => (g8.1 a (by omega)).trans (o7 a (by omega)))
  refine sp_Mo_sendAnswer (s0 := s0) hy E8 m8 (by rw [g8.1 217 (by decide), o7 217 (by decide)]; exact hk) (fun u9 m9 g9 => ?_)
  have el : (A ++ [((id, au, code, tok, m) : aTy)]).length = A.length + 1 := by rw [List.length_append]; rfl
  refine k u9 ⟨?_, by rw [el]; omega, fun t ht' => ?_⟩ m9 (fun a h1 h2 => (g9.cells a h1).trans ((g8.1 a (by omega)).trans (o7 a (by omega)))) (f7.tr (f8.tr g9.frV))
  · rw [el, g9.cells 251 (by decide), g8.1 251 (by decide), e51]
  · rw [el] at ht'
    by_cases c : t = A.length
    · rw [c, ag_hi, hn]
      exact E8.keep (fun a h1 h2 => by rw [g9.cells a (by omega)]) (fun i _ => by rw [g9.cells 257 (by decide)])
    · rw [ag_lo (by omega)]
      refine (h t (by omega)).keep (fun a h1 h2 => ?_) (fun i hi => ?_)
      · rw [g9.cells a (by omega), g8.1 a (by omega)]
        have hc : a = 252 ∨ a = 253 ∨ a = 254 ∨ a = 255 ∨ a = 256 := by omega
        have hq : 4 * s + t ≠ n := by omega
        rcases hc with e | e | e | e | e <;> subst e
        · rw [e52, up_k hq]
        · rw [e53, up_k hq]
        · rw [e54, up_k hq]
        · rw [e55, up_k hq]
        · rw [e56, up_k hq]
      · rw [g9.cells 257 (by decide), g8.2 _ (by omega), o7 257 (by decide)]
theorem sp_Mo_answer {u : pj_M} {s : Nat} {id au code tok s0 : Int32} {A : List aTy} {m : List Int32} {ms : List mT} {K : pj_M → Prop} (hs : s < 2) (h : MA u s A) (hP : mP u m) (mbl : bl m) (m20 : m.length ≤ 20) (ht : tok = -1 ∨ 0 ≤ tok) (hm : mm u ms) (hk : u 217 0 = s0) (k : ∀ u', MA u' s (A1 A (id, au, code, tok, m)) → mm u' (ad ms (3, nI s, rO s0 code id au tok m)) → (∀ a, 228 ≤ a → (a < 251 ∨ 257 < a) → u' a = u a) → frV s u u' → K u') : pw_Mo_answer u (nI s) id au code tok K := by
  obtain ⟨h1, h2, h3⟩ := h
  unfold pw_Mo_answer pb_Mo_answer_0
  refine ⟨v2 hs, ?_⟩
  rw [c2 hs, h1]
  refine br_c (fun e => ?_) (fun e => ?_)
  · have l4 : A.length = 4 := (nI_e 4 (by omega) (by decide)).mp e
    unfold pb_Mo_answer_10
    refine plt ⟨4, ?_⟩
    rw [i4]
    refine lp_Mo_answer (u0 := u) hs (fun u1 g => ?_) 3 0 u (by omega) ⟨fun a _ _ t _ => (shf_0 (fun t => u a (4 * s + t)) 0 t).symm, fun t i _ _ => (shf_0 (fun t => u 257 (20 * (4 * s + t) + i)) 0 t).symm, fun _ _ _ _ _ => rfl, fun _ _ => rfl, fun _ _ => rfl⟩
    obtain ⟨g1, g2, g3, g4, g5⟩ := g
    refine ⟨v2 hs, pu ?_⟩
    rw [c2 hs]
    have o2 : ∀ a, a ≠ 251 → (pj_set u1 251 s 3) a = u1 a := fun a h => ps_i h
    have e2 : (pj_set u1 251 s 3) 251 s = 3 := ps_s
    have f1 : frV s u u1 := ⟨fun a _ _ _ _ h5 _ => g5 a (by omega), fun k _ _ => by rw [g5 217 (by decide)], fun a q h _ => by rw [g5 a (by omega)], fun a q h hq => by
      by_cases c : 252 ≤ a
      · exact g3 a q c (by omega) hq
      · rw [g5 a (by omega)], g4, fun q _ => by rw [g5 277 (by decide)]⟩
    have f2 : frV s u1 (pj_set u1 251 s 3) := frV.s (Or.inr rfl)
    generalize pj_set u1 251 s 3 = u2 at o2 e2 f2 ⊢
    have el : (A.eraseIdx 0).length = 3 := by rw [List.length_eraseIdx_of_lt (by omega), l4]
    have ea : A1 A (id, au, code, tok, m) = A.eraseIdx 0 ++ [(id, au, code, tok, m)] := by unfold A1; rw [if_pos l4]
    refine sp_Mo_163 (A := A.eraseIdx 0) (m := m) (s0 := s0) hs (fun t ht' => ?_) (by omega) (by rw [e2, el]; rfl) (hP.keep (by rw [o2 217 (by decide), g5 217 (by decide)]) (by rw [o2 227 (by decide), g5 227 (by decide)])) mbl m20 ht (hm.of (fun a h1 h2 => (o2 a (by omega)).trans (g5 a (by omega)))) (by rw [o2 217 (by decide), g5 217 (by decide)]; exact hk) (fun u3 M3 m3 o3 f3 => k u3 (by rw [ea]; exact M3) m3 (fun a h1 h2 => (o3 a h1 h2).trans ((o2 a (by omega)).trans (g5 a (by omega)))) (f1.tr (f2.tr f3)))
    rw [el] at ht'
    rw [ag_er, if_neg (by omega)]
    refine (h3 (t + 1) (by omega)).keep (fun a ha hb => ?_) (fun i hi => ?_)
    · rw [o2 a (by omega), g1 a ha hb t (by omega)]
      exact if_pos ⟨Nat.zero_le _, ht'⟩
    · rw [o2 257 (by decide), g2 t i (by omega) hi]
      exact if_pos ⟨Nat.zero_le _, ht'⟩
  · have l4 : ¬ A.length = 4 := fun z => e (by rw [z]; rfl)
    have ea : A1 A (id, au, code, tok, m) = A ++ [(id, au, code, tok, m)] := by unfold A1; rw [if_neg l4]
    exact sp_Mo_163 hs h3 (by omega) h1 hP mbl m20 ht hm hk (fun u3 M3 => k u3 (by rw [ea]; exact M3))
theorem lp_Mo_find {u : pj_M} {s : Nat} {id au : Int32} {A : List aTy} {K : pj_M → Prop} (hs : s < 2) (h : MA u s A) (kt : ∀ t, t < A.length → (ag A t).1 = id → (ag A t).2.1 = au → pb_Mo_serverTakes_120 K u (nI s) (nI (4 * s + t))) (kn : (∀ t, t < A.length → ¬ ((ag A t).1 = id ∧ (ag A t).2.1 = au)) → pb_Mo_serverTakes_134 K u (nI s) id au) : ∀ (d j : Nat), j + d = A.length → (∀ t, t < j → ¬ ((ag A t).1 = id ∧ (ag A t).2.1 = au)) → pb_Mo_serverTakes_83 K (nI s) id au (d + 1) u (nI (4 * s + j)) := by
  obtain ⟨h1, h2, h3⟩ := h
  intro d
  induction d with
  | zero =>
    intro j hj hq
    refine ⟨v2 hs, br_t ?_ (kn (fun t ht => hq t (by omega)))⟩
    rw [c2 hs, h1, i4, nI_add]; exact nI_le (by omega) (by omega)
  | succ d ih =>
    intro j hj hq
    obtain ⟨a1, a2, _⟩ := h3 j (by omega)
    have nx : ¬ ((ag A j).1 = id ∧ (ag A j).2.1 = au) → pb_Mo_serverTakes_128 (pb_Mo_serverTakes_83 K (nI s) id au (d + 1)) K u (nI s) id au (nI (4 * s + j)) := by
      intro hn
      show pb_Mo_serverTakes_83 K (nI s) id au (d + 1) u (nI (4 * s + j) + 1)
      rw [nI_1]
      refine ih (j + 1) (by omega) (fun t ht => ?_)
      by_cases c : t = j
      · rw [c]; exact hn
      · exact hq t (by omega)
    refine ⟨v2 hs, br_f ?_ ⟨v8 (by omega), ?_⟩⟩
    · rw [c2 hs, h1, i4, nI_add]; exact nI_ge (by omega) (by omega)
    rw [nI_clamp (show 4 * s + j < 2 ^ 31 by omega), a1]
    refine br_c (fun e1 => ⟨v8 (by omega), ?_⟩) (fun e1 => nx (fun z => e1 z.1))
    rw [nI_clamp (show 4 * s + j < 2 ^ 31 by omega), a2]
    exact br_c (fun e2 => kt j (by omega) e1 e2) (fun e2 => nx (fun z => e2 z.2))
def dK (A : List aTy) : Prop := ∀ t t', t < A.length → t' < A.length → (ag A t).1 = (ag A t').1 → (ag A t).2.1 = (ag A t').2.1 → t = t'
theorem dK.push {A : List aTy} {x : aTy} (h : dK A) (hn : ∀ t, t < A.length → ¬ ((ag A t).1 = x.1 ∧ (ag A t).2.1 = x.2.1)) : dK (A1 A x) := by
  have base : ∀ B : List aTy, dK B → (∀ t, t < B.length → ¬ ((ag B t).1 = x.1 ∧ (ag B t).2.1 = x.2.1)) → dK (B ++ [x]) := by
    intro B hB hn t t' ht ht' e1 e2
    have el : (B ++ [x]).length = B.length + 1 := by rw [List.length_append]; rfl
    rw [el] at ht ht'
    by_cases c : t = B.length
    · by_cases c' : t' = B.length
      · omega
      · rw [c, ag_hi, ag_lo (show t' < B.length by omega)] at e1 e2
        exact absurd ⟨e1.symm, e2.symm⟩ (hn t' (by omega))
    · by_cases c' : t' = B.length
      · rw [c', ag_hi, ag_lo (show t < B.length by omega)] at e1 e2
        exact absurd ⟨e1, e2⟩ (hn t (by omega))
      · rw [ag_lo (show t < B.length by omega), ag_lo (show t' < B.length by omega)] at e1 e2
        exact hB t t' (by omega) (by omega) e1 e2
  unfold A1
  split
  · rename_i l4
    have el : (A.eraseIdx 0).length = A.length - 1 := List.length_eraseIdx_of_lt (by omega)
    refine base _ (fun t t' ht ht' e1 e2 => ?_) (fun t ht => ?_)
    · rw [el] at ht ht'
      rw [ag_er, ag_er, if_neg (by omega), if_neg (by omega)] at e1 e2
      have := h (t + 1) (t' + 1) (by omega) (by omega) e1 e2
      omega
    · rw [el] at ht
      rw [ag_er, if_neg (by omega)]
      exact hn (t + 1) (by omega)
  · exact base A h hn
/-- users -/
def RU (c u : pj_M) : Prop := ∀ y, y < 8 → c 2 y = u 219 y ∧ c 3 y = u 220 y ∧ (u 218 y = 0 ↔ c 3 y = 0)
/-- server s with sessions L and answers A -/
def RSx (c u : pj_M) (s : Nat) (L : List (Nat → Int32)) (A : List aTy) : Prop := CS c (112 + 29 * s) L ∧ MS u s L ∧ sIL L ∧ CA c (112 + 29 * s) (u 217 0) A ∧ MA u s A ∧ dK A ∧ c (112 + 29 * s) 0 = nI s ∧ c (112 + 29 * s) 1 = u 217 0 ∧ ((c (112 + 29 * s) 13 = 0 ∧ u 239 s = 1) ∨ (c (112 + 29 * s) 13 = 1 ∧ u 239 s = 0)) ∧ c (112 + 29 * s) 15 = u 240 s ∧ c (112 + 29 * s) 16 = u 241 s
def RS (c u : pj_M) (s : Nat) : Prop := ∃ L A, RSx c u s L A
theorem rf_serverTakes {c c' u : pj_M} {s n : Nat} {f : List Int32} {L : List (Nat → Int32)} {A : List aTy} {ms : List mT} {o : Option mT} {K : pj_M → Prop} (hs : s < 2) (R : RSx c u s L A) (hU : RU c u) (hb : bX u) (hr : mR u f) (fb : bl f) (hm : mm u ms) (hS : svS (112 + 29 * s) f L A c c' o n)
    (k : ∀ u', RS c' u' s → bX u' → mm u' (om ms o) → frV s u u' → wrS c c' u u' (112 + 29 * s) 2 19 → K u') : pw_Mo_serverTakes u (nI s) K := by
  obtain ⟨hC, hM, hI, hCA, hMA, hdK, e0, e1, hup, e15, e16⟩ := R
  have f48 := hr.2.1
  have a4A := hMA.2.1
  have gsx : ∀ u1, gs u u1 → MS u1 s L ∧ MA u1 s A ∧ bX u1 := fun u1 g => ⟨⟨by rw [g.cells 242 (by decide)]; exact hM.1, hM.2.1, fun t ht => (hM.2.2 t ht).keep (fun a _ _ => by rw [g.cells a (by omega)])⟩, ⟨by rw [g.cells 251 (by decide)]; exact hMA.1, hMA.2.1, fun t ht => (hMA.2.2 t ht).keep (fun a _ _ => by rw [g.cells a (by omega)]) (fun i _ => by rw [g.cells 257 (by decide)])⟩, fun x hx => by rw [g.cells 249 (by decide)]; exact hb x hx⟩
  have gmx : ∀ u1, gm u u1 → MS u1 s L ∧ MA u1 s A ∧ bX u1 := fun u1 g => ⟨⟨by rw [g.cells 242 (by decide)]; exact hM.1, hM.2.1, fun t ht => (hM.2.2 t ht).keep (fun a _ _ => by rw [g.cells a (by omega)])⟩, ⟨by rw [g.cells 251 (by decide)]; exact hMA.1, hMA.2.1, fun t ht => (hMA.2.2 t ht).keep (fun a _ _ => by rw [g.cells a (by omega)]) (fun i _ => by rw [g.cells 257 (by decide)])⟩, fun x hx => by rw [g.cells 249 (by decide)]; exact hb x hx⟩
  by_cases d : c (112 + 29 * s) 13 = 0
  · -- down
    have e39 : u 239 s = 1 := by
      rcases hup with z | z
      · exact z.2
      · rw [z.1] at d; exact absurd d (by decide)
    have kk : svS (112 + 29 * s) f L A c c' o 0 → K u := by
      rintro ⟨_, hk, ho⟩
      have hi : c' (112 + 29 * s) = c (112 + 29 * s) := hk _ (by omega) (by omega)
      obtain ⟨ρ, C⟩ := hC
      refine k u ⟨L, A, ⟨ρ, C.keep (hk _ (by omega) (by omega)) (by rw [hi]) (fun a h1 h2 => hk a (by omega) (by omega))⟩, hM, hI, hCA.keep (by rw [hi]) (by rw [hi]) (hk _ (by omega) (by omega)) (hk _ (by omega) (by omega)) (fun a h1 h2 => hk a (by omega) (by omega)), hMA, hdK, ?_, ?_, ?_, ?_, ?_⟩ hb (by rw [ho]; exact hm) frV.rf (Or.inl ⟨by rw [hi], rfl⟩)
      · rw [hi]; exact e0
      · rw [hi]; exact e1
      · rw [hi]; exact hup
      · rw [hi]; exact e15
      · rw [hi]; exact e16
    refine ⟨v2 hs, br_f ?_ ?_⟩
    · rw [c2 hs, e39]; decide
    match n, hS with
    | 0, hS => exact kk hS
    | 1, hS => exact absurd d hS.1
    | 2, hS => exact absurd d hS.1
    | 3, hS => exact absurd d hS.1
    | n + 4, hS => exact absurd hS (fun z => z)
  have e39 : u 239 s = 0 := by
    rcases hup with z | z
    · exact absurd z.1 d
    · exact z.2
  -- a wrong one
  have wr : (¬ ∃ tk pk, acc (c (112 + 29 * s) 1) f tk pk) → ∀ u1, gs u u1 → pb_Mo_serverTakes_54 K u1 := by
    intro hn u1 g1
    have l1 : svS (112 + 29 * s) f L A c c' o 1 := by
      match n, hS with
      | 0, hS => exact absurd hS.1 d
      | 1, hS => exact hS
      | 2, hS => exact absurd hS.2.1 hn
      | 3, hS =>
        obtain ⟨_, tk, pk, _, _, _, _, _, _, _, z, _⟩ := hS
        exact absurd ⟨tk, pk, z⟩ hn
      | n + 4, hS => exact absurd hS (fun z => z)
    obtain ⟨_, _, ei, C', A', ho⟩ := l1
    refine ⟨vp_in_nI (n := 2) (N := 3) (by decide) (by decide), vp_in_nI (n := 2) (N := 3) (by decide) (by decide), pu ?_⟩
    have o1 : ∀ a, a ≠ 277 → (pj_set u1 277 2 (u1 277 2 + 1)) a = u1 a := fun a h => ps_i h
    have e2 : (pj_set u1 277 2 (u1 277 2 + 1)) 277 = (pj_set u 277 2 (u 277 2 + 1)) 277 := by
      rw [show u1 277 2 = u 277 2 by rw [g1.cells 277 (by decide)]]
      exact st_cg (g1.cells 277 (by decide))
    have f1 : frV s u1 (pj_set u1 277 2 (u1 277 2 + 1)) := frV.w
    show K (pj_set u1 277 2 (u1 277 2 + 1))
    generalize pj_set u1 277 2 (u1 277 2 + 1) = u2 at o1 e2 f1 ⊢
    obtain ⟨M1, A1', b1⟩ := gsx u1 g1
    have q : ∀ a, 228 ≤ a → a ≠ 277 → u2 a = u a := fun a h1 h2 => (o1 a h2).trans (g1.cells a h1)
    have q0 : u2 217 0 = u 217 0 := by rw [o1 217 (by decide), g1.2 0 (by decide)]
    refine k u2 ⟨L, A, C', ⟨by rw [o1 242 (by decide)]; exact M1.1, M1.2.1, fun t ht => (M1.2.2 t ht).keep (fun a _ _ => by rw [o1 a (by omega)])⟩, hI, by rw [q0, ← e1]; exact A', ⟨by rw [o1 251 (by decide)]; exact A1'.1, A1'.2.1, fun t ht => (A1'.2.2 t ht).keep (fun a _ _ => by rw [o1 a (by omega)]) (fun i _ => by rw [o1 257 (by decide)])⟩, hdK, ?_, ?_, ?_, ?_, ?_⟩ (fun x hx => by rw [o1 249 (by decide)]; exact b1 x hx) (by rw [ho]; exact (hm.gs g1).of (fun a _ _ => o1 a (by omega))) (g1.gm.frV.tr f1) (Or.inr ⟨by rw [ei, up_s], e2⟩)
    · rw [ei, up_k (by decide)]; exact e0
    · rw [ei, up_k (by decide), q0]; exact e1
    · rw [ei, up_k (by decide), q 239 (by decide) (by decide)]; exact hup
    · rw [ei, up_k (by decide), q 240 (by decide) (by decide)]; exact e15
    · rw [ei, up_k (by decide), q 241 (by decide) (by decide)]; exact e16
  refine ⟨v2 hs, br_t ?_ ?_⟩
  · rw [c2 hs]; exact e39
  refine sp_Mo_rightGram hr fb (fun nm tk pk j hg j2 j4 u1 d1 g1 => br_f (by decide) ⟨v48 (n := 0) (by decide), ?_⟩) (fun hn u1 m1 g1 => br_t rfl (wr (fun ⟨tk, pk, nm, j, z, _⟩ => hn ⟨nm, tk, _, pk, z⟩) u1 g1))
  have f7 := hg.1
  rw [show u1 226 (0 : Int32).toNatClampNeg = aT f 0 from d1.1.at (j := 0) (by omega)]
  have no : ¬ (aT f 0 = 1 ∧ ¬ nm = 0 ∧ mRow (c (112 + 29 * s) 1) (si (si f 3 (iA f 3)) j 0) = iA f j) → ∀ w, gs u w → pb_Mo_serverTakes_54 K w := by
    intro hno
    refine wr (fun ⟨tk', pk', nm', j', z, zj, z1⟩ => ?_)
    obtain ⟨b1, b2, b3, b4⟩ := z.uniq hg
    have ej : j' = j := (nI_eq zj (by omega)).mp b3
    subst ej
    subst b1
    exact hno z1
  refine br_c (fun c0 => ?_) (fun c0 => no (fun z => c0 z.1) u1 g1)
  refine br_c (fun cn => no (fun z => ?_) u1 g1) (fun cn => ?_)
  · rcases d1.2.2.1 with ⟨y, _⟩ | ⟨_, y⟩
    · exact z.2.1 y
    · exact absurd cn (Int32.not_lt.mpr y)
  have nn : ¬ nm = 0 := by
    rcases d1.2.2.1 with ⟨_, y⟩ | ⟨y, _⟩
    · rw [y] at cn; exact absurd (by decide) cn
    · rw [y]; decide
  have s15 := d1.2.2.2.2.2.1
  refine sp_Mo_intAt d1.1 fb (i := j) s15 (by omega) (sp_Mo_intAt d1.1 fb (i := 3) rfl (by omega) ?_)
  refine sp_Mo_sealWith (s := u 217 0) (j := j) d1.1 (by omega) (by omega) (g1.2 0 (by decide)) s15 (fun u2 g2 => br_c (fun cs => ?_) (fun cs => no (fun z => cs ?_) u2 (g1.tr g2.gs)))
  rotate_left
  · rw [← e1]; exact z.2.2.symm
  have hacc : acc (c (112 + 29 * s) 1) f tk pk := ⟨nm, j, hg, by omega, c0, nn, by rw [e1]; exact cs.symm⟩
  have g12 : gs u u2 := g1.tr g2.gs
  have r2 : mR u2 f := d1.1.fh g2
  have P2 : mP u2 pk := d1.2.1.fh g2
  have pkb : bl pk := hg.bl fb
  obtain ⟨M2, A2, b2⟩ := gsx u2 g12
  refine ⟨v48 (n := 1) (by decide), ?_⟩
  rw [show u2 226 (1 : Int32).toNatClampNeg = aT f 1 from r2.at (j := 1) (by omega)]
  refine plt (sp_Mo_intAt r2 fb (i := 3) rfl (by omega) (plt ⟨A.length + 1, ?_⟩))
  rw [i4]
  refine lp_Mo_find hs A2 (fun t ht k1 k2 => ?_) (fun hnf => ?_) A.length 0 (by omega) (fun t ht => absurd ht (Nat.not_lt_zero t))
  · -- a repeated one
    have l2 : svS (112 + 29 * s) f L A c c' o 2 := by
      match n, hS with
      | 0, hS => exact absurd hS.1 d
      | 1, hS => exact absurd ⟨tk, pk, hacc⟩ hS.2.1
      | 2, hS => exact hS
      | 3, hS =>
        obtain ⟨_, _, _, _, _, _, _, _, _, _, _, z, _⟩ := hS
        exact absurd ⟨k1, k2⟩ (z t ht)
      | n + 4, hS => exact absurd hS (fun z => z)
    obtain ⟨_, _, ⟨t', ht', k1', k2', ho⟩, ei, C', A'⟩ := l2
    have et : t' = t := hdK t' t ht' ht (k1'.trans k1.symm) (k2'.trans k2.symm)
    subst et
    refine sp_Mo_sendAnswer (s0 := u 217 0) (by omega) (A2.2.2 t' ht) (hm.gs g12) (g12.2 0 (by decide)) (fun u3 m3 g3 => ?_)
    have g13 : gm u u3 := g12.gm.tr g3
    obtain ⟨M3, A3, b3⟩ := gmx u3 g13
    have q0 : u3 217 0 = u 217 0 := g13.2 0 (by decide) (by decide)
    refine k u3 ⟨L, A, C', M3, hI, by rw [q0, ← e1]; exact A', A3, hdK, ?_, ?_, ?_, ?_, ?_⟩ b3 (by rw [ho, e0, e1]; exact m3) g13.frV (Or.inl ⟨by rw [ei], g13.cells 277 (by decide)⟩)
    · rw [ei]; exact e0
    · rw [ei, q0]; exact e1
    · rw [ei, g13.cells 239 (by decide)]; exact hup
    · rw [ei, g13.cells 240 (by decide)]; exact e15
    · rw [ei, g13.cells 241 (by decide)]; exact e16
  · -- a new one
    have l3 : svS (112 + 29 * s) f L A c c' o 3 := by
      match n, hS with
      | 0, hS => exact absurd hS.1 d
      | 1, hS => exact absurd ⟨tk, pk, hacc⟩ hS.2.1
      | 2, hS =>
        obtain ⟨_, _, ⟨t', ht', k1', k2', _⟩, _⟩ := hS
        exact absurd ⟨k1', k2'⟩ (hnf t' ht')
      | 3, hS => exact hS
      | n + 4, hS => exact absurd hS (fun z => z)
    obtain ⟨_, tk', pk', n', L', code, tok, m, bg, rn, hacc', _, hD, C', A', f15, f16, fq, ho⟩ := l3
    obtain ⟨et, ep⟩ := hacc.uniq hacc'
    subst et
    subst ep
    rw [e0, e15, e16] at hD
    obtain ⟨mbl, m3, m20⟩ := deR_m hD
    have hU2 : ∀ y, y < 8 → c 2 y = u2 219 y ∧ c 3 y = u2 220 y ∧ (u2 218 y = 0 ↔ c 3 y = 0) := by
      intro y hy
      rw [g12.1 219 (by decide) (by decide) (by decide), g12.1 220 (by decide) (by decide) (by decide), g12.1 218 (by decide) (by decide) (by decide)]
      exact hU y hy
    refine rf_decide (U2 := c 2) (U3 := c 3) hs M2 hI b2 P2 pkb hg.2.2.2.2 ((g2.2 14 (by decide)).trans d1.2.2.2.1) d1.2.2.2.2.1 (hm.gs g12) hU2 (by rw [g12.cells 240 (by decide), g12.cells 241 (by decide)]; exact hD) (fun u3 M3 I3 b3 P3 t3 m3' f40 f41 a3 f3 => ?_)
    have A3 : MA u3 s A := ⟨by rw [a3 251 (by decide) (by decide)]; exact A2.1, A2.2.1, fun t ht => (A2.2.2 t ht).keep (fun a h1 h2 => by rw [a3 a (by omega) (by omega)]) (fun i _ => by rw [a3 257 (by decide) (by decide)])⟩
    refine sp_Mo_answer (s0 := u 217 0) hs A3 P3 mbl m20 t3 m3' (by rw [f3.2.1 0 (by decide) (by decide), g12.2 0 (by decide)]) (fun u4 A4 m4 a4 f4 => ?_)
    have f14 : frV s u u4 := g12.gm.frV.tr (f3.tr f4)
    have q0 : u4 217 0 = u 217 0 := f14.2.1 0 (by decide) (by decide)
    refine k u4 ⟨L', A1 A (aT f 1, iA f 3, code, tok, m), C', ⟨by rw [a4 242 (by decide) (by decide)]; exact M3.1, M3.2.1, fun t ht => (M3.2.2 t ht).keep (fun a h1 h2 => by rw [a4 a (by omega) (by omega)])⟩, I3, by rw [q0, ← e1]; exact A', A4, hdK.push hnf, ?_, ?_, ?_, ?_, ?_⟩ (fun x hx => by rw [a4 249 (by decide) (by decide)]; exact b3 x hx) (by rw [ho, e0, e1]; exact m4) f14 (Or.inl ⟨fq 19 (by decide), ?_⟩)
    · rw [fq 0 (by decide)]; exact e0
    · rw [fq 1 (by decide), q0]; exact e1
    · rw [fq 13 (by decide), f14.1 239 (by decide) (by decide) (by decide) (by decide) (by decide) (by decide)]; exact hup
    · rw [f15, a4 240 (by decide) (by decide), f40]
    · rw [f16, a4 241 (by decide) (by decide), f41]
    · rw [a4 277 (by decide) (by decide), a3 277 (by decide) (by decide), g12.cells 277 (by decide)]
