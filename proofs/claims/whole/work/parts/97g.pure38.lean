/-! The pure part: sessions of the reference -/
def sR (u : pj_M) (x : Nat) (S : Nat → Int32) : Prop := (∀ q, q ≤ 5 → u (243 + q) x = S q) ∧ (S 2 = 2 → u 249 x = S 7 ∧ (¬ S 7 = 0 → u 250 x = S 6))
def MS (u : pj_M) (s : Nat) (L : List (Nat → Int32)) : Prop := u 242 s = nI L.length ∧ L.length ≤ 4 ∧ ∀ k, k < L.length → sR u (4 * s + k) (sg L k)
theorem sR.keep {u u' : pj_M} {x y : Nat} {S : Nat → Int32} (h : sR u x S) (hk : ∀ a, 243 ≤ a → a ≤ 250 → u' a y = u a x) : sR u' y S := by
  refine ⟨fun q hq => (hk (243 + q) (by omega) (by omega)).trans (h.1 q hq), fun e => ?_⟩
  rw [hk 249 (by decide) (by decide), hk 250 (by decide) (by decide)]
  exact h.2 e
/-- what a server's step leaves of the reference -/
def frV (s : Nat) (u u' : pj_M) : Prop := (∀ a, a ≠ 217 → (a < 221 ∨ 224 < a) → a ≠ 226 → a ≠ 227 → (a < 240 ∨ 257 < a) → a ≠ 277 → u' a = u a) ∧ (∀ k, k ≠ 4 → (k < 11 ∨ 18 < k) → u' 217 k = u 217 k) ∧ (∀ a q, ((240 ≤ a ∧ a ≤ 242) ∨ a = 251) → q ≠ s → u' a q = u a q) ∧ (∀ a q, ((243 ≤ a ∧ a ≤ 250) ∨ (252 ≤ a ∧ a ≤ 256)) → (q < 4 * s ∨ 4 * s + 4 ≤ q) → u' a q = u a q) ∧ (∀ q, (q < 80 * s ∨ 80 * s + 80 ≤ q) → u' 257 q = u 257 q) ∧ ∀ q, q ≠ 2 → u' 277 q = u 277 q
theorem frV.rf {s : Nat} {u : pj_M} : frV s u u := ⟨fun _ _ _ _ _ _ _ => rfl, fun _ _ _ => rfl, fun _ _ _ _ => rfl, fun _ _ _ _ => rfl, fun _ _ => rfl, fun _ _ => rfl⟩
theorem frV.tr {s : Nat} {u v w : pj_M} (f : frV s u v) (g : frV s v w) : frV s u w := ⟨fun a h1 h2 h3 h4 h5 h6 => (g.1 a h1 h2 h3 h4 h5 h6).trans (f.1 a h1 h2 h3 h4 h5 h6), fun k h1 h2 => (g.2.1 k h1 h2).trans (f.2.1 k h1 h2), fun a q h1 h2 => (g.2.2.1 a q h1 h2).trans (f.2.2.1 a q h1 h2), fun a q h1 h2 => (g.2.2.2.1 a q h1 h2).trans (f.2.2.2.1 a q h1 h2), fun q h1 => (g.2.2.2.2.1 q h1).trans (f.2.2.2.2.1 q h1), fun q h => (g.2.2.2.2.2 q h).trans (f.2.2.2.2.2 q h)⟩
theorem gm.frV {s : Nat} {u v : pj_M} (g : gm u v) : frV s u v := ⟨fun a h1 h2 h3 h4 _ _ => g.1 a h1 h2 h3 h4, g.2, fun a q h _ => by rw [g.cells a (by omega)], fun a q h _ => by rw [g.cells a (by omega)], fun q _ => by rw [g.cells 257 (by decide)], fun q _ => by rw [g.cells 277 (by decide)]⟩
theorem frV.s {s a : Nat} {v : Int32} {u : pj_M} (h : (240 ≤ a ∧ a ≤ 242) ∨ a = 251) : frV s u (pj_set u a s v) := ⟨fun b _ _ _ _ h5 _ => ps_i (by omega), fun k _ _ => by rw [ps_i (by omega)], fun b q _ h4 => by
  by_cases e : b = a
  · rw [e, ps_k h4]
  · rw [ps_i e], fun b q _ _ => by rw [ps_i (by omega)], fun q _ => by rw [ps_i (by omega)], fun q _ => by rw [ps_i (by omega)]⟩
theorem frV.x {s a x : Nat} {v : Int32} {u : pj_M} (h : (243 ≤ a ∧ a ≤ 250) ∨ (252 ≤ a ∧ a ≤ 256)) (hx : 4 * s ≤ x) (hx' : x < 4 * s + 4) : frV s u (pj_set u a x v) := ⟨fun b _ _ _ _ h5 _ => ps_i (by omega), fun k _ _ => by rw [ps_i (by omega)], fun b q _ _ => by rw [ps_i (by omega)], fun b q _ hq => by
  by_cases e : b = a
  · rw [e, ps_k (by omega)]
  · rw [ps_i e], fun q _ => by rw [ps_i (by omega)], fun q _ => by rw [ps_i (by omega)]⟩
theorem frV.w {s : Nat} {v : Int32} {u : pj_M} : frV s u (pj_set u 277 2 v) := ⟨fun b _ _ _ _ _ h6 => ps_i h6, fun k _ _ => by rw [ps_i (by decide)], fun b q _ _ => by rw [ps_i (by omega)], fun b q _ _ => by rw [ps_i (by omega)], fun q _ => by rw [ps_i (by decide)], fun q h => ps_k h⟩
theorem v2 {s : Nat} (hs : s < 2) : vp_in (nI s) 2 := vp_in_nI hs (by decide)
theorem c2 {s : Nat} (hs : s < 2) : (nI s).toNatClampNeg = s := nI_clamp (by omega)
theorem i4 {s : Nat} : (4 : Int32) * nI s = nI (4 * s) := pk_mul 4 s
theorem lp_Mo_sessionOf {u : pj_M} {s : Nat} {x : Int32} {L : List (Nat → Int32)} {K : Int32 → pj_M → Prop} (hs : s < 2) (h : MS u s L) (kt : ∀ k, k < L.length → (∀ t, t < k → ¬ sg L t 0 = x) → sg L k 0 = x → K (nI (4 * s + k)) u) (kn : (∀ t, t < L.length → ¬ sg L t 0 = x) → K (-1) u) : ∀ (d t : Nat), t + d = L.length → (∀ q, q < t → ¬ sg L q 0 = x) → pb_Mo_sessionOf_4 K (nI s) x (d + 1) u (nI (4 * s + t)) := by
  have h4 := h.2.1
  intro d
  induction d with
  | zero =>
    intro t ht hq
    refine ⟨v2 hs, br_t ?_ (kn (fun q h' => hq q (by omega)))⟩
    rw [c2 hs, h.1, i4, nI_add]; exact nI_le (by omega) (by omega)
  | succ d ih =>
    intro t ht hq
    refine ⟨v2 hs, br_f ?_ ⟨v8 (by omega), ?_⟩⟩
    · rw [c2 hs, h.1, i4, nI_add]; exact nI_ge (by omega) (by omega)
    have e0 : u 243 (4 * s + t) = sg L t 0 := (h.2.2 t (by omega)).1 0 (by decide)
    rw [nI_clamp (show 4 * s + t < 2 ^ 31 by omega), e0]
    refine br_c (fun e => kt t (by omega) hq e) (fun e => ?_)
    show pb_Mo_sessionOf_4 K (nI s) x (d + 1) u (nI (4 * s + t) + 1)
    rw [nI_1]
    refine ih (t + 1) (by omega) (fun q h1 => ?_)
    by_cases c : q = t
    · rw [c]; exact e
    · exact hq q (by omega)
theorem sp_Mo_sessionOf {u : pj_M} {s : Nat} {x : Int32} {L : List (Nat → Int32)} {K : Int32 → pj_M → Prop} (hs : s < 2) (h : MS u s L) (kt : ∀ k, oI L x (some k) → K (nI (4 * s + k)) u) (kn : oI L x none → K (-1) u) : pw_Mo_sessionOf u (nI s) x K := by
  unfold pw_Mo_sessionOf pb_Mo_sessionOf_0
  refine plt ⟨L.length + 1, ?_⟩
  rw [i4]
  exact lp_Mo_sessionOf hs h (fun k hk hlt he => kt k ⟨hk, he, hlt⟩) kn L.length 0 (by omega) (fun q h => absurd h (Nat.not_lt_zero q))
def bX (u : pj_M) : Prop := ∀ x, x < 8 → u 249 x = 0 ∨ u 249 x = 1
theorem nrb {x : Int32} (h : x = 0 ∨ x = 1) : vp_nar .boolean x = x := by
  rcases h with h | h <;> rw [h]
  · exact nr0
  · exact nr1
theorem lp_Mo_endSession {u0 : pj_M} {s k n : Nat} {K : pj_M → Prop} (hs : s < 2) (h242 : u0 242 s = nI n) (hn : n < 4) (hb : bX u0) (kk : ∀ u', (∀ a, 243 ≤ a → a ≤ 250 → ∀ t, t < 4 → u' a (4 * s + t) = shf (fun t => u0 a (4 * s + t)) k n t) → (∀ a q, 243 ≤ a → a ≤ 250 → (q < 4 * s ∨ 4 * s + 4 ≤ q) → u' a q = u0 a q) → (∀ a, (a < 243 ∨ 250 < a) → u' a = u0 a) → bX u' → K u') :
    ∀ (d j : Nat) (u : pj_M), j + d = n → k ≤ j → (∀ a, 243 ≤ a → a ≤ 250 → ∀ t, t < 4 → u a (4 * s + t) = shf (fun t => u0 a (4 * s + t)) k j t) → (∀ a q, 243 ≤ a → a ≤ 250 → (q < 4 * s ∨ 4 * s + 4 ≤ q) → u a q = u0 a q) → (∀ a, (a < 243 ∨ 250 < a) → u a = u0 a) → pb_Mo_endSession_12 K (nI s) (d + 1) u (nI (4 * s + j)) := by
  intro d
  induction d with
  | zero =>
    intro j u hj hkj h1 h2 h3
    have ej : j = n := by omega
    subst ej
    refine ⟨v2 hs, br_t ?_ (kk u h1 h2 h3 (fun x hx => ?_))⟩
    · rw [c2 hs, h3 242 (by decide), h242, i4, nI_add]; exact nI_le (by omega) (by omega)
    · by_cases c : 4 * s ≤ x ∧ x < 4 * s + 4
      · have e : x = 4 * s + (x - 4 * s) := by omega
        rw [e, h1 249 (by decide) (by decide) _ (by omega)]
        unfold shf
        split
        · exact hb _ (by omega)
        · exact hb _ (by omega)
      · rw [h2 249 x (by decide) (by decide) (by omega)]; exact hb x hx
  | succ d ih =>
    intro j u hj hkj h1 h2 h3
    have b9 : u 249 (4 * s + (j + 1)) = 0 ∨ u 249 (4 * s + (j + 1)) = 1 := by
      rw [h1 249 (by decide) (by decide) (j + 1) (by omega)]
      unfold shf
      split
      · exact hb _ (by omega)
      · exact hb _ (by omega)
    have va : vp_in (nI (4 * s + j)) 8 := v8 (by omega)
    have vb : vp_in (nI (4 * s + j) + 1) 8 := by rw [nI_1]; exact v8 (by omega)
    have ca : (nI (4 * s + j)).toNatClampNeg = 4 * s + j := nI_clamp (by omega)
    have cb : (nI (4 * s + j) + 1).toNatClampNeg = 4 * s + (j + 1) := by rw [nI_1]; exact nI_clamp (by omega)
    refine ⟨v2 hs, br_f ?_ ⟨vb, va, pu ⟨vb, va, pu ⟨vb, va, pu ⟨vb, va, pu ⟨vb, va, pu ⟨vb, va, pu ⟨vb, va, pu ⟨vb, va, pu ?_⟩⟩⟩⟩⟩⟩⟩⟩⟩
    · rw [c2 hs, h3 242 (by decide), h242, i4, nI_add]; exact nI_ge (by omega) (by omega)
    rw [ca, cb, nI_1]
    simp only [ps_i (show (244 : Nat) ≠ 243 by decide), ps_i (show (245 : Nat) ≠ 243 by decide), ps_i (show (245 : Nat) ≠ 244 by decide), ps_i (show (246 : Nat) ≠ 243 by decide), ps_i (show (246 : Nat) ≠ 244 by decide), ps_i (show (246 : Nat) ≠ 245 by decide), ps_i (show (247 : Nat) ≠ 243 by decide), ps_i (show (247 : Nat) ≠ 244 by decide), ps_i (show (247 : Nat) ≠ 245 by decide), ps_i (show (247 : Nat) ≠ 246 by decide), ps_i (show (248 : Nat) ≠ 243 by decide), ps_i (show (248 : Nat) ≠ 244 by decide), ps_i (show (248 : Nat) ≠ 245 by decide), ps_i (show (248 : Nat) ≠ 246 by decide), ps_i (show (248 : Nat) ≠ 247 by decide), ps_i (show (249 : Nat) ≠ 243 by decide), ps_i (show (249 : Nat) ≠ 244 by decide), ps_i (show (249 : Nat) ≠ 245 by decide), ps_i (show (249 : Nat) ≠ 246 by decide), ps_i (show (249 : Nat) ≠ 247 by decide), ps_i (show (249 : Nat) ≠ 248 by decide), ps_i (show (250 : Nat) ≠ 243 by decide), ps_i (show (250 : Nat) ≠ 244 by decide), ps_i (show (250 : Nat) ≠ 245 by decide), ps_i (show (250 : Nat) ≠ 246 by decide), ps_i (show (250 : Nat) ≠ 247 by decide), ps_i (show (250 : Nat) ≠ 248 by decide), ps_i (show (250 : Nat) ≠ 249 by decide)]
    rw [nrb b9]
    generalize hw : pj_set (pj_set (pj_set (pj_set (pj_set (pj_set (pj_set (pj_set u 243 (4 * s + j) (u 243 (4 * s + (j + 1)))) 244 (4 * s + j) (u 244 (4 * s + (j + 1)))) 245 (4 * s + j) (u 245 (4 * s + (j + 1)))) 246 (4 * s + j) (u 246 (4 * s + (j + 1)))) 247 (4 * s + j) (u 247 (4 * s + (j + 1)))) 248 (4 * s + j) (u 248 (4 * s + (j + 1)))) 249 (4 * s + j) (u 249 (4 * s + (j + 1)))) 250 (4 * s + j) (u 250 (4 * s + (j + 1))) = w
    have wo : ∀ a, (a < 243 ∨ 250 < a) → w a = u a := fun a ha => by rw [← hw, ps_i (by omega), ps_i (by omega), ps_i (by omega), ps_i (by omega), ps_i (by omega), ps_i (by omega), ps_i (by omega), ps_i (by omega)]
    have wi : ∀ a, 243 ≤ a → a ≤ 250 → ∀ q, w a q = if q = 4 * s + j then u a (4 * s + (j + 1)) else u a q := by
      intro a h1' h2' q
      have hc : a = 243 ∨ a = 244 ∨ a = 245 ∨ a = 246 ∨ a = 247 ∨ a = 248 ∨ a = 249 ∨ a = 250 := by omega
      by_cases c : q = 4 * s + j
      · rw [if_pos c, c, ← hw]
        rcases hc with e | e | e | e | e | e | e | e <;> subst e
        · rw [ps_i (by decide), ps_i (by decide), ps_i (by decide), ps_i (by decide), ps_i (by decide), ps_i (by decide), ps_i (by decide), ps_s]
        · rw [ps_i (by decide), ps_i (by decide), ps_i (by decide), ps_i (by decide), ps_i (by decide), ps_i (by decide), ps_s]
        · rw [ps_i (by decide), ps_i (by decide), ps_i (by decide), ps_i (by decide), ps_i (by decide), ps_s]
        · rw [ps_i (by decide), ps_i (by decide), ps_i (by decide), ps_i (by decide), ps_s]
        · rw [ps_i (by decide), ps_i (by decide), ps_i (by decide), ps_s]
        · rw [ps_i (by decide), ps_i (by decide), ps_s]
        · rw [ps_i (by decide), ps_s]
        · rw [ps_s]
      · rw [if_neg c, ← hw]
        rcases hc with e | e | e | e | e | e | e | e <;> subst e
        · rw [ps_i (by decide), ps_i (by decide), ps_i (by decide), ps_i (by decide), ps_i (by decide), ps_i (by decide), ps_i (by decide), ps_k c]
        · rw [ps_i (by decide), ps_i (by decide), ps_i (by decide), ps_i (by decide), ps_i (by decide), ps_i (by decide), ps_k c, ps_i (by decide)]
        · rw [ps_i (by decide), ps_i (by decide), ps_i (by decide), ps_i (by decide), ps_i (by decide), ps_k c, ps_i (by decide), ps_i (by decide)]
        · rw [ps_i (by decide), ps_i (by decide), ps_i (by decide), ps_i (by decide), ps_k c, ps_i (by decide), ps_i (by decide), ps_i (by decide)]
        · rw [ps_i (by decide), ps_i (by decide), ps_i (by decide), ps_k c, ps_i (by decide), ps_i (by decide), ps_i (by decide), ps_i (by decide)]
        · rw [ps_i (by decide), ps_i (by decide), ps_k c, ps_i (by decide), ps_i (by decide), ps_i (by decide), ps_i (by decide), ps_i (by decide)]
        · rw [ps_i (by decide), ps_k c, ps_i (by decide), ps_i (by decide), ps_i (by decide), ps_i (by decide), ps_i (by decide), ps_i (by decide)]
        · rw [ps_k c, ps_i (by decide), ps_i (by decide), ps_i (by decide), ps_i (by decide), ps_i (by decide), ps_i (by decide), ps_i (by decide)]
    refine ih (j + 1) w (by omega) (by omega) (fun a ha hb t ht => ?_) (fun a q ha hb hq => ?_) (fun a ha => (wo a ha).trans (h3 a ha))
    · rw [wi a ha hb]
      by_cases c : t = j
      · rw [if_pos (by omega), c, h1 a ha hb (j + 1) (by omega), shf_up, shf_s _ hkj]
      · rw [if_neg (by omega), h1 a ha hb t ht, shf_o _ c]
    · rw [wi a ha hb, if_neg (by omega)]; exact h2 a q ha hb hq
theorem sp_Mo_endSession {u : pj_M} {s k : Nat} {L : List (Nat → Int32)} {K : pj_M → Prop} (hs : s < 2) (h : MS u s L) (hk : k < L.length) (hb : bX u) (kk : ∀ u', MS u' s (L.eraseIdx k) → bX u' → (∀ a, (a < 242 ∨ 250 < a) → u' a = u a) → frV s u u' → K u') : pw_Mo_endSession u (nI s) (nI (4 * s + k)) K := by
  obtain ⟨h242, h4, hS⟩ := h
  have hlen : (L.eraseIdx k).length = L.length - 1 := List.length_eraseIdx_of_lt hk
  unfold pw_Mo_endSession pb_Mo_endSession_0
  refine ⟨v2 hs, v2 hs, pu ⟨L.length - 1 - k + 1, ?_⟩⟩
  have e1 : u 242 s - 1 = nI (L.length - 1) := by rw [h242]; exact pk_sub (b := 1) (by omega)
  rw [c2 hs, e1]
  have o : ∀ a, a ≠ 242 → (pj_set u 242 s (nI (L.length - 1))) a = u a := fun a ha => ps_i ha
  have f0 : frV s u (pj_set u 242 s (nI (L.length - 1))) := frV.s (Or.inl ⟨by decide, by decide⟩)
  have e0 : (pj_set u 242 s (nI (L.length - 1))) 242 s = nI (L.length - 1) := ps_s
  generalize pj_set u 242 s (nI (L.length - 1)) = u0 at o f0 e0 ⊢
  refine lp_Mo_endSession (u0 := u0) (k := k) (n := L.length - 1) hs e0 (by omega) (fun x hx => by rw [o 249 (by decide)]; exact hb x hx) (fun u' g1 g2 g3 g4 => ?_) (L.length - 1 - k) k u0 (by omega) (Nat.le_refl _) (fun a _ _ t _ => (shf_0 (fun t => u0 a (4 * s + t)) k t).symm) (fun _ _ _ _ _ => rfl) (fun _ _ => rfl)
  refine kk u' ⟨by rw [g3 242 (by decide), e0, hlen], by rw [hlen]; omega, fun t ht => ?_⟩ g4 (fun a ha => (g3 a (by omega)).trans (o a (by omega))) (f0.tr ⟨fun a _ _ _ _ h5 _ => g3 a (by omega), fun k _ _ => by rw [g3 217 (by decide)], fun a q h _ => by rw [g3 a (by omega)], fun a q h hq => ?_, fun q _ => by rw [g3 257 (by decide)], fun q _ => by rw [g3 277 (by decide)]⟩)
  · rw [hlen] at ht
    rw [sg_er]
    by_cases c : t < k
    · rw [if_pos c]
      refine (hS t (by omega)).keep (fun a ha hb => ?_)
      rw [g1 a ha hb t (by omega), show shf (fun t => u0 a (4 * s + t)) k (L.length - 1) t = u0 a (4 * s + t) from if_neg (by omega), o a (by omega)]
    · rw [if_neg c]
      refine (hS (t + 1) (by omega)).keep (fun a ha hb => ?_)
      rw [g1 a ha hb t (by omega), show shf (fun t => u0 a (4 * s + t)) k (L.length - 1) t = u0 a (4 * s + (t + 1)) from if_pos ⟨by omega, ht⟩, o a (by omega)]
  · rcases h with ⟨h1, h2⟩ | ⟨h1, h2⟩
    · exact g2 a q h1 h2 hq
    · rw [g3 a (by omega)]
