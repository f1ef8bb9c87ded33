/-! The pure part: the reference's server keeps and sends answers -/
def aE (u : pj_M) (x : Nat) (e : aTy) : Prop := u 252 x = e.1 ∧ u 253 x = e.2.1 ∧ u 254 x = e.2.2.1 ∧ u 255 x = e.2.2.2.1 ∧ u 256 x = nI e.2.2.2.2.length ∧ aR u 257 x e.2.2.2.2 ∧ bl e.2.2.2.2 ∧ (e.2.2.2.1 = -1 ∨ 0 ≤ e.2.2.2.1)
def MA (u : pj_M) (s : Nat) (A : List aTy) : Prop := u 251 s = nI A.length ∧ A.length ≤ 4 ∧ ∀ t, t < A.length → aE u (4 * s + t) (ag A t)
theorem aE.keep {u u' : pj_M} {x y : Nat} {e : aTy} (h : aE u x e) (hk : ∀ a, 252 ≤ a → a ≤ 256 → u' a y = u a x) (h7 : ∀ i, i < 20 → u' 257 (20 * y + i) = u 257 (20 * x + i)) : aE u' y e := by
  obtain ⟨a1, a2, a3, a4, a5, a6, a7, a8⟩ := h
  refine ⟨(hk 252 (by decide) (by decide)).trans a1, (hk 253 (by decide) (by decide)).trans a2, (hk 254 (by decide) (by decide)).trans a3, (hk 255 (by decide) (by decide)).trans a4, (hk 256 (by decide) (by decide)).trans a5, ⟨a6.1, fun j hj => ?_⟩, a7, a8⟩
  have := a6.1
  rw [h7 j (by omega)]
  exact a6.2 j hj
theorem gY_len (s code id au nm tk : Int32) (m : List Int32) : (gY s code id au nm tk m).length = (gB code id au nm tk m).length + 4 := by
  unfold gY
  rw [si_len, gU_len]
theorem gY_si (s code id au nm tk : Int32) (m : List Int32) : si (gY s code id au nm tk m) 3 au = gY s code id au nm tk m := by
  have h9 := gB_len7 code id au nm tk m
  have hl := gU_len code id au nm tk m
  have hy := gY_len s code id au nm tk m
  have g : ∀ t, t < 9 → (gY s code id au nm tk m).getD t 0 = (si (gU code id au nm tk m) 3 au).getD t 0 := by
    intro t ht
    unfold gY
    rw [gU_3, si_gd (by omega), if_neg (by omega), if_neg (by omega), if_neg (by omega), if_neg (by omega)]
  refine si_id (by omega) ?_ ?_ ?_ ?_
  · rw [g 3 (by decide), si_gd (by omega), if_neg (by decide), if_neg (by decide), if_neg (by decide), if_pos rfl]
  · rw [g 4 (by decide), si_gd (by omega), if_neg (by decide), if_neg (by decide), if_pos rfl]
  · rw [g 5 (by decide), si_gd (by omega), if_neg (by decide), if_pos rfl]
  · rw [g 6 (by decide), si_gd (by omega), if_pos rfl]
theorem sp_Mo_sendAnswer {u : pj_M} {s x : Nat} {s0 : Int32} {e : aTy} {ms : List mT} {K : pj_M → Prop} (hx : x < 8) (h : aE u x e) (hm : mm u ms) (hs : u 217 0 = s0) (k : ∀ u', mm u' (ad ms (3, nI s, rA s0 e)) → gm u u' → K u') : pw_Mo_sendAnswer u (nI s) (nI x) K := by
  obtain ⟨a1, a2, a3, a4, a5, a6, a7, a8⟩ := h
  have h20 := a6.1
  have x31 : x < 2 ^ 31 := by omega
  unfold pw_Mo_sendAnswer pb_Mo_sendAnswer_0
  refine ⟨v8 hx, pu ⟨e.2.2.2.2.length + 1, ?_⟩⟩
  rw [nI_clamp x31, a5]
  refine ll_sendAnswer_12 hx (u0 := pj_set u 217 16 (nI e.2.2.2.2.length)) (a6.keep (fun j _ => by rw [ps_i (by decide)])) (fun u' p' g' => ?_) e.2.2.2.2.length 0 _ (by omega) ps_s (fun j hj => absurd hj (Nat.not_lt_zero j)) fP'.rf
  have gg : fP' u u' := fP'.n.tr g'
  refine ⟨v8 hx, v8 hx, v8 hx, v8 hx, ?_⟩
  rw [nI_clamp x31, gg.cells 254 (by decide), gg.cells 252 (by decide), gg.cells 253 (by decide), gg.cells 255 (by decide), a1, a2, a3, a4]
  refine sp_Mo_gram (s := s0) p' a7 h20 (Or.inl rfl) a8 ((gg.2 0 (by decide)).trans hs) (fun u1 r1 p1 s1 g1 => ⟨v8 hx, ?_⟩)
  have hB := gB_len7 e.2.2.1 e.1 e.2.1 (-1) e.2.2.2.1 e.2.2.2.2
  have hY := gY_len s0 e.2.2.1 e.1 e.2.1 (-1) e.2.2.2.1 e.2.2.2.2
  have e53 : u1 253 x = e.2.1 := by rw [g1.cells 253 (by decide), gg.cells 253 (by decide)]; exact a2
  rw [e53]
  refine sp_Mo_authWith (s := s0) r1 (by omega) ((g1.2 0 (by decide)).trans ((gg.2 0 (by decide)).trans hs)) (fun u2 g2 => ?_)
  rw [gY_si]
  refine sp_Mo_intoRow (r1.fh g2) (j := 3) rfl (by omega) (fun u4 r4 g4 => ?_)
  have gA : gs u u4 := gg.gs.tr (g1.tr (g2.gs.tr g4.gs))
  exact sp_Mo_send (hm.gs gA) r4 (fun u5 m5 g5 => k u5 m5 (gA.gm.tr g5.gm))
theorem lp_Mo_answer_in {R : pj_M → Int32 → Prop} {K : pj_M → Prop} {s1 id au code tok : Int32} {x : Nat} (hx : x + 1 < 8) {u1 : pj_M} (k : ∀ u', (∀ i, i < 20 → u' 257 (20 * x + i) = u1 257 (20 * (x + 1) + i)) → (∀ q, (q < 20 * x ∨ 20 * x + 20 ≤ q) → u' 257 q = u1 257 q) → (∀ a, a ≠ 257 → u' a = u1 a) → R u' (nI x + 1)) :
    ∀ (d t : Nat) (u : pj_M), t + d = 20 → (∀ i, i < t → u 257 (20 * x + i) = u1 257 (20 * (x + 1) + i)) → (∀ q, (q < 20 * x ∨ 20 * x + t ≤ q) → u 257 q = u1 257 q) → (∀ a, a ≠ 257 → u a = u1 a) → pb_Mo_answer_108 R K s1 id au code tok (nI x) (d + 1) u (nI t) := by
  intro d
  induction d with
  | zero =>
    intro t u ht hi hq ha
    have e : t = 20 := by omega
    subst e
    exact br_t (by decide) (k u hi hq ha)
  | succ d ih =>
    intro t u ht hi hq ha
    have e48 : (20 : Int32) * nI x + nI t = nI (20 * x + t) := i20
    have e96 : (20 : Int32) * nI x + 20 + nI t = nI (20 * x + 20 + t) := by rw [show (20 : Int32) * nI x = nI (20 * x) from pk_mul 20 x, show (20 : Int32) = nI 20 from rfl, nI_add, nI_add]
    refine br_f (fun q => nI_ge (a := t) (b := 20) (by omega) (by decide) q) ⟨by rw [e96]; exact vp_in_nI (by omega) (by decide), by rw [e48]; exact vp_in_nI (by omega) (by decide), pu ?_⟩
    rw [nI_1, e48, e96, nI_clamp (show 20 * x + t < 2 ^ 31 by omega), nI_clamp (show 20 * x + 20 + t < 2 ^ 31 by omega)]
    refine ih (t + 1) _ (by omega) (fun i hi' => ?_) (fun q hq' => ?_) (fun a h => (ps_i h).trans (ha a h))
    · by_cases e : i = t
      · rw [e, ps_s, hq _ (by omega), show 20 * x + 20 + t = 20 * (x + 1) + t by omega]
      · rw [ps_k (by omega)]; exact hi i (by omega)
    · rw [ps_k (by omega)]; exact hq q (by omega)
def anI (s : Nat) (u0 u : pj_M) (j : Nat) : Prop := (∀ a, 252 ≤ a → a ≤ 256 → ∀ t, t < 4 → u a (4 * s + t) = shf (fun t => u0 a (4 * s + t)) 0 j t) ∧ (∀ t i, t < 4 → i < 20 → u 257 (20 * (4 * s + t) + i) = shf (fun t => u0 257 (20 * (4 * s + t) + i)) 0 j t) ∧ (∀ a q, 252 ≤ a → a ≤ 256 → (q < 4 * s ∨ 4 * s + 4 ≤ q) → u a q = u0 a q) ∧ (∀ q, (q < 80 * s ∨ 80 * s + 80 ≤ q) → u 257 q = u0 257 q) ∧ ∀ a, (a < 252 ∨ 257 < a) → u a = u0 a
theorem lp_Mo_answer {u0 : pj_M} {s : Nat} {id au code tok : Int32} {K : pj_M → Prop} (hs : s < 2) (kk : ∀ u', anI s u0 u' 3 → pb_Mo_answer_156 K u' (nI s) id au code tok) :
    ∀ (d j : Nat) (u : pj_M), j + d = 3 → anI s u0 u j → pb_Mo_answer_15 K (nI s) id au code tok (d + 1) u (nI (4 * s + j)) := by
  intro d
  induction d with
  | zero =>
    intro j u hj hi
    have ej : j = 3 := by omega
    subst ej
    refine br_t ?_ (kk u hi)
    rw [i4, show (3 : Int32) = nI 3 from rfl, nI_add]; exact nI_le (by omega) (by omega)
  | succ d ih =>
    intro j u hj hi
    obtain ⟨i1, i2, i3, i4', i5⟩ := hi
    have va : vp_in (nI (4 * s + j)) 8 := v8 (by omega)
    have vb : vp_in (nI (4 * s + j) + 1) 8 := by rw [nI_1]; exact v8 (by omega)
    have ca : (nI (4 * s + j)).toNatClampNeg = 4 * s + j := nI_clamp (by omega)
    have cb : (nI (4 * s + j) + 1).toNatClampNeg = 4 * s + (j + 1) := by rw [nI_1]; exact nI_clamp (by omega)
    refine br_f ?_ ⟨vb, va, pu ⟨vb, va, pu ⟨vb, va, pu ⟨vb, va, pu ⟨vb, va, pu ⟨21, ?_⟩⟩⟩⟩⟩⟩
    · rw [i4, show (3 : Int32) = nI 3 from rfl, nI_add]; exact nI_ge (by omega) (by omega)
    rw [ca, cb]
    simp only [ps_i (show (253 : Nat) ≠ 252 by decide), ps_i (show (254 : Nat) ≠ 252 by decide), ps_i (show (254 : Nat) ≠ 253 by decide), ps_i (show (255 : Nat) ≠ 252 by decide), ps_i (show (255 : Nat) ≠ 253 by decide), ps_i (show (255 : Nat) ≠ 254 by decide), ps_i (show (256 : Nat) ≠ 252 by decide), ps_i (show (256 : Nat) ≠ 253 by decide), ps_i (show (256 : Nat) ≠ 254 by decide), ps_i (show (256 : Nat) ≠ 255 by decide)]
    generalize hw : pj_set (pj_set (pj_set (pj_set (pj_set u 252 (4 * s + j) (u 252 (4 * s + (j + 1)))) 253 (4 * s + j) (u 253 (4 * s + (j + 1)))) 254 (4 * s + j) (u 254 (4 * s + (j + 1)))) 255 (4 * s + j) (u 255 (4 * s + (j + 1)))) 256 (4 * s + j) (u 256 (4 * s + (j + 1))) = w
    have wo : ∀ a, (a < 252 ∨ 256 < a) → w a = u a := fun a ha => by rw [← hw, ps_i (by omega), ps_i (by omega), ps_i (by omega), ps_i (by omega), ps_i (by omega)]
    have wi : ∀ a, 252 ≤ a → a ≤ 256 → ∀ q, w a q = if q = 4 * s + j then u a (4 * s + (j + 1)) else u a q := by
      intro a h1' h2' q
      have hc : a = 252 ∨ a = 253 ∨ a = 254 ∨ a = 255 ∨ a = 256 := by omega
      by_cases c : q = 4 * s + j
      · rw [if_pos c, c, ← hw]
        rcases hc with e | e | e | e | e <;> subst e
        · rw [ps_i (by decide), ps_i (by decide), ps_i (by decide), ps_i (by decide), ps_s]
        · rw [ps_i (by decide), ps_i (by decide), ps_i (by decide), ps_s]
        · rw [ps_i (by decide), ps_i (by decide), ps_s]
        · rw [ps_i (by decide), ps_s]
        · rw [ps_s]
      · rw [if_neg c, ← hw]
        rcases hc with e | e | e | e | e <;> subst e
        · rw [ps_i (by decide), ps_i (by decide), ps_i (by decide), ps_i (by decide), ps_k c]
        · rw [ps_i (by decide), ps_i (by decide), ps_i (by decide), ps_k c, ps_i (by decide)]
        · rw [ps_i (by decide), ps_i (by decide), ps_k c, ps_i (by decide), ps_i (by decide)]
        · rw [ps_i (by decide), ps_k c, ps_i (by decide), ps_i (by decide), ps_i (by decide)]
        · rw [ps_k c, ps_i (by decide), ps_i (by decide), ps_i (by decide), ps_i (by decide)]
    refine lp_Mo_answer_in (u1 := w) (by omega) (fun u' g1 g2 g3 => ?_) 20 0 w (by omega) (fun i hi' => absurd hi' (Nat.not_lt_zero i)) (fun _ _ => rfl) (fun _ _ => rfl)
    rw [nI_1]
    have w7 : w 257 = u 257 := wo 257 (by decide)
    refine ih (j + 1) u' (by omega) ⟨fun a ha hb t ht => ?_, fun t i ht hi => ?_, fun a q ha hb hq => ?_, fun q hq => ?_, fun a ha => ?_⟩
    · rw [g3 a (by omega), wi a ha hb]
      by_cases c : t = j
      · rw [if_pos (by omega), c, i1 a ha hb (j + 1) (by omega), shf_up, shf_s _ (Nat.zero_le _)]
      · rw [if_neg (by omega), i1 a ha hb t ht, shf_o _ c]
    · by_cases c : t = j
      · rw [c, g1 i hi, w7, show 20 * (4 * s + j + 1) + i = 20 * (4 * s + (j + 1)) + i by omega, i2 (j + 1) i (by omega) hi, shf_up, shf_s _ (Nat.zero_le _)]
      · rw [g2 _ (by omega), w7, i2 t i ht hi, shf_o _ c]
    · rw [g3 a (by omega), wi a ha hb, if_neg (by omega)]; exact i3 a q ha hb hq
    · rw [g2 q (by omega), w7]; exact i4' q hq
    · rw [g3 a (by omega), wo a (by omega)]; exact i5 a ha
