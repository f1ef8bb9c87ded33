/-! The pure part: the reference's server begins a method -/
theorem b_1 (i : Nat) : bt 1 i = decide (i = 0) := by
  rcases Nat.lt_or_ge i 32 with h | h
  · exact (by decide +kernel : ∀ i, i < 32 → bt 1 i = decide (i = 0)) i h
  · rw [b_big h, decide_eq_false (by omega)]
theorem b_2 (i : Nat) : bt 2 i = decide (i = 1) := by
  rcases Nat.lt_or_ge i 32 with h | h
  · exact (by decide +kernel : ∀ i, i < 32 → bt 2 i = decide (i = 1)) i h
  · rw [b_big h, decide_eq_false (by omega)]
theorem and1 (y : Int32) : y &&& 1 = 0 ∨ y &&& 1 = 1 := by
  by_cases h : bt y 0 = true
  · refine Or.inr (b_ext (fun i hi => ?_))
    rw [b_and, b_1]
    by_cases e : i = 0
    · rw [e, h]; rfl
    · rw [decide_eq_false e, Bool.and_false]
  · refine Or.inl (b_ext (fun i hi => ?_))
    rw [b_and, b_1, b_0]
    by_cases e : i = 0
    · rw [e]; simp [h]
    · rw [decide_eq_false e, Bool.and_false]
theorem and2 (y : Int32) : y &&& 2 = 0 ∨ y &&& 2 = 2 := by
  by_cases h : bt y 1 = true
  · refine Or.inr (b_ext (fun i hi => ?_))
    rw [b_and, b_2]
    by_cases e : i = 1
    · rw [e, h]; rfl
    · rw [decide_eq_false e, Bool.and_false]
  · refine Or.inl (b_ext (fun i hi => ?_))
    rw [b_and, b_2, b_0]
    by_cases e : i = 1
    · rw [e]; simp [h]
    · rw [decide_eq_false e, Bool.and_false]
theorem and_sw (a b c : Int32) : (a &&& b) &&& c = (a &&& c) &&& b := by
  apply b_ext
  intro i _
  rw [b_and, b_and, b_and, b_and, Bool.and_right_comm]
/-- 2 was not begun, if it is wanted -/
theorem not2 {a b : Int32} (h : ¬ (a &&& (b ^^^ (-1))) &&& 2 = 0) : b &&& 2 = 0 := by
  apply b_ext
  intro i hi
  rw [b_and, b_2, b_0]
  by_cases e : i = 1
  · rw [e]
    cases hb : bt b 1
    · rfl
    · exfalso
      apply h
      apply b_ext
      intro j hj
      rw [b_and, b_and, b_xor, b_2, b_0]
      by_cases e' : j = 1
      · rw [e', hb, b_m1 1 (by decide)]; simp
      · rw [decide_eq_false e', Bool.and_false]
  · rw [decide_eq_false e, Bool.and_false]
theorem or_2 {b x : Int32} (h : (b ||| x) &&& 2 = 0) : b &&& 2 = 0 := by
  apply b_ext
  intro i hi
  have := congrArg (fun z => bt z i) h
  have this : bt ((b ||| x) &&& 2) i = bt 0 i := this
  rw [b_and, b_or, b_0] at this
  rw [b_and, b_0]
  cases hb : bt b i
  · rfl
  · rw [hb] at this
    simpa using this
theorem or_22 (b : Int32) : ¬ (b ||| 2) &&& 2 = 0 := by
  intro h
  have this : bt ((b ||| 2) &&& 2) 1 = bt 0 1 := congrArg (fun z => bt z 1) h
  rw [b_and, b_or, b_2, b_0] at this
  simp at this
theorem sp_Mo_request {u : pj_M} {x : Nat} {t : Int32} {pk : List Int32} {K : pj_M → Prop} (hx : x < 8) (hP : mP u pk) (h1 : 1 < pk.length) (k : ∀ u', mP u' (ph 1 (awN pk) t) → u' 217 14 = u 243 x → u' 247 = up (u 247) x (awN pk) → (∀ a, a ≠ 217 → a ≠ 227 → a ≠ 247 → u' a = u a) → (∀ k, k ≠ 14 → k ≠ 16 → u' 217 k = u 217 k) → K u') : pw_Mo_request u (nI x) t K := by
  unfold pw_Mo_request pb_Mo_request_0
  refine ⟨v48 (n := 1) (by decide), v8 hx, pu ⟨v8 hx, ?_⟩⟩
  rw [nI_clamp (show x < 2 ^ 31 by omega), show u 227 (1 : Int32).toNatClampNeg = aT pk 1 from hP.at (j := 1) h1, ps_s]
  have o1 : ∀ a, a ≠ 247 → (pj_set u 247 x ((aT pk 1 + 1) &&& 255)) a = u a := fun a h => ps_i h
  have e1 : (pj_set u 247 x ((aT pk 1 + 1) &&& 255)) 247 = up (u 247) x (awN pk) := st_up
  generalize pj_set u 247 x ((aT pk 1 + 1) &&& 255) = u1 at o1 e1 ⊢
  refine sp_Mo_packet (fun u2 P2 g2 => ⟨v8 hx, pu ?_⟩)
  refine k _ (P2.keep (ps_k (by decide)) (ps_i (by decide))) ?_ (by rw [ps_i (by decide), g2.cells 247 (by decide), e1]) (fun a h1 h2 h3 => by rw [ps_i h1, g2.1 a h1 h2, o1 a h3]) (fun k h1 h2 => by rw [ps_k h1, g2.2 k h2, o1 217 (by decide)])
  rw [ps_s, g2.cells 243 (by decide), o1 243 (by decide)]
theorem sp_Mo_begin {u : pj_M} {s x y : Nat} {mt : Int32} {pk : List Int32} {K : pj_M → Prop} (hs : s < 2) (hx : x < 8) (hy : y < 8) (h244 : u 244 x = nI y) (hmt : mt = 1 ∨ mt = 2) (hP : mP u pk) (h1 : 1 < pk.length) (k : ∀ u', mP u' (bmM mt (awN pk) (rnd (u 219 y) (nI s) (u 241 s))) → u' 217 14 = u 243 x → u' 245 = up (u 245) x mt → u' 246 = up (u 246) x (u 246 x ||| mt) → u' 247 = up (u 247) x (awN pk) → u' 248 = up (u 248) x (rnd (u 219 y) (nI s) (u 241 s)) → u' 249 = up (u 249) x 0 → u' 241 = up (u 241) s (u 241 s + 1) → (∀ a, a ≠ 217 → a ≠ 227 → a ≠ 241 → (a < 245 ∨ 249 < a) → u' a = u a) → (∀ k, (k < 14 ∨ 18 < k) → u' 217 k = u 217 k) → K u') : pw_Mo_begin u (nI s) (nI x) mt K := by
  unfold pw_Mo_begin pb_Mo_begin_0
  refine ⟨v8 hx, pu ⟨v8 hx, v8 hx, pu ⟨v8 hx, pu ⟨v8 hx, ?_⟩⟩⟩⟩
  rw [nI_clamp (show x < 2 ^ 31 by omega), nr0, ps_i (show (246 : Nat) ≠ 245 by decide)]
  have o3 : ∀ a, a ≠ 245 → a ≠ 246 → a ≠ 249 → (pj_set (pj_set (pj_set u 245 x mt) 246 x (u 246 x ||| mt)) 249 x 0) a = u a := fun a h1 h2 h3 => by rw [ps_i h3, ps_i h2, ps_i h1]
  have e5 : (pj_set (pj_set (pj_set u 245 x mt) 246 x (u 246 x ||| mt)) 249 x 0) 245 = up (u 245) x mt := by rw [ps_i (by decide), ps_i (by decide), st_up]
  have e6 : (pj_set (pj_set (pj_set u 245 x mt) 246 x (u 246 x ||| mt)) 249 x 0) 246 = up (u 246) x (u 246 x ||| mt) := by rw [ps_i (by decide), st_up, ps_i (by decide)]
  have e9 : (pj_set (pj_set (pj_set u 245 x mt) 246 x (u 246 x ||| mt)) 249 x 0) 249 = up (u 249) x 0 := by rw [st_up, ps_i (by decide), ps_i (by decide)]
  generalize pj_set (pj_set (pj_set u 245 x mt) 246 x (u 246 x ||| mt)) 249 x 0 = u3 at o3 e5 e6 e9 ⊢
  have e44 : u3 244 x = nI y := by rw [o3 244 (by decide) (by decide) (by decide)]; exact h244
  rw [e44]
  refine ⟨v8 hy, v2 hs, ?_⟩
  rw [nI_clamp (show y < 2 ^ 31 by omega), c2 hs]
  refine smx (key' := u 219 y) (n' := u 241 s) (by rw [o3 219 (by decide) (by decide) (by decide)]) (by rw [o3 241 (by decide) (by decide) (by decide)]) (bI (by omega)) (fun u4 g4 => ⟨v8 hx, pu ⟨v2 hs, v2 hs, pu ?_⟩⟩)
  generalize rnd (u 219 y) (nI s) (u 241 s) = R at k ⊢
  have e41 : (pj_set u4 248 x R) 241 s = u 241 s := by rw [ps_i (by decide), g4.cells 241 (by decide), o3 241 (by decide) (by decide) (by decide)]
  rw [e41]
  have o7 : ∀ a, a ≠ 248 → a ≠ 241 → (pj_set (pj_set u4 248 x R) 241 s (u 241 s + 1)) a = u4 a := fun a h1 h2 => by rw [ps_i h2, ps_i h1]
  have e48 : (pj_set (pj_set u4 248 x R) 241 s (u 241 s + 1)) 248 = up (u 248) x R := by rw [ps_i (by decide), st_up, g4.cells 248 (by decide), o3 248 (by decide) (by decide) (by decide)]
  have e41' : (pj_set (pj_set u4 248 x R) 241 s (u 241 s + 1)) 241 = up (u 241) s (u 241 s + 1) := by rw [st_up, ps_i (by decide), g4.cells 241 (by decide), o3 241 (by decide) (by decide) (by decide)]
  generalize pj_set (pj_set u4 248 x R) 241 s (u 241 s + 1) = u7 at o7 e48 e41' ⊢
  have P7 : mP u7 pk := hP.keep (by rw [o7 217 (by decide) (by decide), g4.2 16 (by decide), o3 217 (by decide) (by decide) (by decide)]) (by rw [o7 227 (by decide) (by decide), g4.1 227 (by decide), o3 227 (by decide) (by decide) (by decide)])
  have q7 : ∀ a, a ≠ 217 → a ≠ 241 → (a < 245 ∨ 249 < a ∨ a = 247) → u7 a = u a := fun a h1 h2 h3 => by rw [o7 a (by omega) h2, g4.1 a h1, o3 a (by omega) (by omega) (by omega)]
  have z7 : ∀ k, k ≠ 18 → u7 217 k = u 217 k := fun k hk => by rw [o7 217 (by decide) (by decide), g4.2 k hk, o3 217 (by decide) (by decide) (by decide)]
  -- what is sent
  have fin : ∀ (u8 : pj_M) (l : List Int32), mP u8 l → 2 < l.length → l.length ≤ 20 → pd l (b4 R) = bmM mt (awN pk) R → u8 217 14 = u 243 x → u8 247 = up (u 247) x (awN pk) → (∀ a, a ≠ 217 → a ≠ 227 → a ≠ 247 → u8 a = u7 a) → (∀ k, k ≠ 14 → k ≠ 16 → u8 217 k = u7 217 k) → pb_Mo_begin_88 K u8 (nI x) := by
    intro u8 l P8 l2 l20 el h14 h47 h8 hk8
    refine ⟨v8 hx, ?_⟩
    rw [nI_clamp (show x < 2 ^ 31 by omega)]
    refine sai (v' := R) (by rw [h8 248 (by decide) (by decide) (by decide), e48, up_s]) P8 l2 (by omega) (fun u9 P9 g9 => ?_)
    rw [el] at P9
    refine k u9 P9 (by rw [g9.2 14 (by decide)]; exact h14) ?_ ?_ (by rw [g9.cells 247 (by decide)]; exact h47) ?_ ?_ ?_ (fun a ha hb hc hd => ?_) (fun k hk => ?_)
    · rw [g9.cells 245 (by decide), h8 245 (by decide) (by decide) (by decide), o7 245 (by decide) (by decide), g4.cells 245 (by decide), e5]
    · rw [g9.cells 246 (by decide), h8 246 (by decide) (by decide) (by decide), o7 246 (by decide) (by decide), g4.cells 246 (by decide), e6]
    · rw [g9.cells 248 (by decide), h8 248 (by decide) (by decide) (by decide), e48]
    · rw [g9.cells 249 (by decide), h8 249 (by decide) (by decide) (by decide), o7 249 (by decide) (by decide), g4.cells 249 (by decide), e9]
    · rw [g9.cells 241 (by decide), h8 241 (by decide) (by decide) (by decide), e41']
    · rw [g9.1 a ha hb, h8 a ha hb (by omega), q7 a ha hc (by omega)]
    · rw [g9.2 k (by omega), hk8 k (by omega) (by omega), z7 k (by omega)]
  have e243 : u7 243 x = u 243 x := by rw [q7 243 (by decide) (by decide) (by decide)]
  have e247 : u7 247 = u 247 := q7 247 (by decide) (by decide) (by decide)
  rcases hmt with e | e
  · subst e
    refine br_t rfl (sp_Mo_request hx P7 h1 (fun u8 P8 a8 b8 c8 d8 => br_f (by decide) ?_))
    rw [e243] at a8
    rw [e247] at b8
    exact fin u8 _ P8 (by rw [ph1_len]; decide) (by rw [ph1_len]; decide) (if_pos rfl).symm a8 b8 c8 d8
  · subst e
    refine br_f (by decide) (sp_Mo_request hx P7 h1 (fun u8 P8 a8 b8 c8 d8 => br_t rfl (sad (x' := 1) rfl P8 (by rw [ph1_len]; decide) (by rw [ph1_len]; decide) (fun u9 P9 g9 => ?_))))
    rw [e243] at a8
    rw [e247] at b8
    refine fin u9 _ P9 (by rw [pd_len, ph1_len]; exact (by decide : 2 < 4 + 1)) (by rw [pd_len, ph1_len]; exact (by decide : 4 + 1 ≤ 20)) ?_ (by rw [g9.2 14 (by decide)]; exact a8) (by rw [g9.cells 247 (by decide)]; exact b8) (fun a ha hb hc => by rw [g9.1 a ha hb, c8 a ha hb hc]) (fun k hk hk' => by rw [g9.2 k hk', d8 k hk hk'])
    rw [pd_pd (by rw [ph1_len]; decide)]
    exact (if_neg (by decide)).symm
theorem MS.set {u u' : pj_M} {s k : Nat} {L : List (Nat → Int32)} {σ : Nat → Int32} (h : MS u s L) (hk : k < L.length) (h2 : u' 242 s = u 242 s) (ho : ∀ a, 243 ≤ a → a ≤ 250 → ∀ q, q ≠ 4 * s + k → u' a q = u a q) (hσ : sR u' (4 * s + k) σ) : MS u' s (L.set k σ) := by
  refine ⟨by rw [h2, List.length_set]; exact h.1, by rw [List.length_set]; exact h.2.1, fun t ht => ?_⟩
  rw [List.length_set] at ht
  rw [sg_set hk]
  by_cases c : t = k
  · rw [if_pos c, c]; exact hσ
  · rw [if_neg c]
    exact (h.2.2 t ht).keep (fun a h1 h2 => ho a h1 h2 _ (by omega))
theorem MS.push {u u' : pj_M} {s : Nat} {L : List (Nat → Int32)} {σ : Nat → Int32} (h : MS u s L) (hl : L.length < 4) (h2 : u' 242 s = nI (L.length + 1)) (ho : ∀ a, 243 ≤ a → a ≤ 250 → ∀ q, q ≠ 4 * s + L.length → u' a q = u a q) (hσ : sR u' (4 * s + L.length) σ) : MS u' s (L ++ [σ]) := by
  have el : (L ++ [σ]).length = L.length + 1 := by rw [List.length_append]; rfl
  refine ⟨by rw [h2, el], by rw [el]; omega, fun t ht => ?_⟩
  rw [el] at ht
  by_cases c : t = L.length
  · rw [c, sg_hi]; exact hσ
  · rw [sg_lo (by omega)]
    exact (h.2.2 t (by omega)).keep (fun a h1 h2 => ho a h1 h2 _ (by omega))
