/-! The pure part: the reference's server: who is there, what is met -/
theorem q5 {P : Nat → Prop} (h0 : P 0) (h1 : P 1) (h2 : P 2) (h3 : P 3) (h4 : P 4) (h5 : P 5) : ∀ q, q ≤ 5 → P q := by
  intro q hq
  have : q = 0 ∨ q = 1 ∨ q = 2 ∨ q = 3 ∨ q = 4 ∨ q = 5 := by omega
  rcases this with e | e | e | e | e | e <;> subst e <;> assumption
theorem sp_Mo_53 {u : pj_M} {s x : Nat} {L : List (Nat → Int32)} {pk : List Int32} {K : Int32 → pj_M → Prop} (hs : s < 2) (h : MS u s L) (hl : L.length < 4) (hb : bX u) (hP : mP u pk) (h5 : pk.length = 5) (hx : x < 8) (ex : aT pk 4 = nI x) (k : ∀ u', (∀ σ0, MS u' s (L ++ [bmS (nwS σ0 (nI x) (u 240 s)) (mtd (u 220 x)) (rnd (u 219 x) (nI s) (u 241 s)) (awN pk)])) → bX u' → mP u' (bmM (mtd (u 220 x)) (awN pk) (rnd (u 219 x) (nI s) (u 241 s))) → u' 217 14 = u 240 s &&& 65535 → u' 240 s = u 240 s + 1 → u' 241 s = u 241 s + 1 → (∀ a, a ≠ 217 → a ≠ 227 → (a < 240 ∨ 250 < a) → u' a = u a) → (∀ k, (k < 14 ∨ 18 < k) → u' 217 k = u 217 k) → frV s u u' → K 2 u') : pb_Mo_identified_53 K u (nI s) := by
  have hy : 4 * s + L.length < 8 := by omega
  unfold pb_Mo_identified_53
  refine ⟨v2 hs, ?_⟩
  rw [c2 hs, h.1, i4, nI_add, nI_1]
  refine plt ⟨v2 hs, v2 hs, pu ⟨v2 hs, v8 hy, pu ⟨v2 hs, v2 hs, pu ⟨v48 (n := 4) (by decide), v8 hy, pu ⟨v8 hy, pu ⟨v48 (n := 4) (by decide), ?_⟩⟩⟩⟩⟩⟩
  rw [nI_clamp (show 4 * s + L.length < 2 ^ 31 by omega)]
  generalize hn : 4 * s + L.length = n at *
  have x1 : (pj_set u 242 s (nI (L.length + 1))) 240 s = u 240 s := by rw [ps_i (by decide)]
  rw [x1]
  have x2 : (pj_set (pj_set u 242 s (nI (L.length + 1))) 243 n (u 240 s &&& 65535)) 240 s = u 240 s := by rw [ps_i (by decide), ps_i (by decide)]
  rw [x2]
  have x3 : (pj_set (pj_set (pj_set u 242 s (nI (L.length + 1))) 243 n (u 240 s &&& 65535)) 240 s (u 240 s + 1)) 227 (4 : Int32).toNatClampNeg = nI x := by rw [ps_i (by decide), ps_i (by decide), ps_i (by decide)]; exact (hP.at (j := 4) (by omega)).trans ex
  rw [x3]
  have o6 : ∀ a, a ≠ 242 → a ≠ 243 → a ≠ 240 → a ≠ 244 → a ≠ 246 → (pj_set (pj_set (pj_set (pj_set (pj_set u 242 s (nI (L.length + 1))) 243 n (u 240 s &&& 65535)) 240 s (u 240 s + 1)) 244 n (nI x)) 246 n 0) a = u a := fun a h1 h2 h3 h4 h5 => by rw [ps_i h5, ps_i h4, ps_i h3, ps_i h2, ps_i h1]
  have e42 : (pj_set (pj_set (pj_set (pj_set (pj_set u 242 s (nI (L.length + 1))) 243 n (u 240 s &&& 65535)) 240 s (u 240 s + 1)) 244 n (nI x)) 246 n 0) 242 s = nI (L.length + 1) := by rw [ps_i (by decide), ps_i (by decide), ps_i (by decide), ps_i (by decide), ps_s]
  have e43 : (pj_set (pj_set (pj_set (pj_set (pj_set u 242 s (nI (L.length + 1))) 243 n (u 240 s &&& 65535)) 240 s (u 240 s + 1)) 244 n (nI x)) 246 n 0) 243 = up (u 243) n (u 240 s &&& 65535) := by rw [ps_i (by decide), ps_i (by decide), ps_i (by decide), st_up, ps_i (by decide)]
  have e40 : (pj_set (pj_set (pj_set (pj_set (pj_set u 242 s (nI (L.length + 1))) 243 n (u 240 s &&& 65535)) 240 s (u 240 s + 1)) 244 n (nI x)) 246 n 0) 240 s = u 240 s + 1 := by rw [ps_i (by decide), ps_i (by decide), ps_s]
  have e44 : (pj_set (pj_set (pj_set (pj_set (pj_set u 242 s (nI (L.length + 1))) 243 n (u 240 s &&& 65535)) 240 s (u 240 s + 1)) 244 n (nI x)) 246 n 0) 244 = up (u 244) n (nI x) := by rw [ps_i (by decide), st_up, ps_i (by decide), ps_i (by decide), ps_i (by decide)]
  have e46 : (pj_set (pj_set (pj_set (pj_set (pj_set u 242 s (nI (L.length + 1))) 243 n (u 240 s &&& 65535)) 240 s (u 240 s + 1)) 244 n (nI x)) 246 n 0) 246 = up (u 246) n 0 := by rw [st_up, ps_i (by decide), ps_i (by decide), ps_i (by decide), ps_i (by decide)]
  have f6 : frV s u (pj_set (pj_set (pj_set (pj_set (pj_set u 242 s (nI (L.length + 1))) 243 n (u 240 s &&& 65535)) 240 s (u 240 s + 1)) 244 n (nI x)) 246 n 0) := (frV.s (Or.inl ⟨by decide, by decide⟩)).tr ((frV.x (Or.inl ⟨by decide, by decide⟩) (by omega) (by omega)).tr ((frV.s (Or.inl ⟨by decide, by decide⟩)).tr ((frV.x (Or.inl ⟨by decide, by decide⟩) (by omega) (by omega)).tr (frV.x (Or.inl ⟨by decide, by decide⟩) (by omega) (by omega)))))
  generalize pj_set (pj_set (pj_set (pj_set (pj_set u 242 s (nI (L.length + 1))) 243 n (u 240 s &&& 65535)) 240 s (u 240 s + 1)) 244 n (nI x)) 246 n 0 = u6 at o6 e42 e43 e40 e44 e46 f6 ⊢
  have P6 : mP u6 pk := hP.keep (by rw [o6 217 (by decide) (by decide) (by decide) (by decide) (by decide)]) (o6 227 (by decide) (by decide) (by decide) (by decide) (by decide))
  have x6 : u6 227 (4 : Int32).toNatClampNeg = nI x := (P6.at (j := 4) (by omega)).trans ex
  rw [x6]
  refine ⟨v8 hx, ?_⟩
  rw [nI_clamp (show x < 2 ^ 31 by omega), o6 220 (by decide) (by decide) (by decide) (by decide) (by decide)]
  have fin : ∀ mt : Int32, mt = mtd (u 220 x) → (mt = 1 ∨ mt = 2) → pb_Mo_identified_143 K u6 mt (nI n) (nI s) := by
    intro mt hmt h12
    refine sp_Mo_begin (y := x) hs hy hx (by rw [e44, up_s]) h12 P6 (by omega) (fun u7 P7 a7 b5 b6 b7 b8 b9 b41 o7 z7 => ?_)
    rw [o6 219 (by decide) (by decide) (by decide) (by decide) (by decide), o6 241 (by decide) (by decide) (by decide) (by decide) (by decide)] at P7 b8
    rw [o6 241 (by decide) (by decide) (by decide) (by decide) (by decide)] at b41
    rw [hmt] at P7 b5 b6
    rw [e46, up_s] at b6
    have arr : ∀ a, 243 ≤ a → a ≤ 250 → ∀ q, q ≠ n → u7 a q = u a q := by
      intro a h1 h2 q hq
      have hc : a = 243 ∨ a = 244 ∨ a = 245 ∨ a = 246 ∨ a = 247 ∨ a = 248 ∨ a = 249 ∨ a = 250 := by omega
      rcases hc with e | e | e | e | e | e | e | e <;> subst e
      · rw [o7 243 (by decide) (by decide) (by decide) (by decide), e43, up_k hq]
      · rw [o7 244 (by decide) (by decide) (by decide) (by decide), e44, up_k hq]
      · rw [b5, up_k hq, o6 245 (by decide) (by decide) (by decide) (by decide) (by decide)]
      · rw [b6, up_k hq, up_k hq]
      · rw [b7, up_k hq, o6 247 (by decide) (by decide) (by decide) (by decide) (by decide)]
      · rw [b8, up_k hq, o6 248 (by decide) (by decide) (by decide) (by decide) (by decide)]
      · rw [b9, up_k hq, o6 249 (by decide) (by decide) (by decide) (by decide) (by decide)]
      · rw [o7 250 (by decide) (by decide) (by decide) (by decide), o6 250 (by decide) (by decide) (by decide) (by decide) (by decide)]
    have f7 : frV s u6 u7 := by
      refine ⟨fun a h1 h2 h3 h4 h5 h6 => o7 a h1 h4 (by omega) (by omega), fun k h1 h2 => z7 k (by omega), fun a q h hq => ?_, fun a q h hq => ?_, fun q _ => by rw [o7 257 (by decide) (by decide) (by decide) (by decide)], fun q _ => by rw [o7 277 (by decide) (by decide) (by decide) (by decide)]⟩
      · by_cases c : a = 241
        · rw [c, b41, up_k hq, o6 241 (by decide) (by decide) (by decide) (by decide) (by decide)]
        · rw [o7 a (by omega) (by omega) c (by omega)]
      · by_cases c : 252 ≤ a
        · rw [o7 a (by omega) (by omega) (by omega) (by omega)]
        · rw [arr a (by omega) (by omega) q (by omega)]
          exact (f6.2.2.2.1 a q (by omega) hq).symm
    refine k u7 (fun σ0 => MS.push h hl (by rw [o7 242 (by decide) (by decide) (by decide) (by decide), e42]) (fun a h1 h2 q hq => arr a h1 h2 q (by omega)) ?_) (fun q hq => ?_) P7 ?_ ?_ ?_ (fun a h1 h2 h3 => ?_) (fun k hk => ?_) (f6.tr f7)
    · rw [hn]
      refine ⟨q5 ?_ ?_ ?_ ?_ ?_ ?_, fun _ => ⟨?_, fun z => absurd rfl z⟩⟩
      · rw [o7 243 (by decide) (by decide) (by decide) (by decide), e43, up_s]; rfl
      · rw [o7 244 (by decide) (by decide) (by decide) (by decide), e44, up_s]; rfl
      · rw [b5, up_s]; rfl
      · rw [b6, up_s]; rfl
      · rw [b7, up_s]; rfl
      · rw [b8, up_s]; rfl
      · rw [b9, up_s]; rfl
    · by_cases c : q = n
      · rw [c, b9, up_s]; exact Or.inl rfl
      · rw [arr 249 (by decide) (by decide) q c]; exact hb q hq
    · rw [a7, e43, up_s]
    · rw [o7 240 (by decide) (by decide) (by decide) (by decide), e40]
    · rw [b41, up_s]
    · rw [o7 a h1 h2 (by omega) (by omega), o6 a (by omega) (by omega) (by omega) (by omega) (by omega)]
    · rw [z7 k hk, o6 217 (by decide) (by decide) (by decide) (by decide) (by decide)]
  refine br_c (fun e => fin 2 (if_pos e).symm (Or.inr rfl)) (fun e => fin 1 (if_neg e).symm (Or.inl rfl))
theorem sp_Mo_identified {u : pj_M} {s : Nat} {L : List (Nat → Int32)} {pk : List Int32} {K : Int32 → pj_M → Prop} (hs : s < 2) (h : MS u s L) (hb : bX u) (hP : mP u pk) (pb : bl pk) (kf : (¬ ∃ x, pk.length = 5 ∧ x < 8 ∧ aT pk 4 = nI x ∧ ¬ u 218 x = 0) → K 0 u) (k : ∀ x u', (pk.length = 5 ∧ x < 8 ∧ aT pk 4 = nI x ∧ ¬ u 218 x = 0) → (∀ σ0, MS u' s ((if L.length = 4 then L.eraseIdx 0 else L) ++ [bmS (nwS σ0 (nI x) (u 240 s)) (mtd (u 220 x)) (rnd (u 219 x) (nI s) (u 241 s)) (awN pk)])) → bX u' → mP u' (bmM (mtd (u 220 x)) (awN pk) (rnd (u 219 x) (nI s) (u 241 s))) → u' 217 14 = u 240 s &&& 65535 → u' 240 s = u 240 s + 1 → u' 241 s = u 241 s + 1 → (∀ a, a ≠ 217 → a ≠ 227 → (a < 240 ∨ 250 < a) → u' a = u a) → (∀ k, (k < 14 ∨ 18 < k) → u' 217 k = u 217 k) → frV s u u' → K 2 u') : pw_Mo_identified u (nI s) K := by
  have n4 := h.2.1
  refine br_c (fun e => ?_) (fun e => kf (fun ⟨x, z, _⟩ => e (by rw [hP.1, z]; rfl)))
  rw [hP.1] at e
  have h5 : pk.length = 5 := (nI_e 5 hP.lt (by decide)).mp e
  obtain ⟨z, hz, ez⟩ := by_N (pb.at (show 4 < pk.length by omega))
  have x4 : u 227 (4 : Int32).toNatClampNeg = nI z := (hP.at (j := 4) (by omega)).trans ez
  refine ⟨v48 (n := 4) (by decide), ?_⟩
  rw [x4]
  refine br_c (fun e7 => kf (fun ⟨x, _, z8, zx, _⟩ => ?_)) (fun e7 => ?_)
  · have : x = z := (nI_eq (by omega) (by omega)).mp (zx.symm.trans ez)
    exact nI_nlt (a := 7) (b := z) (by omega) (by omega) e7
  have z8 : z < 8 := Nat.lt_of_not_le (fun q => e7 (nI_lt (a := 7) (by omega) (by omega)))
  refine ⟨v48 (n := 4) (by decide), ?_⟩
  rw [x4]
  refine ⟨v8 z8, ?_⟩
  rw [nI_clamp (show z < 2 ^ 31 by omega)]
  refine br_c (fun e18 => kf (fun ⟨x, _, _, zx, zn⟩ => ?_)) (fun e18 => ⟨v2 hs, ?_⟩)
  · have : x = z := (nI_eq (by omega) (by omega)).mp (zx.symm.trans ez)
    rw [this] at zn
    exact zn e18
  rw [c2 hs, h.1]
  have hyp : pk.length = 5 ∧ z < 8 ∧ aT pk 4 = nI z ∧ ¬ u 218 z = 0 := ⟨h5, z8, ez, e18⟩
  refine br_c (fun e4 => ?_) (fun e4 => ?_)
  · have hl4 : L.length = 4 := (nI_e 4 (by omega) (by decide)).mp e4
    unfold pb_Mo_identified_45
    rw [i4, show 4 * s = 4 * s + 0 by omega]
    refine sp_Mo_endSession hs h (by omega) hb (fun u1 M1 b1 o1 f1 => ?_)
    have hlen : (L.eraseIdx 0).length = L.length - 1 := List.length_eraseIdx_of_lt (by omega)
    refine sp_Mo_53 hs M1 (by omega) b1 (hP.keep (by rw [o1 217 (by decide)]) (o1 227 (by decide))) h5 z8 ez (fun u' A B C D E F G H I => k z u' hyp ?_ B ?_ ?_ ?_ ?_ (fun a h1 h2 h3 => (G a h1 h2 h3).trans (o1 a (by omega))) (fun k hk => (H k hk).trans (by rw [o1 217 (by decide)])) (f1.tr I))
    · intro σ0
      have := A σ0
      rw [o1 240 (by decide), o1 241 (by decide), o1 219 (by decide), o1 220 (by decide)] at this
      rw [if_pos hl4]; exact this
    · rw [o1 241 (by decide), o1 219 (by decide), o1 220 (by decide)] at C
      exact C
    · rw [o1 240 (by decide)] at D; exact D
    · rw [o1 240 (by decide)] at E; exact E
    · rw [o1 241 (by decide)] at F; exact F
  · have hl4 : ¬ L.length = 4 := fun q => e4 (by rw [q]; rfl)
    refine sp_Mo_53 hs h (by omega) hb hP h5 z8 ez (fun u' A B C D E F G H I => k z u' hyp ?_ B C D E F G H I)
    rw [if_neg hl4]; exact A
