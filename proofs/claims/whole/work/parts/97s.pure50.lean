/-! The pure part: link, power, alter -/
theorem lw_link {u : pj_M} {x1 x2 : Int32} {K : Int32 → Int32 → pj_M → Prop} (R : Rel u) (hx2 : x2 = 0 ∨ x2 = 1) (k : ∀ r u', Rel u' → K r r u') : pw_PG_link u x1 x2 fun r u1 => pw_Mo_link u1 x1 x2 fun r' u2 => K r r' u2 := by
  have R0 := R
  obtain ⟨ms, C, hb, hm, hw⟩ := R
  refine sp_PG_isPort (fun p hp e => br_f (by decide) ?_) (fun hn => br_t rfl ?_)
  rotate_left
  · rcases hn with h | ⟨t, ht, h2, e⟩
    · exact br_t h (k _ u R0)
    · subst e
      exact br_f (nn0 ht) (br_t (nI_lt (a := 3) (by omega) ht) (k _ u R0))
  subst e
  have n3 : ¬ 3 < nI p := nI_nlt (a := 3) (b := p) (by omega) (by decide)
  have h0 : ¬ nI p < 0 := nn0 (by omega)
  have P := C.2.2.1 p hp
  obtain ⟨la, as, ⟨a1, a2, a3, a4, a5, a6, a7⟩, rl, rq⟩ := P
  have t4 : u 258 p = u (185 + 7 * p) 4 := (a1 4 (by decide) (by decide) (by decide) (by decide)).symm
  refine ⟨v4 hp, ?_⟩
  rw [c4 hp]
  refine br_c (fun y => br_f h0 (br_f n3 ⟨v4 hp, br_t ?_ (k _ u R0)⟩)) (fun y => br_c (fun z => ⟨v4 hp, ?_⟩) (fun z => ⟨v4 hp, ?_⟩))
  · rw [c4 hp, t4]; exact y
  · -- unplugged
    subst z
    rw [c4 hp]
    refine sp_Sw_unplug (by omega) (fun c' hcl ec oc => ?_)
    have ocr : ∀ a, 217 ≤ a → c' a = u a := fun a h => oc a (by omega) (by omega)
    have e258 : c' 258 p = u (185 + 7 * p) 4 := by rw [ocr 258 (by decide)]; exact t4
    refine br_f h0 (br_f n3 ⟨v4 hp, br_f ?_ ⟨v4 hp, pu (br_t rfl ?_)⟩⟩)
    · rw [c4 hp, e258]; exact y
    rw [c4 hp, nr0]
    have o1 : ∀ a, a ≠ 258 → (pj_set c' 258 p 0) a = c' a := fun a h => ps_i h
    have e1 : rs (pj_set c' 258 p 0) p = up (rs u p) 4 0 := by rw [rs_4, rs_keep (fun a h _ _ _ _ => ocr a (by omega))]
    have f1 : frP p c' (pj_set c' 258 p 0) := frP.set (by decide) (by decide) (by decide)
    generalize pj_set c' 258 p 0 = u1 at o1 e1 f1 ⊢
    refine sp_Mo_close hp (fun u2 c2' e2 o2 f2 => ⟨v4 hp, pu ⟨v4 hp, pu ⟨v4 hp, pu ?_⟩⟩⟩)
    rw [c4 hp, nr0]
    have o3 : ∀ a, a ≠ 259 → a ≠ 271 → a ≠ 264 → (pj_set (pj_set (pj_set u2 259 p 0) 271 p (-1)) 264 p 0) a = u2 a := fun a h1 h2 h3 => by rw [ps_i h3, ps_i h2, ps_i h1]
    have e3 : rs (pj_set (pj_set (pj_set u2 259 p 0) 271 p (-1)) 264 p 0) p = up (up (up (up (up (rs u p) 4 0) 6 0) 5 0) 13 (-1)) 8 0 := by rw [rs_8, rs_13, rs_5, e2, e1]
    have f3 : frP p u2 (pj_set (pj_set (pj_set u2 259 p 0) 271 p (-1)) 264 p 0) := (frP.set (by decide) (by decide) (by decide)).tr ((frP.set (by decide) (by decide) (by decide)).tr (frP.set (by decide) (by decide) (by decide)))
    generalize pj_set (pj_set (pj_set u2 259 p 0) 271 p (-1)) 264 p 0 = u3 at o3 e3 f3 ⊢
    have f : frP p c' u3 := f1.tr (f2.tr f3)
    have RCc : RC u c' := C.keep (fun _ _ => rfl) (gr.of ocr)
    have c2'' : ∀ j, j < 8 → u3 278 j = clS (u 278) (nI p) j := fun j hj => by rw [o3 278 (by decide) (by decide) (by decide), c2' j hj, o1 278 (by decide), ocr 278 (by decide)]
    have q : ∀ a, (a = 217 ∨ a = 277) → u3 a = u a := fun a h => by rw [o3 a (by omega) (by omega) (by omega), o2 a (by omega) (by omega), o1 a (by omega), ocr a (by omega)]
    rw [a2] at hcl
    have W' : RW c' u3 := (C.2.2.2.1).cl (oc 170 (by decide) (by omega)) hcl c2'' (by rw [q 217 (Or.inl rfl)]) (by rw [q 217 (Or.inl rfl)]) (by rw [q 277 (Or.inr rfl)]) (by rw [q 217 (Or.inl rfl)])
    have P' : PP c' u3 p := by
      refine pp_mk0 (la := []) ec e3 ?_ a2 ⟨Or.inl rfl, Or.inl rfl⟩ a4 (Or.inl rfl) (Or.inl rfl) (Or.inl rfl) rfl rfl
      unfold ugS
      exact cm_up (cm_r (cm_l (cm_up (cm_up (cm_up a1 rfl) rfl) rfl) (Or.inl rfl)) (Or.inr (Or.inl rfl))) rfl
    refine k 1 u3 (Rel.mk (c' := c') (RCc.port hp P' W' (C.2.2.2.2.2.2.2.2.step C.2.2.2.1 W' (cl_ln hcl)) (fun a h1 h2 h3 => oc a (by omega) (by omega)) f) (hb.keep (fun a h1 h2 _ _ => oc a (by omega) (by omega))) (hm.of (fun a h1 h2 => ?_)) hw (fun a ha => ?_))
    · rw [o3 a (by omega) (by omega) (by omega), o2 a (by omega) (by omega), o1 a (by omega), ocr a (by omega)]
    · rw [o3 a (by omega) (by omega) (by omega), o2 a (by omega) (by omega), o1 a (by omega)]
  · -- plugged
    have e1' : x2 = 1 := hx2.resolve_left z
    subst e1'
    rw [c4 hp]
    refine sp_Sw_plug (by omega) hb (fun c' m' ec r' oc => ?_)
    have ocr : ∀ a, 217 ≤ a → c' a = u a := fun a h => oc a (by omega) (by omega) (by omega) (by omega)
    have e258 : c' 258 p = u (185 + 7 * p) 4 := by rw [ocr 258 (by decide)]; exact t4
    refine br_f h0 (br_f n3 ⟨v4 hp, br_f ?_ ⟨v4 hp, pu (br_f (by decide) ?_)⟩⟩)
    · rw [c4 hp, e258]; exact y
    rw [c4 hp, nr1]
    have o1 : ∀ a, a ≠ 258 → (pj_set c' 258 p 1) a = c' a := fun a h => ps_i h
    have e1 : rs (pj_set c' 258 p 1) p = up (rs u p) 4 1 := by rw [rs_4, rs_keep (fun a h _ _ _ _ => ocr a (by omega))]
    have f1 : frP p c' (pj_set c' 258 p 1) := frP.set (by decide) (by decide) (by decide)
    generalize pj_set c' 258 p 1 = u1 at o1 e1 f1 ⊢
    refine sp_Mo_beginPort hp (hm.of (fun a h1 h2 => (o1 a (by omega)).trans (ocr a (by omega)))) (fun u2 m2 e2 ar2 k2 f2 s2 => ?_)
    rw [e1, up_k (show (17 : Nat) ≠ 4 by decide), ← a1 17 (by decide) (by decide) (by decide) (by decide)] at m2
    rw [e1] at e2
    rw [e1] at ar2
    rw [a2] at m'
    have f : frP p c' u2 := f1.tr f2
    have RCc : RC u c' := C.keep (fun _ _ => rfl) (gr.of ocr)
    have W' : RW c' u2 := (C.2.2.2.1).same (oc 170 (by omega) (by omega) (by omega) (by omega)) (oc 172 (by omega) (by omega) (by omega) (by omega)) ((swK.of (fun a h => (o1 a (by omega)).trans (ocr a (by omega)))).tr s2)
    have P' : PP c' u2 p := pp_begin (σ := up (u (185 + 7 * p)) 4 1) (τ := up (rs u p) 4 1) (cm_up a1 rfl) a2 rfl a3.2 a4.1 ec r' e2 ar2
    refine k 1 u2 (Rel.mk (c' := c') (RCc.port hp P' W' (C.2.2.2.2.2.2.2.2.step C.2.2.2.1 W' (sm_ln (oc 172 (by omega) (by omega) (by omega) (by omega)))) (fun a h1 h2 h3 => oc a (by omega) (by omega) (by omega) (by omega)) f) m' m2 (hw.add (ok01 (Or.inr rfl) hp rfl (bl_0 bl_ph1))) (fun a ha => ?_))
    rw [f2.1 a (by omega) (by omega) (by omega) (by omega) (by omega), o1 a (by omega)]
theorem lw_power {u : pj_M} {x1 x2 : Int32} {K : Int32 → Int32 → pj_M → Prop} (R : Rel u) (hx2 : x2 = 0 ∨ x2 = 1) (k : ∀ r u', Rel u' → K r r u') : pw_PG_power u x1 x2 fun r u1 => pw_Mo_power u1 x1 x2 fun r' u2 => K r r' u2 := by
  have R0 := R
  obtain ⟨ms, C, hb, hm, hw⟩ := R
  refine sp_PG_isServer (fun s hs e => br_f (by decide) ?_) (fun hn => br_t rfl ?_)
  rotate_left
  · rcases hn with h | ⟨t, ht, h2, e⟩
    · exact br_t h (k _ u R0)
    · subst e
      exact br_f (nn0 ht) (br_t (nI_lt (a := 1) (by omega) ht) (k _ u R0))
  subst e
  have n1 : ¬ 1 < nI s := nI_nlt (a := 1) (b := s) (by omega) (by decide)
  have h0 : ¬ nI s < 0 := nn0 (by omega)
  obtain ⟨L, A, hC, hM, hI, hCA, hMA, hdK, e0, e1, hup, e15, e16⟩ := C.2.2.2.2.1 s hs
  refine ⟨v2 hs, ?_⟩
  rw [c2 hs]
  refine br_c (fun y => br_f h0 (br_f n1 ⟨v2 hs, br_f ?_ (k _ u R0)⟩)) (fun y => ⟨v2 hs, ?_⟩)
  · rw [c2 hs]
    rcases hup with z | z
    · rw [z.2, ← y, z.1]; decide
    · rw [z.2, ← y, z.1]; decide
  rw [c2 hs]
  have e39 : u 239 s = x2 := by
    rcases hup with z | z
    · rw [z.1] at y
      rcases hx2 with w | w
      · exact absurd w.symm y
      · rw [z.2, w]
    · rw [z.1] at y
      rcases hx2 with w | w
      · rw [z.2, w]
      · exact absurd w.symm y
  unfold pw_Sv_turn pb_Sv_turn_0
  refine ⟨hx2, pu (pu (pu (pu ?_)))⟩
  have oc : ∀ a, a ≠ 112 + 29 * s → (pj_set (pj_set (pj_set (pj_set u (112 + 29 * s) 13 x2) (112 + 29 * s) 14 0) (112 + 29 * s) 17 0) (112 + 29 * s) 18 0) a = u a := fun a h => by rw [ps_i h, ps_i h, ps_i h, ps_i h]
  have ec : (pj_set (pj_set (pj_set (pj_set u (112 + 29 * s) 13 x2) (112 + 29 * s) 14 0) (112 + 29 * s) 17 0) (112 + 29 * s) 18 0) (112 + 29 * s) = up (up (up (up (u (112 + 29 * s)) 13 x2) 14 0) 17 0) 18 0 := by rw [st_up, st_up, st_up, st_up]
  generalize pj_set (pj_set (pj_set (pj_set u (112 + 29 * s) 13 x2) (112 + 29 * s) 14 0) (112 + 29 * s) 17 0) (112 + 29 * s) 18 0 = c' at oc ec ⊢
  have ocr : ∀ a, 217 ≤ a → c' a = u a := fun a h => oc a (by omega)
  have main : ∀ nv : Int32, ((x2 = 0 ∧ nv = 1) ∨ (x2 = 1 ∧ nv = 0)) → pb_Mo_power_35 (fun r' u2 => K 1 r' u2) c' (nI s) nv (nI s) := by
    intro nv hnv
    have nb : nv = 0 ∨ nv = 1 := by
      rcases hnv with z | z
      · exact Or.inr z.2
      · exact Or.inl z.2
    refine ⟨v2 hs, pu ⟨v2 hs, pu ⟨v2 hs, pu ?_⟩⟩⟩
    rw [c2 hs, nrb nb]
    have o3 : ∀ a, a ≠ 239 → a ≠ 242 → a ≠ 251 → (pj_set (pj_set (pj_set c' 239 s nv) 242 s 0) 251 s 0) a = c' a := fun a h1 h2 h3 => by rw [ps_i h3, ps_i h2, ps_i h1]
    have g39 : (pj_set (pj_set (pj_set c' 239 s nv) 242 s 0) 251 s 0) 239 = up (u 239) s nv := by rw [ps_i (by decide), ps_i (by decide), st_up, ocr 239 (by decide)]
    have g42 : (pj_set (pj_set (pj_set c' 239 s nv) 242 s 0) 251 s 0) 242 = up (u 242) s 0 := by rw [ps_i (by decide), st_up, ps_i (by decide), ocr 242 (by decide)]
    have g51 : (pj_set (pj_set (pj_set c' 239 s nv) 242 s 0) 251 s 0) 251 = up (u 251) s 0 := by rw [st_up, ps_i (by decide), ps_i (by decide), ocr 251 (by decide)]
    show K 1 1 (pj_set (pj_set (pj_set c' 239 s nv) 242 s 0) 251 s 0)
    generalize pj_set (pj_set (pj_set c' 239 s nv) 242 s 0) 251 s 0 = u3 at o3 g39 g42 g51 ⊢
    have q : ∀ a, 217 ≤ a → a ≠ 239 → a ≠ 242 → a ≠ 251 → u3 a = u a := fun a h1 h2 h3 h4 => (o3 a h2 h3 h4).trans (ocr a h1)
    obtain ⟨r1, r2, r3, r4, r5, r6, r7, r8, r9⟩ := C
    have cc : ∀ a, (a < 4 ∨ (90 ≤ a ∧ a < 215)) → a ≠ 112 + 29 * s → c' a = u a := fun a _ h => oc a h
    refine k 1 u3 (Rel.mk (c' := c') ⟨r1.keep (cc _ (by decide) (by omega)) (cc _ (by decide) (by omega)) (q _ (by decide) (by decide) (by decide) (by decide)) (q _ (by decide) (by decide) (by decide) (by decide)) (q _ (by decide) (by decide) (by decide) (by decide)), fun h hh => (r2 h hh).keep (fun a h1 h2 => cc a (by omega) (by omega)) (fun a h1 h2 _ => by rw [q a (by omega) (by omega) (by omega) (by omega)]) (fun j _ => by rw [q 232 (by decide) (by decide) (by decide) (by decide)]), fun p hp => (r3 p hp).keep (fun a h1 h2 => cc a (by omega) (by omega)) (rs_keep (fun a h _ _ _ _ => q a (by omega) (by omega) (by omega) (by omega))) (fun j _ => by rw [q 263 (by decide) (by decide) (by decide) (by decide)]) (fun j _ => by rw [q 276 (by decide) (by decide) (by decide) (by decide)]) (by rw [q 217 (by decide) (by decide) (by decide) (by decide)]), r4.keep (cc _ (by decide) (by omega)) (cc _ (by decide) (by omega)) (by rw [q 217 (by decide) (by decide) (by decide) (by decide)]) (by rw [q 217 (by decide) (by decide) (by decide) (by decide)]) (by rw [q 217 (by decide) (by decide) (by decide) (by decide)]) (by rw [q 277 (by decide) (by decide) (by decide) (by decide)]) (q _ (by decide) (by decide) (by decide) (by decide)), fun s' hs' => ?_, fun x hx => by rw [q 249 (by decide) (by decide) (by decide) (by decide)]; exact r6 x hx, r7.keep (cc _ (by decide) (by omega)) (cc _ (by decide) (by omega)) (by rw [q 217 (by decide) (by decide) (by decide) (by decide)]) (q _ (by decide) (by decide) (by decide) (by decide)), ⟨?_, ?_⟩, fun j hj => by rw [q 278 (by decide) (by decide) (by decide) (by decide)]; exact r9 j hj⟩ (hb.keep (fun a h1 h2 _ _ => oc a (by omega))) (hm.of (fun a h1 h2 => q a (by omega) (by omega) (by omega) (by omega))) hw (fun a ha => o3 a (by omega) (by omega) (by omega)))
    · by_cases es : s' = s
      · subst es
        obtain ⟨ρ, hρ⟩ := hC
        have q0 : u3 217 0 = u 217 0 := by rw [q 217 (by decide) (by decide) (by decide) (by decide)]
        refine ⟨[], [], ⟨ρ, ⟨hρ.1.1, fun t ht => ?_⟩, hρ.2.1, ?_, by simp, fun t ht => absurd ht (Nat.not_lt_zero t)⟩, ⟨?_, by simp, fun t ht => absurd ht (Nat.not_lt_zero t)⟩, fun t ht => absurd ht (Nat.not_lt_zero t), ⟨?_, by simp, 0, by decide, ?_, fun _ => rfl, fun t ht => absurd ht (Nat.not_lt_zero t)⟩, ⟨?_, by simp, fun t ht => absurd ht (Nat.not_lt_zero t)⟩, fun t t' ht => absurd ht (Nat.not_lt_zero t), ?_, ?_, ?_, ?_, ?_⟩
        · rw [oc _ (by omega)]; exact hρ.1.2 t ht
        · rw [ec, up_k (by decide), up_k (by decide), up_s]; rfl
        · rw [g42, up_s]; rfl
        · rw [ec, up_k (by decide), up_s]; rfl
        · rw [ec, up_s]; rfl
        · rw [g51, up_s]; rfl
        · rw [ec, up_k (by decide), up_k (by decide), up_k (by decide), up_k (by decide)]; exact e0
        · rw [ec, up_k (by decide), up_k (by decide), up_k (by decide), up_k (by decide), q0]; exact e1
        · rw [ec, up_k (by decide), up_k (by decide), up_k (by decide), up_s, g39, up_s]
          rcases hnv with z | z
          · exact Or.inl z
          · exact Or.inr z
        · rw [ec, up_k (by decide), up_k (by decide), up_k (by decide), up_k (by decide), q 240 (by decide) (by decide) (by decide) (by decide)]; exact e15
        · rw [ec, up_k (by decide), up_k (by decide), up_k (by decide), up_k (by decide), q 241 (by decide) (by decide) (by decide) (by decide)]; exact e16
      · obtain ⟨L', A', R'⟩ := r5 s' hs'
        refine ⟨L', A', R'.keep (fun a h1 h2 => oc a (by omega)) (fun a h => ?_) (fun a q' h _ _ => by rw [q a (by omega) (by omega) (by omega) (by omega)]) (fun q' _ _ => by rw [q 257 (by decide) (by decide) (by decide) (by decide)]) (by rw [q 217 (by decide) (by decide) (by decide) (by decide)])⟩
        by_cases c1 : a = 239
        · rw [c1, g39, up_k es]
        · by_cases c2 : a = 242
          · rw [c2, g42, up_k es]
          · by_cases c3 : a = 251
            · rw [c3, g51, up_k es]
            · rw [q a (by omega) c1 c2 c3]
    · rw [cc 91 (by decide) (by omega), cc 96 (by decide) (by omega), cc 101 (by decide) (by omega), cc 106 (by decide) (by omega), q 277 (by decide) (by decide) (by decide) (by decide)]; exact r8.1
    · have v19 : ∀ b, (b = 112 ∨ b = 141) → c' b 19 = u b 19 := by
        intro b hb'
        by_cases eb : b = 112 + 29 * s
        · rw [eb, ec, up_k (by decide), up_k (by decide), up_k (by decide), up_k (by decide)]
        · rw [oc b eb]
      rw [v19 112 (Or.inl rfl), v19 141 (Or.inr rfl), q 277 (by decide) (by decide) (by decide) (by decide)]; exact r8.2
  refine br_f h0 (br_f n1 ⟨v2 hs, br_t ?_ ?_⟩)
  · rw [c2 hs, ocr 239 (by decide)]; exact e39
  refine br_c (fun z => main 1 (Or.inl ⟨z, rfl⟩)) (fun z => main 0 (Or.inr ⟨hx2.resolve_left z, rfl⟩))
theorem mg_set {ms : List mT} {k t : Nat} {x : mT} (h : k < ms.length) : mg (ms.set k x) t = if t = k then x else mg ms t := by
  unfold mg
  rw [List.getD_eq_getElem?_getD, List.getD_eq_getElem?_getD]
  by_cases e : t = k
  · subst e
    rw [if_pos rfl, List.getElem?_set_self h]
    rfl
  · rw [if_neg e, List.getElem?_set_ne (Ne.symm e)]
theorem xor_b {a b : Int32} (ha : a &&& 255 = a) (hb : b &&& 255 = b) : (a ^^^ b) &&& 255 = a ^^^ b := by
  apply b_ext
  intro i hi
  rw [b_and, b_xor, b_255]
  by_cases h : i < 8
  · simp [h]
  · rw [by_31 ha i (by omega), by_31 hb i (by omega)]
    simp
theorem lw_alter {u : pj_M} {x1 x2 x3 : Int32} {K : Int32 → Int32 → pj_M → Prop} (R : Rel u) (k : ∀ r u', Rel u' → K r r u') : pw_PG_alter u x1 x2 x3 fun r u1 => pw_Mo_alter u1 x1 x2 x3 fun r' u2 => K r r' u2 := by
  have R0 := R
  obtain ⟨ms, C, hb, hm, hw⟩ := R
  have l40 := hm.2.1
  have no1 : (¬ ∃ t, t < ms.length ∧ x1 = nI t) → pw_Mo_alter u x1 x2 x3 fun r' u2 => K 0 r' u2 := by
    intro hn
    refine br_c (fun _ => k _ u R0) (fun h1 => ?_)
    obtain ⟨t, ht, e⟩ := nI_of h1
    refine br_t (Decidable.byContradiction (fun h2 => hn ⟨t, ?_, e⟩)) (k _ u R0)
    rw [hm.1, e] at h2
    exact Nat.lt_of_not_le (fun z => h2 (nI_le z ht))
  refine sp_Ma_has hb (fun t ht e => br_f (by decide) ?_) (fun hn => br_t rfl (no1 hn))
  subst e
  have t31 : t < 2 ^ 31 := by omega
  obtain ⟨ρ, hr, h4, hn, he⟩ := hb
  have hb : mb u ms := ⟨ρ, hr, h4, hn, he⟩
  obtain ⟨a1, a2, a3, a4⟩ := hr.1 t (by omega)
  obtain ⟨w1, w2, w3⟩ := he t ht
  obtain ⟨e1, e2, e3, e4, e5⟩ := hm.2.2 t ht
  obtain ⟨okw, okb⟩ := hw t ht
  have h0 : ¬ nI t < 0 := nn0 t31
  have hl : ¬ u 217 4 ≤ nI t := by rw [hm.1]; exact nI_ge ht (by omega)
  refine br_c (fun y => br_f h0 (br_f hl (br_t y (k _ u R0)))) (fun y => ⟨v40 (by omega), ?_⟩)
  obtain ⟨j, hj, ej⟩ := nI_of y
  subst ej
  have g7 : (u 7 (nI t).toNatClampNeg).toNatClampNeg = ρ t := by rw [nI_clamp t31, a1]; exact nI_clamp (by omega)
  rw [g7]
  refine plt ⟨row_T _ a3 a2 a4, ?_⟩
  rw [w3.1]
  refine br_c (fun jl => ⟨v40 (by omega), ?_⟩) (fun jl => br_f h0 (br_f hl (br_f y ⟨v40 (by omega), ?_⟩)))
  rotate_left
  · rw [nI_clamp t31, e3]
    exact br_f jl (k _ u R0)
  have jl' : j < (mg ms t).2.2.length := Nat.lt_of_not_le (fun z => nI_nlt z hj jl)
  rw [g7]
  refine plt ⟨row_T _ a3 a2 a4, sp_Ro_at w3 j rfl hj (sp_Ro_set w3 j rfl jl' (fun c' r' g' => ?_))⟩
  have eb : (mg ms t).2.2.getD j 0 &&& 255 = (mg ms t).2.2.getD j 0 := okb j jl'
  have ev : ((mg ms t).2.2.getD j (-1) ^^^ (x3 &&& 255)) &&& 255 = (mg ms t).2.2.getD j 0 ^^^ (x3 &&& 255) := by
    rw [gd_in (d := -1) (e := 0) jl', xor_b eb (and255 _)]
  rw [ev] at r'
  generalize hv : (mg ms t).2.2.getD j 0 ^^^ (x3 &&& 255) = v at *
  have ocr : ∀ a, (a < 4 ∨ 90 ≤ a) → c' a = u a := fun a h => g' a (by omega) (by omega)
  have m' : mb c' (ms.set t ((mg ms t).1, (mg ms t).2.1, (mg ms t).2.2.set j v)) := by
    refine ⟨ρ, ⟨fun q hq => by rw [g' 7 (by omega) (by omega)]; exact hr.1 q hq, hr.2⟩, by rw [List.length_set, g' 4 (by omega) (by omega)]; exact h4, by rw [List.length_set]; exact hn, fun q hq => ?_⟩
    rw [List.length_set] at hq
    rw [mg_set ht]
    by_cases c : q = t
    · rw [if_pos c, c]
      exact ⟨by rw [g' 5 (by omega) (by omega)]; exact w1, by rw [g' 6 (by omega) (by omega)]; exact w2, r'⟩
    · rw [if_neg c]
      obtain ⟨z1, z2, z3⟩ := he q hq
      obtain ⟨y1, y2, y3, y4⟩ := hr.1 q (by omega)
      have ne : ρ q ≠ ρ t := fun z => c (hr.2 q t (by omega) (by omega) z)
      exact ⟨by rw [g' 5 (by omega) (by omega)]; exact z1, by rw [g' 6 (by omega) (by omega)]; exact z2, z3.keep (g' _ ne (by omega)) (g' _ (by omega) (by omega))⟩
  have e48 : (48 : Int32) * nI t + nI j = nI (48 * t + j) := by rw [show (48 : Int32) * nI t = nI (48 * t) from pk_mul 48 t, nI_add]
  have vj : vp_in (nI (48 * t + j)) 1920 := vp_in_nI (by omega) (by decide)
  have hl' : ¬ c' 217 4 ≤ nI t := by rw [ocr 217 (by decide)]; exact hl
  have z24 : c' 224 (48 * t + j) = (mg ms t).2.2.getD j 0 := by rw [ocr 224 (by decide)]; exact e5 j jl'
  refine br_f h0 (br_f hl' (br_f y ⟨v40 (by omega), br_t ?_ ⟨by rw [e48]; exact vj, by rw [e48]; exact vj, pu ?_⟩⟩))
  · rw [nI_clamp t31, ocr 223 (by decide), e3]; exact jl
  rw [e48, nI_clamp (show 48 * t + j < 2 ^ 31 by omega), z24, hv]
  have RCc : RC c' (pj_set c' 224 (48 * t + j) v) := C.keep (fun a h => ocr a (by omega)) ⟨fun a h1 h2 h3 h4 => (ps_i (by omega)).trans (ocr a (by omega)), fun k _ _ => by rw [ps_i (by decide), ocr 217 (by decide)]⟩
  refine k 1 _ (Rel.mk (c' := c') RCc m' ⟨by rw [List.length_set, ps_i (by decide), ocr 217 (by decide)]; exact hm.1, by rw [List.length_set]; exact l40, fun q hq => ?_⟩ (fun q hq => ?_) (fun a ha => ps_i (by omega)))
  · rw [List.length_set] at hq
    obtain ⟨y1, y2, y3, y4, y5⟩ := hm.2.2 q hq
    rw [mg_set ht]
    by_cases c : q = t
    · subst c
      rw [if_pos rfl]
      refine ⟨by rw [ps_i (by decide), ocr 221 (by decide)]; exact y1, by rw [ps_i (by decide), ocr 222 (by decide)]; exact y2, by rw [ps_i (by decide), ocr 223 (by decide)]; show u 223 q = nI ((mg ms q).2.2.set j v).length; rw [List.length_set]; exact y3, by show ((mg ms q).2.2.set j v).length ≤ 48; rw [List.length_set]; exact y4, fun i hi => ?_⟩
      have hi : i < ((mg ms q).2.2.set j v).length := hi
      rw [List.length_set] at hi
      show (pj_set c' 224 (48 * q + j) v) 224 (48 * q + i) = ((mg ms q).2.2.set j v).getD i 0
      rw [gd_set jl']
      by_cases ci : i = j
      · rw [if_pos ci, ci, ps_s]
      · rw [if_neg ci, ps_k (by omega), ocr 224 (by decide)]; exact y5 i hi
    · rw [if_neg c]
      refine ⟨by rw [ps_i (by decide), ocr 221 (by decide)]; exact y1, by rw [ps_i (by decide), ocr 222 (by decide)]; exact y2, by rw [ps_i (by decide), ocr 223 (by decide)]; exact y3, y4, fun i hi => ?_⟩
      rw [ps_k (by omega), ocr 224 (by decide)]; exact y5 i hi
  · rw [List.length_set] at hq
    rw [mg_set ht]
    by_cases c : q = t
    · rw [if_pos c]
      refine ⟨okw, bl_set okb ?_⟩
      rw [← hv]
      exact xor_b eb (and255 _)
    · rw [if_neg c]; exact hw q hq
