/-! The pure part: the reference writes a datagram -/
theorem pC_len (m : List Int32) : ∀ d a, (pC m d a).length ≤ (m.length - a) + 2 * ((m.length - a + 7) / 8) := by
  intro d
  induction d with
  | zero => intro a; simp [pC]
  | succ d ih =>
    intro a
    rw [pC]
    split
    · simp
    · rename_i h
      have := ih (a + 8)
      have hs : (sl m a (min 8 (m.length - a))).length = min 8 (m.length - a) := by simp [sl]
      rw [List.length_append, List.length_append, hs]
      simp only [List.length_cons, List.length_nil]
      omega
theorem pC_28 {m : List Int32} (h : m.length ≤ 20) : (pC m 7 0).length ≤ 28 := by
  have := pC_len m 7 0
  omega
/-- the pieces, byte by byte -/
def pQ (m : List Int32) : Nat → Nat → List Int32
  | 0, _ => []
  | d + 1, a => (if a % 8 = 0 then [79, nI (min 8 (d + 1) + 2)] else []) ++ (m.getD a 0 :: pQ m d (a + 1))
theorem pQ_run (m : List Int32) : ∀ (e t d : Nat), (e = 0 ∨ (t % 8 ≠ 0 ∧ t % 8 + e ≤ 8)) → t + (d + e) = m.length → pQ m (d + e) t = sl m t e ++ pQ m d (t + e) := by
  intro e
  induction e with
  | zero => intro t d _ _; simp [sl]
  | succ e ih =>
    intro t d h ht
    have h' := h.resolve_left (by omega)
    rw [← Nat.add_assoc, pQ, if_neg h'.1, sl_step (by omega), List.nil_append, List.cons_append]
    rw [ih (t + 1) d (by omega) (by omega)]
    rw [show t + 1 + e = t + (e + 1) by omega]
theorem pQ_pC (m : List Int32) : ∀ (n a d : Nat), a % 8 = 0 → a + d = m.length → m.length < a + 8 * n → pQ m d a = pC m n a := by
  intro n
  induction n with
  | zero => intro a d _ h1 h2; omega
  | succ n ih =>
    intro a d ha hd hn
    rw [pC]
    by_cases h : m.length ≤ a
    · rw [if_pos h, show d = 0 by omega, pQ]
    · rw [if_neg h]
      obtain ⟨d', rfl⟩ : ∃ d', d = d' + 1 := ⟨d - 1, by omega⟩
      have ec : min 8 (m.length - a) = min 8 (d' + 1) := by rw [show m.length - a = d' + 1 by omega]
      rw [ec, pQ, if_pos ha]
      by_cases h8 : 8 ≤ d' + 1
      · rw [Nat.min_eq_left h8, show d' = (d' - 7) + 7 by omega, pQ_run m 7 (a + 1) (d' - 7) (by omega) (by omega), ih (a + 8) (d' - 7) (by omega) (by omega) (by omega) |>.symm, sl_step (show a < m.length by omega)]
        simp
      · rw [Nat.min_eq_right (by omega)]
        have e1 := pQ_run m d' (a + 1) 0 (by omega) (by omega)
        rw [Nat.zero_add] at e1
        rw [e1, sl_step (show a < m.length by omega)]
        have e2 : pC m n (a + 8) = [] := by
          cases n with
          | zero => rfl
          | succ n => rw [pC, if_pos (by omega)]
        rw [e2, pQ]
        simp
theorem m8 : ∀ n, n < 48 → (nI n - nI n / 8 * 8 = 0 ↔ n % 8 = 0) := by decide +kernel
theorem min8r {a c : Nat} (ha : a ≤ c) (hc : c < 2 ^ 31) : (¬ (8 : Int32) ≤ nI c - nI a → 2 + (nI c - nI a) = nI (min 8 (c - a) + 2)) ∧ ((8 : Int32) ≤ nI c - nI a → (2 : Int32) + 8 = nI (min 8 (c - a) + 2)) := by
  rw [pk_sub ha]
  refine ⟨fun h => ?_, fun h => ?_⟩
  · have h8 : c - a < 8 := Nat.lt_of_not_le (fun z => h (nI_le (a := 8) z (by omega)))
    rw [Nat.min_eq_right (by omega), show (2 : Int32) = nI 2 from rfl, nI_add, Nat.add_comm]
  · have h8 : 8 ≤ c - a := (nI_leI (a := 8) (by decide) (by omega)).mp h
    rw [Nat.min_eq_left h8]
    rfl
theorem lp_Mo_gram_98 {m : List Int32} {K : pj_M → Prop} {au : Int32} (hb : bl m) : ∀ (d t : Nat) (u : pj_M) (l : List Int32), t + d = m.length → l.length + (pQ m d t).length ≤ 48 → mR u l → mP u m → (∀ u', mR u' (l ++ pQ m d t) → mP u' m → fR u u' → pb_Mo_gram_168 K u' au) → pb_Mo_gram_98 K au (d + 1) u (nI t) := by
  intro d
  induction d with
  | zero =>
    intro t u l ht hl hr hp k
    refine br_t (by rw [hp.1]; exact nI_le (by omega) (by have := hp.2.1; omega)) ?_
    rw [pQ, List.append_nil] at k
    exact k u hr hp ⟨fun _ _ _ => rfl, fun _ _ => rfl⟩
  | succ d ih =>
    intro t u l ht hl hr hp k
    have h48 := hp.2.1
    refine br_f (by rw [hp.1]; exact nI_ge (by omega) (by omega)) ?_
    rw [pQ] at hl k
    have e151 : ∀ (u1 : pj_M) (l1 : List Int32), mR u1 l1 → mP u1 m → fR u u1 → l1 = l ++ (if t % 8 = 0 then [79, nI (min 8 (d + 1) + 2)] else []) → pb_Mo_gram_151 (pb_Mo_gram_98 K au (d + 1)) K u1 au (nI t) := by
      intro u1 l1 r1 p1 g1 e1
      have hl1 : l1.length + (1 + (pQ m d (t + 1)).length) ≤ 48 := by
        rw [e1]
        rw [List.length_append, List.length_cons] at hl
        rw [List.length_append]
        omega
      refine ⟨v48 (by omega), ?_⟩
      rw [nI_clamp (by omega), p1.2.2 t (by omega)]
      refine sp_Mo_toRow r1 (by omega) (fun u2 r2 g2 => ?_)
      rw [hb t (by omega)] at r2
      show pb_Mo_gram_98 K au (d + 1) u2 (nI t + 1)
      rw [nI_1]
      refine ih (t + 1) u2 _ (by omega) (by simp; omega) r2 (p1.fR g2) (fun u3 r3 p3 g3 => ?_)
      refine k u3 ?_ p3 (g1.tr (g2.tr g3))
      rw [e1] at r3
      simpa [List.append_assoc] using r3
    by_cases h8 : t % 8 = 0
    · rw [if_pos h8] at hl
      simp only [List.length_append, List.length_cons, List.length_nil] at hl
      refine br_t ((m8 t (by omega)).mpr h8) ?_
      refine sp_Mo_toRow hr (by omega) (fun u1 r1 g1 => ?_)
      have p1 := hp.fR g1
      have mm8 := min8r (a := t) (c := m.length) (by omega) (by omega)
      rw [show m.length - t = d + 1 by omega] at mm8
      have fin : ∀ x, x = nI (min 8 (d + 1) + 2) → pw_Mo_toRow u1 x (fun u2 => pb_Mo_gram_151 (pb_Mo_gram_98 K au (d + 1)) K u2 au (nI t)) := by
        intro x hx
        refine sp_Mo_toRow r1 (by simp; omega) (fun u2 r2 g2 => ?_)
        refine e151 u2 _ r2 (p1.fR g2) (g1.tr g2) ?_
        rw [if_pos h8, hx, b255 _ (by omega), List.append_assoc]
        rfl
      refine br_c (fun q => ?_) (fun q => ?_)
      · rw [p1.1] at q
        exact fin _ (mm8.2 q)
      · rw [p1.1] at q
        refine fin _ ?_
        rw [p1.1]
        exact mm8.1 q
    · refine br_f (fun q => h8 ((m8 t (by omega)).mp q)) ?_
      refine e151 u l hr hp ⟨fun _ _ _ => rfl, fun _ _ => rfl⟩ ?_
      rw [if_neg h8, List.append_nil]
/-- a number's bytes put again where they stand -/
theorem si_id {l : List Int32} {j : Nat} {v : Int32} (h : j + 3 < l.length) (h3 : l.getD j 0 = y3 v) (h2 : l.getD (j + 1) 0 = y2 v) (h1 : l.getD (j + 2) 0 = y1 v) (h0 : l.getD (j + 3) 0 = y0 v) : si l j v = l := by
  apply List.ext_getElem?
  intro i
  by_cases hi : i < l.length
  · have e : (si l j v).getD i 0 = l.getD i 0 := by
      rw [si_gd h]
      split
      · rename_i q; rw [q, h0]
      · split
        · rename_i q; rw [q, h1]
        · split
          · rename_i q; rw [q, h2]
          · split
            · rename_i q; rw [q, h3]
            · rfl
    rw [List.getD_eq_getElem?_getD, List.getD_eq_getElem?_getD, List.getElem?_eq_getElem hi, List.getElem?_eq_getElem (by rw [si_len]; exact hi)] at e
    rw [List.getElem?_eq_getElem hi, List.getElem?_eq_getElem (by rw [si_len]; exact hi)]
    exact congrArg some e
  · rw [List.getElem?_eq_none (by rw [si_len]; omega), List.getElem?_eq_none (by omega)]
theorem gd_app {a c : List Int32} {j : Nat} (h : j < a.length) : (a ++ c).getD j 0 = a.getD j 0 := by
  rw [List.getD_eq_getElem?_getD, List.getD_eq_getElem?_getD, List.getElem?_append_left h]
theorem gd_apr {a c : List Int32} {j : Nat} : (a ++ c).getD (a.length + j) 0 = c.getD j 0 := by
  rw [List.getD_eq_getElem?_getD, List.getD_eq_getElem?_getD, List.getElem?_append_right (by omega)]
  rw [show a.length + j - a.length = j by omega]
theorem gB_len7 (code id au nm tk : Int32) (m : List Int32) : 9 ≤ (gB code id au nm tk m).length := by
  have := gH_len7 code id au nm tk
  unfold gB
  simp
  omega
theorem gU_len (code id au nm tk : Int32) (m : List Int32) : (gU code id au nm tk m).length = (gB code id au nm tk m).length + 4 := by
  unfold gU
  simp
theorem gU_3 (code id au nm tk : Int32) (m : List Int32) : si (gU code id au nm tk m) 3 au = gU code id au nm tk m := by
  have h9 := gB_len7 code id au nm tk m
  have e : ∀ j, j < 7 → j ≠ 2 → (gU code id au nm tk m).getD j 0 = [code &&& 255, id &&& 255, 0, y3 au, y2 au, y1 au, y0 au].getD j 0 := by
    intro j hj h2
    unfold gU
    rw [gd_set (by rw [List.length_append]; omega), if_neg h2, gd_app (by omega)]
    unfold gB
    rw [List.append_assoc, gd_app (by have := gH_len7 code id au nm tk; omega)]
    unfold gH
    rw [gd_app (by simpa using hj)]
  exact si_id (by rw [gU_len]; omega) (e 3 (by decide) (by decide)) (e 4 (by decide) (by decide)) (e 5 (by decide) (by decide)) (e 6 (by decide) (by decide))
theorem gU_0 (code id au nm tk : Int32) (m : List Int32) : si (gU code id au nm tk m) (gB code id au nm tk m).length 0 = gU code id au nm tk m := by
  have h9 := gB_len7 code id au nm tk m
  have e : ∀ j, j < 4 → (gU code id au nm tk m).getD ((gB code id au nm tk m).length + j) 0 = 0 := by
    intro j hj
    unfold gU
    rw [gd_set (by rw [List.length_append]; omega), if_neg (by omega), gd_apr]
    have : j = 0 ∨ j = 1 ∨ j = 2 ∨ j = 3 := by omega
    rcases this with rfl | rfl | rfl | rfl <;> rfl
  have z : y3 0 = 0 ∧ y2 0 = 0 ∧ y1 0 = 0 ∧ y0 0 = 0 := by decide
  exact si_id (by rw [gU_len]; omega) (by rw [z.1]; exact e 0 (by decide)) (by rw [z.2.1]; exact e 1 (by decide)) (by rw [z.2.2.1]; exact e 2 (by decide)) (by rw [z.2.2.2]; exact e 3 (by decide))
/-- a sealed datagram -/
def gY (s code id au nm tk : Int32) (m : List Int32) : List Int32 := si (gU code id au nm tk m) (gB code id au nm tk m).length (mRow s (gU code id au nm tk m))
theorem pu {u : pj_M} {i k : Nat} {v : Int32} {F : pj_M → Prop} (h : F (pj_set u i k v)) : pj_put u i k v F := h
theorem gr_208 {u : pj_M} {au s : Int32} {b U m : List Int32} {K : pj_M → Prop} (r8 : mR u (b ++ [0, 0, 0, 0])) (hU : U = (b ++ [0, 0, 0, 0]).set 2 (nI (b.length + 4) &&& 255)) (h3 : si U 3 au = U) (h0 : si U b.length 0 = U) (h9 : 9 ≤ b.length) (hB : b.length ≤ 44) (hp : mP u m) (s8 : u 217 15 = nI b.length) (hs : u 217 0 = s) (k : ∀ u', mR u' (si U b.length (mRow s U)) → mP u' m → u' 217 15 = nI b.length → gs u u' → K u') : pb_Mo_gram_208 K u au := by
  have el : (b ++ [0, 0, 0, 0]).length = b.length + 4 := by simp
  have eU : U.length = b.length + 4 := by rw [hU, List.length_set, el]
  have e11 : u 217 11 = nI (b.length + 4) := by rw [r8.1, el]
  have r9 : mR (pj_set u 226 2 (u 217 11)) U := by
    have := r8.put (j := 2) (v := nI (b.length + 4)) (by rw [el]; omega)
    rw [hU, b255 _ (by omega), e11]
    exact this
  clear hU
  have g9 : fR u (pj_set u 226 2 (u 217 11)) := fR.a
  have s9 : (pj_set u 226 2 (u 217 11)) 217 15 = nI b.length := (g9.2 15 (by decide)).trans s8
  refine ⟨v48 (n := 2) (by decide), pu ?_⟩
  refine sp_Mo_sealWith (j := b.length) (s := s) r9 (by omega) (by omega) ((g9.gs.2 0 (by decide)).trans hs) s9 (fun u10 g10 => ?_)
  rw [h3, h0]
  refine sp_Mo_intoRow (r9.fh g10) s9 (by omega) (fun u11 r11 g11 => ?_)
  refine k u11 r11 (((hp.fR g9).fh g10).fR g11) ?_ (g9.gs.tr (g10.gs.tr g11.gs))
  rw [g11.2 15 (by decide), g10.2 15 (by decide)]
  exact s9
theorem gr_191 {u : pj_M} {l : List Int32} {K : pj_M → Prop} {au : Int32} (r4 : mR u l) (hl : l.length ≤ 44) (k : ∀ u', mR u' (l ++ [0, 0, 0, 0]) → fR u u' → pb_Mo_gram_208 K u' au) : ∃ n, pb_Mo_gram_191 K au n u 0 := by
  refine ⟨5, br_f (by decide) ?_⟩
  refine sp_Mo_toRow r4 (by omega) (fun u5 r5 g5 => br_f (by decide) ?_)
  refine sp_Mo_toRow r5 (by simp; omega) (fun u6 r6 g6 => br_f (by decide) ?_)
  refine sp_Mo_toRow r6 (by simp; omega) (fun u7 r7 g7 => br_f (by decide) ?_)
  refine sp_Mo_toRow r7 (by simp; omega) (fun u8 r8 g8 => br_t (by decide) ?_)
  refine k u8 ?_ (g5.tr (g6.tr (g7.tr g8)))
  rw [show (0 : Int32) &&& 255 = 0 by decide] at r8
  simpa [List.append_assoc] using r8
theorem gr_24 {u : pj_M} {l : List Int32} {K : pj_M → Prop} {au nm tk : Int32} (r3 : mR u l) (hl : l.length ≤ 44) (k : ∀ u', mR u' (l ++ [y3 au, y2 au, y1 au, y0 au]) → fR u u' → pb_Mo_gram_43 K u' au nm tk) : ∃ n, pb_Mo_gram_24 K au nm tk n u 24 := by
  refine ⟨5, br_f (by decide) ?_⟩
  refine sp_Mo_toRow r3 (by omega) (fun u5 r5 g5 => br_f (by decide) ?_)
  refine sp_Mo_toRow r5 (by simp; omega) (fun u6 r6 g6 => br_f (by decide) ?_)
  refine sp_Mo_toRow r6 (by simp; omega) (fun u7 r7 g7 => br_f (by decide) ?_)
  refine sp_Mo_toRow r7 (by simp; omega) (fun u8 r8 g8 => br_t (by decide) ?_)
  refine k u8 ?_ (g5.tr (g6.tr (g7.tr g8)))
  rw [y_sh3, show (24 : Int32) + -8 = 16 by decide, y_sh2, show (16 : Int32) + -8 = 8 by decide, y_sh1, show (8 : Int32) + -8 = 0 by decide, y_sh0] at r8
  simpa [List.append_assoc] using r8
theorem sp_Mo_gram {u : pj_M} {code id au nm tk s : Int32} {m : List Int32} {K : pj_M → Prop} (hp : mP u m) (hb : bl m) (hl : m.length ≤ 20) (hn : nm = -1 ∨ 0 ≤ nm) (ht : tk = -1 ∨ 0 ≤ tk) (hs : u 217 0 = s) (k : ∀ u', mR u' (gY s code id au nm tk m) → mP u' m → u' 217 15 = nI (gB code id au nm tk m).length → gs u u' → K u') : pw_Mo_gram u code id au nm tk K := by
  have hC := pC_28 hl
  have e168 : ∀ (u1 : pj_M), mR u1 (gH code id au nm tk ++ pC m 7 0) → mP u1 m → fR u u1 → pb_Mo_gram_168 K u1 au := by
    intro u1 r1 p1 g1
    have hH := gH_len code id au nm tk
    refine sp_Mo_toRow r1 (by simp; omega) (fun u2 r2 g2 => ?_)
    refine sp_Mo_toRow r2 (by simp; omega) (fun u3 r3 g3 => ?_)
    have r3' : mR u3 (gB code id au nm tk m) := by
      rw [show (80 : Int32) &&& 255 = 80 by decide, show (6 : Int32) &&& 255 = 6 by decide, List.append_assoc (gH code id au nm tk ++ pC m 7 0)] at r3
      exact r3
    have hB : (gB code id au nm tk m).length ≤ 44 := by unfold gB; simp; omega
    have g13 := g1.tr (g2.tr g3)
    show ∃ n, pb_Mo_gram_191 K au n (pj_set u3 217 15 (u3 217 11)) 0
    rw [r3'.1]
    have r4 : mR (pj_set u3 217 15 (nI (gB code id au nm tk m).length)) (gB code id au nm tk m) := r3'.keep (ps_k (by decide)) (ps_i (by decide))
    have p4 : mP (pj_set u3 217 15 (nI (gB code id au nm tk m).length)) m := (p1.fR (g2.tr g3)).keep (ps_k (by decide)) (ps_i (by decide))
    have g4 : gs u (pj_set u3 217 15 (nI (gB code id au nm tk m).length)) := g13.gs.tr (gs.set (by decide))
    refine gr_191 r4 hB (fun u5 r5 g5 => gr_208 r5 rfl (gU_3 code id au nm tk m) (gU_0 code id au nm tk m) (gB_len7 code id au nm tk m) hB (p4.fR g5) ((g5.2 15 (by decide)).trans ps_s) ((g5.gs.2 0 (by decide)).trans ((g4.2 0 (by decide)).trans hs)) (fun u6 r6 p6 s6 g6 => ?_))
    exact k u6 r6 p6 s6 (g4.tr (g5.gs.tr g6))
  have e95 : ∀ (u1 : pj_M), mR u1 (gH code id au nm tk) → fR u u1 → pb_Mo_gram_95 K u1 au := by
    intro u1 r1 g1
    have hH := gH_len code id au nm tk
    have eQ : pQ m m.length 0 = pC m 7 0 := pQ_pC m 7 0 m.length (by decide) (by omega) (by omega)
    refine ⟨m.length + 1, lp_Mo_gram_98 hb m.length 0 u1 _ (by omega) (by rw [eQ]; omega) r1 (hp.fR g1) (fun u2 r2 p2 g2 => ?_)⟩
    rw [eQ] at r2
    exact e168 u2 r2 p2 (g1.tr g2)
  have e64 : ∀ (u1 : pj_M) (l : List Int32), mR u1 l → l.length ≤ 10 → fR u u1 → gH code id au nm tk = l ++ (if tk = -1 then [] else [24, 4, y1 tk, y0 tk]) → pb_Mo_gram_64 K u1 au tk := by
    intro u1 l r1 hl1 g1 e
    refine br_c (fun q => ?_) (fun q => ?_)
    · have q1 : tk = -1 := ht.resolve_right (Int32.not_le.mpr q)
      rw [if_pos q1, List.append_nil] at e
      exact e95 u1 (by rw [e]; exact r1) g1
    · have q1 : ¬ tk = -1 := fun z => q (by rw [z]; decide)
      rw [if_neg q1] at e
      refine sp_Mo_toRow r1 (by omega) (fun u2 r2 g2 => ?_)
      refine sp_Mo_toRow r2 (by simp; omega) (fun u3 r3 g3 => ?_)
      refine sp_Mo_toRow r3 (by simp; omega) (fun u4 r4 g4 => ?_)
      refine sp_Mo_toRow r4 (by simp; omega) (fun u5 r5 g5 => ?_)
      refine e95 u5 ?_ (g1.tr (g2.tr (g3.tr (g4.tr g5))))
      rw [y_sh1] at r5
      have r5' : mR u5 ((((l ++ [24]) ++ [4]) ++ [y1 tk]) ++ [y0 tk]) := r5
      rw [e]
      simpa [List.append_assoc] using r5'
  have e43 : ∀ (u1 : pj_M), mR u1 [code &&& 255, id &&& 255, 0, y3 au, y2 au, y1 au, y0 au] → fR u u1 → pb_Mo_gram_43 K u1 au nm tk := by
    intro u1 r1 g1
    refine br_c (fun q => ?_) (fun q => ?_)
    · have q1 : nm = -1 := hn.resolve_right (Int32.not_le.mpr q)
      refine e64 u1 _ r1 (by simp) g1 ?_
      unfold gH
      rw [if_pos q1, List.nil_append]
    · have q1 : ¬ nm = -1 := fun z => q (by rw [z]; decide)
      refine sp_Mo_toRow r1 (by simp) (fun u2 r2 g2 => ?_)
      refine sp_Mo_toRow r2 (by simp) (fun u3 r3 g3 => ?_)
      refine sp_Mo_toRow r3 (by simp) (fun u4 r4 g4 => ?_)
      refine e64 u4 _ r4 (by simp) (g1.tr (g2.tr (g3.tr g4))) ?_
      unfold gH
      rw [if_neg q1, ← List.append_assoc]
      rfl
  show pw_Mo_toRow (pj_set u 217 11 0) code _
  refine sp_Mo_toRow mR0 (by simp) (fun u1 r1 g1 => ?_)
  refine sp_Mo_toRow r1 (by simp) (fun u2 r2 g2 => ?_)
  refine sp_Mo_toRow r2 (by simp) (fun u3 r3 g3 => ?_)
  refine gr_24 r3 (by simp) (fun u4 r4 g4 => e43 u4 ?_ (fR.n.tr (g1.tr (g2.tr (g3.tr g4)))))
  rw [show (0 : Int32) &&& 255 = 0 by decide] at r4
  exact r4
