/-! The pure part: bytes of numbers; the seal's place -/
theorem jb (a b c d : Int32) {i : Nat} (hi : i < 32) : bt (jn a b c d) i = ((decide (24 ≤ i) && bt a (i - 24)) || (decide (16 ≤ i) && bt b (i - 16)) || (decide (8 ≤ i) && bt c (i - 8)) || bt d i) := by
  rw [← jn_eq, b_or, b_or, b_or, b_shl24 a hi, b_shl16 b hi, b_shl8 c hi]
theorem y_b (n : Nat) (hn : n ≤ 24) (v : Int32) (i : Nat) : bt ((v.toUInt32 >>> ((nI n).toUInt32 &&& Int32.toUInt32 31)).toInt32 &&& 255) i = (bt v (n + i) && decide (i < 8)) := by
  rw [b_and, b_255, b_ushr n (by omega) v i]
theorem y3_b (v : Int32) (i : Nat) : bt (y3 v) i = (bt v (24 + i) && decide (i < 8)) := y_b 24 (by omega) v i
theorem y2_b (v : Int32) (i : Nat) : bt (y2 v) i = (bt v (16 + i) && decide (i < 8)) := y_b 16 (by omega) v i
theorem y1_b (v : Int32) (i : Nat) : bt (y1 v) i = (bt v (8 + i) && decide (i < 8)) := y_b 8 (by omega) v i
theorem y0_b (v : Int32) (i : Nat) : bt (y0 v) i = (bt v i && decide (i < 8)) := by
  unfold y0
  rw [b_and, b_255]
theorem y_jn {a b c d : Int32} (ha : a &&& 255 = a) (hb : b &&& 255 = b) (hc : c &&& 255 = c) (hd : d &&& 255 = d) : y3 (jn a b c d) = a ∧ y2 (jn a b c d) = b ∧ y1 (jn a b c d) = c ∧ y0 (jn a b c d) = d := by
  refine ⟨?_, ?_, ?_, ?_⟩
  · apply b_ext
    intro i hi
    rw [y3_b]
    by_cases h : i < 8
    · rw [jb a b c d (show 24 + i < 32 by omega), by_31 hb (24 + i - 16) (by omega), by_31 hc (24 + i - 8) (by omega), by_31 hd (24 + i) (by omega), show 24 + i - 24 = i by omega]
      simp [h]
    · rw [by_31 ha i (by omega)]
      simp [h]
  · apply b_ext
    intro i hi
    rw [y2_b]
    by_cases h : i < 8
    · rw [jb a b c d (show 16 + i < 32 by omega), by_31 hc (16 + i - 8) (by omega), by_31 hd (16 + i) (by omega), show 16 + i - 16 = i by omega, decide_eq_false (show ¬ 24 ≤ 16 + i by omega)]
      simp [h]
    · rw [by_31 hb i (by omega)]
      simp [h]
  · apply b_ext
    intro i hi
    rw [y1_b]
    by_cases h : i < 8
    · rw [jb a b c d (show 8 + i < 32 by omega), by_31 hd (8 + i) (by omega), show 8 + i - 8 = i by omega, decide_eq_false (show ¬ 24 ≤ 8 + i by omega), decide_eq_false (show ¬ 16 ≤ 8 + i by omega)]
      simp [h]
    · rw [by_31 hc i (by omega)]
      simp [h]
  · apply b_ext
    intro i hi
    rw [y0_b]
    by_cases h : i < 8
    · rw [jb a b c d hi, decide_eq_false (show ¬ 24 ≤ i by omega), decide_eq_false (show ¬ 16 ≤ i by omega), decide_eq_false (show ¬ 8 ≤ i by omega)]
      simp [h]
    · rw [by_31 hd i (by omega)]
      simp [h]
theorem jn_y (v : Int32) : jn (y3 v) (y2 v) (y1 v) (y0 v) = v := by
  apply b_ext
  intro i hi
  rw [jb _ _ _ _ hi, y3_b, y2_b, y1_b, y0_b]
  by_cases h24 : 24 ≤ i
  · rw [show 24 + (i - 24) = i by omega, show 16 + (i - 16) = i by omega, show 8 + (i - 8) = i by omega, decide_eq_false (show ¬ i - 16 < 8 by omega), decide_eq_false (show ¬ i - 8 < 8 by omega), decide_eq_false (show ¬ i < 8 by omega), decide_eq_true (show i - 24 < 8 by omega), decide_eq_true h24]
    simp
  · rw [decide_eq_false h24]
    by_cases h16 : 16 ≤ i
    · rw [show 16 + (i - 16) = i by omega, show 8 + (i - 8) = i by omega, decide_eq_false (show ¬ i - 8 < 8 by omega), decide_eq_false (show ¬ i < 8 by omega), decide_eq_true (show i - 16 < 8 by omega), decide_eq_true h16]
      simp
    · rw [decide_eq_false h16]
      by_cases h8 : 8 ≤ i
      · rw [show 8 + (i - 8) = i by omega, decide_eq_false (show ¬ i < 8 by omega), decide_eq_true (show i - 8 < 8 by omega), decide_eq_true h8]
        simp
      · rw [decide_eq_false h8, decide_eq_true (show i < 8 by omega)]
        simp
theorem iA_si {l : List Int32} {j : Nat} {v : Int32} (h : j + 3 < l.length) : iA (si l j v) j = v := by
  unfold iA
  rw [si_gd h, si_gd h, si_gd h, si_gd h, if_neg (by omega), if_neg (by omega), if_neg (by omega), if_pos rfl, if_neg (by omega), if_neg (by omega), if_pos rfl, if_neg (by omega), if_pos rfl, if_pos rfl, (bl_y v).1, (bl_y v).2.1, (bl_y v).2.2.1, (bl_y v).2.2.2]
  exact jn_y v
theorem iA_so {l : List Int32} {i j : Nat} {v : Int32} (h : j + 3 < l.length) (hij : i + 3 < j ∨ j + 3 < i) : iA (si l j v) i = iA l i := by
  unfold iA
  rw [si_gd h, si_gd h, si_gd h, si_gd h, if_neg (by omega), if_neg (by omega), if_neg (by omega), if_neg (by omega), if_neg (by omega), if_neg (by omega), if_neg (by omega), if_neg (by omega), if_neg (by omega), if_neg (by omega), if_neg (by omega), if_neg (by omega), if_neg (by omega), if_neg (by omega), if_neg (by omega), if_neg (by omega)]
theorem gY_3 (s code id au nm tk : Int32) (m : List Int32) : iA (gY s code id au nm tk m) 3 = au := by
  have h9 := gB_len7 code id au nm tk m
  have hl := gU_len code id au nm tk m
  unfold gY
  rw [iA_so (by omega) (by omega), ← gU_3]
  exact iA_si (by omega)
theorem gU_at1 (code id au nm tk : Int32) (m : List Int32) : aT (gU code id au nm tk m) 1 = id &&& 255 := rfl
theorem gU_at0 (code id au nm tk : Int32) (m : List Int32) : aT (gU code id au nm tk m) 0 = code &&& 255 := rfl
theorem aT_so {l : List Int32} {t j : Nat} {v : Int32} (h : j + 3 < l.length) (ht : t < j ∨ j + 3 < t) : aT (si l j v) t = aT l t := by
  unfold aT
  rw [si_gd h, if_neg (by omega), if_neg (by omega), if_neg (by omega), if_neg (by omega)]
theorem gY_1 (s code id au nm tk : Int32) (m : List Int32) : aT (gY s code id au nm tk m) 1 = id &&& 255 := by
  have h9 := gB_len7 code id au nm tk m
  have hl := gU_len code id au nm tk m
  unfold gY
  rw [aT_so (by omega) (by omega)]
  exact gU_at1 code id au nm tk m
theorem ls_ext {l l' : List Int32} (hlen : l.length = l'.length) (h : ∀ t, t < l.length → l.getD t 0 = l'.getD t 0) : l = l' := by
  apply List.ext_getElem?
  intro j
  by_cases hj : j < l.length
  · have a2 := h j hj
    rw [List.getD_eq_getElem?_getD, List.getD_eq_getElem?_getD, List.getElem?_eq_getElem hj, List.getElem?_eq_getElem (by omega)] at a2
    rw [List.getElem?_eq_getElem hj, List.getElem?_eq_getElem (by omega)]
    exact congrArg some a2
  · rw [List.getElem?_eq_none (by omega), List.getElem?_eq_none (by omega)]
theorem iA_y {f : List Int32} {j : Nat} (hb : bl f) (h : j + 3 < f.length) : y3 (iA f j) = f.getD j 0 ∧ y2 (iA f j) = f.getD (j + 1) 0 ∧ y1 (iA f j) = f.getD (j + 2) 0 ∧ y0 (iA f j) = f.getD (j + 3) 0 := by
  rw [iA_in hb h]
  exact y_jn (hb j (by omega)) (hb (j + 1) (by omega)) (hb (j + 2) (by omega)) (hb (j + 3) (by omega))
theorem si_back {f : List Int32} {j : Nat} {au : Int32} (hb : bl f) (h7 : 7 ≤ j) (hl : j + 3 < f.length) : si (si (si f 3 au) j 0) j (iA f j) = si f 3 au := by
  apply ls_ext
  · rw [si_len, si_len]
  intro t ht
  obtain ⟨e3, e2, e1, e0⟩ := iA_y hb hl
  rw [si_gd (by rw [si_len, si_len]; omega), si_gd (by rw [si_len]; omega), e3, e2, e1, e0]
  have o : ∀ t, 7 ≤ t → (si f 3 au).getD t 0 = f.getD t 0 := fun t h => by rw [si_gd (by omega), if_neg (by omega), if_neg (by omega), if_neg (by omega), if_neg (by omega)]
  by_cases c3 : t = j + 3
  · rw [if_pos c3, c3, o _ (by omega)]
  · rw [if_neg c3]
    by_cases c2 : t = j + 2
    · rw [if_pos c2, c2, o _ (by omega)]
    · rw [if_neg c2]
      by_cases c1 : t = j + 1
      · rw [if_pos c1, c1, o _ (by omega)]
      · rw [if_neg c1]
        by_cases c0 : t = j
        · rw [if_pos c0, c0, o _ (by omega)]
        · rw [if_neg c0, if_neg c3, if_neg c2, if_neg c1, if_neg c0]
theorem pA_seal9 {f : List Int32} : ∀ (d p : Nat) (nm tk sa nm' tk' sa' : Int32) (pk pk' : List Int32), f.length ≤ 48 → 7 ≤ p → (sa = -1 ∨ ∃ j, sa = nI j ∧ 9 ≤ j ∧ j + 4 ≤ f.length) → pA f d p nm tk sa pk = some (nm', tk', sa', pk') → sa' = -1 ∨ ∃ j, sa' = nI j ∧ 9 ≤ j ∧ j + 4 ≤ f.length := by
  intro d
  induction d with
  | zero => intro p nm tk sa nm' tk' sa' pk pk' _ _ _ h; cases h
  | succ d ih =>
    intro p nm tk sa nm' tk' sa' pk pk' hf hp hs h
    rw [pA] at h
    split at h
    · cases h; exact hs
    · rename_i hle
      split at h
      · cases h
      · rename_i hlt
        split at h
        · cases h
        · rename_i z a1 a2 a3 a4 e
          obtain ⟨ez, z3, z10, -⟩ := pS_size e
          have hzl : p + z ≤ f.length := by
            rw [ez, nI_add] at hlt
            exact Nat.le_of_not_lt (fun q => hlt (nI_lt q (by omega)))
          refine ih (p + z) _ _ _ _ _ _ _ _ hf (by omega) ?_ h
          unfold pS at e
          split at e
          · split at e
            · cases e; exact hs
            · cases e
          · split at e
            · split at e
              · cases e; exact hs
              · cases e
            · split at e
              · split at e
                · cases e; exact hs
                · cases e
              · split at e
                · split at e
                  · cases e
                    exact Or.inr ⟨p + 2, rfl, by omega, by omega⟩
                  · cases e
                · cases e
theorem gR.j9 {f pk : List Int32} {nm tk : Int32} {j : Nat} (h : gR f nm tk (nI j) pk) (hf : f.length ≤ 48) (hj : j < 2 ^ 31) : 9 ≤ j := by
  rcases pA_seal9 49 7 0 (-1) (-1) nm tk (nI j) [] pk hf (by decide) (Or.inl rfl) h.2.2.1 with z | ⟨i, e, h9, _⟩
  · exact absurd z h.2.2.2.1
  · rw [(nI_eq hj (by omega)).mp e]; exact h9
