/-! The pure part: the reference's server: met, decide -/
theorem and_0 (a b : Int32) : (a &&& 0) &&& b = 0 := by
  apply b_ext
  intro i _
  rw [b_and, b_and, b_0, Bool.and_false, Bool.false_and]
theorem sp_Mo_met {u : pj_M} {s x y : Nat} {S : Nat → Int32} {pk : List Int32} {K : Int32 → pj_M → Prop} (hs : s < 2) (hx : x < 8) (hS : sR u x S) (hy : y < 8) (h1 : S 1 = nI y) (h2 : S 2 = 1 ∨ S 2 = 2) (hP : mP u pk) (pb : bl pk) (p3 : 3 < pk.length)
    (k0 : ¬ okI (u 219) S pk y → (∀ m, ¬ swI (u 220) S pk y m) → ¬ fpI (u 219) S pk y → ∀ u', fh u u' → K 0 u')
    (kok : okI (u 219) S pk y → ∀ u', fh u u' → K 1 u')
    (ksw : ∀ mt, swI (u 220) S pk y mt → (mt = 1 ∨ mt = 2) → ∀ u', mP u' (bmM mt (awN pk) (rnd (u 219 y) (nI s) (u 241 s))) → u' 217 14 = u 243 x → u' 245 = up (u 245) x mt → u' 246 = up (u 246) x (u 246 x ||| mt) → u' 247 = up (u 247) x (awN pk) → u' 248 = up (u 248) x (rnd (u 219 y) (nI s) (u 241 s)) → u' 249 = up (u 249) x 0 → u' 241 = up (u 241) s (u 241 s + 1) → (∀ a, a ≠ 217 → a ≠ 227 → a ≠ 241 → (a < 245 ∨ 249 < a) → u' a = u a) → (∀ k, (k < 14 ∨ 18 < k) → u' 217 k = u 217 k) → K 2 u')
    (kfp : fpI (u 219) S pk y → ∀ u', mP u' (pd (ph 1 (awN pk) 51) (3 :: b4 (mPrf (u 219 y) 3 (iA pk 5) (S 5)))) → u' 217 14 = u 243 x → u' 247 = up (u 247) x (awN pk) → u' 249 = up (u 249) x 1 → u' 250 = up (u 250) x (iA pk 5) → (∀ a, a ≠ 217 → a ≠ 227 → a ≠ 247 → a ≠ 249 → a ≠ 250 → u' a = u a) → (∀ k, (k < 14 ∨ 18 < k) → u' 217 k = u 217 k) → K 2 u') : pw_Mo_met u (nI s) (nI x) K := by
  have x31 : x < 2 ^ 31 := by omega
  have y31 : y < 2 ^ 31 := by omega
  have e44 : u 244 x = nI y := (hS.1 1 (by decide)).trans h1
  have e45 : u 245 x = S 2 := hS.1 2 (by decide)
  have e46 : u 246 x = S 3 := hS.1 3 (by decide)
  have e48 : u 248 x = S 5 := hS.1 5 (by decide)
  unfold pw_Mo_met pb_Mo_met_0
  refine ⟨v8 hx, ?_⟩
  rw [nI_clamp x31, e44]
  refine ⟨v8 hy, ?_⟩
  rw [nI_clamp y31]
  refine plt ⟨v48 (n := 3) (by decide), ?_⟩
  rw [show u 227 (3 : Int32).toNatClampNeg = aT pk 3 from hP.at (j := 3) p3]
  refine plt (br_c (fun t3 => ?_) (fun t3 => ?_))
  · -- another method
    have nok : ¬ okI (u 219) S pk y := by
      rintro (z | z)
      · rw [t3] at z; exact absurd z.1 (by decide)
      · rw [t3] at z; exact absurd z.1 (by decide)
    have nfp : ¬ fpI (u 219) S pk y := by
      intro z
      rw [fpI, t3] at z
      exact absurd z.1 (by decide)
    have s68 : ∀ s0 : Int32, (∀ m, swI (u 220) S pk y m → m = (u 220 y &&& (S 3 ^^^ (-1))) &&& s0) → (¬ (u 220 y &&& (S 3 ^^^ (-1))) &&& s0 = 0 → swI (u 220) S pk y s0 ∧ (s0 = 1 ∨ s0 = 2)) → pb_Mo_met_68 K u (nI s) (nI x) s0 := by
      intro s0 hno hyes
      refine ⟨v8 hx, ?_⟩
      rw [nI_clamp x31, e44]
      refine ⟨v8 hy, v8 hx, ?_⟩
      rw [nI_clamp y31, e46, and_sw]
      refine br_c (fun e => k0 nok (fun m z => z.2.2.2 ((hno m z).trans e)) nfp u fh.rf) (fun e => ?_)
      obtain ⟨a, b⟩ := hyes e
      exact sp_Mo_begin hs hx hy e44 b hP (by omega) (ksw s0 a b)
    refine br_c (fun e5 => ?_) (fun e5 => ?_)
    rotate_left
    · refine s68 0 (fun m z => absurd (by rw [hP.1, z.2.1]; rfl) e5) (fun z => absurd ?_ z)
      rw [← and_sw]
      exact and_0 _ _
    rw [hP.1] at e5
    have l5 : pk.length = 5 := (nI_e 5 hP.lt (by decide)).mp e5
    have e4 : u 227 (4 : Int32).toNatClampNeg = aT pk 4 := hP.at (j := 4) (by omega)
    refine ⟨v48 (n := 4) (by decide), ?_⟩
    rw [e4]
    refine br_c (fun q4 => s68 1 (fun m z => ?_) (fun z => ⟨⟨t3, l5, Or.inl ⟨q4, ?_⟩, by decide⟩, Or.inl rfl⟩)) (fun q4 => ⟨v48 (n := 4) (by decide), ?_⟩)
    · rcases z.2.2.1 with w | w
      · exact w.2
      · rw [q4] at w; exact absurd w.1 (by decide)
    · rcases and1 (u 220 y &&& (S 3 ^^^ (-1))) with w | w
      · exact absurd w z
      · exact w.symm
    rw [e4]
    refine br_c (fun q51 => s68 2 (fun m z => ?_) (fun z => ⟨⟨t3, l5, Or.inr ⟨q51, ?_⟩, by decide⟩, Or.inr rfl⟩)) (fun q51 => s68 0 (fun m z => ?_) (fun z => absurd ?_ z))
    · rcases z.2.2.1 with w | w
      · exact absurd w.1 q4
      · exact w.2
    · rcases and2 (u 220 y &&& (S 3 ^^^ (-1))) with w | w
      · exact absurd w z
      · exact w.symm
    · rcases z.2.2.1 with w | w
      · exact absurd w.1 q4
      · exact absurd w.1 q51
    · rw [← and_sw]
      exact and_0 _ _
  have nsw : ∀ m, ¬ swI (u 220) S pk y m := fun m z => t3 z.1
  refine ⟨v8 hx, ?_⟩
  rw [nI_clamp x31, e45]
  refine br_c (fun m1 => ?_) (fun m1 => ?_)
  · -- a challenge
    have nfp : ¬ fpI (u 219) S pk y := fun z => by
      have := z.2.1
      rw [m1] at this
      exact absurd this (by decide)
    have no : ¬ (aT pk 3 = 4 ∧ pk.length = 8 ∧ iA pk 4 = chal (aT pk 1) (u 219 y) (S 5)) → ∀ u', fh u u' → K 0 u' := fun z => k0 (by
      rintro (w | w)
      · exact z ⟨w.1, w.2.2⟩
      · have := w.2.1
        rw [m1] at this
        exact absurd this (by decide)) nsw nfp
    refine br_c (fun t4 => ?_) (fun t4 => no (fun z => t4 z.1) u fh.rf)
    refine br_c (fun e8 => ?_) (fun e8 => no (fun z => e8 (by rw [hP.1, z.2.1]; rfl)) u fh.rf)
    rw [hP.1] at e8
    have l8 : pk.length = 8 := (nI_e 8 hP.lt (by decide)).mp e8
    refine sp_Mo_packetInt hP pb (i := 4) rfl (by omega) ⟨v48 (n := 1) (by decide), v8 hx, ?_⟩
    rw [nI_clamp x31]
    refine spv (id' := aT pk 1) (key' := u 219 y) (hP.at (j := 1) (by omega)) rfl (pb.at (by omega)) (fun u3 g3 => ?_)
    rw [e48]
    exact br_c (fun e => kok (Or.inl ⟨t4, m1, l8, e⟩) u3 g3) (fun e => no (fun z => e z.2.2) u3 g3)
  · -- proofs
    have m2 : S 2 = 2 := h2.resolve_left m1
    obtain ⟨e49, e50⟩ := hS.2 m2
    refine br_c (fun t51 => ⟨v8 hx, ?_⟩) (fun t51 => k0 (by
      rintro (w | w)
      · exact m1 w.2.1
      · exact t51 w.1) nsw (fun z => t51 z.1) u fh.rf)
    rw [nI_clamp x31, e49]
    refine br_c (fun s7 => ?_) (fun s7 => ?_)
    · have nok : ¬ okI (u 219) S pk y := by
        rintro (w | w)
        · exact m1 w.2.1
        · exact w.2.2.1 s7
      have no : ¬ (pk.length = 13 ∧ aT pk 4 = 2 ∧ iA pk 9 = mPrf (u 219 y) 2 (S 5) (iA pk 5)) → ∀ u', fh u u' → K 0 u' := fun z => k0 nok nsw (fun w => z w.2.2.2)
      refine br_c (fun e => ?_) (fun e => no (fun z => e (by rw [hP.1, z.1]; rfl)) u fh.rf)
      rw [hP.1] at e
      have l13 : pk.length = 13 := (nI_e 13 hP.lt (by decide)).mp e
      refine ⟨v48 (n := 4) (by decide), ?_⟩
      rw [show u 227 (4 : Int32).toNatClampNeg = aT pk 4 from hP.at (j := 4) (by omega)]
      refine br_c (fun d2 => ?_) (fun d2 => no (fun z => d2 z.2.1) u fh.rf)
      refine sp_Mo_packetInt hP pb (i := 9) rfl (by omega) ⟨v8 hx, sp_Mo_packetInt hP pb (i := 5) rfl (by omega) ?_⟩
      rw [nI_clamp x31, e48]
      refine sp_Mo_mac (by decide) (fun u3 g3 => br_c (fun e2 => ?_) (fun e2 => no (fun z => e2 z.2.2) u3 g3))
      have fp : fpI (u 219) S pk y := ⟨t51, m2, s7, l13, d2, e2⟩
      have P3 : mP u3 pk := hP.fh g3
      refine sp_Mo_packetInt P3 pb (i := 5) rfl (by omega) ⟨v8 hx, pu ⟨v8 hx, pu ?_⟩⟩
      rw [nI_clamp x31, nr1]
      have o4 : ∀ a, a ≠ 250 → a ≠ 249 → (pj_set (pj_set u3 250 x (iA pk 5)) 249 x 1) a = u3 a := fun a h1 h2 => by rw [ps_i h2, ps_i h1]
      have f50 : (pj_set (pj_set u3 250 x (iA pk 5)) 249 x 1) 250 = up (u 250) x (iA pk 5) := by rw [ps_i (by decide), st_up, g3.cells 250 (by decide)]
      have f49 : (pj_set (pj_set u3 250 x (iA pk 5)) 249 x 1) 249 = up (u 249) x 1 := by rw [st_up, ps_i (by decide), g3.cells 249 (by decide)]
      generalize pj_set (pj_set u3 250 x (iA pk 5)) 249 x 1 = u4 at o4 f50 f49 ⊢
      have P4 : mP u4 pk := P3.keep (by rw [o4 217 (by decide) (by decide)]) (o4 227 (by decide) (by decide))
      refine sp_Mo_request hx P4 (by omega) (fun u5 P5 a5 b5 c5 d5 => ?_)
      refine sad (x' := 3) rfl P5 (by rw [ph1_len]; decide) (by rw [ph1_len]; decide) (fun u6 P6 g6 => ⟨v8 hx, v8 hx, ?_⟩)
      have q6 : ∀ a, a ≠ 217 → a ≠ 227 → a ≠ 247 → u6 a = u4 a := fun a h1 h2 h3 => (g6.1 a h1 h2).trans (c5 a h1 h2 h3)
      refine smc (key' := u 219 y) (x' := iA pk 5) (y' := S 5) rfl (by rw [q6 250 (by decide) (by decide) (by decide), f50, up_s]) (by rw [q6 248 (by decide) (by decide) (by decide), o4 248 (by decide) (by decide), g3.cells 248 (by decide), e48]) (by decide) (fun u7 g7 => ?_)
      refine sai rfl (P6.fh g7) (by rw [pd_len, ph1_len]; exact (by decide : 2 < 4 + 1)) (by rw [pd_len, ph1_len]; exact (by decide : 4 + 1 + 4 ≤ 48)) (fun u8 P8 g8 => ?_)
      rw [pd_pd (by rw [ph1_len]; decide)] at P8
      have q8 : ∀ a, a ≠ 217 → a ≠ 227 → a ≠ 247 → u8 a = u4 a := fun a h1 h2 h3 => (g8.1 a h1 h2).trans ((g7.1 a h1).trans (q6 a h1 h2 h3))
      refine kfp fp u8 P8 ?_ ?_ ?_ ?_ (fun a h1 h2 h3 h4 h5 => ?_) (fun k hk => ?_)
      · rw [g8.2 14 (by decide), g7.2 14 (by decide), g6.2 14 (by decide), a5, o4 243 (by decide) (by decide), g3.cells 243 (by decide)]
      · rw [g8.cells 247 (by decide), g7.cells 247 (by decide), g6.cells 247 (by decide), b5, o4 247 (by decide) (by decide), g3.cells 247 (by decide)]
      · rw [q8 249 (by decide) (by decide) (by decide), f49]
      · rw [q8 250 (by decide) (by decide) (by decide), f50]
      · rw [q8 a h1 h2 h3, o4 a h5 h4, g3.1 a h1]
      · rw [g8.2 k (by omega), g7.2 k (by omega), g6.2 k (by omega), d5 k (by omega) (by omega), o4 217 (by decide) (by decide), g3.2 k (by omega)]
    · have nfp : ¬ fpI (u 219) S pk y := fun z => s7 z.2.2.1
      have no : ¬ (pk.length = 9 ∧ aT pk 4 = 4 ∧ iA pk 5 = mPrf (u 219 y) 4 (S 5) (S 6)) → ∀ u', fh u u' → K 0 u' := fun z => k0 (by
        rintro (w | w)
        · exact m1 w.2.1
        · exact z w.2.2.2) nsw nfp
      refine br_c (fun e => ?_) (fun e => no (fun z => e (by rw [hP.1, z.1]; rfl)) u fh.rf)
      rw [hP.1] at e
      have l9 : pk.length = 9 := (nI_e 9 hP.lt (by decide)).mp e
      refine ⟨v48 (n := 4) (by decide), ?_⟩
      rw [show u 227 (4 : Int32).toNatClampNeg = aT pk 4 from hP.at (j := 4) (by omega)]
      refine br_c (fun d2 => ?_) (fun d2 => no (fun z => d2 z.2.1) u fh.rf)
      refine sp_Mo_packetInt hP pb (i := 5) rfl (by omega) ⟨v8 hx, v8 hx, ?_⟩
      rw [nI_clamp x31, e48, e50 s7]
      exact sp_Mo_mac (by decide) (fun u3 g3 => br_c (fun e2 => kok (Or.inr ⟨t51, m2, s7, l9, d2, e2⟩) u3 g3) (fun e2 => no (fun z => e2 z.2.2) u3 g3))
/-- what holds of sessions -/
def sI (S : Nat → Int32) : Prop := (∃ y, y < 8 ∧ S 1 = nI y) ∧ 0 ≤ S 0 ∧ (S 2 = 1 ∨ S 2 = 2) ∧ (S 3 &&& 2 = 0 → S 7 = 0) ∧ (S 2 = 2 → ¬ S 3 &&& 2 = 0)
def sIL (L : List (Nat → Int32)) : Prop := ∀ k, k < L.length → sI (sg L k)
theorem sIL.er {L : List (Nat → Int32)} {k : Nat} (h : sIL L) (hk : k < L.length) : sIL (L.eraseIdx k) := by
  intro t ht
  rw [List.length_eraseIdx_of_lt hk] at ht
  rw [sg_er]
  split
  · exact h t (by omega)
  · exact h (t + 1) (by omega)
theorem sIL.set {L : List (Nat → Int32)} {k : Nat} {σ : Nat → Int32} (h : sIL L) (hk : k < L.length) (hσ : sI σ) : sIL (L.set k σ) := by
  intro t ht
  rw [List.length_set] at ht
  rw [sg_set hk]
  split
  · exact hσ
  · exact h t ht
theorem sIL.push {L : List (Nat → Int32)} {σ : Nat → Int32} (h : sIL L) (hσ : sI σ) : sIL (L ++ [σ]) := by
  intro t ht
  have el : (L ++ [σ]).length = L.length + 1 := by rw [List.length_append]; rfl
  rw [el] at ht
  by_cases c : t = L.length
  · rw [c, sg_hi]; exact hσ
  · rw [sg_lo (by omega)]; exact h t (by omega)
