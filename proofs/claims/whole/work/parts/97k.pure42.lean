/-! The pure part: the reference's server decides -/
def ix (s : Nat) (o : Option Nat) : Int32 := match o with | none => -1 | some k => nI (4 * s + k)
def opM (u : pj_M) (pk : List Int32) (x : Nat) : Prop := aT pk 0 = 2 ∧ aT pk 3 = 1 ∧ pk.length = 5 ∧ x < 8 ∧ aT pk 4 = nI x ∧ ¬ u 218 x = 0
theorem oI.uniq {L : List (Nat → Int32)} {tk : Int32} {o o' : Option Nat} (h : oI L tk o) (h' : oI L tk o') : o = o' := by
  cases o with
  | none =>
    cases o' with
    | none => rfl
    | some j => exact absurd h'.2.1 (h j h'.1)
  | some i =>
    cases o' with
    | none => exact absurd h.2.1 (h' i h.1)
    | some j =>
      have : i = j := by
        rcases Nat.lt_trichotomy i j with z | z | z
        · exact absurd h.2.1 (h'.2.2 i z)
        · exact z
        · exact absurd h'.2.1 (h.2.2 j z)
      rw [this]
theorem wk_decide {u : pj_M} {s : Nat} {L : List (Nat → Int32)} {pk : List Int32} {tk id au : Int32} {K : pj_M → Prop} (hs : s < 2) (h : MS u s L) (hI : sIL L) (hb : bX u) (hP : mP u pk) (pb : bl pk) (hr : rP pk) (h14 : u 217 14 = tk) (htk : tk = -1 ∨ 0 ≤ tk)
    (k0 : ∀ o, oI L tk o → (∀ x, ¬ opM u pk x) → (∀ k y, o = some k → hvC L tk pk k y → ¬ okI (u 219) (sg L k) pk y ∧ (∀ x, ¬ swI (u 220) (sg L k) pk y x) ∧ ¬ fpI (u 219) (sg L k) pk y) → ∀ u', fh u u' → pb_Mo_decide_90 K u' (nI s) id au (ix s o) (aT pk 1) 0)
    (kok : ∀ k y, hvC L tk pk k y → okI (u 219) (sg L k) pk y → ∀ u', fh u u' → pb_Mo_decide_90 K u' (nI s) id au (nI (4 * s + k)) (aT pk 1) 1)
    (kop : ∀ x0 x u', opM u pk x → (∀ σ0, MS u' s ((if L.length = 4 then L.eraseIdx 0 else L) ++ [bmS (nwS σ0 (nI x) (u 240 s)) (mtd (u 220 x)) (rnd (u 219 x) (nI s) (u 241 s)) (awN pk)])) → bX u' → mP u' (bmM (mtd (u 220 x)) (awN pk) (rnd (u 219 x) (nI s) (u 241 s))) → u' 217 14 = u 240 s &&& 65535 → u' 240 s = u 240 s + 1 → u' 241 s = u 241 s + 1 → (∀ a, a ≠ 217 → a ≠ 227 → (a < 240 ∨ 250 < a) → u' a = u a) → (∀ k, (k < 14 ∨ 18 < k) → u' 217 k = u 217 k) → frV s u u' → pb_Mo_decide_90 K u' (nI s) id au x0 (aT pk 1) 2)
    (ksw : ∀ k y mt, hvC L tk pk k y → swI (u 220) (sg L k) pk y mt → (mt = 1 ∨ mt = 2) → ∀ u', mP u' (bmM mt (awN pk) (rnd (u 219 y) (nI s) (u 241 s))) → u' 217 14 = u 243 (4 * s + k) → u' 245 = up (u 245) (4 * s + k) mt → u' 246 = up (u 246) (4 * s + k) (u 246 (4 * s + k) ||| mt) → u' 247 = up (u 247) (4 * s + k) (awN pk) → u' 248 = up (u 248) (4 * s + k) (rnd (u 219 y) (nI s) (u 241 s)) → u' 249 = up (u 249) (4 * s + k) 0 → u' 241 = up (u 241) s (u 241 s + 1) → (∀ a, a ≠ 217 → a ≠ 227 → a ≠ 241 → (a < 245 ∨ 249 < a) → u' a = u a) → (∀ k, (k < 14 ∨ 18 < k) → u' 217 k = u 217 k) → pb_Mo_decide_90 K u' (nI s) id au (nI (4 * s + k)) (aT pk 1) 2)
    (kfp : ∀ k y, hvC L tk pk k y → fpI (u 219) (sg L k) pk y → ∀ u', mP u' (pd (ph 1 (awN pk) 51) (3 :: b4 (mPrf (u 219 y) 3 (iA pk 5) (sg L k 5)))) → u' 217 14 = u 243 (4 * s + k) → u' 247 = up (u 247) (4 * s + k) (awN pk) → u' 249 = up (u 249) (4 * s + k) 1 → u' 250 = up (u 250) (4 * s + k) (iA pk 5) → (∀ a, a ≠ 217 → a ≠ 227 → a ≠ 247 → a ≠ 249 → a ≠ 250 → u' a = u a) → (∀ k, (k < 14 ∨ 18 < k) → u' 217 k = u 217 k) → pb_Mo_decide_90 K u' (nI s) id au (nI (4 * s + k)) (aT pk 1) 2) : pw_Mo_decide u (nI s) id au K := by
  obtain ⟨p3, p20, pl, pc⟩ := hr
  have p2 : aT pk 0 = 2 → 3 < pk.length := by
    intro e
    rcases pc with ⟨_, z⟩ | ⟨z, _⟩
    · exact z
    · rw [e] at z
      exact absurd z (by decide)
  have n4 := h.2.1
  have s20 : ∀ o, oI L tk o → pb_Mo_decide_20 K u (nI s) id au (ix s o) := by
    intro o hO
    refine ⟨v48 (n := 1) (by decide), ?_⟩
    rw [show u 227 (1 : Int32).toNatClampNeg = aT pk 1 from hP.at (j := 1) (by omega)]
    refine plt ⟨v48 (n := 0) (by decide), ?_⟩
    rw [show u 227 (0 : Int32).toNatClampNeg = aT pk 0 from hP.at (j := 0) (by omega)]
    refine br_c (fun e2 => ⟨v48 (n := 3) (by decide), ?_⟩) (fun e2 => k0 o hO (fun x z => e2 z.1) (fun k y _ z => absurd z.2.1 e2) u fh.rf)
    rw [show u 227 (3 : Int32).toNatClampNeg = aT pk 3 from hP.at (j := 3) (p2 e2)]
    refine br_c (fun t1 => ?_) (fun t1 => ?_)
    · exact sp_Mo_identified hs h hb hP pb (fun hn => k0 o hO (fun x z => hn ⟨x, z.2.2⟩) (fun k y _ z => absurd t1 z.2.2.1) u fh.rf) (fun x u' hx => kop (ix s o) x u' ⟨e2, t1, hx⟩)
    · cases o with
      | none => exact br_t (show (-1 : Int32) < 0 by decide) (k0 none hO (fun x z => t1 z.2.1) (fun k y z _ => by cases z) u fh.rf)
      | some j =>
        have hj : j < L.length := hO.1
        have sj := h.2.2 j hj
        obtain ⟨⟨y, hy, ey⟩, _, m12, _⟩ := hI j hj
        refine br_f (Int32.not_lt.mpr (nI_nn (by omega))) ⟨v8 (by omega), ?_⟩
        have e47 : u 247 (4 * s + j) = sg L j 4 := sj.1 4 (by decide)
        rw [show (ix s (some j)).toNatClampNeg = 4 * s + j from nI_clamp (by omega), e47]
        refine br_c (fun ei => ?_) (fun ei => k0 (some j) hO (fun x z => t1 z.2.1) (fun k y z w => by cases z; exact absurd w.2.2.2.1.symm ei) u fh.rf)
        have hv : hvC L tk pk j y := ⟨hO, e2, t1, ei.symm, hy, ey⟩
        refine sp_Mo_met hs (by omega) sj hy ey m12 hP pb (p2 e2) (fun a b c u' g => k0 (some j) hO (fun x z => t1 z.2.1) (fun k y' z w => ?_) u' g) (fun a u' g => kok j y hv a u' g) (fun mt a b u' => ksw j y mt hv a b u') (fun a u' => kfp j y hv a u')
        cases z
        have ey' : y' = y := (nI_eq (by have := w.2.2.2.2.1; omega) (by omega)).mp (w.2.2.2.2.2.symm.trans ey)
        subst ey'
        exact ⟨a, b, c⟩
  unfold pw_Mo_decide pb_Mo_decide_0
  rw [h14]
  refine br_c (fun e => ?_) (fun e => ?_)
  · unfold pb_Mo_decide_11
    rw [h14]
    exact sp_Mo_sessionOf hs h (fun k hO => s20 (some k) hO) (fun hO => s20 none hO)
  · have e1 : tk = -1 := htk.resolve_right e
    refine s20 none (fun t ht z => ?_)
    have := (hI t ht).2.1
    rw [z, e1] at this
    exact absurd this (by decide)
theorem okI_cg {U V : Nat → Int32} {S : Nat → Int32} {pk : List Int32} {y : Nat} (e : U y = V y) : okI U S pk y ↔ okI V S pk y := by unfold okI; rw [e]
theorem swI_cg {U V : Nat → Int32} {S : Nat → Int32} {pk : List Int32} {y : Nat} {x : Int32} (e : U y = V y) : swI U S pk y x ↔ swI V S pk y x := by unfold swI; rw [e]
theorem fpI_cg {U V : Nat → Int32} {S : Nat → Int32} {pk : List Int32} {y : Nat} (e : U y = V y) : fpI U S pk y ↔ fpI V S pk y := by unfold fpI; rw [e]
theorem hvC.uniq {L : List (Nat → Int32)} {tk : Int32} {pk : List Int32} {k y k' y' : Nat} (h : hvC L tk pk k y) (h' : hvC L tk pk k' y') : k' = k ∧ y' = y := by
  have := h'.1.uniq h.1
  cases this
  refine ⟨rfl, ?_⟩
  exact (nI_eq (by have := h'.2.2.2.2.1; omega) (by have := h.2.2.2.2.1; omega)).mp (h'.2.2.2.2.2.symm.trans h.2.2.2.2.2)
theorem x_ok_sw {U V S : Nat → Int32} {pk : List Int32} {y : Nat} {x : Int32} (h : okI U S pk y) (h' : swI V S pk y x) : False := by
  rcases h with z | z
  · exact absurd (z.1.symm.trans h'.1) (by decide)
  · exact absurd (z.1.symm.trans h'.1) (by decide)
theorem x_ok_fp {U V S : Nat → Int32} {pk : List Int32} {y : Nat} (h : okI U S pk y) (h' : fpI V S pk y) : False := by
  rcases h with z | z
  · exact absurd (z.1.symm.trans h'.1) (by decide)
  · exact z.2.2.1 h'.2.2.1
theorem x_sw_fp {U V S : Nat → Int32} {pk : List Int32} {y : Nat} {x : Int32} (h : swI U S pk y x) (h' : fpI V S pk y) : False := absurd (h.1.symm.trans h'.1) (by decide)
theorem sw_uniq {U S : Nat → Int32} {pk : List Int32} {y : Nat} {x x' : Int32} (h : swI U S pk y x) (h' : swI U S pk y x') : x = x' := by
  rcases h.2.2.1 with z | z <;> rcases h'.2.2.1 with w | w
  · exact z.2.trans w.2.symm
  · exact absurd (z.1.symm.trans w.1) (by decide)
  · exact absurd (z.1.symm.trans w.1) (by decide)
  · exact z.2.trans w.2.symm
theorem pos16 (x : Int32) : 0 ≤ x &&& 65535 := by
  refine Int32.not_lt.mp (nn31 ?_)
  rw [b_and, b_65535]
  simp
theorem bmS_sI {S : Nat → Int32} {x R aw : Int32} (h1 : ∃ y, y < 8 ∧ S 1 = nI y) (h0 : 0 ≤ S 0) (hx : x = 1 ∨ x = 2) (h37 : S 3 &&& 2 = 0 → S 7 = 0) : sI (bmS S x R aw) := by
  refine ⟨h1, h0, hx, fun z => h37 (or_2 (x := x) z), fun z => ?_⟩
  have e : x = 2 := z
  show ¬ (S 3 ||| x) &&& 2 = 0
  rw [e]
  exact or_22 _
theorem rf_decide {u : pj_M} {s n : Nat} {L L' : List (Nat → Int32)} {pk m : List Int32} {tk id au code tok bg rn : Int32} {U2 U3 : Nat → Int32} {ms : List mT} {K : pj_M → Prop} (hs : s < 2) (h : MS u s L) (hI : sIL L) (hb : bX u) (hP : mP u pk) (pb : bl pk) (hr : rP pk) (h14 : u 217 14 = tk) (htk : tk = -1 ∨ 0 ≤ tk) (hm : mm u ms) (hU : ∀ y, y < 8 → U2 y = u 219 y ∧ U3 y = u 220 y ∧ (u 218 y = 0 ↔ U3 y = 0))
    (hD : deR U2 U3 (nI s) (u 240 s) (u 241 s) pk tk L L' code tok m bg rn n)
    (k : ∀ u', MS u' s L' → sIL L' → bX u' → mP u' m → (tok = -1 ∨ 0 ≤ tok) → mm u' ms → u' 240 s = bg → u' 241 s = rn → (∀ a, 251 ≤ a → a ≤ 277 → u' a = u a) → frV s u u' → pw_Mo_answer u' (nI s) id au code tok K) : pw_Mo_decide u (nI s) id au K := by
  have n4 := h.2.1
  have opU : ∀ x, opM u pk x → opC U3 pk x := fun x z => ⟨z.1, z.2.1, z.2.2.1, z.2.2.2.1, z.2.2.2.2.1, fun w => z.2.2.2.2.2 ((hU x z.2.2.2.1).2.2.mpr w)⟩
  have opV : ∀ x, opC U3 pk x → opM u pk x := fun x z => ⟨z.1, z.2.1, z.2.2.1, z.2.2.2.1, z.2.2.2.2.1, fun w => z.2.2.2.2.2 ((hU x z.2.2.2.1).2.2.mp w)⟩
  -- an end: the packet c5, no token
  have fin : ∀ (r pc cd : Int32) (o : Option Nat) (u1 : pj_M), ((r = 1 ∧ pc = 3 ∧ cd = 2) ∨ (r = 0 ∧ pc = 4 ∧ cd = 3)) → (∀ j, o = some j → j < L.length) → fh u u1 → (∀ u', MS u' s (dO L o) → sIL (dO L o) → bX u' → mP u' (ph pc (aT pk 1) 0) → mm u' ms → (∀ a, (a < 242 ∨ 250 < a) → a ≠ 217 → a ≠ 227 → u' a = u a) → frV s u u' → pw_Mo_answer u' (nI s) id au cd (-1) K) → pb_Mo_decide_90 K u1 (nI s) id au (ix s o) (aT pk 1) r := by
    intro r pc cd o u1 hrc ho g1 kk
    have s124 : ∀ u2 : pj_M, MS u2 s (dO L o) → sIL (dO L o) → bX u2 → mm u2 ms → (∀ a, (a < 242 ∨ 250 < a) → a ≠ 217 → u2 a = u a) → frV s u u2 → pb_Mo_decide_124 K u2 (nI s) id au (aT pk 1) r := by
      intro u2 M2 I2 b2 m2 o2 f2
      rcases hrc with ⟨e1, e2, e3⟩ | ⟨e1, e2, e3⟩
      · subst e1; subst e2; subst e3
        refine br_t rfl (sp_Mo_packet (fun u3 P3 g3 => br_t rfl (kk u3 ?_ I2 (fun x hx => by rw [g3.cells 249 (by decide)]; exact b2 x hx) P3 (m2.gs g3.gs) (fun a h1 h2 h3 => (g3.1 a h2 h3).trans (o2 a h1 h2)) (f2.tr g3.gs.gm.frV))))
        exact ⟨by rw [g3.cells 242 (by decide)]; exact M2.1, M2.2.1, fun t ht => (M2.2.2 t ht).keep (fun a h1 h2 => by rw [g3.cells a (by omega)])⟩
      · subst e1; subst e2; subst e3
        refine br_f (by decide) (sp_Mo_packet (fun u3 P3 g3 => br_f (by decide) (kk u3 ?_ I2 (fun x hx => by rw [g3.cells 249 (by decide)]; exact b2 x hx) P3 (m2.gs g3.gs) (fun a h1 h2 h3 => (g3.1 a h2 h3).trans (o2 a h1 h2)) (f2.tr g3.gs.gm.frV))))
        exact ⟨by rw [g3.cells 242 (by decide)]; exact M2.1, M2.2.1, fun t ht => (M2.2.2 t ht).keep (fun a h1 h2 => by rw [g3.cells a (by omega)])⟩
    have M1 : MS u1 s L := ⟨by rw [g1.cells 242 (by decide)]; exact h.1, h.2.1, fun t ht => (h.2.2 t ht).keep (fun a h1 h2 => by rw [g1.cells a (by omega)])⟩
    have b1 : bX u1 := fun x hx => by rw [g1.cells 249 (by decide)]; exact hb x hx
    have r2 : ¬ r = 2 := by rcases hrc with z | z <;> rw [z.1] <;> decide
    refine br_f r2 ?_
    cases o with
    | none => exact br_t (show (-1 : Int32) < 0 by decide) (s124 u1 M1 hI b1 (hm.gs g1.gs) (fun a _ h2 => g1.1 a h2) g1.gs.gm.frV)
    | some j =>
      have hj := ho j rfl
      refine br_f (Int32.not_lt.mpr (nI_nn (by omega))) (sp_Mo_endSession hs M1 hj b1 (fun u2 M2 b2 o2 f2 => s124 u2 M2 (hI.er hj) b2 ?_ (fun a h1 h2 => (o2 a h1).trans (g1.1 a h2)) (g1.gs.gm.frV.tr f2)))
      exact (hm.gs g1.gs).of (fun a _ _ => o2 a (by omega))
  match n, hD with
  | 0, hD =>
    obtain ⟨o, hO, n1, n2, e1, e2, e3, e4, e5, e6⟩ := hD
    subst e1; subst e2; subst e3; subst e4; subst e5; subst e6
    refine wk_decide hs h hI hb hP pb hr h14 htk (fun o' hO' _ _ u' g => ?_) (fun k' y' hv z => ?_) (fun _ x _ z => absurd (opU x z) (n1 x)) (fun k' y' mt hv z => ?_) (fun k' y' hv z => ?_)
    · have := hO'.uniq hO
      subst this
      exact fin 0 4 3 o' u' (Or.inr ⟨rfl, rfl, rfl⟩) (fun j ej => by rw [ej] at hO; exact hO.1) g (fun u2 a1 a2 a3 a4 a5 a6 a7 => k u2 a1 a2 a3 a4 (Or.inl rfl) a5 (by rw [a6 240 (by decide) (by decide) (by decide)]) (by rw [a6 241 (by decide) (by decide) (by decide)]) (fun a h1 h2 => a6 a (by omega) (by omega) (by omega)) a7)
    · exact absurd ((okI_cg (hU y' hv.2.2.2.2.1).1).mpr z) (n2 k' y' (hO.uniq hv.1) hv).1
    · exact absurd ((swI_cg (hU y' hv.2.2.2.2.1).2.1).mpr z) ((n2 k' y' (hO.uniq hv.1) hv).2.1 mt)
    · exact absurd ((fpI_cg (hU y' hv.2.2.2.2.1).1).mpr z) (n2 k' y' (hO.uniq hv.1) hv).2.2
  | 1, hD =>
    obtain ⟨j, y, hv0, ok, e1, e2, e3, e4, e5, e6⟩ := hD
    subst e1; subst e2; subst e3; subst e4; subst e5; subst e6
    have hy := (hU y hv0.2.2.2.2.1)
    refine wk_decide hs h hI hb hP pb hr h14 htk (fun o' hO' _ nn u' g => ?_) (fun k' y' hv z u' g => ?_) (fun _ x _ z => absurd z.2.1 hv0.2.2.1) (fun k' y' mt hv z => ?_) (fun k' y' hv z => ?_)
    · exact absurd ((okI_cg hy.1).mp ok) (nn j y (hO'.uniq hv0.1) hv0).1
    · obtain ⟨ek, ey⟩ := hv0.uniq hv
      subst ek; subst ey
      exact fin 1 3 2 (some k') u' (Or.inl ⟨rfl, rfl, rfl⟩) (fun j ej => by cases ej; exact hv.1.1) g (fun u2 a1 a2 a3 a4 a5 a6 a7 => k u2 a1 a2 a3 a4 (Or.inl rfl) a5 (by rw [a6 240 (by decide) (by decide) (by decide)]) (by rw [a6 241 (by decide) (by decide) (by decide)]) (fun a h1 h2 => a6 a (by omega) (by omega) (by omega)) a7)
    · obtain ⟨ek, ey⟩ := hv0.uniq hv
      subst ek; subst ey
      exact (x_ok_sw ok z).elim
    · obtain ⟨ek, ey⟩ := hv0.uniq hv
      subst ek; subst ey
      exact (x_ok_fp ok z).elim
  | 2, hD =>
    obtain ⟨x, σ0, op, e1, e2, e3, e4, e5, e6⟩ := hD
    subst e1; subst e2; subst e3; subst e4; subst e5; subst e6
    have ux := hU x op.2.2.2.1
    refine wk_decide hs h hI hb hP pb hr h14 htk (fun o' hO' nn _ u' g => absurd (opV x op) (nn x)) (fun k' y' hv z => absurd op.2.1 hv.2.2.1) (fun x0 x' u' z a1 a2 a3 a4 a5 a6 a7 a8 a9 => br_t rfl ?_) (fun k' y' mt hv z => absurd op.2.1 hv.2.2.1) (fun k' y' hv z => absurd op.2.1 hv.2.2.1)
    have ex : x' = x := (nI_eq (by have := z.2.2.2.1; omega) (by have := op.2.2.2.1; omega)).mp (z.2.2.2.2.1.symm.trans op.2.2.2.2.1)
    subst ex
    unfold pb_Mo_decide_98
    rw [a4]
    rw [← ux.1, ← ux.2.1] at a1 a3
    have mt12 : mtd (U3 x') = 1 ∨ mtd (U3 x') = 2 := by
      unfold mtd
      split
      · exact Or.inr rfl
      · exact Or.inl rfl
    have IL : sIL (if L.length = 4 then L.eraseIdx 0 else L) := by
      split
      · exact hI.er (by omega)
      · exact hI
    refine k u' (a1 σ0) (IL.push (bmS_sI ⟨x', op.2.2.2.1, rfl⟩ (pos16 _) mt12 (fun _ => rfl))) a2 a3 (Or.inr (pos16 _)) ?_ a5 a6 (fun a h1 h2 => a7 a (by omega) (by omega) (by omega)) a9
    exact hm.keep (a8 4 (by decide)) (a7 _ (by decide) (by decide) (by decide)) (a7 _ (by decide) (by decide) (by decide)) (a7 _ (by decide) (by decide) (by decide)) (a7 _ (by decide) (by decide) (by decide))
  | 3, hD =>
    obtain ⟨j, y, x, hv0, sw, e1, e2, e3, e4, e5, e6⟩ := hD
    subst e1; subst e2; subst e3; subst e4; subst e5; subst e6
    have hy := (hU y hv0.2.2.2.2.1)
    have sw' := (swI_cg hy.2.1).mp sw
    refine wk_decide hs h hI hb hP pb hr h14 htk (fun o' hO' _ nn u' g => absurd sw' ((nn j y (hO'.uniq hv0.1) hv0).2.1 x)) (fun k' y' hv z u' g => ?_) (fun _ x _ z => absurd z.2.1 hv0.2.2.1) (fun k' y' mt hv z h12 u' a1 a2 a3 a4 a5 a6 a7 a8 a9 a10 => br_t rfl ?_) (fun k' y' hv z => ?_)
    · obtain ⟨ek, ey⟩ := hv0.uniq hv
      subst ek; subst ey
      exact (x_ok_sw z sw).elim
    · obtain ⟨ek, ey⟩ := hv0.uniq hv
      subst ek; subst ey
      have emt := sw_uniq z sw'
      subst emt
      have hj := hv.1.1
      have sj := h.2.2 k' hj
      obtain ⟨i1, i0, i2, i37, i23⟩ := hI k' hj
      unfold pb_Mo_decide_98
      rw [a2, show u 243 (4 * s + k') = sg L k' 0 from sj.1 0 (by decide)]
      rw [← hy.1] at a1 a6
      have arr : ∀ a, 243 ≤ a → a ≤ 250 → ∀ q, q ≠ 4 * s + k' → u' a q = u a q := by
        intro a h1 h2 q hq
        have hc : a = 243 ∨ a = 244 ∨ a = 245 ∨ a = 246 ∨ a = 247 ∨ a = 248 ∨ a = 249 ∨ a = 250 := by omega
        rcases hc with e | e | e | e | e | e | e | e <;> subst e
        · rw [a9 243 (by decide) (by decide) (by decide) (by decide)]
        · rw [a9 244 (by decide) (by decide) (by decide) (by decide)]
        · rw [a3, up_k hq]
        · rw [a4, up_k hq]
        · rw [a5, up_k hq]
        · rw [a6, up_k hq]
        · rw [a7, up_k hq]
        · rw [a9 250 (by decide) (by decide) (by decide) (by decide)]
      have z7 : mt = 2 → sg L k' 7 = 0 := by
        intro e
        apply i37
        rcases z.2.2.1 with w | w
        · rw [e] at w
          rcases and1 (u 220 y' &&& (sg L k' 3 ^^^ (-1))) with q | q <;> rw [q] at w <;> exact absurd w.2 (by decide)
        · exact not2 (a := u 220 y') (by rw [← w.2]; exact z.2.2.2)
      refine k u' (MS.set h hj (by rw [a9 242 (by decide) (by decide) (by decide) (by decide)]) arr ⟨q5 ?_ ?_ ?_ ?_ ?_ ?_, fun e => ⟨?_, fun w => absurd (z7 e) w⟩⟩) (hI.set hj (bmS_sI i1 i0 h12 i37)) (fun q hq => ?_) a1 (Or.inr i0) ?_ ?_ ?_ (fun a h1 h2 => a9 a (by omega) (by omega) (by omega) (by omega)) ⟨fun a h1 h2 h3 h4 h5 h6 => a9 a h1 h4 (by omega) (by omega), fun k h1 h2 => a10 k (by omega), fun a q h' hq => ?_, fun a q h' hq => ?_, fun q _ => by rw [a9 257 (by decide) (by decide) (by decide) (by decide)], fun q _ => by rw [a9 277 (by decide) (by decide) (by decide) (by decide)]⟩
      · rw [a9 243 (by decide) (by decide) (by decide) (by decide)]; exact sj.1 0 (by decide)
      · rw [a9 244 (by decide) (by decide) (by decide) (by decide)]; exact sj.1 1 (by decide)
      · rw [a3, up_s]; rfl
      · rw [a4, up_s, show u 246 (4 * s + k') = sg L k' 3 from sj.1 3 (by decide)]; rfl
      · rw [a5, up_s]; rfl
      · rw [a6, up_s]; rfl
      · rw [a7, up_s]; exact (z7 e).symm
      · by_cases c : q = 4 * s + k'
        · rw [c, a7, up_s]; exact Or.inl rfl
        · rw [a7, up_k c]; exact hb q hq
      · exact hm.keep (a10 4 (by decide)) (a9 _ (by decide) (by decide) (by decide) (by decide)) (a9 _ (by decide) (by decide) (by decide) (by decide)) (a9 _ (by decide) (by decide) (by decide) (by decide)) (a9 _ (by decide) (by decide) (by decide) (by decide))
      · rw [a9 240 (by decide) (by decide) (by decide) (by decide)]
      · rw [a8, up_s]
      · by_cases c : a = 241
        · rw [c, a8, up_k hq]
        · rw [a9 a (by omega) (by omega) c (by omega)]
      · by_cases c : 252 ≤ a
        · rw [a9 a (by omega) (by omega) (by omega) (by omega)]
        · exact arr a (by omega) (by omega) q (by omega)
    · obtain ⟨ek, ey⟩ := hv0.uniq hv
      subst ek; subst ey
      exact (x_sw_fp sw z).elim
  | 4, hD =>
    obtain ⟨j, y, hv0, fp, e1, e2, e3, e4, e5, e6⟩ := hD
    subst e1; subst e2; subst e3; subst e4; subst e5; subst e6
    have hy := (hU y hv0.2.2.2.2.1)
    have fp' := (fpI_cg hy.1).mp fp
    refine wk_decide hs h hI hb hP pb hr h14 htk (fun o' hO' _ nn u' g => absurd fp' (nn j y (hO'.uniq hv0.1) hv0).2.2) (fun k' y' hv z u' g => ?_) (fun _ x _ z => absurd z.2.1 hv0.2.2.1) (fun k' y' mt hv z => ?_) (fun k' y' hv z u' a1 a2 a3 a4 a5 a6 a7 => br_t rfl ?_)
    · obtain ⟨ek, ey⟩ := hv0.uniq hv
      subst ek; subst ey
      exact (x_ok_fp z fp).elim
    · obtain ⟨ek, ey⟩ := hv0.uniq hv
      subst ek; subst ey
      exact (x_sw_fp z fp).elim
    · obtain ⟨ek, ey⟩ := hv0.uniq hv
      subst ek; subst ey
      have hj := hv.1.1
      have sj := h.2.2 k' hj
      obtain ⟨i1, i0, i2, i37, i23⟩ := hI k' hj
      unfold pb_Mo_decide_98
      rw [a2, show u 243 (4 * s + k') = sg L k' 0 from sj.1 0 (by decide)]
      rw [← hy.1] at a1
      have arr : ∀ a, 243 ≤ a → a ≤ 250 → ∀ q, q ≠ 4 * s + k' → u' a q = u a q := by
        intro a h1 h2 q hq
        by_cases c1 : a = 247
        · rw [c1, a3, up_k hq]
        · by_cases c2 : a = 249
          · rw [c2, a4, up_k hq]
          · by_cases c3 : a = 250
            · rw [c3, a5, up_k hq]
            · rw [a6 a (by omega) (by omega) c1 c2 c3]
      refine k u' (MS.set h hj (by rw [a6 242 (by decide) (by decide) (by decide) (by decide) (by decide)]) arr ⟨q5 ?_ ?_ ?_ ?_ ?_ ?_, fun e => ⟨?_, fun _ => ?_⟩⟩) (hI.set hj ⟨i1, i0, i2, fun w => absurd w (i23 fp.2.1), i23⟩) (fun q hq => ?_) a1 (Or.inr i0) ?_ ?_ ?_ (fun a h1 h2 => a6 a (by omega) (by omega) (by omega) (by omega) (by omega)) ⟨fun a h1 h2 h3 h4 h5 h6 => a6 a h1 h4 (by omega) (by omega) (by omega), fun k h1 h2 => a7 k (by omega), fun a q h' hq => ?_, fun a q h' hq => ?_, fun q _ => by rw [a6 257 (by decide) (by decide) (by decide) (by decide) (by decide)], fun q _ => by rw [a6 277 (by decide) (by decide) (by decide) (by decide) (by decide)]⟩
      · rw [a6 243 (by decide) (by decide) (by decide) (by decide) (by decide)]; exact sj.1 0 (by decide)
      · rw [a6 244 (by decide) (by decide) (by decide) (by decide) (by decide)]; exact sj.1 1 (by decide)
      · rw [a6 245 (by decide) (by decide) (by decide) (by decide) (by decide)]; exact sj.1 2 (by decide)
      · rw [a6 246 (by decide) (by decide) (by decide) (by decide) (by decide)]; exact sj.1 3 (by decide)
      · rw [a3, up_s]; rfl
      · rw [a6 248 (by decide) (by decide) (by decide) (by decide) (by decide)]; exact sj.1 5 (by decide)
      · rw [a4, up_s]; rfl
      · rw [a5, up_s]; rfl
      · by_cases c : q = 4 * s + k'
        · rw [c, a4, up_s]; exact Or.inr rfl
        · rw [a4, up_k c]; exact hb q hq
      · exact hm.keep (a7 4 (by decide)) (a6 _ (by decide) (by decide) (by decide) (by decide) (by decide)) (a6 _ (by decide) (by decide) (by decide) (by decide) (by decide)) (a6 _ (by decide) (by decide) (by decide) (by decide) (by decide)) (a6 _ (by decide) (by decide) (by decide) (by decide) (by decide))
      · rw [a6 240 (by decide) (by decide) (by decide) (by decide) (by decide)]
      · rw [a6 241 (by decide) (by decide) (by decide) (by decide) (by decide)]
      · rw [a6 a (by omega) (by omega) (by omega) (by omega) (by omega)]
      · by_cases c : 252 ≤ a
        · rw [a6 a (by omega) (by omega) (by omega) (by omega) (by omega)]
        · exact arr a (by omega) (by omega) q (by omega)
  | n + 5, hD => exact absurd hD (fun z => z)
