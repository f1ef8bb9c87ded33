/-! The pure part: messages pass -/
def Rel (u : pj_M) : Prop := ∃ ms, RC u u ∧ mb u ms ∧ mm u ms ∧ MWs ms
theorem Rel.mk {c' u' : pj_M} {ms : List mT} (R : RC c' u') (hb : mb c' ms) (hm : mm u' ms) (hw : MWs ms) (hc : ∀ a, a < 217 → u' a = c' a) : Rel u' :=
  ⟨ms, R.keep (fun a h => hc a (by omega)) (gr.of (fun _ _ => rfl)), hb.keep (fun a _ h _ _ => hc a (by omega)), hm, hw⟩
theorem mb.get {u : pj_M} {ms : List mT} {k : Nat} (h : mb u ms) (hk : k < ms.length) : ∃ r, u 5 k = (mg ms k).1 ∧ u 6 k = (mg ms k).2.1 ∧ (u 7 k).toNatClampNeg = r ∧ pj_T r = 3 ∧ rw_ u r (mg ms k).2.2 ∧ 10 ≤ r ∧ r < 89 := by
  obtain ⟨ρ, hr, h4, hn, he⟩ := h
  obtain ⟨a1, a2, a3, a4⟩ := hr.1 k (by omega)
  obtain ⟨e1, e2, e3⟩ := he k hk
  exact ⟨ρ k, e1, e2, by rw [a1]; exact nI_clamp (by omega), row_T _ a3 a2 a4, e3, a2, by omega⟩
theorem mm.len {u : pj_M} {ms : List mT} (h : mm u ms) : ms.length ≤ 40 := h.2.1
theorem lp_Mo_pass {K : Int32 → pj_M → Prop} {x2 x3 x4 : Int32} {k : Nat} {l : List Int32} (hk : k < 40) {u0 : pj_M} (l48 : l.length ≤ 48) (h : ∀ j, j < l.length → u0 224 (48 * k + j) = l.getD j 0) (kk : ∀ u', mR u' l → fR u0 u' → pb_Mo_pass_85 K u' (nI k) x2 x3 x4) : ∀ (d t : Nat) (u : pj_M), t + d = l.length → u 217 11 = nI l.length → (∀ j, j < t → u 226 j = l.getD j 0) → fR u0 u → pb_Mo_pass_51 K (nI k) x2 x3 x4 (d + 1) u (nI t) := by
  intro d
  induction d with
  | zero =>
    intro t u ht hp hj hf
    refine br_t (by rw [hp]; exact nI_le (by omega) (by omega)) ?_
    exact kk u ⟨hp, l48, fun j q => hj j (by omega)⟩ hf
  | succ d ih =>
    intro t u ht hp hj hf
    have e48 : (48 : Int32) * nI k + nI t = nI (48 * k + t) := by rw [show (48 : Int32) * nI k = nI (48 * k) from pk_mul 48 k, nI_add]
    refine br_f (by rw [hp]; exact nI_ge (by omega) (by omega)) ⟨by rw [e48]; exact vp_in_nI (by omega) (by decide), v48 (by omega), pu ?_⟩
    rw [nI_1, e48, nI_clamp (show 48 * k + t < 2 ^ 31 by omega), nI_clamp (show t < 2 ^ 31 by omega)]
    refine ih (t + 1) _ (by omega) (by rw [ps_i (by decide)]; exact hp) (fun j hj' => ?_) (hf.tr fR.a)
    by_cases e : j = t
    · rw [e, ps_s, hf.1 224 (by decide) (by decide)]; exact h t (by omega)
    · rw [ps_k (by omega)]; exact hj j (by omega)
theorem v40 {k : Nat} (h : k < 40) : vp_in (nI k) 40 := vp_in_nI h (by decide)
/-- the reference takes message k from its place -/
theorem rp_pass {u : pj_M} {ms : List mT} {k : Nat} {x2 : Int32} {K : Int32 → pj_M → Prop} (h : mm u ms) (hk : k < ms.length) (n0 : ¬ x2 < 0) (n2 : x2 ≤ 2) (kk : ∀ u', mR u' (mg ms k).2.2 → mm u' ms → gs u u' → pb_Mo_pass_85 K u' (nI k) x2 (mg ms k).1 (mg ms k).2.1) : pw_Mo_pass u (nI k) x2 K := by
  have l40 := h.2.1
  obtain ⟨e1, e2, e3, e4, e5⟩ := h.2.2 k hk
  refine br_f (Int32.not_lt.mpr (nI_nn (by omega))) (br_f (by rw [h.1]; exact nI_ge hk (by omega)) (br_f n0 (br_t n2 ⟨v40 (by omega), ?_⟩)))
  rw [nI_clamp (show k < 2 ^ 31 by omega), e1]
  refine plt ⟨v40 (by omega), ?_⟩
  rw [e2]
  refine plt ⟨v40 (by omega), pu ⟨(mg ms k).2.2.length + 1, ?_⟩⟩
  rw [e3]
  refine lp_Mo_pass (u0 := pj_set u 217 11 (nI (mg ms k).2.2.length)) (by omega) e4 (fun j hj => by rw [ps_i (by decide)]; exact e5 j hj) (fun u' r' g' => ?_) _ 0 _ (by omega) ps_s (fun j hj => absurd hj (Nat.not_lt_zero j)) fR.rf
  have gg : gs u u' := (fR.n.tr g').gs
  exact kk u' r' (h.gs gg) gg
theorem n10 : ¬ (1 : Int32) = 0 := by decide
theorem n20 : ¬ (2 : Int32) = 0 := by decide
theorem n21 : ¬ (2 : Int32) = 1 := by decide
theorem n30 : ¬ (3 : Int32) = 0 := by decide
theorem n31 : ¬ (3 : Int32) = 1 := by decide
theorem n32 : ¬ (3 : Int32) = 2 := by decide
/-- one call of pass on both sides -/
theorem lw_pass {u : pj_M} {x1 x2 : Int32} {K : Int32 → Int32 → pj_M → Prop} (R : Rel u) (k : ∀ r u', Rel u' → K r r u') : pw_PG_pass u x1 x2 fun r u1 => pw_Mo_pass u1 x1 x2 fun r' u2 => K r r' u2 := by
  obtain ⟨ms, C, hb, hm, hw⟩ := R
  have R0 : Rel u := ⟨ms, C, hb, hm, hw⟩
  have l40 := hm.2.1
  have no : ¬ ((∃ t, t < ms.length ∧ x1 = nI t) ∧ ¬ x2 < 0 ∧ x2 ≤ 2) → pw_Mo_pass u x1 x2 fun r' u2 => K 0 r' u2 := by
    intro hn
    refine br_c (fun _ => k 0 u R0) (fun h1 => ?_)
    obtain ⟨t, ht, e⟩ := nI_of h1
    refine br_c (fun _ => k 0 u R0) (fun h2 => br_c (fun _ => k 0 u R0) (fun h3 => br_f (fun h4 => hn ⟨⟨t, ?_, e⟩, h3, h4⟩) (k 0 u R0)))
    rw [hm.1, e] at h2
    exact Nat.lt_of_not_le (fun z => h2 (nI_le z ht))
  refine sp_Ma_has hb (fun t ht e => br_f (by decide) ?_) (fun hn => br_t rfl (no (fun z => hn z.1)))
  subst e
  refine br_c (fun h => no (fun z => z.2.1 h)) (fun n0 => br_c (fun n2 => ?_) (fun n2 => no (fun z => n2 z.2.2)))
  obtain ⟨r, g5, g6, g7, gT, gr_, r10, r89⟩ := hb.get ht
  obtain ⟨okw, okb⟩ := hw t ht
  have t31 : t < 2 ^ 31 := by omega
  refine ⟨v40 (by omega), ?_⟩
  rw [nI_clamp t31, g5]
  refine plt ⟨v40 (by omega), ?_⟩
  rw [g6]
  refine plt ⟨v40 (by omega), ?_⟩
  rw [g7]
  refine plt ⟨gT, sp_Ro_copy gr_ (by omega) (by omega) (fun u1 h1 f1 => ?_)⟩
  generalize hx : mg ms t = x at *
  have o1 : ∀ a, a ≠ 215 → a ≠ 216 → u1 a = u a := fun a h1 h2 => f1 a h1 h2
  have b1 : mb u1 ms := hb.keep (fun a h1 h2 _ _ => o1 a (by omega) (by omega))
  have rmm : ∀ w : pj_M, (∀ a, 217 ≤ a → w a = u a) → mm w ms := fun w h => hm.of (fun a h1 _ => h a h1)
  refine br_c (fun e2 => ?_) (fun ne2 => ?_)
  · -- a copy is sent
    subst e2
    refine sp_Ma_send b1 h1 (by decide) (fun c' m' g' => ?_)
    have oc : ∀ a, (a < 4 ∨ 90 ≤ a) → a ≠ 215 → a ≠ 216 → c' a = u a := fun a h1 h2 h3 => (g' a h1).trans (o1 a h2 h3)
    refine rp_pass (ms := ms) (rmm c' (fun a h => oc a (by omega) (by omega) (by omega))) ht (by decide) (by decide) (fun u2 r2 m2 s2 => br_t rfl ?_)
    rw [hx] at r2 ⊢
    refine sp_Mo_send m2 r2 (fun u3 m3 g3 => ?_)
    have gA : gm c' u3 := s2.gm.tr g3.gm
    exact k 1 u3 (Rel.mk (c' := c') (C.keep (fun a h => oc a (by omega) (by omega) (by omega)) ((gr.of (fun a h => oc a (by omega) (by omega) (by omega))).tr gA.gr)) m' m3 (hw.add ⟨okw, okb⟩) (fun a h => gA.1 a (by omega) (by omega) (by omega) (by omega)))
  refine sp_Ma_drop b1 ht (fun c0 m0 g0 => ?_)
  have oc0 : ∀ a, (a < 4 ∨ 90 ≤ a) → a ≠ 215 → a ≠ 216 → c0 a = u a := fun a h1 h2 h3 => (g0 a h1).trans (o1 a h2 h3)
  have w0 : MWs (ms.eraseIdx t) := hw.er ht
  -- the reference removes it
  have rem : ∀ (c' : pj_M) (rr : Int32), (∀ a, 217 ≤ a → c' a = u a) → (∀ u', mR u' x.2.2 → mm u' (ms.eraseIdx t) → gm c' u' → ((x2 = 1) → K rr 1 u') ∧ (¬ (x2 = 1) → pb_Mo_pass_111 (fun r' u2 => K rr r' u2) u' x.1 x.2.1)) → pw_Mo_pass c' (nI t) x2 fun r' u2 => K rr r' u2 := by
    intro c' rr hc' kk
    refine rp_pass (ms := ms) (rmm c' hc') ht n0 n2 (fun u2 r2 m2 s2 => br_f ne2 ?_)
    rw [hx] at r2 ⊢
    refine sp_Mo_remove m2 ht (fun u3 m3 g3 => ?_)
    exact kk u3 (r2.fM g3) m3 (s2.gm.tr g3.gm)
  refine br_c (fun e1 => ?_) (fun ne1 => ?_)
  · refine rem c0 1 (fun a h => oc0 a (by omega) (by omega) (by omega)) (fun u' r' m' g' => ⟨fun _ => ?_, fun z => absurd e1 z⟩)
    exact k 1 u' (Rel.mk (c' := c0) (C.keep (fun a h => oc0 a (by omega) (by omega) (by omega)) ((gr.of (fun a h => oc0 a (by omega) (by omega) (by omega))).tr g'.gr)) m0 m' w0 (fun a h => g'.1 a (by omega) (by omega) (by omega) (by omega)))
  have h215 : rw_ c0 215 x.2.2 := h1.keep (g0 _ (by decide)) (g0 _ (by decide))
  -- the relation before the step: class in c0, reference in u'
  have pre : ∀ (c' u' : pj_M), (∀ a, 217 ≤ a → c' a = c0 a) → gm c' u' → RC c0 u' := fun c' u' hc' g' => C.keep (fun a h => oc0 a (by omega) (by omega) (by omega)) ((gr.of (fun a h => (hc' a h).trans (oc0 a (by omega) (by omega) (by omega)))).tr g'.gr)
  have ref : ∀ (c' : pj_M), (∀ a, 217 ≤ a → c' a = c0 a) → ∀ a, 217 ≤ a → c' a = u a := fun c' hc' a h => (hc' a h).trans (oc0 a (by omega) (by omega) (by omega))
  have C0 : RC c0 c0 := C.keep (fun a h => oc0 a (by omega) (by omega) (by omega)) (gr.of (fun a h => oc0 a (by omega) (by omega) (by omega)))
  obtain ⟨xw, xp, xl⟩ := x
  have okw : (((xw = 0 ∨ xw = 1) ∧ ∃ p, p < 4 ∧ xp = nI p) ∨ ((xw = 2 ∨ xw = 3) ∧ ∃ s, s < 2 ∧ xp = nI s)) := okw
  have okb : bl xl := okb
  have h215 : rw_ c0 215 xl := h215
  rcases okw with ⟨hw01, p, hp, ep⟩ | ⟨hw23, s, hs, es⟩
  · subst ep
    rcases hw01 with e | e
    · -- to the switch, at a port
      subst e
      refine br_t rfl ⟨v4 hp, ?_⟩
      rw [c4 hp]
      refine sp_Sw_takeFrame (by omega) (by omega) h215 m0 (fun n8 => ?_) (fun n c' o hS m' g' => ?_)
      · obtain ⟨la, as, ⟨a1, a2, a3, a4, a5, a6, a7⟩, rl, rq⟩ := C0.2.2.1 p hp
        have n4 := (a6.resolve_left n8).1
        exact ⟨la, rl.resolve_left n4⟩
      have hc' : ∀ a, 217 ≤ a → c' a = c0 a := fun a h => g' a (by omega) (by omega) (by omega)
      refine rem c' 1 (ref c' hc') (fun u' r' m2 g2 => ⟨fun z => absurd z ne1, fun _ => br_t rfl ?_⟩)
      have RC1 := pre c' u' hc' g2
      have P1 := RC1.2.2.1 p hp
      refine rf_switchTakes hp P1 RC1.2.2.2.1 r' okb m2 hS (fun u2 PP2 RW2 mm2 f2 => ?_)
      exact k 1 u2 (Rel.mk (c' := c') (RC1.port hp PP2 RW2 (RC1.2.2.2.2.2.2.2.2.step RC1.2.2.2.1 RW2 (ln_po hS)) (fun a h1 h2 h3 => g' a (by omega) h2 h3) f2) m' mm2 (w0.omm (ok_po hp P1 RC1.2.2.2.1 okb hS)) (fun a h => (f2.1 a (by omega) (by omega) (by omega) (by omega) (by omega)).trans (g2.1 a (by omega) (by omega) (by omega) (by omega))))
    · -- to a host
      subst e
      refine br_f n10 (br_t rfl ⟨v4 hp, ?_⟩)
      rw [c4 hp]
      refine sp_Ho_takeFrame (by omega) (by omega) h215 m0 (fun n7 => ?_) (fun n c' o hS m' g' => ?_)
      · rcases (C0.2.1 p hp).2.2.2 with ⟨z, _⟩ | ⟨_, l, r', _, _, _, ar⟩
        · exact absurd z n7
        · exact ⟨l, r', ar.1⟩
      have hc' : ∀ a, 217 ≤ a → c' a = c0 a := fun a h => g' a (by omega) (by omega)
      refine rem c' 1 (ref c' hc') (fun u' r' m2 g2 => ⟨fun z => absurd z ne1, fun _ => br_f n10 (br_t rfl ?_)⟩)
      have RC1 := pre c' u' hc' g2
      have H1 := RC1.2.1 p hp
      refine rf_hostTakes hp H1 r' okb m2 hS (fun u2 RH2 mm2 f2 w2 => ?_)
      exact k 1 u2 (Rel.mk (c' := c') (RC1.host hp RH2 (fun a h1 h2 => g' a (by omega) h2) f2 w2) m' mm2 (w0.omm (ok_ho hp H1 hS)) (fun a h => (f2.1 a (by omega) (by omega) (by omega) (by omega) (by omega) (by omega)).trans (g2.1 a (by omega) (by omega) (by omega) (by omega))))
  · subst es
    rcases hw23 with e | e
    · -- to a server
      subst e
      refine br_f n20 (br_f n21 (br_t rfl ⟨v2 hs, ?_⟩))
      rw [c2 hs]
      obtain ⟨L, A, RS0⟩ := C0.2.2.2.2.1 s hs
      have RS0' := RS0
      obtain ⟨hC, hM, hI, hCA, hMA, hdK, e0, e1, hup, e15, e16⟩ := RS0'
      refine sp_Sv_takeRequest (L := L) (A := A) (by omega) h215 m0 hC (fun j hj => (hI j hj).1) (by rw [e1]; exact hCA) (fun n c' o hS m' g' => ?_)
      have hc' : ∀ a, 217 ≤ a → c' a = c0 a := fun a h => g' a (by omega) (by omega)
      refine rem c' 1 (ref c' hc') (fun u' r' m2 g2 => ⟨fun z => absurd z ne1, fun _ => br_f n20 (br_f n21 (br_t rfl ?_))⟩)
      have RC1 := pre c' u' hc' g2
      have q2 : ∀ a, 228 ≤ a → u' a = c0 a := fun a h => (g2.cells a h).trans (hc' a (by omega))
      have q0 : u' 217 0 = c0 217 0 := by rw [g2.2 0 (by decide) (by decide), hc' 217 (by decide)]
      have RS1 : RSx c0 u' s L A := RS0.keep (fun _ _ _ => rfl) (fun a h => by rw [q2 a (by omega)]) (fun a q h _ _ => by rw [q2 a (by omega)]) (fun q _ _ => by rw [q2 257 (by decide)]) q0
      refine rf_serverTakes hs RS1 RC1.1 RC1.2.2.2.2.2.1 r' okb m2 hS (fun u2 RS2 bX2 mm2 f2 w2 => ?_)
      exact k 1 u2 (Rel.mk (c' := c') (RC1.server hs RS2 bX2 (fun a h1 h2 => g' a (by omega) h2) f2 w2) m' mm2 (w0.omm (ok_sv hs RS1 hS)) (fun a h => (f2.1 a (by omega) (by omega) (by omega) (by omega) (by omega) (by omega)).trans (g2.1 a (by omega) (by omega) (by omega) (by omega))))
    · -- to the switch, from a server
      subst e
      refine br_f n30 (br_f n31 (br_f n32 ?_))
      have hsv : nI s = 0 ∨ nI s = 1 := by
        have : s = 0 ∨ s = 1 := by omega
        rcases this with e | e <;> subst e
        · exact Or.inl rfl
        · exact Or.inr rfl
      refine sp_Sw_takeAnswer h215 m0 (fun p hp n12 => ?_) (fun n c' o p hp hS m' g' => ?_)
      · obtain ⟨la, as, ⟨a1, a2, a3, a4, a5, a6, a7⟩, rl, rq⟩ := C0.2.2.1 p hp
        have n0 : ¬ c0 (185 + 7 * p) 12 = 0 := fun z => n12 (by rw [z]; decide)
        exact ⟨_, (rq.resolve_left n0).2⟩
      have hc' : ∀ a, 217 ≤ a → c' a = c0 a := fun a h => g' a (by omega) (by omega) (by omega)
      refine rem c' 1 (ref c' hc') (fun u' r' m2 g2 => ⟨fun z => absurd z ne1, fun _ => br_f n30 (br_f n31 (br_f n32 ?_))⟩)
      have RC1 := pre c' u' hc' g2
      refine rf_switchHears hsv hp RC1.2.2.1 RC1.2.2.2.1 r' okb m2 hS (fun u2 PP2 RW2 mm2 f2 => ?_)
      exact k 1 u2 (Rel.mk (c' := c') (RC1.port hp PP2 RW2 (RC1.2.2.2.2.2.2.2.2.step RC1.2.2.2.1 RW2 (ln_an hS)) (fun a h1 h2 h3 => g' a (by omega) h2 h3) f2) m' mm2 (w0.omm (ok_an hp (RC1.2.2.1 p hp) okb hS)) (fun a h => (f2.1 a (by omega) (by omega) (by omega) (by omega) (by omega)).trans (g2.1 a (by omega) (by omega) (by omega) (by omega))))
