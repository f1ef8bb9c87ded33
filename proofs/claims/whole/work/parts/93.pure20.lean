/-! The pure part: a host of the reference takes a frame: its leaves -/
theorem spk {u : pj_M} {code id t i' : Int32} {K : pj_M → Prop} (e : id = i') (k : ∀ u', mP u' (ph code i' t) → fP' u u' → K u') : pw_Mo_packet u code id t K := by
  subst e
  exact sp_Mo_packet k
theorem sad {u : pj_M} {l : List Int32} {x x' : Int32} {K : pj_M → Prop} (e : x = x') (hr : mP u l) (h2 : 2 < l.length) (hl : l.length < 48) (k : ∀ u', mP u' (pd l [x' &&& 255]) → fP' u u' → K u') : pw_Mo_addData u x K := by
  subst e
  exact sp_Mo_addData hr h2 hl k
theorem sai {u : pj_M} {l : List Int32} {v v' : Int32} {K : pj_M → Prop} (e : v = v') (hr : mP u l) (h2 : 2 < l.length) (hl : l.length + 4 ≤ 48) (k : ∀ u', mP u' (pd l (b4 v')) → fP' u u' → K u') : pw_Mo_addDataInt u v K := by
  subst e
  exact sp_Mo_addDataInt hr h2 hl k
theorem spv {u : pj_M} {id key r id' key' : Int32} {K : Int32 → pj_M → Prop} (e1 : id = id') (e2 : key = key') (hx : id' &&& 255 = id') (k : ∀ u', fh u u' → K (chal id' key' r) u') : pw_Mo_proved u id key r K := by
  subst e1
  subst e2
  exact sp_Mo_proved hx k
theorem smc {u : pj_M} {key b x y key' x' y' : Int32} {K : Int32 → pj_M → Prop} (e1 : key = key') (e2 : x = x') (e3 : y = y') (hb : b &&& 255 = b) (k : ∀ u', fh u u' → K (mPrf key' b x' y') u') : pw_Mo_mac u key b x y K := by
  subst e1
  subst e2
  subst e3
  exact sp_Mo_mac hb k
theorem smx {u : pj_M} {key x n key' n' : Int32} {K : Int32 → pj_M → Prop} (e1 : key = key') (e3 : n = n') (hx : x &&& 255 = x) (k : ∀ u', fh u u' → K (rnd key' x n') u') : pw_Mo_mixed u key x n K := by
  subst e1
  subst e3
  exact sp_Mo_mixed hx k
theorem fP'.rf {u : pj_M} : fP' u u := ⟨fun _ _ _ => rfl, fun _ _ => rfl⟩
theorem ph2_len (i t : Int32) : (ph 2 i t).length = 4 := by rw [ph2]; rfl
theorem ph1_len (i t : Int32) : (ph 1 i t).length = 4 := by rw [ph1]; rfl
theorem bI {h : Nat} (hh : h < 256) : nI h &&& 255 = nI h := b255 h hh
theorem st_cg {u v : pj_M} {i k : Nat} {w : Int32} (e : u i = v i) : (pj_set u i k w) i = (pj_set v i k w) i := by
  funext q
  by_cases h : q = k
  · rw [h, ps_s, ps_s]
  · rw [ps_k h, ps_k h, e]
theorem rH_upd {c c' u u' : pj_M} {h : Nat} (R : RH c u h) (ec : ∀ q, q ≠ 11 → q ≠ 12 → q ≠ 14 → c' (91 + 5 * h) q = c (91 + 5 * h) q) (k3 : keep3 (91 + 5 * h) c c') (e11 : c' (91 + 5 * h) 11 = u' 233 h) (e12 : c' (91 + 5 * h) 12 = u' 234 h) (eu : ∀ a, 228 ≤ a → a ≤ 238 → a ≠ 233 → a ≠ 234 → u' a = u a) : RH c' u' h := by
  obtain ⟨⟨a0, a1, a2, a3, a4, a5⟩, ⟨b1, b2, b3, b4⟩, d, e⟩ := R
  have gg : ∀ a, 228 ≤ a → a ≤ 238 → a ≠ 233 → a ≠ 234 → u' a h = u a h := fun a h1 h2 h3 h4 => by rw [eu a h1 h2 h3 h4]
  refine ⟨⟨?_, ?_, ?_, ?_, e11, e12⟩, ⟨?_, ?_, ?_, ?_⟩, ?_, ?_⟩
  · rw [ec 0 (by decide) (by decide) (by decide)]; exact a0
  · rw [ec 4 (by decide) (by decide) (by decide), gg 228 (by decide) (by decide) (by decide) (by decide)]; exact a1
  · rw [ec 5 (by decide) (by decide) (by decide), gg 229 (by decide) (by decide) (by decide) (by decide)]; exact a2
  · rw [ec 6 (by decide) (by decide) (by decide), gg 230 (by decide) (by decide) (by decide) (by decide)]; exact a3
  · rw [ec 8 (by decide) (by decide) (by decide), gg 235 (by decide) (by decide) (by decide) (by decide)]; exact b1
  · rw [ec 9 (by decide) (by decide) (by decide), gg 236 (by decide) (by decide) (by decide) (by decide)]; exact b2
  · rw [ec 10 (by decide) (by decide) (by decide), gg 237 (by decide) (by decide) (by decide) (by decide)]; exact b3
  · rw [ec 13 (by decide) (by decide) (by decide), gg 238 (by decide) (by decide) (by decide) (by decide)]; exact b4
  · rw [gg 228 (by decide) (by decide) (by decide) (by decide)]; exact d
  · rw [gg 231 (by decide) (by decide) (by decide) (by decide), ec 7 (by decide) (by decide) (by decide)]
    rcases e with e | ⟨e, l, r, n, n3, bb, ar⟩
    · exact Or.inl e
    · exact Or.inr ⟨e, l, r.keep k3.1 k3.2, n, n3, bb, ar.keep (fun j _ => by rw [eu 232 (by decide) (by decide) (by decide) (by decide)])⟩
theorem rH_same {c c' u u' : pj_M} {h : Nat} (R : RH c u h) (ec : c' (91 + 5 * h) = c (91 + 5 * h)) (k3 : keep3 (91 + 5 * h) c c') (eu : ∀ a, 228 ≤ a → a ≤ 238 → u' a = u a) : RH c' u' h :=
  rH_upd R (fun q _ _ _ => by rw [ec]) k3 (by rw [ec, eu 233 (by decide) (by decide)]; exact R.1.2.2.2.2.1) (by rw [ec, eu 234 (by decide) (by decide)]; exact R.1.2.2.2.2.2) (fun a h1 h2 _ _ => eu a h1 h2)
theorem he_of {c e u1 u2 : pj_M} {h : Nat} (R : RH c u1 h) (ec : ∀ q, q ≠ 8 → q ≠ 9 → q ≠ 10 → q ≠ 11 → q ≠ 13 → e (91 + 5 * h) q = c (91 + 5 * h) q) (eu : ∀ a, 228 ≤ a → a ≤ 234 → a ≠ 233 → u2 a = u1 a) (e11 : e (91 + 5 * h) 11 = u2 233 h) (e8 : e (91 + 5 * h) 8 = u2 235 h) (e9 : e (91 + 5 * h) 9 = u2 236 h) (e10 : e (91 + 5 * h) 10 = u2 237 h) (e13 : e (91 + 5 * h) 13 = u2 238 h) :
    (e (91 + 5 * h) 0 = nI h ∧ e (91 + 5 * h) 4 = u2 228 h ∧ e (91 + 5 * h) 5 = u2 229 h ∧ e (91 + 5 * h) 6 = u2 230 h ∧ e (91 + 5 * h) 11 = u2 233 h ∧ e (91 + 5 * h) 12 = u2 234 h) ∧ (e (91 + 5 * h) 8 = u2 235 h ∧ e (91 + 5 * h) 9 = u2 236 h ∧ e (91 + 5 * h) 10 = u2 237 h ∧ e (91 + 5 * h) 13 = u2 238 h) ∧ (u2 228 h = -1 ∨ 0 ≤ u2 228 h) := by
  obtain ⟨⟨a0, a1, a2, a3, a4, a5⟩, -, d, -⟩ := R
  have gg : ∀ a, 228 ≤ a → a ≤ 234 → a ≠ 233 → u2 a h = u1 a h := fun a h1 h2 h3 => by rw [eu a h1 h2 h3]
  have cc : ∀ q, q ≠ 8 → q ≠ 9 → q ≠ 10 → q ≠ 11 → q ≠ 13 → e (91 + 5 * h) q = c (91 + 5 * h) q := ec
  refine ⟨⟨?_, ?_, ?_, ?_, e11, ?_⟩, ⟨e8, e9, e10, e13⟩, ?_⟩
  · rw [cc 0 (by decide) (by decide) (by decide) (by decide) (by decide)]; exact a0
  · rw [cc 4 (by decide) (by decide) (by decide) (by decide) (by decide), gg 228 (by decide) (by decide) (by decide)]; exact a1
  · rw [cc 5 (by decide) (by decide) (by decide) (by decide) (by decide), gg 229 (by decide) (by decide) (by decide)]; exact a2
  · rw [cc 6 (by decide) (by decide) (by decide) (by decide) (by decide), gg 230 (by decide) (by decide) (by decide)]; exact a3
  · rw [cc 12 (by decide) (by decide) (by decide) (by decide) (by decide), gg 234 (by decide) (by decide) (by decide)]; exact a5
  · rw [gg 228 (by decide) (by decide) (by decide)]; exact d
theorem rf_ho_pk {c u : pj_M} {h : Nat} {f : List Int32} {K : pj_M → Prop} (hh : h < 4) (R : RH c u h) (hr : mR u f) (h4 : ¬ c (91 + 5 * h) 4 = -1) (ns : ¬ fS f) (p : fP f) (k : ∀ u1, mP u1 (f.drop 1) → RH c u1 h → gs u u1 → pb_Mo_hostTakes_34 K u1 (nI h)) : pw_Mo_hostTakes u (nI h) K := by
  refine ⟨v4 hh, br_t ?_ (sp_Mo_frame hr (fun s => absurd s ns) (fun _ _ u1 p1 g1 => br_t (Int32.le_refl _) (br_t rfl (k u1 p1 (rH_ser R (fun a h1 h2 => g1.1 a (by omega) (by omega))) g1.gs))) (fun _ np => absurd p np))⟩
  rw [c4 hh]
  rcases R.2.2.1 with z | z
  · exact absurd (R.1.2.1.trans z) h4
  · exact z
theorem gs.cells {u u' : pj_M} (g : gs u u') : ∀ a, 228 ≤ a → u' a = u a := fun a h => g.1 a (by omega) (by omega) (by omega)
theorem gm.cells {u u' : pj_M} (g : gm u u') : ∀ a, 228 ≤ a → u' a = u a := fun a h => g.1 a (by omega) (by omega) (by omega) (by omega)
theorem fP'.cells {u u' : pj_M} (g : fP' u u') : ∀ a, 228 ≤ a → u' a = u a := fun a h => g.1 a (by omega) (by omega)
theorem fh.cells {u u' : pj_M} (g : fh u u') : ∀ a, 228 ≤ a → u' a = u a := fun a h => g.1 a (by omega)
/-- leaf 3: the request is repeated -/
theorem rf_ho3 {c u : pj_M} {h : Nat} {pk : List Int32} {ms : List mT} {o : Option mT} {K : pj_M → Prop} (hh : h < 4) (R : RH c u h) (hp : mP u pk) (h1 : 1 < pk.length) (hm : mm u ms) (h7 : ¬ c (91 + 5 * h) 7 = 0) (hl : ∃ la, rw_ c (91 + 5 * h + 3) la ∧ aT la 1 = aT pk 1 ∧ o = some (0, c (91 + 5 * h) 0, 0 :: la)) (k : ∀ u', mm u' (om ms o) → gm u u' → c (91 + 5 * h) 7 = 1 → K u') : pw_Mo_requested u (nI h) K := by
  refine ⟨v4 hh, ?_⟩
  rw [c4 hh]
  rcases R.2.2.2 with ⟨e7, e⟩ | ⟨e7, l, r, n, n3, bb, ar⟩
  · exact absurd e7 h7
  obtain ⟨la, rl, q, ho⟩ := hl
  have el := rl.uniq r
  subst el
  have hl20 := ar.1
  refine br_f (fun z => ?_) ⟨by rw [i21]; exact vp_in_nI (by omega) (by decide), v48 (n := 1) (by decide), br_t ?_ ⟨v4 hh, pu ⟨la.length + 1, ?_⟩⟩⟩
  · rw [n] at z
    exact nI_ge (a := 0) (b := la.length) (by omega) (by omega) z
  · rw [i21, nI_clamp (by omega), ar.at (show 1 < la.length by omega)]
    exact q.trans (hp.at (j := 1) h1).symm
  rw [c4 hh, n]
  refine ll_requested_41 hh (u0 := pj_set u 217 16 (nI la.length)) (ar.keep (fun j _ => by rw [ps_i (by decide)])) (fun u' p' g' => ?_) la.length 0 _ (by omega) ps_s (fun j hj => absurd hj (Nat.not_lt_zero j)) fP'.rf
  have gg : fP' u u' := fP'.n.tr g'
  refine sp_Mo_sendFrame (hm.gs gg.gs) p' bb (by omega) (fun u2 h2 p2 g2 => k u2 ?_ (gg.gs.gm.tr g2) e7)
  rw [ho, R.1.1]
  exact h2
/-- leaf 4: the user is told -/
theorem rf_ho4 {c c' u : pj_M} {h : Nat} {pk : List Int32} {ms : List mT} {o : Option mT} {K : pj_M → Prop} (hh : h < 4) (R : RH c u h) (hp : mP u pk) (h3 : 3 < pk.length) (hm : mm u ms) (hq : c (91 + 5 * h) 7 = 0 ∨ ∃ la, rw_ c (91 + 5 * h + 3) la ∧ ¬ aT la 1 = aT pk 1) (t1 : aT pk 3 = 1) (hA : hoA (91 + 5 * h) c (pj_set c (91 + 5 * h) 11 0) c' o (pd (ph 2 (aT pk 1) 1) [c (91 + 5 * h) 4 &&& 255])) (k : ∀ u', RH c' u' h → mm u' (om ms o) → frH h u u' → wrS c c' u u' (91 + 5 * h) 1 14 → K u') : pw_Mo_requested u (nI h) K := by
  refine rq_79 hh R hp h3 hq (rq_124 hh hp h3 (fun s _ => br_t t1 ⟨v4 hh, pu ⟨v48 (n := 1) (by decide), ?_⟩⟩))
  rw [c4 hh, nr0]
  have o1 : ∀ a, a ≠ 233 → (pj_set u 233 h 0) a = u a := fun a ha => ps_i ha
  have s1 : (pj_set u 233 h 0) 233 h = 0 := ps_s
  have f1 : frH h u (pj_set u 233 h 0) := frH.set (by decide) (by decide) (by decide)
  generalize pj_set u 233 h 0 = u1 at o1 s1 f1 ⊢
  refine spk (i' := aT pk 1) (by rw [o1 227 (by decide)]; exact hp.at (j := 1) (by omega)) (fun u2 p2 g2 => ⟨v4 hh, ?_⟩)
  try rw [c4 hh]
  refine sad (x' := c (91 + 5 * h) 4) (by rw [g2.cells 228 (by decide), o1 228 (by decide)]; exact R.1.2.1.symm) p2 (by rw [ph2_len]; decide) (by rw [ph2_len]; decide) (fun u3 p3 g3 => ?_)
  have g := g2.tr g3
  have o3 : ∀ a, 228 ≤ a → a ≠ 233 → u3 a = u a := fun a ha hb => (g.cells a ha).trans (o1 a hb)
  refine rf_answer hh ((hm.keep (by rw [o1 217 (by decide)]) (o1 _ (by decide)) (o1 _ (by decide)) (o1 _ (by decide)) (o1 _ (by decide))).gs g.gs) p3 (bl_pd (bl_ph2 (by decide)) (bl_cons (and255 _) bl_nil) (by rw [ph2_len]; exact (by decide : 4 + 1 < 256))) (by rw [pd_len, ph2_len]; omega) (by rw [pd_len, ph2_len]; exact (by decide : 4 + 1 ≤ 20)) hA R.1.1 (f1.tr g.gs.gm.frH) (o3 277 (by decide) (by decide)) (ps_k (by decide)) (he_of R (fun q _ _ _ hq _ => ps_k hq) (fun a h1 h2 h3 => o3 a h1 h3) ?_ ?_ ?_ ?_ ?_) k
  · rw [ps_s, g.cells 233 (by decide), s1]
  · rw [ps_k (by decide), o3 235 (by decide) (by decide)]; exact R.2.1.1
  · rw [ps_k (by decide), o3 236 (by decide) (by decide)]; exact R.2.1.2.1
  · rw [ps_k (by decide), o3 237 (by decide) (by decide)]; exact R.2.1.2.2.1
  · rw [ps_k (by decide), o3 238 (by decide) (by decide)]; exact R.2.1.2.2.2
/-- leaf 5: another method is asked for -/
theorem rf_ho5 {c c' u : pj_M} {h : Nat} {pk : List Int32} {ms : List mT} {o : Option mT} {K : pj_M → Prop} (hh : h < 4) (R : RH c u h) (hp : mP u pk) (h3 : 3 < pk.length) (hm : mm u ms) (hq : c (91 + 5 * h) 7 = 0 ∨ ∃ la, rw_ c (91 + 5 * h + 3) la ∧ ¬ aT la 1 = aT pk 1) (t1 : (aT pk 3 = 4 ∧ c (91 + 5 * h) 6 &&& 1 = 0) ∨ (aT pk 3 = 51 ∧ c (91 + 5 * h) 6 &&& 2 = 0)) (hA : (¬ c (91 + 5 * h) 6 &&& 1 = 0 ∧ hoA (91 + 5 * h) c c c' o (pd (ph 2 (aT pk 1) 3) [4])) ∨ (c (91 + 5 * h) 6 &&& 1 = 0 ∧ ¬ c (91 + 5 * h) 6 &&& 2 = 0 ∧ hoA (91 + 5 * h) c c c' o (pd (ph 2 (aT pk 1) 3) [51])) ∨ (c (91 + 5 * h) 6 &&& 1 = 0 ∧ c (91 + 5 * h) 6 &&& 2 = 0 ∧ hoA (91 + 5 * h) c c c' o (pd (ph 2 (aT pk 1) 3) [0]))) (k : ∀ u', RH c' u' h → mm u' (om ms o) → frH h u u' → wrS c c' u u' (91 + 5 * h) 1 14 → K u') : pw_Mo_requested u (nI h) K := by
  have e6 := R.1.2.2.2.1
  refine rq_79 hh R hp h3 hq (rq_124 hh hp h3 (fun s hs => ?_))
  have s0 : s = 0 := by
    rcases hs with ⟨q, _⟩ | ⟨_, q⟩
    · exact q
    · exfalso
      rw [← e6] at q
      rcases t1 with ⟨a, b⟩ | ⟨a, b⟩ <;> rcases q with ⟨a', b'⟩ | ⟨a', b'⟩
      · exact b' b
      · rw [a] at a'; exact absurd a' (by decide)
      · rw [a] at a'; exact absurd a' (by decide)
      · exact b' b
  subst s0
  have fin : ∀ (u1 : pj_M) (x : Int32), x &&& 255 = x → mP u1 (ph 2 (aT pk 1) 3) → fP' u u1 → hoA (91 + 5 * h) c c c' o (pd (ph 2 (aT pk 1) 3) [x]) → pb_Mo_requested_225 K u1 (nI h) 1 x := by
    intro u1 x hx p1 g1 hA
    refine sad (x' := x) rfl p1 (by rw [ph2_len]; decide) (by rw [ph2_len]; decide) (fun u3 p3 g3 => ?_)
    rw [hx] at p3
    have g := g1.tr g3
    refine rf_answer hh (hm.gs g.gs) p3 (bl_pd (bl_ph2 (by decide)) (bl_cons hx bl_nil) (by rw [ph2_len]; exact (by decide : 4 + 1 < 256))) (by rw [pd_len, ph2_len]; omega) (by rw [pd_len, ph2_len]; exact (by decide : 4 + 1 ≤ 20)) hA R.1.1 g.gs.gm.frH (g.cells 277 (by decide)) rfl (he_of R (fun q _ _ _ _ _ => rfl) (fun a h1 h2 h3 => g.cells a h1) ?_ ?_ ?_ ?_ ?_) k
    · rw [g.cells 233 (by decide)]; exact R.1.2.2.2.2.1
    · rw [g.cells 235 (by decide)]; exact R.2.1.1
    · rw [g.cells 236 (by decide)]; exact R.2.1.2.1
    · rw [g.cells 237 (by decide)]; exact R.2.1.2.2.1
    · rw [g.cells 238 (by decide)]; exact R.2.1.2.2.2
  have go : pb_Mo_requested_180 K u (nI h) 1 := by
    refine ⟨v48 (n := 1) (by decide), spk (i' := aT pk 1) (hp.at (j := 1) (by omega)) (fun u1 p1 g1 => ⟨v4 hh, ?_⟩)⟩
    have eq : u1 230 h = c (91 + 5 * h) 6 := by rw [g1.cells 230 (by decide)]; exact e6.symm
    rw [c4 hh, eq]
    rcases hA with ⟨a, A⟩ | ⟨a, b, A⟩ | ⟨a, b, A⟩
    · exact br_f a (fin u1 4 (by decide) p1 g1 A)
    · refine br_t a ⟨v4 hh, ?_⟩
      rw [c4 hh, eq]
      exact br_f b (fin u1 51 (by decide) p1 g1 A)
    · refine br_t a ⟨v4 hh, ?_⟩
      rw [c4 hh, eq]
      exact br_t b (fin u1 0 (by decide) p1 g1 A)
  rcases t1 with ⟨a, _⟩ | ⟨a, _⟩
  · rw [a]
    exact br_f (by decide) (br_t rfl (br_t rfl go))
  · rw [a]
    exact br_f (by decide) (br_f (by decide) (br_t rfl (br_t rfl go)))
/-- leaf 6: the challenge is met -/
theorem rf_ho6 {c c' u : pj_M} {h : Nat} {pk : List Int32} {ms : List mT} {o : Option mT} {K : pj_M → Prop} (hh : h < 4) (R : RH c u h) (hp : mP u pk) (hb : bl pk) (hm : mm u ms) (hq : c (91 + 5 * h) 7 = 0 ∨ ∃ la, rw_ c (91 + 5 * h + 3) la ∧ ¬ aT la 1 = aT pk 1) (t1 : aT pk 3 = 4) (t2 : ¬ c (91 + 5 * h) 6 &&& 1 = 0) (h8 : pk.length = 8) (hA : hoA (91 + 5 * h) c (pj_set c (91 + 5 * h) 11 1) c' o (pd (ph 2 (aT pk 1) 4) (b4 (chal (aT pk 1) (c (91 + 5 * h) 5) (iA pk 4))))) (k : ∀ u', RH c' u' h → mm u' (om ms o) → frH h u u' → wrS c c' u u' (91 + 5 * h) 1 14 → K u') : pw_Mo_requested u (nI h) K := by
  have e6 := R.1.2.2.2.1
  refine rq_79 hh R hp (by omega) hq (rq_124 hh hp (by omega) (fun s hs => ?_))
  have s1 : s = 1 := by
    rcases hs with ⟨_, q⟩ | ⟨q, _⟩
    · exact absurd (Or.inl ⟨t1, by rw [← e6]; exact t2⟩) q
    · exact q
  subst s1
  rw [t1]
  refine br_f (by decide) (br_t rfl (br_f (by decide) (br_t rfl (br_t (by rw [hp.1, h8]; rfl) ⟨v48 (n := 1) (by decide), v4 hh, sp_Mo_packetInt hp hb (i := 4) rfl (by omega) (spv (id' := aT pk 1) (key' := c (91 + 5 * h) 5) (hp.at (j := 1) (by omega)) ?_ (hb.at (by omega)) (fun u3 g3 => ⟨v4 hh, pu ⟨v48 (n := 1) (by decide), ?_⟩⟩))⟩))))
  · rw [c4 hh]; exact R.1.2.2.1.symm
  rw [c4 hh, nr1]
  have o1 : ∀ a, a ≠ 233 → (pj_set u3 233 h 1) a = u3 a := fun a ha => ps_i ha
  have s1 : (pj_set u3 233 h 1) 233 h = 1 := ps_s
  have f1 : frH h u (pj_set u3 233 h 1) := g3.gs.gm.frH.tr (frH.set (by decide) (by decide) (by decide))
  generalize pj_set u3 233 h 1 = u1 at o1 s1 f1 ⊢
  refine spk (i' := aT pk 1) (by rw [o1 227 (by decide), g3.1 227 (by decide)]; exact hp.at (j := 1) (by omega)) (fun u6 p6 g6 => sai rfl p6 (by rw [ph2_len]; decide) (by rw [ph2_len]; decide) (fun u7 p7 g7 => ?_))
  have g := g6.tr g7
  have o3 : ∀ a, 228 ≤ a → a ≠ 233 → u7 a = u a := fun a ha hb => (g.cells a ha).trans ((o1 a hb).trans (g3.cells a ha))
  refine rf_answer hh (((hm.gs g3.gs).keep (by rw [o1 217 (by decide)]) (o1 _ (by decide)) (o1 _ (by decide)) (o1 _ (by decide)) (o1 _ (by decide))).gs g.gs) p7 (bl_pd (bl_ph2 (by decide)) (bl_b4 _) (by rw [ph2_len, b4_len]; decide)) (by rw [pd_len, ph2_len]; omega) (by rw [pd_len, ph2_len, b4_len]; decide) hA R.1.1 (f1.tr g.gs.gm.frH) (o3 277 (by decide) (by decide)) (ps_k (by decide)) (he_of R (fun q _ _ _ hq _ => ps_k hq) (fun a h1 h2 h3 => o3 a h1 h3) ?_ ?_ ?_ ?_ ?_) k
  · rw [ps_s, g.cells 233 (by decide), s1]
  · rw [ps_k (by decide), o3 235 (by decide) (by decide)]; exact R.2.1.1
  · rw [ps_k (by decide), o3 236 (by decide) (by decide)]; exact R.2.1.2.1
  · rw [ps_k (by decide), o3 237 (by decide) (by decide)]; exact R.2.1.2.2.1
  · rw [ps_k (by decide), o3 238 (by decide) (by decide)]; exact R.2.1.2.2.2
