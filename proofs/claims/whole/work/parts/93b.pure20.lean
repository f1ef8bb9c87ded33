/-! The pure part: a host of the reference takes a frame: mutual proofs -/
theorem rf_mut1 {u : pj_M} {h : Nat} {pk : List Int32} {K : Int32 → pj_M → Prop} (hh : h < 4) (hp : mP u pk) (hb : bl pk) (h9 : pk.length = 9) (t : aT pk 4 = 1) (k : ∀ u', mP u' (pd (ph 2 (aT pk 1) 51) (2 :: (b4 (rnd (u 229 h) (nI h) (u 238 h)) ++ b4 (mPrf (u 229 h) 2 (iA pk 5) (rnd (u 229 h) (nI h) (u 238 h)))))) → u' 233 h = 0 → u' 235 h = 1 → u' 236 h = iA pk 5 → u' 237 h = rnd (u 229 h) (nI h) (u 238 h) → u' 238 h = u 238 h + 1 → (∀ a, a ≠ 217 → a ≠ 227 → a ≠ 233 → a ≠ 235 → a ≠ 236 → a ≠ 237 → a ≠ 238 → u' a = u a) → frH h u u' → u' 217 4 = u 217 4 → K 1 u') : pw_Mo_mutual u (nI h) K := by
  refine ⟨v48 (n := 4) (by decide), plt (sp_Mo_packetInt hp hb (i := 5) rfl (by omega) (br_t ((hp.at (j := 4) (by omega)).trans t) ⟨v4 hh, pu ⟨v4 hh, pu ⟨v4 hh, pu ⟨v4 hh, v4 hh, ?_⟩⟩⟩⟩))⟩
  (try rw [c4 hh]); rw [nr0, nr1]
  have o3 : ∀ a, a ≠ 233 → a ≠ 235 → a ≠ 236 → (pj_set (pj_set (pj_set u 233 h 0) 235 h 1) 236 h (iA pk 5)) a = u a := fun a h1 h2 h3 => by rw [ps_i h3, ps_i h2, ps_i h1]
  have w1 : (pj_set (pj_set (pj_set u 233 h 0) 235 h 1) 236 h (iA pk 5)) 233 h = 0 := by rw [ps_i (by decide), ps_i (by decide), ps_s]
  have w2 : (pj_set (pj_set (pj_set u 233 h 0) 235 h 1) 236 h (iA pk 5)) 235 h = 1 := by rw [ps_i (by decide), ps_s]
  have w3 : (pj_set (pj_set (pj_set u 233 h 0) 235 h 1) 236 h (iA pk 5)) 236 h = iA pk 5 := ps_s
  have f3 : frH h u (pj_set (pj_set (pj_set u 233 h 0) 235 h 1) 236 h (iA pk 5)) := (frH.set (by decide) (by decide) (by decide)).tr ((frH.set (by decide) (by decide) (by decide)).tr (frH.set (by decide) (by decide) (by decide)))
  generalize pj_set (pj_set (pj_set u 233 h 0) 235 h 1) 236 h (iA pk 5) = u3 at o3 w1 w2 w3 f3 ⊢
  refine smx (key' := u 229 h) (n' := u 238 h) (by rw [o3 229 (by decide) (by decide) (by decide)]) (by rw [o3 238 (by decide) (by decide) (by decide)]) (bI (by omega)) (fun u4 g4 => ⟨v4 hh, pu ⟨v4 hh, v4 hh, pu ⟨v4 hh, v4 hh, ?_⟩⟩⟩)
  try rw [c4 hh]
  generalize hR : rnd (u 229 h) (nI h) (u 238 h) = R at k ⊢
  have o4 : ∀ a, a ≠ 237 → a ≠ 238 → (pj_set (pj_set u4 237 h R) 238 h (pj_set u4 237 h R 238 h + 1)) a = u4 a := fun a h1 h2 => by rw [ps_i h2, ps_i h1]
  have x1 : (pj_set (pj_set u4 237 h R) 238 h (pj_set u4 237 h R 238 h + 1)) 237 h = R := by rw [ps_i (by decide), ps_s]
  have x2 : (pj_set (pj_set u4 237 h R) 238 h (pj_set u4 237 h R 238 h + 1)) 238 h = u 238 h + 1 := by rw [ps_s, ps_i (by decide), g4.cells 238 (by decide), o3 238 (by decide) (by decide) (by decide)]
  have f4 : frH h u4 (pj_set (pj_set u4 237 h R) 238 h (pj_set u4 237 h R 238 h + 1)) := (frH.set (by decide) (by decide) (by decide)).tr (frH.set (by decide) (by decide) (by decide))
  generalize pj_set (pj_set u4 237 h R) 238 h (pj_set u4 237 h R 238 h + 1) = u7 at o4 x1 x2 f4 ⊢
  have p7 : mP u7 pk := hp.keep (by rw [o4 217 (by decide) (by decide), g4.2 16 (by decide), o3 217 (by decide) (by decide) (by decide)]) (by rw [o4 227 (by decide) (by decide), g4.1 227 (by decide), o3 227 (by decide) (by decide) (by decide)])
  refine smc (key' := u 229 h) (x' := iA pk 5) (y' := R) (by rw [o4 229 (by decide) (by decide), g4.cells 229 (by decide), o3 229 (by decide) (by decide) (by decide)]) rfl x1 (by decide) (fun u8 g8 => ⟨v48 (n := 1) (by decide), spk (i' := aT pk 1) ((p7.fh g8).at (j := 1) (by omega)) (fun u10 p10 g10 => sad (x' := 2) rfl p10 (by rw [ph2_len]; decide) (by rw [ph2_len]; decide) (fun u11 p11 g11 => ⟨v4 hh, sai (v' := R) ?_ p11 (by rw [pd_len, ph2_len]; exact (by decide : 2 < 4 + 1)) (by rw [pd_len, ph2_len]; exact (by decide : 4 + 1 + 4 ≤ 48)) (fun u12 p12 g12 => sai rfl p12 (by rw [pd_len, pd_len, ph2_len]; exact (by decide : 2 < 4 + 1 + 4)) (by rw [pd_len, pd_len, ph2_len]; exact (by decide : 4 + 1 + 4 + 4 ≤ 48)) (fun u13 p13 g13 => ?_))⟩))⟩)
  · (try rw [c4 hh]); rw [(g10.tr g11).cells 237 (by decide), g8.cells 237 (by decide), x1]
  have g := (g10.tr g11).tr (g12.tr g13)
  have ss : ∀ a, 228 ≤ a → u13 a = u7 a := fun a ha => (g.cells a ha).trans (g8.cells a ha)
  have s4 : ∀ a, 228 ≤ a → a ≠ 237 → a ≠ 238 → u13 a = u3 a := fun a ha h1 h2 => (ss a ha).trans ((o4 a h1 h2).trans (g4.cells a ha))
  refine k u13 ?_ (by rw [s4 233 (by decide) (by decide) (by decide), w1]) (by rw [s4 235 (by decide) (by decide) (by decide), w2]) (by rw [s4 236 (by decide) (by decide) (by decide), w3]) (by rw [ss 237 (by decide), x1]) (by rw [ss 238 (by decide), x2]) (fun a h1 h2 h3 h4 h5 h6 h7 => ?_) (f3.tr (g4.gs.gm.frH.tr (f4.tr (g8.gs.gm.frH.tr g.gs.gm.frH)))) ?_
  · rw [pd_pd (by rw [pd_len, ph2_len]; exact (by decide : 2 < 4 + 1)), pd_pd (by rw [ph2_len]; decide)] at p13
    exact p13
  · rw [g.1 a h1 h2, g8.1 a h1, o4 a h6 h7, g4.1 a h1, o3 a h3 h4 h5]
  · rw [g.2 4 (by decide), g8.2 4 (by decide), o4 217 (by decide) (by decide), g4.2 4 (by decide), o3 217 (by decide) (by decide) (by decide)]
theorem rf_mut3 {u : pj_M} {h : Nat} {pk : List Int32} {K : Int32 → pj_M → Prop} (hh : h < 4) (hp : mP u pk) (hb : bl pk) (h9 : pk.length = 9) (t : aT pk 4 = 3) (h8 : ¬ u 235 h = 0) (hx : iA pk 5 = mPrf (u 229 h) 3 (u 237 h) (u 236 h)) (k : ∀ u', mP u' (pd (ph 2 (aT pk 1) 51) (4 :: b4 (mPrf (u 229 h) 4 (u 236 h) (u 237 h)))) → u' 233 h = 1 → (∀ a, a ≠ 217 → a ≠ 227 → a ≠ 233 → u' a = u a) → frH h u u' → u' 217 4 = u 217 4 → K 1 u') : pw_Mo_mutual u (nI h) K := by
  refine ⟨v48 (n := 4) (by decide), plt (sp_Mo_packetInt hp hb (i := 5) rfl (by omega) ?_)⟩
  rw [show u 227 (4 : Int32).toNatClampNeg = 3 from (hp.at (j := 4) (by omega)).trans t]
  refine br_f (by decide) (br_t rfl ⟨v4 hh, ?_⟩)
  try rw [c4 hh]
  refine br_f h8 ⟨v4 hh, v4 hh, v4 hh, ?_⟩
  try rw [c4 hh]
  refine sp_Mo_mac (by decide) (fun u1 g1 => br_t hx ⟨v4 hh, pu ⟨v4 hh, v4 hh, v4 hh, ?_⟩⟩)
  (try rw [c4 hh]); rw [nr1]
  have o3 : ∀ a, a ≠ 233 → (pj_set u1 233 h 1) a = u1 a := fun a h1 => ps_i h1
  have w1 : (pj_set u1 233 h 1) 233 h = 1 := ps_s
  have f3 : frH h u (pj_set u1 233 h 1) := g1.gs.gm.frH.tr (frH.set (by decide) (by decide) (by decide))
  generalize pj_set u1 233 h 1 = u3 at o3 w1 f3 ⊢
  have p3 : mP u3 pk := (hp.fh g1).keep (by rw [o3 217 (by decide)]) (o3 227 (by decide))
  refine smc (key' := u 229 h) (x' := u 236 h) (y' := u 237 h) (by rw [o3 229 (by decide), g1.cells 229 (by decide)]) (by rw [o3 236 (by decide), g1.cells 236 (by decide)]) (by rw [o3 237 (by decide), g1.cells 237 (by decide)]) (by decide) (fun u8 g8 => ⟨v48 (n := 1) (by decide), spk (i' := aT pk 1) ((p3.fh g8).at (j := 1) (by omega)) (fun u10 p10 g10 => sad (x' := 4) rfl p10 (by rw [ph2_len]; decide) (by rw [ph2_len]; decide) (fun u11 p11 g11 => sai rfl p11 (by rw [pd_len, ph2_len]; exact (by decide : 2 < 4 + 1)) (by rw [pd_len, ph2_len]; exact (by decide : 4 + 1 + 4 ≤ 48)) (fun u13 p13 g13 => ?_)))⟩)
  have g := (g10.tr g11).tr g13
  refine k u13 ?_ (by rw [g.cells 233 (by decide), g8.cells 233 (by decide), w1]) (fun a h1 h2 h3 => ?_) (f3.tr (g8.gs.gm.frH.tr g.gs.gm.frH)) ?_
  · rw [pd_pd (by rw [ph2_len]; decide)] at p13
    exact p13
  · rw [g.1 a h1 h2, g8.1 a h1, o3 a h3, g1.1 a h1]
  · rw [g.2 4 (by decide), g8.2 4 (by decide), o3 217 (by decide), g1.2 4 (by decide)]
theorem rf_mut0 {u : pj_M} {h : Nat} {pk : List Int32} {K : Int32 → pj_M → Prop} (hh : h < 4) (hp : mP u pk) (hb : bl pk) (h9 : pk.length = 9) (t : ¬ aT pk 4 = 1) (hx : ¬ aT pk 4 = 3 ∨ u 235 h = 0 ∨ ¬ iA pk 5 = mPrf (u 229 h) 3 (u 237 h) (u 236 h)) (k : ∀ u', fh u u' → K 0 u') : pw_Mo_mutual u (nI h) K := by
  refine ⟨v48 (n := 4) (by decide), plt (sp_Mo_packetInt hp hb (i := 5) rfl (by omega) ?_)⟩
  rw [show u 227 (4 : Int32).toNatClampNeg = aT pk 4 from hp.at (j := 4) (by omega)]
  refine br_f t (br_c (fun t3 => ⟨v4 hh, ?_⟩) (fun _ => k u fh.rf))
  try rw [c4 hh]
  refine br_c (fun _ => k u fh.rf) (fun h8 => ⟨v4 hh, v4 hh, v4 hh, ?_⟩)
  try rw [c4 hh]
  refine sp_Mo_mac (by decide) (fun u1 g1 => br_f (fun z => ?_) (k u1 g1))
  rcases hx with q | q | q
  · exact q t3
  · exact h8 q
  · exact q z
theorem rq_311 {u : pj_M} {h : Nat} {pk : List Int32} {K : pj_M → Prop} (hp : mP u pk) (t1 : aT pk 3 = 51) (t2 : ¬ u 230 h &&& 2 = 0) (h9 : pk.length = 9) (k : pb_Mo_requested_311 K u (nI h)) : ∀ s, ((s = 0 ∧ ¬ ((aT pk 3 = 4 ∧ ¬ u 230 h &&& 1 = 0) ∨ (aT pk 3 = 51 ∧ ¬ u 230 h &&& 2 = 0))) ∨ (s = 1 ∧ ((aT pk 3 = 4 ∧ ¬ u 230 h &&& 1 = 0) ∨ (aT pk 3 = 51 ∧ ¬ u 230 h &&& 2 = 0)))) → pb_Mo_requested_124 K u (nI h) (aT pk 3) s := by
  intro s hs
  have s1 : s = 1 := by
    rcases hs with ⟨_, q⟩ | ⟨q, _⟩
    · exact absurd (Or.inr ⟨t1, t2⟩) q
    · exact q
  subst s1
  rw [t1]
  exact br_f (by decide) (br_f (by decide) (br_t rfl (br_f (by decide) (br_f (by decide) (br_t rfl (br_t (by rw [hp.1, h9]; rfl) k))))))
theorem hoE7_q {i : Nat} {c : pj_M} {pk : List Int32} {q : Nat} (h1 : q ≠ 8) (h2 : q ≠ 9) (h3 : q ≠ 10) (h4 : q ≠ 11) (h5 : q ≠ 13) : hoE7 i c pk i q = c i q := by
  unfold hoE7
  rw [ps_k h5, ps_k h3, ps_k h1, ps_k h2, ps_k h4]
theorem rf_ho7 {c c' u : pj_M} {h : Nat} {pk : List Int32} {ms : List mT} {o : Option mT} {K : pj_M → Prop} (hh : h < 4) (R : RH c u h) (hp : mP u pk) (hb : bl pk) (hm : mm u ms) (hq : c (91 + 5 * h) 7 = 0 ∨ ∃ la, rw_ c (91 + 5 * h + 3) la ∧ ¬ aT la 1 = aT pk 1) (t1 : aT pk 3 = 51) (t2 : ¬ c (91 + 5 * h) 6 &&& 2 = 0) (h9 : pk.length = 9) (t4 : aT pk 4 = 1) (hA : hoA (91 + 5 * h) c (hoE7 (91 + 5 * h) c pk) c' o (pd (ph 2 (aT pk 1) 51) (2 :: (b4 (rnd (c (91 + 5 * h) 5) (c (91 + 5 * h) 0) (c (91 + 5 * h) 13)) ++ b4 (mPrf (c (91 + 5 * h) 5) 2 (iA pk 5) (rnd (c (91 + 5 * h) 5) (c (91 + 5 * h) 0) (c (91 + 5 * h) 13))))))) (k : ∀ u', RH c' u' h → mm u' (om ms o) → frH h u u' → wrS c c' u u' (91 + 5 * h) 1 14 → K u') : pw_Mo_requested u (nI h) K := by
  have e6 := R.1.2.2.2.1
  refine rq_79 hh R hp (by omega) hq (rq_124 hh hp (by omega) (rq_311 hp t1 (by rw [← e6]; exact t2) h9 (rf_mut1 hh hp hb h9 t4 (fun u' p' w1 w2 w3 w4 w5 o' f' s4 => br_f (by decide) ?_))))
  rw [← R.1.2.2.1, ← R.2.1.2.2.2, ← R.1.1] at p' w4
  have bb : bl (2 :: (b4 (rnd (c (91 + 5 * h) 5) (c (91 + 5 * h) 0) (c (91 + 5 * h) 13)) ++ b4 (mPrf (c (91 + 5 * h) 5) 2 (iA pk 5) (rnd (c (91 + 5 * h) 5) (c (91 + 5 * h) 0) (c (91 + 5 * h) 13))))) := bl_cons (by decide) (bl_app (bl_b4 _) (bl_b4 _))
  refine rf_answer hh (hm.keep s4 (o' _ (by decide) (by decide) (by decide) (by decide) (by decide) (by decide) (by decide)) (o' _ (by decide) (by decide) (by decide) (by decide) (by decide) (by decide) (by decide)) (o' _ (by decide) (by decide) (by decide) (by decide) (by decide) (by decide) (by decide)) (o' _ (by decide) (by decide) (by decide) (by decide) (by decide) (by decide) (by decide))) p' (bl_pd (bl_ph2 (by decide)) bb (by rw [ph2_len]; exact (by decide : 4 + 9 < 256))) (by rw [pd_len, ph2_len]; omega) (by rw [pd_len, ph2_len]; exact (by decide : 4 + 9 ≤ 20)) hA R.1.1 f' (o' 277 (by decide) (by decide) (by decide) (by decide) (by decide) (by decide) (by decide)) (hoE7_q (by decide) (by decide) (by decide) (by decide) (by decide)) (he_of R (fun q h1 h2 h3 h4 h5 => hoE7_q h1 h2 h3 h4 h5) (fun a h1 h2 h3 => o' a (by omega) (by omega) h3 (by omega) (by omega) (by omega) (by omega)) ?_ ?_ ?_ ?_ ?_) k
  · unfold hoE7; rw [w1, ps_k (by decide), ps_k (by decide), ps_k (by decide), ps_k (by decide), ps_s]
  · unfold hoE7; rw [w2, ps_k (by decide), ps_k (by decide), ps_s]
  · unfold hoE7; rw [w3, ps_k (by decide), ps_k (by decide), ps_k (by decide), ps_s]
  · unfold hoE7; rw [w4, ps_k (by decide), ps_s]
  · unfold hoE7; rw [w5, ps_s, R.2.1.2.2.2]
theorem rf_ho8 {c c' u : pj_M} {h : Nat} {pk : List Int32} {ms : List mT} {o : Option mT} {K : pj_M → Prop} (hh : h < 4) (R : RH c u h) (hp : mP u pk) (hb : bl pk) (hm : mm u ms) (hq : c (91 + 5 * h) 7 = 0 ∨ ∃ la, rw_ c (91 + 5 * h + 3) la ∧ ¬ aT la 1 = aT pk 1) (t1 : aT pk 3 = 51) (t2 : ¬ c (91 + 5 * h) 6 &&& 2 = 0) (h9 : pk.length = 9) (t4 : aT pk 4 = 3) (h8 : ¬ c (91 + 5 * h) 8 = 0) (hx : iA pk 5 = mPrf (c (91 + 5 * h) 5) 3 (c (91 + 5 * h) 10) (c (91 + 5 * h) 9)) (hA : hoA (91 + 5 * h) c (pj_set c (91 + 5 * h) 11 1) c' o (pd (ph 2 (aT pk 1) 51) (4 :: b4 (mPrf (c (91 + 5 * h) 5) 4 (c (91 + 5 * h) 9) (c (91 + 5 * h) 10))))) (k : ∀ u', RH c' u' h → mm u' (om ms o) → frH h u u' → wrS c c' u u' (91 + 5 * h) 1 14 → K u') : pw_Mo_requested u (nI h) K := by
  have e6 := R.1.2.2.2.1
  rw [R.1.2.2.1, R.2.1.2.1, R.2.1.2.2.1] at hx hA
  rw [R.2.1.1] at h8
  refine rq_79 hh R hp (by omega) hq (rq_124 hh hp (by omega) (rq_311 hp t1 (by rw [← e6]; exact t2) h9 (rf_mut3 hh hp hb h9 t4 h8 hx (fun u' p' w1 o' f' s4 => br_f (by decide) ?_))))
  refine rf_answer hh (hm.keep s4 (o' _ (by decide) (by decide) (by decide)) (o' _ (by decide) (by decide) (by decide)) (o' _ (by decide) (by decide) (by decide)) (o' _ (by decide) (by decide) (by decide))) p' (bl_pd (bl_ph2 (by decide)) (bl_cons (by decide) (bl_b4 _)) (by rw [ph2_len]; exact (by decide : 4 + 5 < 256))) (by rw [pd_len, ph2_len]; omega) (by rw [pd_len, ph2_len]; exact (by decide : 4 + 5 ≤ 20)) hA R.1.1 f' (o' 277 (by decide) (by decide) (by decide)) (ps_k (by decide)) (he_of R (fun q _ _ _ h4 _ => ps_k h4) (fun a h1 h2 h3 => o' a (by omega) (by omega) h3) ?_ ?_ ?_ ?_ ?_) k
  · rw [ps_s, w1]
  · rw [ps_k (by decide), o' 235 (by decide) (by decide) (by decide)]; exact R.2.1.1
  · rw [ps_k (by decide), o' 236 (by decide) (by decide) (by decide)]; exact R.2.1.2.1
  · rw [ps_k (by decide), o' 237 (by decide) (by decide) (by decide)]; exact R.2.1.2.2.1
  · rw [ps_k (by decide), o' 238 (by decide) (by decide) (by decide)]; exact R.2.1.2.2.2
theorem rf_ho9 {c u : pj_M} {h : Nat} {pk : List Int32} {K : pj_M → Prop} (hh : h < 4) (R : RH c u h) (hp : mP u pk) (hb : bl pk) (h3 : 3 < pk.length) (hq : c (91 + 5 * h) 7 = 0 ∨ ∃ la, rw_ c (91 + 5 * h + 3) la ∧ ¬ aT la 1 = aT pk 1) (hN : hoN (91 + 5 * h) c pk) (k : ∀ u', fh u u' → K u') : pw_Mo_requested u (nI h) K := by
  have e6 := R.1.2.2.2.1
  refine rq_79 hh R hp h3 hq ?_
  rcases hN with ⟨n1, n4, n51⟩ | ⟨t, m, n8⟩ | ⟨t, m, n9⟩
  · refine rq_124 hh hp h3 (fun s hs => ?_)
    exact br_f n1 (br_f n4 (br_f n51 (br_f n4 (br_f n51 (br_t rfl (k u fh.rf))))))
  · refine rq_124 hh hp h3 (fun s hs => ?_)
    have s1 : s = 1 := by
      rcases hs with ⟨_, q⟩ | ⟨q, _⟩
      · exact absurd (Or.inl ⟨t, by rw [← e6]; exact m⟩) q
      · exact q
    subst s1
    rw [t]
    exact br_f (by decide) (br_t rfl (br_f (by decide) (br_t rfl (br_f (fun z => n8 ((nI_e 8 hp.lt (by decide)).mp (hp.1.symm.trans z))) (br_f (by decide) (br_t rfl (k u fh.rf)))))))
  · rw [e6] at m
    rcases n9 with n9 | ⟨h9, n1, n3⟩
    · refine rq_124 hh hp h3 (fun s hs => ?_)
      have s1 : s = 1 := by
        rcases hs with ⟨_, q⟩ | ⟨q, _⟩
        · exact absurd (Or.inr ⟨t, m⟩) q
        · exact q
      subst s1
      rw [t]
      exact br_f (by decide) (br_f (by decide) (br_t rfl (br_f (by decide) (br_f (by decide) (br_t rfl (br_f (fun z => n9 ((nI_e 9 hp.lt (by decide)).mp (hp.1.symm.trans z))) (br_t rfl (k u fh.rf))))))))
    · rw [R.1.2.2.1, R.2.1.1, R.2.1.2.1, R.2.1.2.2.1] at n3
      exact rq_124 hh hp h3 (rq_311 hp t m h9 (rf_mut0 hh hp hb h9 n1 n3 (fun u' g' => br_t rfl (br_t rfl (k u' g')))))
theorem rf_hostTakes {c c' u : pj_M} {h n : Nat} {f : List Int32} {ms : List mT} {o : Option mT} {K : pj_M → Prop} (hh : h < 4) (R : RH c u h) (hr : mR u f) (hb : bl f) (hm : mm u ms) (hS : hoS (91 + 5 * h) f c c' o n)
    (k : ∀ u', RH c' u' h → mm u' (om ms o) → frH h u u' → wrS c c' u u' (91 + 5 * h) 1 14 → K u') : pw_Mo_hostTakes u (nI h) K := by
  have pos : ¬ c (91 + 5 * h) 4 = -1 → 0 ≤ u 228 (nI h).toNatClampNeg := by
    intro z
    try rw [c4 hh]
    rcases R.2.2.1 with y | y
    · exact absurd (R.1.2.1.trans y) z
    · exact y
  have pk3 : fP f → (aT (f.drop 1) 0 = 1 → 3 < (f.drop 1).length) ∧ 3 ≤ (f.drop 1).length := by
    intro p
    obtain ⟨_, p3, _, _, q⟩ := p
    refine ⟨fun e => ?_, p3⟩
    rcases q with ⟨_, q⟩ | ⟨q, _⟩
    · exact q
    · rw [e] at q
      exact absurd q (by decide)
  have hb1 := hb.drop
  have rq : ∀ {u1 : pj_M}, mP u1 (f.drop 1) → fP f → aT (f.drop 1) 0 = 1 → (pw_Mo_requested u1 (nI h) fun u1 => pb_Mo_hostTakes_114 K u1) → pb_Mo_hostTakes_34 K u1 (nI h) := fun {u1} p1 p e1 kk => ⟨v48 (n := 0) (by decide), br_t ((p1.at (j := 0) (by have := (pk3 p).2; omega)).trans e1) kk⟩
  have lift : ∀ {u1 : pj_M}, gs u u1 → ∀ u', RH c' u' h → mm u' (om ms o) → frH h u1 u' → wrS c c' u1 u' (91 + 5 * h) 1 14 → pb_Mo_hostTakes_114 K u' := by
    intro u1 g1 u' a1 a2 a3 a4
    refine k u' a1 a2 (g1.gm.frH.tr a3) ?_
    have e := g1.cells 277 (by decide)
    rcases a4 with ⟨x, y⟩ | ⟨x, y⟩
    · exact Or.inl ⟨x, y.trans e⟩
    · refine Or.inr ⟨x, y.trans ?_⟩
      rw [show u1 277 1 = u 277 1 by rw [e]]
      exact st_cg e
  match n, hS with
  | 0, hS =>
    obtain ⟨e4, ec, k3, ho⟩ := hS
    refine ⟨v4 hh, br_f ?_ (k u (rH_same R ec k3 (fun _ _ _ => rfl)) (by rw [ho]; exact hm) frH.rf (Or.inl ⟨by rw [ec], rfl⟩))⟩
    (try rw [c4 hh]); rw [← R.1.2.1, e4]
    decide
  | 1, hS =>
    obtain ⟨e4, s, ec, k3, ho⟩ := hS
    have k0 : K u := k u (rH_same R ec k3 (fun _ _ _ => rfl)) (by rw [ho]; exact hm) frH.rf (Or.inl ⟨by rw [ec], rfl⟩)
    refine ⟨v4 hh, br_t (pos e4) (sp_Mo_frame hr (fun _ => ?_) (fun ns => absurd s ns) (fun ns => absurd s ns))⟩
    rcases s.2 with e | e
    · rw [e]; exact br_t (by decide) (br_f (by decide) k0)
    · rw [e]; exact br_t (by decide) (br_f (by decide) k0)
  | 2, hS =>
    obtain ⟨e4, ns, np, ec, k3, ho⟩ := hS
    refine ⟨v4 hh, br_t (pos e4) (sp_Mo_frame hr (fun s => absurd s ns) (fun _ p => absurd p np) (fun _ _ u1 g1 => br_f (by decide) ⟨vp_in_nI (n := 1) (N := 3) (by decide) (by decide), vp_in_nI (n := 1) (N := 3) (by decide) (by decide), pu (br_f (by decide) ?_)⟩))⟩
    have o1 : ∀ a, 228 ≤ a → a ≤ 238 → (pj_set u1 277 1 (u1 277 1 + 1)) a = u a := fun a h1 h2 => (ps_i (by omega)).trans (g1.cells a h1)
    refine k (pj_set u1 277 1 (u1 277 1 + 1)) (rH_upd R (fun q _ _ h => by rw [ec, ps_k h]) k3 (by rw [ec, ps_k (by decide), o1 233 (by decide) (by decide)]; exact R.1.2.2.2.2.1) (by rw [ec, ps_k (by decide), o1 234 (by decide) (by decide)]; exact R.1.2.2.2.2.2) (fun a h1 h2 _ _ => o1 a h1 h2)) ?_ (g1.gs.gm.frH.tr frH.w) (Or.inr ⟨by rw [ec, ps_s], ?_⟩)
    · rw [ho]
      have hm1 := hm.gs g1.gs
      exact hm1.keep (by rw [ps_i (by decide)]) (ps_i (by decide)) (ps_i (by decide)) (ps_i (by decide)) (ps_i (by decide))
    · rw [show u1 277 1 = u 277 1 by rw [g1.cells 277 (by decide)]]
      exact st_cg (g1.cells 277 (by decide))
  | 3, hS =>
    obtain ⟨e4, ns, p, e1, h7, hl, ec, k3⟩ := hS
    refine rf_ho_pk hh R hr e4 ns p (fun u1 p1 R1 g1 => rq p1 p e1 (rf_ho3 hh R1 p1 (by have := (pk3 p).2; omega) (hm.gs g1) h7 hl (fun u2 m2 g2 e7 => ?_)))
    have ec' : c' (91 + 5 * h) = c (91 + 5 * h) := by
      rw [ec]
      funext q
      by_cases z : q = 7
      · rw [z, ps_s, e7]
      · rw [ps_k z]
    exact lift g1 u2 (rH_same R1 ec' k3 (fun a h1 h2 => g2.cells a h1)) m2 g2.frH (Or.inl ⟨by rw [ec'], g2.cells 277 (by decide)⟩)
  | 4, hS =>
    obtain ⟨⟨e4, ns, p, e1, hq⟩, t1, hA⟩ := hS
    exact rf_ho_pk hh R hr e4 ns p (fun u1 p1 R1 g1 => rq p1 p e1 (rf_ho4 hh R1 p1 ((pk3 p).1 e1) (hm.gs g1) hq t1 hA (lift g1)))
  | 5, hS =>
    obtain ⟨⟨e4, ns, p, e1, hq⟩, t1, hA⟩ := hS
    exact rf_ho_pk hh R hr e4 ns p (fun u1 p1 R1 g1 => rq p1 p e1 (rf_ho5 hh R1 p1 ((pk3 p).1 e1) (hm.gs g1) hq t1 hA (lift g1)))
  | 6, hS =>
    obtain ⟨⟨e4, ns, p, e1, hq⟩, t1, t2, h8, hA⟩ := hS
    exact rf_ho_pk hh R hr e4 ns p (fun u1 p1 R1 g1 => rq p1 p e1 (rf_ho6 hh R1 p1 hb1 (hm.gs g1) hq t1 t2 h8 hA (lift g1)))
  | 7, hS =>
    obtain ⟨⟨e4, ns, p, e1, hq⟩, t1, t2, h9, t4, hA⟩ := hS
    exact rf_ho_pk hh R hr e4 ns p (fun u1 p1 R1 g1 => rq p1 p e1 (rf_ho7 hh R1 p1 hb1 (hm.gs g1) hq t1 t2 h9 t4 hA (lift g1)))
  | 8, hS =>
    obtain ⟨⟨e4, ns, p, e1, hq⟩, t1, t2, h9, t4, h8, hx, hA⟩ := hS
    exact rf_ho_pk hh R hr e4 ns p (fun u1 p1 R1 g1 => rq p1 p e1 (rf_ho8 hh R1 p1 hb1 (hm.gs g1) hq t1 t2 h9 t4 h8 hx hA (lift g1)))
  | 9, hS =>
    obtain ⟨⟨e4, ns, p, e1, hq⟩, hN, ec, k3, ho⟩ := hS
    refine rf_ho_pk hh R hr e4 ns p (fun u1 p1 R1 g1 => rq p1 p e1 (rf_ho9 hh R1 p1 hb1 ((pk3 p).1 e1) hq hN (fun u2 g2 => ?_)))
    exact lift g1 u2 (rH_same R1 ec k3 (fun a h1 _ => g2.cells a h1)) (by rw [ho]; exact (hm.gs g1).gs g2.gs) g2.gs.gm.frH (Or.inl ⟨by rw [ec], g2.cells 277 (by decide)⟩)
  | 10, hS =>
    obtain ⟨e4, ns, p, e1, ec, k3, ho⟩ := hS
    refine rf_ho_pk hh R hr e4 ns p (fun u1 p1 R1 g1 => ⟨v48 (n := 0) (by decide), ?_⟩)
    rw [show u1 227 (0 : Int32).toNatClampNeg = 2 from (p1.at (j := 0) (by have := (pk3 p).2; omega)).trans e1]
    refine br_f (by decide) ⟨v48 (n := 0) (by decide), ?_⟩
    rw [show u1 227 (0 : Int32).toNatClampNeg = 2 from (p1.at (j := 0) (by have := (pk3 p).2; omega)).trans e1]
    refine br_f (by decide) ⟨v48 (n := 0) (by decide), ?_⟩
    rw [show u1 227 (0 : Int32).toNatClampNeg = 2 from (p1.at (j := 0) (by have := (pk3 p).2; omega)).trans e1]
    refine br_f (by decide) ?_
    exact lift g1 u1 (rH_same R1 ec k3 (fun _ _ _ => rfl)) (by rw [ho]; exact hm.gs g1) frH.rf (Or.inl ⟨by rw [ec], rfl⟩)
  | 11, hS =>
    obtain ⟨e4, ns, p, e1, e11, ec, k3, ho⟩ := hS
    refine rf_ho_pk hh R hr e4 ns p (fun u1 p1 R1 g1 => ⟨v48 (n := 0) (by decide), ?_⟩)
    have e0 : u1 227 (0 : Int32).toNatClampNeg = 3 := (p1.at (j := 0) (by have := (pk3 p).2; omega)).trans e1
    rw [e0]
    refine br_f (by decide) ⟨v48 (n := 0) (by decide), ?_⟩
    rw [e0]
    refine br_t rfl ⟨v4 hh, ?_⟩
    try rw [c4 hh]
    refine br_t (by rw [← R1.1.2.2.2.2.1]; exact e11) ⟨v4 hh, v4 hh, pu ?_⟩
    try rw [c4 hh]
    exact lift g1 _ (rH_upd R1 (fun q _ h12 _ => by rw [ec, ps_k h12]) k3 (by rw [ec, ps_k (by decide), ps_i (by decide)]; exact R1.1.2.2.2.2.1) (by rw [ec, ps_s, ps_s]; exact R1.1.2.2.2.2.2) (fun a _ _ _ h => ps_i h)) (by rw [ho]; exact (hm.gs g1).keep (by rw [ps_i (by decide)]) (ps_i (by decide)) (ps_i (by decide)) (ps_i (by decide)) (ps_i (by decide))) (frH.set (by decide) (by decide) (by decide)) (Or.inl ⟨by rw [ec, ps_k (by decide)], ps_i (by decide)⟩)
  | 12, hS =>
    obtain ⟨e4, ns, p, e1, e11, ec, k3, ho⟩ := hS
    refine rf_ho_pk hh R hr e4 ns p (fun u1 p1 R1 g1 => ⟨v48 (n := 0) (by decide), ?_⟩)
    have e0 : u1 227 (0 : Int32).toNatClampNeg = 3 := (p1.at (j := 0) (by have := (pk3 p).2; omega)).trans e1
    rw [e0]
    refine br_f (by decide) ⟨v48 (n := 0) (by decide), ?_⟩
    rw [e0]
    refine br_t rfl ⟨v4 hh, ?_⟩
    try rw [c4 hh]
    refine br_f (by rw [← R1.1.2.2.2.2.1]; exact e11) ⟨v4 hh, pu ?_⟩
    try rw [c4 hh]
    exact lift g1 _ (rH_upd R1 (fun q _ h12 _ => by rw [ec, ps_k h12]) k3 (by rw [ec, ps_k (by decide), ps_i (by decide)]; exact R1.1.2.2.2.2.1) (by rw [ec, ps_s, ps_s]) (fun a _ _ _ h => ps_i h)) (by rw [ho]; exact (hm.gs g1).keep (by rw [ps_i (by decide)]) (ps_i (by decide)) (ps_i (by decide)) (ps_i (by decide)) (ps_i (by decide))) (frH.set (by decide) (by decide) (by decide)) (Or.inl ⟨by rw [ec, ps_k (by decide)], ps_i (by decide)⟩)
  | 13, hS =>
    obtain ⟨e4, ns, p, e1, ec, k3, ho⟩ := hS
    refine rf_ho_pk hh R hr e4 ns p (fun u1 p1 R1 g1 => ⟨v48 (n := 0) (by decide), ?_⟩)
    have e0 : u1 227 (0 : Int32).toNatClampNeg = 4 := (p1.at (j := 0) (by have := (pk3 p).2; omega)).trans e1
    rw [e0]
    refine br_f (by decide) ⟨v48 (n := 0) (by decide), ?_⟩
    rw [e0]
    refine br_f (by decide) ⟨v48 (n := 0) (by decide), ?_⟩
    rw [e0]
    refine br_t rfl ⟨v4 hh, pu ⟨v4 hh, pu ?_⟩⟩
    (try rw [c4 hh]); rw [nr0]
    exact lift g1 _ (rH_upd R1 (fun q h11 h12 _ => by rw [ec, ps_k h11, ps_k h12]) k3 (by rw [ec, ps_s, ps_s]) (by rw [ec, ps_k (by decide), ps_s, ps_i (by decide), ps_s]) (fun a _ _ h h' => by rw [ps_i h, ps_i h'])) (by rw [ho]; exact (hm.gs g1).keep (by rw [ps_i (by decide), ps_i (by decide)]) (by rw [ps_i (by decide), ps_i (by decide)]) (by rw [ps_i (by decide), ps_i (by decide)]) (by rw [ps_i (by decide), ps_i (by decide)]) (by rw [ps_i (by decide), ps_i (by decide)])) ((frH.set (by decide) (by decide) (by decide)).tr (frH.set (by decide) (by decide) (by decide))) (Or.inl ⟨by rw [ec, ps_k (by decide), ps_k (by decide)], by rw [ps_i (by decide), ps_i (by decide)]⟩)
  | n + 14, hS => exact absurd hS (fun z => z)
