/-! The pure part: the class's switch hears a server -/
/-- port p waits for server sv and number id -/
def aw (c : pj_M) (sv id : Int32) (p : Nat) : Prop := ¬ c (185 + 7 * p) 12 ≤ 0 ∧ c (185 + 7 * p) 13 = sv ∧ ∃ l, rw_ c (185 + 7 * p + 5) l ∧ aT l 1 = id
theorem lp_Sw_portAwaiting {u : pj_M} {sv id : Int32} {K : Option Nat → pj_M → Prop} (hl : ∀ p, p < 4 → ¬ u (185 + 7 * p) 12 ≤ 0 → ∃ l, rw_ u (185 + 7 * p + 5) l) (kt : ∀ p, p < 4 → (∀ t, t < p → ¬ aw u sv id t) → aw u sv id p → K (some (185 + 7 * p)) u) (kn : (∀ t, t < 4 → ¬ aw u sv id t) → K none u) : ∀ (d t : Nat), t + d = 4 → (∀ q, q < t → ¬ aw u sv id q) → pb_Sw_portAwaiting_2 K sv id (d + 1) u (nI t) := by
  intro d
  induction d with
  | zero =>
    intro t ht hq
    have e : t = 4 := by omega
    subst e
    exact br_t (by decide) (kn hq)
  | succ d ih =>
    intro t ht hq
    have t4 : t < 4 := by omega
    have nx : ¬ aw u sv id t → pb_Sw_portAwaiting_48 (pb_Sw_portAwaiting_2 K sv id (d + 1)) K u sv id (nI t) := by
      intro h
      show pb_Sw_portAwaiting_2 K sv id (d + 1) u (nI t + 1)
      rw [nI_1]
      refine ih (t + 1) (by omega) (fun q h1 => ?_)
      by_cases c : q = t
      · rw [c]; exact h
      · exact hq q (by omega)
    refine br_f (fun q => nI_ge (a := t) (b := 4) (by omega) (by decide) q) ⟨v4 t4, ?_⟩
    rw [c4 t4]
    refine br_c (fun e => nx (fun z => z.1 e)) (fun e => br_c (fun e2 => ?_) (fun e2 => nx (fun z => e2 z.2.1)))
    obtain ⟨l, hl1⟩ := hl t t4 e
    refine sp_Ro_at hl1 1 rfl (by decide) (br_c (fun e3 => kt t t4 hq ⟨e, e2, l, hl1, e3⟩) (fun e3 => nx (fun z => ?_)))
    obtain ⟨l', h1, h2⟩ := z.2.2
    have := hl1.uniq h1
    subst this
    exact e3 h2
theorem sp_Sw_portAwaiting {u : pj_M} {sv id : Int32} {K : Option Nat → pj_M → Prop} (hl : ∀ p, p < 4 → ¬ u (185 + 7 * p) 12 ≤ 0 → ∃ l, rw_ u (185 + 7 * p + 5) l) (kt : ∀ p, p < 4 → (∀ t, t < p → ¬ aw u sv id t) → aw u sv id p → K (some (185 + 7 * p)) u) (kn : (∀ t, t < 4 → ¬ aw u sv id t) → K none u) : pw_Sw_portAwaiting u sv id K :=
  ⟨5, lp_Sw_portAwaiting hl kt kn 4 0 (by decide) (fun q h => absurd h (Nat.not_lt_zero q))⟩
def fit (f pk : List Int32) : Prop := (aT f 0 = 11 ∧ aT pk 0 = 1) ∨ (aT f 0 = 2 ∧ aT pk 0 = 3) ∨ (aT f 0 = 3 ∧ aT pk 0 = 4)
theorem sp_Sw_fits {u : pj_M} {f pk : List Int32} {K : Int32 → pj_M → Prop} (hf : rw_ u 176 f) (hp : rw_ u 178 pk) (kt : fit f pk → K 1 u) (kf : ¬ fit f pk → K 0 u) : pw_Sw_fits u K := by
  refine sp_Pa_code hp (sp_Ro_at hf 0 rfl (by decide) ?_)
  refine br_c (fun e => ?_) (fun e2 => br_c (fun e => ?_) (fun e3 => br_c (fun e => ?_) (fun e11 => ?_)))
  · refine br_c (fun z => ⟨pj_bi1, kt (Or.inr (Or.inl ⟨e, z⟩))⟩) (fun z => ⟨pj_bi0, kf (fun y => ?_)⟩)
    have e : aT f 0 = 2 := e
    rcases y with ⟨a, b⟩ | ⟨a, b⟩ | ⟨a, b⟩
    · rw [e] at a; exact absurd a (by decide)
    · exact z b
    · rw [e] at a; exact absurd a (by decide)
  · refine br_c (fun z => ⟨pj_bi1, kt (Or.inr (Or.inr ⟨e, z⟩))⟩) (fun z => ⟨pj_bi0, kf (fun y => ?_)⟩)
    have e : aT f 0 = 3 := e
    rcases y with ⟨a, b⟩ | ⟨a, b⟩ | ⟨a, b⟩
    · rw [e] at a; exact absurd a (by decide)
    · rw [e] at a; exact absurd a (by decide)
    · exact z b
  · refine br_c (fun z => ⟨pj_bi1, kt (Or.inl ⟨e, z⟩)⟩) (fun z => ⟨pj_bi0, kf (fun y => ?_)⟩)
    have e : aT f 0 = 11 := e
    rcases y with ⟨a, b⟩ | ⟨a, b⟩ | ⟨a, b⟩
    · exact z b
    · rw [e] at a; exact absurd a (by decide)
    · rw [e] at a; exact absurd a (by decide)
  · refine kf (fun y => ?_)
    rcases y with ⟨a, b⟩ | ⟨a, b⟩ | ⟨a, b⟩
    · exact e11 a
    · exact e2 a
    · exact e3 a
def adS (σ : Nat → Int32) : Nat → Int32 := if σ 6 = 0 then up (up (up (up (up σ 5 3) 7 0) 6 1) 15 (σ 15 + 1)) 16 0 else up (up σ 5 3) 7 0
theorem sp_Sw_admit {u : pj_M} {i : Nat} {K : pj_M → Prop} (k : ∀ u', u' i = adS (u i) → (∀ a, a ≠ i → u' a = u a) → K u') : pw_Sw_admit u i K := by
  unfold pw_Sw_admit pb_Sw_admit_0
  refine pu (pu ?_)
  have e6 : (pj_set (pj_set u i 5 3) i 7 0) i 6 = u i 6 := by rw [ps_k (by decide), ps_k (by decide)]
  rw [e6]
  refine br_c (fun h => ?_) (fun h => ?_)
  · unfold pb_Sw_admit_17
    refine pu (pu (pu (k _ ?_ (fun a ha => by rw [ps_i ha, ps_i ha, ps_i ha, ps_i ha, ps_i ha]))))
    rw [st_up, st_up, st_up, st_up, st_up]
    unfold adS
    rw [if_pos h, up_k (show (15 : Nat) ≠ 6 by decide), up_k (show (15 : Nat) ≠ 7 by decide), up_k (show (15 : Nat) ≠ 5 by decide)]
  · refine k _ ?_ (fun a ha => by rw [ps_i ha, ps_i ha])
    rw [st_up, st_up]
    unfold adS
    rw [if_neg h]
/-- the datagram f of server sv is an answer to what port p asked -/
def anW (c : pj_M) (sv : Int32) (f : List Int32) (p : Nat) (nm tk : Int32) (j : Nat) (pk q : List Int32) : Prop := p < 4 ∧ gR f nm tk (nI j) pk ∧ (2 ≤ j ∧ j + 4 ≤ f.length) ∧ (∀ t, t < p → ¬ aw c sv (aT f 1) t) ∧ aw c sv (aT f 1) p ∧ rw_ c (185 + 7 * p + 5) q ∧ fit f pk ∧ mRow (c 170 0) (si (si f 3 (iA q 3)) j 0) = iA f j ∧ hRow (si (si (si f 3 (iA q 3)) j 0) j (iA f j)) (c 170 0) = iA f 3
def fAn (p : Nat) (c c' : pj_M) : Prop := ∀ a, (a < 4 ∨ 90 ≤ a) → (a < 170 ∨ 184 < a) → (a < 185 + 7 * p ∨ 185 + 7 * p + 6 < a) → c' a = c a
def anS (sv : Int32) (f : List Int32) (c c' : pj_M) (o : Option mT) (p : Nat) : Nat → Prop
  | 0 => (¬ ∃ p nm tk j pk q, anW c sv f p nm tk j pk q) ∧ c' 170 = up (c 170) 9 (c 170 9 + 1) ∧ poK (185 + 7 * p) c c' ∧ o = none
  | 1 => ∃ nm tk j pk q, anW c sv f p nm tk j pk q ∧ aT f 0 = 11 ∧ c' (185 + 7 * p) = up (up (up (up (up (up (c (185 + 7 * p)) 12 0) 11 tk) 17 ((aT pk 1 + 1) &&& 255)) 8 1) 9 0) 7 0 ∧ c' 170 = up (c 170) 8 sv ∧ rw_ c' (185 + 7 * p + 1) pk ∧ c' 172 = c 172 ∧ o = some (1, c (185 + 7 * p) 0, 0 :: pk)
  | 2 => ∃ nm tk j pk q, anW c sv f p nm tk j pk q ∧ aT f 0 = 2 ∧ c' (185 + 7 * p) = adS (up (up (c (185 + 7 * p)) 12 0) 17 ((aT pk 1 + 1) &&& 255)) ∧ c' 170 = up (c 170) 8 sv ∧ (∀ a, 185 + 7 * p < a → a ≤ 185 + 7 * p + 6 → c' a = c a) ∧ c' 172 = c 172 ∧ o = some (1, c (185 + 7 * p) 0, 0 :: pk)
  | 3 => ∃ nm tk j pk q, anW c sv f p nm tk j pk q ∧ aT f 0 = 3 ∧ c' (185 + 7 * p) = flS (up (up (c (185 + 7 * p)) 12 0) 17 ((aT pk 1 + 1) &&& 255)) ∧ c' 170 = up (c 170) 8 sv ∧ (∀ a, 185 + 7 * p < a → a ≤ 185 + 7 * p + 6 → c' a = c a) ∧ (∀ j, j < 8 → c' 172 j = clS (c 172) (c (185 + 7 * p) 0) j) ∧ o = some (1, c (185 + 7 * p) 0, 0 :: pk)
  | _ => False
theorem pT_9 : ∀ p, p < 4 → pj_T (185 + 7 * p) = 9 := by decide +kernel
theorem aw_keep {c u : pj_M} {sv id : Int32} (h : ∀ a, 185 ≤ a → a < 213 → u a = c a) : ∀ p, p < 4 → (aw u sv id p ↔ aw c sv id p) := by
  intro p hp
  have e := h (185 + 7 * p) (by omega) (by omega)
  have e5 := h (185 + 7 * p + 5) (by omega) (by omega)
  have e6 := h (185 + 7 * p + 5 + 1) (by omega) (by omega)
  constructor
  · rintro ⟨a, b, l, r, d⟩
    exact ⟨by rw [← e]; exact a, by rw [← e]; exact b, l, r.keep e5.symm e6.symm, d⟩
  · rintro ⟨a, b, l, r, d⟩
    exact ⟨by rw [e]; exact a, by rw [e]; exact b, l, r.keep e5 e6, d⟩
theorem sp_Sw_takeAnswer {u : pj_M} {sv : Int32} {f : List Int32} {ms : List mT} {K : pj_M → Prop} (hf : rw_ u 215 f) (hm : mb u ms) (hl : ∀ p, p < 4 → ¬ u (185 + 7 * p) 12 ≤ 0 → ∃ l, rw_ u (185 + 7 * p + 5) l) (k : ∀ n u' o p, p < 4 → anS sv f u u' o p n → mb u' (om ms o) → fAn p u u' → K u') : pw_Sw_takeAnswer u sv 215 K := by
  unfold pw_Sw_takeAnswer pb_Sw_takeAnswer_0
  have wr : ∀ w : pj_M, f5 175 u w → (¬ ∃ p nm tk j pk q, anW u sv f p nm tk j pk q) → pb_Sw_takeAnswer_61 K w := by
    intro w g h
    unfold pb_Sw_takeAnswer_61
    refine pu (k 0 _ none 0 (by decide) ⟨h, ?_, ⟨fun a h1 h2 => (ps_i (by omega)).trans (g a (by omega)), (ps_i (by decide)).trans (g 172 (by decide))⟩, rfl⟩ (hm.keep (fun a h1 h2 _ _ => (ps_i (by omega)).trans (g a (by omega)))) (fun a _ h2 _ => (ps_i (by omega)).trans (g a (by omega))))
    rw [st_up, g 170 (by decide)]
  refine sp_Da_read hf (by decide) (fun nm tk pk j hg j2 j4 u1 d1 a5 a6 g1 => br_f (by decide) ?_) (fun hn u1 g1 => br_t rfl ⟨fun _ => wr u1 g1 (fun ⟨p, nm, tk, j, pk, q, z⟩ => hn ⟨nm, tk, _, pk, z.2.1⟩), fun _ h => by cases h⟩)
  have pc : ∀ a, 185 ≤ a → a < 213 → u1 a = u a := fun a h1 h2 => g1 a (by omega)
  have f48 := hf.2.1
  have f7 := hg.1
  refine sp_Ro_at d1.1 1 rfl (by decide) (sp_Sw_portAwaiting (fun p hp h => ?_) (fun p hp h1 h2 => ⟨fun h => (by cases h), fun i hi => ?_⟩) (fun hn => ⟨fun _ => wr u1 g1 (fun ⟨p, nm', tk', j', pk', q, z⟩ => hn p z.1 ((aw_keep pc p z.1).mpr z.2.2.2.2.1)), fun _ h => by cases h⟩))
  · rw [pc _ (by omega) (by omega)] at h
    obtain ⟨l, r⟩ := hl p hp h
    exact ⟨l, r.keep (pc _ (by omega) (by omega)) (pc _ (by omega) (by omega))⟩
  cases hi
  refine ⟨pT_9 p hp, ?_⟩
  have h1' : ∀ t, t < p → ¬ aw u sv (aT f 1) t := fun t ht z => h1 t ht ((aw_keep pc t (by omega)).mpr z)
  have h2' : aw u sv (aT f 1) p := (aw_keep pc p hp).mp h2
  obtain ⟨q, rq, -⟩ := h2'.2.2
  have un : ∀ {p' nm' tk' j' pk' q'}, anW u sv f p' nm' tk' j' pk' q' → p' = p ∧ nm' = nm ∧ tk' = tk ∧ nI j' = nI j ∧ pk' = pk ∧ q' = q := by
    intro p' nm' tk' j' pk' q' z
    obtain ⟨z1, z2, z3, z4, z5, z6, z7⟩ := z
    have ep : p' = p := by
      rcases Nat.lt_trichotomy p' p with c | c | c
      · exact absurd z5 (h1' p' c)
      · exact c
      · exact absurd h2' (z4 p c)
    subst ep
    obtain ⟨b1, b2, b3, b4⟩ := z2.uniq hg
    exact ⟨rfl, b1, b2, b3, b4, z6.uniq rq⟩
  refine sp_Sw_fits d1.1 d1.2.1 (fun hfit => br_f (by decide) ?_) (fun hfit => br_t rfl (wr u1 g1 (fun ⟨p', nm', tk', j', pk', q', z⟩ => hfit (by rw [← (un z).2.2.2.2.1]; exact z.2.2.2.2.2.2.1))))
  have rq1 : rw_ u1 (185 + 7 * p + 5) q := rq.keep (pc _ (by omega) (by omega)) (pc _ (by omega) (by omega))
  have k1 : u1 170 0 = u 170 0 := by rw [g1 170 (by decide)]
  unfold pb_Sw_takeAnswer_39
  refine sp_Ro_intAt rq1 3 rfl (by decide) ?_
  rw [k1]
  refine sp_Da_isAnswerTo d1.1 d1.2.2.2.2 a6 a5 (by omega) (by omega) (fun c1 c2 u2 r2 g2 => br_f (by decide) ?_) (fun hn u2 g2 => br_t rfl (wr u2 (g1.tr (f5.row g2)) (fun ⟨p', nm', tk', j', pk', q', z⟩ => hn ?_)))
  rotate_left
  · obtain ⟨e1, e2, e3, e4, e5, e6⟩ := un z
    have ej : j' = j := (nI_eq (by have := z.2.2.1; omega) (by omega)).mp e4
    subst ej
    subst e6
    exact z.2.2.2.2.2.2.2
  have hW : anW u sv f p nm tk j pk q := ⟨hp, hg, ⟨j2, j4⟩, h1', h2', rq, hfit, c1, c2⟩
  have g12 : f5 175 u u2 := g1.tr (f5.row g2)
  have pk2 : rw_ u2 178 pk := d1.2.1.keep (g2 _ (by decide) (by decide)) (g2 _ (by decide) (by decide))
  have pk20 : pk.length ≤ 20 := hg.2.2.2.2.2.1
  have tk2 : u2 175 3 = tk := by rw [g2 175 (by decide) (by decide)]; exact d1.2.2.2.1
  generalize hF : si (si (si f 3 (iA q 3)) j 0) j (iA f j) = F at r2
  have F0 : F.getD 0 (-1) = aT f 0 := by
    rw [← hF, si_gd (by rw [si_len, si_len]; omega), if_neg (by omega), if_neg (by omega), if_neg (by omega), if_neg (by omega), si_gd (by rw [si_len]; omega), if_neg (by omega), if_neg (by omega), if_neg (by omega), if_neg (by omega), si_gd (by omega), if_neg (by decide), if_neg (by decide), if_neg (by decide), if_neg (by decide)]
    rfl
  unfold pb_Sw_takeAnswer_72
  refine pu (pu ?_)
  have o4 : ∀ a, a ≠ 170 → a ≠ 185 + 7 * p → (pj_set (pj_set u2 (185 + 7 * p) 12 0) 170 8 sv) a = u2 a := fun a h1 h2 => by rw [ps_i h1, ps_i h2]
  have e4 : (pj_set (pj_set u2 (185 + 7 * p) 12 0) 170 8 sv) (185 + 7 * p) = up (u (185 + 7 * p)) 12 0 := by rw [ps_i (by omega), st_up, g12 _ (by omega)]
  have s4 : (pj_set (pj_set u2 (185 + 7 * p) 12 0) 170 8 sv) 170 = up (u 170) 8 sv := by rw [st_up, ps_i (by omega), g12 _ (by decide)]
  generalize pj_set (pj_set u2 (185 + 7 * p) 12 0) 170 8 sv = u4 at o4 e4 s4 ⊢
  have q4 : ∀ a, a ≠ 170 → (a < 175 ∨ 179 < a) → a ≠ 185 + 7 * p → u4 a = u a := fun a h1 h2 h3 => (o4 a h1 h3).trans (g12 a (by omega))
  have m4 : mb u4 ms := hm.keep (fun a h1 h2 _ _ => q4 a (by omega) (by omega) (by omega))
  have r4 : rw_ u4 176 F := r2.keep (o4 _ (by decide) (by omega)) (o4 _ (by decide) (by omega))
  have p4 : rw_ u4 178 pk := pk2.keep (o4 _ (by decide) (by omega)) (o4 _ (by decide) (by omega))
  have z0 : u4 (185 + 7 * p) 0 = u (185 + 7 * p) 0 := by rw [e4, up_k (by decide)]
  refine sp_Ro_at r4 0 rfl (by decide) ?_
  rw [F0]
  refine br_c (fun e11 => ?_) (fun n11 => ?_)
  · unfold pb_Sw_takeAnswer_94
    refine pu ?_
    rw [o4 175 (by decide) (by omega), tk2]
    have o5 : ∀ a, a ≠ 185 + 7 * p → (pj_set u4 (185 + 7 * p) 11 tk) a = u4 a := fun a h => ps_i h
    have e5 : (pj_set u4 (185 + 7 * p) 11 tk) (185 + 7 * p) = up (up (u (185 + 7 * p)) 12 0) 11 tk := by rw [st_up, e4]
    generalize pj_set u4 (185 + 7 * p) 11 tk = u5 at o5 e5 ⊢
    refine sp_Ro_copy (p4.keep (o5 _ (by omega)) (o5 _ (by omega))) (by omega) (by omega) (fun u6 h6 g6 => ?_)
    have e6 : u6 (185 + 7 * p) = up (up (u (185 + 7 * p)) 12 0) 11 tk := (g6 _ (by omega) (by omega)).trans e5
    refine sp_Sw_sendToHost (m4.keep (fun a h1 h2 _ _ => (g6 a (by omega) (by omega)).trans (o5 a (by omega)))) h6 (by omega) (by omega) (by omega) (fun u7 m7 e7 g7 => sp_Po_expect (fun u8 e8 g8 => ?_))
    rw [e6] at m7 e7
    rw [up_k (show (0 : Nat) ≠ 11 by decide), up_k (show (0 : Nat) ≠ 12 by decide)] at m7
    refine k 1 u8 _ p hp ⟨nm, tk, j, pk, q, hW, e11, by rw [e8, e7], ?_, h6.keep ((g8 _ (by omega)).trans (g7 _ (by omega) (by omega))) ((g8 _ (by omega)).trans (g7 _ (by omega) (by omega))), ?_, rfl⟩ (m7.keep (fun a h1 h2 _ _ => g8 a (by omega))) (fun a h1 h2 h3 => ?_)
    · rw [g8 _ (by omega), g7 _ (by omega) (by omega), g6 _ (by omega) (by omega), o5 _ (by omega), s4]
    · rw [g8 _ (by omega), g7 _ (by omega) (by omega), g6 _ (by omega) (by omega), o5 _ (by omega), q4 _ (by decide) (by decide) (by omega)]
    · rw [g8 a (by omega), g7 a h1 (by omega), g6 a (by omega) (by omega), o5 a (by omega), q4 a (by omega) (by omega) (by omega)]
  · unfold pb_Sw_takeAnswer_133
    refine sp_Sw_sendToHost m4 p4 (by decide) (by omega) (by omega) (fun u5 m5 e5 g5 => ?_)
    rw [z0] at m5
    rw [e4] at e5
    refine sp_Ro_at (r4.keep (g5 _ (by decide) (by omega)) (g5 _ (by decide) (by omega))) 0 rfl (by decide) ?_
    rw [F0]
    refine br_c (fun e2 => ?_) (fun n2 => ?_)
    · refine sp_Sw_admit (fun u6 e6 g6 => ?_)
      refine k 2 u6 _ p hp ⟨nm, tk, j, pk, q, hW, e2, by rw [e6, e5], ?_, fun a h1 h2 => ?_, ?_, rfl⟩ (m5.keep (fun a h1 h2 _ _ => g6 a (by omega))) (fun a h1 h2 h3 => ?_)
      · rw [g6 _ (by omega), g5 _ (by omega) (by omega), s4]
      · rw [g6 _ (by omega), g5 _ (by omega) (by omega), q4 _ (by omega) (by omega) (by omega)]
      · rw [g6 _ (by omega), g5 _ (by omega) (by omega), q4 _ (by omega) (by omega) (by omega)]
      · rw [g6 a (by omega), g5 a h1 (by omega), q4 a (by omega) (by omega) (by omega)]
    · have e3 : aT f 0 = 3 := by
        rcases hfit with ⟨a, _⟩ | ⟨a, _⟩ | ⟨a, _⟩
        · exact absurd a n11
        · exact absurd a n2
        · exact a
      refine sp_Sw_fail (by omega) (fun u6 c6 e6 g6 => ?_)
      have z5 : u5 (185 + 7 * p) 0 = u (185 + 7 * p) 0 := by rw [e5, up_k (by decide), up_k (by decide)]
      have t5 : u5 172 = u 172 := by rw [g5 _ (by omega) (by omega), q4 _ (by omega) (by omega) (by omega)]
      rw [z5, t5] at c6
      refine k 3 u6 _ p hp ⟨nm, tk, j, pk, q, hW, e3, by rw [e6, e5], ?_, fun a h1 h2 => ?_, c6, rfl⟩ (m5.keep (fun a h1 h2 _ _ => g6 a (by omega) (by omega))) (fun a h1 h2 h3 => ?_)
      · rw [g6 _ (by omega) (by omega), g5 _ (by omega) (by omega), s4]
      · rw [g6 _ (by omega) (by omega), g5 _ (by omega) (by omega), q4 _ (by omega) (by omega) (by omega)]
      · rw [g6 a (by omega) (by omega), g5 a h1 (by omega), q4 a (by omega) (by omega) (by omega)]
