/-! The pure part: the reference's mailbox -/
def enM (u : pj_M) (k : Nat) (x : mT) : Prop := u 221 k = x.1 ∧ u 222 k = x.2.1 ∧ u 223 k = nI x.2.2.length ∧ x.2.2.length ≤ 48 ∧ ∀ j, j < x.2.2.length → u 224 (48 * k + j) = x.2.2.getD j 0
def mm (u : pj_M) (ms : List mT) : Prop := u 217 4 = nI ms.length ∧ ms.length ≤ 40 ∧ ∀ k, k < ms.length → enM u k (mg ms k)
theorem enM.keep {u u' : pj_M} {k : Nat} {x : mT} (h : enM u k x) (h1 : u' 221 k = u 221 k) (h2 : u' 222 k = u 222 k) (h3 : u' 223 k = u 223 k) (h4 : ∀ j, j < 48 → u' 224 (48 * k + j) = u 224 (48 * k + j)) : enM u' k x :=
  ⟨h1.trans h.1, h2.trans h.2.1, h3.trans h.2.2.1, h.2.2.2.1, fun j hj => (h4 j (by have := h.2.2.2.1; omega)).trans (h.2.2.2.2 j hj)⟩
theorem mm.keep {u u' : pj_M} {ms : List mT} (h : mm u ms) (h0 : u' 217 4 = u 217 4) (h1 : u' 221 = u 221) (h2 : u' 222 = u 222) (h3 : u' 223 = u 223) (h4 : u' 224 = u 224) : mm u' ms :=
  ⟨h0.trans h.1, h.2.1, fun k hk => (h.2.2 k hk).keep (by rw [h1]) (by rw [h2]) (by rw [h3]) (fun j _ => by rw [h4])⟩
/-- the mailbox alone has changed -/
def fM (u u' : pj_M) : Prop := (∀ a, a ≠ 217 → (a < 221 ∨ 224 < a) → u' a = u a) ∧ ∀ k, k ≠ 4 → u' 217 k = u 217 k
theorem fM.rf {u : pj_M} : fM u u := ⟨fun _ _ _ => rfl, fun _ _ => rfl⟩
theorem lp_Mo_send {u0 : pj_M} {n : Nat} {l : List Int32} {K : pj_M → Prop} (hn : n < 40) : ∀ (d t : Nat) (u : pj_M), t + d = l.length → mR u l → u 217 4 = nI n → (∀ a, a ≠ 224 → u a = u0 a) → (∀ q, (q < 48 * n ∨ 48 * n + 48 ≤ q) → u 224 q = u0 224 q) → (∀ j, j < t → u 224 (48 * n + j) = l.getD j 0) → (∀ u', u' 217 4 = nI (n + 1) → (∀ k, k ≠ 4 → u' 217 k = u0 217 k) → (∀ a, a ≠ 217 → a ≠ 224 → u' a = u0 a) → (∀ q, (q < 48 * n ∨ 48 * n + 48 ≤ q) → u' 224 q = u0 224 q) → (∀ j, j < l.length → u' 224 (48 * n + j) = l.getD j 0) → K u') → pb_Mo_send_45 K (d + 1) u (nI t) := by
  intro d
  induction d with
  | zero =>
    intro t u ht hr h4 ho hq hj k
    have h48 := hr.2.1
    refine br_t (by rw [hr.1]; exact nI_le (by omega) (by omega)) ?_
    refine k _ (by rw [ps_s, h4, nI_1]) (fun k' hk' => ?_) (fun a h1 h2 => ?_) (fun q hq' => ?_) (fun j hj' => ?_)
    · rw [ps_k hk', ho 217 (by decide)]
    · rw [ps_i h1, ho a h2]
    · rw [ps_i (by decide)]; exact hq q hq'
    · rw [ps_i (by decide)]; exact hj j (by omega)
  | succ d ih =>
    intro t u ht hr h4 ho hq hj k
    have h48 := hr.2.1
    have e48 : (48 : Int32) * nI n + nI t = nI (48 * n + t) := by
      rw [show (48 : Int32) * nI n = nI (48 * n) from pk_mul 48 n, nI_add]
    refine br_f (by rw [hr.1]; exact nI_ge (by omega) (by omega)) ?_
    refine ⟨vp_in_nI (by omega) (by decide), by rw [h4, e48]; exact vp_in_nI (by omega) (by decide), ?_⟩
    show pb_Mo_send_45 K (d + 1) (pj_set u 224 (48 * u 217 4 + nI t).toNatClampNeg (u 226 (nI t).toNatClampNeg)) (nI t + 1)
    rw [nI_1, h4, e48, nI_clamp (by omega), nI_clamp (by omega)]
    refine ih (t + 1) _ (by omega) (hr.keep (by rw [ps_i (by decide)]) (ps_i (by decide))) (by rw [ps_i (by decide)]; exact h4) (fun a ha => by rw [ps_i ha]; exact ho a ha) (fun q hq' => ?_) (fun j hj' => ?_) k
    · rw [ps_k (by omega)]; exact hq q hq'
    · by_cases e : j = t
      · subst e
        rw [ps_s]; exact hr.2.2 j (by omega)
      · rw [ps_k (by omega)]; exact hj j (by omega)
theorem sp_Mo_send {u : pj_M} {w p : Int32} {l : List Int32} {ms : List mT} {K : pj_M → Prop} (h : mm u ms) (hr : mR u l) (k : ∀ u', mm u' (ad ms (w, p, l)) → fM u u' → K u') : pw_Mo_send u w p K := by
  obtain ⟨h4, hn, hen⟩ := h
  have h48 := hr.2.1
  refine br_c (fun hf => ?_) (fun hf => ?_)
  · rw [h4] at hf
    have e : ms.length = 40 := (nI_e 40 (by omega) (by decide)).mp hf
    refine k u ?_ fM.rf
    rw [ad, if_neg (by omega)]
    exact ⟨h4, hn, hen⟩
  have hl : ms.length < 40 := by
    rcases Nat.lt_or_ge ms.length 40 with z | z
    · exact z
    · exact absurd (by rw [h4, show ms.length = 40 by omega]; rfl) hf
  have v : vp_in (nI ms.length) 40 := vp_in_nI hl (by decide)
  have c : (nI ms.length).toNatClampNeg = ms.length := nI_clamp (by omega)
  show vp_in (u 217 4) 40 ∧ (vp_in ((pj_set u 221 (u 217 4).toNatClampNeg w) 217 4) 40 ∧ (vp_in ((pj_set (pj_set u 221 (u 217 4).toNatClampNeg w) 222 ((pj_set u 221 (u 217 4).toNatClampNeg w) 217 4).toNatClampNeg p) 217 4) 40 ∧ (∃ n, pb_Mo_send_45 K n (pj_set (pj_set (pj_set u 221 (u 217 4).toNatClampNeg w) 222 ((pj_set u 221 (u 217 4).toNatClampNeg w) 217 4).toNatClampNeg p) 223 ((pj_set (pj_set u 221 (u 217 4).toNatClampNeg w) 222 ((pj_set u 221 (u 217 4).toNatClampNeg w) 217 4).toNatClampNeg p) 217 4).toNatClampNeg ((pj_set (pj_set u 221 (u 217 4).toNatClampNeg w) 222 ((pj_set u 221 (u 217 4).toNatClampNeg w) 217 4).toNatClampNeg p) 217 11)) 0)))
  have e1 : ∀ (i q : Nat) (x : Int32) (v : pj_M) (kk : Nat), i ≠ 217 → pj_set v i q x 217 kk = v 217 kk := fun i q x v kk hi => by rw [ps_i (Ne.symm hi)]
  rw [e1 222 _ _ _ _ (by decide), e1 222 _ _ _ _ (by decide), e1 221 _ _ _ _ (by decide), e1 221 _ _ _ _ (by decide), h4, c, hr.1]
  refine ⟨v, v, v, l.length + 1, lp_Mo_send hl l.length 0 _ (by omega) (hr.keep ?_ ?_) ?_ (fun _ _ => rfl) (fun _ _ => rfl) (fun j hj => absurd hj (Nat.not_lt_zero j)) (fun u' g4 gk ga gq gj => ?_)⟩
  · rw [ps_i (by decide), ps_i (by decide), ps_i (by decide)]
  · rw [ps_i (by decide), ps_i (by decide), ps_i (by decide)]
  · rw [ps_i (by decide), ps_i (by decide), ps_i (by decide)]; exact h4
  have o : ∀ a, a ≠ 221 → a ≠ 222 → a ≠ 223 → (pj_set (pj_set (pj_set u 221 ms.length w) 222 ms.length p) 223 ms.length (nI l.length)) a = u a := fun a h1 h2 h3 => by rw [ps_i h3, ps_i h2, ps_i h1]
  refine k u' ?_ ⟨fun a h1 h2 => (ga a h1 (by omega)).trans (o a (by omega) (by omega) (by omega)), fun kk hk => by rw [gk kk hk, o 217 (by decide) (by decide) (by decide)]⟩
  rw [ad, if_pos hl]
  refine ⟨by rw [g4]; simp, by simp; omega, fun t ht => ?_⟩
  rw [List.length_append, List.length_singleton] at ht
  by_cases e : t = ms.length
  · subst e
    rw [mg_hi]
    refine ⟨?_, ?_, ?_, h48, gj⟩
    · rw [ga 221 (by decide) (by decide), ps_i (by decide), ps_i (by decide), ps_s]
    · rw [ga 222 (by decide) (by decide), ps_i (by decide), ps_s]
    · rw [ga 223 (by decide) (by decide), ps_s]
  · rw [mg_lo (by omega)]
    refine (hen t (by omega)).keep ?_ ?_ ?_ (fun j hj => ?_)
    · rw [ga 221 (by decide) (by decide), ps_i (by decide), ps_i (by decide), ps_k e]
    · rw [ga 222 (by decide) (by decide), ps_i (by decide), ps_k e, ps_i (by decide)]
    · rw [ga 223 (by decide) (by decide), ps_k e, ps_i (by decide), ps_i (by decide)]
    · rw [gq _ (by omega), o 224 (by decide) (by decide) (by decide)]
