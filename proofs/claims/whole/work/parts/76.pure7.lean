/-! The pure part: a message leaves the mailbox -/
def shf {α : Type} (f : Nat → α) (k j t : Nat) : α := if k ≤ t ∧ t < j then f (t + 1) else f t
theorem shf_0 {α : Type} (f : Nat → α) (k t : Nat) : shf f k k t = f t := if_neg (by omega)
theorem shf_at {α : Type} (f : Nat → α) {k j : Nat} : shf f k j j = f j := if_neg (by omega)
theorem shf_up {α : Type} (f : Nat → α) {k j : Nat} : shf f k j (j + 1) = f (j + 1) := if_neg (by omega)
theorem shf_s {α : Type} (f : Nat → α) {k j : Nat} (h : k ≤ j) : shf f k (j + 1) j = f (j + 1) := if_pos ⟨h, by omega⟩
theorem shf_o {α : Type} (f : Nat → α) {k j t : Nat} (h : t ≠ j) : shf f k (j + 1) t = shf f k j t := by
  unfold shf
  by_cases c : k ≤ t ∧ t < j
  · rw [if_pos c, if_pos ⟨c.1, by omega⟩]
  · rw [if_neg c, if_neg (by omega)]
/-- the rows from k on have moved up to place j -/
def dI_ (u0 u : pj_M) (ρ : Nat → Nat) (k j : Nat) : Prop := (∀ t, t < 40 → u 7 t = nI (shf ρ k j t)) ∧ (∀ t, t < 40 → u 5 t = shf (u0 5) k j t) ∧ (∀ t, t < 40 → u 6 t = shf (u0 6) k j t) ∧ ∀ a, a ≠ 5 → a ≠ 6 → a ≠ 7 → u a = u0 a
theorem lp_Ma_drop {u0 : pj_M} {ρ : Nat → Nat} {n k : Nat} {K : pj_M → Prop} (hr : rh u0 ρ) (h4 : u0 4 4 = nI n) (hn : n ≤ 40) (hk : k < n) (kk : ∀ u', (∀ t, t < 40 → u' 7 t = nI (if t = n - 1 then ρ k else shf ρ k (n - 1) t)) → (∀ t, t < n - 1 → u' 5 t = shf (u0 5) k (n - 1) t) → (∀ t, t < n - 1 → u' 6 t = shf (u0 6) k (n - 1) t) → u' 4 4 = nI (n - 1) → (∀ a, a ≠ 4 → a ≠ 5 → a ≠ 6 → a ≠ 7 → u' a = u0 a) → K u') :
    ∀ (d j : Nat) (u : pj_M), j + d = n - 1 → k ≤ j → dI_ u0 u ρ k j → pb_Ma_drop_18 K (ρ k) (d + 1) u (nI j) := by
  intro d
  induction d with
  | zero =>
    intro j u hj hkj hi
    obtain ⟨i7, i5, i6, io⟩ := hi
    have e4 : u 4 4 = nI n := by rw [io 4 (by decide) (by decide) (by decide)]; exact h4
    have e1 : nI n - 1 = nI (n - 1) := pk_sub (b := 1) (by omega)
    refine br_t (by rw [e4, e1]; exact nI_le (by omega) (by omega)) ?_
    show vp_in (pj_set u 4 4 (u 4 4 - 1) 4 4) 40 ∧ K _
    rw [ps_s, e4, e1, nI_clamp (by omega)]
    refine ⟨vp_in_nI (by omega) (by decide), ?_⟩
    have ej : j = n - 1 := by omega
    subst ej
    refine kk _ (fun t ht => ?_) (fun t ht => ?_) (fun t ht => ?_) ?_ (fun a h4 h5 h6 h7 => ?_)
    · by_cases e : t = n - 1
      · rw [e, ps_s, if_pos rfl]
      · rw [ps_k e, ps_i (by decide), if_neg e]; exact i7 t ht
    · rw [ps_i (by decide), ps_i (by decide)]; exact i5 t (by omega)
    · rw [ps_i (by decide), ps_i (by decide)]; exact i6 t (by omega)
    · rw [ps_i (by decide), ps_s]
    · rw [ps_i h7, ps_i h4]; exact io a h5 h6 h7
  | succ d ih =>
    intro j u hj hkj hi
    obtain ⟨i7, i5, i6, io⟩ := hi
    have e4 : u 4 4 = nI n := by rw [io 4 (by decide) (by decide) (by decide)]; exact h4
    have e1 : nI n - 1 = nI (n - 1) := pk_sub (b := 1) (by omega)
    refine br_f (by rw [e4, e1]; exact nI_ge (by omega) (by omega)) ?_
    have c0 : (nI j).toNatClampNeg = j := nI_clamp (by omega)
    have c1 : (nI j + 1).toNatClampNeg = j + 1 := by rw [nI_1]; exact nI_clamp (by omega)
    have v0 : vp_in (nI j) 40 := vp_in_nI (by omega) (by decide)
    have v1 : vp_in (nI j + 1) 40 := by rw [nI_1]; exact vp_in_nI (by omega) (by decide)
    obtain ⟨-, b1, b2, b3⟩ := hr.1 (j + 1) (by omega)
    have e7 : (u 7 (j + 1)).toNatClampNeg = ρ (j + 1) := by rw [i7 (j + 1) (by omega), shf_up]; exact nI_clamp (by omega)
    refine ⟨v1, v0, v1, v0, v1, ?_⟩
    show pj_T ((pj_set (pj_set u 5 (nI j).toNatClampNeg (u 5 (nI j + 1).toNatClampNeg)) 6 (nI j).toNatClampNeg (pj_set u 5 (nI j).toNatClampNeg (u 5 (nI j + 1).toNatClampNeg) 6 (nI j + 1).toNatClampNeg)) 7 (nI j + 1).toNatClampNeg).toNatClampNeg = 3 ∧ (vp_in (nI j) 40 ∧ pb_Ma_drop_18 K (ρ k) (d + 1) (pj_set (pj_set (pj_set u 5 (nI j).toNatClampNeg (u 5 (nI j + 1).toNatClampNeg)) 6 (nI j).toNatClampNeg (pj_set u 5 (nI j).toNatClampNeg (u 5 (nI j + 1).toNatClampNeg) 6 (nI j + 1).toNatClampNeg)) 7 (nI j).toNatClampNeg (nI ((pj_set (pj_set u 5 (nI j).toNatClampNeg (u 5 (nI j + 1).toNatClampNeg)) 6 (nI j).toNatClampNeg (pj_set u 5 (nI j).toNatClampNeg (u 5 (nI j + 1).toNatClampNeg) 6 (nI j + 1).toNatClampNeg)) 7 (nI j + 1).toNatClampNeg).toNatClampNeg)) (nI j + 1))
    rw [c0, c1, ps_i (show (7 : Nat) ≠ 6 by decide), ps_i (show (7 : Nat) ≠ 5 by decide), ps_i (show (6 : Nat) ≠ 5 by decide), e7]
    refine ⟨row_T _ b2 b1 b3, v0, ?_⟩
    rw [nI_1]
    refine ih (j + 1) _ (by omega) (by omega) ⟨fun t ht => ?_, fun t ht => ?_, fun t ht => ?_, fun a h5 h6 h7 => ?_⟩
    · by_cases e : t = j
      · rw [e, ps_s, shf_s _ hkj]
      · rw [ps_k e, ps_i (by decide), ps_i (by decide), shf_o _ e]; exact i7 t ht
    · rw [ps_i (by decide), ps_i (by decide)]
      by_cases e : t = j
      · rw [e, ps_s, shf_s _ hkj, i5 (j + 1) (by omega), shf_up]
      · rw [ps_k e, shf_o _ e]; exact i5 t ht
    · rw [ps_i (by decide)]
      by_cases e : t = j
      · rw [e, ps_s, shf_s _ hkj, i6 (j + 1) (by omega), shf_up]
      · rw [ps_k e, ps_i (by decide), shf_o _ e]; exact i6 t ht
    · rw [ps_i h7, ps_i h6, ps_i h5]; exact io a h5 h6 h7
theorem sh_inj {n k a c : Nat} (hk : k ≤ n) (h : (if a = n then k else if k ≤ a ∧ a < n then a + 1 else a) = (if c = n then k else if k ≤ c ∧ c < n then c + 1 else c)) : a = c := by
  (split at h <;> (try split at h) <;> (try split at h) <;> (try split at h)) <;> omega
theorem mg_er {ms : List mT} {k t : Nat} : mg (ms.eraseIdx k) t = if t < k then mg ms t else mg ms (t + 1) := by
  unfold mg
  rw [List.getD_eq_getElem?_getD, List.getElem?_eraseIdx]
  split
  · rw [List.getD_eq_getElem?_getD]
  · rw [List.getD_eq_getElem?_getD]
theorem sp_Ma_drop {u : pj_M} {k : Nat} {ms : List mT} {K : pj_M → Prop} (h : mb u ms) (hk : k < ms.length) (kk : ∀ u', mb u' (ms.eraseIdx k) → fm u u' → K u') : pw_Ma_drop u (nI k) K := by
  refine sp_Ma_has h (fun k' hk' e => ?_) (fun e => absurd ⟨k, hk, rfl⟩ e)
  obtain ⟨ρ, hr, h4, hn, h5⟩ := h
  obtain ⟨c0, c1, c2, c3⟩ := hr.1 k (by omega)
  refine br_f (by decide) ⟨vp_in_nI (by omega) (by decide), ?_⟩
  show pj_T ((u 7 (nI k).toNatClampNeg).toNatClampNeg) = 3 ∧ (∃ n, pb_Ma_drop_18 K (u 7 (nI k).toNatClampNeg).toNatClampNeg n u (nI k))
  rw [nI_clamp (show k < 2 ^ 31 by omega), c0, nI_clamp (by omega)]
  refine ⟨row_T _ c2 c1 c3, ms.length - 1 - k + 1, lp_Ma_drop hr h4 hn hk (fun u' g7 g5 g6 g4 go => ?_) (ms.length - 1 - k) k u (by omega) (Nat.le_refl _) ⟨fun t ht => by rw [shf_0]; exact (hr.1 t ht).1, fun t _ => (shf_0 _ _ _).symm, fun t _ => (shf_0 _ _ _).symm, fun _ _ _ _ => rfl⟩⟩
  have hlen : (ms.eraseIdx k).length = ms.length - 1 := List.length_eraseIdx_of_lt hk
  refine kk u' ⟨fun t => if t = ms.length - 1 then ρ k else shf ρ k (ms.length - 1) t, ⟨fun t ht => ⟨g7 t ht, ?_⟩, fun a c ha hc hac => ?_⟩, by rw [hlen]; exact g4, by rw [hlen]; omega, fun t ht => ?_⟩ (fun a ha => go a (by omega) (by omega) (by omega) (by omega))
  · show 10 ≤ (if t = ms.length - 1 then ρ k else shf ρ k (ms.length - 1) t) ∧ (if t = ms.length - 1 then ρ k else shf ρ k (ms.length - 1) t) < 90 ∧ (if t = ms.length - 1 then ρ k else shf ρ k (ms.length - 1) t) % 2 = 0
    by_cases e : t = ms.length - 1
    · rw [if_pos e]; exact ⟨c1, c2, c3⟩
    · rw [if_neg e]
      unfold shf
      split
      · exact (hr.1 (t + 1) (by omega)).2
      · exact (hr.1 t ht).2
  · have key : ∀ t, t < 40 → ∃ s, s < 40 ∧ (if t = ms.length - 1 then ρ k else shf ρ k (ms.length - 1) t) = ρ s ∧ s = (if t = ms.length - 1 then k else if k ≤ t ∧ t < ms.length - 1 then t + 1 else t) := by
      intro t ht
      refine ⟨if t = ms.length - 1 then k else if k ≤ t ∧ t < ms.length - 1 then t + 1 else t, ?_, ?_, rfl⟩
      · split
        · omega
        · split <;> omega
      · split
        · rfl
        · unfold shf
          split <;> rfl
    obtain ⟨s1, hs1, e1, f1⟩ := key a ha
    obtain ⟨s2, hs2, e2, f2'⟩ := key c hc
    have e3 : ρ s1 = ρ s2 := e1.symm.trans (hac.trans e2)
    have e4 := hr.2 s1 s2 hs1 hs2 e3
    rw [f1, f2'] at e4
    clear e1 e2 e3 f1 f2' key hac hr c0 c1 c2 c3 h5 h4 g7 g5 g6 g4 go
    exact sh_inj (by omega) e4
  · rw [hlen] at ht
    show en u' (fun t => if t = ms.length - 1 then ρ k else shf ρ k (ms.length - 1) t) t _
    rw [mg_er]
    have e0 : ¬ t = ms.length - 1 := by omega
    by_cases c : t < k
    · rw [if_pos c]
      obtain ⟨a1, a2, a3⟩ := h5 t (by omega)
      obtain ⟨-, d1, d2, d3⟩ := hr.1 t (by omega)
      have es : ∀ {α : Type} (f : Nat → α), shf f k (ms.length - 1) t = f t := fun f => if_neg (by omega)
      refine ⟨by rw [g5 t ht, es]; exact a1, by rw [g6 t ht, es]; exact a2, ?_⟩
      show rw_ u' (if t = ms.length - 1 then ρ k else shf ρ k (ms.length - 1) t) _
      rw [if_neg e0, es]
      exact a3.keep (go _ (by omega) (by omega) (by omega) (by omega)) (go _ (by omega) (by omega) (by omega) (by omega))
    · rw [if_neg c]
      obtain ⟨a1, a2, a3⟩ := h5 (t + 1) (by omega)
      obtain ⟨-, d1, d2, d3⟩ := hr.1 (t + 1) (by omega)
      have es : ∀ {α : Type} (f : Nat → α), shf f k (ms.length - 1) t = f (t + 1) := fun f => if_pos ⟨by omega, ht⟩
      refine ⟨by rw [g5 t ht, es]; exact a1, by rw [g6 t ht, es]; exact a2, ?_⟩
      show rw_ u' (if t = ms.length - 1 then ρ k else shf ρ k (ms.length - 1) t) _
      rw [if_neg e0, es]
      exact a3.keep (go _ (by omega) (by omega) (by omega) (by omega)) (go _ (by omega) (by omega) (by omega) (by omega))
