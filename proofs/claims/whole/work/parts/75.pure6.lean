/-! The pure part: the mailbox of the class -/
abbrev mT : Type := Int32 × Int32 × List Int32
def mg (ms : List mT) (k : Nat) : mT := ms.getD k (0, 0, [])
theorem mg_lo {ms : List mT} {x : mT} {k : Nat} (h : k < ms.length) : mg (ms ++ [x]) k = mg ms k := by
  unfold mg
  rw [List.getD_eq_getElem?_getD, List.getD_eq_getElem?_getD, List.getElem?_append_left h]
theorem mg_hi {ms : List mT} {x : mT} : mg (ms ++ [x]) ms.length = x := by
  unfold mg
  rw [List.getD_eq_getElem?_getD, List.getElem?_append_right (Nat.le_refl _), Nat.sub_self]
  rfl
/-- the rows' order: a permutation of the forty rows -/
def rh (u : pj_M) (ρ : Nat → Nat) : Prop := (∀ k, k < 40 → u 7 k = nI (ρ k) ∧ 10 ≤ ρ k ∧ ρ k < 90 ∧ ρ k % 2 = 0) ∧ ∀ j k, j < 40 → k < 40 → ρ j = ρ k → j = k
def en (u : pj_M) (ρ : Nat → Nat) (k : Nat) (x : mT) : Prop := u 5 k = x.1 ∧ u 6 k = x.2.1 ∧ rw_ u (ρ k) x.2.2
def mb (u : pj_M) (ms : List mT) : Prop := ∃ ρ, rh u ρ ∧ u 4 4 = nI ms.length ∧ ms.length ≤ 40 ∧ ∀ k, k < ms.length → en u ρ k (mg ms k)
def fm (u u' : pj_M) : Prop := ∀ a, (a < 4 ∨ 90 ≤ a) → u' a = u a
theorem fm.rf {u : pj_M} : fm u u := fun _ _ => rfl
theorem fm.tr {u v w : pj_M} (h : fm u v) (k : fm v w) : fm u w := fun a ha => (k a ha).trans (h a ha)
theorem fm.of2 {u v : pj_M} {r : Nat} (h : f2 r u v) (h1 : 4 ≤ r) (h2 : r + 1 < 90) : fm u v := fun a ha => h a (by omega) (by omega)
theorem fm.set {u : pj_M} {i k : Nat} {v : Int32} (h1 : 4 ≤ i) (h2 : i < 90) : fm u (pj_set u i k v) := fun a ha => pj_set_ne (by omega)
theorem row_T : ∀ i, i < 90 → 10 ≤ i → i % 2 = 0 → pj_T i = 3 := by decide +kernel
theorem mb.keep {u u' : pj_M} {ms : List mT} (h : mb u ms) (hk : ∀ a, 4 ≤ a → a < 90 → a ≠ 8 → a ≠ 9 → u' a = u a) : mb u' ms := by
  obtain ⟨ρ, ⟨h1, h2⟩, h3, h4, h5⟩ := h
  refine ⟨ρ, ⟨fun k hk' => ?_, h2⟩, ?_, h4, fun k hk' => ?_⟩
  · rw [hk 7 (by decide) (by decide) (by decide) (by decide)]; exact h1 k hk'
  · rw [hk 4 (by decide) (by decide) (by decide) (by decide)]; exact h3
  · obtain ⟨a1, a2, a3⟩ := h5 k hk'
    obtain ⟨-, b1, b2, b3⟩ := h1 k (by omega)
    refine ⟨?_, ?_, a3.keep (hk _ (by omega) (by omega) (by omega) (by omega)) (hk _ (by omega) (by omega) (by omega) (by omega))⟩
    · rw [hk 5 (by decide) (by decide) (by decide) (by decide)]; exact a1
    · rw [hk 6 (by decide) (by decide) (by decide) (by decide)]; exact a2
/-- one message more is begun, its row is r -/
def mb1 (u : pj_M) (ms : List mT) (w p : Int32) (r : Nat) : Prop := ∃ ρ, rh u ρ ∧ u 4 4 = nI (ms.length + 1) ∧ ms.length < 40 ∧ r = ρ ms.length ∧ u 5 ms.length = w ∧ u 6 ms.length = p ∧ ∀ k, k < ms.length → en u ρ k (mg ms k)
theorem mb1.row {u : pj_M} {ms : List mT} {w p : Int32} {r : Nat} (h : mb1 u ms w p r) : 10 ≤ r ∧ r < 89 ∧ pj_T r = 3 := by
  obtain ⟨ρ, ⟨h1, h2⟩, h3, h4, rfl, -⟩ := h
  obtain ⟨-, b1, b2, b3⟩ := h1 ms.length h4
  exact ⟨b1, by omega, row_T _ b2 b1 b3⟩
theorem mb1.fill {u u' : pj_M} {ms : List mT} {w p : Int32} {r : Nat} {l : List Int32} (h : mb1 u ms w p r) (hr : rw_ u' r l) (g : f2 r u u') : mb u' (ms ++ [(w, p, l)]) := by
  obtain ⟨ρ, ⟨h1, h2⟩, h3, h4, rfl, h5, h6, h7⟩ := h
  obtain ⟨-, b1, b2, b3⟩ := h1 ms.length h4
  refine ⟨ρ, ⟨fun k hk => ?_, h2⟩, ?_, by simp; omega, fun k hk => ?_⟩
  · rw [g 7 (by omega) (by omega)]; exact h1 k hk
  · rw [g 4 (by omega) (by omega)]; simpa using h3
  · rw [List.length_append, List.length_singleton] at hk
    by_cases e : k = ms.length
    · subst e
      rw [mg_hi]
      refine ⟨?_, ?_, hr⟩
      · rw [g 5 (by omega) (by omega)]; exact h5
      · rw [g 6 (by omega) (by omega)]; exact h6
    · rw [mg_lo (by omega)]
      obtain ⟨a1, a2, a3⟩ := h7 k (by omega)
      obtain ⟨-, c1, c2, c3⟩ := h1 k (by omega)
      have hne : ρ k ≠ ρ ms.length := fun z => e (h2 k ms.length (by omega) h4 z)
      refine ⟨?_, ?_, a3.keep (g _ (by omega) (by omega)) (g _ (by omega) (by omega))⟩
      · rw [g 5 (by omega) (by omega)]; exact a1
      · rw [g 6 (by omega) (by omega)]; exact a2
theorem sp_Ma_has {u : pj_M} {x : Int32} {ms : List mT} {K : Int32 → pj_M → Prop} (h : mb u ms) (kt : ∀ k, k < ms.length → x = nI k → K 1 u) (kf : (¬ ∃ k, k < ms.length ∧ x = nI k) → K 0 u) : pw_Ma_has u x K := by
  obtain ⟨ρ, -, h3, h4, -⟩ := h
  refine br_c (fun hx => ?_) (fun hx => ?_)
  · exact ⟨pj_bi0, kf (fun ⟨k, hk, e⟩ => by rw [e] at hx; exact nI_pos (by omega) hx)⟩
  obtain ⟨k, hk, rfl⟩ := nI_of hx
  refine br_c (fun hy => ?_) (fun hy => ?_)
  · rw [h3] at hy
    refine ⟨pj_bi0, kf (fun ⟨j, hj, e⟩ => ?_)⟩
    have := (nI_leI (by omega) hk).mp hy
    have e2 := (nI_eq hk (by omega)).mp e
    omega
  · rw [h3] at hy
    exact ⟨pj_bi1, kt k (Nat.lt_of_not_le (fun z => hy (nI_le z hk))) rfl⟩
theorem sp_Ma_add {u : pj_M} {w p : Int32} {ms : List mT} {K : Nat → pj_M → Prop} (h : mb u ms) (kl : ms.length < 40 → ∀ r u', mb1 u' ms w p r → fm u u' → K r u') (kf : ms.length = 40 → K 8 u) : pw_Ma_add u w p K := by
  obtain ⟨ρ, ⟨h1, h2⟩, h3, h4, h5⟩ := h
  by_cases hl : ms.length < 40
  · refine br_t (by rw [h3]; exact nI_lt (b := 40) hl (by decide)) ?_
    obtain ⟨c0, c1, c2, c3⟩ := h1 ms.length hl
    have e4 : (nI ms.length).toNatClampNeg = ms.length := nI_clamp (by omega)
    show vp_in (u 4 4) 40 ∧ (vp_in ((pj_set u 5 (u 4 4).toNatClampNeg w) 4 4) 40 ∧ _)
    rw [h3, e4, ps_i (show (4 : Nat) ≠ 5 by decide), h3]
    refine ⟨vp_in_nI hl (by decide), vp_in_nI hl (by decide), ?_⟩
    rw [e4]
    show vp_in _ 40 ∧ _
    rw [show pj_set (pj_set u 5 ms.length w) 6 ms.length p 4 4 = nI ms.length by rw [ps_i (by decide), ps_i (by decide), h3]]
    generalize hu3 : pj_set (pj_set (pj_set u 5 ms.length w) 6 ms.length p) 4 4 (nI ms.length + 1) = u3
    have f4 : u3 4 4 = nI (ms.length + 1) := by rw [← hu3, ps_s, nI_1]
    have f5' : ∀ k, k ≠ ms.length → u3 5 k = u 5 k := fun k hk => by rw [← hu3, ps_i (by decide), ps_i (by decide), ps_k hk]
    have f5n : u3 5 ms.length = w := by rw [← hu3, ps_i (by decide), ps_i (by decide), ps_s]
    have f6' : ∀ k, k ≠ ms.length → u3 6 k = u 6 k := fun k hk => by rw [← hu3, ps_i (by decide), ps_k hk, ps_i (by decide)]
    have f6n : u3 6 ms.length = p := by rw [← hu3, ps_i (by decide), ps_s]
    have fo : ∀ a, a ≠ 4 → a ≠ 5 → a ≠ 6 → u3 a = u a := fun a h4 h5 h6 => by rw [← hu3, ps_i h4, ps_i h6, ps_i h5]
    rw [f4, nI_pred, e4, fo 7 (by decide) (by decide) (by decide), c0, nI_clamp (by omega)]
    refine ⟨vp_in_nI hl (by decide), row_T _ c2 c1 c3, ?_⟩
    refine kl hl (ρ ms.length) u3 ⟨ρ, ⟨fun k hk => by rw [fo 7 (by decide) (by decide) (by decide)]; exact h1 k hk, h2⟩, f4, hl, rfl, f5n, f6n, fun k hk => ?_⟩ (fun a ha => fo a (by omega) (by omega) (by omega))
    obtain ⟨a1, a2, a3⟩ := h5 k hk
    obtain ⟨-, d1, d2, d3⟩ := h1 k (by omega)
    exact ⟨by rw [f5' k (by omega)]; exact a1, by rw [f6' k (by omega)]; exact a2, a3.keep (fo _ (by omega) (by omega) (by omega)) (fo _ (by omega) (by omega) (by omega))⟩
  · refine br_f (by rw [h3]; exact nI_nlt (b := 40) (by omega) (by omega)) ?_
    exact kf (by omega)
/-- a message more, if there is room -/
def ad (ms : List mT) (x : mT) : List mT := if ms.length < 40 then ms ++ [x] else ms
theorem sp_Ma_send {u : pj_M} {w p : Int32} {q : Nat} {l : List Int32} {ms : List mT} {K : pj_M → Prop} (h : mb u ms) (hq : rw_ u q l) (hq9 : 90 ≤ q) (k : ∀ u', mb u' (ad ms (w, p, l)) → fm u u' → K u') : pw_Ma_send u w p q K := by
  refine sp_Ma_add h (fun hl r u1 h1 g1 => ?_) (fun hl => ?_)
  · obtain ⟨b1, b2, b3⟩ := h1.row
    refine ⟨b3, sp_Ro_copy (hq.keep (g1 _ (by omega)) (g1 _ (by omega))) (by omega) (by omega) (fun u2 h2 g2 => ?_)⟩
    refine k u2 ?_ (g1.tr (fm.of2 g2 (by omega) (by omega)))
    rw [ad, if_pos hl]
    exact h1.fill h2 g2
  · refine ⟨by decide +kernel, sp_Ro_copy hq (by omega) (by omega) (fun u2 h2 g2 => ?_)⟩
    refine k u2 ?_ (fm.of2 g2 (by omega) (by omega))
    rw [ad, if_neg (by omega)]
    exact h.keep (fun a _ _ h8 h9 => g2 a h8 h9)
theorem sp_Ma_sendPacket {u : pj_M} {w p : Int32} {q : Nat} {l : List Int32} {ms : List mT} {K : pj_M → Prop} (h : mb u ms) (hq : rw_ u q l) (hq9 : 90 ≤ q) (hl47 : l.length ≤ 47) (k : ∀ u', mb u' (ad ms (w, p, 0 :: l)) → fm u u' → K u') : pw_Ma_sendPacket u w p q K := by
  have e0 : (0 : Int32) &&& 255 = 0 := by decide
  have hall : sl l 0 l.length = l := by rw [sl_all (by omega)]; rfl
  have go : ∀ (r : Nat) (u1 : pj_M), r < 89 → rw_ u1 q l → (∀ u2, rw_ u2 r (0 :: l) → f2 r u1 u2 → K u2) → pw_Ro_clear u1 r fun u3 => (pw_Ro_put u3 r 0 fun u4 => (pw_Ro_append u4 r q 0 (u4 q 1) fun u5 => (K u5))) := by
    intro r u1 hr89 hq1 kk
    refine sp_Ro_clear (fun u2 h2 g2 => sp_Ro_put h2 (by decide) (fun u3 h3 g3 => ?_))
    have g13 := g2.tr g3
    have hq3 : rw_ u3 q l := hq1.keep (g13 _ (by omega) (by omega)) (g13 _ (by omega) (by omega))
    refine sp_Ro_append 0 l.length rfl hq3.1 (by omega) h3 hq3 (by omega) (by omega) (by omega) (by rw [hall]; simp; omega) (fun u4 h4 g4 => ?_)
    rw [hall, e0] at h4
    exact kk u4 h4 (g13.tr g4)
  refine sp_Ma_add h (fun hl r u1 h1 g1 => ?_) (fun hl => ?_)
  · obtain ⟨b1, b2, b3⟩ := h1.row
    refine ⟨b3, go r u1 b2 (hq.keep (g1 _ (by omega)) (g1 _ (by omega))) (fun u2 h2 g2 => ?_)⟩
    refine k u2 ?_ (g1.tr (fm.of2 g2 (by omega) (by omega)))
    rw [ad, if_pos hl]
    exact h1.fill h2 g2
  · refine ⟨by decide +kernel, go 8 u (by decide) hq (fun u2 h2 g2 => ?_)⟩
    refine k u2 ?_ (fm.of2 g2 (by omega) (by omega))
    rw [ad, if_neg (by omega)]
    exact h.keep (fun a _ _ h8 h9 => g2 a h8 h9)
theorem sp_Ma_sendByte {u : pj_M} {w p x : Int32} {ms : List mT} {K : pj_M → Prop} (h : mb u ms) (k : ∀ u', mb u' (ad ms (w, p, [x &&& 255])) → fm u u' → K u') : pw_Ma_sendByte u w p x K := by
  refine sp_Ma_add h (fun hl r u1 h1 g1 => ?_) (fun hl => ?_)
  · obtain ⟨b1, b2, b3⟩ := h1.row
    refine ⟨b3, sp_Ro_clear (fun u2 h2 g2 => sp_Ro_put h2 (by decide) (fun u3 h3 g3 => ?_))⟩
    refine k u3 ?_ (g1.tr (fm.of2 (g2.tr g3) (by omega) (by omega)))
    rw [ad, if_pos hl]
    exact h1.fill h3 (g2.tr g3)
  · refine ⟨by decide +kernel, sp_Ro_clear (fun u2 h2 g2 => sp_Ro_put h2 (by decide) (fun u3 h3 g3 => ?_))⟩
    refine k u3 ?_ (fm.of2 (g2.tr g3) (by omega) (by omega))
    rw [ad, if_neg (by omega)]
    exact h.keep (fun a _ _ h8 h9 => (g2.tr g3) a h8 h9)
