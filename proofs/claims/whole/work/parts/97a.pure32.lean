/-! The pure part: sessions of the class -/
def sZ : Nat → Int32 := fun _ => 0
def sg (L : List (Nat → Int32)) (k : Nat) : Nat → Int32 := L.getD k sZ
theorem sg_er {L : List (Nat → Int32)} {k t : Nat} : sg (L.eraseIdx k) t = if t < k then sg L t else sg L (t + 1) := by
  unfold sg
  rw [List.getD_eq_getElem?_getD, List.getElem?_eraseIdx]
  split
  · rw [List.getD_eq_getElem?_getD]
  · rw [List.getD_eq_getElem?_getD]
theorem sg_lo {L : List (Nat → Int32)} {x : Nat → Int32} {k : Nat} (h : k < L.length) : sg (L ++ [x]) k = sg L k := by
  unfold sg
  rw [List.getD_eq_getElem?_getD, List.getD_eq_getElem?_getD, List.getElem?_append_left h]
theorem sg_hi {L : List (Nat → Int32)} {x : Nat → Int32} : sg (L ++ [x]) L.length = x := by
  unfold sg
  rw [List.getD_eq_getElem?_getD, List.getElem?_append_right (Nat.le_refl _), Nat.sub_self]
  rfl
theorem sg_set {L : List (Nat → Int32)} {k t : Nat} {x : Nat → Int32} (h : k < L.length) : sg (L.set k x) t = if t = k then x else sg L t := by
  unfold sg
  rw [List.getD_eq_getElem?_getD, List.getD_eq_getElem?_getD]
  by_cases e : t = k
  · subst e
    rw [if_pos rfl, List.getElem?_set_self h]
    rfl
  · rw [if_neg e, List.getElem?_set_ne (Ne.symm e)]
def CSr (c : pj_M) (i : Nat) (ρ : Nat → Nat) (L : List (Nat → Int32)) : Prop := ((i = 112 ∨ i = 141) ∧ ∀ k, k < 4 → c (i + 1) k = nI (ρ k) ∧ i + 17 ≤ ρ k ∧ ρ k ≤ i + 20) ∧ (∀ j k, j < 4 → k < 4 → ρ j = ρ k → j = k) ∧ c i 14 = nI L.length ∧ L.length ≤ 4 ∧ ∀ k, k < L.length → c (ρ k) = sg L k
def CS (c : pj_M) (i : Nat) (L : List (Nat → Int32)) : Prop := ∃ ρ, CSr c i ρ L
theorem sT : ∀ a, a < 170 → ((129 ≤ a ∧ a ≤ 132) ∨ (158 ≤ a ∧ a ≤ 161)) → pj_T a = 7 := by decide +kernel
theorem CSr.T {c : pj_M} {i k : Nat} {ρ : Nat → Nat} {L : List (Nat → Int32)} (h : CSr c i ρ L) (hk : k < 4) : pj_T (ρ k) = 7 := by
  have := h.1.2 k hk
  rcases h.1.1 with e | e
  · exact sT _ (by omega) (by omega)
  · exact sT _ (by omega) (by omega)
theorem CSr.keep {c c' : pj_M} {i : Nat} {ρ : Nat → Nat} {L : List (Nat → Int32)} (h : CSr c i ρ L) (h1 : c' (i + 1) = c (i + 1)) (h14 : c' i 14 = c i 14) (hs : ∀ a, i + 17 ≤ a → a ≤ i + 20 → c' a = c a) : CSr c' i ρ L := by
  obtain ⟨⟨a0, a1⟩, a2, a3, a4, a5⟩ := h
  refine ⟨⟨a0, fun k hk => ?_⟩, a2, by rw [h14]; exact a3, a4, fun k hk => ?_⟩
  · rw [h1]; exact a1 k hk
  · rw [hs _ (a1 k (by omega)).2.1 (a1 k (by omega)).2.2]; exact a5 k hk
theorem CSr.at {c : pj_M} {i k : Nat} {ρ : Nat → Nat} {L : List (Nat → Int32)} (h : CSr c i ρ L) (hk : k < 4) : (c (i + 1) k).toNatClampNeg = ρ k := by
  have a := h.1.2 k hk
  rw [a.1]
  rcases h.1.1 with e | e <;> exact nI_clamp (by omega)
theorem lp_Sv_sessionNumbered {u : pj_M} {i : Nat} {x : Int32} {ρ : Nat → Nat} {L : List (Nat → Int32)} {K : Option Nat → pj_M → Prop} (h : CSr u i ρ L) (kt : ∀ k, k < L.length → (∀ t, t < k → ¬ sg L t 0 = x) → sg L k 0 = x → K (some (ρ k)) u) (kn : (∀ t, t < L.length → ¬ sg L t 0 = x) → K none u) : ∀ (d t : Nat), t + d = L.length → (∀ q, q < t → ¬ sg L q 0 = x) → pb_Sv_sessionNumbered_2 K i x (d + 1) u (nI t) := by
  have h4 := h.2.2.2.1
  intro d
  induction d with
  | zero =>
    intro t ht hq
    refine br_t (by rw [h.2.2.1]; exact nI_le (by omega) (by omega)) (kn (fun q h' => hq q (by omega)))
  | succ d ih =>
    intro t ht hq
    have t4 : t < 4 := by omega
    refine br_f (by rw [h.2.2.1]; exact nI_ge (by omega) (by omega)) ⟨v4 t4, ?_⟩
    rw [c4 t4, h.at t4]
    refine plt ⟨h.T t4, ?_⟩
    rw [h.2.2.2.2 t (by omega)]
    refine br_c (fun e => ⟨v4 t4, ?_⟩) (fun e => ?_)
    · rw [c4 t4, h.at t4]
      exact plt ⟨h.T t4, kt t (by omega) hq e⟩
    · show pb_Sv_sessionNumbered_2 K i x (d + 1) u (nI t + 1)
      rw [nI_1]
      refine ih (t + 1) (by omega) (fun q h1 => ?_)
      by_cases c : q = t
      · rw [c]; exact e
      · exact hq q (by omega)
theorem sp_Sv_sessionNumbered {u : pj_M} {i : Nat} {x : Int32} {ρ : Nat → Nat} {L : List (Nat → Int32)} {K : Option Nat → pj_M → Prop} (h : CSr u i ρ L) (kt : ∀ k, k < L.length → (∀ t, t < k → ¬ sg L t 0 = x) → sg L k 0 = x → K (some (ρ k)) u) (kn : (∀ t, t < L.length → ¬ sg L t 0 = x) → K none u) : pw_Sv_sessionNumbered u i x K :=
  ⟨L.length + 1, lp_Sv_sessionNumbered h kt kn L.length 0 (by omega) (fun q h => absurd h (Nat.not_lt_zero q))⟩
theorem lp_Sv_drop {i k n : Nat} {ρ : Nat → Nat} {u0 : pj_M} {K : pj_M → Prop} (hT : ∀ t, t < 4 → pj_T (ρ t) = 7) (hρ : ∀ t, t < 4 → ρ t < 2 ^ 31) (inj : ∀ j k, j < 4 → k < 4 → ρ j = ρ k → j = k) (h14 : u0 i 14 = nI n) (hn : n ≤ 4) (hk : k < n) (h0 : ∀ t, t < 4 → u0 (i + 1) t = nI (ρ t)) (kk : ∀ u', (∀ t, t < 4 → u' (i + 1) t = nI (if t = n - 1 then ρ k else shf ρ k (n - 1) t)) → u' i = up (u0 i) 14 (nI (n - 1)) → (∀ a, a ≠ i → a ≠ i + 1 → u' a = u0 a) → K u') :
    ∀ (d j : Nat) (u : pj_M) (x : Int32), j + d = n → ((x = 0 ∧ j ≤ k ∧ u = u0) ∨ (x = 1 ∧ k < j ∧ (∀ t, t < 4 → u (i + 1) t = nI (shf ρ k (min j (n - 1)) t)) ∧ ∀ a, a ≠ i + 1 → u a = u0 a)) → pb_Sv_dropSession_4 K i (ρ k) (d + 1) u x (nI j) := by
  intro d
  induction d with
  | zero =>
    intro j u x hj hi
    rcases hi with ⟨_, h1, _⟩ | ⟨hx, _, ha, ho⟩
    · omega
    subst hx
    have e14 : u i 14 = nI n := by rw [ho i (by omega)]; exact h14
    have em : min j (n - 1) = n - 1 := by omega
    rw [em] at ha
    refine br_t (by rw [e14]; exact nI_le (by omega) (by omega)) (br_f (by decide) (pu ?_))
    have e1 : u i 14 - 1 = nI (n - 1) := by rw [e14]; exact pk_sub (b := 1) (by omega)
    rw [e1, ps_s, nI_clamp (show n - 1 < 2 ^ 31 by omega)]
    refine ⟨v4 (by omega), pu (kk _ (fun t ht => ?_) ?_ (fun a h1 h2 => ?_))⟩
    · by_cases c : t = n - 1
      · rw [c, ps_s, if_pos rfl]
      · rw [ps_k c, ps_i (by omega), if_neg c]; exact ha t ht
    · rw [ps_i (by omega), st_up, ho i (by omega)]
    · rw [ps_i h2, ps_i h1]; exact ho a h2
  | succ d ih =>
    intro j u x hj hi
    have j4 : j < 4 := by omega
    have e14 : u i 14 = nI n := by
      rcases hi with ⟨_, _, h⟩ | ⟨_, _, _, ho⟩
      · rw [h]; exact h14
      · rw [ho i (by omega)]; exact h14
    -- the flag is up
    have s36 : k ≤ j → (∀ t, t < 4 → u (i + 1) t = nI (shf ρ k j t)) → (∀ a, a ≠ i + 1 → u a = u0 a) → pb_Sv_dropSession_36 (pb_Sv_dropSession_4 K i (ρ k) (d + 1)) K u i (ρ k) 1 (nI j) := by
      intro hkj ha ho
      refine br_c (fun e => ?_) (fun e => ?_)
      · rw [e14, nI_1] at e
        have : n ≤ j + 1 := by
          rcases Nat.lt_or_ge (j + 1) n with z | z
          · exact absurd e (nI_ge z (by omega))
          · exact z
        show pb_Sv_dropSession_4 K i (ρ k) (d + 1) u 1 (nI j + 1)
        rw [nI_1]
        refine ih (j + 1) u 1 (by omega) (Or.inr ⟨rfl, by omega, ?_, ho⟩)
        rw [show min (j + 1) (n - 1) = j by omega]
        exact ha
      · rw [e14, nI_1] at e
        have hlt : j + 1 < n := by
          rcases Nat.lt_or_ge (j + 1) n with z | z
          · exact z
          · exact absurd (nI_le z (by omega)) e
        refine ⟨by rw [nI_1]; exact v4 (by omega), ?_⟩
        have ea : (u (i + 1) (nI j + 1).toNatClampNeg).toNatClampNeg = ρ (j + 1) := by
          rw [nI_1, nI_clamp (by omega), ha (j + 1) (by omega), shf_up]
          exact nI_clamp (hρ _ (by omega))
        rw [ea]
        refine plt ⟨hT _ (by omega), v4 j4, pu ?_⟩
        rw [c4 j4]
        show pb_Sv_dropSession_4 K i (ρ k) (d + 1) _ 1 (nI j + 1)
        rw [nI_1]
        refine ih (j + 1) _ 1 (by omega) (Or.inr ⟨rfl, by omega, fun t ht => ?_, fun a ha' => (ps_i ha').trans (ho a ha')⟩)
        rw [show min (j + 1) (n - 1) = j + 1 by omega]
        by_cases c : t = j
        · rw [c, ps_s, shf_s _ hkj]
        · rw [ps_k c, ha t ht, shf_o _ c]
    refine br_f (by rw [e14]; exact nI_ge (by omega) (by omega)) ?_
    rcases hi with ⟨hx, hjk, hu⟩ | ⟨hx, hkj, ha, ho⟩
    · subst hx
      subst hu
      refine br_t rfl ⟨v4 j4, ?_⟩
      rw [c4 j4, h0 j j4, nI_clamp (hρ j j4)]
      refine plt ⟨hT j j4, br_c (fun e => ?_) (fun e => ?_)⟩
      · have ejk := inj j k j4 (by omega) e
        refine br_f (by decide) (s36 (by omega) (fun t ht => ?_) (fun _ _ => rfl))
        rw [ejk, shf_0]; exact h0 t ht
      · have njk : j ≠ k := fun z => e (by rw [z])
        refine br_t rfl ?_
        show pb_Sv_dropSession_4 K i (ρ k) (d + 1) u 0 (nI j + 1)
        rw [nI_1]
        exact ih (j + 1) u 0 (by omega) (Or.inl ⟨rfl, by omega, rfl⟩)
    · subst hx
      rw [show min j (n - 1) = j by omega] at ha
      exact br_f (by decide) (br_f (by decide) (s36 (by omega) ha ho))
theorem sp_Sv_dropSession {u : pj_M} {i k : Nat} {ρ : Nat → Nat} {L : List (Nat → Int32)} {K : pj_M → Prop} (h : CSr u i ρ L) (hk : k < L.length) (kk : ∀ u', CS u' i (L.eraseIdx k) → u' i = up (u i) 14 (nI (L.length - 1)) → (∀ a, a ≠ i → a ≠ i + 1 → u' a = u a) → K u') : pw_Sv_dropSession u i (ρ k) K := by
  have hT := fun t (ht : t < 4) => h.T ht
  have n4 := h.2.2.2.1
  have hlt : ∀ t, t < 4 → ρ t < 2 ^ 31 := fun t ht => by
    have := h.1.2 t ht
    rcases h.1.1 with e | e <;> omega
  refine ⟨L.length + 1, lp_Sv_drop (n := L.length) hT hlt h.2.1 h.2.2.1 n4 hk (fun t ht => (h.1.2 t ht).1) (fun u' ha e14 ho => ?_) L.length 0 u 0 (by omega) (Or.inl ⟨rfl, by omega, rfl⟩)⟩
  have hlen : (L.eraseIdx k).length = L.length - 1 := List.length_eraseIdx_of_lt hk
  have si : ∀ t, t < 4 → (if t = L.length - 1 then ρ k else shf ρ k (L.length - 1) t) = ρ (if t = L.length - 1 then k else if k ≤ t ∧ t < L.length - 1 then t + 1 else t) := by
    intro t _
    unfold shf
    split
    · rfl
    · split
      · rfl
      · rfl
  have sb : ∀ t, t < 4 → (if t = L.length - 1 then k else if k ≤ t ∧ t < L.length - 1 then t + 1 else t) < 4 := by
    intro t ht
    split
    · omega
    · split <;> omega
  refine kk u' ⟨fun t => if t = L.length - 1 then ρ k else shf ρ k (L.length - 1) t, ⟨h.1.1, fun t ht => ⟨ha t ht, ?_⟩⟩, fun a b ha' hb' e => ?_, by rw [e14, up_s, hlen], by rw [hlen]; omega, fun t ht => ?_⟩ e14 ho
  · show i + 17 ≤ (if t = L.length - 1 then ρ k else shf ρ k (L.length - 1) t) ∧ (if t = L.length - 1 then ρ k else shf ρ k (L.length - 1) t) ≤ i + 20
    rw [si t ht]
    exact (h.1.2 _ (sb t ht)).2
  · have e : (if a = L.length - 1 then ρ k else shf ρ k (L.length - 1) a) = (if b = L.length - 1 then ρ k else shf ρ k (L.length - 1) b) := e
    rw [si a ha', si b hb'] at e
    exact sh_inj (n := L.length - 1) (by omega) (h.2.1 _ _ (sb a ha') (sb b hb') e)
  · rw [hlen] at ht
    show u' (if t = L.length - 1 then ρ k else shf ρ k (L.length - 1) t) = _
    have r : ∀ q, q < 4 → u' (ρ q) = u (ρ q) := fun q hq => by
      have := h.1.2 q hq
      exact ho _ (by omega) (by omega)
    rw [if_neg (by omega), sg_er]
    by_cases c : t < k
    · rw [if_pos c, show shf ρ k (L.length - 1) t = ρ t from if_neg (by omega), r t (by omega)]
      exact h.2.2.2.2 t (by omega)
    · rw [if_neg c, show shf ρ k (L.length - 1) t = ρ (t + 1) from if_pos ⟨by omega, ht⟩, r _ (by omega)]
      exact h.2.2.2.2 (t + 1) (by omega)
