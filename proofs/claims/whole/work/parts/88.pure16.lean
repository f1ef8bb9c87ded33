/-! The pure part: the reference's stored rows; a message leaves its mailbox -/
theorem plt {α : Type} {v : α} {F : α → Prop} (h : F v) : pj_let v F := h
/-- the array a holds the list l at place x (of 20) -/
def aR (u : pj_M) (a x : Nat) (l : List Int32) : Prop := l.length ≤ 20 ∧ ∀ j, j < l.length → u a (20 * x + j) = l.getD j 0
theorem aR.keep {u u' : pj_M} {a x : Nat} {l : List Int32} (h : aR u a x l) (hk : ∀ j, j < 20 → u' a (20 * x + j) = u a (20 * x + j)) : aR u' a x l := ⟨h.1, fun j hj => (hk j (by have := h.1; omega)).trans (h.2 j hj)⟩
theorem aR.at {u : pj_M} {a x j : Nat} {l : List Int32} (h : aR u a x l) (hj : j < l.length) : u a (20 * x + j) = aT l j := (h.2 j hj).trans (gd_in hj)
theorem i20 {x t : Nat} : (20 : Int32) * nI x + nI t = nI (20 * x + t) := by
  rw [show (20 : Int32) * nI x = nI (20 * x) from pk_mul 20 x, nI_add]
/-- the array a alone has changed, at place x alone -/
def fA (a x : Nat) (u u' : pj_M) : Prop := (∀ i, i ≠ a → u' i = u i) ∧ ∀ q, (q < 20 * x ∨ 20 * x + 20 ≤ q) → u' a q = u a q
theorem ls_requested_344 {m : List Int32} {K : pj_M → Prop}  {x : Nat} (hx : x < 4) (h20 : m.length ≤ 20) {u0 : pj_M} (k : ∀ u', mP u' m → aR u' 232 x m → fA 232 x u0 u' → pb_Mo_requested_378 K u' (nI x)) : ∀ (d t : Nat) (u : pj_M), t + d = m.length → mP u m → (∀ j, j < t → u 232 (20 * x + j) = m.getD j 0) → fA 232 x u0 u → pb_Mo_requested_344 K (nI x) (d + 1) u (nI t) := by
  intro d
  induction d with
  | zero =>
    intro t u ht hp hj hf
    refine br_t (by rw [hp.1]; exact nI_le (by omega) (by omega)) ?_
    exact k u hp ⟨h20, fun j q => hj j (by omega)⟩ hf
  | succ d ih =>
    intro t u ht hp hj hf
    refine br_f (by rw [hp.1]; exact nI_ge (by omega) (by omega)) ⟨v48 (by omega), by rw [i20]; exact vp_in_nI (by omega) (by decide), pu ?_⟩
    rw [nI_1, i20, nI_clamp (show 20 * x + t < 2 ^ 31 by omega), nI_clamp (show t < 2 ^ 31 by omega)]
    refine ih (t + 1) _ (by omega) (hp.keep (by rw [ps_i (by decide)]) (ps_i (by decide))) (fun j hj' => ?_) ⟨fun i hi => (ps_i hi).trans (hf.1 i hi), fun q hq => (ps_k (by omega)).trans (hf.2 q hq)⟩
    by_cases e : j = t
    · rw [e, ps_s, hp.2.2 t (by omega)]
    · rw [ps_k (by omega)]; exact hj j (by omega)
theorem ls_sendLast_12 {m : List Int32} {K : pj_M → Prop}  {x : Nat} (hx : x < 4) (h20 : m.length ≤ 20) {u0 : pj_M} (k : ∀ u', mP u' m → aR u' 263 x m → fA 263 x u0 u' → pb_Mo_sendLast_43 K u' (nI x)) : ∀ (d t : Nat) (u : pj_M), t + d = m.length → mP u m → (∀ j, j < t → u 263 (20 * x + j) = m.getD j 0) → fA 263 x u0 u → pb_Mo_sendLast_12 K (nI x) (d + 1) u (nI t) := by
  intro d
  induction d with
  | zero =>
    intro t u ht hp hj hf
    refine br_t (by rw [hp.1]; exact nI_le (by omega) (by omega)) ?_
    exact k u hp ⟨h20, fun j q => hj j (by omega)⟩ hf
  | succ d ih =>
    intro t u ht hp hj hf
    refine br_f (by rw [hp.1]; exact nI_ge (by omega) (by omega)) ⟨v48 (by omega), by rw [i20]; exact vp_in_nI (by omega) (by decide), pu ?_⟩
    rw [nI_1, i20, nI_clamp (show 20 * x + t < 2 ^ 31 by omega), nI_clamp (show t < 2 ^ 31 by omega)]
    refine ih (t + 1) _ (by omega) (hp.keep (by rw [ps_i (by decide)]) (ps_i (by decide))) (fun j hj' => ?_) ⟨fun i hi => (ps_i hi).trans (hf.1 i hi), fun q hq => (ps_k (by omega)).trans (hf.2 q hq)⟩
    by_cases e : j = t
    · rw [e, ps_s, hp.2.2 t (by omega)]
    · rw [ps_k (by omega)]; exact hj j (by omega)
theorem ls_switchTakes_195 {m : List Int32} {K : pj_M → Prop}  {x : Nat} (hx : x < 4) (h20 : m.length ≤ 20) {u0 : pj_M} (k : ∀ u', mP u' m → aR u' 276 x m → fA 276 x u0 u' → pb_Mo_switchTakes_226 K u' (nI x)) : ∀ (d t : Nat) (u : pj_M), t + d = m.length → mP u m → (∀ j, j < t → u 276 (20 * x + j) = m.getD j 0) → fA 276 x u0 u → pb_Mo_switchTakes_195 K (nI x) (d + 1) u (nI t) := by
  intro d
  induction d with
  | zero =>
    intro t u ht hp hj hf
    refine br_t (by rw [hp.1]; exact nI_le (by omega) (by omega)) ?_
    exact k u hp ⟨h20, fun j q => hj j (by omega)⟩ hf
  | succ d ih =>
    intro t u ht hp hj hf
    refine br_f (by rw [hp.1]; exact nI_ge (by omega) (by omega)) ⟨v48 (by omega), by rw [i20]; exact vp_in_nI (by omega) (by decide), pu ?_⟩
    rw [nI_1, i20, nI_clamp (show 20 * x + t < 2 ^ 31 by omega), nI_clamp (show t < 2 ^ 31 by omega)]
    refine ih (t + 1) _ (by omega) (hp.keep (by rw [ps_i (by decide)]) (ps_i (by decide))) (fun j hj' => ?_) ⟨fun i hi => (ps_i hi).trans (hf.1 i hi), fun q hq => (ps_k (by omega)).trans (hf.2 q hq)⟩
    by_cases e : j = t
    · rw [e, ps_s, hp.2.2 t (by omega)]
    · rw [ps_k (by omega)]; exact hj j (by omega)
theorem ll_requested_41 {l : List Int32} {K : pj_M → Prop}  {x : Nat} (hx : x < 4) {u0 : pj_M} (h : aR u0 232 x l) (k : ∀ u', mP u' l → fP' u0 u' → pb_Mo_requested_72 K u' (nI x)) : ∀ (d t : Nat) (u : pj_M), t + d = l.length → u 217 16 = nI l.length → (∀ j, j < t → u 227 j = l.getD j 0) → fP' u0 u → pb_Mo_requested_41 K (nI x) (d + 1) u (nI t) := by
  intro d
  induction d with
  | zero =>
    intro t u ht hp hj hf
    have h20 := h.1
    refine br_t (by rw [hp]; exact nI_le (by omega) (by omega)) ?_
    exact k u ⟨hp, by omega, fun j q => hj j (by omega)⟩ hf
  | succ d ih =>
    intro t u ht hp hj hf
    have h20 := h.1
    refine br_f (by rw [hp]; exact nI_ge (by omega) (by omega)) ⟨by rw [i20]; exact vp_in_nI (by omega) (by decide), v48 (by omega), pu ?_⟩
    rw [nI_1, i20, nI_clamp (show 20 * x + t < 2 ^ 31 by omega), nI_clamp (show t < 2 ^ 31 by omega)]
    refine ih (t + 1) _ (by omega) (by rw [ps_i (by decide)]; exact hp) (fun j hj' => ?_) (hf.tr fP'.a)
    by_cases e : j = t
    · rw [e, ps_s, hf.1 232 (by decide) (by decide)]; exact h.2 t (by omega)
    · rw [ps_k (by omega)]; exact hj j (by omega)
theorem ll_sendQuery_12 {l : List Int32} {K : pj_M → Prop}  {x : Nat} (hx : x < 4) {u0 : pj_M} (h : aR u0 276 x l) (k : ∀ u', mP u' l → fP' u0 u' → pb_Mo_sendQuery_43 K u' (nI x)) : ∀ (d t : Nat) (u : pj_M), t + d = l.length → u 217 16 = nI l.length → (∀ j, j < t → u 227 j = l.getD j 0) → fP' u0 u → pb_Mo_sendQuery_12 K (nI x) (d + 1) u (nI t) := by
  intro d
  induction d with
  | zero =>
    intro t u ht hp hj hf
    have h20 := h.1
    refine br_t (by rw [hp]; exact nI_le (by omega) (by omega)) ?_
    exact k u ⟨hp, by omega, fun j q => hj j (by omega)⟩ hf
  | succ d ih =>
    intro t u ht hp hj hf
    have h20 := h.1
    refine br_f (by rw [hp]; exact nI_ge (by omega) (by omega)) ⟨by rw [i20]; exact vp_in_nI (by omega) (by decide), v48 (by omega), pu ?_⟩
    rw [nI_1, i20, nI_clamp (show 20 * x + t < 2 ^ 31 by omega), nI_clamp (show t < 2 ^ 31 by omega)]
    refine ih (t + 1) _ (by omega) (by rw [ps_i (by decide)]; exact hp) (fun j hj' => ?_) (hf.tr fP'.a)
    by_cases e : j = t
    · rw [e, ps_s, hf.1 276 (by decide) (by decide)]; exact h.2 t (by omega)
    · rw [ps_k (by omega)]; exact hj j (by omega)
theorem ll_late_41 {l : List Int32} {K : pj_M → Prop}  {x : Nat} (hx : x < 4) {u0 : pj_M} (h : aR u0 263 x l) (k : ∀ u', mP u' l → fP' u0 u' → pb_Mo_late_72 K u' (nI x)) : ∀ (d t : Nat) (u : pj_M), t + d = l.length → u 217 16 = nI l.length → (∀ j, j < t → u 227 j = l.getD j 0) → fP' u0 u → pb_Mo_late_41 K (nI x) (d + 1) u (nI t) := by
  intro d
  induction d with
  | zero =>
    intro t u ht hp hj hf
    have h20 := h.1
    refine br_t (by rw [hp]; exact nI_le (by omega) (by omega)) ?_
    exact k u ⟨hp, by omega, fun j q => hj j (by omega)⟩ hf
  | succ d ih =>
    intro t u ht hp hj hf
    have h20 := h.1
    refine br_f (by rw [hp]; exact nI_ge (by omega) (by omega)) ⟨by rw [i20]; exact vp_in_nI (by omega) (by decide), v48 (by omega), pu ?_⟩
    rw [nI_1, i20, nI_clamp (show 20 * x + t < 2 ^ 31 by omega), nI_clamp (show t < 2 ^ 31 by omega)]
    refine ih (t + 1) _ (by omega) (by rw [ps_i (by decide)]; exact hp) (fun j hj' => ?_) (hf.tr fP'.a)
    by_cases e : j = t
    · rw [e, ps_s, hf.1 263 (by decide) (by decide)]; exact h.2 t (by omega)
    · rw [ps_k (by omega)]; exact hj j (by omega)
theorem ls_answer_233 {m : List Int32} {K : pj_M → Prop} {s : Int32} {x : Nat} (hx : x < 8) (h20 : m.length ≤ 20) {u0 : pj_M} (k : ∀ u', mP u' m → aR u' 257 x m → fA 257 x u0 u' → pb_Mo_answer_268 K u' s (nI x)) : ∀ (d t : Nat) (u : pj_M), t + d = m.length → mP u m → (∀ j, j < t → u 257 (20 * x + j) = m.getD j 0) → fA 257 x u0 u → pb_Mo_answer_233 K s (nI x) (d + 1) u (nI t) := by
  intro d
  induction d with
  | zero =>
    intro t u ht hp hj hf
    refine br_t (by rw [hp.1]; exact nI_le (by omega) (by omega)) ?_
    exact k u hp ⟨h20, fun j q => hj j (by omega)⟩ hf
  | succ d ih =>
    intro t u ht hp hj hf
    refine br_f (by rw [hp.1]; exact nI_ge (by omega) (by omega)) ⟨v48 (by omega), by rw [i20]; exact vp_in_nI (by omega) (by decide), pu ?_⟩
    rw [nI_1, i20, nI_clamp (show 20 * x + t < 2 ^ 31 by omega), nI_clamp (show t < 2 ^ 31 by omega)]
    refine ih (t + 1) _ (by omega) (hp.keep (by rw [ps_i (by decide)]) (ps_i (by decide))) (fun j hj' => ?_) ⟨fun i hi => (ps_i hi).trans (hf.1 i hi), fun q hq => (ps_k (by omega)).trans (hf.2 q hq)⟩
    by_cases e : j = t
    · rw [e, ps_s, hp.2.2 t (by omega)]
    · rw [ps_k (by omega)]; exact hj j (by omega)
theorem ll_sendAnswer_12 {l : List Int32} {K : pj_M → Prop} {s : Int32} {x : Nat} (hx : x < 8) {u0 : pj_M} (h : aR u0 257 x l) (k : ∀ u', mP u' l → fP' u0 u' → pb_Mo_sendAnswer_43 K u' s (nI x)) : ∀ (d t : Nat) (u : pj_M), t + d = l.length → u 217 16 = nI l.length → (∀ j, j < t → u 227 j = l.getD j 0) → fP' u0 u → pb_Mo_sendAnswer_12 K s (nI x) (d + 1) u (nI t) := by
  intro d
  induction d with
  | zero =>
    intro t u ht hp hj hf
    have h20 := h.1
    refine br_t (by rw [hp]; exact nI_le (by omega) (by omega)) ?_
    exact k u ⟨hp, by omega, fun j q => hj j (by omega)⟩ hf
  | succ d ih =>
    intro t u ht hp hj hf
    have h20 := h.1
    refine br_f (by rw [hp]; exact nI_ge (by omega) (by omega)) ⟨by rw [i20]; exact vp_in_nI (by omega) (by decide), v48 (by omega), pu ?_⟩
    rw [nI_1, i20, nI_clamp (show 20 * x + t < 2 ^ 31 by omega), nI_clamp (show t < 2 ^ 31 by omega)]
    refine ih (t + 1) _ (by omega) (by rw [ps_i (by decide)]; exact hp) (fun j hj' => ?_) (hf.tr fP'.a)
    by_cases e : j = t
    · rw [e, ps_s, hf.1 257 (by decide) (by decide)]; exact h.2 t (by omega)
    · rw [ps_k (by omega)]; exact hj j (by omega)
theorem lp_Mo_remove_in {R : pj_M → Int32 → Prop} {K : pj_M → Prop} {j : Nat} (hj : j < 39) {u1 : pj_M} (k : ∀ u', (∀ i, i < 48 → u' 224 (48 * j + i) = u1 224 (48 * (j + 1) + i)) → (∀ q, (q < 48 * j ∨ 48 * j + 48 ≤ q) → u' 224 q = u1 224 q) → (∀ a, a ≠ 224 → u' a = u1 a) → R u' (nI j + 1)) :
    ∀ (d t : Nat) (u : pj_M), t + d = 48 → (∀ i, i < t → u 224 (48 * j + i) = u1 224 (48 * (j + 1) + i)) → (∀ q, (q < 48 * j ∨ 48 * j + t ≤ q) → u 224 q = u1 224 q) → (∀ a, a ≠ 224 → u a = u1 a) → pb_Mo_remove_64 R K (nI j) (d + 1) u (nI t) := by
  intro d
  induction d with
  | zero =>
    intro t u ht hi hq ha
    have e : t = 48 := by omega
    subst e
    exact br_t (by decide) (k u hi hq ha)
  | succ d ih =>
    intro t u ht hi hq ha
    have e48 : (48 : Int32) * nI j + nI t = nI (48 * j + t) := by rw [show (48 : Int32) * nI j = nI (48 * j) from pk_mul 48 j, nI_add]
    have e96 : (48 : Int32) * nI j + 48 + nI t = nI (48 * j + 48 + t) := by rw [show (48 : Int32) * nI j = nI (48 * j) from pk_mul 48 j, show (48 : Int32) = nI 48 from rfl, nI_add, nI_add]
    refine br_f (fun q => nI_ge (a := t) (b := 48) (by omega) (by decide) q) ⟨by rw [e96]; exact vp_in_nI (by omega) (by decide), by rw [e48]; exact vp_in_nI (by omega) (by decide), pu ?_⟩
    rw [nI_1, e48, e96, nI_clamp (show 48 * j + t < 2 ^ 31 by omega), nI_clamp (show 48 * j + 48 + t < 2 ^ 31 by omega)]
    refine ih (t + 1) _ (by omega) (fun i hi' => ?_) (fun q hq' => ?_) (fun a h => (ps_i h).trans (ha a h))
    · by_cases e : i = t
      · rw [e, ps_s, hq _ (by omega), show 48 * j + 48 + t = 48 * (j + 1) + t by omega]
      · rw [ps_k (by omega)]; exact hi i (by omega)
    · rw [ps_k (by omega)]; exact hq q (by omega)
def rmI (u0 u : pj_M) (k j : Nat) : Prop := (∀ t, t < 40 → u 221 t = shf (u0 221) k j t) ∧ (∀ t, t < 40 → u 222 t = shf (u0 222) k j t) ∧ (∀ t, t < 40 → u 223 t = shf (u0 223) k j t) ∧ (∀ t i, t < 40 → i < 48 → u 224 (48 * t + i) = shf (fun s => u0 224 (48 * s + i)) k j t) ∧ ∀ a, (a < 221 ∨ 224 < a) → u a = u0 a
theorem lp_Mo_remove {u0 : pj_M} {K : pj_M → Prop} {n k : Nat} (hn : n ≤ 39) (h4 : u0 217 4 = nI n) (kk : ∀ u', rmI u0 u' k n → K u') : ∀ (d j : Nat) (u : pj_M), j + d = n → k ≤ j → rmI u0 u k j → pb_Mo_remove_12 K (d + 1) u (nI j) := by
  intro d
  induction d with
  | zero =>
    intro j u hj hkj hi
    have e4 : u 217 4 = nI n := by rw [hi.2.2.2.2 217 (by decide)]; exact h4
    refine br_t (by rw [e4]; exact nI_le (by omega) (by omega)) (kk u ?_)
    rw [show n = j by omega]
    exact hi
  | succ d ih =>
    intro j u hj hkj hi
    obtain ⟨i1, i2, i3, i4, io⟩ := hi
    have e4 : u 217 4 = nI n := by rw [io 217 (by decide)]; exact h4
    have v0 : vp_in (nI j) 40 := vp_in_nI (by omega) (by decide)
    have v1 : vp_in (nI j + 1) 40 := by rw [nI_1]; exact vp_in_nI (by omega) (by decide)
    have c0 : (nI j).toNatClampNeg = j := nI_clamp (by omega)
    have c1 : (nI j + 1).toNatClampNeg = j + 1 := by rw [nI_1]; exact nI_clamp (by omega)
    refine br_f (by rw [e4]; exact nI_ge (by omega) (by omega)) ⟨v1, v0, pu ⟨v1, v0, pu ⟨v1, v0, pu ⟨49, ?_⟩⟩⟩⟩
    rw [c0, c1]
    refine lp_Mo_remove_in (by omega) (fun u' g1 g2 g3 => ?_) 48 0 _ (by omega) (fun i hi' => absurd hi' (Nat.not_lt_zero i)) (fun _ _ => rfl) (fun _ _ => rfl)
    rw [nI_1]
    refine ih (j + 1) u' (by omega) (by omega) ⟨fun t ht => ?_, fun t ht => ?_, fun t ht => ?_, fun t i ht hi' => ?_, fun a ha => ?_⟩
    · rw [g3 221 (by decide), ps_i (by decide), ps_i (by decide)]
      by_cases e : t = j
      · rw [e, ps_s, shf_s _ hkj, i1 (j + 1) (by omega), shf_up]
      · rw [ps_k e, shf_o _ e]; exact i1 t ht
    · rw [g3 222 (by decide), ps_i (by decide)]
      by_cases e : t = j
      · rw [e, ps_s, shf_s _ hkj, ps_i (by decide), i2 (j + 1) (by omega), shf_up]
      · rw [ps_k e, ps_i (by decide), shf_o _ e]; exact i2 t ht
    · rw [g3 223 (by decide)]
      by_cases e : t = j
      · rw [e, ps_s, shf_s _ hkj, ps_i (by decide), ps_i (by decide), i3 (j + 1) (by omega), shf_up]
      · rw [ps_k e, ps_i (by decide), ps_i (by decide), shf_o _ e]; exact i3 t ht
    · by_cases e : t = j
      · rw [e, g1 i hi', shf_s _ hkj, ps_i (by decide), ps_i (by decide), ps_i (by decide), i4 (j + 1) i (by omega) hi', shf_up]
      · rw [g2 _ (by omega), shf_o _ e, ps_i (by decide), ps_i (by decide), ps_i (by decide)]; exact i4 t i ht hi'
    · rw [g3 a (by omega), ps_i (by omega), ps_i (by omega), ps_i (by omega)]; exact io a ha
theorem sp_Mo_remove {u : pj_M} {k : Nat} {ms : List mT} {K : pj_M → Prop} (h : mm u ms) (hk : k < ms.length) (kk : ∀ u', mm u' (ms.eraseIdx k) → fM u u' → K u') : pw_Mo_remove u (nI k) K := by
  obtain ⟨h4, hn, hen⟩ := h
  have hlen : (ms.eraseIdx k).length = ms.length - 1 := List.length_eraseIdx_of_lt hk
  unfold pw_Mo_remove pb_Mo_remove_0
  refine pu ⟨ms.length - 1 - k + 1, ?_⟩
  have e1 : u 217 4 - 1 = nI (ms.length - 1) := by rw [h4]; exact pk_sub (b := 1) (by omega)
  rw [e1]
  have o : ∀ a, a ≠ 217 → (pj_set u 217 4 (nI (ms.length - 1))) a = u a := fun a ha => ps_i ha
  refine lp_Mo_remove (u0 := pj_set u 217 4 (nI (ms.length - 1))) (n := ms.length - 1) (by omega) ps_s (fun u' g => ?_) (ms.length - 1 - k) k _ (by omega) (Nat.le_refl _) ⟨fun t _ => (shf_0 _ _ _).symm, fun t _ => (shf_0 _ _ _).symm, fun t _ => (shf_0 _ _ _).symm, fun t i _ _ => (shf_0 (fun s => (pj_set u 217 4 (nI (ms.length - 1))) 224 (48 * s + i)) _ _).symm, fun _ _ => rfl⟩
  obtain ⟨g1, g2, g3, g4, go⟩ := g
  rw [o 221 (by decide)] at g1
  rw [o 222 (by decide)] at g2
  rw [o 223 (by decide)] at g3
  rw [o 224 (by decide)] at g4
  refine kk u' ⟨by rw [go 217 (by decide), ps_s, hlen], by rw [hlen]; omega, fun t ht => ?_⟩ ⟨fun a h1 h2 => (go a h2).trans (o a h1), fun kk hk' => by rw [go 217 (by decide), ps_k hk']⟩
  rw [hlen] at ht
  rw [mg_er]
  by_cases c : t < k
  · rw [if_pos c]
    have es : ∀ {α : Type} (f : Nat → α), shf f k (ms.length - 1) t = f t := fun f => if_neg (by omega)
    obtain ⟨a1, a2, a3, a4, a5⟩ := hen t (by omega)
    refine ⟨by rw [g1 t (by omega), es]; exact a1, by rw [g2 t (by omega), es]; exact a2, by rw [g3 t (by omega), es]; exact a3, a4, fun j hj => ?_⟩
    rw [g4 t j (by omega) (by omega), es]
    exact a5 j hj
  · rw [if_neg c]
    have es : ∀ {α : Type} (f : Nat → α), shf f k (ms.length - 1) t = f (t + 1) := fun f => if_pos ⟨by omega, ht⟩
    obtain ⟨a1, a2, a3, a4, a5⟩ := hen (t + 1) (by omega)
    refine ⟨by rw [g1 t (by omega), es]; exact a1, by rw [g2 t (by omega), es]; exact a2, by rw [g3 t (by omega), es]; exact a3, a4, fun j hj => ?_⟩
    rw [g4 t j (by omega) (by omega), es]
    exact a5 j hj
