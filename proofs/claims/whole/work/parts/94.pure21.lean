/-! The pure part: ports of the class -/
def up (σ : Nat → Int32) (k : Nat) (v : Int32) : Nat → Int32 := fun q => if q = k then v else σ q
theorem up_s {σ : Nat → Int32} {k : Nat} {v : Int32} : up σ k v k = v := if_pos rfl
theorem up_k {σ : Nat → Int32} {k q : Nat} {v : Int32} (h : q ≠ k) : up σ k v q = σ q := if_neg h
theorem st_up {u : pj_M} {i k : Nat} {v : Int32} : (pj_set u i k v) i = up (u i) k v := by
  funext q
  by_cases h : q = k
  · rw [h, ps_s, up_s]
  · rw [ps_k h, up_k h]
/-- all but the mailbox and the cell i -/
def fx (i : Nat) (u u' : pj_M) : Prop := ∀ a, (a < 4 ∨ 90 ≤ a) → a ≠ i → u' a = u a
theorem sp_Sw_sendToHost {u : pj_M} {i r : Nat} {l : List Int32} {ms : List mT} {K : pj_M → Prop} (hm : mb u ms) (hr : rw_ u r l) (h90 : 90 ≤ r) (hl : l.length ≤ 47) (hi : 90 ≤ i) (k : ∀ u', mb u' (ad ms (1, u i 0, 0 :: l)) → u' i = up (u i) 17 ((aT l 1 + 1) &&& 255) → fx i u u' → K u') : pw_Sw_sendToHost u i r K := by
  refine sp_Ma_sendPacket hm hr h90 hl (fun u1 m1 g1 => sp_Pa_id (hr.keep (g1 _ (by omega)) (g1 _ (by omega))) (pu ?_))
  refine k _ (m1.keep (fun a h1 h2 _ _ => ps_i (by omega))) ?_ (fun a h1 h2 => (ps_i h2).trans (g1 a h1))
  rw [st_up, g1 i (by omega)]
theorem sp_Po_expect {u : pj_M} {i : Nat} {K : pj_M → Prop} (k : ∀ u', u' i = up (up (up (u i) 8 1) 9 0) 7 0 → (∀ a, a ≠ i → u' a = u a) → K u') : pw_Po_expectResponse u i K := by
  unfold pw_Po_expectResponse pb_Po_expectResponse_0
  exact pu (pu (pu (k _ (by rw [st_up, st_up, st_up]) (fun a h => by rw [ps_i h, ps_i h, ps_i h]))))
theorem op1 (x : Int32) : ([1 &&& 255, x &&& 255, 0, 1 &&& 255] : List Int32).set 2 (nI 4 &&& 255) = [1, x &&& 255, 4, 1] := by
  rw [show (1 : Int32) &&& 255 = 1 by decide, show nI 4 &&& 255 = 4 by decide]
  rfl
def bgS (σ : Nat → Int32) : Nat → Int32 := up (up (up (up (up (up (up σ 5 1) 12 0) 11 (-1)) 17 ((aT (ph 1 (σ 17) 1) 1 + 1) &&& 255)) 8 1) 9 0) 7 0
theorem sp_Sw_begin {u : pj_M} {i : Nat} {ms : List mT} {K : pj_M → Prop} (hi : 90 ≤ i) (hm : mb u ms) (k : ∀ u', mb u' (ad ms (1, u i 0, 0 :: ph 1 (u i 17) 1)) → u' i = bgS (u i) → rw_ u' (i + 1) (ph 1 (u i 17) 1) → (∀ a, (a < 4 ∨ 90 ≤ a) → a ≠ i → a ≠ i + 1 → a ≠ i + 2 → u' a = u a) → K u') : pw_Sw_begin u i K := by
  unfold pw_Sw_begin pb_Sw_begin_0
  refine pu (pu (pu ?_))
  have e3 : (pj_set (pj_set (pj_set u i 5 1) i 12 0) i 11 (-1)) i = up (up (up (u i) 5 1) 12 0) 11 (-1) := by rw [st_up, st_up, st_up]
  have o3 : ∀ a, a ≠ i → (pj_set (pj_set (pj_set u i 5 1) i 12 0) i 11 (-1)) a = u a := fun a h => by rw [ps_i h, ps_i h, ps_i h]
  generalize pj_set (pj_set (pj_set u i 5 1) i 12 0) i 11 (-1) = u3 at e3 o3 ⊢
  have e17 : u3 i 17 = u i 17 := by rw [e3, up_k (by decide), up_k (by decide), up_k (by decide)]
  have e0 : u3 i 0 = u i 0 := by rw [e3, up_k (by decide), up_k (by decide), up_k (by decide)]
  rw [e17]
  refine sp_Pa_open (fun u4 h4 g4 => sp_Pa_setLength h4 (by simp) (fun u5 h5 g5 => ?_))
  have h5' : rw_ u5 (i + 1) (ph 1 (u i 17) 1) := by
    rw [ph1, ← op1]
    exact h5
  have g := g4.tr g5
  have e5 : u5 i = u3 i := g _ (by omega) (by omega)
  have m5 : mb u5 ms := hm.keep (fun a h1 h2 _ _ => (g a (by omega) (by omega)).trans (o3 a (by omega)))
  refine sp_Sw_sendToHost m5 h5' (by omega) (by rw [ph1_len]; decide) hi (fun u6 m6 e6 g6 => sp_Po_expect (fun u7 e7 g7 => ?_))
  rw [e5, e0] at m6
  refine k u7 (m6.keep (fun a h1 h2 _ _ => g7 a (by omega))) ?_ (h5'.keep ((g7 _ (by omega)).trans (g6 _ (by omega) (by omega))) ((g7 _ (by omega)).trans (g6 _ (by omega) (by omega)))) (fun a h1 h2 h3 h4 => (g7 a h2).trans ((g6 a h1 h2).trans ((g a h3 (by omega)).trans (o3 a h2))))
  rw [e7, e6, e5, e3]
  rfl
def clS (ln : Nat → Int32) (x : Int32) : Nat → Int32 := fun k => if ln k = x then -1 else ln k
theorem v8 {n : Nat} (h : n < 8) : vp_in (nI n) 8 := vp_in_nI h (by decide)
theorem lp_Sw_close {i : Nat} {K : pj_M → Prop} {ln : Nat → Int32} {u0 : pj_M} (hi : i ≠ 172) (k : ∀ u', (∀ j, j < 8 → u' 172 j = clS ln (u0 i 0) j) → (∀ a, a ≠ 172 → u' a = u0 a) → K u') : ∀ (d t : Nat) (u : pj_M), t + d = 8 → (∀ j, j < 8 → u 172 j = if j < t then clS ln (u0 i 0) j else ln j) → (∀ a, a ≠ 172 → u a = u0 a) → pb_Sw_close_7 K i (d + 1) u (nI t) := by
  intro d
  induction d with
  | zero =>
    intro t u ht hj ho
    have e : t = 8 := by omega
    subst e
    exact br_t (by decide) (k u (fun j h => (hj j h).trans (if_pos h)) ho)
  | succ d ih =>
    intro t u ht hj ho
    have et : u 172 t = ln t := (hj t (by omega)).trans (if_neg (by omega))
    refine br_f (fun q => nI_ge (a := t) (b := 8) (by omega) (by decide) q) ⟨v8 (by omega), ?_⟩
    rw [nI_clamp (show t < 2 ^ 31 by omega), et, ho i hi]
    refine br_c (fun e => ⟨v8 (by omega), pu ?_⟩) (fun e => ?_)
    · show pb_Sw_close_7 K i (d + 1) _ (nI t + 1)
      rw [nI_1, nI_clamp (show t < 2 ^ 31 by omega)]
      refine ih (t + 1) _ (by omega) (fun j h => ?_) (fun a h => (ps_i h).trans (ho a h))
      by_cases c : j = t
      · rw [c, ps_s, if_pos (by omega)]
        exact (if_pos e).symm
      · rw [ps_k c, hj j h]
        by_cases c2 : j < t
        · rw [if_pos c2, if_pos (by omega)]
        · rw [if_neg c2, if_neg (by omega)]
    · show pb_Sw_close_7 K i (d + 1) _ (nI t + 1)
      rw [nI_1]
      refine ih (t + 1) _ (by omega) (fun j h => ?_) ho
      rw [hj j h]
      by_cases c : j = t
      · rw [c, if_neg (by omega), if_pos (by omega)]
        exact (if_neg e).symm
      · by_cases c2 : j < t
        · rw [if_pos c2, if_pos (by omega)]
        · rw [if_neg c2, if_neg (by omega)]
theorem sp_Sw_close {u : pj_M} {i : Nat} {K : pj_M → Prop} (hi : i ≠ 172) (k : ∀ u', (∀ j, j < 8 → u' 172 j = clS (u 172) (u i 0) j) → u' i = up (u i) 6 0 → (∀ a, a ≠ 172 → a ≠ i → u' a = u a) → K u') : pw_Sw_close u i K := by
  unfold pw_Sw_close pb_Sw_close_0
  refine pu ⟨9, ?_⟩
  have e0 : (pj_set u i 6 0) i 0 = u i 0 := ps_k (by decide)
  refine lp_Sw_close (u0 := pj_set u i 6 0) (ln := u 172) hi (fun u' h1 h2 => ?_) 8 0 _ (by decide) (fun j _ => ?_) (fun _ _ => rfl)
  · rw [e0] at h1
    exact k u' h1 ((h2 i hi).trans st_up) (fun a ha hb => (h2 a ha).trans (ps_i hb))
  · rw [if_neg (by omega), ps_i (Ne.symm hi)]
def flS (σ : Nat → Int32) : Nat → Int32 := up (up (up (up (up σ 6 0) 5 4) 12 0) 8 0) 7 0
theorem sp_Sw_fail {u : pj_M} {i : Nat} {K : pj_M → Prop} (hi : i ≠ 172) (k : ∀ u', (∀ j, j < 8 → u' 172 j = clS (u 172) (u i 0) j) → u' i = flS (u i) → (∀ a, a ≠ 172 → a ≠ i → u' a = u a) → K u') : pw_Sw_fail u i K := by
  unfold pw_Sw_fail pb_Sw_fail_0
  refine sp_Sw_close hi (fun u1 h1 h2 h3 => pu (pu (pu (pu (k _ (fun j hj => ?_) ?_ (fun a ha hb => ?_))))))
  · rw [ps_i (Ne.symm hi), ps_i (Ne.symm hi), ps_i (Ne.symm hi), ps_i (Ne.symm hi)]; exact h1 j hj
  · rw [st_up, st_up, st_up, st_up, h2]; rfl
  · rw [ps_i hb, ps_i hb, ps_i hb, ps_i hb]; exact h3 a ha hb
def ugS (σ : Nat → Int32) : Nat → Int32 := up (up (up (up (up σ 4 0) 6 0) 5 0) 12 0) 8 0
theorem sp_Sw_unplug {u : pj_M} {i : Nat} {K : pj_M → Prop} (hi : i ≠ 172) (k : ∀ u', (∀ j, j < 8 → u' 172 j = clS (u 172) (u i 0) j) → u' i = ugS (u i) → (∀ a, a ≠ 172 → a ≠ i → u' a = u a) → K u') : pw_Sw_unplug u i K := by
  unfold pw_Sw_unplug pb_Sw_unplug_0
  refine pu (sp_Sw_close hi (fun u1 h1 h2 h3 => pu (pu (pu (k _ (fun j hj => ?_) ?_ (fun a ha hb => ?_))))))
  · rw [ps_i (Ne.symm hi), ps_i (Ne.symm hi), ps_i (Ne.symm hi), h1 j hj, ps_i (Ne.symm hi), ps_k (by decide)]
  · rw [st_up, st_up, st_up, h2, st_up]; rfl
  · rw [ps_i hb, ps_i hb, ps_i hb, h3 a ha hb, ps_i hb]
theorem sp_Sw_plug {u : pj_M} {i : Nat} {ms : List mT} {K : pj_M → Prop} (hi : 90 ≤ i) (hm : mb u ms) (k : ∀ u', mb u' (ad ms (1, u i 0, 0 :: ph 1 (u i 17) 1)) → u' i = bgS (up (u i) 4 1) → rw_ u' (i + 1) (ph 1 (u i 17) 1) → (∀ a, (a < 4 ∨ 90 ≤ a) → a ≠ i → a ≠ i + 1 → a ≠ i + 2 → u' a = u a) → K u') : pw_Sw_plug u i K := by
  unfold pw_Sw_plug pb_Sw_plug_0
  refine pu (sp_Sw_begin hi (hm.keep (fun a h1 h2 _ _ => ps_i (by omega))) (fun u' m' e' r' g' => ?_))
  rw [st_up] at m' e' r'
  rw [up_k (show (0 : Nat) ≠ 4 by decide), up_k (show (17 : Nat) ≠ 4 by decide)] at m'
  rw [up_k (show (17 : Nat) ≠ 4 by decide)] at r'
  exact k u' m' e' r' (fun a h1 h2 h3 h4 => (g' a h1 h2 h3 h4).trans (ps_i h2))
def akS (σ : Nat → Int32) (x : Int32) : Nat → Int32 := up (up (up σ 13 x) 12 1) 7 0
theorem sp_Sw_ask {u : pj_M} {i : Nat} {x s n : Int32} {as : List Int32} {ms : List mT} {K : pj_M → Prop} (hi : 185 ≤ i) (hm : mb u ms) (ha : rw_ u (i + 3) as) (h20 : as.length ≤ 20) (hs : u 170 0 = s) (hn : u 170 7 = n) (k : ∀ u', mb u' (ad ms (2, x, gY s 1 (n &&& 255) (hInts s n) (u i 10) (u i 11) as)) → u' i = akS (u i) x → u' 170 = up (u 170) 7 (n + 1) → rw_ u' (i + 5) (gY s 1 (n &&& 255) (hInts s n) (u i 10) (u i 11) as) → rw_ u' (i + 3) as → (∀ a, (a < 4 ∨ 90 ≤ a) → a ≠ 170 → (a < 180 ∨ 184 < a) → a ≠ i → a ≠ i + 5 → a ≠ i + 6 → u' a = u a) → K u') : pw_Sw_ask u i x K := by
  unfold pw_Sw_ask pb_Sw_ask_0
  refine sp_Di_hashOfInts ?_
  rw [hs, hn]
  refine sp_Da_write (i := 180) (by omega) ha (pC_28 h20) (fun u3 h3 s3 g3 => ?_)
  have k3 : u3 170 0 = s := by rw [g3 170 (by decide)]; exact hs
  rw [k3]
  refine sp_Da_sealRequest h3 s3 (by rw [gU_len]; omega) (fun u4 h4 g4 => pu ?_)
  have e4 : u4 170 7 = n := by rw [g4 170 (by decide) (by decide), g3 170 (by decide)]; exact hn
  rw [e4]
  have o5 : ∀ a, a ≠ 170 → (pj_set u4 170 7 (n + 1)) a = u4 a := fun a h => ps_i h
  have e5 : (pj_set u4 170 7 (n + 1)) 170 = up (u4 170) 7 (n + 1) := st_up
  generalize pj_set u4 170 7 (n + 1) = u5 at o5 e5 ⊢
  have h5 : rw_ u5 181 (gY s 1 (n &&& 255) (hInts s n) (u i 10) (u i 11) as) := h4.keep (o5 _ (by decide)) (o5 _ (by decide))
  have og : ∀ a, a ≠ 170 → (a < 180 ∨ 184 < a) → u5 a = u a := fun a h1 h2 => (o5 a h1).trans ((g4 a (by omega) (by omega)).trans (g3 a h2))
  refine sp_Ro_copy h5 (by omega) (by omega) (fun u6 h6 g6 => pu (pu (pu ?_)))
  have e9 : (pj_set (pj_set (pj_set u6 i 13 x) i 12 1) i 7 0) i = akS (u i) x := by
    rw [st_up, st_up, st_up, g6 i (by omega) (by omega), og i (by omega) (by omega)]; rfl
  have o9 : ∀ a, a ≠ i → (pj_set (pj_set (pj_set u6 i 13 x) i 12 1) i 7 0) a = u6 a := fun a h => by rw [ps_i h, ps_i h, ps_i h]
  generalize pj_set (pj_set (pj_set u6 i 13 x) i 12 1) i 7 0 = u9 at e9 o9 ⊢
  have h9 : rw_ u9 (i + 5) (gY s 1 (n &&& 255) (hInts s n) (u i 10) (u i 11) as) := h6.keep (o9 _ (by omega)) (o9 _ (by omega))
  have q9 : ∀ a, a ≠ 170 → (a < 180 ∨ 184 < a) → a ≠ i → a ≠ i + 5 → a ≠ i + 6 → u9 a = u a := fun a h1 h2 h3 h4 h5 => (o9 a h3).trans ((g6 a h4 (by omega)).trans (og a h1 h2))
  refine sp_Ma_send (hm.keep (fun a h1 h2 _ _ => q9 a (by omega) (by omega) (by omega) (by omega) (by omega))) h9 (by omega) (fun u' m' g' => ?_)
  refine k u' m' ((g' i (by omega)).trans e9) ?_ (h9.keep (g' _ (by omega)) (g' _ (by omega))) (ha.keep ((g' _ (by omega)).trans (q9 _ (by omega) (by omega) (by omega) (by omega) (by omega))) ((g' _ (by omega)).trans (q9 _ (by omega) (by omega) (by omega) (by omega) (by omega)))) (fun a h1 h2 h3 h4 h5 h6 => (g' a h1).trans (q9 a h2 h3 h4 h5 h6))
  rw [g' 170 (by decide), o9 170 (by omega), g6 170 (by omega) (by omega), e5, g4 170 (by decide) (by decide), g3 170 (by decide)]
