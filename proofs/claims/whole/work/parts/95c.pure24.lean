/-! The pure part: a pulse of the class's port -/
def pul (σ : Nat → Int32) : Nat → Int32 := up σ 7 (σ 7 + 1)
def puS (i : Nat) (c c' : pj_M) (o : Option mT) : Nat → Prop
  | 0 => c i 4 = 0 ∧ c' 170 = c 170 ∧ poK i c c' ∧ o = none
  | 1 => ¬ c i 4 = 0 ∧ ((¬ c i 8 = 0 ∧ ¬ c i 7 + 1 = 5) ∨ (c i 8 = 0 ∧ ¬ c i 12 ≤ 0 ∧ ¬ c i 7 + 1 = 4) ∨ (c i 8 = 0 ∧ c i 12 ≤ 0 ∧ ¬ (c i 5 = 3 ∧ c i 7 + 1 = 30) ∧ ¬ (c i 5 = 4 ∧ c i 7 + 1 = 6))) ∧ c' i = pul (c i) ∧ c' 170 = c 170 ∧ (∀ a, i < a → a ≤ i + 6 → c' a = c a) ∧ c' 172 = c 172 ∧ o = none
  | 2 => ¬ c i 4 = 0 ∧ ¬ c i 8 = 0 ∧ c i 7 + 1 = 5 ∧ ¬ 2 ≤ c i 9 ∧ (∃ la, rw_ c (i + 1) la ∧ c' i = up (up (up (pul (c i)) 17 ((aT la 1 + 1) &&& 255)) 7 0) 9 (c i 9 + 1) ∧ o = some (1, c i 0, 0 :: la)) ∧ c' 170 = c 170 ∧ (∀ a, i < a → a ≤ i + 6 → c' a = c a) ∧ c' 172 = c 172
  | 3 => ¬ c i 4 = 0 ∧ ¬ c i 8 = 0 ∧ c i 7 + 1 = 5 ∧ 2 ≤ c i 9 ∧ c i 5 = 2 ∧ poB i (up (pul (c i)) 6 0) c c' o ∧ ∀ j, j < 8 → c' 172 j = clS (c 172) (c i 0) j
  | 4 => ¬ c i 4 = 0 ∧ ¬ c i 8 = 0 ∧ c i 7 + 1 = 5 ∧ 2 ≤ c i 9 ∧ ¬ c i 5 = 2 ∧ poB i (pul (c i)) c c' o ∧ c' 172 = c 172
  | 5 => ¬ c i 4 = 0 ∧ c i 8 = 0 ∧ ¬ c i 12 ≤ 0 ∧ c i 7 + 1 = 4 ∧ c i 12 = 1 ∧ c' i = up (up (pul (c i)) 12 2) 7 0 ∧ (∃ q, rw_ c (i + 5) q ∧ o = some (2, c i 13, q)) ∧ c' 170 = c 170 ∧ (∀ a, i < a → a ≤ i + 6 → c' a = c a) ∧ c' 172 = c 172
  | 6 => ¬ c i 4 = 0 ∧ c i 8 = 0 ∧ ¬ c i 12 ≤ 0 ∧ c i 7 + 1 = 4 ∧ ¬ c i 12 = 1 ∧ c i 14 = 0 ∧ ∃ as, rw_ c (i + 3) as ∧ poA i (up (pul (c i)) 14 1) as (1 - c i 13) c c' o
  | 7 => ¬ c i 4 = 0 ∧ c i 8 = 0 ∧ ¬ c i 12 ≤ 0 ∧ c i 7 + 1 = 4 ∧ ¬ c i 12 = 1 ∧ ¬ c i 14 = 0 ∧ (∃ la, rw_ c (i + 1) la ∧ c' i = flS (up (pul (c i)) 17 ((aT (ph 4 (aT la 1) 0) 1 + 1) &&& 255)) ∧ o = some (1, c i 0, 0 :: ph 4 (aT la 1) 0)) ∧ c' 170 = c 170 ∧ (∀ a, i < a → a ≤ i + 6 → c' a = c a) ∧ ∀ j, j < 8 → c' 172 j = clS (c 172) (c i 0) j
  | 8 => ¬ c i 4 = 0 ∧ c i 8 = 0 ∧ c i 12 ≤ 0 ∧ ((c i 5 = 3 ∧ c i 7 + 1 = 30) ∨ (c i 5 = 4 ∧ c i 7 + 1 = 6)) ∧ poB i (pul (c i)) c c' o ∧ c' 172 = c 172
  | _ => False
theorem ph4 (i t : Int32) : ph 4 i t = [4, i &&& 255, 3] := if_pos (by decide)
theorem ph4_len (i t : Int32) : (ph 4 i t).length = 3 := by rw [ph4]; rfl
theorem sp_Sw_pulse {u : pj_M} {i : Nat} {ms : List mT} {K : pj_M → Prop} (hi : 185 ≤ i) (hi2 : i + 6 < 213) (hm : mb u ms) (hl : ¬ u i 4 = 0 → ∃ la, rw_ u (i + 1) la ∧ la.length ≤ 20) (hq : ¬ u i 12 ≤ 0 → ∃ as q, rw_ u (i + 3) as ∧ rw_ u (i + 5) q ∧ as.length ≤ 20) (k : ∀ n u' o, puS i u u' o n → mb u' (om ms o) → fSw i u u' → K u') : pw_Sw_pulse u i K := by
  refine br_c (fun h => k 0 u none ⟨h, rfl, ⟨fun _ _ _ => rfl, rfl⟩, rfl⟩ hm (fun _ _ _ _ => rfl)) (fun n4 => ?_)
  unfold pb_Sw_pulse_8
  refine pu ?_
  have o1 : ∀ a, a ≠ i → (pj_set u i 7 (u i 7 + 1)) a = u a := fun a h => ps_i h
  have e1 : (pj_set u i 7 (u i 7 + 1)) i = pul (u i) := st_up
  generalize pj_set u i 7 (u i 7 + 1) = u1 at o1 e1 ⊢
  have m1 : mb u1 ms := hm.keep (fun a h1 h2 _ _ => o1 a (by omega))
  have x7 : u1 i 7 = u i 7 + 1 := by rw [e1]; exact up_s
  have xo : ∀ q, q ≠ 7 → u1 i q = u i q := fun q h => by rw [e1]; exact up_k h
  rw [xo 8 (by decide)]
  obtain ⟨la, rla, la20⟩ := hl n4
  have rla1 : rw_ u1 (i + 1) la := rla.keep (o1 _ (by omega)) (o1 _ (by omega))
  have idle : ((¬ u i 8 = 0 ∧ ¬ u i 7 + 1 = 5) ∨ (u i 8 = 0 ∧ ¬ u i 12 ≤ 0 ∧ ¬ u i 7 + 1 = 4) ∨ (u i 8 = 0 ∧ u i 12 ≤ 0 ∧ ¬ (u i 5 = 3 ∧ u i 7 + 1 = 30) ∧ ¬ (u i 5 = 4 ∧ u i 7 + 1 = 6))) → K u1 := fun h => k 1 u1 none ⟨n4, h, e1, o1 170 (by omega), fun a h1 h2 => o1 a (by omega), o1 172 (by omega), rfl⟩ m1 (fun a _ _ h => o1 a (by omega))
  have bg : ∀ (σ : Nat → Int32) (w : pj_M), mb w ms → w i = σ → σ 0 = u i 0 → (∀ a, a ≠ i → a ≠ 172 → w a = u a) → (∀ u' o, poB i σ u u' o → u' 172 = w 172 → mb u' (om ms o) → fSw i u u' → K u') → pw_Sw_begin w i K := by
    intro σ w mw ew z0 ow kk
    refine sp_Sw_begin (by omega) mw (fun u' m' e' r' g' => ?_)
    rw [ew] at m' e' r'
    exact kk u' _ ⟨e', r', (g' 170 (by omega) (by omega) (by omega) (by omega)).trans (ow 170 (by omega) (by decide)), rfl⟩ (g' 172 (by omega) (by omega) (by omega) (by omega)) m' (fun a h1 h2 h3 => (g' a h1 (by omega) (by omega) (by omega)).trans (ow a (by omega) (by omega)))
  refine br_c (fun e8 => ?_) (fun n8 => ?_)
  rotate_left
  · unfold pb_Sw_pulse_25
    rw [x7]
    refine br_c (fun e7 => ?_) (fun n7 => idle (Or.inl ⟨n8, n7⟩))
    unfold pb_Sw_pulse_33 pw_Sw_resend pb_Sw_resend_0
    rw [xo 9 (by decide)]
    refine br_c (fun e9 => ?_) (fun n9 => ?_)
    · unfold pb_Sw_resend_33
      rw [xo 5 (by decide)]
      refine br_c (fun e5 => ?_) (fun n5 => ?_)
      · refine sp_Sw_close (by omega) (fun u2 c2 e2 g2 => ?_)
        rw [e1] at c2 e2
        rw [o1 172 (by omega)] at c2
        refine bg (up (pul (u i)) 6 0) u2 (m1.keep (fun a h1 h2 _ _ => g2 a (by omega) (by omega))) e2 ?_ (fun a h1 h2 => (g2 a h2 h1).trans (o1 a h1)) (fun u' o hB h172 m' g' => k 3 u' o ⟨n4, n8, e7, e9, e5, hB, fun j hj => ?_⟩ m' g')
        · rw [up_k (by decide)]; exact up_k (by decide)
        · rw [h172, c2 j hj]
          rfl
      · exact bg (pul (u i)) u1 m1 e1 (up_k (by decide)) (fun a h1 _ => o1 a h1) (fun u' o hB h172 m' g' => k 4 u' o ⟨n4, n8, e7, e9, n5, hB, h172.trans (o1 172 (by omega))⟩ m' g')
    · unfold pb_Sw_resend_8
      refine sp_Sw_sendToHost m1 rla1 (by omega) (by omega) (by omega) (fun u2 m2 e2 g2 => pu (pu ?_))
      rw [xo 0 (by decide)] at m2
      rw [e1] at e2
      have x9 : (pj_set u2 i 7 0) i 9 = u i 9 := by
        rw [ps_k (by decide), e2, up_k (by decide)]; exact up_k (by decide)
      rw [x9]
      refine k 2 _ _ ⟨n4, n8, e7, n9, ⟨la, rla, ?_, rfl⟩, ?_, fun a h1 h2 => ?_, ?_⟩ (m2.keep (fun a h1 h2 _ _ => by rw [ps_i (by omega), ps_i (by omega)])) (fun a h1 h2 h3 => ?_)
      · rw [st_up, st_up, e2]
      · rw [ps_i (by omega), ps_i (by omega), g2 _ (by omega) (by omega), o1 _ (by omega)]
      · rw [ps_i (by omega), ps_i (by omega), g2 _ (by omega) (by omega), o1 _ (by omega)]
      · rw [ps_i (by omega), ps_i (by omega), g2 _ (by omega) (by omega), o1 _ (by omega)]
      · rw [ps_i (by omega), ps_i (by omega), g2 _ h1 (by omega), o1 _ (by omega)]
  unfold pb_Sw_pulse_41
  rw [xo 12 (by decide)]
  refine br_c (fun e12 => ?_) (fun n12 => ?_)
  · have bb : ((u i 5 = 3 ∧ u i 7 + 1 = 30) ∨ (u i 5 = 4 ∧ u i 7 + 1 = 6)) → pw_Sw_begin u1 i fun u1 => pb_Sw_pulse_111 K u1 := fun h => bg (pul (u i)) u1 m1 e1 (up_k (by decide)) (fun a h1 _ => o1 a h1) (fun u' o hB h172 m' g' => k 8 u' o ⟨n4, e8, e12, h, hB, h172.trans (o1 172 (by omega))⟩ m' g')
    have r89 : ¬ (u i 5 = 3 ∧ u i 7 + 1 = 30) → pb_Sw_pulse_89 K u1 i := by
      intro h
      unfold pb_Sw_pulse_89
      rw [xo 5 (by decide)]
      refine br_c (fun e5 => ?_) (fun n5 => idle (Or.inr (Or.inr ⟨e8, e12, h, fun z => n5 z.1⟩)))
      unfold pb_Sw_pulse_97
      rw [x7]
      exact br_c (fun e7 => bb (Or.inr ⟨e5, e7⟩)) (fun n7 => idle (Or.inr (Or.inr ⟨e8, e12, h, fun z => n7 z.2⟩)))
    unfold pb_Sw_pulse_64
    rw [xo 5 (by decide)]
    refine br_c (fun e5 => ?_) (fun n5 => r89 (fun z => n5 z.1))
    unfold pb_Sw_pulse_72
    rw [x7]
    exact br_c (fun e7 => bb (Or.inl ⟨e5, e7⟩)) (fun n7 => r89 (fun z => n7 z.2))
  obtain ⟨as, q, ras, rq, as20⟩ := hq n12
  unfold pb_Sw_pulse_48
  rw [x7]
  refine br_c (fun e7 => ?_) (fun n7 => idle (Or.inr (Or.inl ⟨e8, n12, n7⟩)))
  unfold pb_Sw_pulse_56 pw_Sw_retry pb_Sw_retry_0
  rw [xo 12 (by decide)]
  refine br_c (fun t1 => ?_) (fun t1 => ?_)
  · unfold pb_Sw_retry_8
    rw [xo 13 (by decide)]
    refine sp_Ma_send m1 (rq.keep (o1 _ (by omega)) (o1 _ (by omega))) (by omega) (fun u2 m2 g2 => pu (pu ?_))
    refine k 5 _ _ ⟨n4, e8, n12, e7, t1, ?_, ⟨q, rq, rfl⟩, ?_, fun a h1 h2 => ?_, ?_⟩ (m2.keep (fun a h1 h2 _ _ => by rw [ps_i (by omega), ps_i (by omega)])) (fun a h1 h2 h3 => ?_)
    · rw [st_up, st_up, g2 _ (by omega), e1]
    · rw [ps_i (by omega), ps_i (by omega), g2 _ (by omega), o1 _ (by omega)]
    · rw [ps_i (by omega), ps_i (by omega), g2 _ (by omega), o1 _ (by omega)]
    · rw [ps_i (by omega), ps_i (by omega), g2 _ (by omega), o1 _ (by omega)]
    · rw [ps_i (by omega), ps_i (by omega), g2 _ h1, o1 _ (by omega)]
  unfold pb_Sw_retry_37
  rw [xo 14 (by decide)]
  refine br_c (fun t2 => ?_) (fun t2 => ?_)
  · unfold pb_Sw_retry_44
    refine pu ?_
    have o2 : ∀ a, a ≠ i → (pj_set u1 i 14 1) a = u a := fun a h => (ps_i h).trans (o1 a h)
    have e2 : (pj_set u1 i 14 1) i = up (pul (u i)) 14 1 := by rw [st_up, e1]
    generalize pj_set u1 i 14 1 = u2 at o2 e2 ⊢
    have x13 : u2 i 13 = u i 13 := by rw [e2, up_k (by decide)]; exact up_k (by decide)
    rw [x13]
    have e170 : u2 170 = u 170 := o2 170 (by omega)
    refine sp_Sw_ask (s := u 170 0) (n := u 170 7) hi (hm.keep (fun a h1 h2 _ _ => o2 a (by omega))) (ras.keep (o2 _ (by omega)) (o2 _ (by omega))) as20 (by rw [e170]) (by rw [e170]) (fun u' m' e' f' r5 r3 g' => ?_)
    rw [e2] at m' e' r5
    rw [e170] at f'
    exact k 6 u' _ ⟨n4, e8, n12, e7, t1, t2, as, ras, e', f', ⟨(g' _ (by omega) (by omega) (by omega) (by omega) (by omega) (by omega)).trans (o2 _ (by omega)), (g' _ (by omega) (by omega) (by omega) (by omega) (by omega) (by omega)).trans (o2 _ (by omega))⟩, (g' _ (by omega) (by omega) (by omega) (by omega) (by omega) (by omega)).trans (o2 _ (by omega)), r3, r5, rfl⟩ m' (fun a h1 h2 h3 => (g' a h1 (by omega) (by omega) (by omega) (by omega) (by omega)).trans (o2 a (by omega)))
  · unfold pb_Sw_retry_63
    refine sp_Pa_id rla1 (sp_Pa_make (fun u2 h2 g2 => ?_))
    have h2' : rw_ u2 173 (ph 4 (aT la 1) 0) := by rw [ph4]; exact h2
    refine sp_Sw_sendToHost (m1.keep (fun a h1 h2 _ _ => g2 a (by omega) (by omega))) h2' (by decide) (by rw [ph4_len]; decide) (by omega) (fun u3 m3 e3 g3 => sp_Sw_fail (by omega) (fun u4 c4' e4 g4 => ?_))
    rw [g2 i (by omega) (by omega), e1] at m3 e3
    have z0 : pul (u i) 0 = u i 0 := up_k (by decide)
    rw [z0] at m3
    have y0 : u3 i 0 = u i 0 := by rw [e3, up_k (by decide)]; exact z0
    have y172 : u3 172 = u 172 := by rw [g3 _ (by omega) (by omega), g2 _ (by omega) (by omega), o1 _ (by omega)]
    rw [y0, y172] at c4'
    refine k 7 u4 _ ⟨n4, e8, n12, e7, t1, t2, ⟨la, rla, by rw [e4, e3], rfl⟩, ?_, fun a h1 h2 => ?_, c4'⟩ (m3.keep (fun a h1 h2 _ _ => g4 a (by omega) (by omega))) (fun a h1 h2 h3 => ?_)
    · rw [g4 _ (by omega) (by omega), g3 _ (by omega) (by omega), g2 _ (by omega) (by omega), o1 _ (by omega)]
    · rw [g4 _ (by omega) (by omega), g3 _ (by omega) (by omega), g2 _ (by omega) (by omega), o1 _ (by omega)]
    · rw [g4 _ (by omega) (by omega), g3 _ h1 (by omega), g2 _ (by omega) (by omega), o1 _ (by omega)]
