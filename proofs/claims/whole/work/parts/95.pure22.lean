/-! The pure part: a port of the class takes a frame -/
def fSw (i : Nat) (u u' : pj_M) : Prop := ∀ a, (a < 4 ∨ 90 ≤ a) → (a < 170 ∨ 184 < a) → (a < i ∨ i + 6 < a) → u' a = u a
def poK (i : Nat) (c c' : pj_M) : Prop := (∀ a, i ≤ a → a ≤ i + 6 → c' a = c a) ∧ c' 172 = c 172
def poB (i : Nat) (σ : Nat → Int32) (c c' : pj_M) (o : Option mT) : Prop := c' i = bgS σ ∧ rw_ c' (i + 1) (ph 1 (σ 17) 1) ∧ c' 170 = c 170 ∧ o = some (1, σ 0, 0 :: ph 1 (σ 17) 1)
def poA (i : Nat) (σ : Nat → Int32) (as : List Int32) (x : Int32) (c c' : pj_M) (o : Option mT) : Prop := c' i = akS σ x ∧ c' 170 = up (c 170) 7 (c 170 7 + 1) ∧ (c' (i + 1) = c (i + 1) ∧ c' (i + 2) = c (i + 2)) ∧ c' 172 = c 172 ∧ rw_ c' (i + 3) as ∧ rw_ c' (i + 5) (gY (c 170 0) 1 (c 170 7 &&& 255) (hInts (c 170 0) (c 170 7)) (σ 10) (σ 11) as) ∧ o = some (2, x, gY (c 170 0) 1 (c 170 7 &&& 255) (hInts (c 170 0) (c 170 7)) (σ 10) (σ 11) as)
/-- the port i takes the frame f -/
def poS (i : Nat) (f : List Int32) (c c' : pj_M) (o : Option mT) : Nat → Prop
  | 0 => (c i 4 = 0 ∨ c i 5 = 4) ∧ c' 170 = c 170 ∧ poK i c c' ∧ o = none
  | 1 => ¬ c i 4 = 0 ∧ ¬ c i 5 = 4 ∧ fS f ∧ aT f 0 = 1 ∧ poB i (c i) c c' o ∧ c' 172 = c 172
  | 2 => ¬ c i 4 = 0 ∧ ¬ c i 5 = 4 ∧ fS f ∧ aT f 0 = 2 ∧ poB i (up (c i) 6 0) c c' o ∧ ∀ j, j < 8 → c' 172 j = clS (c 172) (c i 0) j
  | 3 => ¬ c i 4 = 0 ∧ ¬ c i 5 = 4 ∧ ¬ fS f ∧ ¬ fP f ∧ c' 170 = up (c 170) 9 (c 170 9 + 1) ∧ poK i c c' ∧ o = none
  | 4 => ¬ c i 4 = 0 ∧ ¬ c i 5 = 4 ∧ ¬ fS f ∧ fP f ∧ (¬ aT (f.drop 1) 0 = 2 ∨ c i 8 = 0 ∨ (∃ la, rw_ c (i + 1) la ∧ ¬ aT (f.drop 1) 1 = aT la 1) ∨ (c i 5 = 1 ∧ ¬ (aT (f.drop 1) 3 = 1 ∧ (f.drop 1).length = 5))) ∧ c' 170 = c 170 ∧ poK i c c' ∧ o = none
  | 5 => ¬ c i 4 = 0 ∧ ¬ c i 5 = 4 ∧ ¬ fS f ∧ fP f ∧ aT (f.drop 1) 0 = 2 ∧ ¬ c i 8 = 0 ∧ (∃ la, rw_ c (i + 1) la ∧ aT (f.drop 1) 1 = aT la 1) ∧ c i 5 = 1 ∧ aT (f.drop 1) 3 = 1 ∧ (f.drop 1).length = 5 ∧ poA i (up (up (up (up (c i) 10 (aT (f.drop 1) 4)) 5 2) 8 0) 14 0) (f.drop 1) (c 170 8) c c' o
  | 6 => ¬ c i 4 = 0 ∧ ¬ c i 5 = 4 ∧ ¬ fS f ∧ fP f ∧ aT (f.drop 1) 0 = 2 ∧ ¬ c i 8 = 0 ∧ (∃ la, rw_ c (i + 1) la ∧ aT (f.drop 1) 1 = aT la 1) ∧ ¬ c i 5 = 1 ∧ poA i (up (up (c i) 8 0) 14 0) (f.drop 1) (c 170 8) c c' o
  | _ => False
theorem sp_Sw_83 {u c : pj_M} {i : Nat} {pk : List Int32} {ms : List mT} {K : pj_M → Prop} (hi : 185 ≤ i) (hi2 : i + 6 < 213) (hp : rw_ u 173 pk) (h20 : pk.length ≤ 20) (hm : mb u ms) (hc : ∀ a, (a < 170 ∨ 174 < a) → a ≠ i → u a = c a) (hc0 : u 170 = c 170) (hc2 : u 172 = c 172) (k : ∀ u' o, poA i (up (up (u i) 8 0) 14 0) pk (c 170 8) c u' o → mb u' (om ms o) → fSw i c u' → K u') : pb_Sw_takePacket_83 K u i := by
  unfold pb_Sw_takePacket_83
  refine pu ?_
  have o1 : ∀ a, a ≠ i → (pj_set u i 8 0) a = u a := fun a h => ps_i h
  have e1 : (pj_set u i 8 0) i = up (u i) 8 0 := st_up
  generalize pj_set u i 8 0 = u1 at o1 e1 ⊢
  refine sp_Ro_copy (hp.keep (o1 _ (by omega)) (o1 _ (by omega))) (by omega) (by omega) (fun u2 h2 g2 => pu ?_)
  have e2 : u2 i = up (u i) 8 0 := (g2 i (by omega) (by omega)).trans e1
  have o3 : ∀ a, a ≠ i → (pj_set u2 i 14 0) a = u2 a := fun a h => ps_i h
  have e3 : (pj_set u2 i 14 0) i = up (up (u i) 8 0) 14 0 := by rw [st_up, e2]
  generalize pj_set u2 i 14 0 = u3 at o3 e3 ⊢
  have q3 : ∀ a, a ≠ i → a ≠ i + 3 → a ≠ i + 4 → u3 a = u a := fun a h1 h2 h3 => (o3 a h1).trans ((g2 a h2 (by omega)).trans (o1 a h1))
  have e170 : u3 170 = c 170 := (q3 170 (by omega) (by omega) (by omega)).trans hc0
  refine sp_Sw_ask (s := c 170 0) (n := c 170 7) hi (hm.keep (fun a h1 h2 _ _ => q3 a (by omega) (by omega) (by omega))) (h2.keep (o3 _ (by omega)) (o3 _ (by omega))) h20 (by rw [e170]) (by rw [e170]) (fun u' m' e' f' r5 r3 g' => ?_)
  rw [e3] at m' e' r5
  rw [e170] at m' e' f'
  refine k u' _ ⟨e', f', ⟨?_, ?_⟩, ?_, r3, r5, rfl⟩ m' (fun a h1 h2 h3 => ?_)
  · rw [g' _ (by omega) (by omega) (by omega) (by omega) (by omega) (by omega), q3 _ (by omega) (by omega) (by omega), hc _ (by omega) (by omega)]
  · rw [g' _ (by omega) (by omega) (by omega) (by omega) (by omega) (by omega), q3 _ (by omega) (by omega) (by omega), hc _ (by omega) (by omega)]
  · rw [g' _ (by omega) (by omega) (by omega) (by omega) (by omega) (by omega), q3 _ (by omega) (by omega) (by omega), hc2]
  · rw [g' a h1 (by omega) (by omega) (by omega) (by omega) (by omega), q3 a (by omega) (by omega) (by omega), hc a (by omega) (by omega)]
theorem sp_Sw_takePacket {u c : pj_M} {i : Nat} {f : List Int32} {ms : List mT} {K : pj_M → Prop} (hi : 185 ≤ i) (hi2 : i + 6 < 213) (hp : rw_ u 173 (f.drop 1)) (n4 : ¬ c i 4 = 0) (n5 : ¬ c i 5 = 4) (ns : ¬ fS f) (p : fP f) (hm : mb u ms) (g : f2 173 c u) (hl : ¬ c i 8 = 0 → ∃ la, rw_ c (i + 1) la) (k : ∀ n u' o, poS i f c u' o n → mb u' (om ms o) → fSw i c u' → K u') : pw_Sw_takePacket u i K := by
  have h48 := hp.2.1
  have h20 : (f.drop 1).length ≤ 20 := p.2.2.1
  have ei : u i = c i := g i (by omega) (by omega)
  have l4 : (¬ aT (f.drop 1) 0 = 2 ∨ c i 8 = 0 ∨ (∃ la, rw_ c (i + 1) la ∧ ¬ aT (f.drop 1) 1 = aT la 1) ∨ (c i 5 = 1 ∧ ¬ (aT (f.drop 1) 3 = 1 ∧ (f.drop 1).length = 5))) → K u := fun h => k 4 u none ⟨n4, n5, ns, p, h, g 170 (by decide) (by decide), ⟨fun a h1 h2 => g a (by omega) (by omega), g 172 (by decide) (by decide)⟩, rfl⟩ hm (fun a _ h2 _ => g a (by omega) (by omega))
  refine sp_Pa_code hp (br_c (fun e0 => ?_) (fun e0 => l4 (Or.inl e0)))
  refine br_c (fun e8 => l4 (Or.inr (Or.inl (by rw [← ei]; exact e8)))) (fun e8 => ?_)
  rw [ei] at e8
  obtain ⟨la, rla⟩ := hl e8
  refine sp_Pa_id hp (sp_Pa_id (rla.keep (g _ (by omega) (by omega)) (g _ (by omega) (by omega))) (br_c (fun e1 => ?_) (fun e1 => l4 (Or.inr (Or.inr (Or.inl ⟨la, rla, e1⟩))))))
  refine br_c (fun s1 => ?_) (fun s1 => ?_)
  · rw [ei] at s1
    refine sp_Pa_type hp (br_c (fun t1 => ?_) (fun t1 => l4 (Or.inr (Or.inr (Or.inr ⟨s1, fun z => t1 z.1⟩)))))
    unfold pb_Sw_takePacket_55
    refine sp_Pa_dataSize hp (br_c (fun t2 => ?_) (fun t2 => l4 (Or.inr (Or.inr (Or.inr ⟨s1, fun z => t2 ((pk_dsz (n := 1) h48 (by decide)).mpr z.2)⟩)))))
    have h5 : (f.drop 1).length = 5 := (pk_dsz (n := 1) h48 (by decide)).mp t2
    refine sp_Pa_firstData hp (pu (pu ?_))
    have o1 : ∀ a, a ≠ i → (pj_set (pj_set u i 10 (aT (f.drop 1) 4)) i 5 2) a = u a := fun a h => by rw [ps_i h, ps_i h]
    have e1' : (pj_set (pj_set u i 10 (aT (f.drop 1) 4)) i 5 2) i = up (up (c i) 10 (aT (f.drop 1) 4)) 5 2 := by rw [st_up, st_up, ei]
    generalize pj_set (pj_set u i 10 (aT (f.drop 1) 4)) i 5 2 = u1 at o1 e1' ⊢
    refine sp_Sw_83 (c := c) hi hi2 (hp.keep (o1 _ (by omega)) (o1 _ (by omega))) h20 (hm.keep (fun a h1 h2 _ _ => o1 a (by omega))) (fun a h1 h2 => (o1 a h2).trans (g a (by omega) (by omega))) ((o1 170 (by omega)).trans (g 170 (by decide) (by decide))) ((o1 172 (by omega)).trans (g 172 (by decide) (by decide))) (fun u' o hA m' g' => ?_)
    rw [e1'] at hA
    exact k 5 u' o ⟨n4, n5, ns, p, e0, e8, ⟨la, rla, e1⟩, s1, t1, h5, hA⟩ m' g'
  · rw [ei] at s1
    refine sp_Sw_83 (c := c) hi hi2 hp h20 hm (fun a h1 h2 => g a (by omega) (by omega)) (g 170 (by decide) (by decide)) (g 172 (by decide) (by decide)) (fun u' o hA m' g' => ?_)
    rw [ei] at hA
    exact k 6 u' o ⟨n4, n5, ns, p, e0, e8, ⟨la, rla, e1⟩, s1, hA⟩ m' g'
theorem sp_Sw_takeFrame {u : pj_M} {i : Nat} {f : List Int32} {ms : List mT} {K : pj_M → Prop} (hi : 185 ≤ i) (hi2 : i + 6 < 213) (hf : rw_ u 215 f) (hm : mb u ms) (hl : ¬ u i 8 = 0 → ∃ la, rw_ u (i + 1) la) (k : ∀ n u' o, poS i f u u' o n → mb u' (om ms o) → fSw i u u' → K u') : pw_Sw_takeFrame u i 215 K := by
  have l0 : (u i 4 = 0 ∨ u i 5 = 4) → K u := fun h => k 0 u none ⟨h, rfl, ⟨fun _ _ _ => rfl, rfl⟩, rfl⟩ hm (fun _ _ _ _ => rfl)
  refine br_c (fun h => l0 (Or.inl h)) (fun n4 => br_c (fun h => l0 (Or.inr h)) (fun n5 => ?_))
  have mk : ∀ {w : pj_M}, f2 173 u w → mb w ms := fun g => hm.keep (fun a h1 h2 _ _ => g a (by omega) (by omega))
  unfold pb_Sw_takeFrame_16
  refine sp_Pa_readFrame hf (by decide) (by decide) (by decide) (fun s u1 g1 => ?_) (fun ns p u1 h1 g1 => ?_) (fun ns np u1 g1 => ?_)
  · have ei : u1 i = u i := g1 i (by omega) (by omega)
    rcases s.2 with e | e
    · rw [e]
      refine br_f (by decide) (br_t rfl (sp_Sw_begin (by omega) (mk g1) (fun u' m' e' r' g' => ?_)))
      rw [ei] at m' e' r'
      exact k 1 u' _ ⟨n4, n5, s, e, ⟨e', r', (g' 170 (by omega) (by omega) (by omega) (by omega)).trans (g1 170 (by decide) (by decide)), rfl⟩, (g' 172 (by omega) (by omega) (by omega) (by omega)).trans (g1 172 (by decide) (by decide))⟩ m' (fun a h1 h2 h3 => (g' a h1 (by omega) (by omega) (by omega)).trans (g1 a (by omega) (by omega)))
    · rw [e]
      refine br_f (by decide) (br_f (by decide) (br_t rfl (sp_Sw_close (by omega) (fun u2 c2 e2 g2 => sp_Sw_begin (by omega) ((mk g1).keep (fun a h1 h2 _ _ => g2 a (by omega) (by omega))) (fun u' m' e' r' g' => ?_)))))
      rw [g1 172 (by decide) (by decide), ei] at c2
      rw [e2, ei] at m' e' r'
      refine k 2 u' _ ⟨n4, n5, s, e, ⟨e', r', (g' 170 (by omega) (by omega) (by omega) (by omega)).trans ((g2 170 (by decide) (by omega)).trans (g1 170 (by decide) (by decide))), rfl⟩, fun j hj => ?_⟩ m' (fun a h1 h2 h3 => (g' a h1 (by omega) (by omega) (by omega)).trans ((g2 a (by omega) (by omega)).trans (g1 a (by omega) (by omega))))
      rw [g' 172 (by omega) (by omega) (by omega) (by omega)]
      exact c2 j hj
  · exact br_t rfl (sp_Sw_takePacket hi hi2 h1 n4 n5 ns p (mk g1) g1 hl k)
  · refine br_f (by decide) (br_f (by decide) (br_f (by decide) (pu ?_)))
    have e9 : u1 170 = u 170 := g1 170 (by decide) (by decide)
    refine k 3 _ none ⟨n4, n5, ns, np, ?_, ⟨fun a h1 h2 => (ps_i (by omega)).trans (g1 a (by omega) (by omega)), (ps_i (by decide)).trans (g1 172 (by decide) (by decide))⟩, rfl⟩ ((mk g1).keep (fun a h1 h2 _ _ => ps_i (by omega))) (fun a _ h2 _ => (ps_i (by omega)).trans (g1 a (by omega) (by omega)))
    rw [st_up, e9]
