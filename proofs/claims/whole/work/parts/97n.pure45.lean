/-! The pure part: the whole relation -/
/-- the draft -/
def RD (c u : pj_M) : Prop := ∃ l, rw_ c 213 l ∧ u 217 9 = nI l.length ∧ bl l ∧ ∀ j, j < l.length → u 225 j = l.getD j 0
/-- the sums of wrong frames -/
def WS (c u : pj_M) : Prop := 0 + c 91 14 + c 96 14 + c 101 14 + c 106 14 = u 277 1 ∧ 0 + c 112 19 + c 141 19 = u 277 2
def okM (x : mT) : Prop := (((x.1 = 0 ∨ x.1 = 1) ∧ ∃ p, p < 4 ∧ x.2.1 = nI p) ∨ ((x.1 = 2 ∨ x.1 = 3) ∧ ∃ s, s < 2 ∧ x.2.1 = nI s)) ∧ bl x.2.2
def MWs (ms : List mT) : Prop := ∀ k, k < ms.length → okM (mg ms k)
theorem MWs.add {ms : List mT} {x : mT} (h : MWs ms) (hx : okM x) : MWs (ad ms x) := by
  unfold ad
  split
  · intro k hk
    have el : (ms ++ [x]).length = ms.length + 1 := by rw [List.length_append]; rfl
    rw [el] at hk
    by_cases c : k = ms.length
    · rw [c, mg_hi]; exact hx
    · rw [mg_lo (by omega)]; exact h k (by omega)
  · exact h
theorem MWs.omm {ms : List mT} {o : Option mT} (h : MWs ms) (hx : ∀ x, o = some x → okM x) : MWs (om ms o) := by
  cases o with
  | none => exact h
  | some x => exact h.add (hx x rfl)
theorem MWs.er {ms : List mT} {k : Nat} (h : MWs ms) (hk : k < ms.length) : MWs (ms.eraseIdx k) := by
  intro t ht
  rw [List.length_eraseIdx_of_lt hk] at ht
  rw [mg_er]
  split
  · exact h t (by omega)
  · exact h (t + 1) (by omega)
theorem RU.keep {c c' u u' : pj_M} (R : RU c u) (h2 : c' 2 = c 2) (h3 : c' 3 = c 3) (h8 : u' 218 = u 218) (h9 : u' 219 = u 219) (h0 : u' 220 = u 220) : RU c' u' := by
  intro y hy
  rw [h2, h3, h8, h9, h0]
  exact R y hy
theorem RH.keep {c c' u u' : pj_M} {h : Nat} (R : RH c u h) (hc : ∀ a, 91 + 5 * h ≤ a → a ≤ 91 + 5 * h + 4 → c' a = c a) (hu : ∀ a, 228 ≤ a → a ≤ 238 → a ≠ 232 → u' a h = u a h) (h32 : ∀ j, j < 20 → u' 232 (20 * h + j) = u 232 (20 * h + j)) : RH c' u' h := by
  obtain ⟨⟨a0, a1, a2, a3, a4, a5⟩, ⟨b1, b2, b3, b4⟩, d, e⟩ := R
  have hi := hc (91 + 5 * h) (by omega) (by omega)
  refine ⟨⟨?_, ?_, ?_, ?_, ?_, ?_⟩, ⟨?_, ?_, ?_, ?_⟩, ?_, ?_⟩
  · rw [hi]; exact a0
  · rw [hi, hu 228 (by decide) (by decide) (by decide)]; exact a1
  · rw [hi, hu 229 (by decide) (by decide) (by decide)]; exact a2
  · rw [hi, hu 230 (by decide) (by decide) (by decide)]; exact a3
  · rw [hi, hu 233 (by decide) (by decide) (by decide)]; exact a4
  · rw [hi, hu 234 (by decide) (by decide) (by decide)]; exact a5
  · rw [hi, hu 235 (by decide) (by decide) (by decide)]; exact b1
  · rw [hi, hu 236 (by decide) (by decide) (by decide)]; exact b2
  · rw [hi, hu 237 (by decide) (by decide) (by decide)]; exact b3
  · rw [hi, hu 238 (by decide) (by decide) (by decide)]; exact b4
  · rw [hu 228 (by decide) (by decide) (by decide)]; exact d
  · rw [hi, hu 231 (by decide) (by decide) (by decide)]
    rcases e with e | ⟨e, l, r, n, n3, bb, ar⟩
    · exact Or.inl e
    · exact Or.inr ⟨e, l, r.keep (hc _ (by omega) (by omega)) (hc _ (by omega) (by omega)), n, n3, bb, ar.keep h32⟩
theorem RW.keep {c c' u u' : pj_M} (W : RW c u) (h0 : c' 170 = c 170) (h2 : c' 172 = c 172) (s0 : u' 217 0 = u 217 0) (s68 : u' 217 68 = u 217 68) (s69 : u' 217 69 = u 217 69) (s7 : u' 277 0 = u 277 0) (s8 : u' 278 = u 278) : RW c' u' := by
  obtain ⟨⟨a, b, d, e, g⟩, l⟩ := W
  refine ⟨⟨?_, ?_, ?_, ?_, ?_⟩, fun j hj => ?_⟩
  · rw [h0, s0]; exact a
  · rw [h0, s68]; exact b
  · rw [h0, s69]; exact d
  · rw [s69]; exact e
  · rw [h0, s7]; exact g
  · rw [h2, s8]; exact l j hj
theorem RSx.keep {c c' u u' : pj_M} {s : Nat} {L : List (Nat → Int32)} {A : List aTy} (R : RSx c u s L A) (hc : ∀ a, 112 + 29 * s ≤ a → a ≤ 112 + 29 * s + 28 → c' a = c a) (h1 : ∀ a, ((239 ≤ a ∧ a ≤ 242) ∨ a = 251) → u' a s = u a s) (h2 : ∀ a q, ((243 ≤ a ∧ a ≤ 250) ∨ (252 ≤ a ∧ a ≤ 256)) → 4 * s ≤ q → q < 4 * s + 4 → u' a q = u a q) (h3 : ∀ q, 80 * s ≤ q → q < 80 * s + 80 → u' 257 q = u 257 q) (h0 : u' 217 0 = u 217 0) : RSx c' u' s L A := by
  obtain ⟨⟨ρ, C⟩, M, I, CA_, MA_, d, e0, e1, hup, e15, e16⟩ := R
  have hi := hc (112 + 29 * s) (by omega) (by omega)
  have mL := M.2.1
  have mA := MA_.2.1
  refine ⟨⟨ρ, C.keep (hc _ (by omega) (by omega)) (by rw [hi]) (fun a h1 h2 => hc a (by omega) (by omega))⟩, ⟨by rw [h1 242 (by decide)]; exact M.1, M.2.1, fun t ht => (M.2.2 t ht).keep (fun a ha hb => h2 a _ (by omega) (by omega) (by omega))⟩, I, ?_, ⟨by rw [h1 251 (by decide)]; exact MA_.1, MA_.2.1, fun t ht => (MA_.2.2 t ht).keep (fun a ha hb => h2 a _ (by omega) (by omega) (by omega)) (fun i hi => h3 _ (by omega) (by omega))⟩, d, ?_, ?_, ?_, ?_, ?_⟩
  · rw [h0]
    exact CA_.keep (by rw [hi]) (by rw [hi]) (hc _ (by omega) (by omega)) (hc _ (by omega) (by omega)) (fun a h1 h2 => hc a (by omega) (by omega))
  · rw [hi]; exact e0
  · rw [hi, h0]; exact e1
  · rw [hi, h1 239 (by decide)]; exact hup
  · rw [hi, h1 240 (by decide)]; exact e15
  · rw [hi, h1 241 (by decide)]; exact e16
theorem RD.keep {c c' u u' : pj_M} (R : RD c u) (h1 : c' 213 = c 213) (h2 : c' 214 = c 214) (h9 : u' 217 9 = u 217 9) (h5 : u' 225 = u 225) : RD c' u' := by
  obtain ⟨l, r, e, b, g⟩ := R
  exact ⟨l, r.keep h1 h2, by rw [h9]; exact e, b, fun j hj => by rw [h5]; exact g j hj⟩
/-- learned places -/
def LN (u : pj_M) : Prop := ∀ j, j < 8 → u 278 j = -1 ∨ 0 ≤ u 278 j
theorem LN.step {c c' u u' : pj_M} (h : LN u) (W : RW c u) (W' : RW c' u') (hs : ∀ j, j < 8 → c' 172 j = c 172 j ∨ c' 172 j = -1) : LN u' := by
  intro j hj
  rw [← W'.2 j hj]
  rcases hs j hj with e | e
  · rw [e, W.2 j hj]; exact h j hj
  · exact Or.inl e
def RC (c u : pj_M) : Prop := RU c u ∧ (∀ h, h < 4 → RH c u h) ∧ (∀ p, p < 4 → PP c u p) ∧ RW c u ∧ (∀ s, s < 2 → RS c u s) ∧ bX u ∧ RD c u ∧ WS c u ∧ LN u
/-- what scratch and mail leave of the reference -/
def gr (u u' : pj_M) : Prop := (∀ a, 217 < a → (a < 221 ∨ 224 < a) → a ≠ 226 → a ≠ 227 → u' a = u a) ∧ ∀ k, k ≠ 4 → (k < 11 ∨ 18 < k) → u' 217 k = u 217 k
theorem gm.gr {u u' : pj_M} (g : gm u u') : gr u u' := ⟨fun a h1 h2 h3 h4 => g.1 a (by omega) h2 h3 h4, g.2⟩
theorem gr.of {u u' : pj_M} (h : ∀ a, 217 ≤ a → u' a = u a) : gr u u' := ⟨fun a h1 _ _ _ => h a (by omega), fun k _ _ => by rw [h 217 (by decide)]⟩
theorem gr.tr {u v w : pj_M} (f : gr u v) (g : gr v w) : gr u w := ⟨fun a h1 h2 h3 h4 => (g.1 a h1 h2 h3 h4).trans (f.1 a h1 h2 h3 h4), fun k h1 h2 => (g.2 k h1 h2).trans (f.2 k h1 h2)⟩
theorem RC.keep {c c' u u' : pj_M} (R : RC c u) (hc : ∀ a, (a < 4 ∨ (90 ≤ a ∧ a < 215)) → c' a = c a) (g : gr u u') : RC c' u' := by
  obtain ⟨r1, r2, r3, r4, r5, r6, r7, r8, r9⟩ := R
  have q : ∀ a, (a = 218 ∨ a = 219 ∨ a = 220 ∨ a = 225 ∨ 228 ≤ a) → u' a = u a := fun a h => g.1 a (by omega) (by omega) (by omega) (by omega)
  refine ⟨r1.keep (hc _ (by decide)) (hc _ (by decide)) (q _ (by decide)) (q _ (by decide)) (q _ (by decide)), fun h hh => (r2 h hh).keep (fun a h1 h2 => hc a (by omega)) (fun a h1 h2 _ => by rw [q a (by omega)]) (fun j _ => by rw [q 232 (by decide)]), fun p hp => (r3 p hp).keep (fun a h1 h2 => hc a (by omega)) (rs_keep (fun a h _ _ _ _ => q a (by omega))) (fun j _ => by rw [q 263 (by decide)]) (fun j _ => by rw [q 276 (by decide)]) (g.2 0 (by decide) (by decide)), r4.keep (hc _ (by decide)) (hc _ (by decide)) (g.2 0 (by decide) (by decide)) (g.2 68 (by decide) (by decide)) (g.2 69 (by decide) (by decide)) (by rw [q 277 (by decide)]) (q _ (by decide)), fun s hs => ?_, fun x hx => by rw [q 249 (by decide)]; exact r6 x hx, r7.keep (hc _ (by decide)) (hc _ (by decide)) (g.2 9 (by decide) (by decide)) (q _ (by decide)), ?_, fun j hj => by rw [q 278 (by decide)]; exact r9 j hj⟩
  · obtain ⟨L, A, R⟩ := r5 s hs
    exact ⟨L, A, R.keep (fun a h1 h2 => hc a (by omega)) (fun a h => by rw [q a (by omega)]) (fun a q' h _ _ => by rw [q a (by omega)]) (fun q' _ _ => by rw [q 257 (by decide)]) (g.2 0 (by decide) (by decide))⟩
  · unfold WS
    rw [hc 91 (by decide), hc 96 (by decide), hc 101 (by decide), hc 106 (by decide), hc 112 (by decide), hc 141 (by decide), q 277 (by decide)]
    exact r8
theorem ws1 {a b c d x : Int32} : 0 + (a + 1) + b + c + d = 0 + a + b + c + d + 1 ∧ 0 + a + (b + 1) + c + d = 0 + a + b + c + d + 1 ∧ 0 + a + b + (c + 1) + d = 0 + a + b + c + d + 1 ∧ 0 + a + b + c + (d + 1) = 0 + a + b + c + d + 1 := by
  refine ⟨?_, ?_, ?_, ?_⟩ <;> ac_rfl
theorem RC.host {c c' u u' : pj_M} {h : Nat} (R : RC c u) (hh : h < 4) (hR : RH c' u' h) (hc : ∀ a, (a < 4 ∨ (90 ≤ a ∧ a < 215)) → (a < 91 + 5 * h ∨ 91 + 5 * h + 4 < a) → c' a = c a) (f : frH h u u') (w : wrS c c' u u' (91 + 5 * h) 1 14) : RC c' u' := by
  obtain ⟨r1, r2, r3, r4, r5, r6, r7, r8, r9⟩ := R
  have q : ∀ a, (a = 218 ∨ a = 219 ∨ a = 220 ∨ a = 225 ∨ (239 ≤ a ∧ a ≠ 277)) → u' a = u a := fun a h => f.1 a (by omega) (by omega) (by omega) (by omega) (by omega) (by omega)
  have q7 : u' 277 0 = u 277 0 ∧ u' 277 2 = u 277 2 := by
    rcases w with ⟨_, e⟩ | ⟨_, e⟩
    · rw [e]; exact ⟨rfl, rfl⟩
    · rw [e]; exact ⟨ps_k (by decide), ps_k (by decide)⟩
  refine ⟨r1.keep (hc _ (by decide) (by omega)) (hc _ (by decide) (by omega)) (q _ (by decide)) (q _ (by decide)) (q _ (by decide)), fun h' hh' => ?_, fun p hp => (r3 p hp).keep (fun a h1 h2 => hc a (by omega) (by omega)) (rs_keep (fun a h _ _ h' _ => q a (by omega))) (fun j _ => by rw [q 263 (by decide)]) (fun j _ => by rw [q 276 (by decide)]) (f.2.1 0 (by decide) (by decide)), r4.keep (hc _ (by decide) (by omega)) (hc _ (by decide) (by omega)) (f.2.1 0 (by decide) (by decide)) (f.2.1 68 (by decide) (by decide)) (f.2.1 69 (by decide) (by decide)) q7.1 (q _ (by decide)), fun s hs => ?_, fun x hx => by rw [q 249 (by decide)]; exact r6 x hx, r7.keep (hc _ (by decide) (by omega)) (hc _ (by decide) (by omega)) (f.2.1 9 (by decide) (by decide)) (q _ (by decide)), ?_, fun j hj => by rw [q 278 (by decide)]; exact r9 j hj⟩
  · by_cases e : h' = h
    · rw [e]; exact hR
    · exact (r2 h' hh').keep (fun a h1 h2 => hc a (by omega) (by omega)) (fun a h1 h2 h3 => f.2.2.1 a h' h1 h2 h3 e) (fun j hj => f.2.2.2 _ (by omega))
  · obtain ⟨L, A, R⟩ := r5 s hs
    exact ⟨L, A, R.keep (fun a h1 h2 => hc a (by omega) (by omega)) (fun a h => by rw [q a (by omega)]) (fun a q' h _ _ => by rw [q a (by omega)]) (fun q' _ _ => by rw [q 257 (by decide)]) (f.2.1 0 (by decide) (by decide))⟩
  · refine ⟨?_, by rw [hc 112 (by decide) (by omega), hc 141 (by decide) (by omega), q7.2]; exact r8.2⟩
    have hx : h = 0 ∨ h = 1 ∨ h = 2 ∨ h = 3 := by omega
    rcases w with ⟨e1, e2⟩ | ⟨e1, e2⟩
    · rw [e2]
      rcases hx with e | e | e | e <;> subst e
      · rw [show c' 91 14 = c 91 14 from e1, hc 96 (by decide) (by decide), hc 101 (by decide) (by decide), hc 106 (by decide) (by decide)]; exact r8.1
      · rw [show c' 96 14 = c 96 14 from e1, hc 91 (by decide) (by decide), hc 101 (by decide) (by decide), hc 106 (by decide) (by decide)]; exact r8.1
      · rw [show c' 101 14 = c 101 14 from e1, hc 91 (by decide) (by decide), hc 96 (by decide) (by decide), hc 106 (by decide) (by decide)]; exact r8.1
      · rw [show c' 106 14 = c 106 14 from e1, hc 91 (by decide) (by decide), hc 96 (by decide) (by decide), hc 101 (by decide) (by decide)]; exact r8.1
    · rw [e2, ps_s, ← r8.1]
      obtain ⟨k1, k2, k3, k4⟩ := ws1 (a := c 91 14) (b := c 96 14) (c := c 101 14) (d := c 106 14) (x := 0)
      rcases hx with e | e | e | e <;> subst e
      · rw [show c' 91 14 = c 91 14 + 1 from e1, hc 96 (by decide) (by decide), hc 101 (by decide) (by decide), hc 106 (by decide) (by decide)]; exact k1
      · rw [show c' 96 14 = c 96 14 + 1 from e1, hc 91 (by decide) (by decide), hc 101 (by decide) (by decide), hc 106 (by decide) (by decide)]; exact k2
      · rw [show c' 101 14 = c 101 14 + 1 from e1, hc 91 (by decide) (by decide), hc 96 (by decide) (by decide), hc 106 (by decide) (by decide)]; exact k3
      · rw [show c' 106 14 = c 106 14 + 1 from e1, hc 91 (by decide) (by decide), hc 96 (by decide) (by decide), hc 101 (by decide) (by decide)]; exact k4
theorem RC.port {c c' u u' : pj_M} {p : Nat} (R : RC c u) (hp : p < 4) (hP : PP c' u' p) (hW : RW c' u') (hl : LN u') (hc : ∀ a, (a < 4 ∨ (90 ≤ a ∧ a < 215)) → (a < 170 ∨ 184 < a) → (a < 185 + 7 * p ∨ 185 + 7 * p + 6 < a) → c' a = c a) (f : frP p u u') : RC c' u' := by
  obtain ⟨r1, r2, r3, r4, r5, r6, r7, r8, r9⟩ := R
  have q : ∀ a, (a = 218 ∨ a = 219 ∨ a = 220 ∨ a = 225 ∨ (228 ≤ a ∧ a < 258)) → u' a = u a := fun a h => f.1 a (by omega) (by omega) (by omega) (by omega) (by omega)
  refine ⟨r1.keep (hc _ (by decide) (by decide) (by omega)) (hc _ (by decide) (by decide) (by omega)) (q _ (by decide)) (q _ (by decide)) (q _ (by decide)), fun h hh => (r2 h hh).keep (fun a h1 h2 => hc a (by omega) (by omega) (by omega)) (fun a h1 h2 _ => by rw [q a (by omega)]) (fun j _ => by rw [q 232 (by decide)]), fun p' hp' => ?_, hW, fun s hs => ?_, fun x hx => by rw [q 249 (by decide)]; exact r6 x hx, r7.keep (hc _ (by decide) (by decide) (by omega)) (hc _ (by decide) (by decide) (by omega)) (f.2.1 9 (by decide) (by decide) (by decide) (by decide)) (q _ (by decide)), ?_, hl⟩
  · by_cases e : p' = p
    · rw [e]; exact hP
    · exact (r3 p' hp').other e (fun a h1 h2 => hc a (by omega) (by omega) (by omega)) f
  · obtain ⟨L, A, R⟩ := r5 s hs
    exact ⟨L, A, R.keep (fun a h1 h2 => hc a (by omega) (by omega) (by omega)) (fun a h => by rw [q a (by omega)]) (fun a q' h _ _ => by rw [q a (by omega)]) (fun q' _ _ => by rw [q 257 (by decide)]) (f.2.1 0 (by decide) (by decide) (by decide) (by decide))⟩
  · unfold WS
    rw [hc 91 (by decide) (by decide) (by omega), hc 96 (by decide) (by decide) (by omega), hc 101 (by decide) (by decide) (by omega), hc 106 (by decide) (by decide) (by omega), hc 112 (by decide) (by decide) (by omega), hc 141 (by decide) (by decide) (by omega), f.2.2.2.2 1 (by decide), f.2.2.2.2 2 (by decide)]
    exact r8
theorem RC.server {c c' u u' : pj_M} {s : Nat} (R : RC c u) (hs : s < 2) (hS : RS c' u' s) (hb : bX u') (hc : ∀ a, (a < 4 ∨ (90 ≤ a ∧ a < 215)) → (a < 112 + 29 * s ∨ 112 + 29 * s + 28 < a) → c' a = c a) (f : frV s u u') (w : wrS c c' u u' (112 + 29 * s) 2 19) : RC c' u' := by
  obtain ⟨r1, r2, r3, r4, r5, r6, r7, r8, r9⟩ := R
  have q : ∀ a, (a = 218 ∨ a = 219 ∨ a = 220 ∨ a = 225 ∨ (228 ≤ a ∧ a < 240) ∨ (258 ≤ a ∧ a ≠ 277)) → u' a = u a := fun a h => f.1 a (by omega) (by omega) (by omega) (by omega) (by omega) (by omega)
  refine ⟨r1.keep (hc _ (by decide) (by omega)) (hc _ (by decide) (by omega)) (q _ (by decide)) (q _ (by decide)) (q _ (by decide)), fun h hh => (r2 h hh).keep (fun a h1 h2 => hc a (by omega) (by omega)) (fun a h1 h2 _ => by rw [q a (by omega)]) (fun j _ => by rw [q 232 (by decide)]), fun p hp => (r3 p hp).keep (fun a h1 h2 => hc a (by omega) (by omega)) (rs_keep (fun a h _ _ h' _ => q a (by omega))) (fun j _ => by rw [q 263 (by decide)]) (fun j _ => by rw [q 276 (by decide)]) (f.2.1 0 (by decide) (by decide)), r4.keep (hc _ (by decide) (by omega)) (hc _ (by decide) (by omega)) (f.2.1 0 (by decide) (by decide)) (f.2.1 68 (by decide) (by decide)) (f.2.1 69 (by decide) (by decide)) (f.2.2.2.2.2 0 (by decide)) (q _ (by decide)), fun s' hs' => ?_, hb, r7.keep (hc _ (by decide) (by omega)) (hc _ (by decide) (by omega)) (f.2.1 9 (by decide) (by decide)) (q _ (by decide)), ?_, fun j hj => by rw [q 278 (by decide)]; exact r9 j hj⟩
  · by_cases e : s' = s
    · rw [e]; exact hS
    · obtain ⟨L, A, R⟩ := r5 s' hs'
      refine ⟨L, A, R.keep (fun a h1 h2 => hc a (by omega) (by omega)) (fun a h => ?_) (fun a q' h h1 h2 => f.2.2.2.1 a q' h (by omega)) (fun q' h1 h2 => f.2.2.2.2.1 q' (by omega)) (f.2.1 0 (by decide) (by decide))⟩
      by_cases e9 : a = 239
      · rw [q a (by omega)]
      · exact f.2.2.1 a s' (by omega) e
  · refine ⟨by rw [hc 91 (by decide) (by omega), hc 96 (by decide) (by omega), hc 101 (by decide) (by omega), hc 106 (by decide) (by omega), f.2.2.2.2.2 1 (by decide)]; exact r8.1, ?_⟩
    have hx : s = 0 ∨ s = 1 := by omega
    rcases w with ⟨e1, e2⟩ | ⟨e1, e2⟩
    · rw [e2]
      rcases hx with e | e <;> subst e
      · rw [show c' 112 19 = c 112 19 from e1, hc 141 (by decide) (by decide)]; exact r8.2
      · rw [show c' 141 19 = c 141 19 from e1, hc 112 (by decide) (by decide)]; exact r8.2
    · rw [e2, ps_s, ← r8.2]
      rcases hx with e | e <;> subst e
      · rw [show c' 112 19 = c 112 19 + 1 from e1, hc 141 (by decide) (by decide)]; ac_rfl
      · rw [show c' 141 19 = c 141 19 + 1 from e1, hc 112 (by decide) (by decide)]; ac_rfl
