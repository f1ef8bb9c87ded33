/-! The pure part: the class's server keeps and sends answers -/
def rO (s code id au tok : Int32) (m : List Int32) : List Int32 := si (gY s code id au (-1) tok m) 3 (hRow (gY s code id au (-1) tok m) s)
abbrev aTy : Type := Int32 × Int32 × Int32 × Int32 × List Int32
def ag (A : List aTy) (t : Nat) : aTy := A.getD t (0, 0, 0, 0, [])
def rA (s : Int32) (x : aTy) : List Int32 := rO s x.2.2.1 x.1 x.2.1 x.2.2.2.1 x.2.2.2.2
theorem ag_er {A : List aTy} {k t : Nat} : ag (A.eraseIdx k) t = if t < k then ag A t else ag A (t + 1) := by
  unfold ag
  rw [List.getD_eq_getElem?_getD, List.getElem?_eraseIdx]
  split
  · rw [List.getD_eq_getElem?_getD]
  · rw [List.getD_eq_getElem?_getD]
theorem ag_lo {A : List aTy} {x : aTy} {k : Nat} (h : k < A.length) : ag (A ++ [x]) k = ag A k := by
  unfold ag
  rw [List.getD_eq_getElem?_getD, List.getD_eq_getElem?_getD, List.getElem?_append_left h]
theorem ag_hi {A : List aTy} {x : aTy} : ag (A ++ [x]) A.length = x := by
  unfold ag
  rw [List.getD_eq_getElem?_getD, List.getElem?_append_right (Nat.le_refl _), Nat.sub_self]
  rfl
def CA (c : pj_M) (i : Nat) (s : Int32) (A : List aTy) : Prop := c i 17 = nI A.length ∧ A.length ≤ 4 ∧ ∃ nx, nx < 4 ∧ c i 18 = nI nx ∧ (A.length < 4 → nx = A.length) ∧ ∀ t, t < A.length → c (i + 2) ((nx + 4 - A.length + t) % 4) = (ag A t).1 ∧ c (i + 3) ((nx + 4 - A.length + t) % 4) = (ag A t).2.1 ∧ rw_ c (i + 4 + 17 + 2 * ((nx + 4 - A.length + t) % 4)) (rA s (ag A t))
theorem CA.keep {c c' : pj_M} {i : Nat} {s : Int32} {A : List aTy} (h : CA c i s A) (h17 : c' i 17 = c i 17) (h18 : c' i 18 = c i 18) (h2 : c' (i + 2) = c (i + 2)) (h3 : c' (i + 3) = c (i + 3)) (hr : ∀ a, i + 21 ≤ a → a ≤ i + 28 → c' a = c a) : CA c' i s A := by
  obtain ⟨a1, a2, nx, b1, b2, b3, b4⟩ := h
  refine ⟨by rw [h17]; exact a1, a2, nx, b1, by rw [h18]; exact b2, b3, fun t ht => ?_⟩
  obtain ⟨c1, c2, c3⟩ := b4 t ht
  refine ⟨by rw [h2]; exact c1, by rw [h3]; exact c2, c3.keep (hr _ ?_ ?_) (hr _ ?_ ?_)⟩ <;> omega
theorem lp_Sv_slot {u : pj_M} {i : Nat} {s id au : Int32} {A : List aTy} {F : List Int32} {K : Int32 → pj_M → Prop} (h : CA u i s A) (hF : rw_ u (i + 5 + 1) F) (hid : aT F 1 = id) (hau : u (i + 5) 5 = au) {nx : Nat} (hnx : nx < 4) (hn4 : A.length < 4 → nx = A.length) (hs : ∀ t, t < A.length → u (i + 2) ((nx + 4 - A.length + t) % 4) = (ag A t).1 ∧ u (i + 3) ((nx + 4 - A.length + t) % 4) = (ag A t).2.1)
    (kt : ∀ t, t < A.length → (ag A t).1 = id → (ag A t).2.1 = au → K (nI ((nx + 4 - A.length + t) % 4)) u) (kn : (∀ t, t < A.length → ¬ ((ag A t).1 = id ∧ (ag A t).2.1 = au)) → K (-1) u) : ∀ (d j : Nat), j + d = A.length → (∀ t, t < A.length → (nx + 4 - A.length + t) % 4 < j → ¬ ((ag A t).1 = id ∧ (ag A t).2.1 = au)) → pb_Sv_slotOfRequest_2 K i (d + 1) u (nI j) := by
  have a4 := h.2.1
  intro d
  induction d with
  | zero =>
    intro j hj hq
    refine br_t (by rw [h.1]; exact nI_le (by omega) (by omega)) (kn (fun t ht => hq t ht ?_))
    by_cases c : A.length < 4
    · have := hn4 c
      omega
    · omega
  | succ d ih =>
    intro j hj hq
    have j4 : j < 4 := by omega
    -- the answer in slot j
    have ex : ∃ t, t < A.length ∧ (nx + 4 - A.length + t) % 4 = j := by
      by_cases c : A.length < 4
      · have := hn4 c
        exact ⟨j, by omega, by omega⟩
      · exact ⟨(j + 4 - nx) % 4, by omega, by omega⟩
    obtain ⟨t, ht, et⟩ := ex
    have hu : ∀ t', t' < A.length → (nx + 4 - A.length + t') % 4 = j → t' = t := fun t' h1 h2 => by omega
    have nxt : ¬ ((ag A t).1 = id ∧ (ag A t).2.1 = au) → pb_Sv_slotOfRequest_44 (pb_Sv_slotOfRequest_2 K i (d + 1)) K u i (nI j) := by
      intro hne
      show pb_Sv_slotOfRequest_2 K i (d + 1) u (nI j + 1)
      rw [nI_1]
      refine ih (j + 1) (by omega) (fun t' h1 h2 => ?_)
      by_cases c : (nx + 4 - A.length + t') % 4 = j
      · rw [hu t' h1 c]; exact hne
      · exact hq t' h1 (by omega)
    obtain ⟨s1, s2⟩ := hs t ht
    rw [et] at s1 s2
    refine br_f (by rw [h.1]; exact nI_ge (by omega) (by omega)) ⟨v4 j4, sp_Ro_at hF 1 rfl (by decide) ?_⟩
    rw [c4 j4, s1, show F.getD 1 (-1) = id from hid]
    refine br_c (fun e1 => ⟨v4 j4, ?_⟩) (fun e1 => nxt (fun z => e1 z.1))
    rw [c4 j4, s2, hau]
    refine br_c (fun e2 => ?_) (fun e2 => nxt (fun z => e2 z.2))
    have := kt t ht e1 e2
    rw [et] at this
    exact this
theorem sp_Sv_slotOfRequest {u : pj_M} {i : Nat} {s id au : Int32} {A : List aTy} {F : List Int32} {K : Int32 → pj_M → Prop} (h : CA u i s A) (hF : rw_ u (i + 5 + 1) F) (hid : aT F 1 = id) (hau : u (i + 5) 5 = au) (kt : ∀ t q, t < A.length → q < 4 → (ag A t).1 = id → (ag A t).2.1 = au → rw_ u (i + 4 + 17 + 2 * q) (rA s (ag A t)) → K (nI q) u) (kn : (∀ t, t < A.length → ¬ ((ag A t).1 = id ∧ (ag A t).2.1 = au)) → K (-1) u) : pw_Sv_slotOfRequest u i K := by
  obtain ⟨a1, a2, nx, b1, b2, b3, b4⟩ := h
  exact ⟨A.length + 1, lp_Sv_slot ⟨a1, a2, nx, b1, b2, b3, b4⟩ hF hid hau b1 b3 (fun t ht => ⟨(b4 t ht).1, (b4 t ht).2.1⟩) (fun t ht e1 e2 => kt t _ ht (by omega) e1 e2 (b4 t ht).2.2) kn A.length 0 (by omega) (fun t _ h => absurd h (Nat.not_lt_zero _))⟩
theorem m4 : ∀ n, n < 4 → (nI n + 1) - (nI n + 1) / 4 * 4 = nI ((n + 1) % 4) := by decide +kernel
theorem m5 : ∀ n, n < 5 → (if 4 < nI n + 1 then (4 : Int32) else nI n + 1) = nI (if n = 4 then 4 else n + 1) := by decide +kernel
def A1 (A : List aTy) (x : aTy) : List aTy := (if A.length = 4 then A.eraseIdx 0 else A) ++ [x]
theorem A1_len {A : List aTy} {x : aTy} (h : A.length ≤ 4) : (A1 A x).length = if A.length = 4 then 4 else A.length + 1 := by
  unfold A1
  by_cases c : A.length = 4
  · rw [if_pos c, if_pos c, List.length_append, List.length_eraseIdx_of_lt (by omega), c]; rfl
  · rw [if_neg c, if_neg c, List.length_append]; rfl
theorem CA.push {c c' : pj_M} {i : Nat} {s : Int32} {A : List aTy} {x : aTy} (h : CA c i s A) : ∃ nx, nx < 4 ∧ c i 18 = nI nx ∧ (c' i 17 = nI (if A.length = 4 then 4 else A.length + 1) → c' i 18 = nI ((nx + 1) % 4) → (∀ q, q ≠ nx → c' (i + 2) q = c (i + 2) q) → (∀ q, q ≠ nx → c' (i + 3) q = c (i + 3) q) → c' (i + 2) nx = x.1 → c' (i + 3) nx = x.2.1 → rw_ c' (i + 4 + 17 + 2 * nx) (rA s x) → (∀ a, i + 21 ≤ a → a ≤ i + 28 → a ≠ i + 4 + 17 + 2 * nx → a ≠ i + 4 + 17 + 2 * nx + 1 → c' a = c a) → CA c' i s (A1 A x)) := by
  obtain ⟨a1, a2, nx, b1, b2, b3, b4⟩ := h
  refine ⟨nx, b1, b2, fun h17 h18 h2 h3 e2 e3 er ho => ?_⟩
  have hl := A1_len (x := x) a2
  refine ⟨by rw [hl]; exact h17, by rw [hl]; split <;> omega, (nx + 1) % 4, by omega, h18, fun z => ?_, fun t ht => ?_⟩
  · rw [hl] at z ⊢
    by_cases c : A.length = 4
    · rw [if_pos c] at z; omega
    · rw [if_neg c] at z ⊢
      have := b3 (by omega)
      omega
  rw [hl] at ht ⊢
  by_cases c : A.length = 4
  · rw [if_pos c] at ht ⊢
    have elen : (A.eraseIdx 0).length = 3 := by rw [List.length_eraseIdx_of_lt (by omega), c]
    have ea : A1 A x = A.eraseIdx 0 ++ [x] := by unfold A1; rw [if_pos c]
    by_cases t3 : t = 3
    · have es : ((nx + 1) % 4 + 4 - 4 + t) % 4 = nx := by omega
      have eg : ag (A1 A x) t = x := by
        rw [ea, t3]
        have := ag_hi (A := A.eraseIdx 0) (x := x)
        rw [elen] at this
        exact this
      rw [es, eg]
      exact ⟨e2, e3, er⟩
    · have es : ((nx + 1) % 4 + 4 - 4 + t) % 4 = (nx + 4 - A.length + (t + 1)) % 4 := by omega
      have eg : ag (A1 A x) t = ag A (t + 1) := by
        rw [ea, ag_lo (by omega), ag_er, if_neg (by omega)]
      rw [es, eg]
      obtain ⟨c1, c2, c3⟩ := b4 (t + 1) (by omega)
      have ne : (nx + 4 - A.length + (t + 1)) % 4 ≠ nx := by omega
      generalize (nx + 4 - A.length + (t + 1)) % 4 = q at *
      exact ⟨by rw [h2 q ne]; exact c1, by rw [h3 q ne]; exact c2, c3.keep (ho _ (by omega) (by omega) (by omega) (by omega)) (ho _ (by omega) (by omega) (by omega) (by omega))⟩
  · rw [if_neg c] at ht ⊢
    have en := b3 (by omega)
    have ea : A1 A x = A ++ [x] := by unfold A1; rw [if_neg c]
    by_cases ta : t = A.length
    · have es : ((nx + 1) % 4 + 4 - (A.length + 1) + t) % 4 = nx := by omega
      have eg : ag (A1 A x) t = x := by rw [ea, ta]; exact ag_hi
      rw [es, eg]
      exact ⟨e2, e3, er⟩
    · have es : ((nx + 1) % 4 + 4 - (A.length + 1) + t) % 4 = (nx + 4 - A.length + t) % 4 := by omega
      have eg : ag (A1 A x) t = ag A t := by rw [ea, ag_lo (by omega)]
      rw [es, eg]
      obtain ⟨c1, c2, c3⟩ := b4 t (by omega)
      have ne : (nx + 4 - A.length + t) % 4 ≠ nx := by omega
      generalize (nx + 4 - A.length + t) % 4 = q at *
      exact ⟨by rw [h2 q ne]; exact c1, by rw [h3 q ne]; exact c2, c3.keep (ho _ (by omega) (by omega) (by omega) (by omega)) (ho _ (by omega) (by omega) (by omega) (by omega))⟩
theorem sp_Sv_keepAnswer {u : pj_M} {i : Nat} {s id au code tok : Int32} {A : List aTy} {F m : List Int32} {K : Int32 → pj_M → Prop} (h : CA u i s A) (hF : rw_ u (i + 5 + 1) F) (hid : aT F 1 = id) (hau : u (i + 5) 5 = au) (hs : u i 1 = s) (hc : u i 11 = code) (ht : u i 12 = tok) (hm : rw_ u (i + 15) m) (m20 : m.length ≤ 20) (k : ∀ q u', q < 4 → CA u' i s (A1 A (id, au, code, tok, m)) → rw_ u' (i + 4 + 17 + 2 * q) (rO s code id au tok m) → (∀ q, q ≠ 17 → q ≠ 18 → u' i q = u i q) → (∀ a, a ≠ i → a ≠ i + 2 → a ≠ i + 3 → (a < i + 10 ∨ i + 14 < a) → (a < i + 21 ∨ i + 28 < a) → u' a = u a) → K (nI q) u') : pw_Sv_keepAnswer u i K := by
  have a2 := h.2.1
  obtain ⟨nx, hnx, h18, hpush⟩ := CA.push (x := (id, au, code, tok, m)) h (c' := u)
  clear hpush
  unfold pw_Sv_keepAnswer pb_Sv_keepAnswer_0
  rw [h18, hc]
  refine plt (sp_Ro_at hF 1 rfl (by decide) ?_)
  rw [show F.getD 1 (-1) = id from hid]
  dsimp only
  rw [hau, ht]
  refine sp_Da_write (i := i + 10) (q := i + 15) (by omega) hm (pC_28 m20) (fun u4 h4 s4 g4 => ?_)
  rw [show u4 i 1 = s by rw [g4 i (by omega)]; exact hs]
  have hB := gB_len7 code id au (-1) tok m
  have hU := gU_len code id au (-1) tok m
  refine sp_Da_sealAnswer h4 s4 (by omega) (by omega) (fun u5 h5 g5 => ?_)
  have h5' : rw_ u5 (i + 10 + 1) (rO s code id au tok m) := h5
  have g45 : ∀ a, (a < i + 10 ∨ i + 14 < a) → u5 a = u a := fun a ha => (g5 a (by omega) (by omega)).trans (g4 a ha)
  have hF5 : rw_ u5 (i + 5 + 1) F := hF.keep (g45 _ (by omega)) (g45 _ (by omega))
  refine sp_Ro_at hF5 1 rfl (by decide) ⟨v4 hnx, pu ⟨v4 hnx, pu ⟨v4 hnx, ?_⟩⟩⟩
  rw [c4 hnx, show F.getD 1 (-1) = id from hid, ps_i (show i + 5 ≠ i + 2 by omega), g45 (i + 5) (by omega), hau]
  have o9 : ∀ a, a ≠ i + 2 → a ≠ i + 3 → (pj_set (pj_set u5 (i + 2) nx id) (i + 3) nx au) a = u5 a := fun a h1 h2 => by rw [ps_i h2, ps_i h1]
  have e2 : (pj_set (pj_set u5 (i + 2) nx id) (i + 3) nx au) (i + 2) = up (u (i + 2)) nx id := by rw [ps_i (by omega), st_up, g45 _ (by omega)]
  have e3 : (pj_set (pj_set u5 (i + 2) nx id) (i + 3) nx au) (i + 3) = up (u (i + 3)) nx au := by rw [st_up, ps_i (by omega), g45 _ (by omega)]
  generalize pj_set (pj_set u5 (i + 2) nx id) (i + 3) nx au = u9 at o9 e2 e3 ⊢
  refine sp_Ro_copy (h5'.keep (o9 _ (by omega) (by omega)) (o9 _ (by omega) (by omega))) (by omega) (by omega) (fun u11 h11 g11 => pu (pu ?_))
  have e11 : u11 i = u i := by rw [g11 i (by omega) (by omega), o9 i (by omega) (by omega), g45 i (by omega)]
  have e17 : (pj_set u11 i 18 (nI nx + 1 - (nI nx + 1) / 4 * 4)) i 17 = nI A.length := by rw [ps_k (by decide), e11]; exact h.1
  rw [e17, m5 _ (by omega), m4 nx hnx]
  have eI : (pj_set (pj_set u11 i 18 (nI ((nx + 1) % 4))) i 17 (nI (if A.length = 4 then 4 else A.length + 1))) i = up (up (u i) 18 (nI ((nx + 1) % 4))) 17 (nI (if A.length = 4 then 4 else A.length + 1)) := by rw [st_up, st_up, e11]
  have oI' : ∀ a, a ≠ i → (pj_set (pj_set u11 i 18 (nI ((nx + 1) % 4))) i 17 (nI (if A.length = 4 then 4 else A.length + 1))) a = u11 a := fun a h => by rw [ps_i h, ps_i h]
  generalize pj_set (pj_set u11 i 18 (nI ((nx + 1) % 4))) i 17 (nI (if A.length = 4 then 4 else A.length + 1)) = u13 at eI oI' ⊢
  have r13 : rw_ u13 (i + 4 + 17 + 2 * nx) (rO s code id au tok m) := h11.keep (oI' _ (by omega)) (oI' _ (by omega))
  refine k nx u13 hnx ?_ r13 (fun q h1 h2 => by rw [eI, up_k h1, up_k h2]) (fun a h1 h2 h3 h4 h5 => by rw [oI' a h1, g11 a (by omega) (by omega), o9 a h2 h3, g45 a h4])
  obtain ⟨nx', hnx', h18', hpush⟩ := CA.push (x := (id, au, code, tok, m)) h (c' := u13)
  have en : nx' = nx := (nI_eq (by omega) (by omega)).mp (h18'.symm.trans h18)
  subst en
  refine hpush (by rw [eI, up_s]) (by rw [eI, up_k (by decide), up_s]) (fun q hq => ?_) (fun q hq => ?_) ?_ ?_ r13 (fun a h1 h2 h3 h4 => ?_)
  · rw [oI' _ (by omega), g11 _ (by omega) (by omega), e2, up_k hq]
  · rw [oI' _ (by omega), g11 _ (by omega) (by omega), e3, up_k hq]
  · rw [oI' _ (by omega), g11 _ (by omega) (by omega), e2, up_s]
  · rw [oI' _ (by omega), g11 _ (by omega) (by omega), e3, up_s]
  · rw [oI' _ (by omega), g11 _ h3 h4, o9 a (by omega) (by omega), g45 a (by omega)]
