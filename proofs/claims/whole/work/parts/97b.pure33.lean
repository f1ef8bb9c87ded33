/-! The pure part: the class's server decides -/
theorem sp_Sv_openRequest {u : pj_M} {i r : Nat} {x : Int32} {pk : List Int32} {K : pj_M → Prop} (hr1 : i + 17 ≤ r) (hr2 : r ≤ i + 20) (hp : rw_ u (i + 5 + 3) pk) (k : ∀ u', u' i = up (up (u i) 11 11) 12 (u r 0) → u' r = up (u r) 4 ((aT pk 1 + 1) &&& 255) → rw_ u' (i + 15) [1, ((aT pk 1 + 1) &&& 255) &&& 255, 0, x &&& 255] → (∀ a, a ≠ i → a ≠ r → a ≠ i + 15 → a ≠ i + 16 → u' a = u a) → K u') : pw_Sv_openRequest u i r x K := by
  unfold pw_Sv_openRequest pb_Sv_openRequest_0
  refine pu (pu ?_)
  rw [ps_i (show r ≠ i by omega)]
  have o2 : ∀ a, a ≠ i → (pj_set (pj_set u i 11 11) i 12 (u r 0)) a = u a := fun a h => by rw [ps_i h, ps_i h]
  have e2 : (pj_set (pj_set u i 11 11) i 12 (u r 0)) i = up (up (u i) 11 11) 12 (u r 0) := by rw [st_up, st_up]
  generalize pj_set (pj_set u i 11 11) i 12 (u r 0) = u2 at o2 e2 ⊢
  refine sp_Pa_id (hp.keep (o2 _ (by omega)) (o2 _ (by omega))) (pu ?_)
  rw [ps_s]
  have o5 : ∀ a, a ≠ r → (pj_set u2 r 4 ((aT pk 1 + 1) &&& 255)) a = u2 a := fun a h => ps_i h
  have e5 : (pj_set u2 r 4 ((aT pk 1 + 1) &&& 255)) r = up (u r) 4 ((aT pk 1 + 1) &&& 255) := by rw [st_up, o2 r (by omega)]
  generalize pj_set u2 r 4 ((aT pk 1 + 1) &&& 255) = u5 at o5 e5 ⊢
  refine sp_Pa_open (fun u6 h6 g6 => k u6 ?_ ?_ h6 (fun a h1 h2 h3 h4 => (g6 a h3 h4).trans ((o5 a h2).trans (o2 a h1))))
  · rw [g6 i (by omega) (by omega), o5 i (by omega), e2]
  · rw [g6 r (by omega) (by omega), e5]
def bmS (σ : Nat → Int32) (x R aw : Int32) : Nat → Int32 := up (up (up (up σ 2 x) 3 (σ 3 ||| x)) 5 R) 4 aw
def bmM (x aw R : Int32) : List Int32 := if x = 1 then pd (ph 1 aw 4) (b4 R) else pd (ph 1 aw 51) (1 :: b4 R)
theorem op_pd1 {aw t : Int32} {ds : List Int32} (h : ds.length ≤ 40) : ([1, aw &&& 255, 0, t] ++ ds).set 2 (nI ([1, aw &&& 255, 0, t] ++ ds).length &&& 255) = pd (ph 1 aw t) ds := by
  rw [ph1]
  exact op_pd h
theorem sp_Sv_beginMethod {u : pj_M} {i r y : Nat} {x : Int32} {pk : List Int32} {K : pj_M → Prop} (hi : 90 ≤ i) (hr1 : i + 17 ≤ r) (hr2 : r ≤ i + 20) (hp : rw_ u (i + 5 + 3) pk) (hy : y < 8) (h1 : u r 1 = nI y) (k : ∀ u', u' i = up (up (up (u i) 16 (u i 16 + 1)) 11 11) 12 (u r 0) → u' r = bmS (u r) x (rnd (u 2 y) (u i 0) (u i 16)) ((aT pk 1 + 1) &&& 255) → rw_ u' (i + 15) (bmM x ((aT pk 1 + 1) &&& 255) (rnd (u 2 y) (u i 0) (u i 16))) → (∀ a, a ≠ i → a ≠ r → a ≠ i + 15 → a ≠ i + 16 → u' a = u a) → K u') : pw_Sv_beginMethod u i r x K := by
  unfold pw_Sv_beginMethod pb_Sv_beginMethod_0
  refine pu (pu ?_)
  rw [ps_k (show (3 : Nat) ≠ 2 by decide)]
  have o2 : ∀ a, a ≠ r → (pj_set (pj_set u r 2 x) r 3 (u r 3 ||| x)) a = u a := fun a h => by rw [ps_i h, ps_i h]
  have e2 : (pj_set (pj_set u r 2 x) r 3 (u r 3 ||| x)) r = up (up (u r) 2 x) 3 (u r 3 ||| x) := by rw [st_up, st_up]
  generalize pj_set (pj_set u r 2 x) r 3 (u r 3 ||| x) = u2 at o2 e2 ⊢
  have e21 : u2 r 1 = nI y := by rw [e2, up_k (by decide), up_k (by decide)]; exact h1
  rw [e21]
  refine ⟨v8 hy, sp_Di_random (pu (pu ?_))⟩
  rw [nI_clamp (show y < 2 ^ 31 by omega), o2 2 (by omega), o2 i (by omega)]
  generalize hR : rnd (u 2 y) (u i 0) (u i 16) = R at k ⊢
  rw [ps_i (show i ≠ r by omega), o2 i (by omega)]
  have o6 : ∀ a, a ≠ r → a ≠ i → (pj_set (pj_set u2 r 5 R) i 16 (u i 16 + 1)) a = u a := fun a h1 h2 => by rw [ps_i h2, ps_i h1, o2 a h1]
  have e6 : (pj_set (pj_set u2 r 5 R) i 16 (u i 16 + 1)) r = up (up (up (u r) 2 x) 3 (u r 3 ||| x)) 5 R := by rw [ps_i (by omega), st_up, e2]
  have d6 : (pj_set (pj_set u2 r 5 R) i 16 (u i 16 + 1)) i = up (u i) 16 (u i 16 + 1) := by rw [st_up, ps_i (by omega), o2 i (by omega)]
  generalize pj_set (pj_set u2 r 5 R) i 16 (u i 16 + 1) = u6 at o6 e6 d6 ⊢
  have z0 : u6 r 0 = u r 0 := by rw [e6, up_k (by decide), up_k (by decide), up_k (by decide)]
  have hp6 : rw_ u6 (i + 5 + 3) pk := hp.keep (o6 _ (by omega) (by omega)) (o6 _ (by omega) (by omega))
  refine br_c (fun e => ?_) (fun e => ?_)
  · refine sp_Sv_openRequest hr1 hr2 hp6 (fun u7 d7 e7 h7 g7 => ?_)
    rw [z0, d6] at d7
    rw [e6] at e7
    have e75 : u7 r 5 = R := by rw [e7, up_k (by decide), up_s]
    unfold pb_Sv_beginMethod_81
    rw [e75]
    refine sp_Ro_putInt h7 (by simp) (fun u8 h8 g8 => sp_Pa_setLength h8 (by simp) (fun u9 h9 g9 => ?_))
    have g := g8.tr g9
    refine k u9 ((g i (by omega) (by omega)).trans d7) ((g r (by omega) (by omega)).trans e7) ?_ (fun a h1 h2 h3 h4 => (g a h3 h4).trans ((g7 a h1 h2 h3 h4).trans (o6 a h2 h1)))
    unfold bmM
    rw [if_pos e, ← op_pd1 (by rw [b4_len]; decide)]
    exact h9
  · unfold pb_Sv_beginMethod_66
    refine sp_Sv_openRequest hr1 hr2 hp6 (fun u7 d7 e7 h7 g7 => ?_)
    rw [z0, d6] at d7
    rw [e6] at e7
    refine sp_Ro_put h7 (by simp) (fun u7' h7' g7' => ?_)
    have e75 : u7' r 5 = R := by rw [g7' r (by omega) (by omega), e7, up_k (by decide), up_s]
    unfold pb_Sv_beginMethod_81
    rw [e75]
    refine sp_Ro_putInt h7' (by simp) (fun u8 h8 g8 => sp_Pa_setLength h8 (by simp) (fun u9 h9 g9 => ?_))
    have g := g7'.tr (g8.tr g9)
    refine k u9 ((g i (by omega) (by omega)).trans d7) ((g r (by omega) (by omega)).trans e7) ?_ (fun a h1 h2 h3 h4 => (g a h3 h4).trans ((g7 a h1 h2 h3 h4).trans (o6 a h2 h1)))
    unfold bmM
    rw [if_neg e, ← op_pd1 (by simp [b4])]
    have e1 : (1 : Int32) &&& 255 = 1 := by decide
    have e51 : (51 : Int32) &&& 255 = 51 := by decide
    rw [e1, e51] at h9
    simpa [b4] using h9
def dO (L : List (Nat → Int32)) (o : Option Nat) : List (Nat → Int32) := match o with | none => L | some k => L.eraseIdx k
def oI (L : List (Nat → Int32)) (tk : Int32) (o : Option Nat) : Prop := match o with | none => ∀ t, t < L.length → ¬ sg L t 0 = tk | some k => k < L.length ∧ sg L k 0 = tk ∧ ∀ t, t < k → ¬ sg L t 0 = tk
/-- what a decision leaves: sessions, reply, counters -/
def dcP (i : Nat) (c c' : pj_M) (L' : List (Nat → Int32)) (code tok : Int32) (m : List Int32) (bg rn : Int32) : Prop := CS c' i L' ∧ c' i 11 = code ∧ c' i 12 = tok ∧ rw_ c' (i + 15) m ∧ c' i 15 = bg ∧ c' i 16 = rn ∧ (∀ q, q ≠ 11 → q ≠ 12 → q ≠ 14 → q ≠ 15 → q ≠ 16 → c' i q = c i q) ∧ ∀ a, a ≠ i → a ≠ i + 1 → a ≠ i + 15 → a ≠ i + 16 → (a < i + 17 ∨ i + 20 < a) → c' a = c a
theorem sp_Sv_finish {u : pj_M} {i : Nat} {x1 x2 : Int32} {o : Option Nat} {ρ : Nat → Nat} {L : List (Nat → Int32)} {pk : List Int32} {K : pj_M → Prop} (h : CSr u i ρ L) (ho : ∀ k, o = some k → k < L.length) (hp : rw_ u (i + 5 + 3) pk) (k : ∀ u', dcP i u u' (dO L o) x1 (-1) [x2 &&& 255, aT pk 1 &&& 255, 3] (u i 15) (u i 16) → K u') : pw_Sv_finish u i x1 x2 (o.map ρ) K := by
  unfold pw_Sv_finish pb_Sv_finish_0
  refine pu (pu ?_)
  have o2 : ∀ a, a ≠ i → (pj_set (pj_set u i 11 x1) i 12 (-1)) a = u a := fun a h => by rw [ps_i h, ps_i h]
  have e2 : (pj_set (pj_set u i 11 x1) i 12 (-1)) i = up (up (u i) 11 x1) 12 (-1) := by rw [st_up, st_up]
  generalize pj_set (pj_set u i 11 x1) i 12 (-1) = u2 at o2 e2 ⊢
  refine sp_Pa_id (hp.keep (o2 _ (by omega)) (o2 _ (by omega))) (sp_Pa_make (fun u3 h3 g3 => ?_))
  have e3 : u3 i = up (up (u i) 11 x1) 12 (-1) := (g3 i (by omega) (by omega)).trans e2
  have o3 : ∀ a, a ≠ i → a ≠ i + 15 → a ≠ i + 16 → u3 a = u a := fun a h1 h2 h3 => (g3 a h2 h3).trans (o2 a h1)
  have C3 : CSr u3 i ρ L := h.keep (o3 _ (by omega) (by omega) (by omega)) (by rw [e3, up_k (by decide), up_k (by decide)]) (fun a h1 h2 => o3 a (by omega) (by omega) (by omega))
  cases o with
  | none =>
    refine ⟨fun _ => k u3 ⟨⟨ρ, C3⟩, ?_, ?_, h3, ?_, ?_, fun q h1 h2 _ _ _ => ?_, fun a h1 _ h2 h3 _ => o3 a h1 h2 h3⟩, fun _ z => by cases z⟩
    · rw [e3, up_k (by decide), up_s]
    · rw [e3, up_s]
    · rw [e3, up_k (by decide), up_k (by decide)]
    · rw [e3, up_k (by decide), up_k (by decide)]
    · rw [e3, up_k h2, up_k h1]
  | some j =>
    refine ⟨fun z => (by cases z), fun i106 z => ?_⟩
    cases z
    have hj := ho j rfl
    have n4 := h.2.2.2.1
    refine ⟨h.T (by omega), sp_Sv_dropSession C3 hj (fun u4 C4 e4 o4 => k u4 ⟨C4, ?_, ?_, h3.keep (o4 _ (by omega) (by omega)) (o4 _ (by omega) (by omega)), ?_, ?_, fun q h1 h2 h3 _ _ => ?_, fun a h1 h2 h3 h4 _ => (o4 a h1 h2).trans (o3 a h1 h3 h4)⟩)⟩
    · rw [e4, e3, up_k (by decide), up_k (by decide), up_s]
    · rw [e4, e3, up_k (by decide), up_s]
    · rw [e4, e3, up_k (by decide), up_k (by decide), up_k (by decide)]
    · rw [e4, e3, up_k (by decide), up_k (by decide), up_k (by decide)]
    · rw [e4, e3, up_k h3, up_k h2, up_k h1]
