/-! The pure part: the class's server decides: its leaves -/
theorem CSr.set {c c' : pj_M} {i k : Nat} {ρ : Nat → Nat} {L : List (Nat → Int32)} {σ : Nat → Int32} (h : CSr c i ρ L) (hk : k < L.length) (h1 : c' (i + 1) = c (i + 1)) (h14 : c' i 14 = c i 14) (hσ : c' (ρ k) = σ) (ho : ∀ a, i + 17 ≤ a → a ≤ i + 20 → a ≠ ρ k → c' a = c a) : CSr c' i ρ (L.set k σ) := by
  obtain ⟨⟨a0, a1⟩, a2, a3, a4, a5⟩ := h
  refine ⟨⟨a0, fun t ht => ?_⟩, a2, by rw [h14, List.length_set]; exact a3, by rw [List.length_set]; exact a4, fun t ht => ?_⟩
  · rw [h1]; exact a1 t ht
  · rw [List.length_set] at ht
    rw [sg_set hk]
    by_cases c0 : t = k
    · rw [if_pos c0, c0]; exact hσ
    · rw [if_neg c0, ho _ (a1 t (by omega)).2.1 (a1 t (by omega)).2.2 (fun z => c0 (a2 _ _ (by omega) (by omega) z))]; exact a5 t ht
theorem CSr.push {c c' : pj_M} {i : Nat} {ρ : Nat → Nat} {L : List (Nat → Int32)} {σ : Nat → Int32} (h : CSr c i ρ L) (hk : L.length < 4) (h1 : c' (i + 1) = c (i + 1)) (h14 : c' i 14 = nI (L.length + 1)) (hσ : c' (ρ L.length) = σ) (ho : ∀ a, i + 17 ≤ a → a ≤ i + 20 → a ≠ ρ L.length → c' a = c a) : CSr c' i ρ (L ++ [σ]) := by
  obtain ⟨⟨a0, a1⟩, a2, a3, a4, a5⟩ := h
  have hl : (L ++ [σ]).length = L.length + 1 := by rw [List.length_append]; rfl
  refine ⟨⟨a0, fun t ht => ?_⟩, a2, by rw [h14, hl], by rw [hl]; omega, fun t ht => ?_⟩
  · rw [h1]; exact a1 t ht
  · rw [hl] at ht
    by_cases c0 : t = L.length
    · rw [c0, sg_hi]; exact hσ
    · rw [sg_lo (by omega), ho _ (a1 t (by omega)).2.1 (a1 t (by omega)).2.2 (fun z => c0 (a2 _ _ (by omega) (by omega) z))]; exact a5 t (by omega)
theorem sp_Us_knows {u : pj_M} {x : Int32} {K : Int32 → pj_M → Prop} (kt : ∀ y, y < 8 → x = nI y → ¬ u 3 y = 0 → K 1 u) (kf : (¬ ∃ y, y < 8 ∧ x = nI y ∧ ¬ u 3 y = 0) → K 0 u) : pw_Us_knows u x K := by
  refine br_c (fun hx => ⟨pj_bi0, kf (fun ⟨k, hk, e, _⟩ => by rw [e] at hx; exact nI_pos (by omega) hx)⟩) (fun hx => ?_)
  obtain ⟨k, hk, rfl⟩ := nI_of hx
  refine br_c (fun hy => ⟨pj_bi0, kf (fun ⟨j, hj, e, _⟩ => ?_)⟩) (fun hy => ?_)
  · have e2 := (nI_eq hk (by omega)).mp e
    exact nI_ge (a := k) (b := 8) (by omega) (by decide) hy
  · have k8 : k < 8 := Nat.lt_of_not_le (fun z => hy (nI_le (a := 8) z hk))
    refine ⟨v8 k8, ?_⟩
    rw [nI_clamp hk]
    refine br_c (fun e => ⟨pj_bi0, kf (fun ⟨j, hj, e', n⟩ => ?_)⟩) (fun e => ⟨pj_bi1, kt k k8 rfl e⟩)
    have e2 := (nI_eq hk (by omega)).mp e'
    rw [← e2] at n
    exact n e
def awN (pk : List Int32) : Int32 := (aT pk 1 + 1) &&& 255
def mtd (x : Int32) : Int32 := if x &&& 1 = 0 then 2 else 1
def nwS (σ : Nat → Int32) (x bg : Int32) : Nat → Int32 := up (up (up (up σ 0 (bg &&& 65535)) 1 x) 3 0) 7 0
def opC (U3 : Nat → Int32) (pk : List Int32) (x : Nat) : Prop := aT pk 0 = 2 ∧ aT pk 3 = 1 ∧ pk.length = 5 ∧ x < 8 ∧ aT pk 4 = nI x ∧ ¬ U3 x = 0
def okI (U2 : Nat → Int32) (S : Nat → Int32) (pk : List Int32) (y : Nat) : Prop := (aT pk 3 = 4 ∧ S 2 = 1 ∧ pk.length = 8 ∧ iA pk 4 = chal (aT pk 1) (U2 y) (S 5)) ∨ (aT pk 3 = 51 ∧ S 2 = 2 ∧ ¬ S 7 = 0 ∧ pk.length = 9 ∧ aT pk 4 = 4 ∧ iA pk 5 = mPrf (U2 y) 4 (S 5) (S 6))
def swI (U3 : Nat → Int32) (S : Nat → Int32) (pk : List Int32) (y : Nat) (x : Int32) : Prop := aT pk 3 = 3 ∧ pk.length = 5 ∧ ((aT pk 4 = 4 ∧ x = (U3 y &&& (S 3 ^^^ (-1))) &&& 1) ∨ (aT pk 4 = 51 ∧ x = (U3 y &&& (S 3 ^^^ (-1))) &&& 2)) ∧ ¬ x = 0
def fpI (U2 : Nat → Int32) (S : Nat → Int32) (pk : List Int32) (y : Nat) : Prop := aT pk 3 = 51 ∧ S 2 = 2 ∧ S 7 = 0 ∧ pk.length = 13 ∧ aT pk 4 = 2 ∧ iA pk 9 = mPrf (U2 y) 2 (S 5) (iA pk 5)
def fpS (S : Nat → Int32) (pk : List Int32) : Nat → Int32 := up (up (up S 6 (iA pk 5)) 7 1) 4 (awN pk)
def hvC (L : List (Nat → Int32)) (tk : Int32) (pk : List Int32) (k y : Nat) : Prop := oI L tk (some k) ∧ aT pk 0 = 2 ∧ ¬ aT pk 3 = 1 ∧ aT pk 1 = sg L k 4 ∧ y < 8 ∧ sg L k 1 = nI y
/-- a decision -/
def deR (U2 U3 : Nat → Int32) (sn bg rn : Int32) (pk : List Int32) (tk : Int32) (L L' : List (Nat → Int32)) (code tok : Int32) (m : List Int32) (bg' rn' : Int32) : Nat → Prop
  | 0 => ∃ o, oI L tk o ∧ (∀ x, ¬ opC U3 pk x) ∧ (∀ k y, o = some k → hvC L tk pk k y → ¬ okI U2 (sg L k) pk y ∧ (∀ x, ¬ swI U3 (sg L k) pk y x) ∧ ¬ fpI U2 (sg L k) pk y) ∧ L' = dO L o ∧ code = 3 ∧ tok = -1 ∧ m = ph 4 (aT pk 1) 0 ∧ bg' = bg ∧ rn' = rn
  | 1 => ∃ k y, hvC L tk pk k y ∧ okI U2 (sg L k) pk y ∧ L' = L.eraseIdx k ∧ code = 2 ∧ tok = -1 ∧ m = ph 3 (aT pk 1) 0 ∧ bg' = bg ∧ rn' = rn
  | 2 => ∃ x σ0, opC U3 pk x ∧ L' = (if L.length = 4 then L.eraseIdx 0 else L) ++ [bmS (nwS σ0 (nI x) bg) (mtd (U3 x)) (rnd (U2 x) sn rn) (awN pk)] ∧ code = 11 ∧ tok = bg &&& 65535 ∧ m = bmM (mtd (U3 x)) (awN pk) (rnd (U2 x) sn rn) ∧ bg' = bg + 1 ∧ rn' = rn + 1
  | 3 => ∃ k y x, hvC L tk pk k y ∧ swI U3 (sg L k) pk y x ∧ L' = L.set k (bmS (sg L k) x (rnd (U2 y) sn rn) (awN pk)) ∧ code = 11 ∧ tok = sg L k 0 ∧ m = bmM x (awN pk) (rnd (U2 y) sn rn) ∧ bg' = bg ∧ rn' = rn + 1
  | 4 => ∃ k y, hvC L tk pk k y ∧ fpI U2 (sg L k) pk y ∧ L' = L.set k (fpS (sg L k) pk) ∧ code = 11 ∧ tok = sg L k 0 ∧ m = pd (ph 1 (awN pk) 51) (3 :: b4 (mPrf (U2 y) 3 (iA pk 5) (sg L k 5))) ∧ bg' = bg ∧ rn' = rn
  | _ => False
theorem sp_Sv_44 {u : pj_M} {i x : Nat} {ρ : Nat → Nat} {L : List (Nat → Int32)} {pk : List Int32} {K : Int32 → pj_M → Prop} (hi : 90 ≤ i) (h : CSr u i ρ L) (hl : L.length < 4) (hp : rw_ u (i + 5 + 3) pk) (hx : x < 8) (k : ∀ σ0 u', dcP i u u' (L ++ [bmS (nwS σ0 (nI x) (u i 15)) (mtd (u 3 x)) (rnd (u 2 x) (u i 0) (u i 16)) (awN pk)]) 11 (u i 15 &&& 65535) (bmM (mtd (u 3 x)) (awN pk) (rnd (u 2 x) (u i 0) (u i 16))) (u i 15 + 1) (u i 16 + 1) → K 1 u') : pb_Sv_openSession_44 K u i (nI x) := by
  have hr := h.1.2 L.length hl
  unfold pb_Sv_openSession_44
  rw [h.2.2.1, nI_clamp (show L.length < 2 ^ 31 by omega), h.at hl, nI_1]
  refine ⟨v4 hl, plt ⟨h.T hl, pu (pu (pu (pu (pu (pu ⟨v8 hx, ?_⟩)))))⟩⟩
  rw [nI_clamp (show x < 2 ^ 31 by omega)]
  generalize hr' : ρ L.length = r at *
  have e15 : (pj_set u i 14 (nI (L.length + 1))) i 15 = u i 15 := ps_k (by decide)
  rw [e15]
  have e15' : (pj_set (pj_set u i 14 (nI (L.length + 1))) r 0 (u i 15 &&& 65535)) i 15 = u i 15 := by rw [ps_i (by omega)]; exact e15
  rw [e15']
  have o7 : ∀ a, a ≠ i → a ≠ r → (pj_set (pj_set (pj_set (pj_set (pj_set (pj_set u i 14 (nI (L.length + 1))) r 0 (u i 15 &&& 65535)) i 15 (u i 15 + 1)) r 1 (nI x)) r 3 0) r 7 0) a = u a := fun a h1 h2 => by rw [ps_i h2, ps_i h2, ps_i h2, ps_i h1, ps_i h2, ps_i h1]
  have d7 : (pj_set (pj_set (pj_set (pj_set (pj_set (pj_set u i 14 (nI (L.length + 1))) r 0 (u i 15 &&& 65535)) i 15 (u i 15 + 1)) r 1 (nI x)) r 3 0) r 7 0) i = up (up (u i) 14 (nI (L.length + 1))) 15 (u i 15 + 1) := by rw [ps_i (by omega), ps_i (by omega), ps_i (by omega), st_up, ps_i (by omega), st_up]
  have e7 : (pj_set (pj_set (pj_set (pj_set (pj_set (pj_set u i 14 (nI (L.length + 1))) r 0 (u i 15 &&& 65535)) i 15 (u i 15 + 1)) r 1 (nI x)) r 3 0) r 7 0) r = nwS (u r) (nI x) (u i 15) := by
    rw [st_up, st_up, st_up, ps_i (by omega), st_up, ps_i (by omega)]; rfl
  generalize pj_set (pj_set (pj_set (pj_set (pj_set (pj_set u i 14 (nI (L.length + 1))) r 0 (u i 15 &&& 65535)) i 15 (u i 15 + 1)) r 1 (nI x)) r 3 0) r 7 0 = u7 at o7 d7 e7 ⊢
  have fin : pb_Sv_openSession_121 K u7 (mtd (u 3 x)) r i := by
    refine sp_Sv_beginMethod (y := x) hi hr.2.1 hr.2.2 (hp.keep (o7 _ (by omega) (by omega)) (o7 _ (by omega) (by omega))) hx (by rw [e7]; rfl) (fun u8 d8 e8 h8 g8 => ?_)
    have z0 : u7 r 0 = u i 15 &&& 65535 := by rw [e7]; rfl
    have zi0 : u7 i 0 = u i 0 := by rw [d7, up_k (by decide), up_k (by decide)]
    have zi16 : u7 i 16 = u i 16 := by rw [d7, up_k (by decide), up_k (by decide)]
    rw [z0, d7, up_k (show (16 : Nat) ≠ 15 by decide), up_k (show (16 : Nat) ≠ 14 by decide)] at d8
    rw [e7, zi0, zi16, o7 2 (by omega) (by omega)] at e8
    rw [zi0, zi16, o7 2 (by omega) (by omega)] at h8
    refine k (u r) u8 ⟨⟨ρ, CSr.push h hl ?_ ?_ (by rw [hr']; exact e8) (fun a h1 h2 h3 => ?_)⟩, ?_, ?_, h8, ?_, ?_, fun q h1 h2 h3 h4 h5 => ?_, fun a h1 _ h3 h4 h5 => ?_⟩
    · rw [g8 _ (by omega) (by omega) (by omega) (by omega), o7 _ (by omega) (by omega)]
    · rw [d8, up_k (by decide), up_k (by decide), up_k (by decide), up_k (by decide), up_s]
    · rw [hr'] at h3
      rw [g8 _ (by omega) h3 (by omega) (by omega), o7 _ (by omega) h3]
    · rw [d8, up_k (by decide), up_s]
    · rw [d8, up_s]
    · rw [d8, up_k (by decide), up_k (by decide), up_k (by decide), up_s]
    · rw [d8, up_k (by decide), up_k (by decide), up_s]
    · rw [d8, up_k h2, up_k h1, up_k h5, up_k h4, up_k h3]
    · rw [g8 a h1 (by omega) h3 h4, o7 a h1 (by omega)]
  rw [o7 3 (by omega) (by omega)]
  refine br_c (fun e => ?_) (fun e => ?_)
  · have : mtd (u 3 x) = 2 := if_pos e
    rw [this] at fin
    exact fin
  · have : mtd (u 3 x) = 1 := if_neg e
    rw [this] at fin
    exact fin
theorem sp_Sv_openSession {u : pj_M} {i : Nat} {ρ : Nat → Nat} {L : List (Nat → Int32)} {pk : List Int32} {K : Int32 → pj_M → Prop} (hi : 90 ≤ i) (h : CSr u i ρ L) (hp : rw_ u (i + 5 + 3) pk) (kf : (¬ ∃ x, pk.length = 5 ∧ x < 8 ∧ aT pk 4 = nI x ∧ ¬ u 3 x = 0) → K 0 u) (k : ∀ x σ0 u', (pk.length = 5 ∧ x < 8 ∧ aT pk 4 = nI x ∧ ¬ u 3 x = 0) → dcP i u u' ((if L.length = 4 then L.eraseIdx 0 else L) ++ [bmS (nwS σ0 (nI x) (u i 15)) (mtd (u 3 x)) (rnd (u 2 x) (u i 0) (u i 16)) (awN pk)]) 11 (u i 15 &&& 65535) (bmM (mtd (u 3 x)) (awN pk) (rnd (u 2 x) (u i 0) (u i 16))) (u i 15 + 1) (u i 16 + 1) → K 1 u') : pw_Sv_openSession u i (i + 5 + 3) K := by
  have h48 := hp.2.1
  have n4 := h.2.2.2.1
  unfold pw_Sv_openSession pb_Sv_openSession_0
  refine sp_Pa_firstData hp (sp_Pa_dataSize hp (br_c (fun e => ?_) (fun e => kf (fun ⟨x, z, _⟩ => e ((pk_dsz (n := 1) h48 (by decide)).mpr z)))))
  have h5 : pk.length = 5 := (pk_dsz (n := 1) h48 (by decide)).mp e
  refine sp_Us_knows (fun x hx ex nx => br_f (by decide) ?_) (fun hn => br_t rfl (kf (fun ⟨x, _, a, b, c⟩ => hn ⟨x, a, b, c⟩)))
  rw [ex]
  unfold pb_Sv_openSession_26
  rw [h.2.2.1]
  refine br_c (fun e4 => ⟨v4 (by decide : 0 < 4), ?_⟩) (fun e4 => ?_)
  · have hl4 : L.length = 4 := (nI_e 4 (by omega) (by decide)).mp e4
    rw [show (0 : Int32).toNatClampNeg = 0 from rfl, h.at (by decide : 0 < 4)]
    refine plt ⟨h.T (by decide), sp_Sv_dropSession h (by omega) (fun u1 C1 e1 o1 => ?_)⟩
    obtain ⟨ρ1, C1⟩ := C1
    have hlen : (L.eraseIdx 0).length = L.length - 1 := List.length_eraseIdx_of_lt (by omega)
    have q : ∀ q, q ≠ 14 → u1 i q = u i q := fun q hq => by rw [e1, up_k hq]
    refine sp_Sv_44 hi C1 (by omega) (hp.keep (o1 _ (by omega) (by omega)) (o1 _ (by omega) (by omega))) hx (fun σ0 u' D => k x σ0 u' ⟨h5, hx, ex, nx⟩ ?_)
    rw [q 15 (by decide), q 16 (by decide), q 0 (by decide), o1 2 (by omega) (by omega), o1 3 (by omega) (by omega)] at D
    rw [if_pos hl4]
    obtain ⟨d1, d2, d3, d4, d5, d6, d7, d8⟩ := D
    exact ⟨d1, d2, d3, d4, d5, d6, fun t h1 h2 h3 h4 h5 => (d7 t h1 h2 h3 h4 h5).trans (q t h3), fun a h1 h2 h3 h4 h5 => (d8 a h1 h2 h3 h4 h5).trans (o1 a h1 h2)⟩
  · have hl4 : ¬ L.length = 4 := fun z => e4 (by rw [z]; rfl)
    refine sp_Sv_44 hi h (by omega) hp hx (fun σ0 u' D => k x σ0 u' ⟨h5, hx, ex, nx⟩ ?_)
    rw [if_neg hl4]
    exact D
