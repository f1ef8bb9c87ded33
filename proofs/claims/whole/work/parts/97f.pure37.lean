/-! The pure part: the class's server takes a request -/
def acc (s : Int32) (f : List Int32) (tk : Int32) (pk : List Int32) : Prop := ∃ nm j, gR f nm tk (nI j) pk ∧ j < 2 ^ 31 ∧ aT f 0 = 1 ∧ ¬ nm = 0 ∧ mRow s (si (si f 3 (iA f 3)) j 0) = iA f j
theorem acc.uniq {s tk tk' : Int32} {f pk pk' : List Int32} (h : acc s f tk pk) (h' : acc s f tk' pk') : tk = tk' ∧ pk = pk' := by
  obtain ⟨nm, j, g, _⟩ := h
  obtain ⟨nm', j', g', _⟩ := h'
  obtain ⟨_, b, _, d⟩ := g.uniq g'
  exact ⟨b, d⟩
theorem sp_Sv_accepts {u : pj_M} {i : Nat} {s : Int32} {f : List Int32} {K : Int32 → pj_M → Prop} (hf : rw_ u 215 f) (hi : i + 28 < 213) (hs : u i 1 = s) (kt : ∀ tk pk F u', acc s f tk pk → rw_ u' (i + 5 + 1) F → aT F 1 = aT f 1 → rw_ u' (i + 5 + 3) pk → u' (i + 5) 3 = tk → u' (i + 5) 5 = iA f 3 → f5 (i + 5) u u' → K 1 u') (kf : (¬ ∃ tk pk, acc s f tk pk) → ∀ u', f5 (i + 5) u u' → K 0 u') : pw_Sv_accepts u i 215 K := by
  unfold pw_Sv_accepts pb_Sv_accepts_0
  have f48 := hf.2.1
  refine sp_Da_read hf (by omega) (fun nm tk pk j hg j2 j4 u1 d1 a5 a6 g1 => br_f (by decide) ?_) (fun hn u1 g1 => br_t rfl ⟨pj_bi0, kf (fun ⟨tk, pk, nm, j, z, _⟩ => hn ⟨nm, tk, _, pk, z⟩) u1 g1⟩)
  have f7 := hg.1
  have no : ∀ w, f5 (i + 5) u w → ¬ (aT f 0 = 1 ∧ ¬ nm = 0 ∧ mRow s (si (si f 3 (iA f 3)) j 0) = iA f j) → pb_Sv_accepts_57 K w := by
    intro w gw hno
    refine ⟨pj_bi0, kf (fun ⟨tk', pk', nm', j', z, zj, z1⟩ => ?_) w gw⟩
    obtain ⟨b1, b2, b3, b4⟩ := z.uniq hg
    have ej : j' = j := (nI_eq zj (by omega)).mp b3
    subst ej
    subst b1
    exact hno z1
  refine sp_Ro_at d1.1 0 rfl (by decide) (br_c (fun e0 => ?_) (fun e0 => no u1 g1 (fun z => e0 z.1)))
  have e0 : aT f 0 = 1 := e0
  unfold pb_Sv_accepts_22
  rw [d1.2.2.1]
  refine br_c (fun en => no u1 g1 (fun z => z.2.1 en)) (fun en => ?_)
  unfold pb_Sv_accepts_32
  rw [show u1 i 1 = s by rw [g1 i (by omega)]; exact hs, a5]
  refine sp_Da_isSealed d1.1 d1.2.2.2.2 a6 (by omega) (by omega) (fun u2 r2 g2 => ⟨fun em => br_f (by decide) ⟨pj_bi1, ?_⟩, fun em => br_t rfl (no u2 (g1.tr (f5.row g2)) (fun z => em z.2.2))⟩)
  have g12 := g1.tr (f5.row g2)
  refine kt tk pk _ u2 ⟨nm, j, hg, by omega, e0, en, em⟩ r2 ?_ (d1.2.1.keep (g2 _ (by omega) (by omega)) (g2 _ (by omega) (by omega))) ?_ ?_ g12
  · rw [aT_so (by rw [si_len, si_len]; omega) (by omega), aT_so (by rw [si_len]; omega) (by omega), aT_so (by omega) (by omega)]
  · rw [g2 (i + 5) (by omega) (by omega)]; exact d1.2.2.2.1
  · rw [g2 (i + 5) (by omega) (by omega)]; exact a5
theorem bmM_ok (x aw R : Int32) : bl (bmM x aw R) ∧ 3 ≤ (bmM x aw R).length ∧ (bmM x aw R).length ≤ 20 := by
  have b1 : ∀ t : Int32, t &&& 255 = t → bl (ph 1 aw t) := fun t ht => by
    rw [ph1]
    exact bl_cons (by decide) (bl_cons (and255 _) (bl_cons (by decide) (bl_cons ht bl_nil)))
  unfold bmM
  split
  · refine ⟨bl_pd (b1 4 (by decide)) (bl_b4 R) (by rw [ph1_len, b4_len]; decide), by rw [pd_len, ph1_len]; omega, by rw [pd_len, ph1_len, b4_len]; decide⟩
  · refine ⟨bl_pd (b1 51 (by decide)) (bl_cons (by decide) (bl_b4 R)) (by rw [ph1_len]; exact (by decide : 4 + 5 < 256)), by rw [pd_len, ph1_len]; omega, by rw [pd_len, ph1_len]; exact (by decide : 4 + 5 ≤ 20)⟩
theorem ph3 (i t : Int32) : ph 3 i t = [3, i &&& 255, 3] := if_pos (by decide)
theorem deR_m {U2 U3 : Nat → Int32} {sn bg rn : Int32} {pk : List Int32} {tk : Int32} {L L' : List (Nat → Int32)} {code tok : Int32} {m : List Int32} {bg' rn' : Int32} {n : Nat} (h : deR U2 U3 sn bg rn pk tk L L' code tok m bg' rn' n) : bl m ∧ 3 ≤ m.length ∧ m.length ≤ 20 := by
  match n, h with
  | 0, h =>
    obtain ⟨o, _, _, _, _, _, _, em, _⟩ := h
    rw [em, ph4]
    exact ⟨bl_cons (by decide) (bl_cons (and255 _) (bl_cons (by decide) bl_nil)), by simp, by simp⟩
  | 1, h =>
    obtain ⟨k, y, _, _, _, _, _, em, _⟩ := h
    rw [em, ph3]
    exact ⟨bl_cons (by decide) (bl_cons (and255 _) (bl_cons (by decide) bl_nil)), by simp, by simp⟩
  | 2, h =>
    obtain ⟨x, σ0, _, _, _, _, em, _⟩ := h
    rw [em]
    exact bmM_ok _ _ _
  | 3, h =>
    obtain ⟨k, y, x, _, _, _, _, _, em, _⟩ := h
    rw [em]
    exact bmM_ok _ _ _
  | 4, h =>
    obtain ⟨k, y, _, _, _, _, _, em, _⟩ := h
    rw [em]
    have b1 : bl (ph 1 (awN pk) 51) := by
      rw [ph1]
      exact bl_cons (by decide) (bl_cons (and255 _) (bl_cons (by decide) (bl_cons (by decide) bl_nil)))
    refine ⟨bl_pd b1 (bl_cons (by decide) (bl_b4 _)) (by rw [ph1_len]; exact (by decide : 4 + 5 < 256)), by rw [pd_len, ph1_len]; omega, by rw [pd_len, ph1_len]; exact (by decide : 4 + 5 ≤ 20)⟩
  | n + 5, h => exact absurd h (fun z => z)
def svS (i : Nat) (f : List Int32) (L : List (Nat → Int32)) (A : List aTy) (c c' : pj_M) (o : Option mT) : Nat → Prop
  | 0 => c i 13 = 0 ∧ (∀ a, i ≤ a → a ≤ i + 28 → c' a = c a) ∧ o = none
  | 1 => ¬ c i 13 = 0 ∧ (¬ ∃ tk pk, acc (c i 1) f tk pk) ∧ c' i = up (c i) 19 (c i 19 + 1) ∧ CS c' i L ∧ CA c' i (c i 1) A ∧ o = none
  | 2 => ¬ c i 13 = 0 ∧ (∃ tk pk, acc (c i 1) f tk pk) ∧ (∃ t, t < A.length ∧ (ag A t).1 = aT f 1 ∧ (ag A t).2.1 = iA f 3 ∧ o = some (3, c i 0, rA (c i 1) (ag A t))) ∧ c' i = c i ∧ CS c' i L ∧ CA c' i (c i 1) A
  | 3 => ¬ c i 13 = 0 ∧ ∃ tk pk n L' code tok m bg rn, acc (c i 1) f tk pk ∧ (∀ t, t < A.length → ¬ ((ag A t).1 = aT f 1 ∧ (ag A t).2.1 = iA f 3)) ∧ deR (c 2) (c 3) (c i 0) (c i 15) (c i 16) pk tk L L' code tok m bg rn n ∧ CS c' i L' ∧ CA c' i (c i 1) (A1 A (aT f 1, iA f 3, code, tok, m)) ∧ c' i 15 = bg ∧ c' i 16 = rn ∧ (∀ q, (q < 11 ∨ q = 13 ∨ 18 < q) → c' i q = c i q) ∧ o = some (3, c i 0, rO (c i 1) code (aT f 1) (iA f 3) tok m)
  | _ => False
def fSv (i : Nat) (u u' : pj_M) : Prop := ∀ a, (a < 4 ∨ 90 ≤ a) → (a < i ∨ i + 28 < a) → u' a = u a
theorem sp_Sv_takeRequest {u : pj_M} {i : Nat} {f : List Int32} {L : List (Nat → Int32)} {A : List aTy} {ms : List mT} {K : pj_M → Prop} (hi : i = 112 ∨ i = 141) (hf : rw_ u 215 f) (hm : mb u ms) (hC : CS u i L) (hU : ∀ k, k < L.length → ∃ y, y < 8 ∧ sg L k 1 = nI y) (hA : CA u i (u i 1) A) (k : ∀ n u' o, svS i f L A u u' o n → mb u' (om ms o) → fSv i u u' → K u') : pw_Sv_takeRequest u i 215 K := by
  have hi9 : 90 ≤ i := by omega
  have hi2 : i + 28 < 213 := by omega
  refine br_c (fun h => k 0 u none ⟨h, fun _ _ _ => rfl, rfl⟩ hm (fun _ _ _ => rfl)) (fun n13 => ?_)
  obtain ⟨ρ, C⟩ := hC
  have keepC : ∀ w, f5 (i + 5) u w → CSr w i ρ L := fun w g => C.keep (g _ (by omega)) (by rw [g i (by omega)]) (fun a h1 h2 => g a (by omega))
  have keepA : ∀ w, f5 (i + 5) u w → CA w i (u i 1) A := fun w g => hA.keep (by rw [g i (by omega)]) (by rw [g i (by omega)]) (g _ (by omega)) (g _ (by omega)) (fun a h1 h2 => g a (by omega))
  have keepM : ∀ w, f5 (i + 5) u w → mb w ms := fun w g => hm.keep (fun a h1 h2 _ _ => g a (by omega))
  unfold pb_Sv_takeRequest_8
  refine sp_Sv_accepts hf hi2 rfl (fun tk pk F u1 hacc hF F1 hp htk hau g1 => br_f (by decide) ?_) (fun hn u1 g1 => br_t rfl (pu ?_))
  rotate_left
  · refine k 1 _ none ⟨n13, hn, ?_, ⟨ρ, (keepC u1 g1).keep (ps_i (by omega)) (ps_k (by decide)) (fun a h1 h2 => ps_i (by omega))⟩, (keepA u1 g1).keep (ps_k (by decide)) (ps_k (by decide)) (ps_i (by omega)) (ps_i (by omega)) (fun a h1 h2 => ps_i (by omega)), rfl⟩ ((keepM u1 g1).keep (fun a h1 h2 _ _ => ps_i (by omega))) (fun a h1 h2 => (ps_i (by omega)).trans (g1 a (by omega)))
    rw [st_up, g1 i (by omega)]
  have ei : u1 i = u i := g1 i (by omega)
  unfold pb_Sv_takeRequest_27
  refine sp_Sv_slotOfRequest (keepA u1 g1) hF F1 hau (fun t q ht hq e1 e2 hr => br_f (fun z => ?_) ⟨v4 hq, ?_⟩) (fun hn => br_t rfl ?_)
  · exact nI_m1 (z := q) (by omega) z.symm
  · rw [c4 hq]
    refine sp_Ma_send (keepM u1 g1) hr (by omega) (fun u2 m2 g2 => ?_)
    have ei0 : u1 i 0 = u i 0 := by rw [ei]
    rw [ei0] at m2
    refine k 2 u2 _ ⟨n13, ⟨tk, pk, hacc⟩, ⟨t, ht, e1, e2, rfl⟩, (g2 i (by omega)).trans ei, ⟨ρ, (keepC u1 g1).keep (g2 _ (by omega)) (by rw [g2 i (by omega)]) (fun a h1 h2 => g2 a (by omega))⟩, (keepA u1 g1).keep (by rw [g2 i (by omega)]) (by rw [g2 i (by omega)]) (g2 _ (by omega)) (g2 _ (by omega)) (fun a h1 h2 => g2 a (by omega))⟩ m2 (fun a h1 h2 => (g2 a h1).trans (g1 a (by omega)))
  · unfold pb_Sv_takeRequest_37
    refine sp_Sv_decide hi9 (keepC u1 g1) hU hp htk (fun n L' code tok m bg rn u2 hD D => ?_)
    rw [g1 2 (by omega), g1 3 (by omega), ei] at hD
    obtain ⟨mb_, m3, m20⟩ := deR_m hD
    obtain ⟨d1, d2, d3, d4, d5, d6, d7, d8⟩ := D
    have A2 : CA u2 i (u i 1) A := (keepA u1 g1).keep (d7 17 (by decide) (by decide) (by decide) (by decide) (by decide)) (d7 18 (by decide) (by decide) (by decide) (by decide) (by decide)) (d8 _ (by omega) (by omega) (by omega) (by omega) (by omega)) (d8 _ (by omega) (by omega) (by omega) (by omega) (by omega)) (fun a h1 h2 => d8 a (by omega) (by omega) (by omega) (by omega) (by omega))
    refine sp_Sv_keepAnswer (au := iA f 3) A2 (hF.keep (d8 _ (by omega) (by omega) (by omega) (by omega) (by omega)) (d8 _ (by omega) (by omega) (by omega) (by omega) (by omega))) F1 (by rw [d8 _ (by omega) (by omega) (by omega) (by omega) (by omega)]; exact hau) (by rw [d7 1 (by decide) (by decide) (by decide) (by decide) (by decide), ei]) d2 d3 d4 m20 (fun q u3 hq A3 r3 e3 o3 => ⟨v4 hq, ?_⟩)
    rw [c4 hq]
    have m3' : mb u3 ms := (keepM u1 g1).keep (fun a h1 h2 _ _ => (o3 a (by omega) (by omega) (by omega) (by omega) (by omega)).trans (d8 a (by omega) (by omega) (by omega) (by omega) (by omega)))
    refine sp_Ma_send m3' r3 (by omega) (fun u4 m4 g4 => ?_)
    have z0 : u3 i 0 = u i 0 := by rw [e3 0 (by decide) (by decide), d7 0 (by decide) (by decide) (by decide) (by decide) (by decide), ei]
    rw [z0] at m4
    obtain ⟨ρ', C'⟩ := d1
    have C3 : CSr u3 i ρ' L' := C'.keep (o3 _ (by omega) (by omega) (by omega) (by omega) (by omega)) (e3 14 (by decide) (by decide)) (fun a h1 h2 => o3 a (by omega) (by omega) (by omega) (by omega) (by omega))
    refine k 3 u4 _ ⟨n13, tk, pk, n, L', code, tok, m, bg, rn, hacc, hn, hD, ⟨ρ', C3.keep (g4 _ (by omega)) (by rw [g4 i (by omega)]) (fun a h1 h2 => g4 a (by omega))⟩, A3.keep (by rw [g4 i (by omega)]) (by rw [g4 i (by omega)]) (g4 _ (by omega)) (g4 _ (by omega)) (fun a h1 h2 => g4 a (by omega)), ?_, ?_, fun q hq => ?_, rfl⟩ m4 (fun a h1 h2 => ?_)
    · rw [g4 i (by omega), e3 15 (by decide) (by decide)]; exact d5
    · rw [g4 i (by omega), e3 16 (by decide) (by decide)]; exact d6
    · rw [g4 i (by omega), e3 q (by omega) (by omega), d7 q (by omega) (by omega) (by omega) (by omega) (by omega), ei]
    · rw [g4 a h1, o3 a (by omega) (by omega) (by omega) (by omega) (by omega), d8 a (by omega) (by omega) (by omega) (by omega) (by omega), g1 a (by omega)]
