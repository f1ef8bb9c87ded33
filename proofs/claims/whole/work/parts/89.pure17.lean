/-! The pure part: a host of the class takes a frame -/
def om (ms : List mT) (o : Option mT) : List mT := match o with | none => ms | some x => ad ms x
def b4 (v : Int32) : List Int32 := [y3 v, y2 v, y1 v, y0 v]
theorem b4_len (v : Int32) : (b4 v).length = 4 := rfl
theorem ph2 (i t : Int32) : ph 2 i t = [2, i &&& 255, 4, t] := if_neg (by decide)
theorem ph1 (i t : Int32) : ph 1 i t = [1, i &&& 255, 4, t] := if_neg (by decide)
theorem op_pd {c i t : Int32} {ds : List Int32} (h : ds.length ≤ 40) : ([c, i &&& 255, 0, t] ++ ds).set 2 (nI ([c, i &&& 255, 0, t] ++ ds).length &&& 255) = pd [c, i &&& 255, 4, t] ds := by
  have e : ([c, i &&& 255, 0, t] ++ ds).length = 4 + ds.length := by simp; omega
  rw [e, b255 _ (by omega)]
  rfl
def keep3 (i : Nat) (c c' : pj_M) : Prop := c' (i + 3) = c (i + 3) ∧ c' (i + 4) = c (i + 4)
def hoQ (i : Nat) (f : List Int32) (c : pj_M) : Prop := ¬ c i 4 = -1 ∧ ¬ fS f ∧ fP f ∧ aT (f.drop 1) 0 = 1 ∧ (c i 7 = 0 ∨ ∃ la, rw_ c (i + 3) la ∧ ¬ aT la 1 = aT (f.drop 1) 1)
def hoA (i : Nat) (c e c' : pj_M) (o : Option mT) (L : List Int32) : Prop := c' i = (pj_set e i 7 1) i ∧ rw_ c' (i + 3) L ∧ o = some (0, c i 0, 0 :: L)
def hoE7 (i : Nat) (c : pj_M) (pk : List Int32) : pj_M := pj_set (pj_set (pj_set (pj_set (pj_set c i 11 0) i 9 (iA pk 5)) i 8 1) i 10 (rnd (c i 5) (c i 0) (c i 13))) i 13 (c i 13 + 1)
def hoN (i : Nat) (c : pj_M) (pk : List Int32) : Prop := (¬ aT pk 3 = 1 ∧ ¬ aT pk 3 = 4 ∧ ¬ aT pk 3 = 51) ∨ (aT pk 3 = 4 ∧ ¬ c i 6 &&& 1 = 0 ∧ ¬ pk.length = 8) ∨ (aT pk 3 = 51 ∧ ¬ c i 6 &&& 2 = 0 ∧ (¬ pk.length = 9 ∨ (pk.length = 9 ∧ ¬ aT pk 4 = 1 ∧ (¬ aT pk 4 = 3 ∨ c i 8 = 0 ∨ ¬ iA pk 5 = mPrf (c i 5) 3 (c i 10) (c i 9)))))
/-- the host i takes the frame f: from c to c', the message o goes out -/
def hoS (i : Nat) (f : List Int32) (c c' : pj_M) (o : Option mT) : Nat → Prop
  | 0 => c i 4 = -1 ∧ c' i = c i ∧ keep3 i c c' ∧ o = none
  | 1 => ¬ c i 4 = -1 ∧ fS f ∧ c' i = c i ∧ keep3 i c c' ∧ o = none
  | 2 => ¬ c i 4 = -1 ∧ ¬ fS f ∧ ¬ fP f ∧ c' i = (pj_set c i 14 (c i 14 + 1)) i ∧ keep3 i c c' ∧ o = none
  | 3 => ¬ c i 4 = -1 ∧ ¬ fS f ∧ fP f ∧ aT (f.drop 1) 0 = 1 ∧ ¬ c i 7 = 0 ∧ (∃ la, rw_ c (i + 3) la ∧ aT la 1 = aT (f.drop 1) 1 ∧ o = some (0, c i 0, 0 :: la)) ∧ c' i = (pj_set c i 7 1) i ∧ keep3 i c c'
  | 4 => hoQ i f c ∧ aT (f.drop 1) 3 = 1 ∧ hoA i c (pj_set c i 11 0) c' o (pd (ph 2 (aT (f.drop 1) 1) 1) [c i 4 &&& 255])
  | 5 => hoQ i f c ∧ ((aT (f.drop 1) 3 = 4 ∧ c i 6 &&& 1 = 0) ∨ (aT (f.drop 1) 3 = 51 ∧ c i 6 &&& 2 = 0)) ∧ ((¬ c i 6 &&& 1 = 0 ∧ hoA i c c c' o (pd (ph 2 (aT (f.drop 1) 1) 3) [4])) ∨ (c i 6 &&& 1 = 0 ∧ ¬ c i 6 &&& 2 = 0 ∧ hoA i c c c' o (pd (ph 2 (aT (f.drop 1) 1) 3) [51])) ∨ (c i 6 &&& 1 = 0 ∧ c i 6 &&& 2 = 0 ∧ hoA i c c c' o (pd (ph 2 (aT (f.drop 1) 1) 3) [0])))
  | 6 => hoQ i f c ∧ aT (f.drop 1) 3 = 4 ∧ ¬ c i 6 &&& 1 = 0 ∧ (f.drop 1).length = 8 ∧ hoA i c (pj_set c i 11 1) c' o (pd (ph 2 (aT (f.drop 1) 1) 4) (b4 (chal (aT (f.drop 1) 1) (c i 5) (iA (f.drop 1) 4))))
  | 7 => hoQ i f c ∧ aT (f.drop 1) 3 = 51 ∧ ¬ c i 6 &&& 2 = 0 ∧ (f.drop 1).length = 9 ∧ aT (f.drop 1) 4 = 1 ∧ hoA i c (hoE7 i c (f.drop 1)) c' o (pd (ph 2 (aT (f.drop 1) 1) 51) (2 :: (b4 (rnd (c i 5) (c i 0) (c i 13)) ++ b4 (mPrf (c i 5) 2 (iA (f.drop 1) 5) (rnd (c i 5) (c i 0) (c i 13))))))
  | 8 => hoQ i f c ∧ aT (f.drop 1) 3 = 51 ∧ ¬ c i 6 &&& 2 = 0 ∧ (f.drop 1).length = 9 ∧ aT (f.drop 1) 4 = 3 ∧ ¬ c i 8 = 0 ∧ iA (f.drop 1) 5 = mPrf (c i 5) 3 (c i 10) (c i 9) ∧ hoA i c (pj_set c i 11 1) c' o (pd (ph 2 (aT (f.drop 1) 1) 51) (4 :: b4 (mPrf (c i 5) 4 (c i 9) (c i 10))))
  | 9 => hoQ i f c ∧ hoN i c (f.drop 1) ∧ c' i = c i ∧ keep3 i c c' ∧ o = none
  | 10 => ¬ c i 4 = -1 ∧ ¬ fS f ∧ fP f ∧ aT (f.drop 1) 0 = 2 ∧ c' i = c i ∧ keep3 i c c' ∧ o = none
  | 11 => ¬ c i 4 = -1 ∧ ¬ fS f ∧ fP f ∧ aT (f.drop 1) 0 = 3 ∧ c i 11 = 0 ∧ c' i = (pj_set c i 12 (c i 12)) i ∧ keep3 i c c' ∧ o = none
  | 12 => ¬ c i 4 = -1 ∧ ¬ fS f ∧ fP f ∧ aT (f.drop 1) 0 = 3 ∧ ¬ c i 11 = 0 ∧ c' i = (pj_set c i 12 1) i ∧ keep3 i c c' ∧ o = none
  | 13 => ¬ c i 4 = -1 ∧ ¬ fS f ∧ fP f ∧ aT (f.drop 1) 0 = 4 ∧ c' i = (pj_set (pj_set c i 12 2) i 11 0) i ∧ keep3 i c c' ∧ o = none
  | _ => False
theorem f5.of3 {i : Nat} {u v : pj_M} (h : f2 (i + 3) u v) : v i = u i ∧ v (i + 1) = u (i + 1) ∧ v (i + 2) = u (i + 2) := ⟨h _ (by omega) (by omega), h _ (by omega) (by omega), h _ (by omega) (by omega)⟩
theorem sp_Ho_isRepeated {u : pj_M} {i : Nat} {pk : List Int32} {K : Int32 → pj_M → Prop} (hl : ¬ u i 7 = 0 → ∃ la, rw_ u (i + 3) la) (hp : rw_ u (i + 1) pk) (kt : ¬ u i 7 = 0 → ∀ la, rw_ u (i + 3) la → aT la 1 = aT pk 1 → K 1 u) (kf : (u i 7 = 0 ∨ ∃ la, rw_ u (i + 3) la ∧ ¬ aT la 1 = aT pk 1) → K 0 u) : pw_Ho_isRepeated u i K := by
  refine br_c (fun h => ⟨pj_bi0, kf (Or.inl h)⟩) (fun h => ?_)
  obtain ⟨la, hla⟩ := hl h
  refine sp_Pa_id hla (sp_Pa_id hp (br_c (fun e => ⟨pj_bi1, kt h la hla e⟩) (fun e => ⟨pj_bi0, kf (Or.inr ⟨la, hla, e⟩)⟩)))
theorem pk_dsz {l : List Int32} {n : Nat} (hl : l.length ≤ 48) (hn : n ≤ 40) : nI l.length - 3 - 1 = nI n ↔ l.length = n + 4 := by
  constructor
  · intro h
    have h2 : nI l.length = nI (n + 4) := by
      have e : nI l.length = (nI l.length - 3 - 1) + 4 := by
        apply Int32.toBitVec_inj.mp
        simp only [Int32.toBitVec_add, Int32.toBitVec_sub]
        have e3 : (3 : Int32).toBitVec = 3#32 := rfl
        have e1 : (1 : Int32).toBitVec = 1#32 := rfl
        have e4 : (4 : Int32).toBitVec = 4#32 := rfl
        rw [e3, e1, e4]
        generalize (nI l.length).toBitVec = x
        apply BitVec.eq_of_toNat_eq
        simp only [BitVec.toNat_add, BitVec.toNat_sub, BitVec.toNat_ofNat]
        have := x.isLt
        omega
      rw [e, h]
      exact nI_add n 4
    exact (nI_eq (by omega) (by omega)).mp h2
  · intro h
    rw [h, show (3 : Int32) = nI 3 from rfl, pk_sub (by omega), show (1 : Int32) = nI 1 from rfl, pk_sub (by omega)]
    congr 1
theorem sp_Ho_tellUser {u : pj_M} {i : Nat} {pk : List Int32} {K : Int32 → pj_M → Prop} (hp : rw_ u (i + 1) pk) (k : ∀ u', u' i = (pj_set u i 11 0) i → rw_ u' (i + 3) (pd (ph 2 (aT pk 1) 1) [u i 4 &&& 255]) → f5 i u u' → K 1 u') : pw_Ho_tellUser u i K := by
  unfold pw_Ho_tellUser pb_Ho_tellUser_0
  refine pu (sp_Pa_id (hp.keep (ps_i (by omega)) (ps_i (by omega))) (sp_Pa_open (fun u2 h2 g2 => ?_)))
  have e4 : u2 i 4 = u i 4 := by rw [(f5.of3 g2).1, ps_k (by decide)]
  rw [e4]
  refine sp_Ro_put h2 (by simp) (fun u3 h3 g3 => sp_Pa_setLength h3 (by simp) (fun u4 h4 g4 => ?_))
  have g := g2.tr (g3.tr g4)
  refine k u4 (f5.of3 g).1 ?_ (f5.set.tr (f5.pkt g))
  rw [ph2, ← op_pd (by simp)]
  exact h4
theorem sp_Ho_refuse {u : pj_M} {i : Nat} {pk : List Int32} {K : Int32 → pj_M → Prop} (hp : rw_ u (i + 1) pk) (k : ∀ u' x, ((¬ u i 6 &&& 1 = 0 ∧ x = 4) ∨ (u i 6 &&& 1 = 0 ∧ ¬ u i 6 &&& 2 = 0 ∧ x = 51) ∨ (u i 6 &&& 1 = 0 ∧ u i 6 &&& 2 = 0 ∧ x = 0)) → u' i = u i → rw_ u' (i + 3) (pd (ph 2 (aT pk 1) 3) [x]) → f5 i u u' → K 1 u') : pw_Ho_refuse u i K := by
  refine sp_Pa_id hp (sp_Pa_open (fun u2 h2 g2 => ?_))
  have e6 : u2 i = u i := (f5.of3 g2).1
  have fin : ∀ x : Int32, x &&& 255 = x → ((¬ u i 6 &&& 1 = 0 ∧ x = 4) ∨ (u i 6 &&& 1 = 0 ∧ ¬ u i 6 &&& 2 = 0 ∧ x = 51) ∨ (u i 6 &&& 1 = 0 ∧ u i 6 &&& 2 = 0 ∧ x = 0)) → pw_Ro_put u2 (i + 3) x fun u1 => (pb_Ho_refuse_58 K u1 i) := by
    intro x hx hc
    refine sp_Ro_put h2 (by simp) (fun u3 h3 g3 => sp_Pa_setLength h3 (by simp) (fun u4 h4 g4 => ?_))
    have g := g2.tr (g3.tr g4)
    refine k u4 x hc (f5.of3 g).1 ?_ (f5.pkt g)
    rw [ph2, ← op_pd (by simp)]
    rw [hx] at h4
    exact h4
  refine br_c (fun h => ?_) (fun h => ?_)
  · rw [e6] at h
    refine br_c (fun h' => ?_) (fun h' => ?_)
    · rw [e6] at h'
      exact fin 0 (by decide) (Or.inr (Or.inr ⟨h, h', rfl⟩))
    · rw [e6] at h'
      exact fin 51 (by decide) (Or.inr (Or.inl ⟨h, h', rfl⟩))
  · rw [e6] at h
    exact fin 4 (by decide) (Or.inl ⟨h, rfl⟩)
theorem sp_Ho_meetChallenge {u : pj_M} {i : Nat} {pk : List Int32} {K : Int32 → pj_M → Prop} (hp : rw_ u (i + 1) pk) (kf : ¬ pk.length = 8 → K 0 u) (k : pk.length = 8 → ∀ u', u' i = (pj_set u i 11 1) i → rw_ u' (i + 3) (pd (ph 2 (aT pk 1) 4) (b4 (chal (aT pk 1) (u i 5) (iA pk 4)))) → f5 i u u' → K 1 u') : pw_Ho_meetChallenge u i K := by
  have h48 := hp.2.1
  unfold pw_Ho_meetChallenge pb_Ho_meetChallenge_0
  refine sp_Pa_dataSize hp (br_c (fun h => ?_) (fun h => ?_))
  rotate_left
  · exact kf (fun z => h ((pk_dsz (n := 4) h48 (by decide)).mpr z))
  have h8 : pk.length = 8 := (pk_dsz (n := 4) h48 (by decide)).mp h
  have hp1 : rw_ (pj_set u i 11 1) (i + 1) pk := hp.keep (ps_i (by omega)) (ps_i (by omega))
  unfold pb_Ho_meetChallenge_13
  refine pu (sp_Pa_id hp1 (sp_Pa_open (fun u2 h2 g2 => ?_)))
  have hp2 : rw_ u2 (i + 1) pk := hp1.keep (f5.of3 g2).2.1 (f5.of3 g2).2.2
  refine sp_Pa_id hp2 (sp_Pa_dataIntAt hp2 0 rfl (by decide) (sp_Di_challengeResponse ?_))
  have e5 : u2 i 5 = u i 5 := by rw [(f5.of3 g2).1, ps_k (by decide)]
  rw [e5]
  refine sp_Ro_putInt h2 (by simp) (fun u3 h3 g3 => sp_Pa_setLength h3 (by simp) (fun u4 h4 g4 => ?_))
  have g := g2.tr (g3.tr g4)
  refine k h8 u4 (f5.of3 g).1 ?_ (f5.set.tr (f5.pkt g))
  rw [ph2, ← op_pd (by simp [b4])]
  exact h4
theorem sp_Ho_answerRandom {u : pj_M} {i : Nat} {pk : List Int32} {K : Int32 → pj_M → Prop} (hp : rw_ u (i + 1) pk) (kf : (¬ pk.length = 9 ∨ (pk.length = 9 ∧ ¬ aT pk 4 = 1)) → K 0 u) (k : pk.length = 9 → aT pk 4 = 1 → ∀ u', u' i = (hoE7 i u pk) i → rw_ u' (i + 3) (pd (ph 2 (aT pk 1) 51) (2 :: (b4 (rnd (u i 5) (u i 0) (u i 13)) ++ b4 (mPrf (u i 5) 2 (iA pk 5) (rnd (u i 5) (u i 0) (u i 13)))))) → f5 i u u' → K 1 u') : pw_Ho_answerRandom u i K := by
  have h48 := hp.2.1
  unfold pw_Ho_answerRandom pb_Ho_answerRandom_0
  refine sp_Pa_dataSize hp (br_c (fun h => ?_) (fun h => ?_))
  rotate_left
  · exact kf (Or.inl (fun z => h ((pk_dsz (n := 5) h48 (by decide)).mpr z)))
  have h9 : pk.length = 9 := (pk_dsz (n := 5) h48 (by decide)).mp h
  refine sp_Pa_firstData hp (br_c (fun h1 => ?_) (fun h1 => kf (Or.inr ⟨h9, h1⟩)))
  have hp1 : rw_ (pj_set u i 11 0) (i + 1) pk := hp.keep (ps_i (by omega)) (ps_i (by omega))
  unfold pb_Ho_answerRandom_24
  refine pu (sp_Pa_dataIntAt hp1 1 rfl (by decide) (pu (pu (sp_Di_random (pu (pu ?_))))))
  have hE : pj_set (pj_set (pj_set (pj_set (pj_set u i 11 0) i 9 (iA pk (4 + 1))) i 8 1) i 10 (rnd ((pj_set (pj_set (pj_set u i 11 0) i 9 (iA pk (4 + 1))) i 8 1) i 5) ((pj_set (pj_set (pj_set u i 11 0) i 9 (iA pk (4 + 1))) i 8 1) i 0) ((pj_set (pj_set (pj_set u i 11 0) i 9 (iA pk (4 + 1))) i 8 1) i 13))) i 13 ((pj_set (pj_set (pj_set (pj_set u i 11 0) i 9 (iA pk (4 + 1))) i 8 1) i 10 (rnd ((pj_set (pj_set (pj_set u i 11 0) i 9 (iA pk (4 + 1))) i 8 1) i 5) ((pj_set (pj_set (pj_set u i 11 0) i 9 (iA pk (4 + 1))) i 8 1) i 0) ((pj_set (pj_set (pj_set u i 11 0) i 9 (iA pk (4 + 1))) i 8 1) i 13))) i 13 + 1) = hoE7 i u pk := by
    unfold hoE7
    have r : ∀ n : Nat, n ≠ 11 → n ≠ 9 → n ≠ 8 → (pj_set (pj_set (pj_set u i 11 0) i 9 (iA pk (4 + 1))) i 8 1) i n = u i n := fun n h1 h2 h3 => by rw [ps_k h3, ps_k h2, ps_k h1]
    rw [r 5 (by decide) (by decide) (by decide), r 0 (by decide) (by decide) (by decide), r 13 (by decide) (by decide) (by decide), ps_k (show (13 : Nat) ≠ 10 by decide), r 13 (by decide) (by decide) (by decide)]
  rw [hE]
  have eo : ∀ a, a ≠ i → hoE7 i u pk a = u a := fun a ha => by unfold hoE7; rw [ps_i ha, ps_i ha, ps_i ha, ps_i ha, ps_i ha]
  have e10 : hoE7 i u pk i 10 = rnd (u i 5) (u i 0) (u i 13) := by unfold hoE7; rw [ps_k (by decide), ps_s]
  have e9 : hoE7 i u pk i 9 = iA pk 5 := by unfold hoE7; rw [ps_k (by decide), ps_k (by decide), ps_k (by decide), ps_s]
  have e5 : hoE7 i u pk i 5 = u i 5 := by unfold hoE7; rw [ps_k (by decide), ps_k (by decide), ps_k (by decide), ps_k (by decide), ps_k (by decide)]
  generalize hoE7 i u pk = w at *
  have hp2 : rw_ w (i + 1) pk := hp.keep (eo _ (by omega)) (eo _ (by omega))
  refine sp_Pa_id hp2 (sp_Pa_open (fun u2 h2 g2 => sp_Ro_put h2 (by simp) (fun u3 h3 g3 => ?_)))
  have g23 := g2.tr g3
  rw [(f5.of3 g23).1, e10]
  refine sp_Ro_putInt h3 (by simp) (fun u4 h4 g4 => ?_)
  have g24 := g23.tr g4
  rw [(f5.of3 g24).1, e10, e9, e5]
  refine sp_Di_macOfProof (sp_Ro_putInt h4 (by simp) (fun u5 h5 g5 => sp_Pa_setLength h5 (by simp) (fun u6 h6 g6 => ?_)))
  have g := g24.tr (g5.tr g6)
  refine k h9 h1 u6 (f5.of3 g).1 ?_ (f5.tr (fun a ha => eo a (by omega)) (f5.pkt g))
  rw [ph2, ← op_pd (by simp [b4])]
  have e2 : (2 : Int32) &&& 255 = 2 := by decide
  have e51 : (51 : Int32) &&& 255 = 51 := by decide
  rw [e2, e51] at h6
  simpa [b4] using h6
theorem sp_Ho_answerProof {u : pj_M} {i : Nat} {pk : List Int32} {K : Int32 → pj_M → Prop} (hp : rw_ u (i + 1) pk) (kf : (¬ pk.length = 9 ∨ (¬ aT pk 4 = 3 ∨ u i 8 = 0 ∨ ¬ iA pk 5 = mPrf (u i 5) 3 (u i 10) (u i 9))) → K 0 u) (k : pk.length = 9 → aT pk 4 = 3 → ¬ u i 8 = 0 → iA pk 5 = mPrf (u i 5) 3 (u i 10) (u i 9) → ∀ u', u' i = (pj_set u i 11 1) i → rw_ u' (i + 3) (pd (ph 2 (aT pk 1) 51) (4 :: b4 (mPrf (u i 5) 4 (u i 9) (u i 10)))) → f5 i u u' → K 1 u') : pw_Ho_answerProof u i K := by
  have h48 := hp.2.1
  unfold pw_Ho_answerProof pb_Ho_answerProof_0
  refine sp_Pa_dataSize hp (br_c (fun h => ?_) (fun h => ?_))
  rotate_left
  · exact kf (Or.inl (fun z => h ((pk_dsz (n := 5) h48 (by decide)).mpr z)))
  have h9 : pk.length = 9 := (pk_dsz (n := 5) h48 (by decide)).mp h
  refine sp_Pa_firstData hp (br_c (fun h1 => ?_) (fun h1 => kf (Or.inr (Or.inl h1))))
  refine br_c (fun h2 => kf (Or.inr (Or.inr (Or.inl h2)))) (fun h2 => ?_)
  refine sp_Pa_dataIntAt hp 1 rfl (by decide) (sp_Di_macOfProof (br_c (fun h3 => ?_) (fun h3 => kf (Or.inr (Or.inr (Or.inr h3))))))
  have hp1 : rw_ (pj_set u i 11 1) (i + 1) pk := hp.keep (ps_i (by omega)) (ps_i (by omega))
  unfold pb_Ho_answerProof_58
  refine pu (sp_Pa_id hp1 (sp_Pa_open (fun u2 h2' g2 => sp_Ro_put h2' (by simp) (fun u3 h3' g3 => ?_))))
  have g23 := g2.tr g3
  rw [(f5.of3 g23).1, ps_k (show (5 : Nat) ≠ 11 by decide), ps_k (show (9 : Nat) ≠ 11 by decide), ps_k (show (10 : Nat) ≠ 11 by decide)]
  refine sp_Di_macOfProof (sp_Ro_putInt h3' (by simp) (fun u5 h5 g5 => sp_Pa_setLength h5 (by simp) (fun u6 h6 g6 => ?_)))
  have g := g23.tr (g5.tr g6)
  refine k h9 h1 h2 h3 u6 (f5.of3 g).1 ?_ (f5.set.tr (f5.pkt g))
  rw [ph2, ← op_pd (by simp [b4])]
  have e4 : (4 : Int32) &&& 255 = 4 := by decide
  have e51 : (51 : Int32) &&& 255 = 51 := by decide
  have e2 : (2 : Int32) &&& 255 = 2 := by decide
  rw [e2, e4, e51] at h6
  simpa [b4] using h6
/-- hosts and mailbox: what a host's step leaves -/
def fHo (i : Nat) (u u' : pj_M) : Prop := ∀ a, (a < 4 ∨ 90 ≤ a) → (a < i ∨ i + 4 < a) → u' a = u a
theorem sp_Ho_takeFrame {u : pj_M} {i : Nat} {f : List Int32} {ms : List mT} {K : pj_M → Prop} (hi : 90 ≤ i) (hi2 : i + 4 < 215) (hf : rw_ u 215 f) (hm : mb u ms) (hl : ¬ u i 7 = 0 → ∃ la, rw_ u (i + 3) la ∧ la.length ≤ 20) (k : ∀ n u' o, hoS i f u u' o n → mb u' (om ms o) → fHo i u u' → K u') : pw_Ho_takeFrame u i 215 K := by
  refine br_c (fun h => ?_) (fun h4 => ?_)
  · exact k 0 u none ⟨h, rfl, ⟨rfl, rfl⟩, rfl⟩ hm (fun _ _ _ => rfl)
  have mk : ∀ {w : pj_M}, f2 (i + 1) u w → mb w ms := fun g => hm.keep (fun a h1 h2 _ _ => g a (by omega) (by omega))
  refine sp_Pa_readFrame hf (by omega) (by omega) (by omega) (fun hs u1 g1 => ?_) (fun hs hp u1 hp1 g1 => ?_) (fun hs hp u1 g1 => ?_)
  · have e1 : u1 i = u i := g1 _ (by omega) (by omega)
    have kk : K u1 := k 1 u1 none ⟨h4, hs, e1, ⟨g1 _ (by omega) (by omega), g1 _ (by omega) (by omega)⟩, rfl⟩ (mk g1) (fun a _ h2 => g1 a (by omega) (by omega))
    refine br_f (fun z => ?_) (br_f (fun z => ?_) kk)
    · rcases hs.2 with q | q <;> rw [q] at z <;> exact absurd z (by decide)
    · rcases hs.2 with q | q <;> rw [q] at z <;> exact absurd z (by decide)
  rotate_left
  · refine br_t rfl ?_
    unfold pb_Ho_takeFrame_23
    refine pu (br_f (by decide) ?_)
    have e1 : u1 i = u i := g1 _ (by omega) (by omega)
    refine k 2 _ none ⟨h4, hs, hp, ?_, ⟨?_, ?_⟩, rfl⟩ ((mk g1).keep (fun a h1 h2 _ _ => ps_i (by omega))) (fun a _ h2 => ?_)
    · rw [e1]
      funext q
      by_cases e : q = 14
      · rw [e, ps_s, ps_s]
      · rw [ps_k e, ps_k e, e1]
    · rw [ps_i (by omega)]; exact g1 _ (by omega) (by omega)
    · rw [ps_i (by omega)]; exact g1 _ (by omega) (by omega)
    · rw [ps_i (by omega)]; exact g1 _ (by omega) (by omega)
  refine br_f (by decide) (br_t rfl ?_)
  have e1 : u1 i = u i := g1 _ (by omega) (by omega)
  have e3 : u1 (i + 3) = u (i + 3) := g1 _ (by omega) (by omega)
  have e3' : u1 (i + 4) = u (i + 4) := g1 _ (by omega) (by omega)
  have m1 := mk g1
  have hl1 : ¬ u1 i 7 = 0 → ∃ la, rw_ u1 (i + 3) la := fun q => by
    rw [e1] at q
    obtain ⟨la, r, -⟩ := hl q
    exact ⟨la, r.keep e3 e3'⟩
  have g15 : f5 i u u1 := fun a ha => g1 a (by omega) (by omega)
  have hcode := hp.2.2.2.2
  have s149 : ∀ n, (∀ u' o, u' i = u i → keep3 i u u' → o = none → hoS i f u u' o n) → K u1 := fun n hn => k n u1 none (hn u1 none e1 ⟨e3, e3'⟩ rfl) m1 (fun a _ h2 => g15 a h2)
  refine sp_Pa_code hp1 (br_c (fun c1 => ?_) (fun c1 => br_c (fun c2 => ?_) (fun c2 => br_c (fun c3 => ?_) (fun c3 => br_c (fun c4 => ?_) (fun c4 => ?_)))))
  rotate_left
  · exact s149 10 (fun u' o a1 a2 a3 => ⟨h4, hs, hp, c2, a1, a2, a3⟩)
  · refine br_c (fun q => ?_) (fun q => ?_)
    · rw [e1] at q
      unfold pb_Ho_takeFrame_126 pb_Ho_takeFrame_130
      refine pu (k 11 _ none ⟨h4, hs, hp, c3, q, ?_, ⟨?_, ?_⟩, rfl⟩ (m1.keep (fun a h1 h2 _ _ => ps_i (by omega))) (fun a _ h2 => ?_))
      · rw [e1]
        funext q
        by_cases e : q = 12
        · rw [e, ps_s, ps_s]
        · rw [ps_k e, ps_k e, e1]
      · rw [ps_i (by omega)]; exact e3
      · rw [ps_i (by omega)]; exact e3'
      · rw [ps_i (by omega)]; exact g15 a h2
    · rw [e1] at q
      unfold pb_Ho_takeFrame_122 pb_Ho_takeFrame_130
      refine pu (k 12 _ none ⟨h4, hs, hp, c3, q, ?_, ⟨?_, ?_⟩, rfl⟩ (m1.keep (fun a h1 h2 _ _ => ps_i (by omega))) (fun a _ h2 => ?_))
      · funext q
        by_cases e : q = 12
        · rw [e, ps_s, ps_s]
        · rw [ps_k e, ps_k e, e1]
      · rw [ps_i (by omega)]; exact e3
      · rw [ps_i (by omega)]; exact e3'
      · rw [ps_i (by omega)]; exact g15 a h2
  · unfold pb_Ho_takeFrame_136
    refine pu (pu (k 13 _ none ⟨h4, hs, hp, c4, ?_, ⟨?_, ?_⟩, rfl⟩ (m1.keep (fun a h1 h2 _ _ => (ps_i (by omega)).trans (ps_i (by omega)))) (fun a _ h2 => ?_)))
    · funext q
      by_cases e : q = 11
      · rw [e, ps_s, ps_s]
      · rw [ps_k e, ps_k e]
        by_cases e' : q = 12
        · rw [e', ps_s, ps_s]
        · rw [ps_k e', ps_k e', e1]
    · rw [ps_i (by omega), ps_i (by omega)]; exact e3
    · rw [ps_i (by omega), ps_i (by omega)]; exact e3'
    · rw [ps_i (by omega), ps_i (by omega)]; exact g15 a h2
  · exfalso
    rcases hcode with ⟨q | q, -⟩ | ⟨q | q, -⟩
    · exact c1 q
    · exact c2 q
    · exact c3 q
    · exact c4 q
  have hup : ∀ (w c : pj_M) (a k : Nat) (v : Int32), c a = w a → (pj_set c a k v) a = (pj_set w a k v) a := by
    intro w c a k v e
    funext q
    by_cases z : q = k
    · rw [z, ps_s, ps_s]
    · rw [ps_k z, ps_k z, e]
  have ans : ∀ n (w e : pj_M) (L : List Int32), w i = e i → rw_ w (i + 3) L → L.length ≤ 20 → f5 i u w → (e i 0 = u i 0) → (∀ u' o, hoA i u e u' o L → hoS i f u u' o n) → pb_Ho_takeFrame_90 K w i := by
    intro n w e L he hL hL20 gw e0 hn
    unfold pb_Ho_takeFrame_90
    refine pu ?_
    have i0 : (pj_set w i 7 1) i 0 = u i 0 := by rw [ps_k (by decide), he]; exact e0
    rw [i0]
    have gw2 : f5 i u (pj_set w i 7 1) := gw.tr f5.set
    refine sp_Ma_sendPacket (hm.keep (fun a h1 h2 _ _ => gw2 a (by omega))) (hL.keep (ps_i (by omega)) (ps_i (by omega))) (by omega) (by omega) (fun u3 h3 g3 => ?_)
    refine k n u3 (some (0, u i 0, 0 :: L)) (hn _ _ ⟨?_, ?_, rfl⟩) h3 (fun a h1 h2 => (g3 a h1).trans (gw2 a h2))
    · rw [g3 i (by omega)]
      exact hup _ _ _ _ _ he
    · exact (hL.keep (ps_i (by omega)) (ps_i (by omega))).keep (g3 _ (by omega)) (g3 _ (by omega))
  refine sp_Ho_isRepeated hl1 hp1 (fun q la hla e => br_f (by decide) ?_) (fun q => br_t rfl ?_)
  · rw [e1] at q
    obtain ⟨la', r', hle⟩ := hl q
    have r1 := r'.keep e3 e3'
    unfold pb_Ho_takeFrame_90
    refine pu ?_
    have i0 : (pj_set u1 i 7 1) i 0 = u i 0 := by rw [ps_k (by decide), e1]
    rw [i0]
    have el : la = la' := by
      have hlen : la.length = la'.length := (nI_eq hla.lt r1.lt).mp (hla.1.symm.trans r1.1)
      apply List.ext_getElem?
      intro j
      by_cases hj : j < la.length
      · have a1 := hla.2.2 j hj
        have a2 := r1.2.2 j (by omega)
        rw [a1] at a2
        rw [List.getD_eq_getElem?_getD, List.getD_eq_getElem?_getD, List.getElem?_eq_getElem hj, List.getElem?_eq_getElem (by omega)] at a2
        rw [List.getElem?_eq_getElem hj, List.getElem?_eq_getElem (by omega)]
        exact congrArg some a2
      · rw [List.getElem?_eq_none (by omega), List.getElem?_eq_none (by omega)]
    subst el
    have gw2 : f5 i u (pj_set u1 i 7 1) := g15.tr f5.set
    refine sp_Ma_sendPacket (hm.keep (fun a h1 h2 _ _ => gw2 a (by omega))) (hla.keep (ps_i (by omega)) (ps_i (by omega))) (by omega) (by omega) (fun u3 h3 g3 => ?_)
    refine k 3 u3 (some (0, u i 0, 0 :: la)) ⟨h4, hs, hp, c1, q, ⟨la, r', e, rfl⟩, ?_, ⟨?_, ?_⟩⟩ h3 (fun a h1 h2 => (g3 a h1).trans (gw2 a h2))
    · rw [g3 i (by omega)]
      exact hup _ _ _ _ _ e1
    · rw [g3 _ (by omega), ps_i (by omega)]; exact e3
    · rw [g3 _ (by omega), ps_i (by omega)]; exact e3'
  have hQ : hoQ i f u := by
    refine ⟨h4, hs, hp, c1, ?_⟩
    rcases q with q | ⟨la, r, q⟩
    · rw [e1] at q; exact Or.inl q
    · exact Or.inr ⟨la, r.keep e3.symm e3'.symm, q⟩
  have e16 : ∀ n, u1 i n = u i n := fun n => by rw [e1]
  have no : hoN i u (f.drop 1) → K u1 := fun hn => s149 9 (fun u' o a1 a2 a3 => ⟨hQ, hn, a1, a2, a3⟩)
  have pl : ∀ (t : Int32) (ds : List Int32), ds.length ≤ 10 → (pd (ph 2 (aT (f.drop 1) 1) t) ds).length ≤ 20 := fun t ds h => by rw [pd_len, ph2]; simp; omega
  refine sp_Pa_type hp1 (br_c (fun t1 => ?_) (fun t1 => br_c (fun t4 => ?_) (fun t4 => br_c (fun t51 => ?_) (fun t51 => ?_))))
  · refine sp_Ho_tellUser hp1 (fun u2 a1 a2 a3 => ⟨pj_bi1, br_f (by decide) ?_⟩)
    rw [e16] at a2
    exact ans 4 u2 (pj_set u i 11 0) _ (a1.trans (hup _ _ _ _ _ e1)) a2 (pl _ _ (by simp)) (g15.tr a3) (ps_k (by decide)) (fun u' o z => ⟨hQ, t1, z⟩)
  · refine br_c (fun q1 => ?_) (fun q1 => ?_)
    · rw [e16] at q1
      refine sp_Ho_refuse hp1 (fun u2 x hx a1 a2 a3 => ⟨pj_bi1, br_f (by decide) ?_⟩)
      rw [e16] at hx
      rcases hx with ⟨b1, rfl⟩ | ⟨b1, b2, rfl⟩ | ⟨b1, b2, rfl⟩
      · exact absurd q1 b1
      · exact ans 5 u2 u _ (a1.trans e1) a2 (pl _ _ (by simp)) (g15.tr a3) rfl (fun u' o z => ⟨hQ, Or.inl ⟨t4, q1⟩, Or.inr (Or.inl ⟨b1, b2, z⟩)⟩)
      · exact ans 5 u2 u _ (a1.trans e1) a2 (pl _ _ (by simp)) (g15.tr a3) rfl (fun u' o z => ⟨hQ, Or.inl ⟨t4, q1⟩, Or.inr (Or.inr ⟨b1, b2, z⟩)⟩)
    · rw [e16] at q1
      refine sp_Ho_meetChallenge hp1 (fun q8 => ⟨pj_bi0, br_t rfl (no (Or.inr (Or.inl ⟨t4, q1, q8⟩)))⟩) (fun q8 u2 a1 a2 a3 => ⟨pj_bi1, br_f (by decide) ?_⟩)
      rw [e16] at a2
      exact ans 6 u2 (pj_set u i 11 1) _ (a1.trans (hup _ _ _ _ _ e1)) a2 (pl _ _ (by simp [b4])) (g15.tr a3) (ps_k (by decide)) (fun u' o z => ⟨hQ, t4, q1, q8, z⟩)
  · refine br_c (fun q1 => ?_) (fun q1 => ?_)
    · rw [e16] at q1
      refine sp_Ho_refuse hp1 (fun u2 x hx a1 a2 a3 => ⟨pj_bi1, br_f (by decide) ?_⟩)
      rw [e16] at hx
      rcases hx with ⟨b1, rfl⟩ | ⟨b1, b2, rfl⟩ | ⟨b1, b2, rfl⟩
      · exact ans 5 u2 u _ (a1.trans e1) a2 (pl _ _ (by simp)) (g15.tr a3) rfl (fun u' o z => ⟨hQ, Or.inr ⟨t51, q1⟩, Or.inl ⟨b1, z⟩⟩)
      · exact absurd q1 b2
      · exact ans 5 u2 u _ (a1.trans e1) a2 (pl _ _ (by simp)) (g15.tr a3) rfl (fun u' o z => ⟨hQ, Or.inr ⟨t51, q1⟩, Or.inr (Or.inr ⟨b1, b2, z⟩)⟩)
    · rw [e16] at q1
      refine sp_Ho_answerRandom hp1 (fun qr => br_t rfl ?_) (fun q9 qa u2 a1 a2 a3 => br_f (by decide) ⟨pj_bi1, br_f (by decide) ?_⟩)
      · refine sp_Ho_answerProof hp1 (fun qp => br_t rfl ⟨pj_bi0, br_t rfl (no (Or.inr (Or.inr ⟨t51, q1, ?_⟩)))⟩) (fun q9 qa qb qc u2 a1 a2 a3 => br_f (by decide) ⟨pj_bi1, br_f (by decide) ?_⟩)
        · rcases qr with qr | ⟨qr, qr'⟩
          · exact Or.inl qr
          · rcases qp with qp | qp
            · exact absurd qr qp
            · rw [e16, e16, e16, e16] at qp
              exact Or.inr ⟨qr, qr', qp⟩
        · rw [e16] at qb
          rw [e16, e16, e16] at qc a2
          exact ans 8 u2 (pj_set u i 11 1) _ (a1.trans (hup _ _ _ _ _ e1)) a2 (pl _ _ (by simp [b4])) (g15.tr a3) (ps_k (by decide)) (fun u' o z => ⟨hQ, t51, q1, q9, qa, qb, qc, z⟩)
      · rw [e16, e16, e16] at a2
        have eE : hoE7 i u1 (f.drop 1) i = hoE7 i u (f.drop 1) i := by
          unfold hoE7
          rw [e16, e16, e16]
          exact hup _ _ _ _ _ (hup _ _ _ _ _ (hup _ _ _ _ _ (hup _ _ _ _ _ (hup _ _ _ _ _ e1))))
        refine ans 7 u2 (hoE7 i u (f.drop 1)) _ (a1.trans eE) a2 (pl _ _ (by simp [b4])) (g15.tr a3) ?_ (fun u' o z => ⟨hQ, t51, q1, q9, qa, z⟩)
        unfold hoE7
        rw [ps_k (by decide), ps_k (by decide), ps_k (by decide), ps_k (by decide), ps_k (by decide)]
  · exact br_t rfl (no (Or.inl ⟨t1, t4, t51⟩))
