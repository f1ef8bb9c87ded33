/-! The pure part: datagrams of the class, read -/
def f5 (i : Nat) (u u' : pj_M) : Prop := ∀ a, (a < i ∨ i + 4 < a) → u' a = u a
theorem f5.rf {i : Nat} {u : pj_M} : f5 i u u := fun _ _ => rfl
theorem f5.tr {i : Nat} {u v w : pj_M} (h : f5 i u v) (k : f5 i v w) : f5 i u w := fun a ha => (k a ha).trans (h a ha)
theorem f5.row {i : Nat} {u v : pj_M} (h : f2 (i + 1) u v) : f5 i u v := fun a ha => h a (by omega) (by omega)
theorem f5.pkt {i : Nat} {u v : pj_M} (h : f2 (i + 3) u v) : f5 i u v := fun a ha => h a (by omega) (by omega)
theorem f5.set {i k : Nat} {v : Int32} {u : pj_M} : f5 i u (pj_set u i k v) := fun a ha => pj_set_ne (by omega)
/-- the datagram i: its row, its packet, what was found so far -/
def dg (u : pj_M) (i : Nat) (f : List Int32) (nm tk sa : Int32) (pk : List Int32) : Prop := rw_ u (i + 1) f ∧ rw_ u (i + 3) pk ∧ u i 2 = nm ∧ u i 3 = tk ∧ u i 4 = sa
/-- one attribute: its size, and what is found then -/
def pS (f : List Int32) (p : Nat) (nm tk sa : Int32) (pk : List Int32) : Option (Nat × Int32 × Int32 × Int32 × List Int32) :=
  if aT f p = 1 then (if aT f (p + 1) = 3 ∧ nm = 0 then some (3, 1, tk, sa, pk) else none)
  else if aT f p = 24 then (if aT f (p + 1) = 4 ∧ tk = -1 then some (4, nm, (aT f (p + 2) <<< ((8 : Int32) &&& 31)) ||| aT f (p + 3), sa, pk) else none)
  else if aT f p = 79 then (if 3 ≤ aT f (p + 1) ∧ aT f (p + 1) ≤ 10 then some ((aT f (p + 1)).toNatClampNeg, nm, tk, sa, pk ++ sl f (p + 2) ((aT f (p + 1)).toNatClampNeg - 2)) else none)
  else if aT f p = 80 then (if aT f (p + 1) = 6 ∧ sa = -1 then some (6, nm, tk, nI (p + 2), pk) else none)
  else none
def pA (f : List Int32) : Nat → Nat → Int32 → Int32 → Int32 → List Int32 → Option (Int32 × Int32 × Int32 × List Int32)
  | 0, _, _, _, _, _ => none
  | n + 1, p, nm, tk, sa, pk => if f.length ≤ p then some (nm, tk, sa, pk) else if nI f.length < nI p + aT f (p + 1) then none else
    match pS f p nm tk sa pk with
    | none => none
    | some (z, nm', tk', sa', pk') => pA f n (p + z) nm' tk' sa' pk'
theorem nI_sub2 {z : Nat} (h : 2 ≤ z) : nI z - 2 = nI (z - 2) := pk_sub (b := 2) h
theorem z_of {x : Int32} (h3 : 3 ≤ x) (h10 : x ≤ 10) : ∃ z : Nat, 3 ≤ z ∧ z ≤ 10 ∧ x = nI z := by
  have a := Int32.le_iff_toInt_le.mp h3
  have c := Int32.le_iff_toInt_le.mp h10
  have e3 : (3 : Int32).toInt = 3 := by decide
  have e10 : (10 : Int32).toInt = 10 := by decide
  obtain ⟨j, hj, rfl⟩ := nI_of (x := x) (fun q => by
    have := Int32.lt_iff_toInt_lt.mp q
    have e0 : (0 : Int32).toInt = 0 := by decide
    omega)
  rw [nI_toInt hj] at a c
  exact ⟨j, by omega, by omega, rfl⟩
theorem sp_Da_readAttribute {u : pj_M} {i p : Nat} {f pk : List Int32} {nm tk sa : Int32} {K : Int32 → pj_M → Prop} (h : dg u i f nm tk sa pk) (hp : p < 1000) (hin : pk.length ≤ p) (hz : ∀ z : Nat, aT f (p + 1) = nI z → 3 ≤ z → z ≤ 10 → p + z ≤ 48)
    (kn : pS f p nm tk sa pk = none → K 0 u) (ks : ∀ z nm' tk' sa' pk', pS f p nm tk sa pk = some (z, nm', tk', sa', pk') → ∀ u', dg u' i f nm' tk' sa' pk' → f5 i u u' → K 1 u') : pw_Da_readAttribute u i (nI p) (aT f (p + 1)) K := by
  obtain ⟨hr, hk, hnm, htk, hsa⟩ := h
  refine sp_Ro_at hr p rfl (by omega) ?_
  refine br_c (fun h1 => ?_) (fun h1 => ?_)
  · have h1 : aT f p = 1 := h1
    refine br_c (fun hs => ?_) (fun hs => ?_)
    · refine br_c (fun hn => ?_) (fun hn => ?_)
      · rw [hnm] at hn
        refine ks 3 1 tk sa pk (by unfold pS; rw [if_pos h1, if_pos ⟨hs, hn⟩]) _ ⟨?_, ?_, ps_s, by rw [ps_k (by decide)]; exact htk, by rw [ps_k (by decide)]; exact hsa⟩ f5.set
        · exact hr.keep (ps_i (by omega)) (ps_i (by omega))
        · exact hk.keep (ps_i (by omega)) (ps_i (by omega))
      · rw [hnm] at hn
        exact kn (by unfold pS; rw [if_pos h1, if_neg (fun q => hn q.2)])
    · exact kn (by unfold pS; rw [if_pos h1, if_neg (fun q => hs q.1)])
  have h1 : ¬ aT f p = 1 := h1
  refine br_c (fun h2 => ?_) (fun h2 => ?_)
  · have h2 : aT f p = 24 := h2
    refine br_c (fun hs => ?_) (fun hs => ?_)
    · refine br_c (fun hn => ?_) (fun hn => ?_)
      · rw [htk] at hn
        refine sp_Ro_at hr (p + 2) (nI_add p 2) (by omega) (sp_Ro_at hr (p + 3) (nI_add p 3) (by omega) ?_)
        refine ks 4 nm _ sa pk (by unfold pS; rw [if_neg h1, if_pos h2, if_pos ⟨hs, hn⟩]; rfl) _ ⟨?_, ?_, by rw [ps_k (by decide)]; exact hnm, ps_s, by rw [ps_k (by decide)]; exact hsa⟩ f5.set
        · exact hr.keep (ps_i (by omega)) (ps_i (by omega))
        · exact hk.keep (ps_i (by omega)) (ps_i (by omega))
      · rw [htk] at hn
        exact kn (by unfold pS; rw [if_neg h1, if_pos h2, if_neg (fun q => hn q.2)])
    · exact kn (by unfold pS; rw [if_neg h1, if_pos h2, if_neg (fun q => hs q.1)])
  have h2 : ¬ aT f p = 24 := h2
  refine br_c (fun h3 => ?_) (fun h3 => ?_)
  · have h3 : aT f p = 79 := h3
    refine br_c (fun hs => ?_) (fun hs => ?_)
    · exact kn (by unfold pS; rw [if_neg h1, if_neg h2, if_pos h3, if_neg (fun q => Int32.not_lt.mpr q.1 hs)])
    · refine br_c (fun hn => ?_) (fun hn => ?_)
      · obtain ⟨z, z3, z10, hz'⟩ := z_of (Int32.not_lt.mp hs) hn
        have h48 := hz z hz' z3 z10
        rw [hz']
        have hsl : (sl f (p + 2) (z - 2)).length ≤ z - 2 := by simp [sl]; omega
        refine sp_Ro_append (p + 2) (z - 2) (nI_add p 2) (nI_sub2 (by omega)) (by omega) hk hr (by omega) (by omega) (by omega) (by omega) (fun u' hk' g' => ?_)
        refine ks z nm tk sa _ (by unfold pS; rw [if_neg h1, if_neg h2, if_pos h3, if_pos ⟨Int32.not_lt.mp hs, hn⟩, hz', nI_clamp (by omega)]) u' ⟨hr.keep (g' _ (by omega) (by omega)) (g' _ (by omega) (by omega)), hk', ?_, ?_, ?_⟩ (f5.pkt g')
        · rw [g' i (by omega) (by omega)]; exact hnm
        · rw [g' i (by omega) (by omega)]; exact htk
        · rw [g' i (by omega) (by omega)]; exact hsa
      · exact kn (by unfold pS; rw [if_neg h1, if_neg h2, if_pos h3, if_neg (fun q => hn q.2)])
  have h3 : ¬ aT f p = 79 := h3
  refine br_c (fun h4 => ?_) (fun h4 => ?_)
  · have h4 : aT f p = 80 := h4
    refine br_c (fun hs => ?_) (fun hs => ?_)
    · refine br_c (fun hn => ?_) (fun hn => ?_)
      · rw [hsa] at hn
        refine ks 6 nm tk (nI (p + 2)) pk (by unfold pS; rw [if_neg h1, if_neg h2, if_neg h3, if_pos h4, if_pos ⟨hs, hn⟩]) _ ⟨?_, ?_, by rw [ps_k (by decide)]; exact hnm, by rw [ps_k (by decide)]; exact htk, ?_⟩ f5.set
        · exact hr.keep (ps_i (by omega)) (ps_i (by omega))
        · exact hk.keep (ps_i (by omega)) (ps_i (by omega))
        · rw [ps_s]; exact nI_add p 2
      · rw [hsa] at hn
        exact kn (by unfold pS; rw [if_neg h1, if_neg h2, if_neg h3, if_pos h4, if_neg (fun q => hn q.2)])
    · exact kn (by unfold pS; rw [if_neg h1, if_neg h2, if_neg h3, if_pos h4, if_neg (fun q => hs q.1)])
  have h4 : ¬ aT f p = 80 := h4
  exact kn (by unfold pS; rw [if_neg h1, if_neg h2, if_neg h3, if_neg h4])
/-- the size of an attribute that is taken, and the packet's growth -/
theorem pS_size {f pk pk' : List Int32} {p z : Nat} {nm tk sa nm' tk' sa' : Int32} (h : pS f p nm tk sa pk = some (z, nm', tk', sa', pk')) : aT f (p + 1) = nI z ∧ 3 ≤ z ∧ z ≤ 10 ∧ pk'.length ≤ pk.length + z := by
  unfold pS at h
  split at h
  · split at h
    · rename_i q; cases h; exact ⟨q.1, by omega, by omega, by omega⟩
    · cases h
  · split at h
    · split at h
      · rename_i q; cases h; exact ⟨q.1, by omega, by omega, by omega⟩
      · cases h
    · split at h
      · split at h
        · rename_i q
          cases h
          obtain ⟨z, z3, z10, hz⟩ := z_of q.1 q.2
          rw [hz, nI_clamp (by omega)]
          exact ⟨rfl, z3, z10, by simp [sl]; omega⟩
        · cases h
      · split at h
        · split at h
          · rename_i q; cases h; exact ⟨q.1, by omega, by omega, by omega⟩
          · cases h
        · cases h
