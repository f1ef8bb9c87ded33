/-! ===== Int32 by its bits: bt x i ===== -/
def bt (x : Int32) (i : Nat) : Bool := x.toBitVec.getLsbD i
theorem b_ext {x y : Int32} (h : ∀ i, i < 32 → bt x i = bt y i) : x = y := Int32.toBitVec_inj.mp (BitVec.eq_of_getLsbD_eq (fun i hi => h i hi))
theorem b_or (x y : Int32) (i : Nat) : bt (x ||| y) i = (bt x i || bt y i) := by unfold bt; rw [Int32.toBitVec_or, BitVec.getLsbD_or]
theorem b_and (x y : Int32) (i : Nat) : bt (x &&& y) i = (bt x i && bt y i) := by unfold bt; rw [Int32.toBitVec_and, BitVec.getLsbD_and]
theorem b_xor (x y : Int32) (i : Nat) : bt (x ^^^ y) i = (bt x i ^^ bt y i) := by unfold bt; rw [Int32.toBitVec_xor, BitVec.getLsbD_xor]
theorem b_big {x : Int32} {i : Nat} (h : 32 ≤ i) : bt x i = false := BitVec.getLsbD_of_ge _ _ h
theorem b_255 (i : Nat) : bt 255 i = decide (i < 8) := by
  rcases Nat.lt_or_ge i 32 with h | h
  · exact (by decide +kernel : ∀ i, i < 32 → bt 255 i = decide (i < 8)) i h
  · rw [b_big h, decide_eq_false (by omega)]
theorem b_65535 (i : Nat) : bt 65535 i = decide (i < 16) := by
  rcases Nat.lt_or_ge i 32 with h | h
  · exact (by decide +kernel : ∀ i, i < 32 → bt 65535 i = decide (i < 16)) i h
  · rw [b_big h, decide_eq_false (by omega)]
theorem b_m1 : ∀ i, i < 32 → bt (-1) i = true := by decide +kernel
theorem b_0 (i : Nat) : bt 0 i = false := BitVec.getLsbD_zero
theorem s_l : ∀ n, n < 32 → ((nI n &&& 31).toBitVec.smod 32).toNat = n := by decide +kernel
theorem s_u : ∀ n, n < 32 → (((nI n).toUInt32 &&& Int32.toUInt32 31).toBitVec % 32).toNat = n := by decide +kernel
theorem b_shl (n : Nat) (hn : n < 32) (x : Int32) {i : Nat} (hi : i < 32) : bt (x <<< (nI n &&& 31)) i = (decide (n ≤ i) && bt x (i - n)) := by
  unfold bt
  rw [Int32.toBitVec_shiftLeft]
  show (x.toBitVec <<< ((nI n &&& 31).toBitVec.smod 32).toNat).getLsbD i = _
  rw [s_l n hn, BitVec.getLsbD_shiftLeft]
  rcases Nat.lt_or_ge i n with h | h
  · simp [h, Nat.not_le.mpr h]
  · simp [hi, h, Nat.not_lt.mpr h]
theorem b_ushr (n : Nat) (hn : n < 32) (x : Int32) (i : Nat) : bt ((x.toUInt32 >>> ((nI n).toUInt32 &&& Int32.toUInt32 31)).toInt32) i = bt x (n + i) := by
  show (x.toUInt32 >>> ((nI n).toUInt32 &&& Int32.toUInt32 31)).toBitVec.getLsbD i = x.toUInt32.toBitVec.getLsbD (n + i)
  rw [UInt32.toBitVec_shiftRight]
  show (x.toUInt32.toBitVec >>> (((nI n).toUInt32 &&& Int32.toUInt32 31).toBitVec % 32).toNat).getLsbD i = _
  rw [s_u n hn, BitVec.getLsbD_ushiftRight]
theorem b_sshr (n : Nat) (hn : n < 32) (x : Int32) {i : Nat} (hi : i < 32) : bt (x >>> (nI n &&& 31)) i = if n + i < 32 then bt x (n + i) else bt x 31 := by
  unfold bt
  rw [Int32.toBitVec_shiftRight]
  show (x.toBitVec.sshiftRight ((nI n &&& 31).toBitVec.smod 32).toNat).getLsbD i = _
  rw [s_l n hn, BitVec.getLsbD_sshiftRight, BitVec.msb_eq_getLsbD_last]
  simp [hi]
theorem b_shl8 (x : Int32) {i : Nat} (hi : i < 32) : bt (x <<< ((8 : Int32) &&& 31)) i = (decide (8 ≤ i) && bt x (i - 8)) := b_shl 8 (by omega) x hi
theorem b_shl16 (x : Int32) {i : Nat} (hi : i < 32) : bt (x <<< ((16 : Int32) &&& 31)) i = (decide (16 ≤ i) && bt x (i - 16)) := b_shl 16 (by omega) x hi
theorem b_shl24 (x : Int32) {i : Nat} (hi : i < 32) : bt (x <<< ((24 : Int32) &&& 31)) i = (decide (24 ≤ i) && bt x (i - 24)) := b_shl 24 (by omega) x hi
theorem b_sshr8 (x : Int32) {i : Nat} (hi : i < 32) : bt (x >>> ((8 : Int32) &&& 31)) i = if 8 + i < 32 then bt x (8 + i) else bt x 31 := b_sshr 8 (by omega) x hi
/-! The pure part: memory, digests, rows as lists -/
theorem ps_s {u : pj_M} {i k : Nat} {v : Int32} : pj_set u i k v i k = v := by rw [pj_set_eq]; exact pk_us
theorem ps_k {u : pj_M} {i k c : Nat} {v : Int32} (h : c ≠ k) : pj_set u i k v i c = u i c := by rw [pj_set_eq]; exact pk_un h
theorem ps_i {u : pj_M} {i k a : Nat} {v : Int32} (h : a ≠ i) : pj_set u i k v a = u a := pj_set_ne h
/-- bytes of a number, from the high end -/
def y3 (v : Int32) : Int32 := (v.toUInt32 >>> ((24 : Int32).toUInt32 &&& Int32.toUInt32 31)).toInt32 &&& 255
def y2 (v : Int32) : Int32 := (v.toUInt32 >>> ((16 : Int32).toUInt32 &&& Int32.toUInt32 31)).toInt32 &&& 255
def y1 (v : Int32) : Int32 := (v.toUInt32 >>> ((8 : Int32).toUInt32 &&& Int32.toUInt32 31)).toInt32 &&& 255
def y0 (v : Int32) : Int32 := v &&& 255
theorem y_sh (n : Nat) (hn : n ≤ 24) (v : Int32) : (v >>> (nI n &&& 31)) &&& 255 = (v.toUInt32 >>> ((nI n).toUInt32 &&& Int32.toUInt32 31)).toInt32 &&& 255 := by
  apply b_ext
  intro i hi
  rw [b_and, b_and, b_255, b_sshr n (by omega) v hi, b_ushr n (by omega) v i]
  by_cases h : i < 8
  · rw [if_pos (by omega)]
  · simp [h]
theorem y_sh3 (v : Int32) : (v >>> ((24 : Int32) &&& 31)) &&& 255 = y3 v := y_sh 24 (by omega) v
theorem y_sh2 (v : Int32) : (v >>> ((16 : Int32) &&& 31)) &&& 255 = y2 v := y_sh 16 (by omega) v
theorem y_sh1 (v : Int32) : (v >>> ((8 : Int32) &&& 31)) &&& 255 = y1 v := y_sh 8 (by omega) v
theorem y_sh0 (v : Int32) : (v >>> ((0 : Int32) &&& 31)) &&& 255 = y0 v := by rw [sb_shr0]; rfl
theorem y_ush0 (v : Int32) : (v.toUInt32 >>> ((0 : Int32).toUInt32 &&& Int32.toUInt32 31)).toInt32 &&& 255 = y0 v := by rw [← y_sh0]; exact (y_sh 0 (by omega) v).symm
def dB (h x : Int32) : Int32 := (h ^^^ x) * 16777619
def dI (h v : Int32) : Int32 := dB (dB (dB (dB h (y3 v)) (y2 v)) (y1 v)) (y0 v)
def dE (h : Int32) : Int32 := h ^^^ (h.toUInt32 >>> ((15 : Int32).toUInt32 &&& Int32.toUInt32 31)).toInt32
def dL (h : Int32) (l : List Int32) : Int32 := l.foldl dB h
abbrev d0 : Int32 := -2128831035
def mOut (key inner : Int32) : Int32 := dE (dI (dB (dI d0 key) 92) inner)
def mRow (key : Int32) (l : List Int32) : Int32 := mOut key (dE (dL (dB (dI d0 key) 54) l))
def mPrf (key step a c : Int32) : Int32 := mOut key (dE (dI (dI (dB (dB (dI d0 key) 54) (step &&& 255)) a) c))
def hInts (a c : Int32) : Int32 := dE (dI (dI d0 a) c)
def hRow (l : List Int32) (key : Int32) : Int32 := dE (dI (dL d0 l) key)
def rnd (key maker n : Int32) : Int32 := dE (dI (dB (dI d0 key) (maker &&& 255)) n)
def chal (id key r : Int32) : Int32 := dE (dI (dI (dB d0 (id &&& 255)) key) r)
theorem sp_Di_addInt {u : pj_M} {h v : Int32} {K : Int32 → pj_M → Prop} (k : K (dI h v) u) : pw_Di_addInt u h v K := by
  have k' : K (dB (dB (dB (dB h (y3 v)) (y2 v)) (y1 v)) ((v.toUInt32 >>> ((0 : Int32).toUInt32 &&& Int32.toUInt32 31)).toInt32 &&& 255)) u := by
    rw [y_ush0]; exact k
  exact ⟨5, br_f (by decide) (br_f (by decide) (br_f (by decide) (br_f (by decide) (br_t (by decide) k'))))⟩
theorem sp_Di_addByte {u : pj_M} {h x : Int32} {K : Int32 → pj_M → Prop} (k : K (dB h (x &&& 255)) u) : pw_Di_addByte u h x K := k
theorem sp_Di_end {u : pj_M} {h : Int32} {K : Int32 → pj_M → Prop} (k : K (dE h) u) : pw_Di_end u h K := k
/-- row r holds the list l -/
def rw_ (u : pj_M) (r : Nat) (l : List Int32) : Prop := u r 1 = nI l.length ∧ l.length ≤ 48 ∧ ∀ j, j < l.length → u (r + 1) j = l.getD j 0
theorem rw_.keep {u u' : pj_M} {r : Nat} {l : List Int32} (h : rw_ u r l) (h0 : u' r = u r) (h1 : u' (r + 1) = u (r + 1)) : rw_ u' r l := ⟨by rw [h0]; exact h.1, h.2.1, fun j hj => by rw [h1]; exact h.2.2 j hj⟩
theorem rw_.lt {u : pj_M} {r : Nat} {l : List Int32} (h : rw_ u r l) : l.length < 2 ^ 31 := by have := h.2.1; omega
theorem gd_lo {l : List Int32} {x : Int32} {j : Nat} (h : j < l.length) : (l ++ [x]).getD j 0 = l.getD j 0 := by
  rw [List.getD_eq_getElem?_getD, List.getD_eq_getElem?_getD, List.getElem?_append_left h]
theorem gd_hi {l : List Int32} {x : Int32} : (l ++ [x]).getD l.length 0 = x := by
  rw [List.getD_eq_getElem?_getD, List.getElem?_append_right (Nat.le_refl _), Nat.sub_self]
  rfl
theorem dr_c {l : List Int32} {j : Nat} (h : j < l.length) : l.drop j = l.getD j 0 :: l.drop (j + 1) := by
  rw [List.drop_eq_getElem_cons h, List.getD_eq_getElem?_getD, List.getElem?_eq_getElem h]
  rfl
theorem lp_Di_addRow {u : pj_M} {i : Nat} {l : List Int32} {K : Int32 → pj_M → Prop} (hr : rw_ u i l) : ∀ (d j : Nat) (h : Int32), j + d = l.length → K (dL h (l.drop j)) u → pb_Di_addRow_4 K i (d + 1) u h (nI j) := by
  intro d
  induction d with
  | zero =>
    intro j h hj k
    have hj' : j = l.length := by omega
    refine br_t (by rw [hr.1, hj']; exact Int32.le_refl _) ?_
    rw [hj', List.drop_length] at k
    exact k
  | succ d ih =>
    intro j h hj k
    have hlt : j < l.length := by omega
    have h31 := hr.lt
    refine br_f (by rw [hr.1]; exact nI_ge hlt h31) ⟨vp_in_nI (by have := hr.2.1; omega) (by omega), ?_⟩
    show pb_Di_addRow_4 K i (d + 1) u _ (nI j + 1)
    rw [nI_1]
    refine ih (j + 1) _ (by omega) ?_
    rw [dr_c hlt] at k
    rw [nI_clamp (by omega), hr.2.2 j hlt]
    exact k
theorem sp_Di_addRow {u : pj_M} {h : Int32} {i : Nat} {l : List Int32} {K : Int32 → pj_M → Prop} (hr : rw_ u i l) (k : K (dL h l) u) : pw_Di_addRow u h i K :=
  ⟨l.length + 1, lp_Di_addRow hr l.length 0 h (by omega) k⟩
theorem sp_Di_macOfRow {u : pj_M} {key : Int32} {i : Nat} {l : List Int32} {K : Int32 → pj_M → Prop} (hr : rw_ u i l) (k : K (mRow key l) u) : pw_Di_macOfRow u key i K :=
  sp_Di_addInt (sp_Di_addByte (sp_Di_addRow hr (sp_Di_end (sp_Di_addInt (sp_Di_addByte (sp_Di_addInt (sp_Di_end k)))))))
theorem sp_Di_macOfProof {u : pj_M} {key step a c : Int32} {K : Int32 → pj_M → Prop} (k : K (mPrf key step a c) u) : pw_Di_macOfProof u key step a c K :=
  sp_Di_addInt (sp_Di_addByte (sp_Di_addByte (sp_Di_addInt (sp_Di_addInt (sp_Di_end (sp_Di_addInt (sp_Di_addByte (sp_Di_addInt (sp_Di_end k)))))))))
theorem sp_Di_hashOfInts {u : pj_M} {a c : Int32} {K : Int32 → pj_M → Prop} (k : K (hInts a c) u) : pw_Di_hashOfInts u a c K := sp_Di_addInt (sp_Di_addInt (sp_Di_end k))
theorem sp_Di_hashOfRow {u : pj_M} {i : Nat} {key : Int32} {l : List Int32} {K : Int32 → pj_M → Prop} (hr : rw_ u i l) (k : K (hRow l key) u) : pw_Di_hashOfRow u i key K := sp_Di_addRow hr (sp_Di_addInt (sp_Di_end k))
theorem sp_Di_random {u : pj_M} {key mk n : Int32} {K : Int32 → pj_M → Prop} (k : K (rnd key mk n) u) : pw_Di_random u key mk n K := sp_Di_addInt (sp_Di_addByte (sp_Di_addInt (sp_Di_end k)))
theorem sp_Di_challengeResponse {u : pj_M} {id key r : Int32} {K : Int32 → pj_M → Prop} (k : K (chal id key r) u) : pw_Di_challengeResponse u id key r K := by
  unfold pw_Di_challengeResponse pb_Di_challengeResponse_0
  exact sp_Di_addByte (sp_Di_addInt (sp_Di_addInt (sp_Di_end k)))
/-- two cells alone have changed -/
def f2 (r : Nat) (u u' : pj_M) : Prop := ∀ a, a ≠ r → a ≠ r + 1 → u' a = u a
theorem f2.rf {r : Nat} {u : pj_M} : f2 r u u := fun _ _ _ => rfl
theorem f2.tr {r : Nat} {u v w : pj_M} (h : f2 r u v) (k : f2 r v w) : f2 r u w := fun a h0 h1 => (k a h0 h1).trans (h a h0 h1)
theorem f2.set0 {r k : Nat} {v : Int32} {u : pj_M} : f2 r u (pj_set u r k v) := fun _ h _ => pj_set_ne h
theorem f2.set1 {r k : Nat} {v : Int32} {u : pj_M} : f2 r u (pj_set u (r + 1) k v) := fun _ _ h => pj_set_ne h
theorem sp_Ro_clear {u : pj_M} {r : Nat} {K : pj_M → Prop} (k : ∀ u', rw_ u' r [] → f2 r u u' → K u') : pw_Ro_clear u r K :=
  k _ ⟨ps_s, by simp, fun j hj => absurd hj (Nat.not_lt_zero j)⟩ f2.set0
theorem sp_Ro_put {u : pj_M} {r : Nat} {x : Int32} {l : List Int32} {K : pj_M → Prop} (hr : rw_ u r l) (hl : l.length < 48) (k : ∀ u', rw_ u' r (l ++ [x &&& 255]) → f2 r u u' → K u') : pw_Ro_put u r x K := by
  have h31 := hr.lt
  refine br_f (by rw [hr.1]; exact nI_ge hl (by decide)) ⟨by rw [hr.1]; exact vp_in_nI hl (by decide), ?_⟩
  refine k _ ⟨?_, by simp; omega, fun j hj => ?_⟩ (f2.tr f2.set1 f2.set0)
  · rw [ps_s, ps_i (by omega), hr.1, nI_1]
    simp
  · rw [ps_i (show r + 1 ≠ r by omega)]
    rw [hr.1, nI_clamp h31]
    rw [List.length_append, List.length_singleton] at hj
    by_cases hjl : j = l.length
    · rw [hjl, ps_s, gd_hi]
    · rw [ps_k hjl, gd_lo (by omega), hr.2.2 j (by omega)]
theorem sp_Ro_putInt {u : pj_M} {r : Nat} {v : Int32} {l : List Int32} {K : pj_M → Prop} (hr : rw_ u r l) (hl : l.length + 4 ≤ 48) (k : ∀ u', rw_ u' r (l ++ [y3 v, y2 v, y1 v, y0 v]) → f2 r u u' → K u') : pw_Ro_putInt u r v K := by
  refine sp_Ro_put hr (by omega) (fun u1 h1 g1 => ?_)
  refine sp_Ro_put h1 (by simp; omega) (fun u2 h2 g2 => ?_)
  refine sp_Ro_put h2 (by simp; omega) (fun u3 h3 g3 => ?_)
  refine sp_Ro_put h3 (by simp; omega) (fun u4 h4 g4 => ?_)
  refine k u4 ?_ (g1.tr (g2.tr (g3.tr g4)))
  have h5 : rw_ u4 r ((((l ++ [y3 v]) ++ [y2 v]) ++ [y1 v]) ++ [y0 v]) := h4
  simpa [List.append_assoc] using h5
theorem sp_Ro_at {u : pj_M} {r : Nat} {x : Int32} {l : List Int32} {K : Int32 → pj_M → Prop} (hr : rw_ u r l) (j : Nat) (hx : x = nI j) (hj : j < 2 ^ 31) (k : K (l.getD j (-1)) u) : pw_Ro_at u r x K := by
  subst hx
  have h31 := hr.lt
  have h48 := hr.2.1
  refine br_f (nI_pos hj) ?_
  by_cases h : j < l.length
  · refine br_f (by rw [hr.1]; exact nI_ge h h31) ⟨vp_in_nI (by omega) (by decide), ?_⟩
    show K _ u
    rw [nI_clamp hj, hr.2.2 j h]
    have e : l.getD j 0 = l.getD j (-1) := by
      rw [List.getD_eq_getElem?_getD, List.getD_eq_getElem?_getD, List.getElem?_eq_getElem h]
      rfl
    rw [e]
    exact k
  · refine br_t (by rw [hr.1]; exact nI_le (by omega) hj) ?_
    show K (-1) u
    rw [List.getD_eq_getElem?_getD, List.getElem?_eq_none (by omega)] at k
    exact k

theorem sp_Ro_set {u : pj_M} {r : Nat} {x v : Int32} {l : List Int32} {K : pj_M → Prop} (hr : rw_ u r l) (j : Nat) (hx : x = nI j) (hj : j < l.length) (k : ∀ u', rw_ u' r (l.set j (v &&& 255)) → f2 r u u' → K u') : pw_Ro_set u r x v K := by
  subst hx
  have h31 := hr.lt
  have h48 := hr.2.1
  refine br_f (nI_pos (by omega)) (br_f (by rw [hr.1]; exact nI_ge hj h31) ⟨vp_in_nI (by omega) (by decide), ?_⟩)
  refine k _ ⟨?_, by simp; omega, fun q hq => ?_⟩ f2.set1
  · rw [ps_i (by omega), hr.1]; simp
  · rw [nI_clamp (by omega)]
    rw [List.length_set] at hq
    by_cases e : q = j
    · subst e
      rw [ps_s, List.getD_eq_getElem?_getD, List.getElem?_set_self hq]
      rfl
    · rw [ps_k e, List.getD_eq_getElem?_getD, List.getElem?_set_ne (Ne.symm e), ← List.getD_eq_getElem?_getD]
      exact hr.2.2 q hq
/-- four bytes of a list, from place j on, replaced by a number's -/
def si (l : List Int32) (j : Nat) (v : Int32) : List Int32 := (((l.set j (y3 v)).set (j + 1) (y2 v)).set (j + 2) (y1 v)).set (j + 3) (y0 v)
theorem si_len (l : List Int32) (j : Nat) (v : Int32) : (si l j v).length = l.length := by simp [si]
theorem sp_Ro_setInt {u : pj_M} {r : Nat} {x v : Int32} {l : List Int32} {K : pj_M → Prop} (hr : rw_ u r l) (j : Nat) (hx : x = nI j) (hj : j + 3 < l.length) (k : ∀ u', rw_ u' r (si l j v) → f2 r u u' → K u') : pw_Ro_setInt u r x v K := by
  subst hx
  refine sp_Ro_set hr j rfl (by omega) (fun u1 h1 g1 => ?_)
  refine sp_Ro_set h1 (j + 1) (nI_add j 1) (by simp; omega) (fun u2 h2 g2 => ?_)
  refine sp_Ro_set h2 (j + 2) (nI_add j 2) (by simp; omega) (fun u3 h3 g3 => ?_)
  refine sp_Ro_set h3 (j + 3) (nI_add j 3) (by simp; omega) (fun u4 h4 g4 => ?_)
  exact k u4 h4 (g1.tr (g2.tr (g3.tr g4)))
theorem sp_Ro_copy {u : pj_M} {r q : Nat} {l : List Int32} {K : pj_M → Prop} (hq : rw_ u q l) (h0 : q ≠ r) (h1 : q + 1 ≠ r) (k : ∀ u', rw_ u' r l → f2 r u u' → K u') : pw_Ro_copy u r q K := by
  have h31 := hq.lt
  have h48 := hq.2.1
  refine ⟨⟨by decide, by decide, by rw [ps_s, hq.1]; exact nI_pos h31, ?_, ?_⟩, ?_⟩
  · rw [ps_s, hq.1, nI_clamp h31]; show 0 + _ ≤ _; omega
  · rw [ps_s, hq.1, nI_clamp h31]; show 0 + _ ≤ _; omega
  · refine k _ ⟨?_, h48, fun j hj => ?_⟩ (fun a ha hb => ?_)
    · show (if r = r + 1 then _ else pj_set u r 1 (u q 1) r) 1 = _
      rw [if_neg (by omega), ps_s, hq.1]
    · show (if r + 1 = r + 1 then va_cpy (pj_set u r 1 (u q 1) (q + 1)) (pj_set u r 1 (u q 1) (r + 1)) (0 : Int32).toNatClampNeg (0 : Int32).toNatClampNeg (pj_set u r 1 (u q 1) r 1).toNatClampNeg else pj_set u r 1 (u q 1) (r + 1)) j = _
      rw [if_pos rfl, ps_s, hq.1, nI_clamp h31]
      have : va_cpy (pj_set u r 1 (nI l.length) (q + 1)) (pj_set u r 1 (nI l.length) (r + 1)) (0 : Int32).toNatClampNeg (0 : Int32).toNatClampNeg l.length j = pj_set u r 1 (nI l.length) (q + 1) j := sb_cpy0 hj
      rw [this, ps_i h1]
      exact hq.2.2 j hj
    · show (if a = r + 1 then _ else pj_set u r 1 (u q 1) a) = _
      rw [if_neg hb, ps_i ha]
/-- c bytes of m from place a on -/
def sl (m : List Int32) (a c : Nat) : List Int32 := (m.drop a).take c
theorem sl_step {m : List Int32} {a c : Nat} (h : a < m.length) : sl m a (c + 1) = m.getD a 0 :: sl m (a + 1) c := by
  unfold sl
  rw [dr_c h, List.take_succ_cons]
theorem sl_out {m : List Int32} {a c : Nat} (h : m.length ≤ a) : sl m a c = [] := by
  unfold sl
  rw [List.drop_eq_nil_of_le h, List.take_nil]
theorem lp_Ro_append {r q : Nat} {m : List Int32} {K : pj_M → Prop} {x2 x3 : Int32} {e : Nat} (he : x2 + x3 = nI e) (he2 : e < 2 ^ 31) (h0 : q ≠ r) (h1 : q + 1 ≠ r) (h2 : q ≠ r + 1) : ∀ (c a : Nat) (u : pj_M) (l : List Int32), a + c = e → rw_ u r l → rw_ u q m → l.length + (sl m a c).length ≤ 48 → (∀ u', rw_ u' r (l ++ sl m a c) → f2 r u u' → K u') → pb_Ro_append_3 K r q x2 x3 (c + 1) u (nI a) := by
  intro c
  induction c with
  | zero =>
    intro a u l hac hr hq hlen k
    refine br_f (nI_pos (by omega)) (br_t (by rw [he]; exact nI_le (by omega) (by omega)) ?_)
    have hk := k u (by simpa [sl] using hr) f2.rf
    exact hk
  | succ c ih =>
    intro a u l hac hr hq hlen k
    have hm := hq.lt
    refine br_f (nI_pos (by omega)) (br_f (by rw [he]; exact nI_ge (by omega) he2) ?_)
    by_cases ha : a < m.length
    · refine br_f (by rw [hq.1]; exact nI_ge ha hm) ?_
      rw [sl_step ha] at hlen
      have hl : l.length < 48 := by simp at hlen; omega
      have hl31 := hr.lt
      have hm48 := hq.2.1
      refine br_f (by rw [hr.1]; exact nI_ge hl (by decide)) ⟨vp_in_nI (by omega) (by decide), by rw [hr.1]; exact vp_in_nI hl (by decide), ?_⟩
      show pb_Ro_append_3 K r q x2 x3 (c + 1) _ (nI a + 1)
      rw [nI_1, nI_clamp (show a < 2 ^ 31 by omega), hr.1, nI_clamp hl31]
      have hr' : rw_ (pj_set (pj_set u (r + 1) l.length (u (q + 1) a)) r 1 (pj_set u (r + 1) l.length (u (q + 1) a) r 1 + 1)) r (l ++ [m.getD a 0]) := by
        refine ⟨?_, by simp; omega, fun j hj => ?_⟩
        · rw [ps_s, ps_i (by omega), hr.1, nI_1]; simp
        · rw [ps_i (show r + 1 ≠ r by omega)]
          rw [List.length_append, List.length_singleton] at hj
          by_cases hjl : j = l.length
          · rw [hjl, ps_s, gd_hi, hq.2.2 a ha]
          · rw [ps_k hjl, gd_lo (by omega), hr.2.2 j (by omega)]
      refine ih (a + 1) _ (l ++ [m.getD a 0]) (by omega) hr' (hq.keep ?_ ?_) (by simp at hlen ⊢; omega) (fun u' h' g' => ?_)
      · rw [ps_i h0, ps_i h2]
      · rw [ps_i h1, ps_i (by omega)]
      · refine k u' ?_ ((f2.tr f2.set1 f2.set0).tr g')
        rw [sl_step ha]
        simpa [List.append_assoc] using h'
    · refine br_t (by rw [hq.1]; exact nI_le (by omega) (by omega)) ?_
      rw [sl_out (by omega)] at k
      exact k u (by simpa using hr) f2.rf
theorem sp_Ro_append {u : pj_M} {r q : Nat} {x2 x3 : Int32} {l m : List Int32} {K : pj_M → Prop} (a c : Nat) (ha : x2 = nI a) (hc : x3 = nI c) (hac : a + c < 2 ^ 31) (hr : rw_ u r l) (hq : rw_ u q m) (h0 : q ≠ r) (h1 : q + 1 ≠ r) (h2 : q ≠ r + 1) (hlen : l.length + (sl m a c).length ≤ 48) (k : ∀ u', rw_ u' r (l ++ sl m a c) → f2 r u u' → K u') : pw_Ro_append u r q x2 x3 K := by
  subst ha
  subst hc
  exact ⟨c + 1, lp_Ro_append (nI_add a c) hac h0 h1 h2 c a u l rfl hr hq hlen k⟩
/-- a number out of four bytes -/
def jn (a b c d : Int32) : Int32 := ((((((((0 : Int32) <<< ((8 : Int32) &&& 31)) ||| a) <<< ((8 : Int32) &&& 31)) ||| b) <<< ((8 : Int32) &&& 31)) ||| c) <<< ((8 : Int32) &&& 31)) ||| d
def iA (l : List Int32) (i : Nat) : Int32 := jn (l.getD i (-1) &&& 255) (l.getD (i + 1) (-1) &&& 255) (l.getD (i + 2) (-1) &&& 255) (l.getD (i + 3) (-1) &&& 255)
theorem sp_Ro_intAt {u : pj_M} {r : Nat} {x : Int32} {l : List Int32} {K : Int32 → pj_M → Prop} (hr : rw_ u r l) (i : Nat) (hx : x = nI i) (hi : i + 3 < 2 ^ 31) (k : K (iA l i) u) : pw_Ro_intAt u r x K := by
  subst hx
  refine ⟨5, br_f (by decide) ?_⟩
  refine sp_Ro_at hr i (nI_add i 0) (by omega) (br_f (by decide) ?_)
  refine sp_Ro_at hr (i + 1) (nI_add i 1) (by omega) (br_f (by decide) ?_)
  refine sp_Ro_at hr (i + 2) (nI_add i 2) (by omega) (br_f (by decide) ?_)
  refine sp_Ro_at hr (i + 3) (nI_add i 3) (by omega) (br_t (by decide) ?_)
  exact k
