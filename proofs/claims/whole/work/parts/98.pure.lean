/-! The pure part: all of it -/
theorem n4_at {q : Nat} (h : q < 4) : n4F zz q = -1 := by
  have : q = 0 ∨ q = 1 ∨ q = 2 ∨ q = 3 := by omega
  rcases this with e | e | e | e <;> subst e <;> rfl
theorem m8_at {q : Nat} (h : q < 8) : m8F zz q = -1 := by
  have : q = 0 ∨ q = 1 ∨ q = 2 ∨ q = 3 ∨ q = 4 ∨ q = 5 ∨ q = 6 ∨ q = 7 := by omega
  rcases this with e | e | e | e | e | e | e | e <;> subst e <;> rfl
theorem rel0 {c u : pj_M} {x : Int32} (Z : pgZ c x) (S : u 217 = mcF x) (B : ∀ a, a < 217 → u a = c a) (W : ∀ a, 217 < a → a ≠ 228 → a ≠ 267 → a ≠ 268 → a ≠ 271 → a ≠ 278 → u a = zz) (E228 : u 228 = n4F zz) (E267 : u 267 = n4F zz) (E268 : u 268 = n4F zz) (E271 : u 271 = n4F zz) (E278 : u 278 = m8F zz) : Rel u := by
  obtain ⟨z0, z1, z2, z3, z4, z7, z8, z10, z90, zH, z111, zS, zW, z213, z215, zz217⟩ := Z
  obtain ⟨w1, w2, w3, w4, w5, w6, w7, w8, w9, w10, wP⟩ := zW
  have w : ∀ a, 217 < a → a ≠ 228 → a ≠ 267 → a ≠ 268 → a ≠ 271 → a ≠ 278 → ∀ q, u a q = 0 := fun a h1 h2 h3 h4 h5 h6 q => by rw [W a h1 h2 h3 h4 h5 h6]
  refine Rel.mk (c' := c) (ms := []) ⟨fun y hy => ?_, fun h hh => ?_, fun p hp => ?_, ⟨⟨?_, ?_, ?_, ?_, ?_⟩, fun j hj => ?_⟩, fun s hs => ?_, fun q hq => Or.inl (w 249 (by decide) (by decide) (by decide) (by decide) (by decide) (by decide) q), ⟨[], ⟨by rw [z213]; rfl, by simp, fun j hj => absurd hj (Nat.not_lt_zero j)⟩, by rw [S]; rfl, bl_nil, fun j hj => absurd hj (Nat.not_lt_zero j)⟩, ⟨?_, ?_⟩, fun j hj => ?_⟩ ⟨fun k => 10 + 2 * k, ⟨fun k hk => ⟨z7 k hk, by show 10 ≤ 10 + 2 * k; omega, by show 10 + 2 * k < 90; omega, by show (10 + 2 * k) % 2 = 0; omega⟩, fun j k _ _ e => by have e : 10 + 2 * j = 10 + 2 * k := e; omega⟩, by rw [z4]; rfl, by simp, fun k hk => absurd hk (Nat.not_lt_zero k)⟩ ⟨by rw [S]; rfl, by simp, fun k hk => absurd hk (Nat.not_lt_zero k)⟩ (fun k hk => absurd hk (Nat.not_lt_zero k)) B
  · rw [z2, z3, W 218 (by decide) (by decide) (by decide) (by decide) (by decide) (by decide), W 219 (by decide) (by decide) (by decide) (by decide) (by decide) (by decide), W 220 (by decide) (by decide) (by decide) (by decide) (by decide) (by decide)]
    exact ⟨rfl, rfl, Iff.rfl⟩
  · obtain ⟨a, _, _⟩ := zH h hh
    refine rH_fresh (by rw [a]; rfl) (by rw [a, E228, n4_at hh]; rfl) (by rw [a, w 229 (by decide) (by decide) (by decide) (by decide) (by decide) (by decide)]; rfl) (by rw [a, w 230 (by decide) (by decide) (by decide) (by decide) (by decide) (by decide)]; rfl) (by rw [a, w 236 (by decide) (by decide) (by decide) (by decide) (by decide) (by decide)]; rfl) (by rw [a, w 237 (by decide) (by decide) (by decide) (by decide) (by decide) (by decide)]; rfl) (by rw [a, w 238 (by decide) (by decide) (by decide) (by decide) (by decide) (by decide)]; rfl) (Or.inl (by rw [E228, n4_at hh])) (by rw [a]; rfl) (by rw [a]; rfl) (by rw [a]; rfl) (by rw [a]; rfl) (w 231 (by decide) (by decide) (by decide) (by decide) (by decide) (by decide) h) (w 235 (by decide) (by decide) (by decide) (by decide) (by decide) (by decide) h) (w 233 (by decide) (by decide) (by decide) (by decide) (by decide) (by decide) h) (w 234 (by decide) (by decide) (by decide) (by decide) (by decide) (by decide) h)
  · obtain ⟨a, _, _, _⟩ := wP p hp
    refine pp_mk0 (la := []) (σ := poF (nI p)) (τ := rs u p) a rfl ?_ rfl ⟨Or.inl rfl, Or.inl rfl⟩ ⟨Or.inl rfl, Or.inl rfl⟩ (Or.inl rfl) (Or.inl rfl) (Or.inl rfl) rfl ?_
    · intro q h1 h2 h3 h4
      have hq : q = 4 ∨ q = 5 ∨ q = 6 ∨ q = 7 ∨ q = 8 ∨ q = 9 ∨ q = 10 ∨ q = 11 ∨ q = 14 ∨ q = 15 ∨ q = 16 ∨ q = 17 := by omega
      rcases hq with e | e | e | e | e | e | e | e | e | e | e | e <;> subst e
      · exact (w 258 (by decide) (by decide) (by decide) (by decide) (by decide) (by decide) p).symm
      · exact (w 259 (by decide) (by decide) (by decide) (by decide) (by decide) (by decide) p).symm
      · exact (w 260 (by decide) (by decide) (by decide) (by decide) (by decide) (by decide) p).symm
      · exact (w 261 (by decide) (by decide) (by decide) (by decide) (by decide) (by decide) p).symm
      · exact (w 264 (by decide) (by decide) (by decide) (by decide) (by decide) (by decide) p).symm
      · exact (w 265 (by decide) (by decide) (by decide) (by decide) (by decide) (by decide) p).symm
      · show poF (nI p) 10 = u 267 p
        rw [E267, n4_at hp]; rfl
      · show poF (nI p) 11 = u 268 p
        rw [E268, n4_at hp]; rfl
      · exact (w 273 (by decide) (by decide) (by decide) (by decide) (by decide) (by decide) p).symm
      · exact (w 269 (by decide) (by decide) (by decide) (by decide) (by decide) (by decide) p).symm
      · exact (w 270 (by decide) (by decide) (by decide) (by decide) (by decide) (by decide) p).symm
      · exact (w 266 (by decide) (by decide) (by decide) (by decide) (by decide) (by decide) p).symm
    · show u 271 p = -1
      rw [E271, n4_at hp]
  · rw [w1, S]; rfl
  · rw [w1, S]; rfl
  · rw [w1, S]; rfl
  · rw [S]; exact Or.inl rfl
  · rw [w1, w 277 (by decide) (by decide) (by decide) (by decide) (by decide) (by decide)]; rfl
  · rw [w3 j hj, E278, m8_at hj]
  · obtain ⟨a1, a2, _⟩ := zS s hs
    refine ⟨[], [], ⟨fun k => 112 + 29 * s + 17 + k, ⟨by omega, fun k hk => ⟨a2 k hk, by show 112 + 29 * s + 17 ≤ 112 + 29 * s + 17 + k; omega, by show 112 + 29 * s + 17 + k ≤ 112 + 29 * s + 20; omega⟩⟩, fun j k _ _ e => by have e : 112 + 29 * s + 17 + j = 112 + 29 * s + 17 + k := e; omega, by rw [a1]; rfl, by simp, fun t ht => absurd ht (Nat.not_lt_zero t)⟩, ⟨w 242 (by decide) (by decide) (by decide) (by decide) (by decide) (by decide) s, by simp, fun t ht => absurd ht (Nat.not_lt_zero t)⟩, fun t ht => absurd ht (Nat.not_lt_zero t), ⟨by rw [a1]; rfl, by simp, 0, by decide, by rw [a1]; rfl, fun _ => rfl, fun t ht => absurd ht (Nat.not_lt_zero t)⟩, ⟨w 251 (by decide) (by decide) (by decide) (by decide) (by decide) (by decide) s, by simp, fun t ht => absurd ht (Nat.not_lt_zero t)⟩, fun t t' ht => absurd ht (Nat.not_lt_zero t), by rw [a1]; rfl, by rw [a1, S]; rfl, Or.inr ⟨by rw [a1]; rfl, w 239 (by decide) (by decide) (by decide) (by decide) (by decide) (by decide) s⟩, by rw [a1, w 240 (by decide) (by decide) (by decide) (by decide) (by decide) (by decide)]; rfl, by rw [a1, w 241 (by decide) (by decide) (by decide) (by decide) (by decide) (by decide)]; rfl⟩
  · rw [show c 91 14 = 0 by rw [(zH 0 (by decide)).1]; rfl, show c 96 14 = 0 by rw [(zH 1 (by decide)).1]; rfl, show c 101 14 = 0 by rw [(zH 2 (by decide)).1]; rfl, show c 106 14 = 0 by rw [(zH 3 (by decide)).1]; rfl, w 277 (by decide) (by decide) (by decide) (by decide) (by decide) (by decide)]
    decide
  · rw [show c 112 19 = 0 by rw [(zS 0 (by decide)).1]; rfl, show c 141 19 = 0 by rw [(zS 1 (by decide)).1]; rfl, w 277 (by decide) (by decide) (by decide) (by decide) (by decide) (by decide)]
    decide
  · rw [E278, m8_at hj]; exact Or.inl rfl
theorem k_0 : ∀ i, i < 279 → pj_T i = 0 → i = 0 := by decide +kernel
theorem k_1 : ∀ i, i < 279 → pj_T i = 1 → i = 1 := by decide +kernel
theorem k_2 : ∀ i, i < 279 → pj_T i = 2 → i = 4 := by decide +kernel
theorem l_3 : ∀ i, i < 279 → pj_T i = 3 → ((10 ≤ i ∧ i < 90 ∧ i % 2 = 0) ∨ i ∈ [8, 118, 147, 123, 152, 133, 135, 137, 139, 162, 164, 166, 168, 176, 181, 190, 197, 204, 211, 213, 215]) := by decide +kernel
theorem k_3 (i : Nat) (h : i < 279) (e : pj_T i = 3) : (10 ≤ i ∧ i < 90 ∧ i % 2 = 0) ∨ i = 8 ∨ i = 118 ∨ i = 147 ∨ i = 123 ∨ i = 152 ∨ i = 133 ∨ i = 135 ∨ i = 137 ∨ i = 139 ∨ i = 162 ∨ i = 164 ∨ i = 166 ∨ i = 168 ∨ i = 176 ∨ i = 181 ∨ i = 190 ∨ i = 197 ∨ i = 204 ∨ i = 211 ∨ i = 213 ∨ i = 215 := by
  have q := l_3 i h e
  simpa only [List.mem_cons, List.not_mem_nil, or_false] using q
theorem l_4 : ∀ i, i < 279 → pj_T i = 4 → (i ∈ [92, 94, 97, 99, 102, 104, 107, 109, 120, 149, 125, 154, 127, 156, 173, 178, 183, 186, 188, 193, 195, 200, 202, 207, 209]) := by decide +kernel
theorem k_4 (i : Nat) (h : i < 279) (e : pj_T i = 4) : i = 92 ∨ i = 94 ∨ i = 97 ∨ i = 99 ∨ i = 102 ∨ i = 104 ∨ i = 107 ∨ i = 109 ∨ i = 120 ∨ i = 149 ∨ i = 125 ∨ i = 154 ∨ i = 127 ∨ i = 156 ∨ i = 173 ∨ i = 178 ∨ i = 183 ∨ i = 186 ∨ i = 188 ∨ i = 193 ∨ i = 195 ∨ i = 200 ∨ i = 202 ∨ i = 207 ∨ i = 209 := by
  have q := l_4 i h e
  simpa only [List.mem_cons, List.not_mem_nil, or_false] using q
theorem k_5 : ∀ i, i < 279 → pj_T i = 5 → (i = 117 ∨ i = 146 ∨ i = 122 ∨ i = 151 ∨ i = 175 ∨ i = 180) := by decide +kernel
theorem k_6 : ∀ i, i < 279 → pj_T i = 6 → (i = 91 ∨ i = 96 ∨ i = 101 ∨ i = 106) := by decide +kernel
theorem k_8 : ∀ i, i < 279 → pj_T i = 8 → (i = 112 ∨ i = 141) := by decide +kernel
theorem k_9 : ∀ i, i < 279 → pj_T i = 9 → (i = 185 ∨ i = 192 ∨ i = 199 ∨ i = 206) := by decide +kernel
theorem k_10 : ∀ i, i < 279 → pj_T i = 10 → i = 170 := by decide +kernel
theorem k_11 : ∀ i, i < 279 → pj_T i = 11 → i = 217 := by decide +kernel
theorem k_24 : ∀ i, i < 279 → pj_T i = 24 → i = 7 := by decide +kernel
theorem k_25 : ∀ i, i < 279 → pj_T i = 25 → i = 90 := by decide +kernel
theorem k_26 : ∀ i, i < 279 → pj_T i = 26 → i = 111 := by decide +kernel
theorem k_27 : ∀ i, i < 279 → pj_T i = 27 → (i = 113 ∨ i = 142) := by decide +kernel
theorem k_28 : ∀ i, i < 279 → pj_T i = 28 → (i = 116 ∨ i = 145) := by decide +kernel
theorem k_29 : ∀ i, i < 279 → pj_T i = 29 → i = 171 := by decide +kernel
theorem one0 : ¬ (1 : Int32) = 0 := by decide
theorem done0 {c u : pj_M} {x : Int32} (Z : pgZ c x) (S : u 217 = mcF x) (B : ∀ a, a < 217 → u a = c a) : pz_done u := by
  obtain ⟨z0, z1, z2, z3, z4, z7, z8, z10, z90, zH, z111, zS, zW, z213, z215, zz217⟩ := Z
  obtain ⟨w1, w2, w3, w4, w5, w6, w7, w8, w9, w10, wP⟩ := zW
  obtain ⟨s01, s02, s03, s04, s05, s06, s07, s08, s09, s010, s011⟩ := zS 0 (by decide)
  obtain ⟨s11, s12, s13, s14, s15, s16, s17, s18, s19, s110, s111⟩ := zS 1 (by decide)
  have r : ∀ a, a < 217 → c a = rZ → u a 0 = 1 ∧ True := fun a h e => by rw [B a h, e]; exact ⟨rfl, trivial⟩
  have dd : ∀ a, a < 217 → c a = dF → u a 0 = 1 ∧ u a 1 = 1 ∧ True := fun a h e => by rw [B a h, e]; exact ⟨rfl, rfl, trivial⟩
  intro i hi
  refine ⟨fun e => ?_, fun e => ?_, fun e => ?_, fun e => ?_, fun e => ?_, fun e => ?_, fun e => ?_, fun _ => trivial, fun e => ?_, fun e => ?_, fun e => ?_, fun e => ?_, fun _ => trivial, fun _ => trivial, fun _ => trivial, fun _ => trivial, fun e => ?_, fun e => ?_, fun e => ?_, fun e => ?_, fun e => ?_, fun e => ?_, fun _ => trivial, fun _ => trivial, fun _ => trivial, fun _ => trivial, fun _ => trivial, fun _ => trivial, fun _ => trivial, fun _ => trivial⟩
  · have := k_0 i hi e
    subst this
    unfold pd_PortGuard
    rw [B 0 (by decide), z0]
    exact ⟨rfl, rfl, rfl, rfl, rfl, rfl, rfl, trivial⟩
  · have := k_1 i hi e
    subst this
    exact dd 1 (by decide) z1
  · have := k_2 i hi e
    subst this
    unfold pd_Mailbox
    rw [B 4 (by decide), z4]
    exact ⟨rfl, rfl, rfl, rfl, trivial⟩
  · rcases k_3 i hi e with ⟨q1, q2, q3⟩ | q | q | q | q | q | q | q | q | q | q | q | q | q | q | q | q | q | q | q | q | q
    · have ek : i = 10 + 2 * ((i - 10) / 2) := by omega
      rw [ek]
      exact r _ (by omega) (z10 _ (by omega))
    · subst q; exact r 8 (by decide) z8
    · subst q; exact r 118 (by decide) s05
    · subst q; exact r 147 (by decide) s15
    · subst q; exact r 123 (by decide) s08
    · subst q; exact r 152 (by decide) s18
    · subst q; exact r 133 (by decide) (s011 0 (by decide))
    · subst q; exact r 135 (by decide) (s011 1 (by decide))
    · subst q; exact r 137 (by decide) (s011 2 (by decide))
    · subst q; exact r 139 (by decide) (s011 3 (by decide))
    · subst q; exact r 162 (by decide) (s111 0 (by decide))
    · subst q; exact r 164 (by decide) (s111 1 (by decide))
    · subst q; exact r 166 (by decide) (s111 2 (by decide))
    · subst q; exact r 168 (by decide) (s111 3 (by decide))
    · subst q; exact r 176 (by decide) w6
    · subst q; exact r 181 (by decide) w9
    · subst q; exact r 190 (by decide) (wP 0 (by decide)).2.2.2
    · subst q; exact r 197 (by decide) (wP 1 (by decide)).2.2.2
    · subst q; exact r 204 (by decide) (wP 2 (by decide)).2.2.2
    · subst q; exact r 211 (by decide) (wP 3 (by decide)).2.2.2
    · subst q; exact r 213 (by decide) z213
    · subst q; exact r 215 (by decide) z215
  · rcases k_4 i hi e with q | q | q | q | q | q | q | q | q | q | q | q | q | q | q | q | q | q | q | q | q | q | q | q | q
    · subst q; exact r 92 (by decide) (zH 0 (by decide)).2.1
    · subst q; exact r 94 (by decide) (zH 0 (by decide)).2.2
    · subst q; exact r 97 (by decide) (zH 1 (by decide)).2.1
    · subst q; exact r 99 (by decide) (zH 1 (by decide)).2.2
    · subst q; exact r 102 (by decide) (zH 2 (by decide)).2.1
    · subst q; exact r 104 (by decide) (zH 2 (by decide)).2.2
    · subst q; exact r 107 (by decide) (zH 3 (by decide)).2.1
    · subst q; exact r 109 (by decide) (zH 3 (by decide)).2.2
    · subst q; exact r 120 (by decide) s06
    · subst q; exact r 149 (by decide) s16
    · subst q; exact r 125 (by decide) s09
    · subst q; exact r 154 (by decide) s19
    · subst q; exact r 127 (by decide) s010
    · subst q; exact r 156 (by decide) s110
    · subst q; exact r 173 (by decide) w4
    · subst q; exact r 178 (by decide) w7
    · subst q; exact r 183 (by decide) w10
    · subst q; exact r 186 (by decide) (wP 0 (by decide)).2.1
    · subst q; exact r 188 (by decide) (wP 0 (by decide)).2.2.1
    · subst q; exact r 193 (by decide) (wP 1 (by decide)).2.1
    · subst q; exact r 195 (by decide) (wP 1 (by decide)).2.2.1
    · subst q; exact r 200 (by decide) (wP 2 (by decide)).2.1
    · subst q; exact r 202 (by decide) (wP 2 (by decide)).2.2.1
    · subst q; exact r 207 (by decide) (wP 3 (by decide)).2.1
    · subst q; exact r 209 (by decide) (wP 3 (by decide)).2.2.1
  · rcases k_5 i hi e with q | q | q | q | q | q
    · subst q; exact dd 117 (by decide) s04
    · subst q; exact dd 146 (by decide) s14
    · subst q; exact dd 122 (by decide) s07
    · subst q; exact dd 151 (by decide) s17
    · subst q; exact dd 175 (by decide) w5
    · subst q; exact dd 180 (by decide) w8
  · have hh : ∀ h, h < 4 → i = 91 + 5 * h → pd_Host (u i) := by
      intro h hh ei
      unfold pd_Host
      rw [B i (by omega), ei, (zH h hh).1]
      exact ⟨rfl, rfl, rfl, trivial⟩
    rcases k_6 i hi e with q | q | q | q
    · exact hh 0 (by decide) q
    · exact hh 1 (by decide) q
    · exact hh 2 (by decide) q
    · exact hh 3 (by decide) q
  · have hh : ∀ s, s < 2 → i = 112 + 29 * s → pd_Server (u i) := by
      intro s hs ei
      unfold pd_Server
      rw [B i (by omega), ei, (zS s hs).1]
      exact ⟨rfl, rfl, rfl, rfl, rfl, rfl, rfl, rfl, rfl, trivial⟩
    rcases k_8 i hi e with q | q
    · exact hh 0 (by decide) q
    · exact hh 1 (by decide) q
  · have hh : ∀ p, p < 4 → i = 185 + 7 * p → pd_Port (u i) := by
      intro p hp ei
      unfold pd_Port
      rw [B i (by omega), ei, (wP p hp).1]
      exact ⟨rfl, rfl, rfl, trivial⟩
    rcases k_9 i hi e with q | q | q | q
    · exact hh 0 (by decide) q
    · exact hh 1 (by decide) q
    · exact hh 2 (by decide) q
    · exact hh 3 (by decide) q
  · have := k_10 i hi e
    subst this
    unfold pd_Switch
    rw [B 170 (by decide), w1]
    exact ⟨rfl, rfl, rfl, rfl, rfl, rfl, trivial⟩
  · have := k_11 i hi e
    subst this
    unfold pd_Model
    rw [S]
    exact ⟨rfl, rfl, rfl, rfl, rfl, rfl, rfl, rfl, rfl, rfl, rfl, rfl, rfl, rfl, rfl, rfl, rfl, rfl, rfl, rfl, rfl, rfl, rfl, rfl, rfl, rfl, rfl, rfl, rfl, rfl, rfl, rfl, rfl, rfl, rfl, rfl, rfl, rfl, rfl, rfl, rfl, rfl, rfl, rfl, rfl, rfl, rfl, rfl, rfl, rfl, rfl, rfl, rfl, rfl, rfl, rfl, rfl, rfl, rfl, rfl, rfl, trivial⟩
  · have := k_24 i hi e
    subst this
    intro q hq z
    rw [B 7 (by decide), z7 q hq] at z
    have := (nI_e 0 (by omega) (by decide)).mp z
    omega
  · have := k_25 i hi e
    subst this
    intro q hq z
    rw [B 90 (by decide), z90 q hq] at z
    exact one0 z
  · have := k_26 i hi e
    subst this
    intro q hq z
    rw [B 111 (by decide), z111 q hq] at z
    exact one0 z
  · rcases k_27 i hi e with q | q
    · subst q
      intro q hq z
      rw [B 113 (by decide), s02 q hq] at z
      have := (nI_e 0 (by omega) (by decide)).mp z
      omega
    · subst q
      intro q hq z
      rw [B 142 (by decide), s12 q hq] at z
      have := (nI_e 0 (by omega) (by decide)).mp z
      omega
  · rcases k_28 i hi e with q | q
    · subst q
      intro q hq z
      rw [B 116 (by decide), s03 q hq] at z
      exact one0 z
    · subst q
      intro q hq z
      rw [B 145 (by decide), s13 q hq] at z
      exact one0 z
  · have := k_29 i hi e
    subst this
    intro q hq z
    rw [B 171 (by decide), w2 q hq] at z
    exact one0 z
theorem pure_all {L : Nat} (hL : L ≤ 2561) (xs : Nat → Int32) : pure_law L xs := by
  refine sn_PG (fun u1 Z => ?_)
  have z := Z.2.2.2.2.2.2.2.2.2.2.2.2.2.2.2
  refine ⟨z 217 (by decide), mo_0 (b := u1) (z 217 (by decide)) (fun _ _ => rfl) (fun a h => z a (by omega)) (fun u2 S B W E228 E267 E268 E271 E278 => ⟨done0 Z S B, la_26 hL (rel0 Z S B W E228 E267 E268 E271 E278)⟩)⟩
