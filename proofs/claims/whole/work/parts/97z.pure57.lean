/-! The pure part: the first state: the reference -/
def n4F (f : Nat → Int32) : Nat → Int32 := up (up (up (up f 0 (-1)) 1 (-1)) 2 (-1)) 3 (-1)
def m8F (f : Nat → Int32) : Nat → Int32 := up (up (up (up (n4F f) 4 (-1)) 5 (-1)) 6 (-1)) 7 (-1)
theorem mo_n4 {u : pj_M} {A : Nat} {c : Prop} {F : pj_M → Prop} (hc : c) (kk : ∀ u', u' A = n4F (u A) → (∀ a, a ≠ A → u' a = u a) → F u') : c ∧ vp_in 0 4 ∧ pj_put u A (0 : Int32).toNatClampNeg (-1) fun u4 => (c ∧ vp_in 1 4 ∧ pj_put u4 A (1 : Int32).toNatClampNeg (-1) fun u5 => (c ∧ vp_in 2 4 ∧ pj_put u5 A (2 : Int32).toNatClampNeg (-1) fun u6 => (c ∧ vp_in 3 4 ∧ pj_put u6 A (3 : Int32).toNatClampNeg (-1) fun u7 => F u7))) :=
  ⟨hc, v4 (by decide : 0 < 4), pu ⟨hc, v4 (by decide : 1 < 4), pu ⟨hc, v4 (by decide : 2 < 4), pu ⟨hc, v4 (by decide : 3 < 4), pu (kk _ (by rw [st_up, st_up, st_up, st_up]; rfl) (fun a h => by rw [ps_i h, ps_i h, ps_i h, ps_i h]))⟩⟩⟩⟩
theorem mo_n8 {u : pj_M} {A : Nat} {c : Prop} {F : pj_M → Prop} (hc : c) (kk : ∀ u', u' A = m8F (u A) → (∀ a, a ≠ A → u' a = u a) → F u') : c ∧ vp_in 0 8 ∧ pj_put u A (0 : Int32).toNatClampNeg (-1) fun u4 => (c ∧ vp_in 1 8 ∧ pj_put u4 A (1 : Int32).toNatClampNeg (-1) fun u5 => (c ∧ vp_in 2 8 ∧ pj_put u5 A (2 : Int32).toNatClampNeg (-1) fun u6 => (c ∧ vp_in 3 8 ∧ pj_put u6 A (3 : Int32).toNatClampNeg (-1) fun u7 => (c ∧ vp_in 4 8 ∧ pj_put u7 A (4 : Int32).toNatClampNeg (-1) fun u8 => (c ∧ vp_in 5 8 ∧ pj_put u8 A (5 : Int32).toNatClampNeg (-1) fun u9 => (c ∧ vp_in 6 8 ∧ pj_put u9 A (6 : Int32).toNatClampNeg (-1) fun u10 => (c ∧ vp_in 7 8 ∧ pj_put u10 A (7 : Int32).toNatClampNeg (-1) fun u11 => F u11))))))) :=
  ⟨hc, v8 (by decide : 0 < 8), pu ⟨hc, v8 (by decide : 1 < 8), pu ⟨hc, v8 (by decide : 2 < 8), pu ⟨hc, v8 (by decide : 3 < 8), pu ⟨hc, v8 (by decide : 4 < 8), pu ⟨hc, v8 (by decide : 5 < 8), pu ⟨hc, v8 (by decide : 6 < 8), pu ⟨hc, v8 (by decide : 7 < 8), pu (kk _ (by rw [st_up, st_up, st_up, st_up, st_up, st_up, st_up, st_up]; rfl) (fun a h => by rw [ps_i h, ps_i h, ps_i h, ps_i h, ps_i h, ps_i h, ps_i h, ps_i h]))⟩⟩⟩⟩⟩⟩⟩⟩
theorem mo_g {u : pj_M} {k : Nat} {v : Int32} {F : pj_M → Prop} (kk : ∀ u', u' 217 = up (u 217) k v → (∀ a, a ≠ 217 → u' a = u a) → F u') : pj_put u 217 k v F := kk _ st_up (fun a h => ps_i h)
def mc_0 : Nat → Int32 := zz
def mc_69 : Nat → Int32 := up (up (up (up (up (up (up (up (mc_0) 1 1) 2 1) 3 1) 5 1) 6 1) 7 1) 8 1) 10 1
def mc_144 : Nat → Int32 := up (up (up (up (up (up (up (up (mc_69) 12 1) 17 1) 19 1) 20 1) 21 1) 22 1) 23 1) 24 1
def mc_200 : Nat → Int32 := up (up (up (up (up (up (up (up (mc_144) 25 1) 26 1) 27 1) 28 1) 29 1) 30 1) 31 1) 32 1
def mc_263 : Nat → Int32 := up (up (up (up (up (up (up (up (mc_200) 33 1) 34 1) 35 1) 36 1) 37 1) 38 1) 39 1) 40 1
def mc_327 : Nat → Int32 := up (up (up (up (up (up (up (up (mc_263) 41 1) 42 1) 43 1) 44 1) 45 1) 46 1) 47 1) 48 1
def mc_384 : Nat → Int32 := up (up (up (up (up (up (up (up (mc_327) 49 1) 50 1) 51 1) 52 1) 53 1) 54 1) 55 1) 56 1
def mc_488 : Nat → Int32 := up (up (up (up (up (up (up (up (mc_384) 57 1) 58 1) 59 1) 60 1) 61 1) 62 1) 63 1) 64 1
def mcF (x : Int32) : Nat → Int32 := up (up (up (up (up (up (mc_488) 65 1) 66 1) 67 1) 70 1) 71 1) 0 x
theorem mo_488 {u b : pj_M} {x : Int32} {K : pj_M → Prop} (S : u 217 = mc_488) (B : ∀ a, a < 217 → u a = b a) (W : ∀ a, 217 < a → a ≠ 228 → a ≠ 267 → a ≠ 268 → a ≠ 271 → u a = zz) (E228 : u 228 = n4F zz) (E267 : u 267 = n4F zz) (E268 : u 268 = n4F zz) (E271 : u 271 = n4F zz) (kk : ∀ u', u' 217 = mcF x → (∀ a, a < 217 → u' a = b a) → (∀ a, 217 < a → a ≠ 228 → a ≠ 267 → a ≠ 268 → a ≠ 271 → a ≠ 278 → u' a = zz) → u' 228 = n4F zz → u' 267 = n4F zz → u' 268 = n4F zz → u' 271 = n4F zz → u' 278 = m8F zz → K u') : pb_Mo_init_488 279 K 274 u x := by
  refine ⟨by decide, by decide, W _ (by decide) (by decide) (by decide) (by decide) (by decide), by decide, rfl, mo_g (fun u_1 s1 o1 => ?_)⟩
  have S1 : u_1 217 = up (mc_488) 65 1 := by rw [s1, S]
  have B1 : ∀ a, a < 217 → u_1 a = b a := fun a h => (o1 a (by omega)).trans (B a h)
  have W1 : ∀ a, 217 < a → a ≠ 228 → a ≠ 267 → a ≠ 268 → a ≠ 271 → u_1 a = zz := fun a h h228 h267 h268 h271 => (o1 a (by omega)).trans (W a h h228 h267 h268 h271)
  have E228_1 : u_1 228 = n4F zz := (o1 _ (by decide)).trans E228
  have E267_1 : u_1 267 = n4F zz := (o1 _ (by decide)).trans E267
  have E268_1 : u_1 268 = n4F zz := (o1 _ (by decide)).trans E268
  have E271_1 : u_1 271 = n4F zz := (o1 _ (by decide)).trans E271
  refine ⟨by decide, by decide, W1 _ (by decide) (by decide) (by decide) (by decide) (by decide), by decide, rfl, mo_g (fun u_2 s2 o2 => ?_)⟩
  have S2 : u_2 217 = up (up (mc_488) 65 1) 66 1 := by rw [s2, S1]
  have B2 : ∀ a, a < 217 → u_2 a = b a := fun a h => (o2 a (by omega)).trans (B1 a h)
  have W2 : ∀ a, 217 < a → a ≠ 228 → a ≠ 267 → a ≠ 268 → a ≠ 271 → u_2 a = zz := fun a h h228 h267 h268 h271 => (o2 a (by omega)).trans (W1 a h h228 h267 h268 h271)
  have E228_2 : u_2 228 = n4F zz := (o2 _ (by decide)).trans E228_1
  have E267_2 : u_2 267 = n4F zz := (o2 _ (by decide)).trans E267_1
  have E268_2 : u_2 268 = n4F zz := (o2 _ (by decide)).trans E268_1
  have E271_2 : u_2 271 = n4F zz := (o2 _ (by decide)).trans E271_1
  refine ⟨by decide, by decide, W2 _ (by decide) (by decide) (by decide) (by decide) (by decide), by decide, rfl, mo_g (fun u_3 s3 o3 => ?_)⟩
  have S3 : u_3 217 = up (up (up (mc_488) 65 1) 66 1) 67 1 := by rw [s3, S2]
  have B3 : ∀ a, a < 217 → u_3 a = b a := fun a h => (o3 a (by omega)).trans (B2 a h)
  have W3 : ∀ a, 217 < a → a ≠ 228 → a ≠ 267 → a ≠ 268 → a ≠ 271 → u_3 a = zz := fun a h h228 h267 h268 h271 => (o3 a (by omega)).trans (W2 a h h228 h267 h268 h271)
  have E228_3 : u_3 228 = n4F zz := (o3 _ (by decide)).trans E228_2
  have E267_3 : u_3 267 = n4F zz := (o3 _ (by decide)).trans E267_2
  have E268_3 : u_3 268 = n4F zz := (o3 _ (by decide)).trans E268_2
  have E271_3 : u_3 271 = n4F zz := (o3 _ (by decide)).trans E271_2
  refine ⟨by decide, by decide, W3 _ (by decide) (by decide) (by decide) (by decide) (by decide), by decide, rfl, mo_g (fun u_4 s4 o4 => ?_)⟩
  have S4 : u_4 217 = up (up (up (up (mc_488) 65 1) 66 1) 67 1) 70 1 := by rw [s4, S3]
  have B4 : ∀ a, a < 217 → u_4 a = b a := fun a h => (o4 a (by omega)).trans (B3 a h)
  have W4 : ∀ a, 217 < a → a ≠ 228 → a ≠ 267 → a ≠ 268 → a ≠ 271 → u_4 a = zz := fun a h h228 h267 h268 h271 => (o4 a (by omega)).trans (W3 a h h228 h267 h268 h271)
  have E228_4 : u_4 228 = n4F zz := (o4 _ (by decide)).trans E228_3
  have E267_4 : u_4 267 = n4F zz := (o4 _ (by decide)).trans E267_3
  have E268_4 : u_4 268 = n4F zz := (o4 _ (by decide)).trans E268_3
  have E271_4 : u_4 271 = n4F zz := (o4 _ (by decide)).trans E271_3
  refine ⟨by decide, by decide, W4 _ (by decide) (by decide) (by decide) (by decide) (by decide), mo_n8 (by decide) (fun v_5 e5 p5 => ⟨by decide, rfl, mo_g (fun u_5 s5 o5 => ?_)⟩)⟩
  have S5 : u_5 217 = up (up (up (up (up (mc_488) 65 1) 66 1) 67 1) 70 1) 71 1 := by rw [s5, p5 217 (by decide), S4]
  have B5 : ∀ a, a < 217 → u_5 a = b a := fun a h => (o5 a (by omega)).trans ((p5 a (by omega)).trans (B4 a h))
  have W5 : ∀ a, 217 < a → a ≠ 228 → a ≠ 267 → a ≠ 268 → a ≠ 271 → a ≠ 278 → u_5 a = zz := fun a h h228 h267 h268 h271 h278 => (o5 a (by omega)).trans ((p5 a h278).trans (W4 a h h228 h267 h268 h271))
  have E228_5 : u_5 228 = n4F zz := (o5 _ (by decide)).trans ((p5 _ (by decide)).trans E228_4)
  have E267_5 : u_5 267 = n4F zz := (o5 _ (by decide)).trans ((p5 _ (by decide)).trans E267_4)
  have E268_5 : u_5 268 = n4F zz := (o5 _ (by decide)).trans ((p5 _ (by decide)).trans E268_4)
  have E271_5 : u_5 271 = n4F zz := (o5 _ (by decide)).trans ((p5 _ (by decide)).trans E271_4)
  have E278_5 : u_5 278 = m8F zz := by
    have q : v_5 278 = m8F (u_4 278) := e5
    rw [o5 _ (by decide), q, W4 278 (by decide) (by decide) (by decide) (by decide) (by decide)]
  refine ⟨by decide, mo_g (fun u_6 s6 o6 => ⟨rfl, ?_⟩)⟩
  refine kk u_6 (by rw [s6, S5]; rfl) (fun a h => (o6 a (by omega)).trans (B5 a h)) (fun a h h228 h267 h268 h271 h278 => (o6 a (by omega)).trans (W5 a h h228 h267 h268 h271 h278)) ((o6 _ (by decide)).trans E228_5) ((o6 _ (by decide)).trans E267_5) ((o6 _ (by decide)).trans E268_5) ((o6 _ (by decide)).trans E271_5) ((o6 _ (by decide)).trans E278_5)
theorem mo_384 {u b : pj_M} {x : Int32} {K : pj_M → Prop} (S : u 217 = mc_384) (B : ∀ a, a < 217 → u a = b a) (W : ∀ a, 217 < a → a ≠ 228 → u a = zz) (E228 : u 228 = n4F zz) (kk : ∀ u', u' 217 = mcF x → (∀ a, a < 217 → u' a = b a) → (∀ a, 217 < a → a ≠ 228 → a ≠ 267 → a ≠ 268 → a ≠ 271 → a ≠ 278 → u' a = zz) → u' 228 = n4F zz → u' 267 = n4F zz → u' 268 = n4F zz → u' 271 = n4F zz → u' 278 = m8F zz → K u') : pb_Mo_init_384 279 K 266 u x := by
  refine ⟨by decide, by decide, W _ (by decide) (by decide), by decide, rfl, mo_g (fun u_1 s1 o1 => ?_)⟩
  have S1 : u_1 217 = up (mc_384) 57 1 := by rw [s1, S]
  have B1 : ∀ a, a < 217 → u_1 a = b a := fun a h => (o1 a (by omega)).trans (B a h)
  have W1 : ∀ a, 217 < a → a ≠ 228 → u_1 a = zz := fun a h h228 => (o1 a (by omega)).trans (W a h h228)
  have E228_1 : u_1 228 = n4F zz := (o1 _ (by decide)).trans E228
  refine ⟨by decide, by decide, W1 _ (by decide) (by decide), mo_n4 (by decide) (fun v_2 e2 p2 => ⟨by decide, rfl, mo_g (fun u_2 s2 o2 => ?_)⟩)⟩
  have S2 : u_2 217 = up (up (mc_384) 57 1) 58 1 := by rw [s2, p2 217 (by decide), S1]
  have B2 : ∀ a, a < 217 → u_2 a = b a := fun a h => (o2 a (by omega)).trans ((p2 a (by omega)).trans (B1 a h))
  have W2 : ∀ a, 217 < a → a ≠ 228 → a ≠ 267 → u_2 a = zz := fun a h h228 h267 => (o2 a (by omega)).trans ((p2 a h267).trans (W1 a h h228))
  have E228_2 : u_2 228 = n4F zz := (o2 _ (by decide)).trans ((p2 _ (by decide)).trans E228_1)
  have E267_2 : u_2 267 = n4F zz := by
    have q : v_2 267 = n4F (u_1 267) := e2
    rw [o2 _ (by decide), q, W1 267 (by decide) (by decide)]
  refine ⟨by decide, by decide, W2 _ (by decide) (by decide) (by decide), mo_n4 (by decide) (fun v_3 e3 p3 => ⟨by decide, rfl, mo_g (fun u_3 s3 o3 => ?_)⟩)⟩
  have S3 : u_3 217 = up (up (up (mc_384) 57 1) 58 1) 59 1 := by rw [s3, p3 217 (by decide), S2]
  have B3 : ∀ a, a < 217 → u_3 a = b a := fun a h => (o3 a (by omega)).trans ((p3 a (by omega)).trans (B2 a h))
  have W3 : ∀ a, 217 < a → a ≠ 228 → a ≠ 267 → a ≠ 268 → u_3 a = zz := fun a h h228 h267 h268 => (o3 a (by omega)).trans ((p3 a h268).trans (W2 a h h228 h267))
  have E228_3 : u_3 228 = n4F zz := (o3 _ (by decide)).trans ((p3 _ (by decide)).trans E228_2)
  have E267_3 : u_3 267 = n4F zz := (o3 _ (by decide)).trans ((p3 _ (by decide)).trans E267_2)
  have E268_3 : u_3 268 = n4F zz := by
    have q : v_3 268 = n4F (u_2 268) := e3
    rw [o3 _ (by decide), q, W2 268 (by decide) (by decide) (by decide)]
  refine ⟨by decide, by decide, W3 _ (by decide) (by decide) (by decide) (by decide), by decide, rfl, mo_g (fun u_4 s4 o4 => ?_)⟩
  have S4 : u_4 217 = up (up (up (up (mc_384) 57 1) 58 1) 59 1) 60 1 := by rw [s4, S3]
  have B4 : ∀ a, a < 217 → u_4 a = b a := fun a h => (o4 a (by omega)).trans (B3 a h)
  have W4 : ∀ a, 217 < a → a ≠ 228 → a ≠ 267 → a ≠ 268 → u_4 a = zz := fun a h h228 h267 h268 => (o4 a (by omega)).trans (W3 a h h228 h267 h268)
  have E228_4 : u_4 228 = n4F zz := (o4 _ (by decide)).trans E228_3
  have E267_4 : u_4 267 = n4F zz := (o4 _ (by decide)).trans E267_3
  have E268_4 : u_4 268 = n4F zz := (o4 _ (by decide)).trans E268_3
  refine ⟨by decide, by decide, W4 _ (by decide) (by decide) (by decide) (by decide), by decide, rfl, mo_g (fun u_5 s5 o5 => ?_)⟩
  have S5 : u_5 217 = up (up (up (up (up (mc_384) 57 1) 58 1) 59 1) 60 1) 61 1 := by rw [s5, S4]
  have B5 : ∀ a, a < 217 → u_5 a = b a := fun a h => (o5 a (by omega)).trans (B4 a h)
  have W5 : ∀ a, 217 < a → a ≠ 228 → a ≠ 267 → a ≠ 268 → u_5 a = zz := fun a h h228 h267 h268 => (o5 a (by omega)).trans (W4 a h h228 h267 h268)
  have E228_5 : u_5 228 = n4F zz := (o5 _ (by decide)).trans E228_4
  have E267_5 : u_5 267 = n4F zz := (o5 _ (by decide)).trans E267_4
  have E268_5 : u_5 268 = n4F zz := (o5 _ (by decide)).trans E268_4
  refine ⟨by decide, by decide, W5 _ (by decide) (by decide) (by decide) (by decide), mo_n4 (by decide) (fun v_6 e6 p6 => ⟨by decide, rfl, mo_g (fun u_6 s6 o6 => ?_)⟩)⟩
  have S6 : u_6 217 = up (up (up (up (up (up (mc_384) 57 1) 58 1) 59 1) 60 1) 61 1) 62 1 := by rw [s6, p6 217 (by decide), S5]
  have B6 : ∀ a, a < 217 → u_6 a = b a := fun a h => (o6 a (by omega)).trans ((p6 a (by omega)).trans (B5 a h))
  have W6 : ∀ a, 217 < a → a ≠ 228 → a ≠ 267 → a ≠ 268 → a ≠ 271 → u_6 a = zz := fun a h h228 h267 h268 h271 => (o6 a (by omega)).trans ((p6 a h271).trans (W5 a h h228 h267 h268))
  have E228_6 : u_6 228 = n4F zz := (o6 _ (by decide)).trans ((p6 _ (by decide)).trans E228_5)
  have E267_6 : u_6 267 = n4F zz := (o6 _ (by decide)).trans ((p6 _ (by decide)).trans E267_5)
  have E268_6 : u_6 268 = n4F zz := (o6 _ (by decide)).trans ((p6 _ (by decide)).trans E268_5)
  have E271_6 : u_6 271 = n4F zz := by
    have q : v_6 271 = n4F (u_5 271) := e6
    rw [o6 _ (by decide), q, W5 271 (by decide) (by decide) (by decide) (by decide)]
  refine ⟨by decide, by decide, W6 _ (by decide) (by decide) (by decide) (by decide) (by decide), by decide, rfl, mo_g (fun u_7 s7 o7 => ?_)⟩
  have S7 : u_7 217 = up (up (up (up (up (up (up (mc_384) 57 1) 58 1) 59 1) 60 1) 61 1) 62 1) 63 1 := by rw [s7, S6]
  have B7 : ∀ a, a < 217 → u_7 a = b a := fun a h => (o7 a (by omega)).trans (B6 a h)
  have W7 : ∀ a, 217 < a → a ≠ 228 → a ≠ 267 → a ≠ 268 → a ≠ 271 → u_7 a = zz := fun a h h228 h267 h268 h271 => (o7 a (by omega)).trans (W6 a h h228 h267 h268 h271)
  have E228_7 : u_7 228 = n4F zz := (o7 _ (by decide)).trans E228_6
  have E267_7 : u_7 267 = n4F zz := (o7 _ (by decide)).trans E267_6
  have E268_7 : u_7 268 = n4F zz := (o7 _ (by decide)).trans E268_6
  have E271_7 : u_7 271 = n4F zz := (o7 _ (by decide)).trans E271_6
  refine ⟨by decide, by decide, W7 _ (by decide) (by decide) (by decide) (by decide) (by decide), by decide, rfl, mo_g (fun u_8 s8 o8 => ?_)⟩
  have S8 : u_8 217 = up (up (up (up (up (up (up (up (mc_384) 57 1) 58 1) 59 1) 60 1) 61 1) 62 1) 63 1) 64 1 := by rw [s8, S7]
  have B8 : ∀ a, a < 217 → u_8 a = b a := fun a h => (o8 a (by omega)).trans (B7 a h)
  have W8 : ∀ a, 217 < a → a ≠ 228 → a ≠ 267 → a ≠ 268 → a ≠ 271 → u_8 a = zz := fun a h h228 h267 h268 h271 => (o8 a (by omega)).trans (W7 a h h228 h267 h268 h271)
  have E228_8 : u_8 228 = n4F zz := (o8 _ (by decide)).trans E228_7
  have E267_8 : u_8 267 = n4F zz := (o8 _ (by decide)).trans E267_7
  have E268_8 : u_8 268 = n4F zz := (o8 _ (by decide)).trans E268_7
  have E271_8 : u_8 271 = n4F zz := (o8 _ (by decide)).trans E271_7
  exact mo_488 S8 B8 W8 E228_8 E267_8 E268_8 E271_8 kk
theorem mo_327 {u b : pj_M} {x : Int32} {K : pj_M → Prop} (S : u 217 = mc_327) (B : ∀ a, a < 217 → u a = b a) (W : ∀ a, 217 < a → a ≠ 228 → u a = zz) (E228 : u 228 = n4F zz) (kk : ∀ u', u' 217 = mcF x → (∀ a, a < 217 → u' a = b a) → (∀ a, 217 < a → a ≠ 228 → a ≠ 267 → a ≠ 268 → a ≠ 271 → a ≠ 278 → u' a = zz) → u' 228 = n4F zz → u' 267 = n4F zz → u' 268 = n4F zz → u' 271 = n4F zz → u' 278 = m8F zz → K u') : pb_Mo_init_327 279 K 258 u x := by
  refine ⟨by decide, by decide, W _ (by decide) (by decide), by decide, rfl, mo_g (fun u_1 s1 o1 => ?_)⟩
  have S1 : u_1 217 = up (mc_327) 49 1 := by rw [s1, S]
  have B1 : ∀ a, a < 217 → u_1 a = b a := fun a h => (o1 a (by omega)).trans (B a h)
  have W1 : ∀ a, 217 < a → a ≠ 228 → u_1 a = zz := fun a h h228 => (o1 a (by omega)).trans (W a h h228)
  have E228_1 : u_1 228 = n4F zz := (o1 _ (by decide)).trans E228
  refine ⟨by decide, by decide, W1 _ (by decide) (by decide), by decide, rfl, mo_g (fun u_2 s2 o2 => ?_)⟩
  have S2 : u_2 217 = up (up (mc_327) 49 1) 50 1 := by rw [s2, S1]
  have B2 : ∀ a, a < 217 → u_2 a = b a := fun a h => (o2 a (by omega)).trans (B1 a h)
  have W2 : ∀ a, 217 < a → a ≠ 228 → u_2 a = zz := fun a h h228 => (o2 a (by omega)).trans (W1 a h h228)
  have E228_2 : u_2 228 = n4F zz := (o2 _ (by decide)).trans E228_1
  refine ⟨by decide, by decide, W2 _ (by decide) (by decide), by decide, rfl, mo_g (fun u_3 s3 o3 => ?_)⟩
  have S3 : u_3 217 = up (up (up (mc_327) 49 1) 50 1) 51 1 := by rw [s3, S2]
  have B3 : ∀ a, a < 217 → u_3 a = b a := fun a h => (o3 a (by omega)).trans (B2 a h)
  have W3 : ∀ a, 217 < a → a ≠ 228 → u_3 a = zz := fun a h h228 => (o3 a (by omega)).trans (W2 a h h228)
  have E228_3 : u_3 228 = n4F zz := (o3 _ (by decide)).trans E228_2
  refine ⟨by decide, by decide, W3 _ (by decide) (by decide), by decide, rfl, mo_g (fun u_4 s4 o4 => ?_)⟩
  have S4 : u_4 217 = up (up (up (up (mc_327) 49 1) 50 1) 51 1) 52 1 := by rw [s4, S3]
  have B4 : ∀ a, a < 217 → u_4 a = b a := fun a h => (o4 a (by omega)).trans (B3 a h)
  have W4 : ∀ a, 217 < a → a ≠ 228 → u_4 a = zz := fun a h h228 => (o4 a (by omega)).trans (W3 a h h228)
  have E228_4 : u_4 228 = n4F zz := (o4 _ (by decide)).trans E228_3
  refine ⟨by decide, by decide, W4 _ (by decide) (by decide), by decide, rfl, mo_g (fun u_5 s5 o5 => ?_)⟩
  have S5 : u_5 217 = up (up (up (up (up (mc_327) 49 1) 50 1) 51 1) 52 1) 53 1 := by rw [s5, S4]
  have B5 : ∀ a, a < 217 → u_5 a = b a := fun a h => (o5 a (by omega)).trans (B4 a h)
  have W5 : ∀ a, 217 < a → a ≠ 228 → u_5 a = zz := fun a h h228 => (o5 a (by omega)).trans (W4 a h h228)
  have E228_5 : u_5 228 = n4F zz := (o5 _ (by decide)).trans E228_4
  refine ⟨by decide, by decide, W5 _ (by decide) (by decide), by decide, rfl, mo_g (fun u_6 s6 o6 => ?_)⟩
  have S6 : u_6 217 = up (up (up (up (up (up (mc_327) 49 1) 50 1) 51 1) 52 1) 53 1) 54 1 := by rw [s6, S5]
  have B6 : ∀ a, a < 217 → u_6 a = b a := fun a h => (o6 a (by omega)).trans (B5 a h)
  have W6 : ∀ a, 217 < a → a ≠ 228 → u_6 a = zz := fun a h h228 => (o6 a (by omega)).trans (W5 a h h228)
  have E228_6 : u_6 228 = n4F zz := (o6 _ (by decide)).trans E228_5
  refine ⟨by decide, by decide, W6 _ (by decide) (by decide), by decide, rfl, mo_g (fun u_7 s7 o7 => ?_)⟩
  have S7 : u_7 217 = up (up (up (up (up (up (up (mc_327) 49 1) 50 1) 51 1) 52 1) 53 1) 54 1) 55 1 := by rw [s7, S6]
  have B7 : ∀ a, a < 217 → u_7 a = b a := fun a h => (o7 a (by omega)).trans (B6 a h)
  have W7 : ∀ a, 217 < a → a ≠ 228 → u_7 a = zz := fun a h h228 => (o7 a (by omega)).trans (W6 a h h228)
  have E228_7 : u_7 228 = n4F zz := (o7 _ (by decide)).trans E228_6
  refine ⟨by decide, by decide, W7 _ (by decide) (by decide), by decide, rfl, mo_g (fun u_8 s8 o8 => ?_)⟩
  have S8 : u_8 217 = up (up (up (up (up (up (up (up (mc_327) 49 1) 50 1) 51 1) 52 1) 53 1) 54 1) 55 1) 56 1 := by rw [s8, S7]
  have B8 : ∀ a, a < 217 → u_8 a = b a := fun a h => (o8 a (by omega)).trans (B7 a h)
  have W8 : ∀ a, 217 < a → a ≠ 228 → u_8 a = zz := fun a h h228 => (o8 a (by omega)).trans (W7 a h h228)
  have E228_8 : u_8 228 = n4F zz := (o8 _ (by decide)).trans E228_7
  exact mo_384 S8 B8 W8 E228_8 kk
theorem mo_263 {u b : pj_M} {x : Int32} {K : pj_M → Prop} (S : u 217 = mc_263) (B : ∀ a, a < 217 → u a = b a) (W : ∀ a, 217 < a → a ≠ 228 → u a = zz) (E228 : u 228 = n4F zz) (kk : ∀ u', u' 217 = mcF x → (∀ a, a < 217 → u' a = b a) → (∀ a, 217 < a → a ≠ 228 → a ≠ 267 → a ≠ 268 → a ≠ 271 → a ≠ 278 → u' a = zz) → u' 228 = n4F zz → u' 267 = n4F zz → u' 268 = n4F zz → u' 271 = n4F zz → u' 278 = m8F zz → K u') : pb_Mo_init_263 279 K 250 u x := by
  refine ⟨by decide, by decide, W _ (by decide) (by decide), by decide, rfl, mo_g (fun u_1 s1 o1 => ?_)⟩
  have S1 : u_1 217 = up (mc_263) 41 1 := by rw [s1, S]
  have B1 : ∀ a, a < 217 → u_1 a = b a := fun a h => (o1 a (by omega)).trans (B a h)
  have W1 : ∀ a, 217 < a → a ≠ 228 → u_1 a = zz := fun a h h228 => (o1 a (by omega)).trans (W a h h228)
  have E228_1 : u_1 228 = n4F zz := (o1 _ (by decide)).trans E228
  refine ⟨by decide, by decide, W1 _ (by decide) (by decide), by decide, rfl, mo_g (fun u_2 s2 o2 => ?_)⟩
  have S2 : u_2 217 = up (up (mc_263) 41 1) 42 1 := by rw [s2, S1]
  have B2 : ∀ a, a < 217 → u_2 a = b a := fun a h => (o2 a (by omega)).trans (B1 a h)
  have W2 : ∀ a, 217 < a → a ≠ 228 → u_2 a = zz := fun a h h228 => (o2 a (by omega)).trans (W1 a h h228)
  have E228_2 : u_2 228 = n4F zz := (o2 _ (by decide)).trans E228_1
  refine ⟨by decide, by decide, W2 _ (by decide) (by decide), by decide, rfl, mo_g (fun u_3 s3 o3 => ?_)⟩
  have S3 : u_3 217 = up (up (up (mc_263) 41 1) 42 1) 43 1 := by rw [s3, S2]
  have B3 : ∀ a, a < 217 → u_3 a = b a := fun a h => (o3 a (by omega)).trans (B2 a h)
  have W3 : ∀ a, 217 < a → a ≠ 228 → u_3 a = zz := fun a h h228 => (o3 a (by omega)).trans (W2 a h h228)
  have E228_3 : u_3 228 = n4F zz := (o3 _ (by decide)).trans E228_2
  refine ⟨by decide, by decide, W3 _ (by decide) (by decide), by decide, rfl, mo_g (fun u_4 s4 o4 => ?_)⟩
  have S4 : u_4 217 = up (up (up (up (mc_263) 41 1) 42 1) 43 1) 44 1 := by rw [s4, S3]
  have B4 : ∀ a, a < 217 → u_4 a = b a := fun a h => (o4 a (by omega)).trans (B3 a h)
  have W4 : ∀ a, 217 < a → a ≠ 228 → u_4 a = zz := fun a h h228 => (o4 a (by omega)).trans (W3 a h h228)
  have E228_4 : u_4 228 = n4F zz := (o4 _ (by decide)).trans E228_3
  refine ⟨by decide, by decide, W4 _ (by decide) (by decide), by decide, rfl, mo_g (fun u_5 s5 o5 => ?_)⟩
  have S5 : u_5 217 = up (up (up (up (up (mc_263) 41 1) 42 1) 43 1) 44 1) 45 1 := by rw [s5, S4]
  have B5 : ∀ a, a < 217 → u_5 a = b a := fun a h => (o5 a (by omega)).trans (B4 a h)
  have W5 : ∀ a, 217 < a → a ≠ 228 → u_5 a = zz := fun a h h228 => (o5 a (by omega)).trans (W4 a h h228)
  have E228_5 : u_5 228 = n4F zz := (o5 _ (by decide)).trans E228_4
  refine ⟨by decide, by decide, W5 _ (by decide) (by decide), by decide, rfl, mo_g (fun u_6 s6 o6 => ?_)⟩
  have S6 : u_6 217 = up (up (up (up (up (up (mc_263) 41 1) 42 1) 43 1) 44 1) 45 1) 46 1 := by rw [s6, S5]
  have B6 : ∀ a, a < 217 → u_6 a = b a := fun a h => (o6 a (by omega)).trans (B5 a h)
  have W6 : ∀ a, 217 < a → a ≠ 228 → u_6 a = zz := fun a h h228 => (o6 a (by omega)).trans (W5 a h h228)
  have E228_6 : u_6 228 = n4F zz := (o6 _ (by decide)).trans E228_5
  refine ⟨by decide, by decide, W6 _ (by decide) (by decide), by decide, rfl, mo_g (fun u_7 s7 o7 => ?_)⟩
  have S7 : u_7 217 = up (up (up (up (up (up (up (mc_263) 41 1) 42 1) 43 1) 44 1) 45 1) 46 1) 47 1 := by rw [s7, S6]
  have B7 : ∀ a, a < 217 → u_7 a = b a := fun a h => (o7 a (by omega)).trans (B6 a h)
  have W7 : ∀ a, 217 < a → a ≠ 228 → u_7 a = zz := fun a h h228 => (o7 a (by omega)).trans (W6 a h h228)
  have E228_7 : u_7 228 = n4F zz := (o7 _ (by decide)).trans E228_6
  refine ⟨by decide, by decide, W7 _ (by decide) (by decide), by decide, rfl, mo_g (fun u_8 s8 o8 => ?_)⟩
  have S8 : u_8 217 = up (up (up (up (up (up (up (up (mc_263) 41 1) 42 1) 43 1) 44 1) 45 1) 46 1) 47 1) 48 1 := by rw [s8, S7]
  have B8 : ∀ a, a < 217 → u_8 a = b a := fun a h => (o8 a (by omega)).trans (B7 a h)
  have W8 : ∀ a, 217 < a → a ≠ 228 → u_8 a = zz := fun a h h228 => (o8 a (by omega)).trans (W7 a h h228)
  have E228_8 : u_8 228 = n4F zz := (o8 _ (by decide)).trans E228_7
  exact mo_327 S8 B8 W8 E228_8 kk
theorem mo_200 {u b : pj_M} {x : Int32} {K : pj_M → Prop} (S : u 217 = mc_200) (B : ∀ a, a < 217 → u a = b a) (W : ∀ a, 217 < a → a ≠ 228 → u a = zz) (E228 : u 228 = n4F zz) (kk : ∀ u', u' 217 = mcF x → (∀ a, a < 217 → u' a = b a) → (∀ a, 217 < a → a ≠ 228 → a ≠ 267 → a ≠ 268 → a ≠ 271 → a ≠ 278 → u' a = zz) → u' 228 = n4F zz → u' 267 = n4F zz → u' 268 = n4F zz → u' 271 = n4F zz → u' 278 = m8F zz → K u') : pb_Mo_init_200 279 K 242 u x := by
  refine ⟨by decide, by decide, W _ (by decide) (by decide), by decide, rfl, mo_g (fun u_1 s1 o1 => ?_)⟩
  have S1 : u_1 217 = up (mc_200) 33 1 := by rw [s1, S]
  have B1 : ∀ a, a < 217 → u_1 a = b a := fun a h => (o1 a (by omega)).trans (B a h)
  have W1 : ∀ a, 217 < a → a ≠ 228 → u_1 a = zz := fun a h h228 => (o1 a (by omega)).trans (W a h h228)
  have E228_1 : u_1 228 = n4F zz := (o1 _ (by decide)).trans E228
  refine ⟨by decide, by decide, W1 _ (by decide) (by decide), by decide, rfl, mo_g (fun u_2 s2 o2 => ?_)⟩
  have S2 : u_2 217 = up (up (mc_200) 33 1) 34 1 := by rw [s2, S1]
  have B2 : ∀ a, a < 217 → u_2 a = b a := fun a h => (o2 a (by omega)).trans (B1 a h)
  have W2 : ∀ a, 217 < a → a ≠ 228 → u_2 a = zz := fun a h h228 => (o2 a (by omega)).trans (W1 a h h228)
  have E228_2 : u_2 228 = n4F zz := (o2 _ (by decide)).trans E228_1
  refine ⟨by decide, by decide, W2 _ (by decide) (by decide), by decide, rfl, mo_g (fun u_3 s3 o3 => ?_)⟩
  have S3 : u_3 217 = up (up (up (mc_200) 33 1) 34 1) 35 1 := by rw [s3, S2]
  have B3 : ∀ a, a < 217 → u_3 a = b a := fun a h => (o3 a (by omega)).trans (B2 a h)
  have W3 : ∀ a, 217 < a → a ≠ 228 → u_3 a = zz := fun a h h228 => (o3 a (by omega)).trans (W2 a h h228)
  have E228_3 : u_3 228 = n4F zz := (o3 _ (by decide)).trans E228_2
  refine ⟨by decide, by decide, W3 _ (by decide) (by decide), by decide, rfl, mo_g (fun u_4 s4 o4 => ?_)⟩
  have S4 : u_4 217 = up (up (up (up (mc_200) 33 1) 34 1) 35 1) 36 1 := by rw [s4, S3]
  have B4 : ∀ a, a < 217 → u_4 a = b a := fun a h => (o4 a (by omega)).trans (B3 a h)
  have W4 : ∀ a, 217 < a → a ≠ 228 → u_4 a = zz := fun a h h228 => (o4 a (by omega)).trans (W3 a h h228)
  have E228_4 : u_4 228 = n4F zz := (o4 _ (by decide)).trans E228_3
  refine ⟨by decide, by decide, W4 _ (by decide) (by decide), by decide, rfl, mo_g (fun u_5 s5 o5 => ?_)⟩
  have S5 : u_5 217 = up (up (up (up (up (mc_200) 33 1) 34 1) 35 1) 36 1) 37 1 := by rw [s5, S4]
  have B5 : ∀ a, a < 217 → u_5 a = b a := fun a h => (o5 a (by omega)).trans (B4 a h)
  have W5 : ∀ a, 217 < a → a ≠ 228 → u_5 a = zz := fun a h h228 => (o5 a (by omega)).trans (W4 a h h228)
  have E228_5 : u_5 228 = n4F zz := (o5 _ (by decide)).trans E228_4
  refine ⟨by decide, by decide, W5 _ (by decide) (by decide), by decide, rfl, mo_g (fun u_6 s6 o6 => ?_)⟩
  have S6 : u_6 217 = up (up (up (up (up (up (mc_200) 33 1) 34 1) 35 1) 36 1) 37 1) 38 1 := by rw [s6, S5]
  have B6 : ∀ a, a < 217 → u_6 a = b a := fun a h => (o6 a (by omega)).trans (B5 a h)
  have W6 : ∀ a, 217 < a → a ≠ 228 → u_6 a = zz := fun a h h228 => (o6 a (by omega)).trans (W5 a h h228)
  have E228_6 : u_6 228 = n4F zz := (o6 _ (by decide)).trans E228_5
  refine ⟨by decide, by decide, W6 _ (by decide) (by decide), by decide, rfl, mo_g (fun u_7 s7 o7 => ?_)⟩
  have S7 : u_7 217 = up (up (up (up (up (up (up (mc_200) 33 1) 34 1) 35 1) 36 1) 37 1) 38 1) 39 1 := by rw [s7, S6]
  have B7 : ∀ a, a < 217 → u_7 a = b a := fun a h => (o7 a (by omega)).trans (B6 a h)
  have W7 : ∀ a, 217 < a → a ≠ 228 → u_7 a = zz := fun a h h228 => (o7 a (by omega)).trans (W6 a h h228)
  have E228_7 : u_7 228 = n4F zz := (o7 _ (by decide)).trans E228_6
  refine ⟨by decide, by decide, W7 _ (by decide) (by decide), by decide, rfl, mo_g (fun u_8 s8 o8 => ?_)⟩
  have S8 : u_8 217 = up (up (up (up (up (up (up (up (mc_200) 33 1) 34 1) 35 1) 36 1) 37 1) 38 1) 39 1) 40 1 := by rw [s8, S7]
  have B8 : ∀ a, a < 217 → u_8 a = b a := fun a h => (o8 a (by omega)).trans (B7 a h)
  have W8 : ∀ a, 217 < a → a ≠ 228 → u_8 a = zz := fun a h h228 => (o8 a (by omega)).trans (W7 a h h228)
  have E228_8 : u_8 228 = n4F zz := (o8 _ (by decide)).trans E228_7
  exact mo_263 S8 B8 W8 E228_8 kk
theorem mo_144 {u b : pj_M} {x : Int32} {K : pj_M → Prop} (S : u 217 = mc_144) (B : ∀ a, a < 217 → u a = b a) (W : ∀ a, 217 < a → a ≠ 228 → u a = zz) (E228 : u 228 = n4F zz) (kk : ∀ u', u' 217 = mcF x → (∀ a, a < 217 → u' a = b a) → (∀ a, 217 < a → a ≠ 228 → a ≠ 267 → a ≠ 268 → a ≠ 271 → a ≠ 278 → u' a = zz) → u' 228 = n4F zz → u' 267 = n4F zz → u' 268 = n4F zz → u' 271 = n4F zz → u' 278 = m8F zz → K u') : pb_Mo_init_144 279 K 234 u x := by
  refine ⟨by decide, by decide, W _ (by decide) (by decide), by decide, rfl, mo_g (fun u_1 s1 o1 => ?_)⟩
  have S1 : u_1 217 = up (mc_144) 25 1 := by rw [s1, S]
  have B1 : ∀ a, a < 217 → u_1 a = b a := fun a h => (o1 a (by omega)).trans (B a h)
  have W1 : ∀ a, 217 < a → a ≠ 228 → u_1 a = zz := fun a h h228 => (o1 a (by omega)).trans (W a h h228)
  have E228_1 : u_1 228 = n4F zz := (o1 _ (by decide)).trans E228
  refine ⟨by decide, by decide, W1 _ (by decide) (by decide), by decide, rfl, mo_g (fun u_2 s2 o2 => ?_)⟩
  have S2 : u_2 217 = up (up (mc_144) 25 1) 26 1 := by rw [s2, S1]
  have B2 : ∀ a, a < 217 → u_2 a = b a := fun a h => (o2 a (by omega)).trans (B1 a h)
  have W2 : ∀ a, 217 < a → a ≠ 228 → u_2 a = zz := fun a h h228 => (o2 a (by omega)).trans (W1 a h h228)
  have E228_2 : u_2 228 = n4F zz := (o2 _ (by decide)).trans E228_1
  refine ⟨by decide, by decide, W2 _ (by decide) (by decide), by decide, rfl, mo_g (fun u_3 s3 o3 => ?_)⟩
  have S3 : u_3 217 = up (up (up (mc_144) 25 1) 26 1) 27 1 := by rw [s3, S2]
  have B3 : ∀ a, a < 217 → u_3 a = b a := fun a h => (o3 a (by omega)).trans (B2 a h)
  have W3 : ∀ a, 217 < a → a ≠ 228 → u_3 a = zz := fun a h h228 => (o3 a (by omega)).trans (W2 a h h228)
  have E228_3 : u_3 228 = n4F zz := (o3 _ (by decide)).trans E228_2
  refine ⟨by decide, by decide, W3 _ (by decide) (by decide), by decide, rfl, mo_g (fun u_4 s4 o4 => ?_)⟩
  have S4 : u_4 217 = up (up (up (up (mc_144) 25 1) 26 1) 27 1) 28 1 := by rw [s4, S3]
  have B4 : ∀ a, a < 217 → u_4 a = b a := fun a h => (o4 a (by omega)).trans (B3 a h)
  have W4 : ∀ a, 217 < a → a ≠ 228 → u_4 a = zz := fun a h h228 => (o4 a (by omega)).trans (W3 a h h228)
  have E228_4 : u_4 228 = n4F zz := (o4 _ (by decide)).trans E228_3
  refine ⟨by decide, by decide, W4 _ (by decide) (by decide), by decide, rfl, mo_g (fun u_5 s5 o5 => ?_)⟩
  have S5 : u_5 217 = up (up (up (up (up (mc_144) 25 1) 26 1) 27 1) 28 1) 29 1 := by rw [s5, S4]
  have B5 : ∀ a, a < 217 → u_5 a = b a := fun a h => (o5 a (by omega)).trans (B4 a h)
  have W5 : ∀ a, 217 < a → a ≠ 228 → u_5 a = zz := fun a h h228 => (o5 a (by omega)).trans (W4 a h h228)
  have E228_5 : u_5 228 = n4F zz := (o5 _ (by decide)).trans E228_4
  refine ⟨by decide, by decide, W5 _ (by decide) (by decide), by decide, rfl, mo_g (fun u_6 s6 o6 => ?_)⟩
  have S6 : u_6 217 = up (up (up (up (up (up (mc_144) 25 1) 26 1) 27 1) 28 1) 29 1) 30 1 := by rw [s6, S5]
  have B6 : ∀ a, a < 217 → u_6 a = b a := fun a h => (o6 a (by omega)).trans (B5 a h)
  have W6 : ∀ a, 217 < a → a ≠ 228 → u_6 a = zz := fun a h h228 => (o6 a (by omega)).trans (W5 a h h228)
  have E228_6 : u_6 228 = n4F zz := (o6 _ (by decide)).trans E228_5
  refine ⟨by decide, by decide, W6 _ (by decide) (by decide), by decide, rfl, mo_g (fun u_7 s7 o7 => ?_)⟩
  have S7 : u_7 217 = up (up (up (up (up (up (up (mc_144) 25 1) 26 1) 27 1) 28 1) 29 1) 30 1) 31 1 := by rw [s7, S6]
  have B7 : ∀ a, a < 217 → u_7 a = b a := fun a h => (o7 a (by omega)).trans (B6 a h)
  have W7 : ∀ a, 217 < a → a ≠ 228 → u_7 a = zz := fun a h h228 => (o7 a (by omega)).trans (W6 a h h228)
  have E228_7 : u_7 228 = n4F zz := (o7 _ (by decide)).trans E228_6
  refine ⟨by decide, by decide, W7 _ (by decide) (by decide), by decide, rfl, mo_g (fun u_8 s8 o8 => ?_)⟩
  have S8 : u_8 217 = up (up (up (up (up (up (up (up (mc_144) 25 1) 26 1) 27 1) 28 1) 29 1) 30 1) 31 1) 32 1 := by rw [s8, S7]
  have B8 : ∀ a, a < 217 → u_8 a = b a := fun a h => (o8 a (by omega)).trans (B7 a h)
  have W8 : ∀ a, 217 < a → a ≠ 228 → u_8 a = zz := fun a h h228 => (o8 a (by omega)).trans (W7 a h h228)
  have E228_8 : u_8 228 = n4F zz := (o8 _ (by decide)).trans E228_7
  exact mo_200 S8 B8 W8 E228_8 kk
theorem mo_69 {u b : pj_M} {x : Int32} {K : pj_M → Prop} (S : u 217 = mc_69) (B : ∀ a, a < 217 → u a = b a) (W : ∀ a, 217 < a → u a = zz)  (kk : ∀ u', u' 217 = mcF x → (∀ a, a < 217 → u' a = b a) → (∀ a, 217 < a → a ≠ 228 → a ≠ 267 → a ≠ 268 → a ≠ 271 → a ≠ 278 → u' a = zz) → u' 228 = n4F zz → u' 267 = n4F zz → u' 268 = n4F zz → u' 271 = n4F zz → u' 278 = m8F zz → K u') : pb_Mo_init_69 279 K 226 u x := by
  refine ⟨by decide, by decide, W _ (by decide), by decide, rfl, mo_g (fun u_1 s1 o1 => ?_)⟩
  have S1 : u_1 217 = up (mc_69) 12 1 := by rw [s1, S]
  have B1 : ∀ a, a < 217 → u_1 a = b a := fun a h => (o1 a (by omega)).trans (B a h)
  have W1 : ∀ a, 217 < a → u_1 a = zz := fun a h => (o1 a (by omega)).trans (W a h)
  refine ⟨by decide, by decide, W1 _ (by decide), by decide, rfl, mo_g (fun u_2 s2 o2 => ?_)⟩
  have S2 : u_2 217 = up (up (mc_69) 12 1) 17 1 := by rw [s2, S1]
  have B2 : ∀ a, a < 217 → u_2 a = b a := fun a h => (o2 a (by omega)).trans (B1 a h)
  have W2 : ∀ a, 217 < a → u_2 a = zz := fun a h => (o2 a (by omega)).trans (W1 a h)
  refine ⟨by decide, by decide, W2 _ (by decide), mo_n4 (by decide) (fun v_3 e3 p3 => ⟨by decide, rfl, mo_g (fun u_3 s3 o3 => ?_)⟩)⟩
  have S3 : u_3 217 = up (up (up (mc_69) 12 1) 17 1) 19 1 := by rw [s3, p3 217 (by decide), S2]
  have B3 : ∀ a, a < 217 → u_3 a = b a := fun a h => (o3 a (by omega)).trans ((p3 a (by omega)).trans (B2 a h))
  have W3 : ∀ a, 217 < a → a ≠ 228 → u_3 a = zz := fun a h h228 => (o3 a (by omega)).trans ((p3 a h228).trans (W2 a h))
  have E228_3 : u_3 228 = n4F zz := by
    have q : v_3 228 = n4F (u_2 228) := e3
    rw [o3 _ (by decide), q, W2 228 (by decide)]
  refine ⟨by decide, by decide, W3 _ (by decide) (by decide), by decide, rfl, mo_g (fun u_4 s4 o4 => ?_)⟩
  have S4 : u_4 217 = up (up (up (up (mc_69) 12 1) 17 1) 19 1) 20 1 := by rw [s4, S3]
  have B4 : ∀ a, a < 217 → u_4 a = b a := fun a h => (o4 a (by omega)).trans (B3 a h)
  have W4 : ∀ a, 217 < a → a ≠ 228 → u_4 a = zz := fun a h h228 => (o4 a (by omega)).trans (W3 a h h228)
  have E228_4 : u_4 228 = n4F zz := (o4 _ (by decide)).trans E228_3
  refine ⟨by decide, by decide, W4 _ (by decide) (by decide), by decide, rfl, mo_g (fun u_5 s5 o5 => ?_)⟩
  have S5 : u_5 217 = up (up (up (up (up (mc_69) 12 1) 17 1) 19 1) 20 1) 21 1 := by rw [s5, S4]
  have B5 : ∀ a, a < 217 → u_5 a = b a := fun a h => (o5 a (by omega)).trans (B4 a h)
  have W5 : ∀ a, 217 < a → a ≠ 228 → u_5 a = zz := fun a h h228 => (o5 a (by omega)).trans (W4 a h h228)
  have E228_5 : u_5 228 = n4F zz := (o5 _ (by decide)).trans E228_4
  refine ⟨by decide, by decide, W5 _ (by decide) (by decide), by decide, rfl, mo_g (fun u_6 s6 o6 => ?_)⟩
  have S6 : u_6 217 = up (up (up (up (up (up (mc_69) 12 1) 17 1) 19 1) 20 1) 21 1) 22 1 := by rw [s6, S5]
  have B6 : ∀ a, a < 217 → u_6 a = b a := fun a h => (o6 a (by omega)).trans (B5 a h)
  have W6 : ∀ a, 217 < a → a ≠ 228 → u_6 a = zz := fun a h h228 => (o6 a (by omega)).trans (W5 a h h228)
  have E228_6 : u_6 228 = n4F zz := (o6 _ (by decide)).trans E228_5
  refine ⟨by decide, by decide, W6 _ (by decide) (by decide), by decide, rfl, mo_g (fun u_7 s7 o7 => ?_)⟩
  have S7 : u_7 217 = up (up (up (up (up (up (up (mc_69) 12 1) 17 1) 19 1) 20 1) 21 1) 22 1) 23 1 := by rw [s7, S6]
  have B7 : ∀ a, a < 217 → u_7 a = b a := fun a h => (o7 a (by omega)).trans (B6 a h)
  have W7 : ∀ a, 217 < a → a ≠ 228 → u_7 a = zz := fun a h h228 => (o7 a (by omega)).trans (W6 a h h228)
  have E228_7 : u_7 228 = n4F zz := (o7 _ (by decide)).trans E228_6
  refine ⟨by decide, by decide, W7 _ (by decide) (by decide), by decide, rfl, mo_g (fun u_8 s8 o8 => ?_)⟩
  have S8 : u_8 217 = up (up (up (up (up (up (up (up (mc_69) 12 1) 17 1) 19 1) 20 1) 21 1) 22 1) 23 1) 24 1 := by rw [s8, S7]
  have B8 : ∀ a, a < 217 → u_8 a = b a := fun a h => (o8 a (by omega)).trans (B7 a h)
  have W8 : ∀ a, 217 < a → a ≠ 228 → u_8 a = zz := fun a h h228 => (o8 a (by omega)).trans (W7 a h h228)
  have E228_8 : u_8 228 = n4F zz := (o8 _ (by decide)).trans E228_7
  exact mo_144 S8 B8 W8 E228_8 kk
theorem mo_0 {u b : pj_M} {x : Int32} {K : pj_M → Prop} (S : u 217 = mc_0) (B : ∀ a, a < 217 → u a = b a) (W : ∀ a, 217 < a → u a = zz)  (kk : ∀ u', u' 217 = mcF x → (∀ a, a < 217 → u' a = b a) → (∀ a, 217 < a → a ≠ 228 → a ≠ 267 → a ≠ 268 → a ≠ 271 → a ≠ 278 → u' a = zz) → u' 228 = n4F zz → u' 267 = n4F zz → u' 268 = n4F zz → u' 271 = n4F zz → u' 278 = m8F zz → K u') : pb_Mo_init_0 279 K 218 u x := by
  refine ⟨by decide, by decide, W _ (by decide), by decide, rfl, mo_g (fun u_1 s1 o1 => ?_)⟩
  have S1 : u_1 217 = up (mc_0) 1 1 := by rw [s1, S]
  have B1 : ∀ a, a < 217 → u_1 a = b a := fun a h => (o1 a (by omega)).trans (B a h)
  have W1 : ∀ a, 217 < a → u_1 a = zz := fun a h => (o1 a (by omega)).trans (W a h)
  refine ⟨by decide, by decide, W1 _ (by decide), by decide, rfl, mo_g (fun u_2 s2 o2 => ?_)⟩
  have S2 : u_2 217 = up (up (mc_0) 1 1) 2 1 := by rw [s2, S1]
  have B2 : ∀ a, a < 217 → u_2 a = b a := fun a h => (o2 a (by omega)).trans (B1 a h)
  have W2 : ∀ a, 217 < a → u_2 a = zz := fun a h => (o2 a (by omega)).trans (W1 a h)
  refine ⟨by decide, by decide, W2 _ (by decide), by decide, rfl, mo_g (fun u_3 s3 o3 => ?_)⟩
  have S3 : u_3 217 = up (up (up (mc_0) 1 1) 2 1) 3 1 := by rw [s3, S2]
  have B3 : ∀ a, a < 217 → u_3 a = b a := fun a h => (o3 a (by omega)).trans (B2 a h)
  have W3 : ∀ a, 217 < a → u_3 a = zz := fun a h => (o3 a (by omega)).trans (W2 a h)
  refine ⟨by decide, by decide, W3 _ (by decide), by decide, rfl, mo_g (fun u_4 s4 o4 => ?_)⟩
  have S4 : u_4 217 = up (up (up (up (mc_0) 1 1) 2 1) 3 1) 5 1 := by rw [s4, S3]
  have B4 : ∀ a, a < 217 → u_4 a = b a := fun a h => (o4 a (by omega)).trans (B3 a h)
  have W4 : ∀ a, 217 < a → u_4 a = zz := fun a h => (o4 a (by omega)).trans (W3 a h)
  refine ⟨by decide, by decide, W4 _ (by decide), by decide, rfl, mo_g (fun u_5 s5 o5 => ?_)⟩
  have S5 : u_5 217 = up (up (up (up (up (mc_0) 1 1) 2 1) 3 1) 5 1) 6 1 := by rw [s5, S4]
  have B5 : ∀ a, a < 217 → u_5 a = b a := fun a h => (o5 a (by omega)).trans (B4 a h)
  have W5 : ∀ a, 217 < a → u_5 a = zz := fun a h => (o5 a (by omega)).trans (W4 a h)
  refine ⟨by decide, by decide, W5 _ (by decide), by decide, rfl, mo_g (fun u_6 s6 o6 => ?_)⟩
  have S6 : u_6 217 = up (up (up (up (up (up (mc_0) 1 1) 2 1) 3 1) 5 1) 6 1) 7 1 := by rw [s6, S5]
  have B6 : ∀ a, a < 217 → u_6 a = b a := fun a h => (o6 a (by omega)).trans (B5 a h)
  have W6 : ∀ a, 217 < a → u_6 a = zz := fun a h => (o6 a (by omega)).trans (W5 a h)
  refine ⟨by decide, by decide, W6 _ (by decide), by decide, rfl, mo_g (fun u_7 s7 o7 => ?_)⟩
  have S7 : u_7 217 = up (up (up (up (up (up (up (mc_0) 1 1) 2 1) 3 1) 5 1) 6 1) 7 1) 8 1 := by rw [s7, S6]
  have B7 : ∀ a, a < 217 → u_7 a = b a := fun a h => (o7 a (by omega)).trans (B6 a h)
  have W7 : ∀ a, 217 < a → u_7 a = zz := fun a h => (o7 a (by omega)).trans (W6 a h)
  refine ⟨by decide, by decide, W7 _ (by decide), by decide, rfl, mo_g (fun u_8 s8 o8 => ?_)⟩
  have S8 : u_8 217 = up (up (up (up (up (up (up (up (mc_0) 1 1) 2 1) 3 1) 5 1) 6 1) 7 1) 8 1) 10 1 := by rw [s8, S7]
  have B8 : ∀ a, a < 217 → u_8 a = b a := fun a h => (o8 a (by omega)).trans (B7 a h)
  have W8 : ∀ a, 217 < a → u_8 a = zz := fun a h => (o8 a (by omega)).trans (W7 a h)
  exact mo_69 S8 B8 W8 kk
