/-! The pure part: ports of the reference -/
/-- where the reference keeps what the class has in slot q of a port -/
def ce (q : Nat) : Nat := match q with
  | 4 => 258
  | 5 => 259
  | 6 => 260
  | 7 => 261
  | 8 => 264
  | 9 => 265
  | 10 => 267
  | 11 => 268
  | 12 => 272
  | 13 => 271
  | 14 => 273
  | 15 => 269
  | 16 => 270
  | 17 => 266
  | 18 => 274
  | 19 => 275
  | 20 => 262
  | q => 1000 + q
theorem ce_hi {r : Nat} (h : r < 4 ∨ 20 < r) : ce r = 1000 + r := by
  unfold ce
  split <;> first | omega | rfl
theorem ce_lo : ∀ q, q < 21 → 4 ≤ q → 258 ≤ ce q ∧ ce q ≤ 275 ∧ ce q ≠ 263 := by decide +kernel
theorem ce_in : ∀ r, r < 21 → ∀ q, q < 21 → (r < 4 ∨ q < 4 ∨ r = q ∨ ¬ ce r = ce q) := by decide +kernel
theorem ce_ne {r q : Nat} (h : r ≠ q) (h1 : 4 ≤ q) (h2 : q ≤ 20) : ce r ≠ ce q := by
  by_cases c : 4 ≤ r ∧ r ≤ 20
  · have := ce_in r (by omega) q (by omega)
    omega
  · have := ce_lo q (by omega) h1
    rw [ce_hi (by omega)]
    omega
theorem ce_ok (q : Nat) : 258 ≤ ce q ∧ ce q ≠ 263 ∧ ce q ≠ 276 ∧ ce q ≠ 277 ∧ ce q ≠ 278 := by
  by_cases c : 4 ≤ q ∧ q ≤ 20
  · have := ce_lo q (by omega) c.1
    omega
  · rw [ce_hi (by omega)]
    omega
def rs (u : pj_M) (p : Nat) : Nat → Int32 := fun q => u (ce q) p
theorem rs_set {u : pj_M} {p q a : Nat} {v : Int32} (e : a = ce q) (h1 : 4 ≤ q) (h2 : q ≤ 20) : rs (pj_set u a p v) p = up (rs u p) q v := by
  subst e
  funext r
  by_cases c : r = q
  · rw [c, up_s]
    exact ps_s
  · rw [up_k c]
    show (pj_set u (ce q) p v) (ce r) p = u (ce r) p
    rw [ps_i (ce_ne c h1 h2)]
theorem rs_4 {u : pj_M} {p : Nat} {v : Int32} : rs (pj_set u 258 p v) p = up (rs u p) 4 v := rs_set rfl (by decide) (by decide)
theorem rs_5 {u : pj_M} {p : Nat} {v : Int32} : rs (pj_set u 259 p v) p = up (rs u p) 5 v := rs_set rfl (by decide) (by decide)
theorem rs_6 {u : pj_M} {p : Nat} {v : Int32} : rs (pj_set u 260 p v) p = up (rs u p) 6 v := rs_set rfl (by decide) (by decide)
theorem rs_7 {u : pj_M} {p : Nat} {v : Int32} : rs (pj_set u 261 p v) p = up (rs u p) 7 v := rs_set rfl (by decide) (by decide)
theorem rs_8 {u : pj_M} {p : Nat} {v : Int32} : rs (pj_set u 264 p v) p = up (rs u p) 8 v := rs_set rfl (by decide) (by decide)
theorem rs_9 {u : pj_M} {p : Nat} {v : Int32} : rs (pj_set u 265 p v) p = up (rs u p) 9 v := rs_set rfl (by decide) (by decide)
theorem rs_10 {u : pj_M} {p : Nat} {v : Int32} : rs (pj_set u 267 p v) p = up (rs u p) 10 v := rs_set rfl (by decide) (by decide)
theorem rs_11 {u : pj_M} {p : Nat} {v : Int32} : rs (pj_set u 268 p v) p = up (rs u p) 11 v := rs_set rfl (by decide) (by decide)
theorem rs_12 {u : pj_M} {p : Nat} {v : Int32} : rs (pj_set u 272 p v) p = up (rs u p) 12 v := rs_set rfl (by decide) (by decide)
theorem rs_13 {u : pj_M} {p : Nat} {v : Int32} : rs (pj_set u 271 p v) p = up (rs u p) 13 v := rs_set rfl (by decide) (by decide)
theorem rs_14 {u : pj_M} {p : Nat} {v : Int32} : rs (pj_set u 273 p v) p = up (rs u p) 14 v := rs_set rfl (by decide) (by decide)
theorem rs_15 {u : pj_M} {p : Nat} {v : Int32} : rs (pj_set u 269 p v) p = up (rs u p) 15 v := rs_set rfl (by decide) (by decide)
theorem rs_16 {u : pj_M} {p : Nat} {v : Int32} : rs (pj_set u 270 p v) p = up (rs u p) 16 v := rs_set rfl (by decide) (by decide)
theorem rs_17 {u : pj_M} {p : Nat} {v : Int32} : rs (pj_set u 266 p v) p = up (rs u p) 17 v := rs_set rfl (by decide) (by decide)
theorem rs_18 {u : pj_M} {p : Nat} {v : Int32} : rs (pj_set u 274 p v) p = up (rs u p) 18 v := rs_set rfl (by decide) (by decide)
theorem rs_19 {u : pj_M} {p : Nat} {v : Int32} : rs (pj_set u 275 p v) p = up (rs u p) 19 v := rs_set rfl (by decide) (by decide)
theorem rs_20 {u : pj_M} {p : Nat} {v : Int32} : rs (pj_set u 262 p v) p = up (rs u p) 20 v := rs_set rfl (by decide) (by decide)
theorem rs_keep {u u' : pj_M} {p : Nat} (h : ∀ a, 258 ≤ a → a ≠ 263 → a ≠ 276 → a ≠ 277 → a ≠ 278 → u' a = u a) : rs u' p = rs u p := by
  funext q
  have := ce_ok q
  show u' (ce q) p = u (ce q) p
  rw [h _ this.1 this.2.1 this.2.2.1 this.2.2.2.1 this.2.2.2.2]
/-- what a port's step leaves of the reference -/
def frP (p : Nat) (u u' : pj_M) : Prop := (∀ a, a ≠ 217 → (a < 221 ∨ 224 < a) → a ≠ 226 → a ≠ 227 → (a < 258 ∨ 278 < a) → u' a = u a) ∧ (∀ k, k ≠ 4 → (k < 11 ∨ 18 < k) → k ≠ 68 → k ≠ 69 → u' 217 k = u 217 k) ∧ (∀ a q, 258 ≤ a → a ≤ 275 → a ≠ 263 → q ≠ p → u' a q = u a q) ∧ (∀ a q, (a = 263 ∨ a = 276) → (q < 20 * p ∨ 20 * p + 20 ≤ q) → u' a q = u a q) ∧ ∀ q, q ≠ 0 → u' 277 q = u 277 q
theorem frP.rf {p : Nat} {u : pj_M} : frP p u u := ⟨fun _ _ _ _ _ _ => rfl, fun _ _ _ _ _ => rfl, fun _ _ _ _ _ _ => rfl, fun _ _ _ _ => rfl, fun _ _ => rfl⟩
theorem frP.tr {p : Nat} {u v w : pj_M} (f : frP p u v) (g : frP p v w) : frP p u w := ⟨fun a h1 h2 h3 h4 h5 => (g.1 a h1 h2 h3 h4 h5).trans (f.1 a h1 h2 h3 h4 h5), fun k h1 h2 h3 h4 => (g.2.1 k h1 h2 h3 h4).trans (f.2.1 k h1 h2 h3 h4), fun a q h1 h2 h3 h4 => (g.2.2.1 a q h1 h2 h3 h4).trans (f.2.2.1 a q h1 h2 h3 h4), fun a q h1 h2 => (g.2.2.2.1 a q h1 h2).trans (f.2.2.2.1 a q h1 h2), fun q h => (g.2.2.2.2 q h).trans (f.2.2.2.2 q h)⟩
theorem gm.frP {p : Nat} {u v : pj_M} (g : gm u v) : frP p u v := ⟨fun a h1 h2 h3 h4 _ => g.1 a h1 h2 h3 h4, fun k h1 h2 _ _ => g.2 k h1 h2, fun a q h1 _ _ _ => by rw [g.cells a (by omega)], fun a q h _ => by rw [g.cells a (by omega)], fun q _ => by rw [g.cells 277 (by decide)]⟩
theorem frP.set {p a : Nat} {v : Int32} {u : pj_M} (h1 : 258 ≤ a) (h2 : a ≤ 275) (h3 : a ≠ 263) : frP p u (pj_set u a p v) := ⟨fun b _ _ _ _ h => ps_i (by omega), fun k _ _ _ _ => by rw [ps_i (by omega)], fun b q _ _ _ h4 => by
  by_cases e : b = a
  · rw [e, ps_k h4]
  · rw [ps_i e], fun b q h _ => by rw [ps_i (by omega)], fun q _ => by rw [ps_i (by omega)]⟩
theorem frP.n68 {p k : Nat} {v : Int32} {u : pj_M} (h : k = 68 ∨ k = 69) : frP p u (pj_set u 217 k v) := ⟨fun b h1 _ _ _ _ => ps_i h1, fun k' _ _ h3 h4 => ps_k (by omega), fun b q _ _ _ _ => by rw [ps_i (by omega)], fun b q h _ => by rw [ps_i (by omega)], fun q _ => by rw [ps_i (by omega)]⟩
theorem frP.w {p : Nat} {v : Int32} {u : pj_M} : frP p u (pj_set u 277 0 v) := ⟨fun b _ _ _ _ h => ps_i (by omega), fun k _ _ _ _ => by rw [ps_i (by decide)], fun b q _ _ _ _ => by rw [ps_i (by omega)], fun b q h _ => by rw [ps_i (by omega)], fun q h => ps_k h⟩
theorem frP.la {a p : Nat} {u v : pj_M} (h : a = 263 ∨ a = 276) (g : fA a p u v) : frP p u v := ⟨fun b _ _ _ _ h5 => g.1 b (by omega), fun k _ _ _ _ => by rw [g.1 217 (by omega)], fun b q _ _ h3 _ => by rw [g.1 b (by omega)], fun b q h' hq => by
  by_cases e : b = a
  · rw [e]; exact g.2 q hq
  · rw [g.1 b e], fun q _ => by rw [g.1 277 (by omega)]⟩
/-- the switch's own numbers stay -/
def swK (u u' : pj_M) : Prop := u' 217 68 = u 217 68 ∧ u' 217 69 = u 217 69 ∧ u' 277 = u 277 ∧ u' 278 = u 278 ∧ u' 217 0 = u 217 0
theorem swK.rf {u : pj_M} : swK u u := ⟨rfl, rfl, rfl, rfl, rfl⟩
theorem swK.tr {u v w : pj_M} (f : swK u v) (g : swK v w) : swK u w := ⟨g.1.trans f.1, g.2.1.trans f.2.1, g.2.2.1.trans f.2.2.1, g.2.2.2.1.trans f.2.2.2.1, g.2.2.2.2.trans f.2.2.2.2⟩
theorem gm.swK {u v : pj_M} (g : gm u v) : swK u v := ⟨g.2 68 (by decide) (by decide), g.2 69 (by decide) (by decide), g.cells 277 (by decide), g.cells 278 (by decide), g.2 0 (by decide) (by decide)⟩
theorem swK.of {u v : pj_M} (h : ∀ a, a = 217 ∨ a = 277 ∨ a = 278 → v a = u a) : swK u v := ⟨by rw [h 217 (by decide)], by rw [h 217 (by decide)], h 277 (by decide), h 278 (by decide), by rw [h 217 (by decide)]⟩
theorem mm.of {u u' : pj_M} {ms : List mT} (h : mm u ms) (g : ∀ a, 217 ≤ a → a < 225 → u' a = u a) : mm u' ms := h.keep (by rw [g 217 (by decide) (by decide)]) (g _ (by decide) (by decide)) (g _ (by decide) (by decide)) (g _ (by decide) (by decide)) (g _ (by decide) (by decide))
theorem mP.of {u u' : pj_M} {l : List Int32} (h : mP u l) (g : ∀ a, a = 217 ∨ a = 227 → u' a = u a) : mP u' l := h.keep (by rw [g 217 (by decide)]) (g 227 (by decide))
theorem sp_Mo_sendPacket {u : pj_M} {p : Nat} {m : List Int32} {ms : List mT} {K : pj_M → Prop} (hp : p < 4) (hm : mm u ms) (hP : mP u m) (hb : bl m) (h1 : 1 < m.length) (hl : m.length ≤ 47) (k : ∀ u', mm u' (ad ms (1, nI p, 0 :: m)) → mP u' m → rs u' p = up (rs u p) 17 ((aT m 1 + 1) &&& 255) → (∀ a, 228 ≤ a → a ≠ 266 → u' a = u a) → frP p u u' → swK u u' → K u') : pw_Mo_sendPacket u (nI p) K := by
  refine ⟨v48 (n := 1) (by decide), v4 hp, pu ?_⟩
  (try rw [c4 hp]); rw [show u 227 (1 : Int32).toNatClampNeg = aT m 1 from hP.at (j := 1) h1]
  have o1 : ∀ a, a ≠ 266 → (pj_set u 266 p ((aT m 1 + 1) &&& 255)) a = u a := fun a h => ps_i h
  have e1 : rs (pj_set u 266 p ((aT m 1 + 1) &&& 255)) p = up (rs u p) 17 ((aT m 1 + 1) &&& 255) := rs_17
  have f1 : frP p u (pj_set u 266 p ((aT m 1 + 1) &&& 255)) := frP.set (by decide) (by decide) (by decide)
  generalize pj_set u 266 p ((aT m 1 + 1) &&& 255) = u1 at o1 e1 f1 ⊢
  refine sp_Mo_sendFrame (hm.of (fun a _ _ => o1 a (by omega))) (hP.of (fun a _ => o1 a (by omega))) hb hl (fun u2 m2 p2 g2 => ?_)
  exact k u2 m2 p2 ((rs_keep (fun a h _ _ _ _ => g2.cells a (by omega))).trans e1) (fun a h1 h2 => (g2.cells a h1).trans (o1 a h2)) (f1.tr g2.frP) ((swK.of (fun a h => o1 a (by omega))).tr g2.swK)
def slS (τ : Nat → Int32) (m : List Int32) : Nat → Int32 := up (up (up (up (up τ 20 (nI m.length)) 8 1) 9 0) 7 0) 17 ((aT m 1 + 1) &&& 255)
theorem sp_Mo_sendLast {u : pj_M} {p : Nat} {m : List Int32} {ms : List mT} {K : pj_M → Prop} (hp : p < 4) (hm : mm u ms) (hP : mP u m) (hb : bl m) (h1 : 1 < m.length) (hl : m.length ≤ 20) (k : ∀ u', mm u' (ad ms (1, nI p, 0 :: m)) → rs u' p = slS (rs u p) m → aR u' 263 p m → u' 276 = u 276 → frP p u u' → swK u u' → K u') : pw_Mo_sendLast u (nI p) K := by
  refine ⟨v4 hp, pu ⟨m.length + 1, ?_⟩⟩
  (try rw [c4 hp]); rw [hP.1]
  refine ls_sendLast_12 hp hl (u0 := pj_set u 262 p (nI m.length)) (fun u' p' a' g' => ?_) m.length 0 _ (by omega) (hP.of (fun a h => ps_i (by omega))) (fun j hj => absurd hj (Nat.not_lt_zero j)) ⟨fun _ _ => rfl, fun _ _ => rfl⟩
  have o1 : ∀ a, a ≠ 262 → a ≠ 263 → u' a = u a := fun a h1 h2 => (g'.1 a h2).trans (ps_i h1)
  have e1 : rs u' p = up (rs u p) 20 (nI m.length) := (rs_keep (fun a _ h _ _ _ => g'.1 a h)).trans (rs_20)
  have f1 : frP p u u' := (frP.set (by decide) (by decide) (by decide)).tr (frP.la (Or.inl rfl) g')
  refine ⟨v4 hp, pu ⟨v4 hp, pu ⟨v4 hp, pu ?_⟩⟩⟩
  (try rw [c4 hp]); rw [nr1]
  have o2 : ∀ a, a ≠ 264 → a ≠ 265 → a ≠ 261 → (pj_set (pj_set (pj_set u' 264 p 1) 265 p 0) 261 p 0) a = u' a := fun a h1 h2 h3 => by rw [ps_i h3, ps_i h2, ps_i h1]
  have e2 : rs (pj_set (pj_set (pj_set u' 264 p 1) 265 p 0) 261 p 0) p = up (up (up (rs u' p) 8 1) 9 0) 7 0 := by rw [rs_7, rs_9, rs_8]
  have f2' : frP p u' (pj_set (pj_set (pj_set u' 264 p 1) 265 p 0) 261 p 0) := (frP.set (by decide) (by decide) (by decide)).tr ((frP.set (by decide) (by decide) (by decide)).tr (frP.set (by decide) (by decide) (by decide)))
  generalize pj_set (pj_set (pj_set u' 264 p 1) 265 p 0) 261 p 0 = u2 at o2 e2 f2' ⊢
  have q2 : ∀ a, a < 228 ∨ 275 < a → u2 a = u a := fun a h => (o2 a (by omega) (by omega) (by omega)).trans (o1 a (by omega) (by omega))
  refine sp_Mo_sendPacket hp (hm.of (fun a _ _ => q2 a (by omega))) (p'.of (fun a h => o2 a (by omega) (by omega) (by omega))) hb h1 (by omega) (fun u3 m3 p3 e3 o3 f3 s3 => ?_)
  refine k u3 m3 (by rw [e3, e2, e1]; rfl) (a'.keep (fun j _ => by rw [o3 263 (by decide) (by decide), o2 263 (by decide) (by decide) (by decide)])) ((o3 276 (by decide) (by decide)).trans (q2 276 (by decide))) (f1.tr (f2'.tr f3)) ((swK.of (fun a h => q2 a (by omega))).tr s3)
def bgM (τ : Nat → Int32) : Nat → Int32 := slS (up (up (up τ 5 1) 13 (-1)) 11 (-1)) (ph 1 (τ 17) 1)
theorem bl_ph1 {i : Int32} : bl (ph 1 i 1) := by
  rw [ph1]
  exact bl_cons (by decide) (bl_cons (and255 i) (bl_cons (by decide) (bl_cons (by decide) bl_nil)))
theorem sp_Mo_beginPort {u : pj_M} {p : Nat} {ms : List mT} {K : pj_M → Prop} (hp : p < 4) (hm : mm u ms) (k : ∀ u', mm u' (ad ms (1, nI p, 0 :: ph 1 (rs u p 17) 1)) → rs u' p = bgM (rs u p) → aR u' 263 p (ph 1 (rs u p 17) 1) → u' 276 = u 276 → frP p u u' → swK u u' → K u') : pw_Mo_beginPort u (nI p) K := by
  refine ⟨v4 hp, pu ⟨v4 hp, pu ⟨v4 hp, pu ⟨v4 hp, ?_⟩⟩⟩⟩
  try rw [c4 hp]
  have o2 : ∀ a, a ≠ 259 → a ≠ 271 → a ≠ 268 → (pj_set (pj_set (pj_set u 259 p 1) 271 p (-1)) 268 p (-1)) a = u a := fun a h1 h2 h3 => by rw [ps_i h3, ps_i h2, ps_i h1]
  have e2 : rs (pj_set (pj_set (pj_set u 259 p 1) 271 p (-1)) 268 p (-1)) p = up (up (up (rs u p) 5 1) 13 (-1)) 11 (-1) := by rw [rs_11, rs_13, rs_5]
  have f2' : frP p u (pj_set (pj_set (pj_set u 259 p 1) 271 p (-1)) 268 p (-1)) := (frP.set (by decide) (by decide) (by decide)).tr ((frP.set (by decide) (by decide) (by decide)).tr (frP.set (by decide) (by decide) (by decide)))
  generalize pj_set (pj_set (pj_set u 259 p 1) 271 p (-1)) 268 p (-1) = u2 at o2 e2 f2' ⊢
  refine spk (i' := rs u p 17) (by rw [o2 266 (by decide) (by decide) (by decide)]; rfl) (fun u3 p3 g3 => ?_)
  refine sp_Mo_sendLast hp ((hm.of (fun a _ _ => o2 a (by omega) (by omega) (by omega))).gs g3.gs) p3 bl_ph1 (by rw [ph1_len]; decide) (by rw [ph1_len]; decide) (fun u4 m4 e4 a4 k4 f4 s4 => ?_)
  refine k u4 m4 ?_ a4 (k4.trans ((g3.cells 276 (by decide)).trans (o2 276 (by decide) (by decide) (by decide)))) (f2'.tr (g3.gs.gm.frP.tr f4)) ((swK.of (fun a h => o2 a (by omega) (by omega) (by omega))).tr (g3.gs.gm.swK.tr s4))
  rw [e4, rs_keep (fun a h _ _ _ _ => g3.cells a (by omega)), e2]
  rfl
theorem lp_Mo_close {p : Nat} {K : pj_M → Prop} {ln : Nat → Int32} {u0 : pj_M} (hp : p < 4) (k : ∀ u', (∀ j, j < 8 → u' 278 j = clS ln (nI p) j) → (∀ a, a ≠ 278 → u' a = u0 a) → K u') : ∀ (d t : Nat) (u : pj_M), t + d = 8 → (∀ j, j < 8 → u 278 j = if j < t then clS ln (nI p) j else ln j) → (∀ a, a ≠ 278 → u a = u0 a) → pb_Mo_close_9 K (nI p) (d + 1) u (nI t) := by
  intro d
  induction d with
  | zero =>
    intro t u ht hj ho
    have e : t = 8 := by omega
    subst e
    exact br_t (by decide) (k u (fun j h => (hj j h).trans (if_pos h)) ho)
  | succ d ih =>
    intro t u ht hj ho
    have et : u 278 t = ln t := (hj t (by omega)).trans (if_neg (by omega))
    have fin : ∀ v, v = clS ln (nI p) t → pb_Mo_close_40 (pb_Mo_close_9 K (nI p) (d + 1)) K u (nI p) (nI t) v (nI t) := by
      intro v hv
      refine ⟨v8 (by omega), pu ?_⟩
      rw [nI_1, nI_clamp (show t < 2 ^ 31 by omega)]
      refine ih (t + 1) _ (by omega) (fun j h => ?_) (fun a h => (ps_i h).trans (ho a h))
      by_cases c : j = t
      · rw [c, ps_s, if_pos (by omega), hv]
      · rw [ps_k c, hj j h]
        by_cases c2 : j < t
        · rw [if_pos c2, if_pos (by omega)]
        · rw [if_neg c2, if_neg (by omega)]
    refine br_f (fun q => nI_ge (a := t) (b := 8) (by omega) (by decide) q) ⟨v8 (by omega), ?_⟩
    rw [nI_clamp (show t < 2 ^ 31 by omega), et]
    refine br_c (fun e => fin _ (if_pos e).symm) (fun e => ⟨v8 (by omega), ?_⟩)
    rw [nI_clamp (show t < 2 ^ 31 by omega), et]
    exact fin _ (if_neg e).symm
theorem frP.ln {p : Nat} {u v : pj_M} (h : ∀ a, a ≠ 278 → v a = u a) : frP p u v := ⟨fun b _ _ _ _ h5 => h b (by omega), fun k _ _ _ _ => by rw [h 217 (by decide)], fun b q _ _ _ _ => by rw [h b (by omega)], fun b q _ _ => by rw [h b (by omega)], fun q _ => by rw [h 277 (by decide)]⟩
theorem sp_Mo_close {u : pj_M} {p : Nat} {K : pj_M → Prop} (hp : p < 4) (k : ∀ u', (∀ j, j < 8 → u' 278 j = clS (u 278) (nI p) j) → rs u' p = up (rs u p) 6 0 → (∀ a, a ≠ 278 → a ≠ 260 → u' a = u a) → frP p u u' → K u') : pw_Mo_close u (nI p) K := by
  refine ⟨v4 hp, pu ⟨9, ?_⟩⟩
  (try rw [c4 hp]); rw [nr0]
  refine lp_Mo_close hp (u0 := pj_set u 260 p 0) (ln := u 278) (fun u' h1 h2 => ?_) 8 0 _ (by decide) (fun j _ => ?_) (fun _ _ => rfl)
  · exact k u' h1 ((rs_keep (fun a _ _ _ _ h => h2 a h)).trans (rs_6)) (fun a h h' => (h2 a h).trans (ps_i h')) ((frP.set (by decide) (by decide) (by decide)).tr (frP.ln h2))
  · rw [if_neg (by omega), ps_i (by decide)]
def flM (τ : Nat → Int32) : Nat → Int32 := up (up (up (up (up τ 6 0) 5 4) 13 (-1)) 8 0) 7 0
theorem sp_Mo_failPort {u : pj_M} {p : Nat} {K : pj_M → Prop} (hp : p < 4) (k : ∀ u', (∀ j, j < 8 → u' 278 j = clS (u 278) (nI p) j) → rs u' p = flM (rs u p) → (∀ a, a ≠ 278 → (a < 259 ∨ 271 < a ∨ a = 263) → u' a = u a) → frP p u u' → K u') : pw_Mo_failPort u (nI p) K := by
  refine sp_Mo_close hp (fun u1 c1 e1 o1 f1 => ⟨v4 hp, pu ⟨v4 hp, pu ⟨v4 hp, pu ⟨v4 hp, pu ?_⟩⟩⟩⟩)
  (try rw [c4 hp]); rw [nr0]
  have o2 : ∀ a, a ≠ 259 → a ≠ 271 → a ≠ 264 → a ≠ 261 → (pj_set (pj_set (pj_set (pj_set u1 259 p 4) 271 p (-1)) 264 p 0) 261 p 0) a = u1 a := fun a h1 h2 h3 h4 => by rw [ps_i h4, ps_i h3, ps_i h2, ps_i h1]
  refine k _ (fun j hj => by rw [o2 278 (by decide) (by decide) (by decide) (by decide)]; exact c1 j hj) ?_ (fun a h1 h2 => (o2 a (by omega) (by omega) (by omega) (by omega)).trans (o1 a h1 (by omega))) (f1.tr ((frP.set (by decide) (by decide) (by decide)).tr ((frP.set (by decide) (by decide) (by decide)).tr ((frP.set (by decide) (by decide) (by decide)).tr (frP.set (by decide) (by decide) (by decide))))))
  rw [rs_7, rs_8, rs_13, rs_5, e1]
  rfl
theorem sp_Mo_sendQuery {u : pj_M} {p : Nat} {s : Int32} {as : List Int32} {ms : List mT} {K : pj_M → Prop} (hp : p < 4) (hm : mm u ms) (hs : u 217 0 = s) (hn : rs u p 19 = nI as.length) (ha : aR u 276 p as) (hb : bl as) (h10 : rs u p 10 = -1 ∨ 0 ≤ rs u p 10) (h11 : rs u p 11 = -1 ∨ 0 ≤ rs u p 11) (k : ∀ u', mm u' (ad ms (2, rs u p 13, gY s 1 (rs u p 18 &&& 255) (hInts s (rs u p 18)) (rs u p 10) (rs u p 11) as)) → gm u u' → K u') : pw_Mo_sendQuery u (nI p) K := by
  have h20 := ha.1
  refine ⟨v4 hp, pu ⟨as.length + 1, ?_⟩⟩
  (try rw [c4 hp]); rw [show u 275 p = nI as.length from hn]
  refine ll_sendQuery_12 hp (u0 := pj_set u 217 16 (nI as.length)) (ha.keep (fun j _ => by rw [ps_i (by decide)])) (fun u' p' g' => ?_) as.length 0 _ (by omega) ps_s (fun j hj => absurd hj (Nat.not_lt_zero j)) fP'.rf
  have gg : fP' u u' := fP'.n.tr g'
  refine ⟨v4 hp, v4 hp, ?_⟩
  try rw [c4 hp]
  refine sp_Mo_authOf (s := s) ((gg.2 0 (by decide)).trans hs) (fun u1 g1 => ⟨v4 hp, v4 hp, ?_⟩)
  (try rw [c4 hp]); rw [gg.cells 274 (by decide), g1.cells 267 (by decide), g1.cells 268 (by decide), gg.cells 267 (by decide), gg.cells 268 (by decide)]
  refine sp_Mo_gram (s := s) (p'.fh g1) hb h20 h10 h11 ((g1.2 0 (by decide)).trans ((gg.2 0 (by decide)).trans hs)) (fun u3 r3 p3 s3 g3 => ⟨v4 hp, ?_⟩)
  (try rw [c4 hp]); rw [g3.cells 271 (by decide), g1.cells 271 (by decide), gg.cells 271 (by decide)]
  have gA : gs u u3 := gg.gs.tr (g1.gs.tr g3)
  exact sp_Mo_send (hm.gs gA) r3 (fun u4 m4 g4 => k u4 m4 (gA.gm.tr g4.gm))
theorem sp_Mo_ask {u : pj_M} {p : Nat} {x s n : Int32} {as : List Int32} {ms : List mT} {K : pj_M → Prop} (hp : p < 4) (hm : mm u ms) (hs : u 217 0 = s) (hq : u 217 68 = n) (hn : rs u p 19 = nI as.length) (ha : aR u 276 p as) (hb : bl as) (h10 : rs u p 10 = -1 ∨ 0 ≤ rs u p 10) (h11 : rs u p 11 = -1 ∨ 0 ≤ rs u p 11) (k : ∀ u', mm u' (ad ms (2, x, gY s 1 (n &&& 255) (hInts s n) (rs u p 10) (rs u p 11) as)) → rs u' p = up (up (up (up (rs u p) 13 x) 18 n) 12 1) 7 0 → u' 217 68 = n + 1 → (u' 217 69 = u 217 69 ∧ u' 217 0 = u 217 0) → (∀ a, 228 ≤ a → (a < 261 ∨ (261 < a ∧ a < 271) ∨ 274 < a) → u' a = u a) → frP p u u' → K u') : pw_Mo_ask u (nI p) x K := by
  refine ⟨v4 hp, pu ⟨v4 hp, pu (pu ⟨v4 hp, pu ⟨v4 hp, pu ?_⟩⟩)⟩⟩
  have e68 : (pj_set u 271 p x) 217 68 = n := by rw [ps_i (by decide)]; exact hq
  have e68' : (pj_set (pj_set u 271 p x) 274 p n) 217 68 = n := by rw [ps_i (by decide)]; exact e68
  (try rw [c4 hp]); rw [e68, e68']
  have q5 : (pj_set (pj_set (pj_set (pj_set (pj_set u 271 p x) 274 p n) 217 68 (n + 1)) 272 p 1) 261 p 0) 217 = up (u 217) 68 (n + 1) := by rw [ps_i (by decide), ps_i (by decide), st_up, ps_i (by decide), ps_i (by decide)]
  have o5 : ∀ a, a ≠ 271 → a ≠ 274 → a ≠ 217 → a ≠ 272 → a ≠ 261 → (pj_set (pj_set (pj_set (pj_set (pj_set u 271 p x) 274 p n) 217 68 (n + 1)) 272 p 1) 261 p 0) a = u a := fun a h1 h2 h3 h4 h5 => by rw [ps_i h5, ps_i h4, ps_i h3, ps_i h2, ps_i h1]
  have e5 : rs (pj_set (pj_set (pj_set (pj_set (pj_set u 271 p x) 274 p n) 217 68 (n + 1)) 272 p 1) 261 p 0) p = up (up (up (up (rs u p) 13 x) 18 n) 12 1) 7 0 := by
    rw [rs_7, rs_12, rs_keep (u := pj_set (pj_set u 271 p x) 274 p n) (fun a h _ _ _ _ => ps_i (by omega)), rs_18, rs_13]
  have f5' : frP p u (pj_set (pj_set (pj_set (pj_set (pj_set u 271 p x) 274 p n) 217 68 (n + 1)) 272 p 1) 261 p 0) := (frP.set (by decide) (by decide) (by decide)).tr ((frP.set (by decide) (by decide) (by decide)).tr ((frP.n68 (Or.inl rfl)).tr ((frP.set (by decide) (by decide) (by decide)).tr (frP.set (by decide) (by decide) (by decide)))))
  generalize pj_set (pj_set (pj_set (pj_set (pj_set u 271 p x) 274 p n) 217 68 (n + 1)) 272 p 1) 261 p 0 = u5 at q5 o5 e5 f5' ⊢
  have z : ∀ q, q ≠ 7 → q ≠ 12 → q ≠ 18 → q ≠ 13 → rs u5 p q = rs u p q := fun q h1 h2 h3 h4 => by rw [e5, up_k h1, up_k h2, up_k h3, up_k h4]
  have z13 : rs u5 p 13 = x := by rw [e5, up_k (by decide), up_k (by decide), up_k (by decide), up_s]
  have z18 : rs u5 p 18 = n := by rw [e5, up_k (by decide), up_k (by decide), up_s]
  refine sp_Mo_sendQuery (s := s) (as := as) hp (hm.keep (by rw [q5, up_k (by decide)]) (o5 _ (by decide) (by decide) (by decide) (by decide) (by decide)) (o5 _ (by decide) (by decide) (by decide) (by decide) (by decide)) (o5 _ (by decide) (by decide) (by decide) (by decide) (by decide)) (o5 _ (by decide) (by decide) (by decide) (by decide) (by decide))) (by rw [q5, up_k (by decide)]; exact hs) (by rw [z 19 (by decide) (by decide) (by decide) (by decide)]; exact hn) (ha.keep (fun j _ => by rw [o5 276 (by decide) (by decide) (by decide) (by decide) (by decide)])) hb (by rw [z 10 (by decide) (by decide) (by decide) (by decide)]; exact h10) (by rw [z 11 (by decide) (by decide) (by decide) (by decide)]; exact h11) (fun u6 m6 g6 => ?_)
  rw [z13, z18, z 10 (by decide) (by decide) (by decide) (by decide), z 11 (by decide) (by decide) (by decide) (by decide)] at m6
  refine k u6 m6 ((rs_keep (fun a h _ _ _ _ => g6.cells a (by omega))).trans e5) (by rw [g6.2 68 (by decide) (by decide), q5, up_s]) ⟨by rw [g6.2 69 (by decide) (by decide), q5, up_k (by decide)], by rw [g6.2 0 (by decide) (by decide), q5, up_k (by decide)]⟩ (fun a h1 h2 => (g6.cells a h1).trans (o5 a (by omega) (by omega) (by omega) (by omega) (by omega))) (f5'.tr g6.frP)
