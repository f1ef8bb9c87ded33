/-! The pure part: the reference's frames of memory, right packets, frames, sending a packet -/
def gs (u u' : pj_M) : Prop := (∀ a, a ≠ 217 → a ≠ 226 → a ≠ 227 → u' a = u a) ∧ ∀ k, (k < 11 ∨ 18 < k) → u' 217 k = u 217 k
def gm (u u' : pj_M) : Prop := (∀ a, a ≠ 217 → (a < 221 ∨ 224 < a) → a ≠ 226 → a ≠ 227 → u' a = u a) ∧ ∀ k, k ≠ 4 → (k < 11 ∨ 18 < k) → u' 217 k = u 217 k
theorem gs.rf {u : pj_M} : gs u u := ⟨fun _ _ _ _ => rfl, fun _ _ => rfl⟩
theorem gs.tr {u v w : pj_M} (h : gs u v) (k : gs v w) : gs u w := ⟨fun a h1 h2 h3 => (k.1 a h1 h2 h3).trans (h.1 a h1 h2 h3), fun a ha => (k.2 a ha).trans (h.2 a ha)⟩
theorem gm.rf {u : pj_M} : gm u u := ⟨fun _ _ _ _ _ => rfl, fun _ _ _ => rfl⟩
theorem gm.tr {u v w : pj_M} (h : gm u v) (k : gm v w) : gm u w := ⟨fun a h1 h2 h3 h4 => (k.1 a h1 h2 h3 h4).trans (h.1 a h1 h2 h3 h4), fun a h1 h2 => (k.2 a h1 h2).trans (h.2 a h1 h2)⟩
theorem fh.gs {u v : pj_M} (h : fh u v) : gs u v := ⟨fun a h1 _ _ => h.1 a h1, fun k hk => h.2 k (by omega)⟩
theorem fR.gs {u v : pj_M} (h : fR u v) : gs u v := ⟨fun a h1 h2 _ => h.1 a h1 h2, fun k hk => h.2 k (by omega)⟩
theorem fP'.gs {u v : pj_M} (h : fP' u v) : gs u v := ⟨fun a h1 _ h3 => h.1 a h1 h3, fun k hk => h.2 k (by omega)⟩
theorem gs.gm {u v : pj_M} (h : gs u v) : gm u v := ⟨fun a h1 _ h3 h4 => h.1 a h1 h3 h4, fun k _ hk => h.2 k hk⟩
theorem fM.gm {u v : pj_M} (h : fM u v) : gm u v := ⟨fun a h1 h2 _ _ => h.1 a h1 h2, fun k h1 _ => h.2 k h1⟩
theorem gs.set {u : pj_M} {k : Nat} {v : Int32} (h : 11 ≤ k ∧ k ≤ 18) : gs u (pj_set u 217 k v) := ⟨fun a h1 _ _ => ps_i h1, fun j hj => ps_k (by omega)⟩
theorem mm.gs {u u' : pj_M} {ms : List mT} (h : mm u ms) (g : gs u u') : mm u' ms := h.keep (g.2 4 (by decide)) (g.1 221 (by decide) (by decide) (by decide)) (g.1 222 (by decide) (by decide) (by decide)) (g.1 223 (by decide) (by decide) (by decide)) (g.1 224 (by decide) (by decide) (by decide))
theorem mR.fM {u u' : pj_M} {l : List Int32} (h : mR u l) (g : fM u u') : mR u' l := h.keep (g.2 11 (by decide)) (g.1 226 (by decide) (by decide))
theorem mP.fM {u u' : pj_M} {l : List Int32} (h : mP u l) (g : fM u u') : mP u' l := h.keep (g.2 16 (by decide)) (g.1 227 (by decide) (by decide))
theorem mP.lt {u : pj_M} {l : List Int32} (h : mP u l) : l.length < 2 ^ 31 := by have := h.2.1; omega
theorem mR.lt {u : pj_M} {l : List Int32} (h : mR u l) : l.length < 2 ^ 31 := by have := h.2.1; omega
theorem mP.at {u : pj_M} {l : List Int32} {j : Nat} (h : mP u l) (hj : j < l.length) : u 227 j = aT l j := by rw [h.2.2 j hj]; exact gd_in hj
theorem mR.at {u : pj_M} {l : List Int32} {j : Nat} (h : mR u l) (hj : j < l.length) : u 226 j = aT l j := by rw [h.2.2 j hj]; exact gd_in hj
theorem v48 {n : Nat} (h : n < 48) : vp_in (nI n) 48 := vp_in_nI h (by decide)
theorem sp_Mo_rightPacket {u : pj_M} {l : List Int32} {K : Int32 → pj_M → Prop} (hr : mP u l) (kt : rP l → K 1 u) (kf : ¬ rP l → K 0 u) : pw_Mo_rightPacket u K := by
  have h31 := hr.lt
  have h48 := hr.2.1
  have hs := hr.1
  refine br_c (fun h => ?_) (fun h => ?_)
  · refine kf (fun q => ?_)
    rw [hs] at h
    exact nI_nlt (a := l.length) (b := 3) q.1 h31 h
  have h3 : 3 ≤ l.length := Nat.le_of_not_lt (fun q => h (by rw [hs]; exact nI_lt (b := 3) q (by decide)))
  refine br_c (fun h => ?_) (fun h => ?_)
  · refine kf (fun q => ?_)
    rw [hs] at h
    exact nI_nlt (a := 20) (b := l.length) q.2.1 (by decide) h
  have h20 : l.length ≤ 20 := Nat.le_of_not_lt (fun q => h (by rw [hs]; exact nI_lt (a := 20) q h31))
  have a0 : u 227 (0 : Int32).toNatClampNeg = aT l 0 := hr.at (j := 0) (by omega)
  have a2 : u 227 (2 : Int32).toNatClampNeg = aT l 2 := hr.at (j := 2) (by omega)
  refine ⟨v48 (n := 2) (by decide), br_c (fun h => ?_) (fun h => ?_)⟩
  rotate_left
  · exact kf (fun q => h (by rw [a2, hs]; exact q.2.2.1))
  have h2 : aT l 2 = nI l.length := by rw [← hs, ← a2]; exact h
  have e60 : (¬ ((aT l 0 = 1 ∨ aT l 0 = 2) ∧ 3 < l.length)) → pb_Mo_rightPacket_60 K u := by
    intro hn
    have e80 : (aT l 0 = 3 ∨ aT l 0 = 4) → pb_Mo_rightPacket_80 K u := by
      intro hc
      refine br_c (fun h => ?_) (fun h => ?_)
      · rw [hs] at h
        exact ⟨pj_bi1, kt ⟨h3, h20, h2, Or.inr ⟨hc, (nI_e 3 h31 (by decide)).mp h⟩⟩⟩
      · refine ⟨pj_bi0, kf (fun q => ?_)⟩
        rcases q.2.2.2 with q | ⟨-, q⟩
        · exact hn q
        · exact h (by rw [hs, q]; rfl)
    refine ⟨v48 (n := 0) (by decide), br_c (fun h => e80 (Or.inl (by rw [← a0]; exact h))) (fun n3 => ?_)⟩
    refine ⟨v48 (n := 0) (by decide), br_c (fun h => e80 (Or.inr (by rw [← a0]; exact h))) (fun n4 => ?_)⟩
    rw [a0] at n3 n4
    refine ⟨pj_bi0, kf (fun q => ?_)⟩
    rcases q.2.2.2 with q | ⟨q | q, -⟩
    · exact hn q
    · exact n3 q
    · exact n4 q
  have e52 : (aT l 0 = 1 ∨ aT l 0 = 2) → pb_Mo_rightPacket_52 K u := by
    intro hc
    refine br_c (fun h => ?_) (fun h => ?_)
    · rw [hs] at h
      exact ⟨pj_bi1, kt ⟨h3, h20, h2, Or.inl ⟨hc, (nI_ltI (a := 3) (by decide) h31).mp h⟩⟩⟩
    · refine e60 (fun q => h ?_)
      rw [hs]
      exact nI_lt (a := 3) q.2 h31
  refine ⟨v48 (n := 0) (by decide), br_c (fun h => e52 (Or.inl (by rw [← a0]; exact h))) (fun n1 => ?_)⟩
  refine ⟨v48 (n := 0) (by decide), br_c (fun h => e52 (Or.inr (by rw [← a0]; exact h))) (fun n2 => ?_)⟩
  rw [a0] at n1 n2
  exact e60 (fun q => q.1.elim n1 n2)
theorem mP.push {u : pj_M} {l : List Int32} {x : Int32} (hr : mP u l) (hl : l.length < 48) : mP (pj_set (pj_set u 227 (u 217 16).toNatClampNeg x) 217 16 (pj_set u 227 (u 217 16).toNatClampNeg x 217 16 + 1)) (l ++ [x]) := by
  refine ⟨?_, by simp; omega, fun j hj => ?_⟩
  · rw [ps_s, ps_i (by decide), hr.1, nI_1]; simp
  · rw [ps_i (by decide), hr.1, nI_clamp (by omega)]
    rw [List.length_append, List.length_singleton] at hj
    by_cases e : j = l.length
    · rw [e, ps_s, gd_hi]
    · rw [ps_k e, gd_lo (by omega), hr.2.2 j (by omega)]
theorem mP0 {u : pj_M} : mP (pj_set u 217 16 0) [] := ⟨ps_s, by simp, fun j hj => absurd hj (Nat.not_lt_zero j)⟩
theorem lp_Mo_frame {f : List Int32} {K : Int32 → pj_M → Prop} : ∀ (d t : Nat) (u : pj_M) (l : List Int32), t + d = f.length → l.length + d < 48 → mR u f → mP u l → (∀ u', mR u' f → mP u' (l ++ f.drop t) → fP' u u' → pb_Mo_frame_81 K u') → pb_Mo_frame_42 K (d + 1) u (nI t) := by
  intro d
  induction d with
  | zero =>
    intro t u l ht hl hr hp k
    refine br_t (by rw [hr.1]; exact nI_le (by omega) (by have := hr.2.1; omega)) ?_
    rw [List.drop_eq_nil_of_le (by omega), List.append_nil] at k
    exact k u hr hp ⟨fun _ _ _ => rfl, fun _ _ => rfl⟩
  | succ d ih =>
    intro t u l ht hl hr hp k
    have h48 := hr.2.1
    refine br_f (by rw [hr.1]; exact nI_ge (by omega) (by omega)) ⟨v48 (by omega), by rw [hp.1]; exact v48 (by omega), ?_⟩
    have g : fP' u (pj_set (pj_set u 227 (u 217 16).toNatClampNeg (u 226 (nI t).toNatClampNeg)) 217 16 (pj_set u 227 (u 217 16).toNatClampNeg (u 226 (nI t).toNatClampNeg) 217 16 + 1)) := fP'.a.tr fP'.n
    have hp1 := hp.push (x := u 226 (nI t).toNatClampNeg) (by omega)
    show pb_Mo_frame_42 K (d + 1) _ (nI t + 1)
    rw [nI_1]
    refine ih (t + 1) _ _ (by omega) (by simp; omega) (hr.fP g) hp1 (fun u' h1 h2 g' => ?_)
    refine k u' h1 ?_ (g.tr g')
    rw [nI_clamp (by omega), hr.2.2 t (by omega), List.append_assoc] at h2
    rw [dr_c (show t < f.length by omega)]
    exact h2
theorem sp_Mo_frame {u : pj_M} {f : List Int32} {K : Int32 → pj_M → Prop} (hr : mR u f) (ks : fS f → K (aT f 0) u) (kp : ¬ fS f → fP f → ∀ u', mP u' (f.drop 1) → fP' u u' → K 0 u') (kn : ¬ fS f → ¬ fP f → ∀ u', fP' u u' → K (-1) u') : pw_Mo_frame u K := by
  have h48 := hr.2.1
  have h31 := hr.lt
  have e35 : ¬ fS f → pb_Mo_frame_35 K u := by
    intro hn
    have r1 : mR (pj_set u 217 16 0) f := hr.keep (ps_k (by decide)) (ps_i (by decide))
    by_cases hl : 1 ≤ f.length
    · refine ⟨f.length - 1 + 1, lp_Mo_frame (f.length - 1) 1 _ [] (by omega) (by simp; omega) r1 mP0 (fun u2 hr2 hp2 g2 => ?_)⟩
      have g := fP'.n.tr g2
      rw [List.nil_append] at hp2
      refine br_f (fun h => ?_) ?_
      · rw [hr2.1] at h
        exact nI_ge (a := 0) (b := f.length) (by omega) h31 h
      refine ⟨v48 (n := 0) (by decide), br_c (fun h => ?_) (fun h => ?_)⟩
      · have h0 : aT f 0 = 0 := by rw [← hr2.at (j := 0) (by omega)]; exact h
        refine sp_Mo_rightPacket hp2 (fun hp => br_f (by decide) ?_) (fun hp => br_t rfl ?_)
        · exact kp hn ⟨h0, hp⟩ u2 hp2 g
        · exact kn hn (fun z => hp z.2) u2 g
      · refine kn hn (fun z => h ?_) u2 g
        rw [show u2 226 (0 : Int32).toNatClampNeg = aT f 0 from hr2.at (j := 0) (by omega)]
        exact z.1
    · have e : f.length = 0 := by omega
      refine ⟨1, br_t (by rw [r1.1, e]; decide) (br_t (by rw [r1.1, e]; decide) ?_)⟩
      refine kn hn (fun z => ?_) _ fP'.n
      have z1 := z.1
      unfold aT at z1
      rw [List.getD_eq_getElem?_getD, List.getElem?_eq_none (by omega)] at z1
      exact absurd z1 (by decide)
  refine br_c (fun h => ?_) (fun h => ?_)
  · rw [hr.1] at h
    have hl : f.length = 1 := (nI_e 1 h31 (by decide)).mp h
    have a0 : u 226 (0 : Int32).toNatClampNeg = aT f 0 := hr.at (j := 0) (by omega)
    have e28 : fS f → pb_Mo_frame_28 K u := fun hs => ⟨v48 (n := 0) (by decide), by rw [a0]; exact ks hs⟩
    refine ⟨v48 (n := 0) (by decide), br_c (fun h => e28 ⟨hl, Or.inl (by rw [← a0]; exact h)⟩) (fun n1 => ?_)⟩
    refine ⟨v48 (n := 0) (by decide), br_c (fun h => e28 ⟨hl, Or.inr (by rw [← a0]; exact h)⟩) (fun n2 => ?_)⟩
    rw [a0] at n1 n2
    exact e35 (fun z => z.2.elim n1 n2)
  · exact e35 (fun z => h (by rw [hr.1, z.1]; rfl))
theorem lp_Mo_sendFrame {w p : Int32} {m : List Int32} {K : pj_M → Prop} (hb : bl m) : ∀ (d t : Nat) (u : pj_M) (l : List Int32), t + d = m.length → l.length + d ≤ 48 → mR u l → mP u m → (∀ u', mR u' (l ++ m.drop t) → mP u' m → fR u u' → pw_Mo_send u' w p fun u1 => K u1) → pb_Mo_sendFrame_12 K w p (d + 1) u (nI t) := by
  intro d
  induction d with
  | zero =>
    intro t u l ht hl hr hp k
    refine br_t (by rw [hp.1]; exact nI_le (by omega) (by have := hp.2.1; omega)) ?_
    rw [List.drop_eq_nil_of_le (by omega), List.append_nil] at k
    exact k u hr hp ⟨fun _ _ _ => rfl, fun _ _ => rfl⟩
  | succ d ih =>
    intro t u l ht hl hr hp k
    have h48 := hp.2.1
    refine br_f (by rw [hp.1]; exact nI_ge (by omega) (by omega)) ⟨v48 (by omega), ?_⟩
    rw [nI_clamp (by omega), hp.2.2 t (by omega)]
    refine sp_Mo_toRow hr (by omega) (fun u1 h1 g1 => ?_)
    rw [hb t (by omega)] at h1
    show pb_Mo_sendFrame_12 K w p (d + 1) u1 (nI t + 1)
    rw [nI_1]
    refine ih (t + 1) u1 _ (by omega) (by simp; omega) h1 (hp.fR g1) (fun u' h2 h3 g' => ?_)
    refine k u' ?_ h3 (g1.tr g')
    rw [dr_c (show t < m.length by omega)]
    rw [List.append_assoc] at h2
    exact h2
theorem sp_Mo_sendFrame {u : pj_M} {w p : Int32} {m : List Int32} {ms : List mT} {K : pj_M → Prop} (h : mm u ms) (hp : mP u m) (hb : bl m) (hl : m.length ≤ 47) (k : ∀ u', mm u' (ad ms (w, p, 0 :: m)) → mP u' m → gm u u' → K u') : pw_Mo_sendFrame u w p K := by
  show pw_Mo_toRow (pj_set u 217 11 0) 0 _
  refine sp_Mo_toRow mR0 (by simp) (fun u1 h1 g1 => ?_)
  have g01 : fR u u1 := fR.n.tr g1
  rw [show (0 : Int32) &&& 255 = 0 by decide, List.nil_append] at h1
  refine ⟨m.length + 1, lp_Mo_sendFrame hb m.length 0 u1 [0] (by omega) (by simp; omega) h1 (hp.fR g01) (fun u2 h2 p2 g2 => ?_)⟩
  have g02 := g01.tr g2
  refine sp_Mo_send (h.gs g02.gs) h2 (fun u3 h3 g3 => ?_)
  exact k u3 h3 (p2.fM g3) (g02.gs.gm.tr g3.gm)
