/-! The pure part: the reference's packet is built; its mailbox -/
theorem mP.put {u : pj_M} {l : List Int32} {j : Nat} {v : Int32} (hr : mP u l) (hj : j < l.length) : mP (pj_set u 227 j v) (l.set j v) := by
  refine ⟨by rw [ps_i (by decide), hr.1]; simp, by simp; exact hr.2.1, fun t ht => ?_⟩
  rw [List.length_set] at ht
  rw [gd_set hj]
  by_cases e : t = j
  · rw [e, ps_s, if_pos rfl]
  · rw [ps_k e, if_neg e]; exact hr.2.2 t ht
/-- a packet's head -/
def ph (code id t : Int32) : List Int32 := if 3 ≤ code then [code, id &&& 255, 3] else [code, id &&& 255, 4, t]
/-- data are added, and the length is set -/
def pd (l ds : List Int32) : List Int32 := (l ++ ds).set 2 (nI (l.length + ds.length))
theorem sp_Mo_packet {u : pj_M} {code id t : Int32} {K : pj_M → Prop} (k : ∀ u', mP u' (ph code id t) → fP' u u' → K u') : pw_Mo_packet u code id t K := by
  have v : ∀ n, n < 48 → vp_in (nI n) 48 := fun n h => vp_in_nI h (by decide)
  refine ⟨v 0 (by decide), v 1 (by decide), v 3 (by decide), ?_⟩
  have fr : ∀ w : Int32, fP' u (pj_set (pj_set (pj_set (pj_set (pj_set u 227 0 code) 227 1 (id &&& 255)) 227 3 t) 217 16 w) 227 2 w) := fun w => (fP'.a.tr fP'.a).tr (fP'.a.tr (fP'.n.tr fP'.a))
  refine br_c (fun h => ?_) (fun h => ?_)
  · refine ⟨v 2 (by decide), ?_⟩
    show K (pj_set (pj_set (pj_set (pj_set (pj_set u 227 0 code) 227 1 (id &&& 255)) 227 3 t) 217 16 3) 227 2 (pj_set (pj_set (pj_set (pj_set u 227 0 code) 227 1 (id &&& 255)) 227 3 t) 217 16 3 217 16))
    rw [ps_s]
    refine k _ ⟨?_, ?_, fun j hj => ?_⟩ (fr 3)
    · rw [ps_i (by decide), ps_s, ph, if_pos h]; rfl
    · rw [ph, if_pos h]; simp
    · rw [ph, if_pos h] at hj ⊢
      have hj' : j < 3 := hj
      have : j = 0 ∨ j = 1 ∨ j = 2 := by omega
      rcases this with rfl | rfl | rfl
      · rw [ps_k (by decide), ps_i (by decide), ps_k (by decide), ps_k (by decide), ps_s]; rfl
      · rw [ps_k (by decide), ps_i (by decide), ps_k (by decide), ps_s]; rfl
      · rw [ps_s]; rfl
  · refine ⟨v 2 (by decide), ?_⟩
    show K (pj_set (pj_set (pj_set (pj_set (pj_set u 227 0 code) 227 1 (id &&& 255)) 227 3 t) 217 16 4) 227 2 (pj_set (pj_set (pj_set (pj_set u 227 0 code) 227 1 (id &&& 255)) 227 3 t) 217 16 4 217 16))
    rw [ps_s]
    refine k _ ⟨?_, ?_, fun j hj => ?_⟩ (fr 4)
    · rw [ps_i (by decide), ps_s, ph, if_neg h]; rfl
    · rw [ph, if_neg h]; simp
    · rw [ph, if_neg h] at hj ⊢
      have hj' : j < 4 := hj
      have : j = 0 ∨ j = 1 ∨ j = 2 ∨ j = 3 := by omega
      rcases this with rfl | rfl | rfl | rfl
      · rw [ps_k (by decide), ps_i (by decide), ps_k (by decide), ps_k (by decide), ps_s]; rfl
      · rw [ps_k (by decide), ps_i (by decide), ps_k (by decide), ps_s]; rfl
      · rw [ps_s]; rfl
      · rw [ps_k (by decide), ps_i (by decide), ps_s]; rfl
theorem sp_Mo_addData {u : pj_M} {l : List Int32} {x : Int32} {K : pj_M → Prop} (hr : mP u l) (h2 : 2 < l.length) (hl : l.length < 48) (k : ∀ u', mP u' (pd l [x &&& 255]) → fP' u u' → K u') : pw_Mo_addData u x K := by
  refine ⟨by rw [hr.1]; exact vp_in_nI hl (by decide), vp_in_nI (n := 2) (by decide) (by decide), ?_⟩
  have r1 : mP (pj_set (pj_set u 227 (u 217 16).toNatClampNeg (x &&& 255)) 217 16 (pj_set u 227 (u 217 16).toNatClampNeg (x &&& 255) 217 16 + 1)) (l ++ [x &&& 255]) := by
    refine ⟨?_, by simp; omega, fun j hj => ?_⟩
    · rw [ps_s, ps_i (by decide), hr.1, nI_1]; simp
    · rw [ps_i (by decide), hr.1, nI_clamp (by omega)]
      rw [List.length_append, List.length_singleton] at hj
      by_cases e : j = l.length
      · rw [e, ps_s, gd_hi]
      · rw [ps_k e, gd_lo (by omega), hr.2.2 j (by omega)]
  have r2 := r1.put (j := 2) (v := nI (l.length + 1)) (by simp; omega)
  have e16 : (pj_set (pj_set u 227 (u 217 16).toNatClampNeg (x &&& 255)) 217 16 (pj_set u 227 (u 217 16).toNatClampNeg (x &&& 255) 217 16 + 1)) 217 16 = nI (l.length + 1) := by rw [r1.1]; simp
  show K (pj_set (pj_set (pj_set u 227 (u 217 16).toNatClampNeg (x &&& 255)) 217 16 (pj_set u 227 (u 217 16).toNatClampNeg (x &&& 255) 217 16 + 1)) 227 2 ((pj_set (pj_set u 227 (u 217 16).toNatClampNeg (x &&& 255)) 217 16 (pj_set u 227 (u 217 16).toNatClampNeg (x &&& 255) 217 16 + 1)) 217 16))
  rw [e16]
  exact k _ r2 (fP'.a.tr (fP'.n.tr fP'.a))
theorem pd_len (l ds : List Int32) : (pd l ds).length = l.length + ds.length := by simp [pd]
theorem pd_pd {l a b : List Int32} (h : 2 < l.length) : pd (pd l a) b = pd l (a ++ b) := by
  unfold pd
  rw [List.length_set, List.length_append, List.length_append]
  apply List.ext_getElem?
  intro i
  by_cases e : i = 2
  · subst e
    rw [List.getElem?_set_self (by simp; omega), List.getElem?_set_self (by simp; omega), Nat.add_assoc]
  · rw [List.getElem?_set_ne (Ne.symm e), List.getElem?_set_ne (Ne.symm e)]
    rw [← List.append_assoc]
    by_cases hi : i < (l ++ a).length
    · rw [List.getElem?_append_left (by simpa using hi), List.getElem?_append_left hi, List.getElem?_set_ne (Ne.symm e)]
    · rw [List.getElem?_append_right (by simpa using hi), List.getElem?_append_right (by omega), List.length_set]
theorem sp_Mo_addDataInt {u : pj_M} {l : List Int32} {v : Int32} {K : pj_M → Prop} (hr : mP u l) (h2 : 2 < l.length) (hl : l.length + 4 ≤ 48) (k : ∀ u', mP u' (pd l [y3 v, y2 v, y1 v, y0 v]) → fP' u u' → K u') : pw_Mo_addDataInt u v K := by
  refine ⟨5, br_f (by decide) ?_⟩
  refine sp_Mo_addData hr h2 (by omega) (fun u1 h1 g1 => br_f (by decide) ?_)
  refine sp_Mo_addData h1 (by rw [pd_len]; omega) (by rw [pd_len]; simp; omega) (fun u2 r2 g2 => br_f (by decide) ?_)
  refine sp_Mo_addData r2 (by rw [pd_len, pd_len]; omega) (by rw [pd_len, pd_len]; simp; omega) (fun u3 h3 g3 => br_f (by decide) ?_)
  refine sp_Mo_addData h3 (by rw [pd_len, pd_len, pd_len]; omega) (by rw [pd_len, pd_len, pd_len]; simp; omega) (fun u4 h4 g4 => br_t (by decide) ?_)
  refine k u4 ?_ (g1.tr (g2.tr (g3.tr g4)))
  rw [y_sh3, show (24 : Int32) + -8 = 16 by decide, y_sh2, show (16 : Int32) + -8 = 8 by decide, y_sh1, show (8 : Int32) + -8 = 0 by decide, y_sh0, pd_pd (by rw [pd_len, pd_len]; omega), pd_pd (by rw [pd_len]; omega), pd_pd h2] at h4
  exact h4
