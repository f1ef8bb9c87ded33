def pd_PortGuard (f : Nat → Int32) : Prop := f 0 = 1 ∧ f 1 = 1 ∧ f 2 = 1 ∧ f 3 = 1 ∧ f 4 = 1 ∧ f 5 = 1 ∧ f 6 = 1 ∧ True
def pd_Users (f : Nat → Int32) : Prop := f 0 = 1 ∧ f 1 = 1 ∧ True
def pd_Mailbox (f : Nat → Int32) : Prop := f 0 = 1 ∧ f 1 = 1 ∧ f 2 = 1 ∧ f 3 = 1 ∧ True
def pd_Row (f : Nat → Int32) : Prop := f 0 = 1 ∧ True
def pd_Packet (f : Nat → Int32) : Prop := f 0 = 1 ∧ True
def pd_Datagram (f : Nat → Int32) : Prop := f 0 = 1 ∧ f 1 = 1 ∧ True
def pd_Host (f : Nat → Int32) : Prop := f 1 = 1 ∧ f 2 = 1 ∧ f 3 = 1 ∧ True
def pd_Session (f : Nat → Int32) : Prop := True
def pd_Server (f : Nat → Int32) : Prop := f 2 = 1 ∧ f 3 = 1 ∧ f 4 = 1 ∧ f 5 = 1 ∧ f 6 = 1 ∧ f 7 = 1 ∧ f 8 = 1 ∧ f 9 = 1 ∧ f 10 = 1 ∧ True
def pd_Port (f : Nat → Int32) : Prop := f 1 = 1 ∧ f 2 = 1 ∧ f 3 = 1 ∧ True
def pd_Switch (f : Nat → Int32) : Prop := f 1 = 1 ∧ f 2 = 1 ∧ f 3 = 1 ∧ f 4 = 1 ∧ f 5 = 1 ∧ f 6 = 1 ∧ True
def pd_Model (f : Nat → Int32) : Prop := f 1 = 1 ∧ f 2 = 1 ∧ f 3 = 1 ∧ f 5 = 1 ∧ f 6 = 1 ∧ f 7 = 1 ∧ f 8 = 1 ∧ f 10 = 1 ∧ f 12 = 1 ∧ f 17 = 1 ∧ f 19 = 1 ∧ f 20 = 1 ∧ f 21 = 1 ∧ f 22 = 1 ∧ f 23 = 1 ∧ f 24 = 1 ∧ f 25 = 1 ∧ f 26 = 1 ∧ f 27 = 1 ∧ f 28 = 1 ∧ f 29 = 1 ∧ f 30 = 1 ∧ f 31 = 1 ∧ f 32 = 1 ∧ f 33 = 1 ∧ f 34 = 1 ∧ f 35 = 1 ∧ f 36 = 1 ∧ f 37 = 1 ∧ f 38 = 1 ∧ f 39 = 1 ∧ f 40 = 1 ∧ f 41 = 1 ∧ f 42 = 1 ∧ f 43 = 1 ∧ f 44 = 1 ∧ f 45 = 1 ∧ f 46 = 1 ∧ f 47 = 1 ∧ f 48 = 1 ∧ f 49 = 1 ∧ f 50 = 1 ∧ f 51 = 1 ∧ f 52 = 1 ∧ f 53 = 1 ∧ f 54 = 1 ∧ f 55 = 1 ∧ f 56 = 1 ∧ f 57 = 1 ∧ f 58 = 1 ∧ f 59 = 1 ∧ f 60 = 1 ∧ f 61 = 1 ∧ f 62 = 1 ∧ f 63 = 1 ∧ f 64 = 1 ∧ f 65 = 1 ∧ f 66 = 1 ∧ f 67 = 1 ∧ f 70 = 1 ∧ f 71 = 1 ∧ True
def pd_I8 (f : Nat → Int32) : Prop := True
def pd_I40 (f : Nat → Int32) : Prop := True
def pd_I48 (f : Nat → Int32) : Prop := True
def pd_I4 (f : Nat → Int32) : Prop := True
def pd_Rows40 (f : Nat → Int32) : Prop := ∀ q, q < 40 → ¬ f q = 0
def pd_Hosts4 (f : Nat → Int32) : Prop := ∀ q, q < 4 → ¬ f q = 0
def pd_Servers2 (f : Nat → Int32) : Prop := ∀ q, q < 2 → ¬ f q = 0
def pd_Sess4 (f : Nat → Int32) : Prop := ∀ q, q < 4 → ¬ f q = 0
def pd_Rows4 (f : Nat → Int32) : Prop := ∀ q, q < 4 → ¬ f q = 0
def pd_Ports4 (f : Nat → Int32) : Prop := ∀ q, q < 4 → ¬ f q = 0
def pd_Z8 (f : Nat → Int32) : Prop := True
def pd_Z4 (f : Nat → Int32) : Prop := True
def pd_Z2 (f : Nat → Int32) : Prop := True
def pd_I2 (f : Nat → Int32) : Prop := True
def pd_I3 (f : Nat → Int32) : Prop := True
def pd_I80 (f : Nat → Int32) : Prop := True
def pd_I160 (f : Nat → Int32) : Prop := True
def pd_I1920 (f : Nat → Int32) : Prop := True
def pz_ok (k : Nat) (f : Nat → Int32) : Prop := (k = 0 → pd_PortGuard f) ∧ (k = 1 → pd_Users f) ∧ (k = 2 → pd_Mailbox f) ∧ (k = 3 → pd_Row f) ∧ (k = 4 → pd_Packet f) ∧ (k = 5 → pd_Datagram f) ∧ (k = 6 → pd_Host f) ∧ (k = 7 → pd_Session f) ∧ (k = 8 → pd_Server f) ∧ (k = 9 → pd_Port f) ∧ (k = 10 → pd_Switch f) ∧ (k = 11 → pd_Model f) ∧ (k = 20 → pd_I8 f) ∧ (k = 21 → pd_I40 f) ∧ (k = 22 → pd_I48 f) ∧ (k = 23 → pd_I4 f) ∧ (k = 24 → pd_Rows40 f) ∧ (k = 25 → pd_Hosts4 f) ∧ (k = 26 → pd_Servers2 f) ∧ (k = 27 → pd_Sess4 f) ∧ (k = 28 → pd_Rows4 f) ∧ (k = 29 → pd_Ports4 f) ∧ (k = 30 → pd_Z8 f) ∧ (k = 31 → pd_Z4 f) ∧ (k = 32 → pd_Z2 f) ∧ (k = 33 → pd_I2 f) ∧ (k = 34 → pd_I3 f) ∧ (k = 35 → pd_I80 f) ∧ (k = 36 → pd_I160 f) ∧ (k = 37 → pd_I1920 f)
def pz_done (u : pj_M) : Prop := ∀ i, i < 279 → pz_ok (pj_T i) (u i)
theorem pz_cellq {cA : ClassId} {n : Nat} {f f2 : Nat → Option Nat} (h : ∀ j, j < n → f j = f2 j) : vp_cell cA (n, .inr (.inr (.inr (.inr f)))) = vp_cell cA (n, .inr (.inr (.inr (.inr f2)))) := by
  rw [vp_cell_q, vp_cell_q]
  unfold arrV
  congr 2
  funext j
  show va_rf (f j.val) = va_rf (f2 j.val)
  rw [h j.val j.isLt]
theorem pv_PortGuard {D : va_G} {E : Nat → ClassId} {b i : Nat} {u : pj_M} {H : Heap} (t : pj_T i = 0) (h : va_at D pj_cl (b + i, pz_c E b u i) H) (hd : pd_PortGuard (u i)) : va_at D pj_cl (b + i, pj_c E b u i) H := by
  rw [zo_0 t] at h
  rw [ko_0 t]
  obtain ⟨e0, e1, e2, e3, e4, e5, e6, -⟩ := hd
  simp only [e0, e1, e2, e3, e4, e5, e6, pz_rf1, va_rf] at h
  exact h
theorem pv_Users {D : va_G} {E : Nat → ClassId} {b i : Nat} {u : pj_M} {H : Heap} (t : pj_T i = 1) (h : va_at D pj_cl (b + i, pz_c E b u i) H) (hd : pd_Users (u i)) : va_at D pj_cl (b + i, pj_c E b u i) H := by
  rw [zo_1 t] at h
  rw [ko_1 t]
  obtain ⟨e0, e1, -⟩ := hd
  simp only [e0, e1, pz_rf1, va_rf] at h
  exact h
theorem pv_Mailbox {D : va_G} {E : Nat → ClassId} {b i : Nat} {u : pj_M} {H : Heap} (t : pj_T i = 2) (h : va_at D pj_cl (b + i, pz_c E b u i) H) (hd : pd_Mailbox (u i)) : va_at D pj_cl (b + i, pj_c E b u i) H := by
  rw [zo_2 t] at h
  rw [ko_2 t]
  obtain ⟨e0, e1, e2, e3, -⟩ := hd
  simp only [e0, e1, e2, e3, pz_rf1, va_rf] at h
  exact h
theorem pv_Row {D : va_G} {E : Nat → ClassId} {b i : Nat} {u : pj_M} {H : Heap} (t : pj_T i = 3) (h : va_at D pj_cl (b + i, pz_c E b u i) H) (hd : pd_Row (u i)) : va_at D pj_cl (b + i, pj_c E b u i) H := by
  rw [zo_3 t] at h
  rw [ko_3 t]
  obtain ⟨e0, -⟩ := hd
  simp only [e0, pz_rf1, va_rf] at h
  exact h
theorem pv_Packet {D : va_G} {E : Nat → ClassId} {b i : Nat} {u : pj_M} {H : Heap} (t : pj_T i = 4) (h : va_at D pj_cl (b + i, pz_c E b u i) H) (hd : pd_Packet (u i)) : va_at D pj_cl (b + i, pj_c E b u i) H := by
  rw [zo_4 t] at h
  rw [ko_4 t]
  obtain ⟨e0, -⟩ := hd
  simp only [e0, pz_rf1, va_rf] at h
  exact h
theorem pv_Datagram {D : va_G} {E : Nat → ClassId} {b i : Nat} {u : pj_M} {H : Heap} (t : pj_T i = 5) (h : va_at D pj_cl (b + i, pz_c E b u i) H) (hd : pd_Datagram (u i)) : va_at D pj_cl (b + i, pj_c E b u i) H := by
  rw [zo_5 t] at h
  rw [ko_5 t]
  obtain ⟨e0, e1, -⟩ := hd
  simp only [e0, e1, pz_rf1, va_rf] at h
  exact h
theorem pv_Host {D : va_G} {E : Nat → ClassId} {b i : Nat} {u : pj_M} {H : Heap} (t : pj_T i = 6) (h : va_at D pj_cl (b + i, pz_c E b u i) H) (hd : pd_Host (u i)) : va_at D pj_cl (b + i, pj_c E b u i) H := by
  rw [zo_6 t] at h
  rw [ko_6 t]
  obtain ⟨e1, e2, e3, -⟩ := hd
  simp only [e1, e2, e3, pz_rf1, va_rf] at h
  exact h
theorem pv_Session {D : va_G} {E : Nat → ClassId} {b i : Nat} {u : pj_M} {H : Heap} (t : pj_T i = 7) (h : va_at D pj_cl (b + i, pz_c E b u i) H) (hd : pd_Session (u i)) : va_at D pj_cl (b + i, pj_c E b u i) H := by
  rw [zo_7 t] at h
  rw [ko_7 t]
  exact h
theorem pv_Server {D : va_G} {E : Nat → ClassId} {b i : Nat} {u : pj_M} {H : Heap} (t : pj_T i = 8) (h : va_at D pj_cl (b + i, pz_c E b u i) H) (hd : pd_Server (u i)) : va_at D pj_cl (b + i, pj_c E b u i) H := by
  rw [zo_8 t] at h
  rw [ko_8 t]
  obtain ⟨e2, e3, e4, e5, e6, e7, e8, e9, e10, -⟩ := hd
  simp only [e2, e3, e4, e5, e6, e7, e8, e9, e10, pz_rf1, va_rf] at h
  exact h
theorem pv_Port {D : va_G} {E : Nat → ClassId} {b i : Nat} {u : pj_M} {H : Heap} (t : pj_T i = 9) (h : va_at D pj_cl (b + i, pz_c E b u i) H) (hd : pd_Port (u i)) : va_at D pj_cl (b + i, pj_c E b u i) H := by
  rw [zo_9 t] at h
  rw [ko_9 t]
  obtain ⟨e1, e2, e3, -⟩ := hd
  simp only [e1, e2, e3, pz_rf1, va_rf] at h
  exact h
theorem pv_Switch {D : va_G} {E : Nat → ClassId} {b i : Nat} {u : pj_M} {H : Heap} (t : pj_T i = 10) (h : va_at D pj_cl (b + i, pz_c E b u i) H) (hd : pd_Switch (u i)) : va_at D pj_cl (b + i, pj_c E b u i) H := by
  rw [zo_10 t] at h
  rw [ko_10 t]
  obtain ⟨e1, e2, e3, e4, e5, e6, -⟩ := hd
  simp only [e1, e2, e3, e4, e5, e6, pz_rf1, va_rf] at h
  exact h
theorem pv_Model {D : va_G} {E : Nat → ClassId} {b i : Nat} {u : pj_M} {H : Heap} (t : pj_T i = 11) (h : va_at D pj_cl (b + i, pz_c E b u i) H) (hd : pd_Model (u i)) : va_at D pj_cl (b + i, pj_c E b u i) H := by
  rw [zo_11 t] at h
  rw [ko_11 t]
  obtain ⟨e1, e2, e3, e5, e6, e7, e8, e10, e12, e17, e19, e20, e21, e22, e23, e24, e25, e26, e27, e28, e29, e30, e31, e32, e33, e34, e35, e36, e37, e38, e39, e40, e41, e42, e43, e44, e45, e46, e47, e48, e49, e50, e51, e52, e53, e54, e55, e56, e57, e58, e59, e60, e61, e62, e63, e64, e65, e66, e67, e70, e71, -⟩ := hd
  simp only [e1, e2, e3, e5, e6, e7, e8, e10, e12, e17, e19, e20, e21, e22, e23, e24, e25, e26, e27, e28, e29, e30, e31, e32, e33, e34, e35, e36, e37, e38, e39, e40, e41, e42, e43, e44, e45, e46, e47, e48, e49, e50, e51, e52, e53, e54, e55, e56, e57, e58, e59, e60, e61, e62, e63, e64, e65, e66, e67, e70, e71, pz_rf1, va_rf] at h
  exact h
theorem pv_I8 {D : va_G} {E : Nat → ClassId} {b i : Nat} {u : pj_M} {H : Heap} (t : pj_T i = 20) (h : va_at D pj_cl (b + i, pz_c E b u i) H) (hd : pd_I8 (u i)) : va_at D pj_cl (b + i, pj_c E b u i) H := by
  rw [za_20 t] at h
  rw [ka_20 t]
  exact h
theorem pv_I40 {D : va_G} {E : Nat → ClassId} {b i : Nat} {u : pj_M} {H : Heap} (t : pj_T i = 21) (h : va_at D pj_cl (b + i, pz_c E b u i) H) (hd : pd_I40 (u i)) : va_at D pj_cl (b + i, pj_c E b u i) H := by
  rw [za_21 t] at h
  rw [ka_21 t]
  exact h
theorem pv_I48 {D : va_G} {E : Nat → ClassId} {b i : Nat} {u : pj_M} {H : Heap} (t : pj_T i = 22) (h : va_at D pj_cl (b + i, pz_c E b u i) H) (hd : pd_I48 (u i)) : va_at D pj_cl (b + i, pj_c E b u i) H := by
  rw [za_22 t] at h
  rw [ka_22 t]
  exact h
theorem pv_I4 {D : va_G} {E : Nat → ClassId} {b i : Nat} {u : pj_M} {H : Heap} (t : pj_T i = 23) (h : va_at D pj_cl (b + i, pz_c E b u i) H) (hd : pd_I4 (u i)) : va_at D pj_cl (b + i, pj_c E b u i) H := by
  rw [za_23 t] at h
  rw [ka_23 t]
  exact h
theorem pv_Rows40 {D : va_G} {E : Nat → ClassId} {b i : Nat} {u : pj_M} {H : Heap} (t : pj_T i = 24) (h : va_at D pj_cl (b + i, pz_c E b u i) H) (hd : pd_Rows40 (u i)) : va_at D pj_cl (b + i, pj_c E b u i) H := by
  rw [za_24 t] at h
  rw [ka_24 t]
  have h : H[b + i]? = some (vp_cell _ _) := h
  show H[b + i]? = some (vp_cell _ _)
  rw [h]
  exact congrArg some (pz_cellq (fun j hj => pz_rfn (hd j hj) _))
theorem pv_Hosts4 {D : va_G} {E : Nat → ClassId} {b i : Nat} {u : pj_M} {H : Heap} (t : pj_T i = 25) (h : va_at D pj_cl (b + i, pz_c E b u i) H) (hd : pd_Hosts4 (u i)) : va_at D pj_cl (b + i, pj_c E b u i) H := by
  rw [za_25 t] at h
  rw [ka_25 t]
  have h : H[b + i]? = some (vp_cell _ _) := h
  show H[b + i]? = some (vp_cell _ _)
  rw [h]
  exact congrArg some (pz_cellq (fun j hj => pz_rfn (hd j hj) _))
theorem pv_Servers2 {D : va_G} {E : Nat → ClassId} {b i : Nat} {u : pj_M} {H : Heap} (t : pj_T i = 26) (h : va_at D pj_cl (b + i, pz_c E b u i) H) (hd : pd_Servers2 (u i)) : va_at D pj_cl (b + i, pj_c E b u i) H := by
  rw [za_26 t] at h
  rw [ka_26 t]
  have h : H[b + i]? = some (vp_cell _ _) := h
  show H[b + i]? = some (vp_cell _ _)
  rw [h]
  exact congrArg some (pz_cellq (fun j hj => pz_rfn (hd j hj) _))
theorem pv_Sess4 {D : va_G} {E : Nat → ClassId} {b i : Nat} {u : pj_M} {H : Heap} (t : pj_T i = 27) (h : va_at D pj_cl (b + i, pz_c E b u i) H) (hd : pd_Sess4 (u i)) : va_at D pj_cl (b + i, pj_c E b u i) H := by
  rw [za_27 t] at h
  rw [ka_27 t]
  have h : H[b + i]? = some (vp_cell _ _) := h
  show H[b + i]? = some (vp_cell _ _)
  rw [h]
  exact congrArg some (pz_cellq (fun j hj => pz_rfn (hd j hj) _))
theorem pv_Rows4 {D : va_G} {E : Nat → ClassId} {b i : Nat} {u : pj_M} {H : Heap} (t : pj_T i = 28) (h : va_at D pj_cl (b + i, pz_c E b u i) H) (hd : pd_Rows4 (u i)) : va_at D pj_cl (b + i, pj_c E b u i) H := by
  rw [za_28 t] at h
  rw [ka_28 t]
  have h : H[b + i]? = some (vp_cell _ _) := h
  show H[b + i]? = some (vp_cell _ _)
  rw [h]
  exact congrArg some (pz_cellq (fun j hj => pz_rfn (hd j hj) _))
theorem pv_Ports4 {D : va_G} {E : Nat → ClassId} {b i : Nat} {u : pj_M} {H : Heap} (t : pj_T i = 29) (h : va_at D pj_cl (b + i, pz_c E b u i) H) (hd : pd_Ports4 (u i)) : va_at D pj_cl (b + i, pj_c E b u i) H := by
  rw [za_29 t] at h
  rw [ka_29 t]
  have h : H[b + i]? = some (vp_cell _ _) := h
  show H[b + i]? = some (vp_cell _ _)
  rw [h]
  exact congrArg some (pz_cellq (fun j hj => pz_rfn (hd j hj) _))
theorem pv_Z8 {D : va_G} {E : Nat → ClassId} {b i : Nat} {u : pj_M} {H : Heap} (t : pj_T i = 30) (h : va_at D pj_cl (b + i, pz_c E b u i) H) (hd : pd_Z8 (u i)) : va_at D pj_cl (b + i, pj_c E b u i) H := by
  rw [za_30 t] at h
  rw [ka_30 t]
  exact h
theorem pv_Z4 {D : va_G} {E : Nat → ClassId} {b i : Nat} {u : pj_M} {H : Heap} (t : pj_T i = 31) (h : va_at D pj_cl (b + i, pz_c E b u i) H) (hd : pd_Z4 (u i)) : va_at D pj_cl (b + i, pj_c E b u i) H := by
  rw [za_31 t] at h
  rw [ka_31 t]
  exact h
theorem pv_Z2 {D : va_G} {E : Nat → ClassId} {b i : Nat} {u : pj_M} {H : Heap} (t : pj_T i = 32) (h : va_at D pj_cl (b + i, pz_c E b u i) H) (hd : pd_Z2 (u i)) : va_at D pj_cl (b + i, pj_c E b u i) H := by
  rw [za_32 t] at h
  rw [ka_32 t]
  exact h
theorem pv_I2 {D : va_G} {E : Nat → ClassId} {b i : Nat} {u : pj_M} {H : Heap} (t : pj_T i = 33) (h : va_at D pj_cl (b + i, pz_c E b u i) H) (hd : pd_I2 (u i)) : va_at D pj_cl (b + i, pj_c E b u i) H := by
  rw [za_33 t] at h
  rw [ka_33 t]
  exact h
theorem pv_I3 {D : va_G} {E : Nat → ClassId} {b i : Nat} {u : pj_M} {H : Heap} (t : pj_T i = 34) (h : va_at D pj_cl (b + i, pz_c E b u i) H) (hd : pd_I3 (u i)) : va_at D pj_cl (b + i, pj_c E b u i) H := by
  rw [za_34 t] at h
  rw [ka_34 t]
  exact h
theorem pv_I80 {D : va_G} {E : Nat → ClassId} {b i : Nat} {u : pj_M} {H : Heap} (t : pj_T i = 35) (h : va_at D pj_cl (b + i, pz_c E b u i) H) (hd : pd_I80 (u i)) : va_at D pj_cl (b + i, pj_c E b u i) H := by
  rw [za_35 t] at h
  rw [ka_35 t]
  exact h
theorem pv_I160 {D : va_G} {E : Nat → ClassId} {b i : Nat} {u : pj_M} {H : Heap} (t : pj_T i = 36) (h : va_at D pj_cl (b + i, pz_c E b u i) H) (hd : pd_I160 (u i)) : va_at D pj_cl (b + i, pj_c E b u i) H := by
  rw [za_36 t] at h
  rw [ka_36 t]
  exact h
theorem pv_I1920 {D : va_G} {E : Nat → ClassId} {b i : Nat} {u : pj_M} {H : Heap} (t : pj_T i = 37) (h : va_at D pj_cl (b + i, pz_c E b u i) H) (hd : pd_I1920 (u i)) : va_at D pj_cl (b + i, pj_c E b u i) H := by
  rw [za_37 t] at h
  rw [ka_37 t]
  exact h
theorem pz_kinds : ∀ i, i < 279 → pj_T i = 0 ∨ pj_T i = 1 ∨ pj_T i = 2 ∨ pj_T i = 3 ∨ pj_T i = 4 ∨ pj_T i = 5 ∨ pj_T i = 6 ∨ pj_T i = 7 ∨ pj_T i = 8 ∨ pj_T i = 9 ∨ pj_T i = 10 ∨ pj_T i = 11 ∨ pj_T i = 20 ∨ pj_T i = 21 ∨ pj_T i = 22 ∨ pj_T i = 23 ∨ pj_T i = 24 ∨ pj_T i = 25 ∨ pj_T i = 26 ∨ pj_T i = 27 ∨ pj_T i = 28 ∨ pj_T i = 29 ∨ pj_T i = 30 ∨ pj_T i = 31 ∨ pj_T i = 32 ∨ pj_T i = 33 ∨ pj_T i = 34 ∨ pj_T i = 35 ∨ pj_T i = 36 ∨ pj_T i = 37 := by decide +kernel
theorem pz_conv {D : va_G} {E : Nat → ClassId} {b : Nat} {u : pj_M} {H : Heap} (h : va_P D pj_cl (pj_w 279 (pz_c E b u) b) H) (hd : pz_done u) : va_P D pj_cl (pj_w pj_n (pj_c E b u) b) H := by
  intro k q hk
  obtain ⟨hi, rfl⟩ := pj_w_inv hk
  have h1 := h k _ (pj_w_at hi)
  have h2 := hd k hi
  unfold pz_ok at h2
  rcases pz_kinds k hi with t | t | t | t | t | t | t | t | t | t | t | t | t | t | t | t | t | t | t | t | t | t | t | t | t | t | t | t | t | t
  · exact pv_PortGuard t h1 (h2.1 t)
  · exact pv_Users t h1 (h2.2.1 t)
  · exact pv_Mailbox t h1 (h2.2.2.1 t)
  · exact pv_Row t h1 (h2.2.2.2.1 t)
  · exact pv_Packet t h1 (h2.2.2.2.2.1 t)
  · exact pv_Datagram t h1 (h2.2.2.2.2.2.1 t)
  · exact pv_Host t h1 (h2.2.2.2.2.2.2.1 t)
  · exact pv_Session t h1 (h2.2.2.2.2.2.2.2.1 t)
  · exact pv_Server t h1 (h2.2.2.2.2.2.2.2.2.1 t)
  · exact pv_Port t h1 (h2.2.2.2.2.2.2.2.2.2.1 t)
  · exact pv_Switch t h1 (h2.2.2.2.2.2.2.2.2.2.2.1 t)
  · exact pv_Model t h1 (h2.2.2.2.2.2.2.2.2.2.2.2.1 t)
  · exact pv_I8 t h1 (h2.2.2.2.2.2.2.2.2.2.2.2.2.1 t)
  · exact pv_I40 t h1 (h2.2.2.2.2.2.2.2.2.2.2.2.2.2.1 t)
  · exact pv_I48 t h1 (h2.2.2.2.2.2.2.2.2.2.2.2.2.2.2.1 t)
  · exact pv_I4 t h1 (h2.2.2.2.2.2.2.2.2.2.2.2.2.2.2.2.1 t)
  · exact pv_Rows40 t h1 (h2.2.2.2.2.2.2.2.2.2.2.2.2.2.2.2.2.1 t)
  · exact pv_Hosts4 t h1 (h2.2.2.2.2.2.2.2.2.2.2.2.2.2.2.2.2.2.1 t)
  · exact pv_Servers2 t h1 (h2.2.2.2.2.2.2.2.2.2.2.2.2.2.2.2.2.2.2.1 t)
  · exact pv_Sess4 t h1 (h2.2.2.2.2.2.2.2.2.2.2.2.2.2.2.2.2.2.2.2.1 t)
  · exact pv_Rows4 t h1 (h2.2.2.2.2.2.2.2.2.2.2.2.2.2.2.2.2.2.2.2.2.1 t)
  · exact pv_Ports4 t h1 (h2.2.2.2.2.2.2.2.2.2.2.2.2.2.2.2.2.2.2.2.2.2.1 t)
  · exact pv_Z8 t h1 (h2.2.2.2.2.2.2.2.2.2.2.2.2.2.2.2.2.2.2.2.2.2.2.1 t)
  · exact pv_Z4 t h1 (h2.2.2.2.2.2.2.2.2.2.2.2.2.2.2.2.2.2.2.2.2.2.2.2.1 t)
  · exact pv_Z2 t h1 (h2.2.2.2.2.2.2.2.2.2.2.2.2.2.2.2.2.2.2.2.2.2.2.2.2.1 t)
  · exact pv_I2 t h1 (h2.2.2.2.2.2.2.2.2.2.2.2.2.2.2.2.2.2.2.2.2.2.2.2.2.2.1 t)
  · exact pv_I3 t h1 (h2.2.2.2.2.2.2.2.2.2.2.2.2.2.2.2.2.2.2.2.2.2.2.2.2.2.2.1 t)
  · exact pv_I80 t h1 (h2.2.2.2.2.2.2.2.2.2.2.2.2.2.2.2.2.2.2.2.2.2.2.2.2.2.2.2.1 t)
  · exact pv_I160 t h1 (h2.2.2.2.2.2.2.2.2.2.2.2.2.2.2.2.2.2.2.2.2.2.2.2.2.2.2.2.2.1 t)
  · exact pv_I1920 t h1 (h2.2.2.2.2.2.2.2.2.2.2.2.2.2.2.2.2.2.2.2.2.2.2.2.2.2.2.2.2.2 t)
theorem pz_W0 {s : State} {args : Array Value} (hts : ∀ w ∈ lw_tbl, w.before args s = true) : pz_W s := by
  refine ⟨fun w hw => ?_, fun C hC => ?_⟩
  · have h1 : pz_nw = [117, 142, 191, 194, 258, 263, 265, 297, 299, 328, 401, 403, 410, 412, 524].filterMap (fun i => lw_tbl[i]?) := by decide +kernel
    have h2 : pz_nw.all Cond.onTables = true := by decide +kernel
    refine va_Nw.of (List.all_eq_true.mp h2 w hw) (hts w ?_)
    rw [h1] at hw
    obtain ⟨i, -, hi⟩ := List.mem_filterMap.mp hw
    exact List.mem_of_getElem? hi
  · simp only [pz_ao, List.mem_cons, List.not_mem_nil, or_false] at hC
    rcases hC with rfl | rfl | rfl | rfl | rfl
    · exact va_AO.of (hts _ (List.mem_of_getElem? (i := 140) (by decide +kernel)))
    · exact va_AO.of (hts _ (List.mem_of_getElem? (i := 183) (by decide +kernel)))
    · exact va_AO.of (hts _ (List.mem_of_getElem? (i := 247) (by decide +kernel)))
    · exact va_AO.of (hts _ (List.mem_of_getElem? (i := 254) (by decide +kernel)))
    · exact va_AO.of (hts _ (List.mem_of_getElem? (i := 399) (by decide +kernel)))
theorem pz_known {s : State} {args : Array Value} (hts : ∀ w ∈ pj_W, w.before args s = true) (hao : ∀ C ∈ pz_ao, va_AO C s) : ∃ (D : va_G) (E : Nat → ClassId), va_K D pj_cl (pj_tys E) s := by
  have h0 : ∀ q ∈ pj_cl, ∃ (cC : ClassId) (iS : Nat → Nat), u_Kn s q.1 q.2.1 q.2.2 cC iS := by
    intro q hq
    simp only [pj_cl, List.mem_cons, List.not_mem_nil, or_false] at hq
    rcases hq with rfl | rfl | rfl | rfl | rfl | rfl | rfl | rfl | rfl | rfl | rfl | rfl
    · exact u_known hts hin_PortGuard (hts _ wm_108)
    · exact u_known hts hin_Users (hts _ wm_116)
    · exact u_known hts hin_Mailbox (hts _ wm_134)
    · exact u_known hts hin_Row (hts _ wm_141)
    · exact u_known hts hin_Packet (hts _ wm_190)
    · exact u_known hts hin_Datagram (hts _ wm_257)
    · exact u_known hts hin_Host (hts _ wm_184)
    · exact u_known hts hin_Session (hts _ wm_298)
    · exact u_known hts hin_Server (hts _ wm_248)
    · exact u_known hts hin_Port (hts _ wm_404)
    · exact u_known hts hin_Switch (hts _ wm_393)
    · exact u_known hts hin_Model (hts _ wm_1119)
  have h1 : ∀ c : Nat, ∃ (cC : ClassId) (iS : Nat → Nat), ∀ q, pj_cl[c]? = some q → u_Kn s q.1 q.2.1 q.2.2 cC iS := by
    intro c
    cases hq : pj_cl[c]? with
    | none => exact ⟨0, fun _ => 0, fun q h => by cases h⟩
    | some q =>
      obtain ⟨cC, iS, h⟩ := h0 q (List.mem_of_getElem? hq)
      exact ⟨cC, iS, fun q' h' => by cases h'; exact h⟩
  have hA : ∀ ty : FieldType, Cond.arrayClass ty ∈ pj_W → ∃ c, ArrOfT s c ty ∧ s.vm.findClass ("[" ++ ty.toString) = some c := by
    intro ty hw
    obtain ⟨c, k, comp, f1, f2, f3⟩ := Cond.arrayClass_spec (hts _ hw)
    exact ⟨c, fun n z => ⟨(fun k h => by cases h), k, f2, comp, f3⟩, f1⟩
  have hO : ∀ C : String, C ∈ pz_ao → ∃ c, ArrOfT s c (.object C) ∧ va_RA s c (.object C) := by
    intro C hC
    obtain ⟨comp, c, k, f1, f2, f3, f4, f5⟩ := Cond.arrayOver_spec (hao C hC)
    exact ⟨c, fun n z => ⟨(fun k h => by cases h), k, f3, comp, f4⟩, k, comp, f3, f4, f1, f5⟩
  obtain ⟨c0, g0⟩ := hA .int wm_132
  obtain ⟨c1, g1⟩ := hA .boolean wm_1341
  obtain ⟨c2, g2⟩ := hO "PortGuard$Row" (by decide)
  obtain ⟨c3, g3⟩ := hO "PortGuard$Host" (by decide)
  obtain ⟨c4, g4⟩ := hO "PortGuard$Server" (by decide)
  obtain ⟨c5, g5⟩ := hO "PortGuard$Session" (by decide)
  obtain ⟨c6, g6⟩ := hO "PortGuard$Port" (by decide)
  refine ⟨(fun c => (h1 c).choose, fun c => (h1 c).choose_spec.choose), fun t => match t with | 0 => c0 | 1 => c1 | 2 => c2 | 3 => c3 | 4 => c4 | 5 => c5 | _ => c6, fun c q hq => (h1 c).choose_spec.choose_spec q hq, fun k q hk => ?_⟩
  have hk' : k < 7 := (List.getElem?_eq_some_iff.mp hk).1
  match k, hk', hk with
  | 0, _, hk => cases hk; exact g0
  | 1, _, hk => cases hk; exact g1
  | 2, _, hk => cases hk; exact g2
  | 3, _, hk => cases hk; exact g3
  | 4, _, hk => cases hk; exact g4
  | 5, _, hk => cases hk; exact g5
  | 6, _, hk => cases hk; exact g6
/-- what is left of the claim when the machine is gone: the making of both, then the law's loop -/
def pure_law (L : Nat) (xs : Nat → Int32) : Prop := pw_PG_init 1 217 (fun _ _ => 0) (pl_cv L xs) fun u1 => u1 217 = (fun _ => 0) ∧ pw_Mo_init 218 279 u1 (pl_cv L xs) fun u2 => pz_done u2 ∧ pb_La_law_26 L xs u2
set_option maxHeartbeats 4000000 in
theorem whole_walk {p : Program} {e : Env} {s : State} {m : MethodId} {below : List Frame} {meth : Method} {c : Code} (l : Launch) {b L : Nat} {xs : Nat → Int32} (hL : L < 2 ^ 31) (C0 : lw_At p s m meth c b L xs) (hpure : pure_law L xs) : W p l e room_1 s m #[Value.ref b] below meth c s.heap [] 0 0 (lw_Z below #[Value.ref b] s) (entryFrame m ([Value.ref b] : List Value).toArray 4) := by
  obtain ⟨hx, hb, hr, hml, hown, hts0, hX, hbl, hlocks, hgv⟩ := C0
  have hts : ∀ w ∈ pj_W, w.before #[Value.ref b] s = true := fun w hw => hts0 w (List.mem_filter.mp hw).1
  have hw := pz_W0 hts0
  obtain ⟨D, E, hK⟩ := pz_known hts hw.2
  have hl := lv_entry ([.ref b] : List Value) (n := 4) (Nat.le_of_ble_eq_true rfl)
  rw [lg_entry_eq]
  have Z : pz_X (p, l, e, room_1, s, m, #[Value.ref b], below, meth, c, D, E, lw_Z below #[Value.ref b] s, 0, 0) s.heap.size 0 279 code 4 R_La ret room_1 := ⟨⟨hx, hb, hml, hown, hts⟩, hr, hlocks, hK, rfl, Or.inr (Or.inr rfl), rfl, hw, by decide, by decide +kernel, by decide, by decide⟩
  have key : pj_J (pz_g (p, l, e, room_1, s, m, #[Value.ref b], below, meth, c, D, E, lw_Z below #[Value.ref b] s, 0, 0) 0 0) (pz_N (p, l, e, room_1, s, m, #[Value.ref b], below, meth, c, D, E, lw_Z below #[Value.ref b] s, 0, 0) s.heap.size 0 (fun _ _ => 0)) 0 [some (.ref b), none, none, none] [] := by
    generalize hg : ((p, l, e, room_1, s, m, #[Value.ref b], below, meth, c, D, E, lw_Z below #[Value.ref b] s, 0, 0) : pj_G) = g at Z ⊢
    have hXg : pl_Y g s.heap.size b L xs := by subst hg; exact ⟨hX, hbl, rfl⟩
    have hend : ∀ u2, pz_done u2 ∧ pb_La_law_26 L xs u2 → pj_J (pz_g g 0 279) (pz_N g s.heap.size 279 u2) 26 [some (.ref b), some (.ref (s.heap.size + 0)), some (.ref (s.heap.size + 217)), none] [] := by
      intro u2 h
      subst hg
      intro H locs ls hl hh
      refine W.widen (k := 600000) (n := 7302250) (by decide) (by decide +kernel) ?_
      have hJ := pt_La_law_26 (g := (p, l, e, room_1, s, m, #[Value.ref b], below, meth, c, D, E, lw_Z below #[Value.ref b] s, 600000, 7302250)) (b := s.heap.size) (sb := b) (L := L) (xs := xs) ⟨⟨hx, hb, hml, hown, hts⟩, hr, hlocks, hK, rfl, Nat.le_refl _, Nat.le_refl _⟩ ⟨hX, hbl, rfl, hL, rfl, rfl, rfl, rfl, rfl⟩ h.2
      exact hJ H locs ls hl ⟨pz_conv hh.1 h.1, hh.2⟩
    clear hg
    have C := pz_pX Z (n := 0) (Nat.le_refl _) (Nat.zero_le _)
    refine pz_new Z cl_PortGuard hin_PortGuard ty_PortGuard tyok_PortGuard wm_107 wm_108 wm_91 (fs := [.null, .null, .null, .null, .null, .null, .null]) (fun E => by rw [zo_0 tk_0]; rfl) (by decide +kernel) (by decide +kernel) (Nat.le_refl _) (by decide) d_La_law_0 (pc' := 3) rfl ?_
    have C := pz_pX Z (n := 0 + 1) (Nat.zero_le _) (by decide)
    refine pj_dup C d_La_law_3 (pc' := 4) rfl rfl ?_
    refine pj_aload_n C d_La_law_4 (pc' := 5) (i := 0) (x := b) rfl rfl rfl ?_
    refine pj_iconst C d_La_law_5 (pc' := 6) rfl (v := 0) (by decide) ?_
    refine pl_cell Z hXg hL (Nat.zero_le _) (by decide) wm_1115 wm_1116 wm_90 wm_1117 (Nat.le_of_ble_eq_true rfl) d_La_law_6 (pc' := 9) rfl ?_
    refine pz_init Z (i := 0) (rest := [.ref (s.heap.size + 0)]) (As := [.int (pl_cv L xs)]) (n' := 217) (fun l D E => pc_PG_init l D E (by decide) (by decide) hpure) rfl rfl rfl (host := "PortGuard") (Or.inl wm_109) wm_110 wm_91 wm_111 (by decide +kernel) (k := 1) rfl ⟨Nat.le_of_ble_eq_true rfl, Nat.le_of_ble_eq_true rfl⟩ rfl (Nat.le_of_ble_eq_true rfl) (Nat.zero_le _) (by decide) (by decide) d_La_law_9 (pc' := 12) rfl (fun u1 h => ?_)
    obtain ⟨hz1, h⟩ := h
    have C := pz_pX Z (n := 217) (Nat.zero_le _) (by decide)
    refine pj_astore_n C d_La_law_12 (pc' := 13) (i := 1) (vs' := [some (.ref b), some (.ref (s.heap.size + 0)), none, none]) rfl rfl (Nat.le_of_ble_eq_true rfl) (Nat.le_of_ble_eq_true rfl) rfl rfl ?_
    refine pz_new Z cl_Model hin_Model ty_Model tyok_Model wm_1118 wm_1119 wm_103 (fs := [.int 0, .null, .null, .null, .int 0, .null, .null, .null, .null, .int 0, .null, .int 0, .null, .int 0, .int 0, .int 0, .int 0, .null, .int 0, .null, .null, .null, .null, .null, .null, .null, .null, .null, .null, .null, .null, .null, .null, .null, .null, .null, .null, .null, .null, .null, .null, .null, .null, .null, .null, .null, .null, .null, .null, .null, .null, .null, .null, .null, .null, .null, .null, .null, .null, .null, .null, .null, .null, .null, .null, .null, .null, .null, .int 0, .int 0, .null, .null]) (fun E => by rw [zo_11 tk_217, hz1]; rfl) (by decide +kernel) (by decide +kernel) (Nat.zero_le _) (by decide) d_La_law_13 (pc' := 16) rfl ?_
    have C := pz_pX Z (n := 217 + 1) (Nat.zero_le _) (by decide)
    refine pj_dup C d_La_law_16 (pc' := 17) rfl rfl ?_
    refine pj_aload_n C d_La_law_17 (pc' := 18) (i := 0) (x := b) rfl rfl rfl ?_
    refine pj_iconst C d_La_law_18 (pc' := 19) rfl (v := 0) (by decide) ?_
    refine pl_cell Z hXg hL (Nat.zero_le _) (by decide) wm_1115 wm_1116 wm_90 wm_1117 (Nat.le_of_ble_eq_true rfl) d_La_law_19 (pc' := 22) rfl ?_
    refine pz_init Z (i := 217) (rest := [.ref (s.heap.size + 217)]) (As := [.int (pl_cv L xs)]) (n' := 279) (fun l D E => pc_Mo_init l D E (by decide) (by decide) h) rfl rfl rfl (host := "PortGuard") (Or.inl wm_1120) wm_1121 wm_103 wm_1122 (by decide +kernel) (k := 1) rfl ⟨Nat.le_of_ble_eq_true rfl, Nat.le_of_ble_eq_true rfl⟩ rfl (Nat.le_of_ble_eq_true rfl) (Nat.zero_le _) (by decide) (by decide) d_La_law_22 (pc' := 25) rfl (fun u2 h => ?_)
    have C := pz_pX Z (n := 279) (Nat.zero_le _) (by decide)
    refine pj_astore_n C d_La_law_25 (pc' := 26) (i := 2) (vs' := [some (.ref b), some (.ref (s.heap.size + 0)), some (.ref (s.heap.size + 217)), none]) rfl rfl (Nat.le_of_ble_eq_true rfl) (Nat.le_of_ble_eq_true rfl) rfl rfl ?_
    exact hend u2 h
  refine key s.heap [] _ ⟨hl.1.trans hml.symm, hl.2.1, fun i v h => hl.2.2 (i, v) ?_⟩ ⟨fun k q hk => by simp [pj_w] at hk, va_S.rf⟩
  exact pj_vs_pad (av := [.ref b]) (n := 3) h
