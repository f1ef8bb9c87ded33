/-! The cells of the system: b + 0 .. b + 278, in the order in which they are made; the kind of each -/
def pj_tab : List Nat := [0, 1, 20, 20, 2, 21, 21, 24, 3, 22, 3, 22, 3, 22, 3, 22, 3, 22, 3, 22, 3, 22, 3, 22, 3, 22, 3, 22, 3, 22, 3, 22, 3, 22, 3, 22, 3, 22, 3, 22, 3, 22, 3, 22, 3, 22, 3, 22, 3, 22, 3, 22, 3, 22, 3, 22, 3, 22, 3, 22, 3, 22, 3, 22, 3, 22, 3, 22, 3, 22, 3, 22, 3, 22, 3, 22, 3, 22, 3, 22, 3, 22, 3, 22, 3, 22, 3, 22, 3, 22, 25, 6, 4, 22, 4, 22, 6, 4, 22, 4, 22, 6, 4, 22, 4, 22, 6, 4, 22, 4, 22, 26, 8, 27, 23, 23, 28, 5, 3, 22, 4, 22, 5, 3, 22, 4, 22, 4, 22, 7, 7, 7, 7, 3, 22, 3, 22, 3, 22, 3, 22, 8, 27, 23, 23, 28, 5, 3, 22, 4, 22, 5, 3, 22, 4, 22, 4, 22, 7, 7, 7, 7, 3, 22, 3, 22, 3, 22, 3, 22, 10, 29, 20, 4, 22, 5, 3, 22, 4, 22, 5, 3, 22, 4, 22, 9, 4, 22, 4, 22, 3, 22, 9, 4, 22, 4, 22, 3, 22, 9, 4, 22, 4, 22, 3, 22, 9, 4, 22, 4, 22, 3, 22, 3, 22, 3, 22, 11, 30, 20, 20, 21, 21, 21, 37, 22, 22, 22, 23, 23, 23, 23, 35, 31, 23, 31, 23, 23, 23, 32, 33, 33, 33, 20, 20, 20, 20, 20, 20, 30, 20, 33, 20, 20, 20, 20, 20, 36, 31, 23, 31, 23, 23, 35, 31, 23, 23, 23, 23, 23, 23, 23, 23, 31, 23, 23, 35, 34, 20]
abbrev pj_n : Nat := 279
theorem pj_tab_len : pj_tab.length = 279 := by decide +kernel
def pj_T (i : Nat) : Nat := pj_tab.getD i 99
theorem pj_lt {i k : Nat} (h : pj_T i = k) (hk : ¬ k = 99) : i < pj_n := by
  apply Nat.lt_of_not_le
  intro q
  apply hk
  rw [← h]
  unfold pj_T
  rw [List.getD_eq_getElem?_getD, List.getElem?_eq_none (by rw [pj_tab_len]; exact q)]
  rfl
def pj_R (i : Nat) : Prop := pj_T i = 3 ∨ pj_T i = 4
def pj_tys (E : Nat → ClassId) : List (ClassId × FieldType) := [(E 0, .int), (E 1, .boolean), (E 2, .object "PortGuard$Row"), (E 3, .object "PortGuard$Host"), (E 4, .object "PortGuard$Server"), (E 5, .object "PortGuard$Session"), (E 6, .object "PortGuard$Port")]
def pk_PortGuard (E : Nat → ClassId) (b : Nat) (f : Nat → Int32) (i : Nat) : va_E := .inr (0, [.ref (b + 1), .ref (b + 4), .ref (b + 90), .ref (b + 111), .ref (b + 170), .ref (b + 213), .ref (b + 215)])
def pk_Users (E : Nat → ClassId) (b : Nat) (f : Nat → Int32) (i : Nat) : va_E := .inr (1, [.ref (b + 2), .ref (b + 3)])
def pk_Mailbox (E : Nat → ClassId) (b : Nat) (f : Nat → Int32) (i : Nat) : va_E := .inr (2, [.ref (b + 5), .ref (b + 6), .ref (b + 7), .ref (b + 8), .int (f 4)])
def pk_Row (E : Nat → ClassId) (b : Nat) (f : Nat → Int32) (i : Nat) : va_E := .inr (3, [.ref (b + (i + 1)), .int (f 1)])
def pk_Packet (E : Nat → ClassId) (b : Nat) (f : Nat → Int32) (i : Nat) : va_E := .inr (4, [.ref (b + (i + 1)), .int (f 1)])
def pk_Datagram (E : Nat → ClassId) (b : Nat) (f : Nat → Int32) (i : Nat) : va_E := .inr (5, [.ref (b + (i + 1)), .ref (b + (i + 3)), .int (f 2), .int (f 3), .int (f 4), .int (f 5), .int (f 6)])
def pk_Host (E : Nat → ClassId) (b : Nat) (f : Nat → Int32) (i : Nat) : va_E := .inr (6, [.int (f 0), .ref (b + 4), .ref (b + (i + 1)), .ref (b + (i + 3)), .int (f 4), .int (f 5), .int (f 6), .int (f 7), .int (f 8), .int (f 9), .int (f 10), .int (f 11), .int (f 12), .int (f 13), .int (f 14)])
def pk_Session (E : Nat → ClassId) (b : Nat) (f : Nat → Int32) (i : Nat) : va_E := .inr (7, [.int (f 0), .int (f 1), .int (f 2), .int (f 3), .int (f 4), .int (f 5), .int (f 6), .int (f 7)])
def pk_Server (E : Nat → ClassId) (b : Nat) (f : Nat → Int32) (i : Nat) : va_E := .inr (8, [.int (f 0), .int (f 1), .ref (b + 1), .ref (b + 4), .ref (b + (i + 1)), .ref (b + (i + 2)), .ref (b + (i + 3)), .ref (b + (i + 4)), .ref (b + (i + 5)), .ref (b + (i + 10)), .ref (b + (i + 15)), .int (f 11), .int (f 12), .int (f 13), .int (f 14), .int (f 15), .int (f 16), .int (f 17), .int (f 18), .int (f 19)])
def pk_Port (E : Nat → ClassId) (b : Nat) (f : Nat → Int32) (i : Nat) : va_E := .inr (9, [.int (f 0), .ref (b + (i + 1)), .ref (b + (i + 3)), .ref (b + (i + 5)), .int (f 4), .int (f 5), .int (f 6), .int (f 7), .int (f 8), .int (f 9), .int (f 10), .int (f 11), .int (f 12), .int (f 13), .int (f 14), .int (f 15), .int (f 16), .int (f 17)])
def pk_Switch (E : Nat → ClassId) (b : Nat) (f : Nat → Int32) (i : Nat) : va_E := .inr (10, [.int (f 0), .ref (b + 4), .ref (b + 171), .ref (b + 172), .ref (b + 173), .ref (b + 175), .ref (b + 180), .int (f 7), .int (f 8), .int (f 9)])
def pk_Model (E : Nat → ClassId) (b : Nat) (f : Nat → Int32) (i : Nat) : va_E := .inr (11, [.int (f 0), .ref (b + 218), .ref (b + 219), .ref (b + 220), .int (f 4), .ref (b + 221), .ref (b + 222), .ref (b + 223), .ref (b + 224), .int (f 9), .ref (b + 225), .int (f 11), .ref (b + 226), .int (f 13), .int (f 14), .int (f 15), .int (f 16), .ref (b + 227), .int (f 18), .ref (b + 228), .ref (b + 229), .ref (b + 230), .ref (b + 231), .ref (b + 232), .ref (b + 233), .ref (b + 234), .ref (b + 235), .ref (b + 236), .ref (b + 237), .ref (b + 238), .ref (b + 239), .ref (b + 240), .ref (b + 241), .ref (b + 242), .ref (b + 243), .ref (b + 244), .ref (b + 245), .ref (b + 246), .ref (b + 247), .ref (b + 248), .ref (b + 249), .ref (b + 250), .ref (b + 251), .ref (b + 252), .ref (b + 253), .ref (b + 254), .ref (b + 255), .ref (b + 256), .ref (b + 257), .ref (b + 258), .ref (b + 259), .ref (b + 260), .ref (b + 261), .ref (b + 262), .ref (b + 263), .ref (b + 264), .ref (b + 265), .ref (b + 266), .ref (b + 267), .ref (b + 268), .ref (b + 269), .ref (b + 270), .ref (b + 271), .ref (b + 272), .ref (b + 273), .ref (b + 274), .ref (b + 275), .ref (b + 276), .int (f 68), .int (f 69), .ref (b + 277), .ref (b + 278)])
def pk_I8 (E : Nat → ClassId) (b : Nat) (f : Nat → Int32) (i : Nat) : va_E := .inl (E 0, 8, .inl (f))
def pk_I40 (E : Nat → ClassId) (b : Nat) (f : Nat → Int32) (i : Nat) : va_E := .inl (E 0, 40, .inl (f))
def pk_I48 (E : Nat → ClassId) (b : Nat) (f : Nat → Int32) (i : Nat) : va_E := .inl (E 0, 48, .inl (f))
def pk_I4 (E : Nat → ClassId) (b : Nat) (f : Nat → Int32) (i : Nat) : va_E := .inl (E 0, 4, .inl (f))
def pk_Rows40 (E : Nat → ClassId) (b : Nat) (f : Nat → Int32) (i : Nat) : va_E := .inl (E 2, 40, .inr (.inr (.inr (.inr (fun q => some (b + ((f) q).toNatClampNeg))))))
def pk_Hosts4 (E : Nat → ClassId) (b : Nat) (f : Nat → Int32) (i : Nat) : va_E := .inl (E 3, 4, .inr (.inr (.inr (.inr (fun q => some (b + (fun q => 91 + 5 * q) q))))))
def pk_Servers2 (E : Nat → ClassId) (b : Nat) (f : Nat → Int32) (i : Nat) : va_E := .inl (E 4, 2, .inr (.inr (.inr (.inr (fun q => some (b + (fun q => 112 + 29 * q) q))))))
def pk_Sess4 (E : Nat → ClassId) (b : Nat) (f : Nat → Int32) (i : Nat) : va_E := .inl (E 5, 4, .inr (.inr (.inr (.inr (fun q => some (b + ((f) q).toNatClampNeg))))))
def pk_Rows4 (E : Nat → ClassId) (b : Nat) (f : Nat → Int32) (i : Nat) : va_E := .inl (E 2, 4, .inr (.inr (.inr (.inr (fun q => some (b + (fun q => i + 17 + 2 * q) q))))))
def pk_Ports4 (E : Nat → ClassId) (b : Nat) (f : Nat → Int32) (i : Nat) : va_E := .inl (E 6, 4, .inr (.inr (.inr (.inr (fun q => some (b + (fun q => 185 + 7 * q) q))))))
def pk_Z8 (E : Nat → ClassId) (b : Nat) (f : Nat → Int32) (i : Nat) : va_E := .inl (E 1, 8, .inl (f))
def pk_Z4 (E : Nat → ClassId) (b : Nat) (f : Nat → Int32) (i : Nat) : va_E := .inl (E 1, 4, .inl (f))
def pk_Z2 (E : Nat → ClassId) (b : Nat) (f : Nat → Int32) (i : Nat) : va_E := .inl (E 1, 2, .inl (f))
def pk_I2 (E : Nat → ClassId) (b : Nat) (f : Nat → Int32) (i : Nat) : va_E := .inl (E 0, 2, .inl (f))
def pk_I3 (E : Nat → ClassId) (b : Nat) (f : Nat → Int32) (i : Nat) : va_E := .inl (E 0, 3, .inl (f))
def pk_I80 (E : Nat → ClassId) (b : Nat) (f : Nat → Int32) (i : Nat) : va_E := .inl (E 0, 80, .inl (f))
def pk_I160 (E : Nat → ClassId) (b : Nat) (f : Nat → Int32) (i : Nat) : va_E := .inl (E 0, 160, .inl (f))
def pk_I1920 (E : Nat → ClassId) (b : Nat) (f : Nat → Int32) (i : Nat) : va_E := .inl (E 0, 1920, .inl (f))
def pj_k (E : Nat → ClassId) (b : Nat) (k : Nat) (f : Nat → Int32) (i : Nat) : va_E := if k = 0 then pk_PortGuard E b f i else if k = 1 then pk_Users E b f i else if k = 2 then pk_Mailbox E b f i else if k = 3 then pk_Row E b f i else if k = 4 then pk_Packet E b f i else if k = 5 then pk_Datagram E b f i else if k = 6 then pk_Host E b f i else if k = 7 then pk_Session E b f i else if k = 8 then pk_Server E b f i else if k = 9 then pk_Port E b f i else if k = 10 then pk_Switch E b f i else if k = 11 then pk_Model E b f i else if k = 20 then pk_I8 E b f i else if k = 21 then pk_I40 E b f i else if k = 22 then pk_I48 E b f i else if k = 23 then pk_I4 E b f i else if k = 24 then pk_Rows40 E b f i else if k = 25 then pk_Hosts4 E b f i else if k = 26 then pk_Servers2 E b f i else if k = 27 then pk_Sess4 E b f i else if k = 28 then pk_Rows4 E b f i else if k = 29 then pk_Ports4 E b f i else if k = 30 then pk_Z8 E b f i else if k = 31 then pk_Z4 E b f i else if k = 32 then pk_Z2 E b f i else if k = 33 then pk_I2 E b f i else if k = 34 then pk_I3 E b f i else if k = 35 then pk_I80 E b f i else if k = 36 then pk_I160 E b f i else if k = 37 then pk_I1920 E b f i else pk_I8 E b f i
def pj_c (E : Nat → ClassId) (b : Nat) (u : Nat → Nat → Int32) (i : Nat) : va_E := pj_k E b (pj_T i) (u i) i
theorem ko_0 {E : Nat → ClassId} {b : Nat} {u : Nat → Nat → Int32} {i : Nat} (t : pj_T i = 0) : pj_c E b u i = .inr (0, [.ref (b + 1), .ref (b + 4), .ref (b + 90), .ref (b + 111), .ref (b + 170), .ref (b + 213), .ref (b + 215)]) := by
  unfold pj_c
  rw [t]
  rfl
theorem ko_1 {E : Nat → ClassId} {b : Nat} {u : Nat → Nat → Int32} {i : Nat} (t : pj_T i = 1) : pj_c E b u i = .inr (1, [.ref (b + 2), .ref (b + 3)]) := by
  unfold pj_c
  rw [t]
  rfl
theorem ko_2 {E : Nat → ClassId} {b : Nat} {u : Nat → Nat → Int32} {i : Nat} (t : pj_T i = 2) : pj_c E b u i = .inr (2, [.ref (b + 5), .ref (b + 6), .ref (b + 7), .ref (b + 8), .int (u i 4)]) := by
  unfold pj_c
  rw [t]
  rfl
theorem ko_3 {E : Nat → ClassId} {b : Nat} {u : Nat → Nat → Int32} {i : Nat} (t : pj_T i = 3) : pj_c E b u i = .inr (3, [.ref (b + (i + 1)), .int (u i 1)]) := by
  unfold pj_c
  rw [t]
  rfl
theorem ko_4 {E : Nat → ClassId} {b : Nat} {u : Nat → Nat → Int32} {i : Nat} (t : pj_T i = 4) : pj_c E b u i = .inr (4, [.ref (b + (i + 1)), .int (u i 1)]) := by
  unfold pj_c
  rw [t]
  rfl
theorem ko_5 {E : Nat → ClassId} {b : Nat} {u : Nat → Nat → Int32} {i : Nat} (t : pj_T i = 5) : pj_c E b u i = .inr (5, [.ref (b + (i + 1)), .ref (b + (i + 3)), .int (u i 2), .int (u i 3), .int (u i 4), .int (u i 5), .int (u i 6)]) := by
  unfold pj_c
  rw [t]
  rfl
theorem ko_6 {E : Nat → ClassId} {b : Nat} {u : Nat → Nat → Int32} {i : Nat} (t : pj_T i = 6) : pj_c E b u i = .inr (6, [.int (u i 0), .ref (b + 4), .ref (b + (i + 1)), .ref (b + (i + 3)), .int (u i 4), .int (u i 5), .int (u i 6), .int (u i 7), .int (u i 8), .int (u i 9), .int (u i 10), .int (u i 11), .int (u i 12), .int (u i 13), .int (u i 14)]) := by
  unfold pj_c
  rw [t]
  rfl
theorem ko_7 {E : Nat → ClassId} {b : Nat} {u : Nat → Nat → Int32} {i : Nat} (t : pj_T i = 7) : pj_c E b u i = .inr (7, [.int (u i 0), .int (u i 1), .int (u i 2), .int (u i 3), .int (u i 4), .int (u i 5), .int (u i 6), .int (u i 7)]) := by
  unfold pj_c
  rw [t]
  rfl
theorem ko_8 {E : Nat → ClassId} {b : Nat} {u : Nat → Nat → Int32} {i : Nat} (t : pj_T i = 8) : pj_c E b u i = .inr (8, [.int (u i 0), .int (u i 1), .ref (b + 1), .ref (b + 4), .ref (b + (i + 1)), .ref (b + (i + 2)), .ref (b + (i + 3)), .ref (b + (i + 4)), .ref (b + (i + 5)), .ref (b + (i + 10)), .ref (b + (i + 15)), .int (u i 11), .int (u i 12), .int (u i 13), .int (u i 14), .int (u i 15), .int (u i 16), .int (u i 17), .int (u i 18), .int (u i 19)]) := by
  unfold pj_c
  rw [t]
  rfl
theorem ko_9 {E : Nat → ClassId} {b : Nat} {u : Nat → Nat → Int32} {i : Nat} (t : pj_T i = 9) : pj_c E b u i = .inr (9, [.int (u i 0), .ref (b + (i + 1)), .ref (b + (i + 3)), .ref (b + (i + 5)), .int (u i 4), .int (u i 5), .int (u i 6), .int (u i 7), .int (u i 8), .int (u i 9), .int (u i 10), .int (u i 11), .int (u i 12), .int (u i 13), .int (u i 14), .int (u i 15), .int (u i 16), .int (u i 17)]) := by
  unfold pj_c
  rw [t]
  rfl
theorem ko_10 {E : Nat → ClassId} {b : Nat} {u : Nat → Nat → Int32} {i : Nat} (t : pj_T i = 10) : pj_c E b u i = .inr (10, [.int (u i 0), .ref (b + 4), .ref (b + 171), .ref (b + 172), .ref (b + 173), .ref (b + 175), .ref (b + 180), .int (u i 7), .int (u i 8), .int (u i 9)]) := by
  unfold pj_c
  rw [t]
  rfl
theorem ko_11 {E : Nat → ClassId} {b : Nat} {u : Nat → Nat → Int32} {i : Nat} (t : pj_T i = 11) : pj_c E b u i = .inr (11, [.int (u i 0), .ref (b + 218), .ref (b + 219), .ref (b + 220), .int (u i 4), .ref (b + 221), .ref (b + 222), .ref (b + 223), .ref (b + 224), .int (u i 9), .ref (b + 225), .int (u i 11), .ref (b + 226), .int (u i 13), .int (u i 14), .int (u i 15), .int (u i 16), .ref (b + 227), .int (u i 18), .ref (b + 228), .ref (b + 229), .ref (b + 230), .ref (b + 231), .ref (b + 232), .ref (b + 233), .ref (b + 234), .ref (b + 235), .ref (b + 236), .ref (b + 237), .ref (b + 238), .ref (b + 239), .ref (b + 240), .ref (b + 241), .ref (b + 242), .ref (b + 243), .ref (b + 244), .ref (b + 245), .ref (b + 246), .ref (b + 247), .ref (b + 248), .ref (b + 249), .ref (b + 250), .ref (b + 251), .ref (b + 252), .ref (b + 253), .ref (b + 254), .ref (b + 255), .ref (b + 256), .ref (b + 257), .ref (b + 258), .ref (b + 259), .ref (b + 260), .ref (b + 261), .ref (b + 262), .ref (b + 263), .ref (b + 264), .ref (b + 265), .ref (b + 266), .ref (b + 267), .ref (b + 268), .ref (b + 269), .ref (b + 270), .ref (b + 271), .ref (b + 272), .ref (b + 273), .ref (b + 274), .ref (b + 275), .ref (b + 276), .int (u i 68), .int (u i 69), .ref (b + 277), .ref (b + 278)]) := by
  unfold pj_c
  rw [t]
  rfl
theorem ka_20 {E : Nat → ClassId} {b : Nat} {u : Nat → Nat → Int32} {i : Nat} (t : pj_T i = 20) : pj_c E b u i = .inl (E 0, 8, .inl (u i)) := by
  unfold pj_c
  rw [t]
  rfl
theorem ka_21 {E : Nat → ClassId} {b : Nat} {u : Nat → Nat → Int32} {i : Nat} (t : pj_T i = 21) : pj_c E b u i = .inl (E 0, 40, .inl (u i)) := by
  unfold pj_c
  rw [t]
  rfl
theorem ka_22 {E : Nat → ClassId} {b : Nat} {u : Nat → Nat → Int32} {i : Nat} (t : pj_T i = 22) : pj_c E b u i = .inl (E 0, 48, .inl (u i)) := by
  unfold pj_c
  rw [t]
  rfl
theorem ka_23 {E : Nat → ClassId} {b : Nat} {u : Nat → Nat → Int32} {i : Nat} (t : pj_T i = 23) : pj_c E b u i = .inl (E 0, 4, .inl (u i)) := by
  unfold pj_c
  rw [t]
  rfl
theorem ka_24 {E : Nat → ClassId} {b : Nat} {u : Nat → Nat → Int32} {i : Nat} (t : pj_T i = 24) : pj_c E b u i = .inl (E 2, 40, .inr (.inr (.inr (.inr (fun q => some (b + ((u i) q).toNatClampNeg)))))) := by
  unfold pj_c
  rw [t]
  rfl
theorem ka_25 {E : Nat → ClassId} {b : Nat} {u : Nat → Nat → Int32} {i : Nat} (t : pj_T i = 25) : pj_c E b u i = .inl (E 3, 4, .inr (.inr (.inr (.inr (fun q => some (b + (fun q => 91 + 5 * q) q)))))) := by
  unfold pj_c
  rw [t]
  rfl
theorem ka_26 {E : Nat → ClassId} {b : Nat} {u : Nat → Nat → Int32} {i : Nat} (t : pj_T i = 26) : pj_c E b u i = .inl (E 4, 2, .inr (.inr (.inr (.inr (fun q => some (b + (fun q => 112 + 29 * q) q)))))) := by
  unfold pj_c
  rw [t]
  rfl
theorem ka_27 {E : Nat → ClassId} {b : Nat} {u : Nat → Nat → Int32} {i : Nat} (t : pj_T i = 27) : pj_c E b u i = .inl (E 5, 4, .inr (.inr (.inr (.inr (fun q => some (b + ((u i) q).toNatClampNeg)))))) := by
  unfold pj_c
  rw [t]
  rfl
theorem ka_28 {E : Nat → ClassId} {b : Nat} {u : Nat → Nat → Int32} {i : Nat} (t : pj_T i = 28) : pj_c E b u i = .inl (E 2, 4, .inr (.inr (.inr (.inr (fun q => some (b + (fun q => i + 17 + 2 * q) q)))))) := by
  unfold pj_c
  rw [t]
  rfl
theorem ka_29 {E : Nat → ClassId} {b : Nat} {u : Nat → Nat → Int32} {i : Nat} (t : pj_T i = 29) : pj_c E b u i = .inl (E 6, 4, .inr (.inr (.inr (.inr (fun q => some (b + (fun q => 185 + 7 * q) q)))))) := by
  unfold pj_c
  rw [t]
  rfl
theorem ka_30 {E : Nat → ClassId} {b : Nat} {u : Nat → Nat → Int32} {i : Nat} (t : pj_T i = 30) : pj_c E b u i = .inl (E 1, 8, .inl (u i)) := by
  unfold pj_c
  rw [t]
  rfl
theorem ka_31 {E : Nat → ClassId} {b : Nat} {u : Nat → Nat → Int32} {i : Nat} (t : pj_T i = 31) : pj_c E b u i = .inl (E 1, 4, .inl (u i)) := by
  unfold pj_c
  rw [t]
  rfl
theorem ka_32 {E : Nat → ClassId} {b : Nat} {u : Nat → Nat → Int32} {i : Nat} (t : pj_T i = 32) : pj_c E b u i = .inl (E 1, 2, .inl (u i)) := by
  unfold pj_c
  rw [t]
  rfl
theorem ka_33 {E : Nat → ClassId} {b : Nat} {u : Nat → Nat → Int32} {i : Nat} (t : pj_T i = 33) : pj_c E b u i = .inl (E 0, 2, .inl (u i)) := by
  unfold pj_c
  rw [t]
  rfl
theorem ka_34 {E : Nat → ClassId} {b : Nat} {u : Nat → Nat → Int32} {i : Nat} (t : pj_T i = 34) : pj_c E b u i = .inl (E 0, 3, .inl (u i)) := by
  unfold pj_c
  rw [t]
  rfl
theorem ka_35 {E : Nat → ClassId} {b : Nat} {u : Nat → Nat → Int32} {i : Nat} (t : pj_T i = 35) : pj_c E b u i = .inl (E 0, 80, .inl (u i)) := by
  unfold pj_c
  rw [t]
  rfl
theorem ka_36 {E : Nat → ClassId} {b : Nat} {u : Nat → Nat → Int32} {i : Nat} (t : pj_T i = 36) : pj_c E b u i = .inl (E 0, 160, .inl (u i)) := by
  unfold pj_c
  rw [t]
  rfl
theorem ka_37 {E : Nat → ClassId} {b : Nat} {u : Nat → Nat → Int32} {i : Nat} (t : pj_T i = 37) : pj_c E b u i = .inl (E 0, 1920, .inl (u i)) := by
  unfold pj_c
  rw [t]
  rfl
theorem pl_Row_bytes {i : Nat} (t : pj_T i = 3) : pj_T (i + 1) = 22 := (by decide +kernel : ∀ i, i < pj_n → pj_T i = 3 → pj_T (i + 1) = 22) i (pj_lt t (by decide)) t
theorem pl_Packet_bytes {i : Nat} (t : pj_T i = 4) : pj_T (i + 1) = 22 := (by decide +kernel : ∀ i, i < pj_n → pj_T i = 4 → pj_T (i + 1) = 22) i (pj_lt t (by decide)) t
theorem pl_Datagram_row {i : Nat} (t : pj_T i = 5) : pj_T (i + 1) = 3 := (by decide +kernel : ∀ i, i < pj_n → pj_T i = 5 → pj_T (i + 1) = 3) i (pj_lt t (by decide)) t
theorem pl_Datagram_packet {i : Nat} (t : pj_T i = 5) : pj_T (i + 3) = 4 := (by decide +kernel : ∀ i, i < pj_n → pj_T i = 5 → pj_T (i + 3) = 4) i (pj_lt t (by decide)) t
theorem pl_Host_packet {i : Nat} (t : pj_T i = 6) : pj_T (i + 1) = 4 := (by decide +kernel : ∀ i, i < pj_n → pj_T i = 6 → pj_T (i + 1) = 4) i (pj_lt t (by decide)) t
theorem pl_Host_latest {i : Nat} (t : pj_T i = 6) : pj_T (i + 3) = 4 := (by decide +kernel : ∀ i, i < pj_n → pj_T i = 6 → pj_T (i + 3) = 4) i (pj_lt t (by decide)) t
theorem pl_Server_sessions {i : Nat} (t : pj_T i = 8) : pj_T (i + 1) = 27 := (by decide +kernel : ∀ i, i < pj_n → pj_T i = 8 → pj_T (i + 1) = 27) i (pj_lt t (by decide)) t
theorem pl_Server_answeredIds {i : Nat} (t : pj_T i = 8) : pj_T (i + 2) = 23 := (by decide +kernel : ∀ i, i < pj_n → pj_T i = 8 → pj_T (i + 2) = 23) i (pj_lt t (by decide)) t
theorem pl_Server_answeredAuthenticators {i : Nat} (t : pj_T i = 8) : pj_T (i + 3) = 23 := (by decide +kernel : ∀ i, i < pj_n → pj_T i = 8 → pj_T (i + 3) = 23) i (pj_lt t (by decide)) t
theorem pl_Server_answers {i : Nat} (t : pj_T i = 8) : pj_T (i + 4) = 28 := (by decide +kernel : ∀ i, i < pj_n → pj_T i = 8 → pj_T (i + 4) = 28) i (pj_lt t (by decide)) t
theorem pl_Server_request {i : Nat} (t : pj_T i = 8) : pj_T (i + 5) = 5 := (by decide +kernel : ∀ i, i < pj_n → pj_T i = 8 → pj_T (i + 5) = 5) i (pj_lt t (by decide)) t
theorem pl_Server_reply {i : Nat} (t : pj_T i = 8) : pj_T (i + 10) = 5 := (by decide +kernel : ∀ i, i < pj_n → pj_T i = 8 → pj_T (i + 10) = 5) i (pj_lt t (by decide)) t
theorem pl_Server_content {i : Nat} (t : pj_T i = 8) : pj_T (i + 15) = 4 := (by decide +kernel : ∀ i, i < pj_n → pj_T i = 8 → pj_T (i + 15) = 4) i (pj_lt t (by decide)) t
theorem pl_Port_last {i : Nat} (t : pj_T i = 9) : pj_T (i + 1) = 4 := (by decide +kernel : ∀ i, i < pj_n → pj_T i = 9 → pj_T (i + 1) = 4) i (pj_lt t (by decide)) t
theorem pl_Port_asked {i : Nat} (t : pj_T i = 9) : pj_T (i + 3) = 4 := (by decide +kernel : ∀ i, i < pj_n → pj_T i = 9 → pj_T (i + 3) = 4) i (pj_lt t (by decide)) t
theorem pl_Port_query {i : Nat} (t : pj_T i = 9) : pj_T (i + 5) = 3 := (by decide +kernel : ∀ i, i < pj_n → pj_T i = 9 → pj_T (i + 5) = 3) i (pj_lt t (by decide)) t
theorem pl_R_bytes {i : Nat} (t : pj_R i) : pj_T (i + 1) = 22 := t.elim pl_Row_bytes pl_Packet_bytes
theorem pe_25 {i : Nat} {j : Int32} (t : pj_T i = 25) (h : vp_in j 4) : pj_T (91 + 5 * j.toNatClampNeg) = 6 := (by decide +kernel : ∀ i, i < pj_n → pj_T i = 25 → ∀ q, q < 4 → pj_T (91 + 5 * q) = 6) i (pj_lt t (by decide)) t _ (Nat.not_le.mp fun q => h (Or.inr q))
theorem pe_26 {i : Nat} {j : Int32} (t : pj_T i = 26) (h : vp_in j 2) : pj_T (112 + 29 * j.toNatClampNeg) = 8 := (by decide +kernel : ∀ i, i < pj_n → pj_T i = 26 → ∀ q, q < 2 → pj_T (112 + 29 * q) = 8) i (pj_lt t (by decide)) t _ (Nat.not_le.mp fun q => h (Or.inr q))
theorem pe_28 {i : Nat} {j : Int32} (t : pj_T i = 28) (h : vp_in j 4) : pj_T (i + 17 + 2 * j.toNatClampNeg) = 3 := (by decide +kernel : ∀ i, i < pj_n → pj_T i = 28 → ∀ q, q < 4 → pj_T (i + 17 + 2 * q) = 3) i (pj_lt t (by decide)) t _ (Nat.not_le.mp fun q => h (Or.inr q))
theorem pe_29 {i : Nat} {j : Int32} (t : pj_T i = 29) (h : vp_in j 4) : pj_T (185 + 7 * j.toNatClampNeg) = 9 := (by decide +kernel : ∀ i, i < pj_n → pj_T i = 29 → ∀ q, q < 4 → pj_T (185 + 7 * q) = 9) i (pj_lt t (by decide)) t _ (Nat.not_le.mp fun q => h (Or.inr q))
theorem tk_0 : pj_T 0 = 0 := by decide +kernel
theorem tk_1 : pj_T 1 = 1 := by decide +kernel
theorem tk_2 : pj_T 2 = 20 := by decide +kernel
theorem tk_3 : pj_T 3 = 20 := by decide +kernel
theorem tk_4 : pj_T 4 = 2 := by decide +kernel
theorem tk_5 : pj_T 5 = 21 := by decide +kernel
theorem tk_6 : pj_T 6 = 21 := by decide +kernel
theorem tk_7 : pj_T 7 = 24 := by decide +kernel
theorem tk_8 : pj_T 8 = 3 := by decide +kernel
theorem tk_90 : pj_T 90 = 25 := by decide +kernel
theorem tk_111 : pj_T 111 = 26 := by decide +kernel
theorem tk_170 : pj_T 170 = 10 := by decide +kernel
theorem tk_171 : pj_T 171 = 29 := by decide +kernel
theorem tk_172 : pj_T 172 = 20 := by decide +kernel
theorem tk_173 : pj_T 173 = 4 := by decide +kernel
theorem tk_175 : pj_T 175 = 5 := by decide +kernel
theorem tk_180 : pj_T 180 = 5 := by decide +kernel
theorem tk_213 : pj_T 213 = 3 := by decide +kernel
theorem tk_215 : pj_T 215 = 3 := by decide +kernel
theorem tk_217 : pj_T 217 = 11 := by decide +kernel
theorem tk_218 : pj_T 218 = 30 := by decide +kernel
theorem tk_219 : pj_T 219 = 20 := by decide +kernel
theorem tk_220 : pj_T 220 = 20 := by decide +kernel
theorem tk_221 : pj_T 221 = 21 := by decide +kernel
theorem tk_222 : pj_T 222 = 21 := by decide +kernel
theorem tk_223 : pj_T 223 = 21 := by decide +kernel
theorem tk_224 : pj_T 224 = 37 := by decide +kernel
theorem tk_225 : pj_T 225 = 22 := by decide +kernel
theorem tk_226 : pj_T 226 = 22 := by decide +kernel
theorem tk_227 : pj_T 227 = 22 := by decide +kernel
theorem tk_228 : pj_T 228 = 23 := by decide +kernel
theorem tk_229 : pj_T 229 = 23 := by decide +kernel
theorem tk_230 : pj_T 230 = 23 := by decide +kernel
theorem tk_231 : pj_T 231 = 23 := by decide +kernel
theorem tk_232 : pj_T 232 = 35 := by decide +kernel
theorem tk_233 : pj_T 233 = 31 := by decide +kernel
theorem tk_234 : pj_T 234 = 23 := by decide +kernel
theorem tk_235 : pj_T 235 = 31 := by decide +kernel
theorem tk_236 : pj_T 236 = 23 := by decide +kernel
theorem tk_237 : pj_T 237 = 23 := by decide +kernel
theorem tk_238 : pj_T 238 = 23 := by decide +kernel
theorem tk_239 : pj_T 239 = 32 := by decide +kernel
theorem tk_240 : pj_T 240 = 33 := by decide +kernel
theorem tk_241 : pj_T 241 = 33 := by decide +kernel
theorem tk_242 : pj_T 242 = 33 := by decide +kernel
theorem tk_243 : pj_T 243 = 20 := by decide +kernel
theorem tk_244 : pj_T 244 = 20 := by decide +kernel
theorem tk_245 : pj_T 245 = 20 := by decide +kernel
theorem tk_246 : pj_T 246 = 20 := by decide +kernel
theorem tk_247 : pj_T 247 = 20 := by decide +kernel
theorem tk_248 : pj_T 248 = 20 := by decide +kernel
theorem tk_249 : pj_T 249 = 30 := by decide +kernel
theorem tk_250 : pj_T 250 = 20 := by decide +kernel
theorem tk_251 : pj_T 251 = 33 := by decide +kernel
theorem tk_252 : pj_T 252 = 20 := by decide +kernel
theorem tk_253 : pj_T 253 = 20 := by decide +kernel
theorem tk_254 : pj_T 254 = 20 := by decide +kernel
theorem tk_255 : pj_T 255 = 20 := by decide +kernel
theorem tk_256 : pj_T 256 = 20 := by decide +kernel
theorem tk_257 : pj_T 257 = 36 := by decide +kernel
theorem tk_258 : pj_T 258 = 31 := by decide +kernel
theorem tk_259 : pj_T 259 = 23 := by decide +kernel
theorem tk_260 : pj_T 260 = 31 := by decide +kernel
theorem tk_261 : pj_T 261 = 23 := by decide +kernel
theorem tk_262 : pj_T 262 = 23 := by decide +kernel
theorem tk_263 : pj_T 263 = 35 := by decide +kernel
theorem tk_264 : pj_T 264 = 31 := by decide +kernel
theorem tk_265 : pj_T 265 = 23 := by decide +kernel
theorem tk_266 : pj_T 266 = 23 := by decide +kernel
theorem tk_267 : pj_T 267 = 23 := by decide +kernel
theorem tk_268 : pj_T 268 = 23 := by decide +kernel
theorem tk_269 : pj_T 269 = 23 := by decide +kernel
theorem tk_270 : pj_T 270 = 23 := by decide +kernel
theorem tk_271 : pj_T 271 = 23 := by decide +kernel
theorem tk_272 : pj_T 272 = 23 := by decide +kernel
theorem tk_273 : pj_T 273 = 31 := by decide +kernel
theorem tk_274 : pj_T 274 = 23 := by decide +kernel
theorem tk_275 : pj_T 275 = 23 := by decide +kernel
theorem tk_276 : pj_T 276 = 35 := by decide +kernel
theorem tk_277 : pj_T 277 = 34 := by decide +kernel
theorem tk_278 : pj_T 278 = 20 := by decide +kernel
def pj_W : List Cond := lw_tbl.filter goodWord
theorem pj_Wg : ∀ w ∈ pj_W, (w.onTables && w.keeps) = true ∨ ∃ ty, w = .arrayClass ty := fun w h => good_of_word (List.mem_filter.mp h).2
theorem pj_mem {w : Cond} (i : Nat) (h : lw_tbl[i]? = some w) (hg : goodWord w = true) : w ∈ pj_W := List.mem_filter.mpr ⟨List.mem_of_getElem? h, hg⟩
theorem hin_PortGuard : ∀ w ∈ u_ws R_PG T_PortGuard 7, w ∈ pj_W := by
  intro w hw
  have h1 : u_ws R_PG T_PortGuard 7 = [532, 534, 536, 538, 540, 542, 544].filterMap (fun i => lw_tbl[i]?) := by decide +kernel
  have h2 : (u_ws R_PG T_PortGuard 7).all goodWord = true := by decide +kernel
  refine List.mem_filter.mpr ⟨?_, List.all_eq_true.mp h2 w hw⟩
  rw [h1] at hw
  obtain ⟨i, -, hi⟩ := List.mem_filterMap.mp hw
  exact List.mem_of_getElem? hi
theorem hin_Users : ∀ w ∈ u_ws R_Us T_Users 2, w ∈ pj_W := by
  intro w hw
  have h1 : u_ws R_Us T_Users 2 = [127, 129].filterMap (fun i => lw_tbl[i]?) := by decide +kernel
  have h2 : (u_ws R_Us T_Users 2).all goodWord = true := by decide +kernel
  refine List.mem_filter.mpr ⟨?_, List.all_eq_true.mp h2 w hw⟩
  rw [h1] at hw
  obtain ⟨i, -, hi⟩ := List.mem_filterMap.mp hw
  exact List.mem_of_getElem? hi
theorem hin_Mailbox : ∀ w ∈ u_ws R_Ma T_Mailbox 5, w ∈ pj_W := by
  intro w hw
  have h1 : u_ws R_Ma T_Mailbox 5 = [171, 173, 175, 177, 179].filterMap (fun i => lw_tbl[i]?) := by decide +kernel
  have h2 : (u_ws R_Ma T_Mailbox 5).all goodWord = true := by decide +kernel
  refine List.mem_filter.mpr ⟨?_, List.all_eq_true.mp h2 w hw⟩
  rw [h1] at hw
  obtain ⟨i, -, hi⟩ := List.mem_filterMap.mp hw
  exact List.mem_of_getElem? hi
theorem hin_Row : ∀ w ∈ u_ws R_Ro T_Row 2, w ∈ pj_W := by
  intro w hw
  have h1 : u_ws R_Ro T_Row 2 = [157, 159].filterMap (fun i => lw_tbl[i]?) := by decide +kernel
  have h2 : (u_ws R_Ro T_Row 2).all goodWord = true := by decide +kernel
  refine List.mem_filter.mpr ⟨?_, List.all_eq_true.mp h2 w hw⟩
  rw [h1] at hw
  obtain ⟨i, -, hi⟩ := List.mem_filterMap.mp hw
  exact List.mem_of_getElem? hi
theorem hin_Packet : ∀ w ∈ u_ws R_Pa T_Packet 2, w ∈ pj_W := by
  intro w hw
  have h1 : u_ws R_Pa T_Packet 2 = [195, 196].filterMap (fun i => lw_tbl[i]?) := by decide +kernel
  have h2 : (u_ws R_Pa T_Packet 2).all goodWord = true := by decide +kernel
  refine List.mem_filter.mpr ⟨?_, List.all_eq_true.mp h2 w hw⟩
  rw [h1] at hw
  obtain ⟨i, -, hi⟩ := List.mem_filterMap.mp hw
  exact List.mem_of_getElem? hi
theorem hin_Datagram : ∀ w ∈ u_ws R_Da T_Datagram 7, w ∈ pj_W := by
  intro w hw
  have h1 : u_ws R_Da T_Datagram 7 = [281, 283, 285, 287, 289, 291, 293].filterMap (fun i => lw_tbl[i]?) := by decide +kernel
  have h2 : (u_ws R_Da T_Datagram 7).all goodWord = true := by decide +kernel
  refine List.mem_filter.mpr ⟨?_, List.all_eq_true.mp h2 w hw⟩
  rw [h1] at hw
  obtain ⟨i, -, hi⟩ := List.mem_filterMap.mp hw
  exact List.mem_of_getElem? hi
theorem hin_Host : ∀ w ∈ u_ws R_Ho T_Host 15, w ∈ pj_W := by
  intro w hw
  have h1 : u_ws R_Ho T_Host 15 = [215, 217, 219, 221, 223, 225, 227, 229, 231, 233, 235, 237, 239, 241, 243].filterMap (fun i => lw_tbl[i]?) := by decide +kernel
  have h2 : (u_ws R_Ho T_Host 15).all goodWord = true := by decide +kernel
  refine List.mem_filter.mpr ⟨?_, List.all_eq_true.mp h2 w hw⟩
  rw [h1] at hw
  obtain ⟨i, -, hi⟩ := List.mem_filterMap.mp hw
  exact List.mem_of_getElem? hi
theorem hin_Session : ∀ w ∈ u_ws R_Se T_Session 8, w ∈ pj_W := by
  intro w hw
  have h1 : u_ws R_Se T_Session 8 = [311, 313, 315, 317, 319, 321, 323, 325].filterMap (fun i => lw_tbl[i]?) := by decide +kernel
  have h2 : (u_ws R_Se T_Session 8).all goodWord = true := by decide +kernel
  refine List.mem_filter.mpr ⟨?_, List.all_eq_true.mp h2 w hw⟩
  rw [h1] at hw
  obtain ⟨i, -, hi⟩ := List.mem_filterMap.mp hw
  exact List.mem_of_getElem? hi
theorem hin_Server : ∀ w ∈ u_ws R_Sv T_Server 20, w ∈ pj_W := by
  intro w hw
  have h1 : u_ws R_Sv T_Server 20 = [351, 353, 355, 357, 359, 361, 363, 365, 367, 369, 371, 373, 375, 377, 379, 381, 383, 385, 387, 389].filterMap (fun i => lw_tbl[i]?) := by decide +kernel
  have h2 : (u_ws R_Sv T_Server 20).all goodWord = true := by decide +kernel
  refine List.mem_filter.mpr ⟨?_, List.all_eq_true.mp h2 w hw⟩
  rw [h1] at hw
  obtain ⟨i, -, hi⟩ := List.mem_filterMap.mp hw
  exact List.mem_of_getElem? hi
theorem hin_Port : ∀ w ∈ u_ws R_Po T_Port 18, w ∈ pj_W := by
  intro w hw
  have h1 : u_ws R_Po T_Port 18 = [448, 450, 452, 454, 456, 458, 460, 462, 464, 466, 468, 470, 472, 474, 476, 478, 480, 482].filterMap (fun i => lw_tbl[i]?) := by decide +kernel
  have h2 : (u_ws R_Po T_Port 18).all goodWord = true := by decide +kernel
  refine List.mem_filter.mpr ⟨?_, List.all_eq_true.mp h2 w hw⟩
  rw [h1] at hw
  obtain ⟨i, -, hi⟩ := List.mem_filterMap.mp hw
  exact List.mem_of_getElem? hi
theorem hin_Switch : ∀ w ∈ u_ws R_Sw T_Switch 10, w ∈ pj_W := by
  intro w hw
  have h1 : u_ws R_Sw T_Switch 10 = [502, 504, 506, 508, 510, 512, 514, 516, 518, 520].filterMap (fun i => lw_tbl[i]?) := by decide +kernel
  have h2 : (u_ws R_Sw T_Switch 10).all goodWord = true := by decide +kernel
  refine List.mem_filter.mpr ⟨?_, List.all_eq_true.mp h2 w hw⟩
  rw [h1] at hw
  obtain ⟨i, -, hi⟩ := List.mem_filterMap.mp hw
  exact List.mem_of_getElem? hi
theorem hin_Model : ∀ w ∈ u_ws R_Mo T_Model 72, w ∈ pj_W := by
  intro w hw
  have h1 : u_ws R_Mo T_Model 72 = [1196, 1198, 1200, 1202, 1204, 1206, 1208, 1210, 1212, 1214, 1216, 1218, 1220, 1222, 1224, 1226, 1228, 1230, 1232, 1234, 1236, 1238, 1240, 1242, 1244, 1246, 1248, 1250, 1252, 1254, 1256, 1258, 1260, 1262, 1264, 1266, 1268, 1270, 1272, 1274, 1276, 1278, 1280, 1282, 1284, 1286, 1288, 1290, 1292, 1294, 1296, 1298, 1300, 1302, 1304, 1306, 1308, 1310, 1312, 1314, 1316, 1318, 1320, 1322, 1324, 1326, 1328, 1330, 1332, 1334, 1336, 1338].filterMap (fun i => lw_tbl[i]?) := by decide +kernel
  have h2 : (u_ws R_Mo T_Model 72).all goodWord = true := by decide +kernel
  refine List.mem_filter.mpr ⟨?_, List.all_eq_true.mp h2 w hw⟩
  rw [h1] at hw
  obtain ⟨i, -, hi⟩ := List.mem_filterMap.mp hw
  exact List.mem_of_getElem? hi
