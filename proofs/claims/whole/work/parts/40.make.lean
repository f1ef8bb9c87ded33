/-! The making of the cells: the world grows; a reference's place in the memory is 0 till it is set -/
def pz_rf (x : Int32) (a : Nat) : Option Nat := if x = 0 then none else some a
theorem pz_rf0 (a : Nat) : pz_rf 0 a = none := if_pos rfl
theorem pz_rf1 (a : Nat) : pz_rf 1 a = some a := if_neg (by decide)
theorem pz_rfn {x : Int32} (h : ¬ x = 0) (a : Nat) : pz_rf x a = some a := if_neg h
def pq_PortGuard (E : Nat → ClassId) (b : Nat) (f : Nat → Int32) (i : Nat) : va_E := .inr (0, [va_rf (pz_rf (f 0) (b + 1)), va_rf (pz_rf (f 1) (b + 4)), va_rf (pz_rf (f 2) (b + 90)), va_rf (pz_rf (f 3) (b + 111)), va_rf (pz_rf (f 4) (b + 170)), va_rf (pz_rf (f 5) (b + 213)), va_rf (pz_rf (f 6) (b + 215))])
def pq_Users (E : Nat → ClassId) (b : Nat) (f : Nat → Int32) (i : Nat) : va_E := .inr (1, [va_rf (pz_rf (f 0) (b + 2)), va_rf (pz_rf (f 1) (b + 3))])
def pq_Mailbox (E : Nat → ClassId) (b : Nat) (f : Nat → Int32) (i : Nat) : va_E := .inr (2, [va_rf (pz_rf (f 0) (b + 5)), va_rf (pz_rf (f 1) (b + 6)), va_rf (pz_rf (f 2) (b + 7)), va_rf (pz_rf (f 3) (b + 8)), .int (f 4)])
def pq_Row (E : Nat → ClassId) (b : Nat) (f : Nat → Int32) (i : Nat) : va_E := .inr (3, [va_rf (pz_rf (f 0) (b + (i + 1))), .int (f 1)])
def pq_Packet (E : Nat → ClassId) (b : Nat) (f : Nat → Int32) (i : Nat) : va_E := .inr (4, [va_rf (pz_rf (f 0) (b + (i + 1))), .int (f 1)])
def pq_Datagram (E : Nat → ClassId) (b : Nat) (f : Nat → Int32) (i : Nat) : va_E := .inr (5, [va_rf (pz_rf (f 0) (b + (i + 1))), va_rf (pz_rf (f 1) (b + (i + 3))), .int (f 2), .int (f 3), .int (f 4), .int (f 5), .int (f 6)])
def pq_Host (E : Nat → ClassId) (b : Nat) (f : Nat → Int32) (i : Nat) : va_E := .inr (6, [.int (f 0), va_rf (pz_rf (f 1) (b + 4)), va_rf (pz_rf (f 2) (b + (i + 1))), va_rf (pz_rf (f 3) (b + (i + 3))), .int (f 4), .int (f 5), .int (f 6), .int (f 7), .int (f 8), .int (f 9), .int (f 10), .int (f 11), .int (f 12), .int (f 13), .int (f 14)])
def pq_Session (E : Nat → ClassId) (b : Nat) (f : Nat → Int32) (i : Nat) : va_E := .inr (7, [.int (f 0), .int (f 1), .int (f 2), .int (f 3), .int (f 4), .int (f 5), .int (f 6), .int (f 7)])
def pq_Server (E : Nat → ClassId) (b : Nat) (f : Nat → Int32) (i : Nat) : va_E := .inr (8, [.int (f 0), .int (f 1), va_rf (pz_rf (f 2) (b + 1)), va_rf (pz_rf (f 3) (b + 4)), va_rf (pz_rf (f 4) (b + (i + 1))), va_rf (pz_rf (f 5) (b + (i + 2))), va_rf (pz_rf (f 6) (b + (i + 3))), va_rf (pz_rf (f 7) (b + (i + 4))), va_rf (pz_rf (f 8) (b + (i + 5))), va_rf (pz_rf (f 9) (b + (i + 10))), va_rf (pz_rf (f 10) (b + (i + 15))), .int (f 11), .int (f 12), .int (f 13), .int (f 14), .int (f 15), .int (f 16), .int (f 17), .int (f 18), .int (f 19)])
def pq_Port (E : Nat → ClassId) (b : Nat) (f : Nat → Int32) (i : Nat) : va_E := .inr (9, [.int (f 0), va_rf (pz_rf (f 1) (b + (i + 1))), va_rf (pz_rf (f 2) (b + (i + 3))), va_rf (pz_rf (f 3) (b + (i + 5))), .int (f 4), .int (f 5), .int (f 6), .int (f 7), .int (f 8), .int (f 9), .int (f 10), .int (f 11), .int (f 12), .int (f 13), .int (f 14), .int (f 15), .int (f 16), .int (f 17)])
def pq_Switch (E : Nat → ClassId) (b : Nat) (f : Nat → Int32) (i : Nat) : va_E := .inr (10, [.int (f 0), va_rf (pz_rf (f 1) (b + 4)), va_rf (pz_rf (f 2) (b + 171)), va_rf (pz_rf (f 3) (b + 172)), va_rf (pz_rf (f 4) (b + 173)), va_rf (pz_rf (f 5) (b + 175)), va_rf (pz_rf (f 6) (b + 180)), .int (f 7), .int (f 8), .int (f 9)])
def pq_Model (E : Nat → ClassId) (b : Nat) (f : Nat → Int32) (i : Nat) : va_E := .inr (11, [.int (f 0), va_rf (pz_rf (f 1) (b + 218)), va_rf (pz_rf (f 2) (b + 219)), va_rf (pz_rf (f 3) (b + 220)), .int (f 4), va_rf (pz_rf (f 5) (b + 221)), va_rf (pz_rf (f 6) (b + 222)), va_rf (pz_rf (f 7) (b + 223)), va_rf (pz_rf (f 8) (b + 224)), .int (f 9), va_rf (pz_rf (f 10) (b + 225)), .int (f 11), va_rf (pz_rf (f 12) (b + 226)), .int (f 13), .int (f 14), .int (f 15), .int (f 16), va_rf (pz_rf (f 17) (b + 227)), .int (f 18), va_rf (pz_rf (f 19) (b + 228)), va_rf (pz_rf (f 20) (b + 229)), va_rf (pz_rf (f 21) (b + 230)), va_rf (pz_rf (f 22) (b + 231)), va_rf (pz_rf (f 23) (b + 232)), va_rf (pz_rf (f 24) (b + 233)), va_rf (pz_rf (f 25) (b + 234)), va_rf (pz_rf (f 26) (b + 235)), va_rf (pz_rf (f 27) (b + 236)), va_rf (pz_rf (f 28) (b + 237)), va_rf (pz_rf (f 29) (b + 238)), va_rf (pz_rf (f 30) (b + 239)), va_rf (pz_rf (f 31) (b + 240)), va_rf (pz_rf (f 32) (b + 241)), va_rf (pz_rf (f 33) (b + 242)), va_rf (pz_rf (f 34) (b + 243)), va_rf (pz_rf (f 35) (b + 244)), va_rf (pz_rf (f 36) (b + 245)), va_rf (pz_rf (f 37) (b + 246)), va_rf (pz_rf (f 38) (b + 247)), va_rf (pz_rf (f 39) (b + 248)), va_rf (pz_rf (f 40) (b + 249)), va_rf (pz_rf (f 41) (b + 250)), va_rf (pz_rf (f 42) (b + 251)), va_rf (pz_rf (f 43) (b + 252)), va_rf (pz_rf (f 44) (b + 253)), va_rf (pz_rf (f 45) (b + 254)), va_rf (pz_rf (f 46) (b + 255)), va_rf (pz_rf (f 47) (b + 256)), va_rf (pz_rf (f 48) (b + 257)), va_rf (pz_rf (f 49) (b + 258)), va_rf (pz_rf (f 50) (b + 259)), va_rf (pz_rf (f 51) (b + 260)), va_rf (pz_rf (f 52) (b + 261)), va_rf (pz_rf (f 53) (b + 262)), va_rf (pz_rf (f 54) (b + 263)), va_rf (pz_rf (f 55) (b + 264)), va_rf (pz_rf (f 56) (b + 265)), va_rf (pz_rf (f 57) (b + 266)), va_rf (pz_rf (f 58) (b + 267)), va_rf (pz_rf (f 59) (b + 268)), va_rf (pz_rf (f 60) (b + 269)), va_rf (pz_rf (f 61) (b + 270)), va_rf (pz_rf (f 62) (b + 271)), va_rf (pz_rf (f 63) (b + 272)), va_rf (pz_rf (f 64) (b + 273)), va_rf (pz_rf (f 65) (b + 274)), va_rf (pz_rf (f 66) (b + 275)), va_rf (pz_rf (f 67) (b + 276)), .int (f 68), .int (f 69), va_rf (pz_rf (f 70) (b + 277)), va_rf (pz_rf (f 71) (b + 278))])
def pq_I8 (E : Nat → ClassId) (b : Nat) (f : Nat → Int32) (i : Nat) : va_E := .inl (E 0, 8, .inl (f))
def pq_I40 (E : Nat → ClassId) (b : Nat) (f : Nat → Int32) (i : Nat) : va_E := .inl (E 0, 40, .inl (f))
def pq_I48 (E : Nat → ClassId) (b : Nat) (f : Nat → Int32) (i : Nat) : va_E := .inl (E 0, 48, .inl (f))
def pq_I4 (E : Nat → ClassId) (b : Nat) (f : Nat → Int32) (i : Nat) : va_E := .inl (E 0, 4, .inl (f))
def pq_Rows40 (E : Nat → ClassId) (b : Nat) (f : Nat → Int32) (i : Nat) : va_E := .inl (E 2, 40, .inr (.inr (.inr (.inr (fun q => pz_rf ((f) q) (b + ((f) q).toNatClampNeg))))))
def pq_Hosts4 (E : Nat → ClassId) (b : Nat) (f : Nat → Int32) (i : Nat) : va_E := .inl (E 3, 4, .inr (.inr (.inr (.inr (fun q => pz_rf ((f) q) (b + (fun q => 91 + 5 * q) q))))))
def pq_Servers2 (E : Nat → ClassId) (b : Nat) (f : Nat → Int32) (i : Nat) : va_E := .inl (E 4, 2, .inr (.inr (.inr (.inr (fun q => pz_rf ((f) q) (b + (fun q => 112 + 29 * q) q))))))
def pq_Sess4 (E : Nat → ClassId) (b : Nat) (f : Nat → Int32) (i : Nat) : va_E := .inl (E 5, 4, .inr (.inr (.inr (.inr (fun q => pz_rf ((f) q) (b + ((f) q).toNatClampNeg))))))
def pq_Rows4 (E : Nat → ClassId) (b : Nat) (f : Nat → Int32) (i : Nat) : va_E := .inl (E 2, 4, .inr (.inr (.inr (.inr (fun q => pz_rf ((f) q) (b + (fun q => i + 17 + 2 * q) q))))))
def pq_Ports4 (E : Nat → ClassId) (b : Nat) (f : Nat → Int32) (i : Nat) : va_E := .inl (E 6, 4, .inr (.inr (.inr (.inr (fun q => pz_rf ((f) q) (b + (fun q => 185 + 7 * q) q))))))
def pq_Z8 (E : Nat → ClassId) (b : Nat) (f : Nat → Int32) (i : Nat) : va_E := .inl (E 1, 8, .inl (f))
def pq_Z4 (E : Nat → ClassId) (b : Nat) (f : Nat → Int32) (i : Nat) : va_E := .inl (E 1, 4, .inl (f))
def pq_Z2 (E : Nat → ClassId) (b : Nat) (f : Nat → Int32) (i : Nat) : va_E := .inl (E 1, 2, .inl (f))
def pq_I2 (E : Nat → ClassId) (b : Nat) (f : Nat → Int32) (i : Nat) : va_E := .inl (E 0, 2, .inl (f))
def pq_I3 (E : Nat → ClassId) (b : Nat) (f : Nat → Int32) (i : Nat) : va_E := .inl (E 0, 3, .inl (f))
def pq_I80 (E : Nat → ClassId) (b : Nat) (f : Nat → Int32) (i : Nat) : va_E := .inl (E 0, 80, .inl (f))
def pq_I160 (E : Nat → ClassId) (b : Nat) (f : Nat → Int32) (i : Nat) : va_E := .inl (E 0, 160, .inl (f))
def pq_I1920 (E : Nat → ClassId) (b : Nat) (f : Nat → Int32) (i : Nat) : va_E := .inl (E 0, 1920, .inl (f))
def pz_k (E : Nat → ClassId) (b : Nat) (k : Nat) (f : Nat → Int32) (i : Nat) : va_E := if k = 0 then pq_PortGuard E b f i else if k = 1 then pq_Users E b f i else if k = 2 then pq_Mailbox E b f i else if k = 3 then pq_Row E b f i else if k = 4 then pq_Packet E b f i else if k = 5 then pq_Datagram E b f i else if k = 6 then pq_Host E b f i else if k = 7 then pq_Session E b f i else if k = 8 then pq_Server E b f i else if k = 9 then pq_Port E b f i else if k = 10 then pq_Switch E b f i else if k = 11 then pq_Model E b f i else if k = 20 then pq_I8 E b f i else if k = 21 then pq_I40 E b f i else if k = 22 then pq_I48 E b f i else if k = 23 then pq_I4 E b f i else if k = 24 then pq_Rows40 E b f i else if k = 25 then pq_Hosts4 E b f i else if k = 26 then pq_Servers2 E b f i else if k = 27 then pq_Sess4 E b f i else if k = 28 then pq_Rows4 E b f i else if k = 29 then pq_Ports4 E b f i else if k = 30 then pq_Z8 E b f i else if k = 31 then pq_Z4 E b f i else if k = 32 then pq_Z2 E b f i else if k = 33 then pq_I2 E b f i else if k = 34 then pq_I3 E b f i else if k = 35 then pq_I80 E b f i else if k = 36 then pq_I160 E b f i else if k = 37 then pq_I1920 E b f i else pq_I8 E b f i
def pz_c (E : Nat → ClassId) (b : Nat) (u : Nat → Nat → Int32) (i : Nat) : va_E := pz_k E b (pj_T i) (u i) i
theorem zo_0 {E : Nat → ClassId} {b : Nat} {u : Nat → Nat → Int32} {i : Nat} (t : pj_T i = 0) : pz_c E b u i = .inr (0, [va_rf (pz_rf (u i 0) (b + 1)), va_rf (pz_rf (u i 1) (b + 4)), va_rf (pz_rf (u i 2) (b + 90)), va_rf (pz_rf (u i 3) (b + 111)), va_rf (pz_rf (u i 4) (b + 170)), va_rf (pz_rf (u i 5) (b + 213)), va_rf (pz_rf (u i 6) (b + 215))]) := by
  unfold pz_c
  rw [t]
  rfl
theorem zo_1 {E : Nat → ClassId} {b : Nat} {u : Nat → Nat → Int32} {i : Nat} (t : pj_T i = 1) : pz_c E b u i = .inr (1, [va_rf (pz_rf (u i 0) (b + 2)), va_rf (pz_rf (u i 1) (b + 3))]) := by
  unfold pz_c
  rw [t]
  rfl
theorem zo_2 {E : Nat → ClassId} {b : Nat} {u : Nat → Nat → Int32} {i : Nat} (t : pj_T i = 2) : pz_c E b u i = .inr (2, [va_rf (pz_rf (u i 0) (b + 5)), va_rf (pz_rf (u i 1) (b + 6)), va_rf (pz_rf (u i 2) (b + 7)), va_rf (pz_rf (u i 3) (b + 8)), .int (u i 4)]) := by
  unfold pz_c
  rw [t]
  rfl
theorem zo_3 {E : Nat → ClassId} {b : Nat} {u : Nat → Nat → Int32} {i : Nat} (t : pj_T i = 3) : pz_c E b u i = .inr (3, [va_rf (pz_rf (u i 0) (b + (i + 1))), .int (u i 1)]) := by
  unfold pz_c
  rw [t]
  rfl
theorem zo_4 {E : Nat → ClassId} {b : Nat} {u : Nat → Nat → Int32} {i : Nat} (t : pj_T i = 4) : pz_c E b u i = .inr (4, [va_rf (pz_rf (u i 0) (b + (i + 1))), .int (u i 1)]) := by
  unfold pz_c
  rw [t]
  rfl
theorem zo_5 {E : Nat → ClassId} {b : Nat} {u : Nat → Nat → Int32} {i : Nat} (t : pj_T i = 5) : pz_c E b u i = .inr (5, [va_rf (pz_rf (u i 0) (b + (i + 1))), va_rf (pz_rf (u i 1) (b + (i + 3))), .int (u i 2), .int (u i 3), .int (u i 4), .int (u i 5), .int (u i 6)]) := by
  unfold pz_c
  rw [t]
  rfl
theorem zo_6 {E : Nat → ClassId} {b : Nat} {u : Nat → Nat → Int32} {i : Nat} (t : pj_T i = 6) : pz_c E b u i = .inr (6, [.int (u i 0), va_rf (pz_rf (u i 1) (b + 4)), va_rf (pz_rf (u i 2) (b + (i + 1))), va_rf (pz_rf (u i 3) (b + (i + 3))), .int (u i 4), .int (u i 5), .int (u i 6), .int (u i 7), .int (u i 8), .int (u i 9), .int (u i 10), .int (u i 11), .int (u i 12), .int (u i 13), .int (u i 14)]) := by
  unfold pz_c
  rw [t]
  rfl
theorem zo_7 {E : Nat → ClassId} {b : Nat} {u : Nat → Nat → Int32} {i : Nat} (t : pj_T i = 7) : pz_c E b u i = .inr (7, [.int (u i 0), .int (u i 1), .int (u i 2), .int (u i 3), .int (u i 4), .int (u i 5), .int (u i 6), .int (u i 7)]) := by
  unfold pz_c
  rw [t]
  rfl
theorem zo_8 {E : Nat → ClassId} {b : Nat} {u : Nat → Nat → Int32} {i : Nat} (t : pj_T i = 8) : pz_c E b u i = .inr (8, [.int (u i 0), .int (u i 1), va_rf (pz_rf (u i 2) (b + 1)), va_rf (pz_rf (u i 3) (b + 4)), va_rf (pz_rf (u i 4) (b + (i + 1))), va_rf (pz_rf (u i 5) (b + (i + 2))), va_rf (pz_rf (u i 6) (b + (i + 3))), va_rf (pz_rf (u i 7) (b + (i + 4))), va_rf (pz_rf (u i 8) (b + (i + 5))), va_rf (pz_rf (u i 9) (b + (i + 10))), va_rf (pz_rf (u i 10) (b + (i + 15))), .int (u i 11), .int (u i 12), .int (u i 13), .int (u i 14), .int (u i 15), .int (u i 16), .int (u i 17), .int (u i 18), .int (u i 19)]) := by
  unfold pz_c
  rw [t]
  rfl
theorem zo_9 {E : Nat → ClassId} {b : Nat} {u : Nat → Nat → Int32} {i : Nat} (t : pj_T i = 9) : pz_c E b u i = .inr (9, [.int (u i 0), va_rf (pz_rf (u i 1) (b + (i + 1))), va_rf (pz_rf (u i 2) (b + (i + 3))), va_rf (pz_rf (u i 3) (b + (i + 5))), .int (u i 4), .int (u i 5), .int (u i 6), .int (u i 7), .int (u i 8), .int (u i 9), .int (u i 10), .int (u i 11), .int (u i 12), .int (u i 13), .int (u i 14), .int (u i 15), .int (u i 16), .int (u i 17)]) := by
  unfold pz_c
  rw [t]
  rfl
theorem zo_10 {E : Nat → ClassId} {b : Nat} {u : Nat → Nat → Int32} {i : Nat} (t : pj_T i = 10) : pz_c E b u i = .inr (10, [.int (u i 0), va_rf (pz_rf (u i 1) (b + 4)), va_rf (pz_rf (u i 2) (b + 171)), va_rf (pz_rf (u i 3) (b + 172)), va_rf (pz_rf (u i 4) (b + 173)), va_rf (pz_rf (u i 5) (b + 175)), va_rf (pz_rf (u i 6) (b + 180)), .int (u i 7), .int (u i 8), .int (u i 9)]) := by
  unfold pz_c
  rw [t]
  rfl
theorem zo_11 {E : Nat → ClassId} {b : Nat} {u : Nat → Nat → Int32} {i : Nat} (t : pj_T i = 11) : pz_c E b u i = .inr (11, [.int (u i 0), va_rf (pz_rf (u i 1) (b + 218)), va_rf (pz_rf (u i 2) (b + 219)), va_rf (pz_rf (u i 3) (b + 220)), .int (u i 4), va_rf (pz_rf (u i 5) (b + 221)), va_rf (pz_rf (u i 6) (b + 222)), va_rf (pz_rf (u i 7) (b + 223)), va_rf (pz_rf (u i 8) (b + 224)), .int (u i 9), va_rf (pz_rf (u i 10) (b + 225)), .int (u i 11), va_rf (pz_rf (u i 12) (b + 226)), .int (u i 13), .int (u i 14), .int (u i 15), .int (u i 16), va_rf (pz_rf (u i 17) (b + 227)), .int (u i 18), va_rf (pz_rf (u i 19) (b + 228)), va_rf (pz_rf (u i 20) (b + 229)), va_rf (pz_rf (u i 21) (b + 230)), va_rf (pz_rf (u i 22) (b + 231)), va_rf (pz_rf (u i 23) (b + 232)), va_rf (pz_rf (u i 24) (b + 233)), va_rf (pz_rf (u i 25) (b + 234)), va_rf (pz_rf (u i 26) (b + 235)), va_rf (pz_rf (u i 27) (b + 236)), va_rf (pz_rf (u i 28) (b + 237)), va_rf (pz_rf (u i 29) (b + 238)), va_rf (pz_rf (u i 30) (b + 239)), va_rf (pz_rf (u i 31) (b + 240)), va_rf (pz_rf (u i 32) (b + 241)), va_rf (pz_rf (u i 33) (b + 242)), va_rf (pz_rf (u i 34) (b + 243)), va_rf (pz_rf (u i 35) (b + 244)), va_rf (pz_rf (u i 36) (b + 245)), va_rf (pz_rf (u i 37) (b + 246)), va_rf (pz_rf (u i 38) (b + 247)), va_rf (pz_rf (u i 39) (b + 248)), va_rf (pz_rf (u i 40) (b + 249)), va_rf (pz_rf (u i 41) (b + 250)), va_rf (pz_rf (u i 42) (b + 251)), va_rf (pz_rf (u i 43) (b + 252)), va_rf (pz_rf (u i 44) (b + 253)), va_rf (pz_rf (u i 45) (b + 254)), va_rf (pz_rf (u i 46) (b + 255)), va_rf (pz_rf (u i 47) (b + 256)), va_rf (pz_rf (u i 48) (b + 257)), va_rf (pz_rf (u i 49) (b + 258)), va_rf (pz_rf (u i 50) (b + 259)), va_rf (pz_rf (u i 51) (b + 260)), va_rf (pz_rf (u i 52) (b + 261)), va_rf (pz_rf (u i 53) (b + 262)), va_rf (pz_rf (u i 54) (b + 263)), va_rf (pz_rf (u i 55) (b + 264)), va_rf (pz_rf (u i 56) (b + 265)), va_rf (pz_rf (u i 57) (b + 266)), va_rf (pz_rf (u i 58) (b + 267)), va_rf (pz_rf (u i 59) (b + 268)), va_rf (pz_rf (u i 60) (b + 269)), va_rf (pz_rf (u i 61) (b + 270)), va_rf (pz_rf (u i 62) (b + 271)), va_rf (pz_rf (u i 63) (b + 272)), va_rf (pz_rf (u i 64) (b + 273)), va_rf (pz_rf (u i 65) (b + 274)), va_rf (pz_rf (u i 66) (b + 275)), va_rf (pz_rf (u i 67) (b + 276)), .int (u i 68), .int (u i 69), va_rf (pz_rf (u i 70) (b + 277)), va_rf (pz_rf (u i 71) (b + 278))]) := by
  unfold pz_c
  rw [t]
  rfl
theorem za_20 {E : Nat → ClassId} {b : Nat} {u : Nat → Nat → Int32} {i : Nat} (t : pj_T i = 20) : pz_c E b u i = .inl (E 0, 8, .inl (u i)) := by
  unfold pz_c
  rw [t]
  rfl
theorem za_21 {E : Nat → ClassId} {b : Nat} {u : Nat → Nat → Int32} {i : Nat} (t : pj_T i = 21) : pz_c E b u i = .inl (E 0, 40, .inl (u i)) := by
  unfold pz_c
  rw [t]
  rfl
theorem za_22 {E : Nat → ClassId} {b : Nat} {u : Nat → Nat → Int32} {i : Nat} (t : pj_T i = 22) : pz_c E b u i = .inl (E 0, 48, .inl (u i)) := by
  unfold pz_c
  rw [t]
  rfl
theorem za_23 {E : Nat → ClassId} {b : Nat} {u : Nat → Nat → Int32} {i : Nat} (t : pj_T i = 23) : pz_c E b u i = .inl (E 0, 4, .inl (u i)) := by
  unfold pz_c
  rw [t]
  rfl
theorem za_24 {E : Nat → ClassId} {b : Nat} {u : Nat → Nat → Int32} {i : Nat} (t : pj_T i = 24) : pz_c E b u i = .inl (E 2, 40, .inr (.inr (.inr (.inr (fun q => pz_rf ((u i) q) (b + ((u i) q).toNatClampNeg)))))) := by
  unfold pz_c
  rw [t]
  rfl
theorem za_25 {E : Nat → ClassId} {b : Nat} {u : Nat → Nat → Int32} {i : Nat} (t : pj_T i = 25) : pz_c E b u i = .inl (E 3, 4, .inr (.inr (.inr (.inr (fun q => pz_rf ((u i) q) (b + (fun q => 91 + 5 * q) q)))))) := by
  unfold pz_c
  rw [t]
  rfl
theorem za_26 {E : Nat → ClassId} {b : Nat} {u : Nat → Nat → Int32} {i : Nat} (t : pj_T i = 26) : pz_c E b u i = .inl (E 4, 2, .inr (.inr (.inr (.inr (fun q => pz_rf ((u i) q) (b + (fun q => 112 + 29 * q) q)))))) := by
  unfold pz_c
  rw [t]
  rfl
theorem za_27 {E : Nat → ClassId} {b : Nat} {u : Nat → Nat → Int32} {i : Nat} (t : pj_T i = 27) : pz_c E b u i = .inl (E 5, 4, .inr (.inr (.inr (.inr (fun q => pz_rf ((u i) q) (b + ((u i) q).toNatClampNeg)))))) := by
  unfold pz_c
  rw [t]
  rfl
theorem za_28 {E : Nat → ClassId} {b : Nat} {u : Nat → Nat → Int32} {i : Nat} (t : pj_T i = 28) : pz_c E b u i = .inl (E 2, 4, .inr (.inr (.inr (.inr (fun q => pz_rf ((u i) q) (b + (fun q => i + 17 + 2 * q) q)))))) := by
  unfold pz_c
  rw [t]
  rfl
theorem za_29 {E : Nat → ClassId} {b : Nat} {u : Nat → Nat → Int32} {i : Nat} (t : pj_T i = 29) : pz_c E b u i = .inl (E 6, 4, .inr (.inr (.inr (.inr (fun q => pz_rf ((u i) q) (b + (fun q => 185 + 7 * q) q)))))) := by
  unfold pz_c
  rw [t]
  rfl
theorem za_30 {E : Nat → ClassId} {b : Nat} {u : Nat → Nat → Int32} {i : Nat} (t : pj_T i = 30) : pz_c E b u i = .inl (E 1, 8, .inl (u i)) := by
  unfold pz_c
  rw [t]
  rfl
theorem za_31 {E : Nat → ClassId} {b : Nat} {u : Nat → Nat → Int32} {i : Nat} (t : pj_T i = 31) : pz_c E b u i = .inl (E 1, 4, .inl (u i)) := by
  unfold pz_c
  rw [t]
  rfl
theorem za_32 {E : Nat → ClassId} {b : Nat} {u : Nat → Nat → Int32} {i : Nat} (t : pj_T i = 32) : pz_c E b u i = .inl (E 1, 2, .inl (u i)) := by
  unfold pz_c
  rw [t]
  rfl
theorem za_33 {E : Nat → ClassId} {b : Nat} {u : Nat → Nat → Int32} {i : Nat} (t : pj_T i = 33) : pz_c E b u i = .inl (E 0, 2, .inl (u i)) := by
  unfold pz_c
  rw [t]
  rfl
theorem za_34 {E : Nat → ClassId} {b : Nat} {u : Nat → Nat → Int32} {i : Nat} (t : pj_T i = 34) : pz_c E b u i = .inl (E 0, 3, .inl (u i)) := by
  unfold pz_c
  rw [t]
  rfl
theorem za_35 {E : Nat → ClassId} {b : Nat} {u : Nat → Nat → Int32} {i : Nat} (t : pj_T i = 35) : pz_c E b u i = .inl (E 0, 80, .inl (u i)) := by
  unfold pz_c
  rw [t]
  rfl
theorem za_36 {E : Nat → ClassId} {b : Nat} {u : Nat → Nat → Int32} {i : Nat} (t : pj_T i = 36) : pz_c E b u i = .inl (E 0, 160, .inl (u i)) := by
  unfold pz_c
  rw [t]
  rfl
theorem za_37 {E : Nat → ClassId} {b : Nat} {u : Nat → Nat → Int32} {i : Nat} (t : pj_T i = 37) : pz_c E b u i = .inl (E 0, 1920, .inl (u i)) := by
  unfold pz_c
  rw [t]
  rfl
def pz_sl (k : Nat) : Nat := if k = 0 then 7 else if k = 1 then 2 else if k = 2 then 5 else if k = 3 then 2 else if k = 4 then 2 else if k = 5 then 7 else if k = 6 then 15 else if k = 7 then 8 else if k = 8 then 20 else if k = 9 then 18 else if k = 10 then 10 else if k = 11 then 72 else if k = 20 then 8 else if k = 21 then 40 else if k = 22 then 48 else if k = 23 then 4 else if k = 24 then 40 else if k = 25 then 4 else if k = 26 then 2 else if k = 27 then 4 else if k = 28 then 4 else if k = 29 then 4 else if k = 30 then 8 else if k = 31 then 4 else if k = 32 then 2 else if k = 33 then 2 else if k = 34 then 3 else if k = 35 then 80 else if k = 36 then 160 else if k = 37 then 1920 else 0
def pz_s (n : Nat) : Nat := ((pj_tab.take n).map pz_sl).sum
theorem pz_s_succ : ∀ n, n < 279 → pz_s (n + 1) = pz_s n + pz_sl (pj_T n) := by decide +kernel
theorem pz_s_mono {a c : Nat} (h : a ≤ c) (hc : c ≤ 279) : pz_s a ≤ pz_s c := by
  induction c with
  | zero => rw [Nat.le_zero.mp h]; exact Nat.le_refl _
  | succ c ih =>
    rcases Nat.lt_or_eq_of_le h with h1 | h1
    · exact Nat.le_trans (ih (Nat.le_of_lt_succ h1) (by omega)) (by rw [pz_s_succ c (by omega)]; exact Nat.le_add_right _ _)
    · rw [h1]; exact Nat.le_refl _
theorem pj_w_succ {n : Nat} {f : Nat → va_E} {b : Nat} : pj_w (n + 1) f b = pj_w n f b ++ [(b + n, f n)] := by
  unfold pj_w
  rw [List.range_succ, List.map_append]
  rfl
def pz_nw : List Cond := [Cond.methodLinkNest "PortGuard" 9 ⟨"PortGuard$Users", "<init>", "()V"⟩ "PortGuard", Cond.methodLinkNest "PortGuard$Mailbox" 24 ⟨"PortGuard$Row", "<init>", "()V"⟩ "PortGuard", Cond.methodLinkNest "PortGuard$Host" 11 ⟨"PortGuard$Packet", "<init>", "()V"⟩ "PortGuard", Cond.methodLinkNest "PortGuard$Packet" 3 ⟨"PortGuard$Row", "<init>", "()V"⟩ "PortGuard", Cond.methodLinkNest "PortGuard$Server" 32 ⟨"PortGuard$Datagram", "<init>", "()V"⟩ "PortGuard", Cond.methodLinkNest "PortGuard$Datagram" 11 ⟨"PortGuard$Row", "<init>", "()V"⟩ "PortGuard", Cond.methodLinkNest "PortGuard$Datagram" 20 ⟨"PortGuard$Packet", "<init>", "()V"⟩ "PortGuard", Cond.methodLinkNest "PortGuard$Server" 42 ⟨"PortGuard$Packet", "<init>", "()V"⟩ "PortGuard", Cond.methodLinkNest "PortGuard$Server" 66 ⟨"PortGuard$Session", "<init>", "()V"⟩ "PortGuard", Cond.methodLinkNest "PortGuard$Server" 67 ⟨"PortGuard$Row", "<init>", "()V"⟩ "PortGuard", Cond.methodLinkNest "PortGuard$Switch" 23 ⟨"PortGuard$Packet", "<init>", "()V"⟩ "PortGuard", Cond.methodLinkNest "PortGuard$Switch" 30 ⟨"PortGuard$Datagram", "<init>", "()V"⟩ "PortGuard", Cond.methodLinkNest "PortGuard$Port" 11 ⟨"PortGuard$Packet", "<init>", "()V"⟩ "PortGuard", Cond.methodLinkNest "PortGuard$Port" 23 ⟨"PortGuard$Row", "<init>", "()V"⟩ "PortGuard", Cond.methodLinkNest "PortGuard" 50 ⟨"PortGuard$Row", "<init>", "()V"⟩ "PortGuard"]
def pz_ao : List String := ["PortGuard$Row", "PortGuard$Host", "PortGuard$Server", "PortGuard$Session", "PortGuard$Port"]
def pz_W (s : State) : Prop := (∀ w ∈ pz_nw, va_Nw w s) ∧ ∀ C ∈ pz_ao, va_AO C s
theorem pz_W.moved {s U : State} (hW : s.WarmedH U.vm) (h : pz_W s) : pz_W U := by
  refine ⟨fun w hw => ?_, fun C hC => (h.2 C hC).moved hW.alike⟩
  have h1 := h.1 w hw
  simp only [pz_nw, List.mem_cons, List.not_mem_nil, or_false] at hw
  rcases hw with rfl | rfl | rfl | rfl | rfl | rfl | rfl | rfl | rfl | rfl | rfl | rfl | rfl | rfl | rfl <;> exact h1.warmM hW
theorem pz_W.same {s U : State} (hv : s.vm = U.vm) (h : pz_W s) : pz_W U := by
  refine ⟨fun w hw => ?_, fun C hC => (h.2 C hC).moved (by rw [hv]; exact Vm.Alike.refl _)⟩
  have h1 := h.1 w hw
  simp only [pz_nw, List.mem_cons, List.not_mem_nil, or_false] at hw
  rcases hw with rfl | rfl | rfl | rfl | rfl | rfl | rfl | rfl | rfl | rfl | rfl | rfl | rfl | rfl | rfl <;> exact h1.same rfl hv
def pz_g (g : pj_G) (n0 n : Nat) : pj_G := match g with
  | (p, l, e, R, s, m, args, below, meth, c, D, E, Q, _, _) => (p, l, e, R, s, m, args, below, meth, c, D, E, Q, n - n0, pz_s n - pz_s n0)
def pz_N (g : pj_G) (b n : Nat) (u : pj_M) : Heap → List Loc → Prop := match g with
  | (_, _, _, _, s, _, _, _, _, _, D, E, _, _, _) => fun H locs => va_P D pj_cl (pj_w n (pz_c E b u) b) H ∧ va_S (fun q => b ≤ q) s.heap H locs
def pz_X (g : pj_G) (b n0 n1 : Nat) (cc : ByteArray) (nL : Nat) (own : String) (ret : Option FieldType) (rm : Room) : Prop := match g with
  | (p, _, _, R, s, m, args, _, meth, c, D, E, _, _, _) => CallFix p m c cc nL s args pj_W own ∧ meth.sig.returnType = ret ∧ meth.locks = false ∧ va_K D pj_cl (pj_tys E) s ∧ R = rm ∧ (meth.name = "<init>" ∨ (own = "java/util/Arrays" ∨ own = "PortGuardLaw")) ∧ s.heap.size = b + n0 ∧ pz_W s ∧ n1 - n0 ≤ rm.cells ∧ pz_s n1 - pz_s n0 ≤ rm.slots ∧ n0 ≤ n1 ∧ n1 ≤ 279
def pz_Qc (D : va_G) (E : Nat → ClassId) (b n1 : Nat) (K : pj_M → Prop) : Array Value → State → Outcome → State → Prop := fun _ st oc t => (∃ u : pj_M, oc = .returned none ∧ K u ∧ va_P D pj_cl (pj_w n1 (pz_c E b u) b) t.heap) ∧ va_F (fun q => b ≤ q) st t
def pz_Pc (D : va_G) (E : Nat → ClassId) (b n : Nat) (av : List Value) (u : pj_M) : Array Value → State → Prop := va_Pc av (fun U => U.heap.size = b + n ∧ va_P D pj_cl (pj_w n (pz_c E b u) b) U.heap ∧ va_K D pj_cl (pj_tys E) U ∧ pz_W U)
def pz_C (l : Launch) (y : MethodName) (bytes : ByteArray) (maxL : Nat) (rm : Room) (D : va_G) (E : Nat → ClassId) (b n n1 : Nat) (av : List Value) (u : pj_M) (K : pj_M → Prop) : Prop := Met l y (Cond.code y bytes maxL none :: pj_W) rm (pz_Pc D E b n av u) (pz_Qc D E b n1 K) (n1 - n) (pz_s n1 - pz_s n) (fun q => b ≤ q)
def pz_E (g : pj_G) (b n0 n1 : Nat) (K : pj_M → Prop) : Prop := match g with
  | (_, _, _, _, s, _, args, below, _, _, D, E, Q, _, _) => Q = MQ below (pz_Qc D E b n1 K) args s (n1 - n0) (pz_s n1 - pz_s n0) (fun q => b ≤ q)
theorem pz_size {p : Program} {l : Launch} {e : Env} {R : Room} {s : State} {m : MethodId} {args : Array Value} {below : List Frame} {meth : Method} {c : Code} {T : State} {locs : List Loc} {k n0 n b : Nat} {D : va_G} {f : Nat → va_E} (X : Stand p l e R s m args below meth c T locs (n - n0) k) (hs : s.heap.size = b + n0) (h0 : n0 ≤ n) (hP : va_P D pj_cl (pj_w n f b) T.heap) : T.heap.size = b + n := by
  have h1 : T.heap.size ≤ s.heap.size + (n - n0) := X.same.2.2.1
  have h2 : s.heap.size ≤ T.heap.size := X.same.2.1
  rcases Nat.eq_zero_or_pos n with h | h
  · omega
  · have h3 := (hP (n - 1) _ (pj_w_at (show n - 1 < n by omega))).lt
    have h4 : b + (n - 1) < T.heap.size := h3
    omega
theorem pz_ar1 {a c d N : Nat} (h : d = a + N) (hm : c ≤ a) : a - c + N = d - c := by omega
theorem pz_ar2 {a c d e N : Nat} (h : d = a + N) (hm : c ≤ a) (h2 : d ≤ e) : a - c + N ≤ e - c := by omega
theorem pz_ar3 {a c e : Nat} (h0 : c ≤ a) (h1 : a + 1 ≤ e) : a - c + 1 ≤ e - c := by omega
theorem pz_ar4 {a c : Nat} (h0 : c ≤ a) : a - c + 1 = a + 1 - c := by omega
theorem pz_ar5 {a c d e : Nat} (h0 : c ≤ a) (h1 : a ≤ d) (h2 : d ≤ e) : a - c + (d - a) ≤ e - c := by omega
theorem pz_ar6 {a c d : Nat} (h0 : c ≤ a) (h1 : a ≤ d) : a - c + (d - a) = d - c := by omega
theorem pz_ar7 {a c e : Nat} (h1 : a ≤ e) : a - c ≤ e - c := by omega
section PZ
variable {g : pj_G} {b n0 n1 n : Nat} {cc : ByteArray} {nL : Nat} {own : String} {ret : Option FieldType} {rm : Room} {u : pj_M} {pc pc' : Nat} {vs : List (Option Value)} {st : List Value}
theorem pz_pX (Z : pz_X g b n0 n1 cc nL own ret rm) (h0 : n0 ≤ n) (h1 : n ≤ n1) : pj_X (pz_g g n0 n) cc nL own ret rm := by
  obtain ⟨p, l, e, R, s, m, args, below, meth, c, D, E, Q, mc, ms⟩ := g
  obtain ⟨z1, z2, z3, z4, z5, z6, z7, z8, z9, z10, z11, z12⟩ := Z
  refine ⟨z1, z2, z3, z4, z5, ?_, ?_⟩
  · rw [z5]; exact Nat.le_trans (pz_ar7 h1) z9
  · rw [z5]; exact Nat.le_trans (pz_ar7 (pz_s_mono h1 z12)) z10
theorem pz_new (Z : pz_X g b n0 n1 cc nL own ret rm) {idx ci N : Nat} {Cn : String} {T : u_T} {fs : List Value} (hc : pj_cl[ci]? = some (Cn, T, N)) (hin : ∀ w ∈ u_ws Cn T N, w ∈ pj_W) (ty : Nat → FieldType) (hty : ∀ k, k < N → parseFieldDescriptor (T k).2.2.1 = some (ty k)) (w1 : Cond.classLink own idx Cn ∈ pj_W) (w2 : Cond.instantiable Cn N ∈ pj_W) (w3 : Cond.initialized Cn ∈ pj_W) (hz : ∀ E, pz_c E b u n = .inr (ci, fs)) (hfs : ∀ j, j < N → defaultValue (ty j) = vp_V fs j) (hsl : pz_sl (pj_T n) = N) (h0 : n0 ≤ n) (h1 : n + 1 ≤ n1) (hdg : decode cc pc = .ok (.new idx, 3)) (hp : pc + 3 = pc') (kk : pj_J (pz_g g n0 (n + 1)) (pz_N g b (n + 1) u) pc' vs (.ref (b + n) :: st)) : pj_J (pz_g g n0 n) (pz_N g b n u) pc vs st := by
  obtain ⟨p, l, e, R, s, m, args, below, meth, c, D, E, Q, mc, ms⟩ := g
  subst hp
  obtain ⟨C1, z2, z3, hK, rfl, z6, z7, z8, z9, z10, z11, z12⟩ := Z
  intro H locs ls hl hh
  obtain ⟨hP, hS⟩ := hh
  suffices key : H.size = b + n → W p l e R s m args below meth c H locs (n - n0) (pz_s n - pz_s n0) Q (F0 m pc ls (st)) from fun T0 hT X => key (hT ▸ pz_size X z7 h0 (hT.symm ▸ hP)) T0 hT X
  intro hsz
  have hs1 : pz_s (n + 1) = pz_s n + N := (pz_s_succ n (Nat.lt_of_lt_of_le h1 z12)).trans (congrArg (pz_s n + ·) hsl)
  have hm := pz_s_mono h0 (Nat.le_trans (Nat.le_of_succ_le h1) z12)
  have hm1 := pz_s_mono h1 z12
  have hKn := hK.1 ci _ hc
  have hH2 : ∀ H1 : Heap, H1.size = b + n + 1 → H1.size = H.size + 1 := fun H1 q => q.trans (congrArg (· + 1) hsz.symm)
  refine W.newcK C1.1 C1.2.1 C1.2.2.2.1 (C1.2.2.2.2 _ w1) (C1.2.2.2.2 _ w2) (C1.2.2.2.2 _ w3) rfl hdg (Nat.le_trans (pz_ar3 h0 h1) z9) (Nat.le_trans (pz_ar2 hs1 hm hm1) z10) hKn.2.1 hsz fun H1 kC hkC e1 q1 o1 => ?_
  have hk : ∀ (k : Nat) (x : Nat × va_E), (pj_w n (pz_c E b u) b)[k]? = some x → H1[x.1]? = H[x.1]? := fun k x hx => o1 x.1 (by rw [← hsz]; exact (hP k x hx).lt)
  refine W.cs (cells' := n + 1 - n0) (slots' := pz_s (n + 1) - pz_s n0) (pz_ar4 h0) (pz_ar1 hs1 hm) (kk H1 locs ls hl ⟨?_, ⟨Nat.le_trans hS.1 (Nat.le_trans (Nat.le_succ _) (Nat.le_of_eq (hH2 H1 q1).symm)), fun x h1 h2 => (o1 x (by rw [← hsz]; exact Nat.lt_of_lt_of_le h1 hS.1)).trans (hS.2.1 x h1 h2), hS.2.2⟩⟩)
  rw [pj_w_succ]
  refine (hP.kept hk).app (fun k x hx => ?_)
  have hz1 : k < 1 := (List.getElem?_eq_some_iff.mp hx).1
  obtain rfl : k = 0 := Nat.lt_one_iff.mp hz1
  cases hx
  rw [hz E]
  exact ⟨_, hc, (u_born ty C1.2.2.2.2 hin hKn hkC e1 hty).to hfs⟩
theorem pz_newa (Z : pz_X g b n0 n1 cc nL own ret rm) {atype : ArrayType} {t : Nat} {ty : FieldType} {k : Int32} {N : Nat} (hty : newarray.typeOf atype = ty) (hdef : defaultValue ty = .int 0) (ht : ∀ E, (pj_tys E)[t]? = some (E t, ty)) (hpr : ∀ (U : State) (cA : ClassId), va_RA U cA ty → U.vm.findClass ("[" ++ ty.toString) = some cA) (w1 : Cond.arrayClass ty ∈ pj_W) (hz : ∀ E, pz_c E b u n = .inl (E t, N, .inl (u n))) (hu : u n = fun _ => 0) (hk : ¬ k < 0) (hN : k.toNatClampNeg = N) (hby : N * componentBytes ty ≤ 536870912) (hsl : pz_sl (pj_T n) = N) (h0 : n0 ≤ n) (h1 : n + 1 ≤ n1) (hdg : decode cc pc = .ok (.newarray atype, 2)) (hp : pc + 2 = pc') (kk : pj_J (pz_g g n0 (n + 1)) (pz_N g b (n + 1) u) pc' vs (.ref (b + n) :: st)) : pj_J (pz_g g n0 n) (pz_N g b n u) pc vs (.int k :: st) := by
  obtain ⟨p, l, e, R, s, m, args, below, meth, c, D, E, Q, mc, ms⟩ := g
  subst hp
  subst hty
  obtain ⟨C1, z2, z3, hK, rfl, z6, z7, z8, z9, z10, z11, z12⟩ := Z
  intro H locs ls hl hh
  obtain ⟨hP, hS⟩ := hh
  suffices key : H.size = b + n → W p l e R s m args below meth c H locs (n - n0) (pz_s n - pz_s n0) Q (F0 m pc ls (.int k :: st)) from fun T0 hT X => key (hT ▸ pz_size X z7 h0 (hT.symm ▸ hP)) T0 hT X
  intro hsz
  have hs1 : pz_s (n + 1) = pz_s n + N := (pz_s_succ n (Nat.lt_of_lt_of_le h1 z12)).trans (congrArg (pz_s n + ·) hsl)
  have hm := pz_s_mono h0 (Nat.le_trans (Nat.le_of_succ_le h1) z12)
  have hm1 := pz_s_mono h1 z12
  have hH2 : ∀ H1 : Heap, H1.size = b + n + 1 → H1.size = H.size + 1 := fun H1 q => q.trans (congrArg (· + 1) hsz.symm)
  refine va_newaK C1.1 C1.2.1 (C1.2.2.2.2 _ w1) rfl hdg rfl hk hN hby (Nat.le_trans (pz_ar3 h0 h1) z9) (Nat.le_trans (pz_ar2 hs1 hm hm1) z10) hsz fun H1 cA e1 q1 o1 hAr hNm => ?_
  have hcA : cA = E t := Option.some.inj (hNm.symm.trans (hpr s (E t) (hK.2 t _ (ht E)).2))
  subst hcA
  have hk2 : ∀ (k : Nat) (x : Nat × va_E), (pj_w n (pz_c E b u) b)[k]? = some x → H1[x.1]? = H[x.1]? := fun k x hx => o1 x.1 (by rw [← hsz]; exact (hP k x hx).lt)
  refine W.cs (cells' := n + 1 - n0) (slots' := pz_s (n + 1) - pz_s n0) (pz_ar4 h0) (pz_ar1 hs1 hm) (kk H1 locs ls hl ⟨?_, ⟨Nat.le_trans hS.1 (Nat.le_trans (Nat.le_succ _) (Nat.le_of_eq (hH2 H1 q1).symm)), fun x h1 h2 => (o1 x (by rw [← hsz]; exact Nat.lt_of_lt_of_le h1 hS.1)).trans (hS.2.1 x h1 h2), hS.2.2⟩⟩)
  rw [pj_w_succ]
  refine (hP.kept hk2).app (fun k x hx => ?_)
  have hz1 : k < 1 := (List.getElem?_eq_some_iff.mp hx).1
  obtain rfl : k = 0 := Nat.lt_one_iff.mp hz1
  cases hx
  rw [hz E, hu]
  show H1[b + n]? = some (vp_cell _ _)
  rw [e1, hdef]
  rfl
theorem pz_newq (Z : pz_X g b n0 n1 cc nL own ret rm) {idx t : Nat} {Cn : String} {k : Int32} {N : Nat} {f : Nat → Option Nat} (hA : Cn ∈ pz_ao) (ht : ∀ E, (pj_tys E)[t]? = some (E t, .object Cn)) (w1 : Cond.classLink own idx Cn ∈ pj_W) (hz : ∀ E, pz_c E b u n = .inl (E t, N, .inr (.inr (.inr (.inr f))))) (hf : f = fun _ => none) (hk : ¬ k < 0) (hN : k.toNatClampNeg = N) (hby : N * 4 ≤ 536870912) (hsl : pz_sl (pj_T n) = N) (h0 : n0 ≤ n) (h1 : n + 1 ≤ n1) (hdg : decode cc pc = .ok (.anewarray idx, 3)) (hp : pc + 3 = pc') (kk : pj_J (pz_g g n0 (n + 1)) (pz_N g b (n + 1) u) pc' vs (.ref (b + n) :: st)) : pj_J (pz_g g n0 n) (pz_N g b n u) pc vs (.int k :: st) := by
  obtain ⟨p, l, e, R, s, m, args, below, meth, c, D, E, Q, mc, ms⟩ := g
  subst hp
  subst hN
  subst hf
  obtain ⟨C1, z2, z3, hK, rfl, z6, z7, z8, z9, z10, z11, z12⟩ := Z
  intro H locs ls hl hh
  obtain ⟨hP, hS⟩ := hh
  suffices key : H.size = b + n → W p l e R s m args below meth c H locs (n - n0) (pz_s n - pz_s n0) Q (F0 m pc ls (.int k :: st)) from fun T0 hT X => key (hT ▸ pz_size X z7 h0 (hT.symm ▸ hP)) T0 hT X
  intro hsz
  have hs1 : pz_s (n + 1) = pz_s n + k.toNatClampNeg := (pz_s_succ n (Nat.lt_of_lt_of_le h1 z12)).trans (congrArg (pz_s n + ·) hsl)
  have hm := pz_s_mono h0 (Nat.le_trans (Nat.le_of_succ_le h1) z12)
  have hm1 := pz_s_mono h1 z12
  refine W.anew C1.1 C1.2.1 C1.2.2.2.1 (C1.2.2.2.2 _ w1) (va_AO.use (z8.2 Cn hA)) rfl hdg rfl hk hby (Nat.le_trans (pz_ar3 h0 h1) z9) (Nat.le_trans (pz_ar2 hs1 hm hm1) z10) fun cA kA comp f1 f2 f3 f4 => ?_
  obtain ⟨kA', comp', r1, r2, r3, r4⟩ := (hK.2 t _ (ht E)).2
  have hcA : cA = E t := Option.some.inj (f1.symm.trans r4)
  subst hcA
  generalize hH1 : H.push ({ cls := E t, slots := Array.replicate k.toNatClampNeg .null, vm := .none } : Cell) = H1
  have e1 : H1[b + n]? = some (arrV (E t) k.toNatClampNeg (fun _ => .null)) := by rw [← hH1, ← hsz, Array.getElem?_push_size, ← arrV_new]
  have o1 : ∀ q : Nat, q < b + n → H1[q]? = H[q]? := fun q hq => by rw [← hH1, Array.getElem?_push, if_neg (fun e => Nat.lt_irrefl _ (Nat.lt_of_lt_of_eq hq (hsz.symm.trans e.symm)))]
  have q1 : H1.size = H.size + 1 := by rw [← hH1, Array.size_push]
  have hH2 : ∀ H1 : Heap, H1.size = H.size + 1 → H1.size = H.size + 1 := fun _ q => q
  have hk2 : ∀ (k : Nat) (x : Nat × va_E), (pj_w n (pz_c E b u) b)[k]? = some x → H1[x.1]? = H[x.1]? := fun k x hx => o1 x.1 (by rw [← hsz]; exact (hP k x hx).lt)
  rw [hsz]
  refine W.cs (cells' := n + 1 - n0) (slots' := pz_s (n + 1) - pz_s n0) (pz_ar4 h0) (pz_ar1 hs1 hm) (kk H1 locs ls hl ⟨?_, ⟨Nat.le_trans hS.1 (Nat.le_trans (Nat.le_succ _) (Nat.le_of_eq (hH2 H1 q1).symm)), fun x h1 h2 => (o1 x (by rw [← hsz]; exact Nat.lt_of_lt_of_le h1 hS.1)).trans (hS.2.1 x h1 h2), hS.2.2⟩⟩)
  rw [pj_w_succ]
  refine (hP.kept hk2).app (fun k x hx => ?_)
  have hz1 : k < 1 := (List.getElem?_eq_some_iff.mp hx).1
  obtain rfl : k = 0 := Nat.lt_one_iff.mp hz1
  cases hx
  rw [hz E]
  show H1[b + n]? = some (vp_cell _ _)
  rw [e1]
  rfl
theorem pz_c_ne {E : Nat → ClassId} {i k : Nat} {v : Int32} (j : Nat) (hj : j ≠ i) : pz_c E b (pj_set u i k v) j = pz_c E b u j := by
  unfold pz_c
  rw [pj_set_ne hj]
/-- a field is set; y: the number that stands for it in the memory -/
theorem pz_put (Z : pz_X g b n0 n1 cc nL own ret rm) (ho : ¬ (own = "java/util/Arrays" ∨ own = "PortGuardLaw")) {i k ci N idx : Nat} {ref Cn : String} {T : u_T} {F : (Nat → Int32) → List Value} {v : Value} {y : Int32} {ty : FieldType} {P : pj_M → Prop} (hc : pj_cl[ci]? = some (Cn, T, N)) (hin : ∀ w ∈ u_ws Cn T N, w ∈ pj_W) (ty0 : Nat → FieldType) (hty : ∀ k, k < N → parseFieldDescriptor (T k).2.2.1 = some (ty0 k)) (hnm : ∀ a, a < N → ∀ b, b < N → a ≠ b → (T a).2.1 ≠ (T b).2.1) (hk : k < N) (hlink : Cond.fieldLink own idx ref (T k).2.1 (T k).2.2.1 ∈ pj_W) (hsame : ref = (T k).1) (hfin : (T k).2.2.2 = false ∨ ((T k).2.2.2 = true ∧ (T k).1 = own)) (hd : parseFieldDescriptor (T k).2.2.1 = some ty) (hn : narrow ty v = v) (hfit : fits ty v = true) (hi : i < n) (hw : ∀ E u, pz_c E b u i = .inr (ci, F (u i))) (hlen : ∀ f, k < (F f).length) (hF : ∀ f, F (upd f k y) = (F f).set k v) (hdg : decode cc pc = .ok (.putfield idx, 3)) (hp : pc + 3 = pc') (h : pj_put u i k y P) (kk : ∀ u', P u' → pj_J (pz_g g n0 n) (pz_N g b n u') pc' vs st) : pj_J (pz_g g n0 n) (pz_N g b n u) pc vs (v :: .ref (b + i) :: st) := by
  obtain ⟨p, l, e, R, s, m, args, below, meth, c, D, E, Q, mc, ms⟩ := g
  subst hp
  obtain ⟨C1, z2, z3, hK, rfl, z6, z7, z8, z9, z10, z11, z12⟩ := Z
  intro H locs ls hl hh
  obtain ⟨hP, hS⟩ := hh
  have hgo : ∀ (H1 : Heap) (locs1 : List Loc), va_P D pj_cl ((pj_w n (pz_c E b u) b).set i (b + i, .inr (ci, (F (u i)).set k v))) H1 → va_S (fun q => b ≤ q) s.heap H1 locs1 → W p l e R s m args below meth c H1 locs1 (n - n0) (pz_s n - pz_s n0) Q (F0 m (pc + 3) ls st) := by
    intro H1 locs1 hP1 hS1
    rw [pj_w_set (f' := pz_c E b (pj_set u i k y)) hi (by rw [hw, pj_set_eq, hF]) (fun j hj => pz_c_ne j hj)] at hP1
    exact kk _ h H1 locs1 ls hl ⟨hP1, hS1⟩
  rcases hfin with hf | ⟨hf, hown⟩
  · exact va_put C1.1 C1.2.1 C1.2.2.2.2 hin ty0 hty hnm C1.2.2.2.1 hK hP pj_w_D hS i (by rw [pj_w_at hi, hw]) hc k hk (C1.2.2.2.2 _ hlink) (fun x hx => by rw [hsame]; exact hx) hf hd hn hfit (hlen (u i)) hdg (fun H1 locs1 hP1 hD1 hS1 => hgo H1 locs1 hP1 hS1)
  · exact va_putF C1.1 C1.2.1 C1.2.2.2.2 hin ty0 hty hnm C1.2.2.2.1 hK hP pj_w_D hS i (by rw [pj_w_at hi, hw]) hc k hk (C1.2.2.2.2 _ hlink) (fun x hx => by rw [hsame]; exact hx) hf (z6.resolve_right ho) hown hd hn hfit (hlen (u i)) hdg (fun H1 locs1 hP1 hD1 hS1 => hgo H1 locs1 hP1 hS1)
theorem pz_getR (Z : pz_X g b n0 n1 cc nL own ret rm) {i k ci N idx a : Nat} {ref Cn : String} {T : u_T} {fs : List Value} {B : Prop} (hc : pj_cl[ci]? = some (Cn, T, N)) (hin : ∀ w ∈ u_ws Cn T N, w ∈ pj_W) (hk : k < N) (hlink : Cond.fieldLink own idx ref (T k).2.1 (T k).2.2.1 ∈ pj_W) (hsame : ref = (T k).1) (hi : i < n) (hw : ∀ E, pz_c E b u i = .inr (ci, fs)) (hv : fs[k]? = some (va_rf (pz_rf (u i k) a))) (hdg : decode cc pc = .ok (.getfield idx, 3)) (hp : pc + 3 = pc') (h : u i k = 1 ∧ B) (kk : B → pj_J (pz_g g n0 n) (pz_N g b n u) pc' vs (.ref a :: st)) : pj_J (pz_g g n0 n) (pz_N g b n u) pc vs (.ref (b + i) :: st) := by
  obtain ⟨p, l, e, R, s, m, args, below, meth, c, D, E, Q, mc, ms⟩ := g
  subst hp
  obtain ⟨C1, z2, z3, hK, rfl, z6, z7, z8, z9, z10, z11, z12⟩ := Z
  intro H locs ls hl hh
  obtain ⟨hP, hS⟩ := hh
  rw [h.1, pz_rf1] at hv
  exact va_get C1.1 C1.2.1 C1.2.2.2.2 hin C1.2.2.2.1 hK hP i (by rw [pj_w_at hi, hw]) hc k hk (C1.2.2.2.2 _ hlink) (fun x hx => by rw [hsame]; exact hx) hv hdg (kk h.2 H locs ls hl ⟨hP, hS⟩)
theorem pz_iast (Z : pz_X g b n0 n1 cc nL own ret rm) {i N : Nat} {j x : Int32} {P : pj_M → Prop} (hi : i < n) (hw : ∀ E u, pz_c E b u i = .inl (E 0, N, .inl (u i))) (hdg : decode cc pc = .ok (.iastore, 1)) (hp : pc + 1 = pc') (h : vp_in j N ∧ pj_put u i j.toNatClampNeg x P) (kk : ∀ u', P u' → pj_J (pz_g g n0 n) (pz_N g b n u') pc' vs st) : pj_J (pz_g g n0 n) (pz_N g b n u) pc vs (.int x :: .int j :: .ref (b + i) :: st) := by
  obtain ⟨p, l, e, R, s, m, args, below, meth, c, D, E, Q, mc, ms⟩ := g
  subst hp
  obtain ⟨C1, z2, z3, hK, rfl, z6, z7, z8, z9, z10, z11, z12⟩ := Z
  intro H locs ls hl hh
  obtain ⟨hP, hS⟩ := hh
  refine va_iast C1.1 C1.2.1 hK hP pj_w_D hS i 0 (by rw [pj_w_at hi, hw]) rfl h.1 hdg (fun H1 locs1 hP1 hD1 hS1 => ?_)
  rw [pj_w_set (f' := pz_c E b (pj_set u i j.toNatClampNeg x)) hi (by rw [hw, pj_set_eq]) (fun j hj => pz_c_ne j hj)] at hP1
  exact kk _ h.2 H1 locs1 ls hl ⟨hP1, hS1⟩
/-- an element of an array of references is set; y: its number in the memory -/
theorem pz_astq (Z : pz_X g b n0 n1 cc nL own ret rm) {i N t x ci : Nat} {j y : Int32} {r : vw_C} {P : pj_M → Prop} {fs : List Value} {F : (Nat → Int32) → Nat → Option Nat} (hi : i < n) (hw : ∀ E u, pz_c E b u i = .inl (E t, N, .inr (.inr (.inr (.inr (F (u i))))))) (ht : ∀ E, (pj_tys E)[t]? = some (E t, .object r.1)) (hx : x < n) (hwx : ∀ E, pz_c E b u x = .inr (ci, fs)) (hc : pj_cl[ci]? = some r) (hF : F (upd (u i) j.toNatClampNeg y) = va_up (F (u i)) j.toNatClampNeg (some (b + x))) (hdg : decode cc pc = .ok (.aastore, 1)) (hp : pc + 1 = pc') (h : vp_in j N ∧ pj_put u i j.toNatClampNeg y P) (kk : ∀ u', P u' → pj_J (pz_g g n0 n) (pz_N g b n u') pc' vs st) : pj_J (pz_g g n0 n) (pz_N g b n u) pc vs (.ref (b + x) :: .int j :: .ref (b + i) :: st) := by
  obtain ⟨p, l, e, R, s, m, args, below, meth, c, D, E, Q, mc, ms⟩ := g
  subst hp
  obtain ⟨C1, z2, z3, hK, rfl, z6, z7, z8, z9, z10, z11, z12⟩ := Z
  intro H locs ls hl hh
  obtain ⟨hP, hS⟩ := hh
  refine va_astq C1.1 C1.2.1 hK hP pj_w_D hS i t x ci (by rw [pj_w_at hi, hw]) (ht E) (by rw [pj_w_at hx, hwx]) hc h.1 hdg (fun H1 locs1 hP1 hD1 hS1 => ?_)
  rw [pj_w_set (f' := pz_c E b (pj_set u i j.toNatClampNeg y)) hi (by rw [hw, pj_set_eq, hF]) (fun j hj => pz_c_ne j hj)] at hP1
  exact kk _ h.2 H1 locs1 ls hl ⟨hP1, hS1⟩
theorem pz_obj (Z : pz_X g b n0 n1 cc nL own ret rm) {idx a : Nat} (w1 : Cond.methodLink own idx objectInit ∈ pj_W) (w2 : Cond.instanceMethod objectInit ∈ pj_W) (w3 : Cond.code objectInit ⟨#[0xb1]⟩ 1 none ∈ pj_W) (hR : 1 ≤ rm.frames ∧ (st.map fun v => v.category).sum + 12 ≤ rm.locals) (hdg : decode cc pc = .ok (.invokespecial idx, 3)) (hp : pc + 3 = pc') (kk : pj_J (pz_g g n0 n) (pz_N g b n u) pc' vs st) : pj_J (pz_g g n0 n) (pz_N g b n u) pc vs (.ref a :: st) := by
  obtain ⟨p, l, e, R, s, m, args, below, meth, c, D, E, Q, mc, ms⟩ := g
  subst hp
  obtain ⟨C1, z2, z3, hK, rfl, z6, z7, z8, z9, z10, z11, z12⟩ := Z
  intro H locs ls hl hh
  exact W.objInit C1.1 C1.2.1 C1.2.2.2.1 (C1.2.2.2.2 _ w1) (C1.2.2.2.2 _ w2) (C1.2.2.2.2 _ w3) rfl hl.1 rfl hdg hR.1 (by show 2 * 0 + _ + 12 ≤ _; omega) (kk H locs ls hl hh)
theorem pz_vret (Z : pz_X g b n0 n1 cc nL own none rm) {K : pj_M → Prop} (hE : pz_E g b n0 n1 K) (hdg : decode cc pc = .ok (.return_, 1)) (h : n = n1 ∧ K u) : pj_J (pz_g g n0 n) (pz_N g b n u) pc vs [] := by
  obtain ⟨p, l, e, R, s, m, args, below, meth, c, D, E, Q, mc, ms⟩ := g
  obtain ⟨rfl, h⟩ := h
  obtain ⟨C1, z2, z3, hK, rfl, z6, z7, z8, z9, z10, z11, z12⟩ := Z
  have hE : Q = _ := hE
  subst hE
  intro H locs ls hl hh
  exact W.vret C1.1 C1.2.1 z2 (fun t ht hW => ⟨⟨u, rfl, h, by rw [ht]; exact hh.1⟩, hh.2.F ht⟩) hh.2.2.2 hdg z3
theorem pz_goes {p : Program} {l : Launch} {e : Env} {R : Room} {s : State} {m : MethodId} {args : Array Value} {below : List Frame} {meth : Method} {c : Code} {D : va_G} {E : Nat → ClassId} {K : pj_M → Prop} {H : Heap} {locs : List Loc} {cells slots mc ms n' : Nat} {Q : State → Prop} {ls : Array Slot} {st0 rest : List Value} {a : Array Value} (hr : va_Run p l e R s m args below meth c H locs cells slots mc ms (F0 m pc ls st0) rest (pz_Qc D E b n' K a) (fun q => b ≤ q)) (hS : va_S (fun q => b ≤ q) s.heap H locs)
    (kk : ∀ u', K u' → ∀ H1 locs1, va_P D pj_cl (pj_w n' (pz_c E b u') b) H1 → va_S (fun q => b ≤ q) s.heap H1 locs1 → W p l e R s m args below meth c H1 locs1 (cells + mc) (slots + ms) Q (F0 m (pc + 3) ls rest)) : W p l e R s m args below meth c H locs cells slots Q (F0 m pc ls st0) := by
  intro T hT X
  obtain ⟨v, st₀, t, T', L, h0, X', hL, e1, e2, ⟨⟨u', hv, hp, hb⟩, hz, hk⟩, hst⟩ := hr T hT X
  cases hv
  rw [h0] at hz hk
  obtain ⟨t2, a1, b1⟩ := kk u' hp T'.heap (locs ++ L) (by rw [e1]; exact hb) ⟨Nat.le_trans hS.1 (by rw [e1]; exact hz), fun q h1 h2 => by rw [e1, hk q (Nat.lt_of_lt_of_le h1 hS.1) h2]; exact hS.2.1 q h1 h2, fun q hq => by
      rcases List.mem_append.mp hq with h | h
      · exact hS.2.2 q h
      · exact hL q h⟩ T' rfl X'
  exact ⟨t2, hst t2 a1, b1⟩
theorem pz_pre {D : va_G} {E : Nat → ClassId} {s : State} {H : Heap} {av : List Value} (hz : H.size = b + n) (hP : va_P D pj_cl (pj_w n (pz_c E b u) b) H) (hK : va_K D pj_cl (pj_tys E) s) (hw : pz_W s) : PreS s H (pz_Pc D E b n av u) av :=
  ⟨fun a U g mk q => ⟨q.1, q.2.1, q.2.2.1, va_K.moved (u := U) (U := U.calling g mk a) (Vm.Alike.refl U.vm) q.2.2.2.1, pz_W.same (s := U) (U := U.calling g mk a) rfl q.2.2.2.2⟩, fun U hU hW => ⟨rfl, by rw [hU]; exact hz, by rw [hU]; exact hP, va_K.moved hW.alike hK, hw.moved hW⟩⟩
/-- a constructor is called: by a link of its own package (own), or of the nest -/
theorem pz_init (Z : pz_X g b n0 n1 cc nL own ret rm) {y : MethodName} {bytes : ByteArray} {maxL idx k i n' : Nat} {rm' : Room} {As rest : List Value} {K : pj_M → Prop} {host : String} (hM : ∀ l D E, pz_C l y bytes maxL rm' D E b n n' (.ref (b + i) :: As) u K) (hrc : rm'.cells = n' - n) (hrs : rm'.slots = pz_s n' - pz_s n) (hy : y.name = "<init>") (w1 : Cond.methodLink own idx y ∈ pj_W ∨ Cond.methodLinkNest own idx y host ∈ pz_nw) (w2 : Cond.instanceMethod y ∈ pj_W) (w4 : Cond.initialized y.cls ∈ pj_W) (w5 : Cond.code y bytes maxL none ∈ pj_W) (hd : y.cls ≠ "java/lang/invoke/MethodHandle" ∧ y.cls ≠ "java/lang/invoke/VarHandle" ∧ (parseMethodDescriptor y.desc).map (fun d => d.parameters.length) = some k) (hk : As.length = k) (hR : rm'.frames + 1 ≤ rm.frames ∧ 8 + (maxL + 11) + rm'.locals ≤ rm.locals) (hst : st = As.reverse ++ .ref (b + i) :: rest) (h8 : (rest.map fun v => v.category).sum ≤ 8) (h0 : n0 ≤ n) (h1 : n ≤ n') (h2 : n' ≤ n1) (hdg : decode cc pc = .ok (.invokespecial idx, 3)) (hp : pc + 3 = pc') (kk : ∀ u', K u' → pj_J (pz_g g n0 n') (pz_N g b n' u') pc' vs rest) : pj_J (pz_g g n0 n) (pz_N g b n u) pc vs st := by
  obtain ⟨p, l, e, R, s, m, args, below, meth, c, D, E, Q, mc, ms⟩ := g
  subst hp
  subst hst
  obtain ⟨C1, z2, z3, hK, rfl, z6, z7, z8, z9, z10, z11, z12⟩ := Z
  intro H locs ls hl hh
  obtain ⟨hP, hS⟩ := hh
  intro T0 hT X
  have hsz : H.size = b + n := by
    have := pz_size X z7 h0 (by rw [hT]; exact hP)
    rw [← hT]; exact this
  have hn' : n' ≤ 279 := Nat.le_trans h2 z12
  have m1 := pz_s_mono h0 (Nat.le_trans h1 hn')
  have m2 := pz_s_mono h1 hn'
  have m3 := pz_s_mono h2 z12
  have hpre := pz_pre (av := .ref (b + i) :: As) hsz hP hK z8
  have hf : n - n0 + (n' - n) ≤ R.cells ∧ pz_s n - pz_s n0 + (pz_s n' - pz_s n) ≤ R.slots := ⟨Nat.le_trans (pz_ar5 h0 h1 h2) z9, Nat.le_trans (pz_ar5 m1 m2 m3) z10⟩
  have hgo : va_Run p l e R s m args below meth c H locs (n - n0) (pz_s n - pz_s n0) (n' - n) (pz_s n' - pz_s n) (F0 m pc ls (As.reverse ++ .ref (b + i) :: rest)) rest (pz_Qc D E b n' K (Value.ref (b + i) :: As).toArray) (fun q => b ≤ q) := by
    rcases w1 with w1 | w1
    · exact va_runI (As := As) (b := b + i) (rest := rest) C1 (hM l D E) ⟨callB_of k C1.2.2.2.2 (pj_good w5) rfl hrc hrs (C1.2.2.2.2 _ w4) (C1.2.2.2.2 _ w1) hd hR, hy, C1.2.2.2.2 _ w2⟩ hpre rfl hk (by show ls.size = _; rw [hl.1]; exact C1.2.2.1) rfl (lv_room h8) hdg hf
    · exact va_runIN (As := As) (b := b + i) (rest := rest) C1 (hM l D E) ⟨va_cnB k C1.2.2.2.2 (pj_good w5) rfl hrc hrs (z8.1 _ w1) (C1.2.2.2.2 _ w4) hd hR, hy, C1.2.2.2.2 _ w2⟩ hpre rfl hk (by show ls.size = _; rw [hl.1]; exact C1.2.2.1) rfl (lv_room h8) hdg hf
  refine (pz_goes hgo hS (fun u' hu H1 locs1 hP1 hS1 => ?_)) T0 hT X
  exact W.cs (cells' := n' - n0) (slots' := pz_s n' - pz_s n0) (pz_ar6 h0 h1) (pz_ar6 m1 m2) (kk u' hu H1 locs1 ls hl ⟨hP1, hS1⟩)
theorem pz_met {l : Launch} {y : MethodName} {D : va_G} {E : Nat → ClassId} {av : List Value} {K : pj_M → Prop} (hy : plainName y.cls = true) (hcl : y.cls = own) (hyn : y.name = "<init>" ∨ (own = "java/util/Arrays" ∨ own = "PortGuardLaw")) (hlen : (lg_sl av).length ≤ nL) (hn : n ≤ n1) (hn2 : n1 ≤ 279) (hrc : rm.cells = n1 - n) (hrs : rm.slots = pz_s n1 - pz_s n)
    (hJ : ∀ g : pj_G, pz_E g b n n1 K → pz_X g b n n1 cc nL own none rm → pj_J (pz_g g n n) (pz_N g b n u) 0 (pj_vs av ++ List.replicate (nL - (pj_vs av).length) none) []) : pz_C l y cc nL rm D E b n n1 av u K := by
  refine Met.ofW (cc := cc) (maxL := nL) (ret := none) hy rfl ?_
  intro p e s m args below meth c s₁ B hml hv
  obtain ⟨rfl, hsz, hP, hK, hw⟩ := hv
  have hts0 := atoms_spec (ws := Cond.code y cc nL none :: pj_W) B.pre
  have hown : s.vm.findClass own = some m.cls := by rw [← hcl]; exact findClass_of_methodNamed B.named
  have hin : meth.name = "<init>" ∨ (own = "java/util/Arrays" ∨ own = "PortGuardLaw") := hyn.imp (fun q => (name_of_methodNamed B.named B.method).1.trans q) id
  have hl := lv_entry av (n := nL) hlen
  rw [lg_entry_eq]
  have h := hJ (p, l, e, rm, s, m, av.toArray, below, meth, c, D, E, _, 0, 0) rfl ⟨⟨B.exec, B.bytes, hml, hown, fun w hw => hts0 w (List.mem_cons_of_mem _ hw)⟩, B.returns, B.notSynchronized, hK, rfl, hin, hsz, hw, Nat.le_of_eq hrc.symm, Nat.le_of_eq hrs.symm, hn, hn2⟩ s.heap [] _ ⟨hl.1.trans hml.symm, hl.2.1, fun i v h => hl.2.2 (i, v) (pj_vs_pad h)⟩ ⟨hP, va_S.rf⟩
  exact W.cs (Nat.sub_self _).symm (Nat.sub_self _).symm h
theorem pz_alen (Z : pz_X g b n0 n1 cc nL own ret rm) {i N : Nat} (hi : i < n) (hw : ∀ E u, pz_c E b u i = .inl (E 0, N, .inl (u i))) (hdg : decode cc pc = .ok (.arraylength, 1)) (hp : pc + 1 = pc') (kk : pj_J (pz_g g n0 n) (pz_N g b n u) pc' vs (.int (nI N) :: st)) : pj_J (pz_g g n0 n) (pz_N g b n u) pc vs (.ref (b + i) :: st) := by
  obtain ⟨p, l, e, R, s, m, args, below, meth, c, D, E, Q, mc, ms⟩ := g
  subst hp
  obtain ⟨C1, z2, z3, hK, rfl, z6, z7, z8, z9, z10, z11, z12⟩ := Z
  intro H locs ls hl hh
  exact va_alen (x := (N, .inl (u i))) C1.1 C1.2.1 hK hh.1 i 0 (by rw [pj_w_at hi, hw]) rfl rfl hdg (kk H locs ls hl hh)
theorem pz_stat (Z : pz_X g b n0 n1 cc nL own ret rm) {y : MethodName} {bytes : ByteArray} {maxL idx k : Nat} {rm' : Room} {As rest : List Value} {K : pj_M → Prop} (hM : ∀ l D E, pz_C l y bytes maxL rm' D E b n n As u K) (hrc : rm'.cells = 0) (hrs : rm'.slots = 0) (w1 : Cond.methodLink own idx y ∈ pj_W) (w2 : Cond.static y ∈ pj_W) (w4 : Cond.initialized y.cls ∈ pj_W) (w5 : Cond.code y bytes maxL none ∈ pj_W) (hd : y.cls ≠ "java/lang/invoke/MethodHandle" ∧ y.cls ≠ "java/lang/invoke/VarHandle" ∧ (parseMethodDescriptor y.desc).map (fun d => d.parameters.length) = some k) (hk : As.length = k) (hR : rm'.frames + 1 ≤ rm.frames ∧ 8 + (maxL + 11) + rm'.locals ≤ rm.locals) (hst : st = As.reverse ++ rest) (h8 : (rest.map fun v => v.category).sum ≤ 8) (h0 : n0 ≤ n) (h2 : n ≤ n1) (hdg : decode cc pc = .ok (.invokestatic idx, 3)) (hp : pc + 3 = pc') (kk : ∀ u', K u' → pj_J (pz_g g n0 n) (pz_N g b n u') pc' vs rest) : pj_J (pz_g g n0 n) (pz_N g b n u) pc vs st := by
  obtain ⟨p, l, e, R, s, m, args, below, meth, c, D, E, Q, mc, ms⟩ := g
  subst hp
  subst hst
  obtain ⟨C1, z2, z3, hK, rfl, z6, z7, z8, z9, z10, z11, z12⟩ := Z
  intro H locs ls hl hh
  obtain ⟨hP, hS⟩ := hh
  intro T0 hT X
  have hsz : H.size = b + n := by
    have := pz_size X z7 h0 (by rw [hT]; exact hP)
    rw [← hT]; exact this
  have m1 := pz_s_mono h0 (Nat.le_trans h2 z12)
  have m3 := pz_s_mono h2 z12
  have hpre := pz_pre (av := As) hsz hP hK z8
  have hrc' : rm'.cells = n - n := by rw [hrc, Nat.sub_self]
  have hrs' : rm'.slots = pz_s n - pz_s n := by rw [hrs, Nat.sub_self]
  refine (pz_goes (va_runS (As := As) (rest := rest) C1 (hM l D E) ⟨callB_of k C1.2.2.2.2 (pj_good w5) rfl hrc' hrs' (C1.2.2.2.2 _ w4) (C1.2.2.2.2 _ w1) hd hR, C1.2.2.2.2 _ w2⟩ hpre rfl hk (by show ls.size = _; rw [hl.1]; exact C1.2.2.1) rfl (lv_room h8) hdg ⟨Nat.le_trans (pz_ar5 h0 (Nat.le_refl _) h2) z9, Nat.le_trans (pz_ar5 m1 (Nat.le_refl _) m3) z10⟩) hS (fun u' hu H1 locs1 hP1 hS1 => ?_)) T0 hT X
  exact W.cs (cells' := n - n0) (slots' := pz_s n - pz_s n0) (pz_ar6 h0 (Nat.le_refl _)) (pz_ar6 m1 (Nat.le_refl _)) (kk u' hu H1 locs1 ls hl ⟨hP1, hS1⟩)
end PZ
theorem pz_le {g : pj_G} {b n0 n1 : Nat} {cc : ByteArray} {nL : Nat} {own : String} {ret : Option FieldType} {rm : Room} (Z : pz_X g b n0 n1 cc nL own ret rm) : n1 ≤ 279 := by
  obtain ⟨p, l, e, R, s, m, args, below, meth, c, D, E, Q, mc, ms⟩ := g
  exact Z.2.2.2.2.2.2.2.2.2.2.2
theorem pz_FS {b x : Nat} {f : Nat → Int32} {el : Nat → Nat} {j : Nat} (he : x = el j) : (fun q => pz_rf (upd f j 1 q) (b + el q)) = va_up (fun q => pz_rf (f q) (b + el q)) j (some (b + x)) := by
  funext q
  by_cases hq : q = j
  · simp [va_up, upd, hq, pz_rf1, he]
  · simp [va_up, upd, hq]
theorem pz_FM {b x : Nat} {f : Nat → Int32} {j : Nat} (h0 : 0 < x) (hx : x < 2 ^ 31) : (fun q => pz_rf (upd f j (nI x) q) (b + (upd f j (nI x) q).toNatClampNeg)) = va_up (fun q => pz_rf (f q) (b + (f q).toNatClampNeg)) j (some (b + x)) := by
  funext q
  by_cases hq : q = j
  · simp [va_up, upd, hq, pz_rfn (nI_ne0 h0 hx), nI_clamp hx]
  · simp [va_up, upd, hq]
theorem pz_fN {f : Nat → Int32} {g : (Nat → Int32) → Nat → Nat} (hf : f = fun _ => 0) : (fun q => pz_rf (f q) (g f q)) = fun _ => none := by
  subst hf
  funext q
  exact pz_rf0 _
