def rfT (j : Nat) : Int32 := match j with
  | 0 => 8388608
  | 1 => 8388609
  | 2 => 16777216
  | _ => 16777217
def bnT (j : Nat) : Int32 := match j with
  | 0 => 0
  | 1 => 0
  | _ => 1
def tfq (a b c d : Nat) : Nat → Option Nat := va_up (va_up (va_up (va_up (fun _ => none) 0 (some a)) 1 (some b)) 2 (some c)) 3 (some d)
def tf (ad : Nat → Nat) : Nat → Option Nat := tfq (ad 18) (ad 21) (ad 24) (ad 27)
theorem tf_at (ad : Nat → Nat) {n : Nat} (hn : n < 4) : va_rf (tf ad n) = .ref (ad (18 + 3 * n)) := by
  rcases (show n = 0 ∨ n = 1 ∨ n = 2 ∨ n = 3 by omega) with rfl | rfl | rfl | rfl <;> rfl
def aq (ad : Nat → Nat) (a : Int32) : Nat := if a = 1 then ad 13 else ad 39
theorem tv_nar (ad : Nat → Nat) (a : Int32) : narrow (.object "PassedToken$Thing") (tv ad a) = tv ad a := by
  unfold tv
  by_cases h : a = -1
  · rw [if_pos h]; rfl
  · rw [if_neg h]; rfl
theorem tv_fits (ad : Nat → Nat) (a : Int32) : fits (.object "PassedToken$Thing") (tv ad a) = true := by
  unfold tv
  by_cases h : a = -1
  · rw [if_pos h]; rfl
  · rw [if_neg h]; rfl
abbrev tyC (cI cZ cT : ClassId) : List (ClassId × FieldType) := [(cI, .int), (cZ, .boolean), (cT, .object "PassedToken$Thing")]
def wC (ad : Nat → Nat) (cI cZ cT : ClassId) (v u : ST) : va_W := [(ad 0, .inr (4, [.int (u.1 0), .int (u.1 1), .ref (ad 1), .ref (ad 3), .ref (ad 5), .ref (ad 7), .ref (ad 9), .ref (ad 2), .int (u.1 2), .int (u.1 3), .int (u.1 4), .int (u.1 5), .int (u.1 6), .int (u.1 7), .int (u.1 8), .int (u.1 9), .int (u.1 10), .int (u.1 11)])),
  (ad 1, .inr (2, [.int (u.1 12), .ref (ad 11), .ref (ad 13), .int (u.1 13), .int (u.1 14), .int (u.1 15)])),
  (ad 2, .inr (3, [.ref (ad 17), .ref (ad 15), .ref (aq ad (u.1 32)), .int (u.1 16), .int (u.1 17), .int (u.1 18), .int (u.1 19), tv ad (u.1 33), .int (u.1 20), .int (u.1 21), .int (u.1 22), .int (u.1 23), .int (u.1 24)])),
  (ad 3, .inr (0, [.ref (ad 4), .int (u.1 25)])),
  (ad 4, .inl (cI, 128, .inl (u.2 0))),
  (ad 5, .inr (0, [.ref (ad 6), .int (u.1 26)])),
  (ad 6, .inl (cI, 0, .inl (u.2 1))),
  (ad 7, .inr (0, [.ref (ad 8), .int (u.1 27)])),
  (ad 8, .inl (cI, 13, .inl (u.2 2))),
  (ad 9, .inr (0, [.ref (ad 10), .int (u.1 28)])),
  (ad 10, .inl (cI, 40, .inl (u.2 3))),
  (ad 11, .inr (0, [.ref (ad 12), .int (u.1 29)])),
  (ad 12, .inl (cI, 5, .inl (u.2 4))),
  (ad 13, .inr (0, [.ref (ad 14), .int (u.1 30)])),
  (ad 14, .inl (cI, 40, .inl (u.2 5))),
  (ad 15, .inr (0, [.ref (ad 16), .int (u.1 31)])),
  (ad 16, .inl (cI, 32, .inl (u.2 6))),
  (ad 17, .inl (cT, 4, .inr (.inr (.inr (.inr (tf ad)))))),
  (ad 18, .inr (1, [.int (rfT 0), .int (bnT 0), .ref (ad 19), .ref (ad 20)])),
  (ad 19, .inl (cI, 17, .inl (u.2 7))),
  (ad 20, .inl (cZ, 17, .inl (u.2 8))),
  (ad 21, .inr (1, [.int (rfT 1), .int (bnT 1), .ref (ad 22), .ref (ad 23)])),
  (ad 22, .inl (cI, 17, .inl (u.2 9))),
  (ad 23, .inl (cZ, 17, .inl (u.2 10))),
  (ad 24, .inr (1, [.int (rfT 2), .int (bnT 2), .ref (ad 25), .ref (ad 26)])),
  (ad 25, .inl (cI, 17, .inl (u.2 11))),
  (ad 26, .inl (cZ, 17, .inl (u.2 12))),
  (ad 27, .inr (1, [.int (rfT 3), .int (bnT 3), .ref (ad 28), .ref (ad 29)])),
  (ad 28, .inl (cI, 17, .inl (u.2 13))),
  (ad 29, .inl (cZ, 17, .inl (u.2 14))),
  (ad 30, .inr (5, [.int (v.1 0), .int (v.1 1), .int (v.1 2), .int (v.1 3), .int (v.1 4), .int (v.1 5), .int (v.1 6), .int (v.1 7), .int (v.1 8), .int (v.1 9), .int (v.1 10), .ref (ad 31), .ref (ad 32), .int (v.1 13), .int (v.1 14), .int (v.1 15), .int (v.1 16), .ref (ad 33), .int (v.1 18), .ref (ad 34), .int (v.1 20), .ref (ad 35), .int (v.1 22), .int (v.1 23), .ref (ad 36), .ref (ad 37), .ref (ad 38), .int (v.1 27), .int (v.1 28)])),
  (ad 31, .inl (cI, 6, .inl (v.2 0))),
  (ad 32, .inl (cI, 42, .inl (v.2 1))),
  (ad 33, .inl (cI, 1024, .inl (v.2 2))),
  (ad 34, .inl (cI, 48, .inl (v.2 3))),
  (ad 35, .inl (cI, 40, .inl (v.2 4))),
  (ad 36, .inl (cI, 13, .inl (v.2 5))),
  (ad 37, .inl (cI, 68, .inl (v.2 6))),
  (ad 38, .inl (cZ, 68, .inl (v.2 7)))]
def wCc (ad : Nat → Nat) (cI cZ cT : ClassId) (u : ST) : va_W := [(ad 0, .inr (4, [.int (u.1 0), .int (u.1 1), .ref (ad 1), .ref (ad 3), .ref (ad 5), .ref (ad 7), .ref (ad 9), .ref (ad 2), .int (u.1 2), .int (u.1 3), .int (u.1 4), .int (u.1 5), .int (u.1 6), .int (u.1 7), .int (u.1 8), .int (u.1 9), .int (u.1 10), .int (u.1 11)])),
  (ad 1, .inr (2, [.int (u.1 12), .ref (ad 11), .ref (ad 13), .int (u.1 13), .int (u.1 14), .int (u.1 15)])),
  (ad 2, .inr (3, [.ref (ad 17), .ref (ad 15), .ref (aq ad (u.1 32)), .int (u.1 16), .int (u.1 17), .int (u.1 18), .int (u.1 19), tv ad (u.1 33), .int (u.1 20), .int (u.1 21), .int (u.1 22), .int (u.1 23), .int (u.1 24)])),
  (ad 3, .inr (0, [.ref (ad 4), .int (u.1 25)])),
  (ad 4, .inl (cI, 128, .inl (u.2 0))),
  (ad 5, .inr (0, [.ref (ad 6), .int (u.1 26)])),
  (ad 6, .inl (cI, 0, .inl (u.2 1))),
  (ad 7, .inr (0, [.ref (ad 8), .int (u.1 27)])),
  (ad 8, .inl (cI, 13, .inl (u.2 2))),
  (ad 9, .inr (0, [.ref (ad 10), .int (u.1 28)])),
  (ad 10, .inl (cI, 40, .inl (u.2 3))),
  (ad 11, .inr (0, [.ref (ad 12), .int (u.1 29)])),
  (ad 12, .inl (cI, 5, .inl (u.2 4))),
  (ad 13, .inr (0, [.ref (ad 14), .int (u.1 30)])),
  (ad 14, .inl (cI, 40, .inl (u.2 5))),
  (ad 15, .inr (0, [.ref (ad 16), .int (u.1 31)])),
  (ad 16, .inl (cI, 32, .inl (u.2 6))),
  (ad 17, .inl (cT, 4, .inr (.inr (.inr (.inr (tf ad)))))),
  (ad 18, .inr (1, [.int (rfT 0), .int (bnT 0), .ref (ad 19), .ref (ad 20)])),
  (ad 19, .inl (cI, 17, .inl (u.2 7))),
  (ad 20, .inl (cZ, 17, .inl (u.2 8))),
  (ad 21, .inr (1, [.int (rfT 1), .int (bnT 1), .ref (ad 22), .ref (ad 23)])),
  (ad 22, .inl (cI, 17, .inl (u.2 9))),
  (ad 23, .inl (cZ, 17, .inl (u.2 10))),
  (ad 24, .inr (1, [.int (rfT 2), .int (bnT 2), .ref (ad 25), .ref (ad 26)])),
  (ad 25, .inl (cI, 17, .inl (u.2 11))),
  (ad 26, .inl (cZ, 17, .inl (u.2 12))),
  (ad 27, .inr (1, [.int (rfT 3), .int (bnT 3), .ref (ad 28), .ref (ad 29)])),
  (ad 28, .inl (cI, 17, .inl (u.2 13))),
  (ad 29, .inl (cZ, 17, .inl (u.2 14)))]
def wMc (ad : Nat → Nat) (cI cZ : ClassId) (v : ST) : va_W := [(ad 30, .inr (5, [.int (v.1 0), .int (v.1 1), .int (v.1 2), .int (v.1 3), .int (v.1 4), .int (v.1 5), .int (v.1 6), .int (v.1 7), .int (v.1 8), .int (v.1 9), .int (v.1 10), .ref (ad 31), .ref (ad 32), .int (v.1 13), .int (v.1 14), .int (v.1 15), .int (v.1 16), .ref (ad 33), .int (v.1 18), .ref (ad 34), .int (v.1 20), .ref (ad 35), .int (v.1 22), .int (v.1 23), .ref (ad 36), .ref (ad 37), .ref (ad 38), .int (v.1 27), .int (v.1 28)])),
  (ad 31, .inl (cI, 6, .inl (v.2 0))),
  (ad 32, .inl (cI, 42, .inl (v.2 1))),
  (ad 33, .inl (cI, 1024, .inl (v.2 2))),
  (ad 34, .inl (cI, 48, .inl (v.2 3))),
  (ad 35, .inl (cI, 40, .inl (v.2 4))),
  (ad 36, .inl (cI, 13, .inl (v.2 5))),
  (ad 37, .inl (cI, 68, .inl (v.2 6))),
  (ad 38, .inl (cZ, 68, .inl (v.2 7)))]
theorem wC_app (ad : Nat → Nat) (cI cZ cT : ClassId) (v u : ST) : wC ad cI cZ cT v u = wCc ad cI cZ cT u ++ wMc ad cI cZ v := rfl
def wM (ad : Nat → Nat) (cI cZ cT : ClassId) (u v : ST) : va_W := wC ad cI cZ cT v u
