/-! the relation of the class's state u and the reference's state v -/
def byt (x : Int32) : Prop := ∃ n : Nat, n < 256 ∧ x = nI n
theorem byt_sm {x : Int32} (h : byt x) : sm 16 x := by
  obtain ⟨n, h1, h2⟩ := h
  exact ⟨n, by omega, h2⟩
/-- all fields but E, all rows but F are kept -/
def kp (E F : List Nat) (u u1 : ST) : Prop := (∀ j, j ∉ E → u1.1 j = u.1 j) ∧ (∀ k, k ∉ F → u1.2 k = u.2 k)
theorem kp_rf (u : ST) : kp [] [] u u := ⟨fun _ _ => rfl, fun _ _ => rfl⟩
theorem kp_ss (u : ST) (k : Nat) (x : Int32) : kp [k] [] u (ss u k x) := ⟨fun j hj => ss_n u x (fun e => hj (by rw [e]; exact List.mem_cons_self)), fun _ _ => rfl⟩
theorem kp_rs (u : ST) (k i : Nat) (x : Int32) : kp [] [k] u (rs u k i x) := ⟨fun _ _ => rfl, fun j hj => rs_n u i x (fun e => hj (by rw [e]; exact List.mem_cons_self))⟩
theorem kp_pL (a c : Nat) (u : ST) (L : List Int32) : kp [c] [a] u (pL a c u L) := ⟨fun j hj => pL_n u L (fun e => hj (by rw [e]; exact List.mem_cons_self)), fun j hj => pL_m u L (fun e => hj (by rw [e]; exact List.mem_cons_self))⟩
theorem kp_tr {E F E2 F2 : List Nat} {u u1 u2 : ST} (h : kp E F u u1) (h2 : kp E2 F2 u1 u2) : kp (E ++ E2) (F ++ F2) u u2 :=
  ⟨fun j hj => by rw [h2.1 j (fun q => hj (List.mem_append_right _ q)), h.1 j (fun q => hj (List.mem_append_left _ q))], fun j hj => by rw [h2.2 j (fun q => hj (List.mem_append_right _ q)), h.2 j (fun q => hj (List.mem_append_left _ q))]⟩
theorem kp_sub {E F E2 F2 : List Nat} {u u1 : ST} (h : kp E F u u1) (hE : ∀ j ∈ E, j ∈ E2) (hF : ∀ j ∈ F, j ∈ F2) : kp E2 F2 u u1 := ⟨fun j hj => h.1 j (fun q => hj (hE j q)), fun j hj => h.2 j (fun q => hj (hF j q))⟩
/-- fields that are the same -/
def Bs (u v : ST) : Prop := u.1 0 = v.1 0 ∧ u.1 1 = v.1 1 ∧ u.1 2 = v.1 4 ∧ u.1 3 = v.1 5 ∧ u.1 4 = v.1 6 ∧ u.1 5 = v.1 7 ∧ u.1 6 = v.1 8 ∧ u.1 7 = v.1 9 ∧ u.1 8 = v.1 3 ∧ u.1 9 = v.1 2 ∧ u.1 10 = v.1 23 ∧ u.1 11 = v.1 22 ∧ u.1 12 = v.1 0
/-- bounds of the class's fields -/
def Rb (u : ST) : Prop := ∃ o m a b t s r : Nat, u.1 0 = nI o ∧ u.1 1 = nI m ∧ u.1 3 = nI a ∧ u.1 4 = nI b ∧ u.1 5 = nI t ∧ u.1 9 = nI s ∧ u.1 10 = nI r ∧ o ≤ m ∧ m ≤ 15 ∧ a ≤ m ∧ b ≤ m ∧ t ≤ 3 ∧ s ≤ 1000 ∧ r ≤ 15 ∧ u.1 26 = nI 0
def Ro (n : Nat) (u v : ST) : Prop := u.1 25 = nI n ∧ v.1 16 = nI n ∧ n ≤ 128 ∧ ∀ i, i < n → u.2 0 i = v.2 2 i
def Rq (u v : ST) : Prop := u.1 11 = 0 ∨ (u.1 27 = nI 13 ∧ ∀ i, i < 13 → u.2 2 i = v.2 5 i ∧ byt (u.2 2 i))
def Rr (u v : ST) : Prop := ∃ n, n ≤ 40 ∧ u.1 28 = nI n ∧ v.1 20 = nI n ∧ ∀ i, i < n → u.2 3 i = v.2 4 i
def Rt (u v : ST) : Prop := ∀ j, j < 4 → u.2 (7 + 2 * j) 0 = v.2 6 (17 * j) ∧ (∀ r, 1 ≤ r → r ≤ 16 → u.2 (8 + 2 * j) r = v.2 7 (17 * j + r) ∧ (u.2 (8 + 2 * j) r ≠ 0 → u.2 (7 + 2 * j) r = v.2 6 (17 * j + r))) ∧ (2 ≤ j → ∀ r, r < 17 → isz (u.2 (7 + 2 * j) r))
def hb (h : Nat) (u v : ST) : Prop := ∀ i, i < h → u.2 4 i = v.2 0 i ∧ byt (u.2 4 i)
def fr (n d : Nat) (u v : ST) : Prop := u.1 29 = nI 5 ∧ hb 5 u v ∧ (256 * u.2 4 3) + u.2 4 4 = nI n ∧ v.1 13 = nI n ∧ u.1 30 = nI d ∧ ∀ i, i < d → u.2 5 i = v.2 1 i ∧ byt (u.2 5 i)
def Re (u v : ST) : Prop :=
  (u.1 13 = 0 ∧ v.1 10 = 0) ∨ (u.1 13 = 1 ∧ v.1 10 = 1) ∨
  (∃ h, h < 5 ∧ u.1 13 = 2 ∧ u.1 29 = nI h ∧ u.1 30 = 0 ∧ v.1 10 = nI (2 + h) ∧ hb h u v ∧ u.1 14 = crc 129 255 (tk (u.2 4) h)) ∨
  (u.1 13 = 3 ∧ u.1 29 = nI 5 ∧ u.1 30 = 0 ∧ v.1 10 = nI 7 ∧ hb 5 u v ∧ u.1 14 = crc 129 255 (tk (u.2 4) 5)) ∨
  (∃ n d, d < n ∧ n ≤ 40 ∧ u.1 13 = 4 ∧ fr n d u v ∧ v.1 10 = nI (8 + d) ∧ u.1 14 = crc 33800 65535 (tk (u.2 5) d)) ∨
  (∃ n, 0 < n ∧ n ≤ 40 ∧ u.1 13 = 5 ∧ fr n n u v ∧ v.1 10 = nI (8 + n) ∧ u.1 14 = crc 33800 65535 (tk (u.2 5) n)) ∨
  (∃ n, 0 < n ∧ n ≤ 40 ∧ u.1 13 = 6 ∧ fr n n u v ∧ v.1 10 = nI (9 + n) ∧ u.1 14 = crc 33800 65535 (tk (u.2 5) n) ∧ u.1 15 = v.2 1 n ∧ byt (u.1 15))
/-- a frame that was heard -/
def Fr (u v : ST) : Prop := ∃ n, n ≤ 40 ∧ fr n n u v
/-- in the middle of a frame the line has not been still for long -/
def Rz (u : ST) : Prop := u.1 13 = 0 ∨ u.1 13 = 1 ∨ ∃ s, s ≤ 3 ∧ u.1 9 = nI s
/-- between calls -/
def Rx (u : ST) : Prop := ∃ s : Nat, u.1 9 = nI s ∧ ((u.1 2 = 0 ∧ s < 500) ∨ (u.1 2 = 2 ∧ s < 255) ∨ (u.1 2 = 4 ∧ s < 20) ∨ (u.1 2 = 5 ∧ s < 650) ∨ (u.1 2 = 6 ∧ s < 20))
def RM (n : Nat) (u v : ST) : Prop := Bs u v ∧ Rb u ∧ Ro n u v ∧ Rq u v ∧ Rr u v ∧ Rt u v ∧ Re u v
def Rl (u v : ST) : Prop := ∃ n, RM n u v ∧ Rz u ∧ Rx u
section KP
variable {E F E2 F2 : List Nat} {u u1 v v1 : ST}
theorem Rq_kp (h : kp E F u u1) (h2 : kp E2 F2 v v1) (a : ∀ j ∈ [11, 27], j ∉ E) (b : ∀ j ∈ [2], j ∉ F) (c : ∀ j ∈ [5], j ∉ F2) (q : Rq u v) : Rq u1 v1 := by
  unfold Rq at *
  rw [h.1 11 (a 11 (by decide)), h.1 27 (a 27 (by decide)), h.2 2 (b 2 (by decide)), h2.2 5 (c 5 (by decide))]
  exact q
theorem Rr_kp (h : kp E F u u1) (h2 : kp E2 F2 v v1) (a : ∀ j ∈ [28], j ∉ E) (b : ∀ j ∈ [3], j ∉ F) (d : ∀ j ∈ [20], j ∉ E2) (c : ∀ j ∈ [4], j ∉ F2) (q : Rr u v) : Rr u1 v1 := by
  unfold Rr at *
  rw [h.1 28 (a 28 (by decide)), h.2 3 (b 3 (by decide)), h2.1 20 (d 20 (by decide)), h2.2 4 (c 4 (by decide))]
  exact q
theorem Rt_kp (h : kp E F u u1) (h2 : kp E2 F2 v v1) (b : ∀ j ∈ [7, 8, 9, 10, 11, 12, 13, 14], j ∉ F) (c : ∀ j ∈ [6, 7], j ∉ F2) (q : Rt u v) : Rt u1 v1 := by
  intro j hj
  have e1 : u1.2 (7 + 2 * j) = u.2 (7 + 2 * j) := h.2 _ (b _ (by rcases (show j = 0 ∨ j = 1 ∨ j = 2 ∨ j = 3 by omega) with rfl | rfl | rfl | rfl <;> decide))
  have e2 : u1.2 (8 + 2 * j) = u.2 (8 + 2 * j) := h.2 _ (b _ (by rcases (show j = 0 ∨ j = 1 ∨ j = 2 ∨ j = 3 by omega) with rfl | rfl | rfl | rfl <;> decide))
  rw [e1, e2, h2.2 6 (c 6 (by decide)), h2.2 7 (c 7 (by decide))]
  exact q j hj
theorem Re_kp (h : kp E F u u1) (h2 : kp E2 F2 v v1) (a : ∀ j ∈ [13, 14, 15, 29, 30], j ∉ E) (b : ∀ j ∈ [4, 5], j ∉ F) (d : ∀ j ∈ [10, 13], j ∉ E2) (c : ∀ j ∈ [0, 1], j ∉ F2) (q : Re u v) : Re u1 v1 := by
  unfold Re fr hb at *
  rw [h.1 13 (a 13 (by decide)), h.1 14 (a 14 (by decide)), h.1 15 (a 15 (by decide)), h.1 29 (a 29 (by decide)), h.1 30 (a 30 (by decide)), h.2 4 (b 4 (by decide)), h.2 5 (b 5 (by decide)), h2.1 10 (d 10 (by decide)), h2.1 13 (d 13 (by decide)), h2.2 0 (c 0 (by decide)), h2.2 1 (c 1 (by decide))]
  exact q
theorem Fr_kp (h : kp E F u u1) (h2 : kp E2 F2 v v1) (a : ∀ j ∈ [29, 30], j ∉ E) (b : ∀ j ∈ [4, 5], j ∉ F) (d : ∀ j ∈ [13], j ∉ E2) (c : ∀ j ∈ [0, 1], j ∉ F2) (q : Fr u v) : Fr u1 v1 := by
  unfold Fr fr hb at *
  rw [h.1 29 (a 29 (by decide)), h.1 30 (a 30 (by decide)), h.2 4 (b 4 (by decide)), h.2 5 (b 5 (by decide)), h2.1 13 (d 13 (by decide)), h2.2 0 (c 0 (by decide)), h2.2 1 (c 1 (by decide))]
  exact q
theorem Ro_kp {n : Nat} (h : kp E F u u1) (h2 : kp E2 F2 v v1) (a : ∀ j ∈ [25], j ∉ E) (b : ∀ j ∈ [0], j ∉ F) (d : ∀ j ∈ [16], j ∉ E2) (c : ∀ j ∈ [2], j ∉ F2) (q : Ro n u v) : Ro n u1 v1 := by
  unfold Ro at *
  rw [h.1 25 (a 25 (by decide)), h.2 0 (b 0 (by decide)), h2.1 16 (d 16 (by decide)), h2.2 2 (c 2 (by decide))]
  exact q
theorem Rb_kp (h : kp E F u u1) (a : ∀ j ∈ [0, 1, 3, 4, 5, 9, 10, 26], j ∉ E) (q : Rb u) : Rb u1 := by
  unfold Rb at *
  rw [h.1 0 (a 0 (by decide)), h.1 1 (a 1 (by decide)), h.1 3 (a 3 (by decide)), h.1 4 (a 4 (by decide)), h.1 5 (a 5 (by decide)), h.1 9 (a 9 (by decide)), h.1 10 (a 10 (by decide)), h.1 26 (a 26 (by decide))]
  exact q
/-- out gets the same bytes on both sides -/
theorem Ro_pL {n : Nat} (L : List Int32) (q : Ro n u v) (hn : n + L.length ≤ 128) : Ro (n + L.length) (pL 0 25 u L) (pL 2 16 v L) := by
  obtain ⟨h1, h2, h3, h4⟩ := q
  refine ⟨pL_c u L h1, pL_c v L h2, hn, fun i hi => ?_⟩
  by_cases hl : i < n
  · rw [pL_old u L h1 (by omega) hl, pL_old v L h2 (by omega) hl]; exact h4 i hl
  · have hx := List.getElem?_eq_getElem (l := L) (i := i - n) (by omega)
    have e1 := pL_new (a := 0) u L h1 (by omega) hx
    have e2 := pL_new (a := 2) v L h2 (by omega) hx
    rw [show n + (i - n) = i by omega] at e1 e2
    rw [e1, e2]
end KP
theorem Ro_ss {n k l : Nat} {u v : ST} (x y : Int32) (q : Ro n u v) (hk : k ≠ 25) (hl : l ≠ 16) : Ro n (ss u k x) (ss v l y) := by
  obtain ⟨h1, h2, h3, h4⟩ := q
  exact ⟨by rw [ss_n _ _ hk.symm]; exact h1, by rw [ss_n _ _ hl.symm]; exact h2, h3, h4⟩
