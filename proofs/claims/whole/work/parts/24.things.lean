/-! things: present, set -/
def shf (g w : Nat → Int32) : Nat → Nat → Int32 → Int32
  | _, 0, y => y
  | i, k + 1, y => if g i = 0 then shf g w (i + 1) k y else w i
theorem shf_end (g w : Nat → Int32) : ∀ (k i : Nat) (y : Int32), shf g w i (k + 1) y = shf g w i k (if g (i + k) = 0 then y else w (i + k)) := by
  intro k
  induction k with
  | zero => intro i y; rfl
  | succ k ih =>
    intro i y
    show (if g i = 0 then shf g w (i + 1) (k + 1) y else w i) = (if g i = 0 then shf g w (i + 1) k (if g (i + (k + 1)) = 0 then y else w (i + (k + 1))) else w i)
    rw [ih (i + 1) y, show i + 1 + k = i + (k + 1) by omega]
theorem shf_eq {g w g2 w2 : Nat → Int32} : ∀ (k i : Nat) (y : Int32), (∀ r, i ≤ r → r < i + k → g r = g2 r ∧ (g r ≠ 0 → w r = w2 r)) → shf g w i k y = shf g2 w2 i k y := by
  intro k
  induction k with
  | zero => intro i y _; rfl
  | succ k ih =>
    intro i y h
    obtain ⟨h1, h2⟩ := h i (by omega) (by omega)
    show (if g i = 0 then shf g w (i + 1) k y else w i) = (if g2 i = 0 then shf g2 w2 (i + 1) k y else w2 i)
    rw [ih (i + 1) y (fun r a b => h r (by omega) (by omega)), ← h1]
    by_cases c : g i = 0
    · rw [if_pos c, if_pos c]
    · rw [if_neg c, if_neg c, h2 c]
theorem shownL {u : ST} {j : Nat} : ∀ (k r e : Nat), r + k = 17 → 1 ≤ r → k < e → f_Thing_shown_L2 e u j (nI r) = some (shf (u.2 (8 + 2 * j)) (u.2 (7 + 2 * j)) r k (u.2 (7 + 2 * j) 0)) := by
  intro k
  induction k with
  | zero =>
    intro r e h h1 he
    obtain ⟨e, rfl⟩ : ∃ e', e = e' + 1 := ⟨e - 1, by omega⟩
    rw [f_Thing_shown_L2, if_pos (show (16 : Int32) < nI r from nI_lt (a := 16) (by omega) (by omega)), k_gd_t _ (by decide)]
    rfl
  | succ k ih =>
    intro r e h h1 he
    obtain ⟨e, rfl⟩ : ∃ e', e = e' + 1 := ⟨e - 1, by omega⟩
    rw [f_Thing_shown_L2, if_neg (show ¬ (16 : Int32) < nI r from nI_nlt (a := 16) (by omega) (by decide)), k_gd_t _ (inbN (by omega) (by decide)), k_gd_t _ (inbN (by omega) (by decide)), nI_1, ih (r + 1) e (by omega) (by omega) (by omega), nI_clamp (by omega)]
    show _ = some (if u.2 (8 + 2 * j) r = 0 then shf (u.2 (8 + 2 * j)) (u.2 (7 + 2 * j)) (r + 1) k (u.2 (7 + 2 * j) 0) else u.2 (7 + 2 * j) r)
    by_cases c : u.2 (8 + 2 * j) r = 0
    · rw [if_pos c, if_pos c]
    · rw [if_neg c, if_neg c]
theorem shown_C (u : ST) (j : Nat) : f_Thing_shown u j = some (shf (u.2 (8 + 2 * j)) (u.2 (7 + 2 * j)) 1 16 (u.2 (7 + 2 * j) 0)) := shownL 16 1 200 (by decide) (by decide) (by decide)
theorem n17 {j r : Nat} : 17 * nI j + nI r = nI (17 * j + r) := by
  rw [show (17 : Int32) = nI 17 from rfl, pk_mul, nI_add]
theorem n17' {j : Nat} : 17 * nI j = nI (17 * j) := by
  rw [show (17 : Int32) = nI 17 from rfl, pk_mul]
theorem presL {v : ST} {j : Nat} (hj : j < 4) : ∀ (r e : Nat) (y : Int32), r ≤ 16 → r < e → f_Mod_presentOf_L13 e v (nI j) y (nI r) = some (shf (fun i => v.2 7 (17 * j + i)) (fun i => v.2 6 (17 * j + i)) 1 r y) := by
  intro r
  induction r with
  | zero =>
    intro e y hr he
    obtain ⟨e, rfl⟩ : ∃ e', e = e' + 1 := ⟨e - 1, by omega⟩
    rw [f_Mod_presentOf_L13, if_pos (by decide)]
    rfl
  | succ r ih =>
    intro e y hr he
    obtain ⟨e, rfl⟩ : ∃ e', e = e' + 1 := ⟨e - 1, by omega⟩
    rw [f_Mod_presentOf_L13, if_neg (show ¬ nI (r + 1) ≤ 0 from nI_nle (by omega) (by omega)), n17, k_gd_t _ (inbN (by omega) (by decide)), k_gd_t _ (inbN (by omega) (by decide)), pk_m1, ih e y (by omega) (by omega), ih e _ (by omega) (by omega), nI_clamp (by omega), shf_end]
    rw [show 1 + r = r + 1 by omega]
    by_cases c : v.2 7 (17 * j + (r + 1)) = 0
    · rw [if_pos c, if_pos c]
    · rw [if_neg c, if_neg c]
theorem pres_M (v : ST) {j : Nat} (hj : j < 4) : f_Mod_presentOf v (nI j) = some (shf (fun i => v.2 7 (17 * j + i)) (fun i => v.2 6 (17 * j + i)) 1 16 (v.2 6 (17 * j))) := by
  unfold f_Mod_presentOf
  rw [n17', k_gd_t _ (inbN (by omega) (by decide)), nI_clamp (by omega)]
  exact presL hj 16 200 _ (by decide) (by decide)
theorem pres_eq {u v : ST} (h : Rt u v) {j : Nat} (hj : j < 4) : f_Mod_presentOf v (nI j) = f_Thing_shown u j := by
  obtain ⟨h1, h2, -⟩ := h j hj
  rw [pres_M v hj, shown_C u j, h1]
  congr 1
  exact (shf_eq 16 1 _ (fun r a b => h2 r a (by omega))).symm
theorem s_present : ∀ (u v : ST) (x1 : Int32), Rl u v → ∃ q, f_PT_present u x1 = some q ∧ f_Mod_present v x1 = some q := by
  intro u v x h
  obtain ⟨-, ⟨-, -, -, -, -, ht, -⟩, -⟩ := h
  unfold f_PT_present f_Desk_thing f_Mod_present
  rcases pk_ix x (n := 4) (by decide) with c | c | ⟨j, hj, rfl⟩
  · exact ⟨0, by rw [if_pos c]; rfl, by rw [if_pos c]⟩
  · have c2 : (4 : Int32) ≤ x := c
    by_cases c0 : x < 0
    · exact ⟨0, by rw [if_pos c0]; rfl, by rw [if_pos c0]⟩
    · exact ⟨0, by rw [if_neg c0, if_pos c2]; rfl, by rw [if_neg c0, if_pos c2]⟩
  · have c1 : ¬ nI j < 0 := nI_pos (by omega)
    have c2 : ¬ (4 : Int32) ≤ nI j := nI_ge (b := 4) hj (by decide)
    have c3 : ¬ nI j = -1 := fun e => c1 (by rw [e]; decide)
    refine ⟨shf (fun i => v.2 7 (17 * j + i)) (fun i => v.2 6 (17 * j + i)) 1 16 (v.2 6 (17 * j)), ?_, ?_⟩
    rotate_left
    · rw [if_neg c1, if_neg c2, pres_M v hj]; rfl
    · rw [if_neg c1, if_neg c2, k_gd_t _ (inbN hj (by decide)), k_bd_s, if_neg c3, k_gd_t _ (inbN hj (by decide)), nI_clamp (by omega), ← pres_eq ht hj, pres_M v hj]; rfl
/-- a value is given, or taken away, on both sides -/
theorem Rt_give {u v : ST} (h : Rt u v) {j r : Nat} (hj : j < 4) (hr : r ≤ 16) {x y : Int32} (hx : 2 ≤ j → isz x) (hy : 1 ≤ r → y = 1) : Rt (rs (rs u (7 + 2 * j) r x) (8 + 2 * j) r 1) (rs (rs v 6 (17 * j + r) x) 7 (17 * j + r) y) := by
  intro i hi
  obtain ⟨h1, h2, h3⟩ := h i hi
  have v6 : (rs (rs v 6 (17 * j + r) x) 7 (17 * j + r) y).2 6 = upd (v.2 6) (17 * j + r) x := rfl
  have v7 : (rs (rs v 6 (17 * j + r) x) 7 (17 * j + r) y).2 7 = upd (v.2 7) (17 * j + r) y := rfl
  rw [v6, v7]
  by_cases e : i = j
  · subst e
    have u7 : (rs (rs u (7 + 2 * i) r x) (8 + 2 * i) r 1).2 (7 + 2 * i) = upd (u.2 (7 + 2 * i)) r x := by rw [rs_n _ _ _ (by omega), rs_s]
    have u8 : (rs (rs u (7 + 2 * i) r x) (8 + 2 * i) r 1).2 (8 + 2 * i) = upd (u.2 (8 + 2 * i)) r 1 := by rw [rs_s, rs_n _ _ _ (by omega)]
    rw [u7, u8]
    refine ⟨?_, fun k hk1 hk2 => ?_, fun h2' k hk => ?_⟩
    · by_cases e0 : r = 0
      · subst e0; rw [pk_us, Nat.add_zero, pk_us]
      · rw [pk_un (by omega), pk_un (by omega)]; exact h1
    · by_cases ek : k = r
      · subst ek; rw [pk_us, pk_us, pk_us, pk_us, hy hk1]; exact ⟨rfl, fun _ => rfl⟩
      · rw [pk_un ek, pk_un (by omega), pk_un ek, pk_un (by omega)]; exact h2 k hk1 hk2
    · by_cases ek : k = r
      · subst ek; rw [pk_us]; exact hx h2'
      · rw [pk_un ek]; exact h3 h2' k hk
  · have u7 : (rs (rs u (7 + 2 * j) r x) (8 + 2 * j) r 1).2 (7 + 2 * i) = u.2 (7 + 2 * i) := by rw [rs_n _ _ _ (by omega), rs_n _ _ _ (by omega)]
    have u8 : (rs (rs u (7 + 2 * j) r x) (8 + 2 * j) r 1).2 (8 + 2 * i) = u.2 (8 + 2 * i) := by rw [rs_n _ _ _ (by omega), rs_n _ _ _ (by omega)]
    rw [u7, u8]
    refine ⟨?_, fun k hk1 hk2 => ?_, h3⟩
    · rw [pk_un (by omega)]; exact h1
    · rw [pk_un (by omega), pk_un (by omega)]; exact h2 k hk1 hk2
theorem Rt_take {u v : ST} (h : Rt u v) {j r : Nat} (hj : j < 4) (h0 : 1 ≤ r) (hr : r ≤ 16) (x : Int32) : Rt (rs u (8 + 2 * j) r 0) (rs (rs v 6 (17 * j + r) x) 7 (17 * j + r) 0) := by
  intro i hi
  obtain ⟨h1, h2, h3⟩ := h i hi
  have v6 : (rs (rs v 6 (17 * j + r) x) 7 (17 * j + r) 0).2 6 = upd (v.2 6) (17 * j + r) x := rfl
  have v7 : (rs (rs v 6 (17 * j + r) x) 7 (17 * j + r) 0).2 7 = upd (v.2 7) (17 * j + r) 0 := rfl
  have u7 : (rs u (8 + 2 * j) r 0).2 (7 + 2 * i) = u.2 (7 + 2 * i) := by rw [rs_n _ _ _ (by omega)]
  rw [v6, v7, u7]
  by_cases e : i = j
  · subst e
    rw [rs_s]
    refine ⟨?_, fun k hk1 hk2 => ?_, h3⟩
    · rw [pk_un (by omega)]; exact h1
    · by_cases ek : k = r
      · subst ek; rw [pk_us, pk_us]; exact ⟨rfl, fun q => absurd rfl q⟩
      · rw [pk_un ek, pk_un (by omega), pk_un (by omega)]; exact h2 k hk1 hk2
  · rw [rs_n _ _ _ (show 8 + 2 * i ≠ 8 + 2 * j by omega)]
    refine ⟨?_, fun k hk1 hk2 => ?_, h3⟩
    · rw [pk_un (by omega)]; exact h1
    · rw [pk_un (by omega), pk_un (by omega)]; exact h2 k hk1 hk2
theorem takes_C (u : ST) {j : Nat} (hj : j < 4) (x : Int32) : f_Thing_takes u j x = some (if j < 2 ∨ isz x then 1 else 0) := by
  unfold f_Thing_takes
  rcases (show j = 0 ∨ j = 1 ∨ j = 2 ∨ j = 3 by omega) with rfl | rfl | rfl | rfl
  · rw [if_pos (by decide), if_pos (Or.inl (by decide))]
  · rw [if_pos (by decide), if_pos (Or.inl (by decide))]
  · rw [if_neg (by decide)]
    by_cases c0 : x = 0
    · rw [if_pos c0, if_pos (Or.inr (Or.inl c0))]
    · by_cases c1 : x = 1
      · rw [if_neg c0, if_pos c1, if_pos (Or.inr (Or.inr c1))]
      · rw [if_neg c0, if_neg c1, if_neg]
        rintro (h | h | h)
        · exact absurd h (by decide)
        · exact c0 h
        · exact c1 h
  · rw [if_neg (by decide)]
    by_cases c0 : x = 0
    · rw [if_pos c0, if_pos (Or.inr (Or.inl c0))]
    · by_cases c1 : x = 1
      · rw [if_neg c0, if_pos c1, if_pos (Or.inr (Or.inr c1))]
      · rw [if_neg c0, if_neg c1, if_neg]
        rintro (h | h | h)
        · exact absurd h (by decide)
        · exact c0 h
        · exact c1 h
