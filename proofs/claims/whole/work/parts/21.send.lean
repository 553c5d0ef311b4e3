/-! rows of bytes, frames -/
def tkd (f : Nat → Int32) : Nat → Nat → List Int32
  | _, 0 => []
  | i, r + 1 => f i :: tkd f (i + 1) r
theorem tkd_tk (f : Nat → Int32) (r : Nat) : ∀ i, tk f (i + r) = tk f i ++ tkd f i r := by
  induction r with
  | zero => intro i; simp [tkd]
  | succ r ih =>
    intro i
    rw [show i + (r + 1) = (i + 1) + r by omega, ih (i + 1), tk_succ]
    simp [tkd]
theorem tkd_0 (f : Nat → Int32) (r : Nat) : tkd f 0 r = tk f r := by
  have := tkd_tk f r 0
  rw [Nat.zero_add] at this
  rw [this, tk_0, List.nil_append]
theorem put3 {u : ST} {n : Nat} (b : Int32) (h : u.1 25 = nI n) (hn : n < 128) : f_Row_put_3 u b = some (p1 0 25 u b) := by
  unfold f_Row_put_3
  rw [if_neg (show ¬ (128 : Int32) ≤ u.1 25 by rw [h]; exact nI_ge (b := 128) hn (by decide)), k_gd_t _ (inbE h hn (by decide))]
  rfl
theorem put7 {u : ST} {n : Nat} (b : Int32) (h : u.1 27 = nI n) (hn : n < 13) : f_Row_put_7 u b = some (p1 2 27 u b) := by
  unfold f_Row_put_7
  rw [if_neg (show ¬ (13 : Int32) ≤ u.1 27 by rw [h]; exact nI_ge (b := 13) hn (by decide)), k_gd_t _ (inbE h hn (by decide))]
  rfl
theorem put9 {u : ST} {n : Nat} (b : Int32) (h : u.1 28 = nI n) (hn : n < 40) : f_Row_put_9 u b = some (p1 3 28 u b) := by
  unfold f_Row_put_9
  rw [if_neg (show ¬ (40 : Int32) ≤ u.1 28 by rw [h]; exact nI_ge (b := 40) hn (by decide)), k_gd_t _ (inbE h hn (by decide))]
  rfl
theorem put11 {u : ST} {n : Nat} (b : Int32) (h : u.1 29 = nI n) (hn : n < 5) : f_Row_put_11 u b = some (p1 4 29 u b) := by
  unfold f_Row_put_11
  rw [if_neg (show ¬ (5 : Int32) ≤ u.1 29 by rw [h]; exact nI_ge (b := 5) hn (by decide)), k_gd_t _ (inbE h hn (by decide))]
  rfl
theorem put13 {u : ST} {n : Nat} (b : Int32) (h : u.1 30 = nI n) (hn : n < 40) : f_Row_put_13 u b = some (p1 5 30 u b) := by
  unfold f_Row_put_13
  rw [if_neg (show ¬ (40 : Int32) ≤ u.1 30 by rw [h]; exact nI_ge (b := 40) hn (by decide)), k_gd_t _ (inbE h hn (by decide))]
  rfl
theorem put15 {u : ST} {n : Nat} (b : Int32) (h : u.1 31 = nI n) (hn : n < 32) : f_Row_put_15 u b = some (p1 6 31 u b) := by
  unfold f_Row_put_15
  rw [if_neg (show ¬ (32 : Int32) ≤ u.1 31 by rw [h]; exact nI_ge (b := 32) hn (by decide)), k_gd_t _ (inbE h hn (by decide))]
  rfl
theorem at3 {u : ST} {n i : Nat} (h : u.1 25 = nI n) (hn : n ≤ 128) (hi : i < n) : f_Row_at_3 u (nI i) = some (u.2 0 i) := by
  unfold f_Row_at_3
  rw [if_neg (nI_pos (by omega)), if_neg (show ¬ u.1 25 ≤ nI i by rw [h]; exact nI_ge hi (by omega)), k_gd_t _ (inbN (by omega) (by decide)), nI_clamp (by omega)]
theorem at7 {u : ST} {n i : Nat} (h : u.1 27 = nI n) (hn : n ≤ 13) (hi : i < n) : f_Row_at_7 u (nI i) = some (u.2 2 i) := by
  unfold f_Row_at_7
  rw [if_neg (nI_pos (by omega)), if_neg (show ¬ u.1 27 ≤ nI i by rw [h]; exact nI_ge hi (by omega)), k_gd_t _ (inbN (by omega) (by decide)), nI_clamp (by omega)]
theorem at9 {u : ST} {n i : Nat} (h : u.1 28 = nI n) (hn : n ≤ 40) (hi : i < n) : f_Row_at_9 u (nI i) = some (u.2 3 i) := by
  unfold f_Row_at_9
  rw [if_neg (nI_pos (by omega)), if_neg (show ¬ u.1 28 ≤ nI i by rw [h]; exact nI_ge hi (by omega)), k_gd_t _ (inbN (by omega) (by decide)), nI_clamp (by omega)]
theorem at11 {u : ST} {n i : Nat} (h : u.1 29 = nI n) (hn : n ≤ 5) (hi : i < n) : f_Row_at_11 u (nI i) = some (u.2 4 i) := by
  unfold f_Row_at_11
  rw [if_neg (nI_pos (by omega)), if_neg (show ¬ u.1 29 ≤ nI i by rw [h]; exact nI_ge hi (by omega)), k_gd_t _ (inbN (by omega) (by decide)), nI_clamp (by omega)]
theorem at13 {u : ST} {n i : Nat} (h : u.1 30 = nI n) (hn : n ≤ 40) (hi : i < n) : f_Row_at_13 u (nI i) = some (u.2 5 i) := by
  unfold f_Row_at_13
  rw [if_neg (nI_pos (by omega)), if_neg (show ¬ u.1 30 ≤ nI i by rw [h]; exact nI_ge hi (by omega)), k_gd_t _ (inbN (by omega) (by decide)), nI_clamp (by omega)]
theorem at15 {u : ST} {n i : Nat} (h : u.1 31 = nI n) (hn : n ≤ 32) (hi : i < n) : f_Row_at_15 u (nI i) = some (u.2 6 i) := by
  unfold f_Row_at_15
  rw [if_neg (nI_pos (by omega)), if_neg (show ¬ u.1 31 ≤ nI i by rw [h]; exact nI_ge hi (by omega)), k_gd_t _ (inbN (by omega) (by decide)), nI_clamp (by omega)]
theorem at13b {u : ST} {n i : Nat} (h : u.1 30 = nI n) (hn : n ≤ 40) (hi : n ≤ i) (hs : i < 2 ^ 31) : f_Row_at_13 u (nI i) = some (-1) := by
  unfold f_Row_at_13
  rw [if_neg (nI_pos hs), if_pos (show u.1 30 ≤ nI i by rw [h]; exact nI_le hi hs)]
theorem ofH {u : ST} {n : Nat} (h : u.1 25 = nI (n + 5)) (hn : n + 5 ≤ 128) : f_Chk_ofHeader_3 u (nI n) = some (255 - crc 129 255 [u.2 0 n, u.2 0 (n + 1), u.2 0 (n + 2), u.2 0 (n + 3), u.2 0 (n + 4)]) := by
  have st : ∀ (e i : Nat) (c : Int32), i < 5 → f_Chk_ofHeader_3_L6 (e + 1) u (nI n) c (nI i) = f_Chk_ofHeader_3_L6 e u (nI n) (wb 129 c (u.2 0 (n + i))) (nI (i + 1)) := by
    intro e i c hi
    rw [f_Chk_ofHeader_3_L6, if_neg (show ¬ (5 : Int32) ≤ nI i from nI_ge (b := 5) hi (by decide)), nI_add, at3 h hn (by omega), k_bd_s, wb_C, k_bd_s, nI_1]
  have en : ∀ (e : Nat) (c : Int32), f_Chk_ofHeader_3_L6 (e + 1) u (nI n) c (nI 5) = some (255 - c) := by
    intro e c
    rw [f_Chk_ofHeader_3_L6, if_pos (by decide)]
  show f_Chk_ofHeader_3_L6 200 u (nI n) 255 (nI 0) = _
  rw [st 199 0 _ (by decide), st 198 1 _ (by decide), st 197 2 _ (by decide), st 196 3 _ (by decide), st 195 4 _ (by decide), en 194]
  rfl
theorem d256 {k : Nat} (h : k < 256) : nI k / 256 = 0 := by
  rw [show nI k / 256 = nI k / nI 256 from rfl, pk_div (by omega) (by decide) (by decide), Nat.div_eq_of_lt h]
  rfl
theorem r256 {k : Nat} (h : k < 256) : nI k - nI k / 256 * 256 = nI k := by
  rw [show nI k - nI k / 256 * 256 = nI k - nI k / nI 256 * nI 256 from rfl, pk_rem (by omega) (by decide) (by decide), Nat.mod_eq_of_lt h]
theorem pa7 : ∀ (r e i n : Nat) (u : ST), r < e → u.1 27 = nI (i + r) → i + r ≤ 13 → u.1 25 = nI n → n + r ≤ 128 → f_Row_putAll_3_7_L2 e u (nI i) = some (pL 0 25 u (tkd (u.2 2) i r)) := by
  intro r
  induction r with
  | zero =>
    intro e i n u he h1 h2 h3 h4
    obtain ⟨e, rfl⟩ : ∃ e', e = e' + 1 := ⟨e - 1, by omega⟩
    rw [f_Row_putAll_3_7_L2, if_pos (show u.1 27 ≤ nI i by rw [h1]; exact nI_le (by omega) (by omega))]
    rfl
  | succ r ih =>
    intro e i n u he h1 h2 h3 h4
    obtain ⟨e, rfl⟩ : ∃ e', e = e' + 1 := ⟨e - 1, by omega⟩
    rw [f_Row_putAll_3_7_L2, if_neg (show ¬ u.1 27 ≤ nI i by rw [h1]; exact nI_ge (by omega) (by omega)), k_gd_t _ (inbN (by omega) (by decide)), put3 _ h3 (by omega), k_bd_s, nI_1, nI_clamp (by omega)]
    rw [ih e (i + 1) (n + 1) (p1 0 25 u (u.2 2 i)) (by omega) (by rw [p1_n _ _ (by decide), h1]; congr 1; omega) (by omega) (by rw [p1_c, h3, nI_1]) (by omega)]
    rw [p1_m _ _ (by decide)]
    rfl
theorem pA7 {u : ST} {k n : Nat} (h1 : u.1 27 = nI k) (hk : k ≤ 13) (h3 : u.1 25 = nI n) (hn : n + k ≤ 128) : f_Row_putAll_3_7 u = some (pL 0 25 u (tk (u.2 2) k)) := by
  rw [← tkd_0]
  exact pa7 k 200 0 n u (by omega) (by rw [h1, Nat.zero_add]) (by omega) h3 hn
theorem oD7 {u : ST} : ∀ (r e i : Nat) (x : Int32), r < e → u.1 27 = nI (i + r) → i + r ≤ 13 → f_Chk_ofData_7_L5 e u x (nI i) = some (65535 - crc 33800 x (tkd (u.2 2) i r)) := by
  intro r
  induction r with
  | zero =>
    intro e i x he h1 h2
    obtain ⟨e, rfl⟩ : ∃ e', e = e' + 1 := ⟨e - 1, by omega⟩
    rw [f_Chk_ofData_7_L5, f_Row_size_7, k_bd_s, if_pos (show u.1 27 ≤ nI i by rw [h1]; exact nI_le (by omega) (by omega))]
    rfl
  | succ r ih =>
    intro e i x he h1 h2
    obtain ⟨e, rfl⟩ : ∃ e', e = e' + 1 := ⟨e - 1, by omega⟩
    rw [f_Chk_ofData_7_L5, f_Row_size_7, k_bd_s, if_neg (show ¬ u.1 27 ≤ nI i by rw [h1]; exact nI_ge (by omega) (by omega)), at7 h1 h2 (by omega), k_bd_s, wb_C, k_bd_s, nI_1, ih e (i + 1) _ (by omega) (by rw [h1]; congr 1; omega) (by omega)]
    rfl
theorem ofD7 {u : ST} {k : Nat} (h1 : u.1 27 = nI k) (hk : k ≤ 13) : f_Chk_ofData_7 u = some (65535 - crc 33800 65535 (tk (u.2 2) k)) := by
  rw [← tkd_0]
  exact oD7 k 200 0 _ (by omega) (by rw [h1, Nat.zero_add]) (by omega)
theorem pa13 : ∀ (r e i n : Nat) (u : ST), r < e → u.1 30 = nI (i + r) → i + r ≤ 40 → u.1 25 = nI n → n + r ≤ 128 → f_Row_putAll_3_13_L2 e u (nI i) = some (pL 0 25 u (tkd (u.2 5) i r)) := by
  intro r
  induction r with
  | zero =>
    intro e i n u he h1 h2 h3 h4
    obtain ⟨e, rfl⟩ : ∃ e', e = e' + 1 := ⟨e - 1, by omega⟩
    rw [f_Row_putAll_3_13_L2, if_pos (show u.1 30 ≤ nI i by rw [h1]; exact nI_le (by omega) (by omega))]
    rfl
  | succ r ih =>
    intro e i n u he h1 h2 h3 h4
    obtain ⟨e, rfl⟩ : ∃ e', e = e' + 1 := ⟨e - 1, by omega⟩
    rw [f_Row_putAll_3_13_L2, if_neg (show ¬ u.1 30 ≤ nI i by rw [h1]; exact nI_ge (by omega) (by omega)), k_gd_t _ (inbN (by omega) (by decide)), put3 _ h3 (by omega), k_bd_s, nI_1, nI_clamp (by omega)]
    rw [ih e (i + 1) (n + 1) (p1 0 25 u (u.2 5 i)) (by omega) (by rw [p1_n _ _ (by decide), h1]; congr 1; omega) (by omega) (by rw [p1_c, h3, nI_1]) (by omega)]
    rw [p1_m _ _ (by decide)]
    rfl
theorem pA13 {u : ST} {k n : Nat} (h1 : u.1 30 = nI k) (hk : k ≤ 40) (h3 : u.1 25 = nI n) (hn : n + k ≤ 128) : f_Row_putAll_3_13 u = some (pL 0 25 u (tk (u.2 5) k)) := by
  rw [← tkd_0]
  exact pa13 k 200 0 n u (by omega) (by rw [h1, Nat.zero_add]) (by omega) h3 hn
theorem oD13 {u : ST} : ∀ (r e i : Nat) (x : Int32), r < e → u.1 30 = nI (i + r) → i + r ≤ 40 → f_Chk_ofData_13_L5 e u x (nI i) = some (65535 - crc 33800 x (tkd (u.2 5) i r)) := by
  intro r
  induction r with
  | zero =>
    intro e i x he h1 h2
    obtain ⟨e, rfl⟩ : ∃ e', e = e' + 1 := ⟨e - 1, by omega⟩
    rw [f_Chk_ofData_13_L5, f_Row_size_13, k_bd_s, if_pos (show u.1 30 ≤ nI i by rw [h1]; exact nI_le (by omega) (by omega))]
    rfl
  | succ r ih =>
    intro e i x he h1 h2
    obtain ⟨e, rfl⟩ : ∃ e', e = e' + 1 := ⟨e - 1, by omega⟩
    rw [f_Chk_ofData_13_L5, f_Row_size_13, k_bd_s, if_neg (show ¬ u.1 30 ≤ nI i by rw [h1]; exact nI_ge (by omega) (by omega)), at13 h1 h2 (by omega), k_bd_s, wb_C, k_bd_s, nI_1, ih e (i + 1) _ (by omega) (by rw [h1]; congr 1; omega) (by omega)]
    rfl
theorem ofD13 {u : ST} {k : Nat} (h1 : u.1 30 = nI k) (hk : k ≤ 40) : f_Chk_ofData_13 u = some (65535 - crc 33800 65535 (tk (u.2 5) k)) := by
  rw [← tkd_0]
  exact oD13 k 200 0 _ (by omega) (by rw [h1, Nat.zero_add]) (by omega)
theorem pa15 : ∀ (r e i n : Nat) (u : ST), r < e → u.1 31 = nI (i + r) → i + r ≤ 32 → u.1 25 = nI n → n + r ≤ 128 → f_Row_putAll_3_15_L2 e u (nI i) = some (pL 0 25 u (tkd (u.2 6) i r)) := by
  intro r
  induction r with
  | zero =>
    intro e i n u he h1 h2 h3 h4
    obtain ⟨e, rfl⟩ : ∃ e', e = e' + 1 := ⟨e - 1, by omega⟩
    rw [f_Row_putAll_3_15_L2, if_pos (show u.1 31 ≤ nI i by rw [h1]; exact nI_le (by omega) (by omega))]
    rfl
  | succ r ih =>
    intro e i n u he h1 h2 h3 h4
    obtain ⟨e, rfl⟩ : ∃ e', e = e' + 1 := ⟨e - 1, by omega⟩
    rw [f_Row_putAll_3_15_L2, if_neg (show ¬ u.1 31 ≤ nI i by rw [h1]; exact nI_ge (by omega) (by omega)), k_gd_t _ (inbN (by omega) (by decide)), put3 _ h3 (by omega), k_bd_s, nI_1, nI_clamp (by omega)]
    rw [ih e (i + 1) (n + 1) (p1 0 25 u (u.2 6 i)) (by omega) (by rw [p1_n _ _ (by decide), h1]; congr 1; omega) (by omega) (by rw [p1_c, h3, nI_1]) (by omega)]
    rw [p1_m _ _ (by decide)]
    rfl
theorem pA15 {u : ST} {k n : Nat} (h1 : u.1 31 = nI k) (hk : k ≤ 32) (h3 : u.1 25 = nI n) (hn : n + k ≤ 128) : f_Row_putAll_3_15 u = some (pL 0 25 u (tk (u.2 6) k)) := by
  rw [← tkd_0]
  exact pa15 k 200 0 n u (by omega) (by rw [h1, Nat.zero_add]) (by omega) h3 hn
theorem oD15 {u : ST} : ∀ (r e i : Nat) (x : Int32), r < e → u.1 31 = nI (i + r) → i + r ≤ 32 → f_Chk_ofData_15_L5 e u x (nI i) = some (65535 - crc 33800 x (tkd (u.2 6) i r)) := by
  intro r
  induction r with
  | zero =>
    intro e i x he h1 h2
    obtain ⟨e, rfl⟩ : ∃ e', e = e' + 1 := ⟨e - 1, by omega⟩
    rw [f_Chk_ofData_15_L5, f_Row_size_15, k_bd_s, if_pos (show u.1 31 ≤ nI i by rw [h1]; exact nI_le (by omega) (by omega))]
    rfl
  | succ r ih =>
    intro e i x he h1 h2
    obtain ⟨e, rfl⟩ : ∃ e', e = e' + 1 := ⟨e - 1, by omega⟩
    rw [f_Chk_ofData_15_L5, f_Row_size_15, k_bd_s, if_neg (show ¬ u.1 31 ≤ nI i by rw [h1]; exact nI_ge (by omega) (by omega)), at15 h1 h2 (by omega), k_bd_s, wb_C, k_bd_s, nI_1, ih e (i + 1) _ (by omega) (by rw [h1]; congr 1; omega) (by omega)]
    rfl
theorem ofD15 {u : ST} {k : Nat} (h1 : u.1 31 = nI k) (hk : k ≤ 32) : f_Chk_ofData_15 u = some (65535 - crc 33800 65535 (tk (u.2 6) k)) := by
  rw [← tkd_0]
  exact oD15 k 200 0 _ (by omega) (by rw [h1, Nat.zero_add]) (by omega)
theorem snd5 {u : ST} {n k : Nat} (ty to : Int32) (h : u.1 25 = nI n) (hk : u.1 26 = nI k) (hkN : k ≤ 0) (hn : n + (if k = 0 then 8 else 10 + k) ≤ 128) : f_PT_send_5 u ty to = some (ss (pL 0 25 u (frm ty to (u.1 0) (tk (u.2 1) k))) 9 0) := by
  have hn8 : n + 8 ≤ 128 := by
    by_cases h0 : k = 0
    · rw [if_pos h0] at hn; exact hn
    · rw [if_neg h0] at hn; omega
  have c1 : ∀ (M : List Int32), (pL 0 25 u M).1 25 = nI (n + M.length) := fun M => pL_c u M h
  have c2 : ∀ (M : List Int32), (pL 0 25 u M).1 26 = nI k := fun M => by rw [pL_n _ _ (by decide), hk]
  have c0 : ∀ (M : List Int32), (pL 0 25 u M).1 0 = u.1 0 := fun M => pL_n _ _ (by decide)
  have st : ∀ (M : List Int32) (b : Int32), n + M.length < 128 → f_Row_put_3 (pL 0 25 u M) b = some (pL 0 25 u (M ++ [b])) := by
    intro M b hM
    rw [put3 b (c1 M) hM, pL_one, pL_app]
  have sz : ∀ (M : List Int32), f_Row_size_5 (pL 0 25 u M) = some (nI k) := fun M => by rw [f_Row_size_5, c2 M]
  unfold f_PT_send_5
  rw [← pL_nil 0 25 u, st [] 85 (by simp; omega), k_bd_s, st _ 255 (by simp; omega), k_bd_s, f_Row_size_3, k_bd_s, c1, st _ ty (by simp; omega), k_bd_s, st _ to (by simp; omega), k_bd_s, c0, st _ _ (by simp; omega), k_bd_s, sz, k_bd_s, d256 (by omega), st _ _ (by simp; omega), k_bd_s, sz, k_bd_s, r256 (by omega), st _ _ (by simp; omega), k_bd_s]
  simp only [List.nil_append, List.cons_append, List.length_cons, List.length_nil, pL_nil]
  have hb : ∀ (i : Nat) (x : Int32), ([85, 255, ty, to, u.1 0, 0, nI k] : List Int32)[i]? = some x → (pL 0 25 u [85, 255, ty, to, u.1 0, 0, nI k]).2 0 (n + i) = x := fun i x hx => pL_new u _ h (by simp; omega) hx
  rw [show n + (0 + 1 + 1) = n + 2 by omega, ofH (n := n + 2) (by rw [c1]; rfl) (by omega), k_bd_s]
  rw [show n + 2 + 1 = n + 3 by omega, show n + 2 + 2 = n + 4 by omega, show n + 2 + 3 = n + 5 by omega, show n + 2 + 4 = n + 6 by omega]
  rw [hb 2 ty rfl, hb 3 to rfl, hb 4 (u.1 0) rfl, hb 5 0 rfl, hb 6 (nI k) rfl]
  rw [st _ _ (by simp; omega), k_bd_s, sz, k_bd_s]
  simp only [List.cons_append, List.nil_append]
  by_cases h0 : k = 0
  · rw [if_pos (show nI k ≤ 0 by rw [h0]; decide), k_let_s]
    unfold frm
    rw [tk_len, if_pos h0, List.append_nil]
  · omega
theorem snd7 {u : ST} {n k : Nat} (ty to : Int32) (h : u.1 25 = nI n) (hk : u.1 27 = nI k) (hkN : k ≤ 13) (hn : n + (if k = 0 then 8 else 10 + k) ≤ 128) : f_PT_send_7 u ty to = some (ss (pL 0 25 u (frm ty to (u.1 0) (tk (u.2 2) k))) 9 0) := by
  have hn8 : n + 8 ≤ 128 := by
    by_cases h0 : k = 0
    · rw [if_pos h0] at hn; exact hn
    · rw [if_neg h0] at hn; omega
  have c1 : ∀ (M : List Int32), (pL 0 25 u M).1 25 = nI (n + M.length) := fun M => pL_c u M h
  have c2 : ∀ (M : List Int32), (pL 0 25 u M).1 27 = nI k := fun M => by rw [pL_n _ _ (by decide), hk]
  have c0 : ∀ (M : List Int32), (pL 0 25 u M).1 0 = u.1 0 := fun M => pL_n _ _ (by decide)
  have st : ∀ (M : List Int32) (b : Int32), n + M.length < 128 → f_Row_put_3 (pL 0 25 u M) b = some (pL 0 25 u (M ++ [b])) := by
    intro M b hM
    rw [put3 b (c1 M) hM, pL_one, pL_app]
  have sz : ∀ (M : List Int32), f_Row_size_7 (pL 0 25 u M) = some (nI k) := fun M => by rw [f_Row_size_7, c2 M]
  unfold f_PT_send_7
  rw [← pL_nil 0 25 u, st [] 85 (by simp; omega), k_bd_s, st _ 255 (by simp; omega), k_bd_s, f_Row_size_3, k_bd_s, c1, st _ ty (by simp; omega), k_bd_s, st _ to (by simp; omega), k_bd_s, c0, st _ _ (by simp; omega), k_bd_s, sz, k_bd_s, d256 (by omega), st _ _ (by simp; omega), k_bd_s, sz, k_bd_s, r256 (by omega), st _ _ (by simp; omega), k_bd_s]
  simp only [List.nil_append, List.cons_append, List.length_cons, List.length_nil, pL_nil]
  have hb : ∀ (i : Nat) (x : Int32), ([85, 255, ty, to, u.1 0, 0, nI k] : List Int32)[i]? = some x → (pL 0 25 u [85, 255, ty, to, u.1 0, 0, nI k]).2 0 (n + i) = x := fun i x hx => pL_new u _ h (by simp; omega) hx
  rw [show n + (0 + 1 + 1) = n + 2 by omega, ofH (n := n + 2) (by rw [c1]; rfl) (by omega), k_bd_s]
  rw [show n + 2 + 1 = n + 3 by omega, show n + 2 + 2 = n + 4 by omega, show n + 2 + 3 = n + 5 by omega, show n + 2 + 4 = n + 6 by omega]
  rw [hb 2 ty rfl, hb 3 to rfl, hb 4 (u.1 0) rfl, hb 5 0 rfl, hb 6 (nI k) rfl]
  rw [st _ _ (by simp; omega), k_bd_s, sz, k_bd_s]
  simp only [List.cons_append, List.nil_append]
  by_cases h0 : k = 0
  · rw [if_pos (show nI k ≤ 0 by rw [h0]; decide), k_let_s]
    unfold frm
    rw [tk_len, if_pos h0, List.append_nil]
  · rw [if_neg (show ¬ nI k ≤ 0 from nI_nle (by omega) (by omega))]
    rw [if_neg h0] at hn
    rw [pA7 (k := k) (c2 _) hkN (c1 _) (by simp; omega), k_bd_s, pL_m _ _ (by decide), pL_app]
    rw [ofD7 (c2 _) hkN, k_bd_s, pL_m _ _ (by decide)]
    rw [st _ _ (by simp [tk_len]; omega), k_bd_s, st _ _ (by simp [tk_len]; omega), k_bd_s, k_let_s]
    unfold frm
    rw [tk_len, if_neg h0]
    simp only [List.append_assoc, List.cons_append, List.nil_append]
theorem snd13 {u : ST} {n k : Nat} (ty to : Int32) (h : u.1 25 = nI n) (hk : u.1 30 = nI k) (hkN : k ≤ 40) (hn : n + (if k = 0 then 8 else 10 + k) ≤ 128) : f_PT_send_13 u ty to = some (ss (pL 0 25 u (frm ty to (u.1 0) (tk (u.2 5) k))) 9 0) := by
  have hn8 : n + 8 ≤ 128 := by
    by_cases h0 : k = 0
    · rw [if_pos h0] at hn; exact hn
    · rw [if_neg h0] at hn; omega
  have c1 : ∀ (M : List Int32), (pL 0 25 u M).1 25 = nI (n + M.length) := fun M => pL_c u M h
  have c2 : ∀ (M : List Int32), (pL 0 25 u M).1 30 = nI k := fun M => by rw [pL_n _ _ (by decide), hk]
  have c0 : ∀ (M : List Int32), (pL 0 25 u M).1 0 = u.1 0 := fun M => pL_n _ _ (by decide)
  have st : ∀ (M : List Int32) (b : Int32), n + M.length < 128 → f_Row_put_3 (pL 0 25 u M) b = some (pL 0 25 u (M ++ [b])) := by
    intro M b hM
    rw [put3 b (c1 M) hM, pL_one, pL_app]
  have sz : ∀ (M : List Int32), f_Row_size_13 (pL 0 25 u M) = some (nI k) := fun M => by rw [f_Row_size_13, c2 M]
  unfold f_PT_send_13
  rw [← pL_nil 0 25 u, st [] 85 (by simp; omega), k_bd_s, st _ 255 (by simp; omega), k_bd_s, f_Row_size_3, k_bd_s, c1, st _ ty (by simp; omega), k_bd_s, st _ to (by simp; omega), k_bd_s, c0, st _ _ (by simp; omega), k_bd_s, sz, k_bd_s, d256 (by omega), st _ _ (by simp; omega), k_bd_s, sz, k_bd_s, r256 (by omega), st _ _ (by simp; omega), k_bd_s]
  simp only [List.nil_append, List.cons_append, List.length_cons, List.length_nil, pL_nil]
  have hb : ∀ (i : Nat) (x : Int32), ([85, 255, ty, to, u.1 0, 0, nI k] : List Int32)[i]? = some x → (pL 0 25 u [85, 255, ty, to, u.1 0, 0, nI k]).2 0 (n + i) = x := fun i x hx => pL_new u _ h (by simp; omega) hx
  rw [show n + (0 + 1 + 1) = n + 2 by omega, ofH (n := n + 2) (by rw [c1]; rfl) (by omega), k_bd_s]
  rw [show n + 2 + 1 = n + 3 by omega, show n + 2 + 2 = n + 4 by omega, show n + 2 + 3 = n + 5 by omega, show n + 2 + 4 = n + 6 by omega]
  rw [hb 2 ty rfl, hb 3 to rfl, hb 4 (u.1 0) rfl, hb 5 0 rfl, hb 6 (nI k) rfl]
  rw [st _ _ (by simp; omega), k_bd_s, sz, k_bd_s]
  simp only [List.cons_append, List.nil_append]
  by_cases h0 : k = 0
  · rw [if_pos (show nI k ≤ 0 by rw [h0]; decide), k_let_s]
    unfold frm
    rw [tk_len, if_pos h0, List.append_nil]
  · rw [if_neg (show ¬ nI k ≤ 0 from nI_nle (by omega) (by omega))]
    rw [if_neg h0] at hn
    rw [pA13 (k := k) (c2 _) hkN (c1 _) (by simp; omega), k_bd_s, pL_m _ _ (by decide), pL_app]
    rw [ofD13 (c2 _) hkN, k_bd_s, pL_m _ _ (by decide)]
    rw [st _ _ (by simp [tk_len]; omega), k_bd_s, st _ _ (by simp [tk_len]; omega), k_bd_s, k_let_s]
    unfold frm
    rw [tk_len, if_neg h0]
    simp only [List.append_assoc, List.cons_append, List.nil_append]
theorem snd15 {u : ST} {n k : Nat} (ty to : Int32) (h : u.1 25 = nI n) (hk : u.1 31 = nI k) (hkN : k ≤ 32) (hn : n + (if k = 0 then 8 else 10 + k) ≤ 128) : f_PT_send_15 u ty to = some (ss (pL 0 25 u (frm ty to (u.1 0) (tk (u.2 6) k))) 9 0) := by
  have hn8 : n + 8 ≤ 128 := by
    by_cases h0 : k = 0
    · rw [if_pos h0] at hn; exact hn
    · rw [if_neg h0] at hn; omega
  have c1 : ∀ (M : List Int32), (pL 0 25 u M).1 25 = nI (n + M.length) := fun M => pL_c u M h
  have c2 : ∀ (M : List Int32), (pL 0 25 u M).1 31 = nI k := fun M => by rw [pL_n _ _ (by decide), hk]
  have c0 : ∀ (M : List Int32), (pL 0 25 u M).1 0 = u.1 0 := fun M => pL_n _ _ (by decide)
  have st : ∀ (M : List Int32) (b : Int32), n + M.length < 128 → f_Row_put_3 (pL 0 25 u M) b = some (pL 0 25 u (M ++ [b])) := by
    intro M b hM
    rw [put3 b (c1 M) hM, pL_one, pL_app]
  have sz : ∀ (M : List Int32), f_Row_size_15 (pL 0 25 u M) = some (nI k) := fun M => by rw [f_Row_size_15, c2 M]
  unfold f_PT_send_15
  rw [← pL_nil 0 25 u, st [] 85 (by simp; omega), k_bd_s, st _ 255 (by simp; omega), k_bd_s, f_Row_size_3, k_bd_s, c1, st _ ty (by simp; omega), k_bd_s, st _ to (by simp; omega), k_bd_s, c0, st _ _ (by simp; omega), k_bd_s, sz, k_bd_s, d256 (by omega), st _ _ (by simp; omega), k_bd_s, sz, k_bd_s, r256 (by omega), st _ _ (by simp; omega), k_bd_s]
  simp only [List.nil_append, List.cons_append, List.length_cons, List.length_nil, pL_nil]
  have hb : ∀ (i : Nat) (x : Int32), ([85, 255, ty, to, u.1 0, 0, nI k] : List Int32)[i]? = some x → (pL 0 25 u [85, 255, ty, to, u.1 0, 0, nI k]).2 0 (n + i) = x := fun i x hx => pL_new u _ h (by simp; omega) hx
  rw [show n + (0 + 1 + 1) = n + 2 by omega, ofH (n := n + 2) (by rw [c1]; rfl) (by omega), k_bd_s]
  rw [show n + 2 + 1 = n + 3 by omega, show n + 2 + 2 = n + 4 by omega, show n + 2 + 3 = n + 5 by omega, show n + 2 + 4 = n + 6 by omega]
  rw [hb 2 ty rfl, hb 3 to rfl, hb 4 (u.1 0) rfl, hb 5 0 rfl, hb 6 (nI k) rfl]
  rw [st _ _ (by simp; omega), k_bd_s, sz, k_bd_s]
  simp only [List.cons_append, List.nil_append]
  by_cases h0 : k = 0
  · rw [if_pos (show nI k ≤ 0 by rw [h0]; decide), k_let_s]
    unfold frm
    rw [tk_len, if_pos h0, List.append_nil]
  · rw [if_neg (show ¬ nI k ≤ 0 from nI_nle (by omega) (by omega))]
    rw [if_neg h0] at hn
    rw [pA15 (k := k) (c2 _) hkN (c1 _) (by simp; omega), k_bd_s, pL_m _ _ (by decide), pL_app]
    rw [ofD15 (c2 _) hkN, k_bd_s, pL_m _ _ (by decide)]
    rw [st _ _ (by simp [tk_len]; omega), k_bd_s, st _ _ (by simp [tk_len]; omega), k_bd_s, k_let_s]
    unfold frm
    rw [tk_len, if_neg h0]
    simp only [List.append_assoc, List.cons_append, List.nil_append]
theorem mput {u : ST} {n : Nat} (b : Int32) (h : u.1 16 = nI n) (hn : n < 1024) : f_Mod_put u b = some (p1 2 16 u b) := by
  unfold f_Mod_put
  rw [k_gd_t _ (inbE h hn (by decide))]
  rfl
theorem madd {u : ST} {n : Nat} (b : Int32) (h : u.1 18 = nI n) (hn : n < 48) : f_Mod_add u b = some (p1 3 18 u b) := by
  unfold f_Mod_add
  rw [k_gd_t _ (inbE h hn (by decide))]
  rfl
theorem smB {k : Nat} (h : k < 65536) : sm 16 (nI k) := ⟨k, h, rfl⟩
theorem mD {k : Nat} (hk : k ≤ 48) : ∀ (r e i n : Nat) (v : ST) (x : Int32), r < e → i + r = k → v.1 16 = nI n → n + r + 2 ≤ 1024 → sm 16 x → (∀ j, j < k → sm 16 (v.2 3 j)) →
    f_Mod_send_L100 e v (nI k) x (nI i) = some (ss (pL 2 16 v (tkd (v.2 3) i r ++ (if k = 0 then [] else [(65535 - crc 33800 x (tkd (v.2 3) i r)) - (65535 - crc 33800 x (tkd (v.2 3) i r)) / 256 * 256, (65535 - crc 33800 x (tkd (v.2 3) i r)) / 256]))) 2 0) := by
  intro r
  induction r with
  | zero =>
    intro e i n v x he h1 h3 h4 hx hs
    obtain ⟨e, rfl⟩ : ∃ e', e = e' + 1 := ⟨e - 1, by omega⟩
    rw [f_Mod_send_L100, if_pos (show nI k ≤ nI i from nI_le (by omega) (by omega))]
    by_cases h0 : k = 0
    · rw [if_pos (show nI k ≤ 0 by rw [h0]; decide), if_pos h0]
      rfl
    · rw [if_neg (show ¬ nI k ≤ 0 from nI_nle (by omega) (by omega)), if_neg h0, mput _ h3 (by omega), k_bd_s, mput (n := n + 1) _ (by rw [p1_c, h3, nI_1]) (by omega), k_bd_s]
      rfl
  | succ r ih =>
    intro e i n v x he h1 h3 h4 hx hs
    obtain ⟨e, rfl⟩ : ∃ e', e = e' + 1 := ⟨e - 1, by omega⟩
    rw [f_Mod_send_L100, if_neg (show ¬ nI k ≤ nI i from nI_ge (by omega) (by omega)), k_gd_t _ (inbN (by omega) (by decide)), mput _ h3 (by omega), k_bd_s, k_gd_t _ (inbN (by omega) (by decide)), p1_m _ _ (by decide), nI_clamp (by omega), wb_D hx (hs i (by omega)), k_bd_s, nI_1]
    rw [ih e (i + 1) (n + 1) (p1 2 16 v (v.2 3 i)) _ (by omega) (by omega) (by rw [p1_c, h3, nI_1]) (by omega) (sm_wb sm33800 hx (hs i (by omega))) (fun j hj => by rw [p1_m _ _ (by decide)]; exact hs j hj)]
    rw [p1_m _ _ (by decide)]
    rfl
theorem msnd {v : ST} {n k : Nat} {ty to : Int32} (h : v.1 16 = nI n) (hk : k ≤ 48) (hn : n + 60 ≤ 1024) (h1 : sm 16 ty) (h2 : sm 16 to) (h3 : sm 16 (v.1 0)) (hs : ∀ j, j < k → sm 16 (v.2 3 j)) : f_Mod_send v ty to (nI k) = some (ss (pL 2 16 v (frm ty to (v.1 0) (tk (v.2 3) k))) 2 0) := by
  have c1 : ∀ (M : List Int32), (pL 2 16 v M).1 16 = nI (n + M.length) := fun M => pL_c v M h
  have c0 : ∀ (M : List Int32), (pL 2 16 v M).1 0 = v.1 0 := fun M => pL_n _ _ (by decide)
  have st : ∀ (M : List Int32) (b : Int32), n + M.length < 1024 → f_Mod_put (pL 2 16 v M) b = some (pL 2 16 v (M ++ [b])) := by
    intro M b hM
    rw [mput b (c1 M) hM, pL_one, pL_app]
  unfold f_Mod_send
  rw [← pL_nil 2 16 v, st [] 85 (by simp; omega), k_bd_s, st _ 255 (by simp; omega), k_bd_s, st _ ty (by simp; omega), k_bd_s, st _ to (by simp; omega), k_bd_s, c0, st _ _ (by simp; omega), k_bd_s, st _ _ (by simp; omega), k_bd_s, st _ _ (by simp; omega), k_bd_s]
  simp only [List.nil_append, List.cons_append, List.length_cons, List.length_nil, pL_nil]
  have hb : ∀ (i : Nat) (x : Int32), ([85, 255, ty, to, v.1 0, 0, nI k] : List Int32)[i]? = some x → (pL 2 16 v [85, 255, ty, to, v.1 0, 0, nI k]).2 2 (n + i) = x := fun i x hx => pL_new v _ h (by simp; omega) hx
  have hc : (pL 2 16 v [85, 255, ty, to, v.1 0, 0, nI k]).1 16 = nI (n + 7) := by rw [c1]; rfl
  have hst : ∀ (e i : Nat) (x b : Int32), i < 7 → ([85, 255, ty, to, v.1 0, 0, nI k] : List Int32)[i]? = some b → sm 16 x → sm 16 b → f_Mod_send_L54 (e + 1) (pL 2 16 v [85, 255, ty, to, v.1 0, 0, nI k]) (nI k) x (nI (n + i)) = f_Mod_send_L54 e (pL 2 16 v [85, 255, ty, to, v.1 0, 0, nI k]) (nI k) (wb 129 x b) (nI (n + (i + 1))) := by
    intro e i x b hi hx h5 h6
    rw [f_Mod_send_L54, if_neg (by rw [hc]; exact nI_ge (by omega) (by omega)), k_gd_t _ (inbN (by omega) (by decide)), nI_clamp (by omega), hb i b hx, wb_H h5 h6, k_bd_s, nI_1]
    rfl
  rw [hc, show nI (n + 7) - 5 = nI (n + 2) from by rw [show (5 : Int32) = nI 5 from rfl, pk_sub (by omega)]; rfl]
  have s0 : sm 16 (255 : Int32) := ⟨255, by decide, rfl⟩
  have s1 := sm_wb sm129 s0 h1
  have s2 := sm_wb sm129 s1 h2
  have s3 := sm_wb sm129 s2 h3
  have z0 : sm 16 (0 : Int32) := ⟨0, by decide, rfl⟩
  have s4 := sm_wb sm129 s3 z0
  rw [hst 199 2 255 ty (by decide) rfl s0 h1, hst 198 3 _ to (by decide) rfl s1 h2, hst 197 4 _ (v.1 0) (by decide) rfl s2 h3, hst 196 5 _ 0 (by decide) rfl s3 z0, hst 195 6 _ (nI k) (by decide) rfl s4 (smB (by omega))]
  rw [f_Mod_send_L54, if_pos (by rw [hc]; exact nI_le (by omega) (by omega)), st _ _ (by simp; omega), k_bd_s]
  simp only [List.cons_append, List.nil_append]
  rw [show (0 : Int32) = nI 0 from rfl, mD hk k 200 0 (n + 8) _ 65535 (by omega) (by omega) (by rw [c1]; rfl) (by omega) ⟨65535, by decide, rfl⟩ (fun j hj => by rw [pL_m _ _ (by decide)]; exact hs j hj)]
  rw [pL_m _ _ (by decide), pL_app, tkd_0]
  unfold frm
  rw [tk_len]
  by_cases h0 : k = 0
  · rw [if_pos h0, if_pos h0, h0]
    rfl
  · rw [if_neg h0, if_neg h0]
    rfl
