/-! taking the data of a request apart -/
/-- the reference reads on at a, all fine so far -/
def GM (v0 V : ST) (a : Nat) : Prop := kp [27, 28] [] v0 V ∧ V.1 28 = 1 ∧ V.1 27 = nI a
/-- .. it has seen a fault -/
def BM (v0 V : ST) : Prop := kp [27, 28] [] v0 V ∧ V.1 28 = 0
section PM
variable {v0 V : ST} {k a : Nat} {D : Nat → Int32}
theorem kp27 (V : ST) (f : Int32) (x : Int32) : kp [27, 28] [] V (ss (ss V 28 f) 27 x) := kp_sub (kp_tr (kp_ss _ _ _) (kp_ss _ _ _)) (by decide) (by decide)
theorem kp_cm {v0 V W : ST} (h : kp [27, 28] [] v0 V) (h2 : kp [27, 28] [] V W) : kp [27, 28] [] v0 W := kp_sub (kp_tr h h2) (by decide) (by decide)
theorem mtk_bb (h : BM v0 V) : ∃ W, f_Mod_take V = some (0, W) ∧ BM v0 W := by
  refine ⟨ss (ss V 28 0) 27 (V.1 27 + 1), ?_, kp_cm h.1 (kp27 V 0 _), rfl⟩
  rw [f_Mod_take, if_pos h.2, f_Mod_take_J23, f_Mod_take_J24, k_gd_t _ (Or.inl rfl), k_let_s, k_let_s, if_pos (show (ss (ss V 28 0) 27 ((ss V 28 0).1 27 + 1)).1 28 = 0 from rfl)]
  rfl
theorem mtk_b (h : GM v0 V a) (hk : v0.1 13 = nI k) (h40 : k ≤ 40) (ha : k ≤ a) (ha2 : a < 1000) : ∃ W, f_Mod_take V = some (0, W) ∧ BM v0 W := by
  obtain ⟨h1, h2, h3⟩ := h
  refine ⟨ss (ss V 28 0) 27 (V.1 27 + 1), ?_, kp_cm h1 (kp27 V 0 _), rfl⟩
  rw [f_Mod_take, if_neg (by rw [h2]; decide), if_pos (by rw [h3, h1.1 13 (by decide), hk]; exact nI_le ha (by omega)), f_Mod_take_J23, f_Mod_take_J24, k_gd_t _ (Or.inl rfl), k_let_s, k_let_s, if_pos (show (ss (ss V 28 0) 27 ((ss V 28 0).1 27 + 1)).1 28 = 0 from rfl)]
  rfl
theorem mtk_g (h : GM v0 V a) (hk : v0.1 13 = nI k) (h40 : k ≤ 40) (ha : a < k) : ∃ W, f_Mod_take V = some (v0.2 1 a, W) ∧ GM v0 W (a + 1) := by
  obtain ⟨h1, h2, h3⟩ := h
  refine ⟨ss (ss V 28 1) 27 (nI (a + 1)), ?_, kp_cm h1 (kp27 V 1 _), rfl, rfl⟩
  have e : (ss V 28 1).1 27 + 1 = nI (a + 1) := by rw [ss_n _ _ (by decide), h3, nI_1]
  have e2 : nI (a + 1) - 1 = nI a := nI_pred a
  rw [f_Mod_take, if_neg (by rw [h2]; decide), if_neg (by rw [h3, h1.1 13 (by decide), hk]; exact nI_ge ha (by omega)), f_Mod_take_J24, k_gd_t _ (Or.inr rfl), k_let_s, k_let_s, e, if_neg (show ¬ (ss (ss V 28 1) 27 (nI (a + 1))).1 28 = 0 from (by decide : ¬ (1 : Int32) = 0)), show (ss (ss V 28 1) 27 (nI (a + 1))).1 27 = nI (a + 1) from rfl, e2, k_gd_t _ (inbN (by omega) (by decide)), nI_clamp (by omega), show (ss (ss V 28 1) 27 (nI (a + 1))).2 1 = V.2 1 from rfl, h1.2 1 (by decide)]
theorem mex_bb (h : BM v0 V) (x : Int32) : ∃ W, f_Mod_expect V x = some W ∧ BM v0 W := by
  obtain ⟨W, e, h2⟩ := mtk_bb h
  refine ⟨ss W 28 0, ?_, kp_cm h2.1 (kp_sub (kp_ss _ _ _) (by decide) (by decide)), rfl⟩
  rw [f_Mod_expect, e, k_bd_s, if_pos h2.2]; rfl
theorem mex_b (h : GM v0 V a) (hk : v0.1 13 = nI k) (h40 : k ≤ 40) (ha2 : a < 1000) {x : Int32} (hx : ¬ (a < k ∧ v0.2 1 a = x)) : ∃ W, f_Mod_expect V x = some W ∧ BM v0 W := by
  by_cases c : a < k
  · obtain ⟨W, e, h2⟩ := mtk_g h hk h40 c
    refine ⟨ss W 28 0, ?_, kp_cm h2.1 (kp_sub (kp_ss _ _ _) (by decide) (by decide)), rfl⟩
    rw [f_Mod_expect, e, k_bd_s, if_neg (by rw [h2.2.1]; decide), if_neg (fun q => hx ⟨c, q⟩)]; rfl
  · obtain ⟨W, e, h2⟩ := mtk_b h hk h40 (by omega) ha2
    refine ⟨ss W 28 0, ?_, kp_cm h2.1 (kp_sub (kp_ss _ _ _) (by decide) (by decide)), rfl⟩
    rw [f_Mod_expect, e, k_bd_s, if_pos h2.2]; rfl
theorem mex_g (h : GM v0 V a) (hk : v0.1 13 = nI k) (h40 : k ≤ 40) (ha : a < k) {x : Int32} (hx : v0.2 1 a = x) : ∃ W, f_Mod_expect V x = some W ∧ GM v0 W (a + 1) := by
  obtain ⟨W, e, h2⟩ := mtk_g h hk h40 ha
  refine ⟨ss W 28 1, ?_, kp_cm h2.1 (kp_sub (kp_ss _ _ _) (by decide) (by decide)), rfl, ?_⟩
  · rw [f_Mod_expect, e, k_bd_s, if_neg (by rw [h2.2.1]; decide), if_pos hx]; rfl
  · rw [ss_n _ _ (by decide)]; exact h2.2.2
/-- four bytes as a number -/
def i4 (D : Nat → Int32) (a : Nat) : Int32 := ((((((((0 : Int32) <<< (8 &&& 31)) ||| D a) <<< (8 &&& 31)) ||| D (a + 1)) <<< (8 &&& 31)) ||| D (a + 2)) <<< (8 &&& 31)) ||| D (a + 3)
theorem mint_st {V W : ST} {e : Nat} {y x : Int32} {i : Nat} (hi : i < 4) (h : f_Mod_take V = some (x, W)) : f_Mod_takeInt_L4 (e + 1) V y (nI i) = f_Mod_takeInt_L4 e W ((y <<< (8 &&& 31)) ||| x) (nI (i + 1)) := by
  rw [f_Mod_takeInt_L4, if_neg (show ¬ (4 : Int32) ≤ nI i from nI_ge (b := 4) hi (by decide)), h, k_bd_s, nI_1]
theorem mint_en (V : ST) (e : Nat) (y : Int32) : f_Mod_takeInt_L4 (e + 1) V y (nI 4) = some (y, V) := by
  rw [f_Mod_takeInt_L4, if_pos (by decide)]
theorem mint4 {V W1 W2 W3 W4 : ST} {x1 x2 x3 x4 : Int32} (e1 : f_Mod_take V = some (x1, W1)) (e2 : f_Mod_take W1 = some (x2, W2)) (e3 : f_Mod_take W2 = some (x3, W3)) (e4 : f_Mod_take W3 = some (x4, W4)) : f_Mod_takeInt V = some (((((((((0 : Int32) <<< (8 &&& 31)) ||| x1) <<< (8 &&& 31)) ||| x2) <<< (8 &&& 31)) ||| x3) <<< (8 &&& 31)) ||| x4, W4) := by
  show f_Mod_takeInt_L4 200 V 0 (nI 0) = _
  rw [mint_st (e := 199) (by decide) e1, mint_st (e := 198) (by decide) e2, mint_st (e := 197) (by decide) e3, mint_st (e := 196) (by decide) e4, mint_en W4 195]
theorem mint_g (h : GM v0 V a) (hk : v0.1 13 = nI k) (h40 : k ≤ 40) (ha : a + 4 ≤ k) : ∃ W, f_Mod_takeInt V = some (i4 (v0.2 1) a, W) ∧ GM v0 W (a + 4) := by
  obtain ⟨W1, e1, h1⟩ := mtk_g h hk h40 (by omega)
  obtain ⟨W2, e2, h2⟩ := mtk_g h1 hk h40 (by omega)
  obtain ⟨W3, e3, h3⟩ := mtk_g h2 hk h40 (by omega)
  obtain ⟨W4, e4, h4⟩ := mtk_g h3 hk h40 (by omega)
  exact ⟨W4, mint4 e1 e2 e3 e4, h4⟩
theorem mint_bb (h : BM v0 V) : ∃ w W, f_Mod_takeInt V = some (w, W) ∧ BM v0 W := by
  obtain ⟨W1, e1, h1⟩ := mtk_bb h
  obtain ⟨W2, e2, h2⟩ := mtk_bb h1
  obtain ⟨W3, e3, h3⟩ := mtk_bb h2
  obtain ⟨W4, e4, h4⟩ := mtk_bb h3
  exact ⟨_, W4, mint4 e1 e2 e3 e4, h4⟩
/-- a byte is taken, however it stands -/
theorem mtk_any (h : GM v0 V a ∨ BM v0 V) (hk : v0.1 13 = nI k) (h40 : k ≤ 40) (ha2 : a < 1000) : ∃ w W, f_Mod_take V = some (w, W) ∧ ((GM v0 W (a + 1) ∧ a < k) ∨ BM v0 W) := by
  rcases h with h | h
  · by_cases c : a < k
    · obtain ⟨W, e, h2⟩ := mtk_g h hk h40 c
      exact ⟨_, W, e, Or.inl ⟨h2, c⟩⟩
    · obtain ⟨W, e, h2⟩ := mtk_b h hk h40 (by omega) ha2
      exact ⟨_, W, e, Or.inr h2⟩
  · obtain ⟨W, e, h2⟩ := mtk_bb h
    exact ⟨_, W, e, Or.inr h2⟩
theorem mint_b (h : GM v0 V a) (hk : v0.1 13 = nI k) (h40 : k ≤ 40) (ha : ¬ a + 4 ≤ k) (ha2 : a < 900) : ∃ w W, f_Mod_takeInt V = some (w, W) ∧ BM v0 W := by
  obtain ⟨x1, W1, e1, h1⟩ := mtk_any (Or.inl h) hk h40 (by omega)
  obtain ⟨x2, W2, e2, h2⟩ := mtk_any (a := a + 1) (h1.imp (fun q => q.1) id) hk h40 (by omega)
  obtain ⟨x3, W3, e3, h3⟩ := mtk_any (a := a + 1 + 1) (h2.imp (fun q => q.1) id) hk h40 (by omega)
  obtain ⟨x4, W4, e4, h4⟩ := mtk_any (a := a + 1 + 1 + 1) (h3.imp (fun q => q.1) id) hk h40 (by omega)
  exact ⟨_, W4, mint4 e1 e2 e3 e4, h4.resolve_left (fun q => ha (by omega))⟩
theorem mnx_b (h : BM v0 V) (x : Int32) : f_Mod_isNext V x = some 0 := by
  rw [f_Mod_isNext, if_pos h.2]
theorem mnx_t (h : GM v0 V a) (hk : v0.1 13 = nI k) (h40 : k ≤ 40) (ha : a < k) {x : Int32} (hx : v0.2 1 a = x) : f_Mod_isNext V x = some 1 := by
  obtain ⟨h1, h2, h3⟩ := h
  rw [f_Mod_isNext, if_neg (by rw [h2]; decide), if_neg (by rw [h3, h1.1 13 (by decide), hk]; exact nI_ge ha (by omega)), h3, k_gd_t _ (inbN (by omega) (by decide)), nI_clamp (by omega), h1.2 1 (by decide), if_pos hx]
theorem mnx_f (h : GM v0 V a) (hk : v0.1 13 = nI k) (h40 : k ≤ 40) (ha2 : a < 1000) {x : Int32} (hx : ¬ (a < k ∧ v0.2 1 a = x)) : f_Mod_isNext V x = some 0 := by
  obtain ⟨h1, h2, h3⟩ := h
  by_cases c : a < k
  · rw [f_Mod_isNext, if_neg (by rw [h2]; decide), if_neg (by rw [h3, h1.1 13 (by decide), hk]; exact nI_ge c (by omega)), h3, k_gd_t _ (inbN (by omega) (by decide)), nI_clamp (by omega), h1.2 1 (by decide), if_neg (fun q => hx ⟨c, q⟩)]
  · rw [f_Mod_isNext, if_neg (by rw [h2]; decide), if_pos (by rw [h3, h1.1 13 (by decide), hk]; exact nI_le (by omega) (by omega))]
/-- the reference steps over a mark -/
theorem mstep (h : GM v0 V a) : GM v0 (ss V 27 (V.1 27 + 1)) (a + 1) := by
  obtain ⟨h1, h2, h3⟩ := h
  exact ⟨kp_cm h1 (kp_sub (kp_ss _ _ _) (by decide) (by decide)), by rw [ss_n _ _ (by decide)]; exact h2, by rw [ss_s, h3, nI_1]⟩
end PM
/-- the class reads on at a; its data has k bytes D -/
def GC (k : Nat) (D : Nat → Int32) (U : ST) (a : Nat) : Prop := U.1 32 = 1 ∧ U.1 30 = nI k ∧ U.2 5 = D ∧ U.1 16 = nI a
def dv (k : Nat) (D : Nat → Int32) (a : Nat) : Int32 := if a < k then D a else -1
section PC
variable {U : ST} {k a : Nat} {D : Nat → Int32}
theorem GC_at (h : GC k D U a) (h40 : k ≤ 40) {i : Nat} (hi : i < 1000) : f_Row_at_13 U (nI i) = some (dv k D i) := by
  obtain ⟨h1, h2, h3, h4⟩ := h
  unfold dv
  by_cases c : i < k
  · rw [if_pos c, at13 h2 h40 c, h3]
  · rw [if_neg c, at13b h2 h40 (by omega) (by omega)]
theorem cfo_g (h : GC k D U a) (h40 : k ≤ 40) (ha2 : a < 1000) (ha : a < k) {x : Int32} (hx : D a = x) : f_Desk_follows U x = some (1, ss U 16 (nI (a + 1))) := by
  rw [f_Desk_follows, k_gd_t _ h.1, h.2.2.2, GC_at h h40 ha2, k_bd_s, dv, if_pos ha, if_pos hx, nI_1]
  rfl
theorem cfo_b (h : GC k D U a) (h40 : k ≤ 40) (ha2 : a < 1000) {x : Int32} (hx : ¬ (a < k ∧ D a = x)) (hm : ¬ (-1) = x) : f_Desk_follows U x = some (0, U) := by
  rw [f_Desk_follows, k_gd_t _ h.1, h.2.2.2, GC_at h h40 ha2, k_bd_s, dv]
  by_cases c : a < k
  · rw [if_pos c, if_neg (fun q => hx ⟨c, q⟩)]
  · rw [if_neg c, if_neg hm]
theorem cby (h : GC k D U a) (h40 : k ≤ 40) (ha2 : a < 1000) : f_Desk_nextByte U = some (dv k D a, ss U 16 (nI (a + 1))) := by
  rw [f_Desk_nextByte, k_gd_t _ h.1, h.2.2.2, GC_at h h40 ha2, k_bd_s, k_let_s, nI_1]
theorem cint (h : GC k D U a) (h40 : k ≤ 40) (ha2 : a < 900) : f_Desk_nextInt U = some (i4 (dv k D) a, ss U 16 (nI (a + 4))) := by
  have st : ∀ (e i : Nat) (y : Int32), i < 4 → f_Desk_nextInt_L4 (e + 1) U y (nI i) = f_Desk_nextInt_L4 e U ((y <<< (8 &&& 31)) ||| dv k D (a + i)) (nI (i + 1)) := by
    intro e i y hi
    rw [f_Desk_nextInt_L4, if_neg (show ¬ (4 : Int32) ≤ nI i from nI_ge (b := 4) hi (by decide)), k_gd_t _ h.1, h.2.2.2, nI_add, GC_at h h40 (by omega), k_bd_s, nI_1]
  show f_Desk_nextInt_L4 200 U 0 (nI 0) = _
  rw [st 199 0 _ (by decide), st 198 1 _ (by decide), st 197 2 _ (by decide), st 196 3 _ (by decide), f_Desk_nextInt_L4, if_pos (by decide), h.2.2.2, k_let_s, show nI a + 4 = nI (a + 4) from by rw [show (4 : Int32) = nI 4 from rfl, nI_add]]
  rfl
theorem i4_dv (ha : a + 4 ≤ k) : i4 (dv k D) a = i4 D a := by
  unfold i4 dv
  rw [if_pos (by omega), if_pos (by omega), if_pos (by omega), if_pos (by omega)]
theorem GC_ss (h : GC k D U a) {j : Nat} (x : Int32) (h1 : j ≠ 32) (h2 : j ≠ 30) (h3 : j ≠ 16) : GC k D (ss U j x) a := ⟨by rw [ss_n _ _ h1.symm]; exact h.1, by rw [ss_n _ _ h2.symm]; exact h.2.1, h.2.2.1, by rw [ss_n _ _ h3.symm]; exact h.2.2.2⟩
theorem GC_mv (h : GC k D U a) (b : Nat) : GC k D (ss U 16 (nI b)) b := ⟨h.1, h.2.1, h.2.2.1, rfl⟩
end PC
