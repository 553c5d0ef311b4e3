/-! ask -/
theorem other_C {u : ST} {o m : Nat} (h0 : u.1 0 = nI o) (h1 : u.1 1 = nI m) (hm : m ≤ 15) (x : Int32) : (f_PT_isOtherStation u x = some 0 ∧ (x < 0 ∨ u.1 1 < x ∨ x = u.1 0)) ∨ (f_PT_isOtherStation u x = some 1 ∧ ∃ k, k ≤ m ∧ k ≠ o ∧ x = nI k) := by
  unfold f_PT_isOtherStation
  by_cases c0 : x < 0
  · exact Or.inl ⟨by rw [if_pos c0], Or.inl c0⟩
  · by_cases c1 : u.1 1 < x
    · exact Or.inl ⟨by rw [if_neg c0, if_pos c1], Or.inr (Or.inl c1)⟩
    · by_cases c2 : x = u.1 0
      · exact Or.inl ⟨by rw [if_neg c0, if_neg c1, if_pos c2], Or.inr (Or.inr c2)⟩
      · refine Or.inr ⟨by rw [if_neg c0, if_neg c1, if_neg c2], ?_⟩
        obtain ⟨k, hk, rfl⟩ := nI_of c0
        rw [h1] at c1
        rw [h0] at c2
        refine ⟨k, Nat.le_of_not_lt (fun q => c1 (nI_lt q hk)), fun e => c2 (by rw [e]), rfl⟩
theorem isByte_C (x : Int32) : (f_PT_isByte x = some 0 ∧ (x < 0 ∨ 255 < x)) ∨ (f_PT_isByte x = some 1 ∧ ¬ x < 0 ∧ ¬ 255 < x ∧ byt x) := by
  unfold f_PT_isByte
  by_cases c0 : x < 0
  · exact Or.inl ⟨by rw [if_pos c0], Or.inl c0⟩
  · by_cases c1 : 255 < x
    · exact Or.inl ⟨by rw [if_neg c0, if_pos c1], Or.inr c1⟩
    · refine Or.inr ⟨by rw [if_neg c0, if_neg c1], c0, c1, ?_⟩
      obtain ⟨k, hk, rfl⟩ := nI_of c0
      exact ⟨k, Nat.lt_of_not_le (fun q => c1 (nI_lt (a := 255) (by omega) hk)), rfl⟩
/-- the four bytes of a number -/
def by4 (N : Nat) (k : Nat) : Int32 := nI (N / 2 ^ (24 - 8 * k) % 256)
theorem by4_byt (N k : Nat) : byt (by4 N k) := ⟨_, Nat.mod_lt _ (by decide), rfl⟩
theorem u24 {N : Nat} (h : N < 2 ^ 32) : us (nI N) 24 = by4 N 0 := by
  unfold us
  rw [pk_ushrN h 24 24 (by decide)]
  unfold by4
  congr 1
  have : N / 2 ^ 24 < 256 := by omega
  exact (Nat.mod_eq_of_lt this).symm
theorem an255 {n : Nat} (h : n < 2 ^ 32) : nI n &&& 255 = nI (n % 256) := pk_andN h 8 (by decide)
theorem u24b {N : Nat} (h : N < 2 ^ 32) : us (nI N) 24 &&& 255 = by4 N 0 := by
  unfold us
  rw [pk_ushrN h 24 24 (by decide), an255 (by omega)]
  rfl
theorem u16 {N : Nat} (h : N < 2 ^ 32) : us (nI N) 16 &&& 255 = by4 N 1 := by
  unfold us
  rw [pk_ushrN h 16 16 (by decide), an255 (by omega)]
  rfl
theorem u8 {N : Nat} (h : N < 2 ^ 32) : us (nI N) 8 &&& 255 = by4 N 2 := by
  unfold us
  rw [pk_ushrN h 8 8 (by decide), an255 (by omega)]
  rfl
theorem u0 {N : Nat} (h : N < 2 ^ 32) : us (nI N) 0 &&& 255 = by4 N 3 := by
  unfold us
  rw [pk_ushrN h 0 0 (by decide), an255 (by omega)]
  rfl
theorem ua {N : Nat} (h : N < 2 ^ 32) : nI N &&& 255 = by4 N 3 := by
  rw [an255 h]
  unfold by4
  rw [show 2 ^ (24 - 8 * 3) = 1 from rfl, Nat.div_one]
theorem nI_or {a b : Nat} (ha : a < 2 ^ 32) (hb : b < 2 ^ 32) : nI a ||| nI b = nI (a ||| b) := by
  have hx : a ||| b < 2 ^ 32 := Nat.or_lt_two_pow ha hb
  apply Int32.toBitVec_inj.mp
  apply BitVec.eq_of_toNat_eq
  rw [Int32.toBitVec_or, BitVec.toNat_or, pk_tn ha, pk_tn hb, pk_tn hx]
theorem shl22 {a b : Nat} (ha : a < 1024) (hb : b < 2 ^ 22) : (nI a <<< (22 &&& 31)) ||| nI b = nI (a * 4194304 + b) := by
  rw [show ((22 : Int32) &&& 31) = 22 from by decide, pk_shlN 22 22 (by decide) (by omega), nI_or (by omega) (by omega)]
  congr 1
  rw [Nat.mul_comm, ← Nat.two_pow_add_eq_or_of_lt hb]
theorem mul22 (a b : Nat) : (nI a * 4194304) + nI b = nI (a * 4194304 + b) := by
  rw [show (4194304 : Int32) = nI 4194304 from rfl, pk_mul, nI_add]
def rqL (id pr : Int32) (N : Nat) : List Int32 := [1, 4, 0, 4, id, 12, 12, by4 N 0, by4 N 1, by4 N 2, by4 N 3, 25, pr]
theorem putI7 {u : ST} {N : Nat} (hN : N < 2 ^ 32) (M : List Int32) (h : u.1 27 = nI 0) (hM : M.length + 4 ≤ 13) : f_Row_putInt_7 (pL 2 27 u M) (nI N) = some (pL 2 27 u (M ++ [by4 N 0, by4 N 1, by4 N 2, by4 N 3])) := by
  have c1 : ∀ (M : List Int32), (pL 2 27 u M).1 27 = nI M.length := fun M => by rw [pL_c u M h, Nat.zero_add]
  have st : ∀ (M : List Int32) (b : Int32), M.length < 13 → f_Row_put_7 (pL 2 27 u M) b = some (pL 2 27 u (M ++ [b])) := fun M b hM => by rw [put7 b (c1 M) hM, pL_one, pL_app]
  unfold f_Row_putInt_7
  rw [u24 hN, u16 hN, u8 hN, ua hN, st _ _ (by omega), k_bd_s, st _ _ (by simp; omega), k_bd_s, st _ _ (by simp; omega), k_bd_s, st _ _ (by simp; omega), k_bd_s]
  simp only [List.append_assoc, List.cons_append, List.nil_append]
theorem askM {v : ST} {N : Nat} (hN : N < 2 ^ 32) (pr : Int32) : f_Mod_ask_L143 200 v pr (nI N) 0 = some (1, rs (rs (rs (rs (rs (rs v 5 7 (by4 N 0)) 5 8 (by4 N 1)) 5 9 (by4 N 2)) 5 10 (by4 N 3)) 5 11 25) 5 12 pr) := by
  have e7 : (7 + (0 : Int32)).toNatClampNeg = 7 := by decide
  have e8 : (7 + ((0 : Int32) + 1)).toNatClampNeg = 8 := by decide
  have e9 : (7 + ((0 : Int32) + 1 + 1)).toNatClampNeg = 9 := by decide
  have e10 : (7 + ((0 : Int32) + 1 + 1 + 1)).toNatClampNeg = 10 := by decide
  rw [f_Mod_ask_L143, if_neg (by decide), k_gd_t _ (by decide), k_let_s, e7, show (24 - 8 * (0 : Int32)) = 24 from by decide, u24b hN]
  rw [f_Mod_ask_L143, if_neg (by decide), k_gd_t _ (by decide), k_let_s, e8, show (24 - 8 * ((0 : Int32) + 1)) = 16 from by decide, u16 hN]
  rw [f_Mod_ask_L143, if_neg (by decide), k_gd_t _ (by decide), k_let_s, e9, show (24 - 8 * ((0 : Int32) + 1 + 1)) = 8 from by decide, u8 hN]
  rw [f_Mod_ask_L143, if_neg (by decide), k_gd_t _ (by decide), k_let_s, e10, show (24 - 8 * ((0 : Int32) + 1 + 1 + 1)) = 0 from by decide, u0 hN]
  rw [f_Mod_ask_L143, if_pos (by decide), k_gd_t _ (by decide), k_let_s, k_gd_t _ (by decide), k_let_s]
  rfl
theorem s_ask : ∀ (u v : ST) (x1 x2 x3 x4 x5 : Int32), Rl u v → ∃ q q2, f_PT_ask u x1 x2 x3 x4 x5 = some q ∧ f_Mod_ask v x1 x2 x3 x4 x5 = some q2 ∧ q.1 = q2.1 ∧ Rl q.2 q2.2 := by
  intro u v x1 x2 x3 x4 x5 h
  have h0 := h
  obtain ⟨n, ⟨b, rb, ro, rq, rr, rt, re⟩, rz, rx⟩ := h
  obtain ⟨o, m, a, b', t, s, r, g0, g1, g3, g4, g5, g9, g10, l1, l2, l3, l4, l5, l6, l7, l8⟩ := rb
  have b0 := b.1
  have b1 := b.2.1
  have no : ∀ (q q2 : Int32 × ST), q = (0, u) → q2 = (0, v) → q.1 = q2.1 ∧ Rl q.2 q2.2 := by
    rintro q q2 rfl rfl
    exact ⟨rfl, h0⟩
  unfold f_PT_ask f_Mod_ask
  rw [← b0, ← b1]
  rcases other_C g0 g1 l2 x1 with ⟨e, c⟩ | ⟨e, k, hk, ho, rfl⟩
  · refine ⟨(0, u), (0, v), by rw [e]; rfl, ?_, no _ _ rfl rfl⟩
    by_cases c0 : x1 < 0
    · rw [if_pos c0]
    · by_cases c1 : u.1 1 < x1
      · rw [if_neg c0, if_pos c1]
      · rw [if_neg c0, if_neg c1, if_pos ((c.resolve_left c0).resolve_left c1)]
  · have m0 : ¬ nI k < 0 := nI_pos (by omega)
    have m1 : ¬ u.1 1 < nI k := by rw [g1]; exact nI_nlt hk (by omega)
    have m2 : ¬ nI k = u.1 0 := by rw [g0]; exact fun q => ho ((nI_eq (by omega) (by omega)).mp q)
    rw [e, k_bd_s, if_neg (by decide), if_neg m0, if_neg m1, if_neg m2]
    rcases isByte_C x2 with ⟨e2, c⟩ | ⟨e2, c0, c1, y2⟩
    · refine ⟨(0, u), (0, v), by rw [e2]; rfl, ?_, no _ _ rfl rfl⟩
      by_cases c0 : x2 < 0
      · rw [if_pos c0]
      · rw [if_neg c0, if_pos (c.resolve_left c0)]
    · rw [e2, k_bd_s, if_neg (by decide), if_neg c0, if_neg c1]
      rcases isByte_C x5 with ⟨e5, d⟩ | ⟨e5, d0, d1, y5⟩
      · refine ⟨(0, u), (0, v), by rw [e5]; rfl, ?_, no _ _ rfl rfl⟩
        by_cases d0 : x5 < 0
        · rw [if_pos d0]
        · rw [if_neg d0, if_pos (d.resolve_left d0)]
      · rw [e5, k_bd_s, if_neg (by decide), if_neg d0, if_neg d1]
        by_cases z1 : x3 < 0
        · exact ⟨(0, u), (0, v), by rw [if_pos z1], by rw [if_pos z1], no _ _ rfl rfl⟩
        by_cases z2 : 1023 < x3
        · exact ⟨(0, u), (0, v), by rw [if_neg z1, if_pos z2], by rw [if_neg z1, if_pos z2], no _ _ rfl rfl⟩
        by_cases z3 : x4 < 0
        · exact ⟨(0, u), (0, v), by rw [if_neg z1, if_neg z2, if_pos z3], by rw [if_neg z1, if_neg z2, if_pos z3], no _ _ rfl rfl⟩
        by_cases z4 : x4 ≤ 4194303
        · obtain ⟨p, hp, rfl⟩ := nI_of z1
          obtain ⟨w, hw, rfl⟩ := nI_of z3
          have hp2 : p < 1024 := Nat.lt_of_not_le (fun q => z2 (nI_lt (a := 1023) (by omega) hp))
          have hw2 : w < 2 ^ 22 := Nat.lt_of_not_le (fun q => nI_ge (a := 4194303) (by omega) hw z4)
          have hN : p * 4194304 + w < 2 ^ 32 := by omega
          rw [if_neg z1, if_neg z2, if_neg z3, if_pos z4, if_neg z1, if_neg z2, if_neg z3, if_pos z4, shl22 hp2 hw2, mul22]
          generalize p * 4194304 + w = N at hN
          obtain ⟨u1, hu1⟩ : ∃ x, x = ss u 27 0 := ⟨_, rfl⟩
          have hc : u1.1 27 = nI 0 := by rw [hu1]; rfl
          have c1 : ∀ (M : List Int32), (pL 2 27 u1 M).1 27 = nI M.length := fun M => by rw [pL_c u1 M hc, Nat.zero_add]
          have st : ∀ (M : List Int32) (b : Int32), M.length < 13 → f_Row_put_7 (pL 2 27 u1 M) b = some (pL 2 27 u1 (M ++ [b])) := fun M b hM => by rw [put7 b (c1 M) hM, pL_one, pL_app]
          have cl : f_Row_clear_7 u = some (pL 2 27 u1 []) := by rw [hu1]; rfl
          rw [cl, k_bd_s, st _ _ (by simp), k_bd_s, st _ _ (by simp), k_bd_s, st _ _ (by simp), k_bd_s, st _ _ (by simp), k_bd_s, st _ _ (by simp), k_bd_s, st _ _ (by simp), k_bd_s, st _ _ (by simp), k_bd_s, putI7 hN _ hc (by simp), k_bd_s, st _ _ (by simp), k_bd_s, st _ _ (by simp), k_bd_s, k_let_s, k_let_s]
          rw [k_let_s, k_let_s, k_gd_t _ (by decide), k_let_s, k_gd_t _ (by decide), k_let_s, k_gd_t _ (by decide), k_let_s, k_gd_t _ (by decide), k_let_s, k_gd_t _ (by decide), k_let_s, k_gd_t _ (by decide), k_let_s, k_gd_t _ (by decide), k_let_s, askM hN]
          simp only [List.append_assoc, List.cons_append, List.nil_append]
          refine ⟨_, _, rfl, rfl, rfl, n, ?_, ?_, ?_⟩
          · have K1 : kp [27, 27, 10, 11] [2] u (ss (ss (pL 2 27 u1 [1, 4, 0, 4, x2, 12, 12, by4 N 0, by4 N 1, by4 N 2, by4 N 3, 25, x5]) 10 (nI k)) 11 1) := by
              rw [hu1]
              exact kp_tr (kp_tr (kp_tr (kp_ss _ _ _) (kp_pL _ _ _ _)) (kp_ss _ _ _)) (kp_ss _ _ _)
            generalize hv : rs (rs (rs (rs (rs (rs (rs (rs (rs (rs (rs (rs (rs (ss (ss v 22 1) 23 (nI k)) 5 (0 : Int32).toNatClampNeg 1) 5 (1 : Int32).toNatClampNeg 4) 5 (2 : Int32).toNatClampNeg 0) 5 (3 : Int32).toNatClampNeg 4) 5 (4 : Int32).toNatClampNeg x2) 5 (5 : Int32).toNatClampNeg 12) 5 (6 : Int32).toNatClampNeg 12) 5 7 (by4 N 0)) 5 8 (by4 N 1)) 5 9 (by4 N 2)) 5 10 (by4 N 3)) 5 11 25) 5 12 x5 = v1
            have K2 : kp [22, 23] [5] v v1 := by
              rw [← hv]
              refine kp_sub (kp_tr (kp_tr (kp_tr (kp_tr (kp_tr (kp_tr (kp_tr (kp_tr (kp_tr (kp_tr (kp_tr (kp_tr (kp_tr (kp_tr (kp_ss _ _ _) (kp_ss _ _ _)) (kp_rs _ _ _ _)) (kp_rs _ _ _ _)) (kp_rs _ _ _ _)) (kp_rs _ _ _ _)) (kp_rs _ _ _ _)) (kp_rs _ _ _ _)) (kp_rs _ _ _ _)) (kp_rs _ _ _ _)) (kp_rs _ _ _ _)) (kp_rs _ _ _ _)) (kp_rs _ _ _ _)) (kp_rs _ _ _ _)) (kp_rs _ _ _ _)) (by decide) (by decide)
            have w22 : v1.1 22 = 1 := by rw [← hv]; rfl
            have w23 : v1.1 23 = nI k := by rw [← hv]; rfl
            generalize hu : ss (ss (pL 2 27 u1 [1, 4, 0, 4, x2, 12, 12, by4 N 0, by4 N 1, by4 N 2, by4 N 3, 25, x5]) 10 (nI k)) 11 1 = u2 at K1
            have z10 : u2.1 10 = nI k := by rw [← hu]; rfl
            have z11 : u2.1 11 = 1 := by rw [← hu]; rfl
            have z27 : u2.1 27 = nI 13 := by
              rw [← hu, ss_n _ _ (by decide), ss_n _ _ (by decide), c1]; rfl
            refine ⟨?_, ?_, Ro_kp K1 K2 (by decide) (by decide) (by decide) (by decide) ro, Or.inr ⟨z27, ?_⟩, Rr_kp K1 K2 (by decide) (by decide) (by decide) (by decide) rr, Rt_kp K1 K2 (by decide) (by decide) rt, Re_kp K1 K2 (by decide) (by decide) (by decide) (by decide) re⟩
            · obtain ⟨p0, p1', p2, p3, p4, p5, p6, p7, p8, p9, p10, p11, p12⟩ := b
              exact ⟨by rw [K1.1 0 (by decide), K2.1 0 (by decide)]; exact p0, by rw [K1.1 1 (by decide), K2.1 1 (by decide)]; exact p1', by rw [K1.1 2 (by decide), K2.1 4 (by decide)]; exact p2, by rw [K1.1 3 (by decide), K2.1 5 (by decide)]; exact p3, by rw [K1.1 4 (by decide), K2.1 6 (by decide)]; exact p4, by rw [K1.1 5 (by decide), K2.1 7 (by decide)]; exact p5, by rw [K1.1 6 (by decide), K2.1 8 (by decide)]; exact p6, by rw [K1.1 7 (by decide), K2.1 9 (by decide)]; exact p7, by rw [K1.1 8 (by decide), K2.1 3 (by decide)]; exact p8, by rw [K1.1 9 (by decide), K2.1 2 (by decide)]; exact p9, by rw [z10, w23], by rw [z11, w22], by rw [K1.1 12 (by decide), K2.1 0 (by decide)]; exact p12⟩
            · exact ⟨o, m, a, b', t, s, k, by rw [K1.1 0 (by decide)]; exact g0, by rw [K1.1 1 (by decide)]; exact g1, by rw [K1.1 3 (by decide)]; exact g3, by rw [K1.1 4 (by decide)]; exact g4, by rw [K1.1 5 (by decide)]; exact g5, by rw [K1.1 9 (by decide)]; exact g9, z10, l1, l2, l3, l4, l5, l6, by omega, by rw [K1.1 26 (by decide)]; exact l8⟩
            · intro i hi
              have hL : ∀ (i : Nat) (x : Int32), ([1, 4, 0, 4, x2, 12, 12, by4 N 0, by4 N 1, by4 N 2, by4 N 3, 25, x5] : List Int32)[i]? = some x → u2.2 2 i = x := by
                intro i x hx
                have := pL_new (a := 2) u1 _ hc (by simp) hx
                rw [Nat.zero_add] at this
                rw [← hu]
                exact this
              have hV : ∀ (i : Nat) (x : Int32), ([1, 4, 0, 4, x2, 12, 12, by4 N 0, by4 N 1, by4 N 2, by4 N 3, 25, x5] : List Int32)[i]? = some x → v1.2 5 i = x ∧ byt x := by
                intro i x hx
                have hi : i < 13 := (List.getElem?_eq_some_iff.mp hx).1
                rw [← hv]
                rcases (show i = 0 ∨ i = 1 ∨ i = 2 ∨ i = 3 ∨ i = 4 ∨ i = 5 ∨ i = 6 ∨ i = 7 ∨ i = 8 ∨ i = 9 ∨ i = 10 ∨ i = 11 ∨ i = 12 by omega) with rfl | rfl | rfl | rfl | rfl | rfl | rfl | rfl | rfl | rfl | rfl | rfl | rfl
                · cases hx; exact ⟨rfl, 1, by decide, rfl⟩
                · cases hx; exact ⟨rfl, 4, by decide, rfl⟩
                · cases hx; exact ⟨rfl, 0, by decide, rfl⟩
                · cases hx; exact ⟨rfl, 4, by decide, rfl⟩
                · cases hx; exact ⟨rfl, y2⟩
                · cases hx; exact ⟨rfl, 12, by decide, rfl⟩
                · cases hx; exact ⟨rfl, 12, by decide, rfl⟩
                · cases hx; exact ⟨rfl, by4_byt _ _⟩
                · cases hx; exact ⟨rfl, by4_byt _ _⟩
                · cases hx; exact ⟨rfl, by4_byt _ _⟩
                · cases hx; exact ⟨rfl, by4_byt _ _⟩
                · cases hx; exact ⟨rfl, 25, by decide, rfl⟩
                · cases hx; exact ⟨rfl, y5⟩
              have hx := List.getElem?_eq_getElem (l := ([1, 4, 0, 4, x2, 12, 12, by4 N 0, by4 N 1, by4 N 2, by4 N 3, 25, x5] : List Int32)) (i := i) hi
              rw [hL i _ hx, (hV i _ hx).1]
              exact ⟨rfl, (hV i _ hx).2⟩
          · rw [hu1]
            exact rz
          · rw [hu1]
            exact rx
        · exact ⟨(0, u), (0, v), by rw [if_neg z1, if_neg z2, if_neg z3, if_neg z4], by rw [if_neg z1, if_neg z2, if_neg z3, if_neg z4], no _ _ rfl rfl⟩
