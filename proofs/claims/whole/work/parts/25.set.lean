/-! set -/
theorem give_C (u : ST) {j : Nat} (hj : j < 4) (r : Nat) (hr : r ≤ 16) (x : Int32) : f_Thing_give u j (nI r) x = some (if j < 2 ∨ isz x then (1, rs (rs u (7 + 2 * j) r x) (8 + 2 * j) r 1) else (0, u)) := by
  unfold f_Thing_give
  rw [if_neg (nI_pos (by omega)), if_neg (show ¬ (16 : Int32) < nI r from nI_nlt (a := 16) hr (by decide)), takes_C u hj, k_bd_s]
  by_cases c : j < 2 ∨ isz x
  · rw [if_pos c, if_neg (by decide), k_gd_t _ (inbN (by omega) (by decide)), k_let_s, k_gd_t _ (inbN (by omega) (by decide)), k_let_s, nI_clamp (by omega), if_pos c]
  · rw [if_neg c, if_pos rfl, if_neg c]
theorem take_C (u : ST) (j : Nat) (r : Nat) (h0 : 1 ≤ r) (hr : r ≤ 16) : f_Thing_takeAway u j (nI r) = some (1, rs u (8 + 2 * j) r 0) := by
  unfold f_Thing_takeAway
  rw [if_neg (show ¬ nI r < (1 : Int32) from nI_nlt (b := 1) h0 (by omega)), if_pos (show nI r ≤ (16 : Int32) from nI_le (b := 16) hr (by decide)), k_gd_t _ (inbN (by omega) (by decide)), k_let_s, nI_clamp (by omega)]
theorem set_M {v : ST} {j r : Nat} (hj : j < 4) (hr : r ≤ 16) (x n : Int32) : f_Mod_set_J49 v (nI j) (nI r) x n = some (1, rs (rs v 6 (17 * j + r) x) 7 (17 * j + r) (if n = 0 then 1 else 0)) := by
  unfold f_Mod_set_J49
  rw [n17, k_gd_t _ (inbN (by omega) (by decide)), k_let_s, k_gd_t _ (inbN (by omega) (by decide)), k_gd_t _ (inbN (by omega) (by decide)), k_let_s, k_let_s, nI_clamp (by omega)]
  by_cases c : n = 0
  · rw [if_pos c, if_pos c]
  · rw [if_neg c, if_neg c]
theorem RM_things {n : Nat} {u v u1 v1 : ST} {F F2 : List Nat} (h : RM n u v) (k1 : kp [] F u u1) (k2 : kp [] F2 v v1) (hF : ∀ j ∈ [0, 2, 3, 4, 5], j ∉ F) (hF2 : ∀ j ∈ [0, 1, 2, 4, 5], j ∉ F2) (ht : Rt u1 v1) : RM n u1 v1 := by
  obtain ⟨b, rb, ro, rq, rr, rt, re⟩ := h
  have n0 : ∀ j : Nat, j ∉ ([] : List Nat) := fun _ h => by cases h
  refine ⟨?_, Rb_kp k1 (fun j _ => n0 j) rb, Ro_kp k1 k2 (fun j _ => n0 j) (fun j hj => hF j (by rcases List.mem_singleton.mp hj with rfl; decide)) (fun j _ => n0 j) (fun j hj => hF2 j (by rcases List.mem_singleton.mp hj with rfl; decide)) ro,
    Rq_kp k1 k2 (fun j _ => n0 j) (fun j hj => hF j (by rcases List.mem_singleton.mp hj with rfl; decide)) (fun j hj => hF2 j (by rcases List.mem_singleton.mp hj with rfl; decide)) rq,
    Rr_kp k1 k2 (fun j _ => n0 j) (fun j hj => hF j (by rcases List.mem_singleton.mp hj with rfl; decide)) (fun j _ => n0 j) (fun j hj => hF2 j (by rcases List.mem_singleton.mp hj with rfl; decide)) rr, ht,
    Re_kp k1 k2 (fun j _ => n0 j) (fun j hj => hF j (by simp at hj; rcases hj with rfl | rfl <;> decide)) (fun j _ => n0 j) (fun j hj => hF2 j (by simp at hj; rcases hj with rfl | rfl <;> decide)) re⟩
  unfold Bs at *
  simp only [k1.1 _ (n0 _), k2.1 _ (n0 _)]
  exact b
theorem s_set : ∀ (u v : ST) (x1 x2 x3 x4 : Int32) (hz : isz x4), Rl u v → ∃ q q2, f_PT_set u x1 x2 x3 x4 = some q ∧ f_Mod_set v x1 x2 x3 x4 = some q2 ∧ q.1 = q2.1 ∧ Rl q.2 q2.2 := by
  intro u v x1 x2 x3 x4 hz h
  have no : ∀ (q q2 : Int32 × ST), q = (0, u) → q2 = (0, v) → q.1 = q2.1 ∧ Rl q.2 q2.2 := by
    rintro q q2 rfl rfl
    exact ⟨rfl, h⟩
  unfold f_PT_set f_Desk_thing f_Mod_set
  rcases pk_ix x1 (n := 4) (by decide) with c | c | ⟨j, hj, rfl⟩
  · refine ⟨(0, u), (0, v), by rw [if_pos c]; rfl, by rw [if_pos c], no _ _ rfl rfl⟩
  · have c2 : (4 : Int32) ≤ x1 := c
    have c3 : (3 : Int32) < x1 := Int32.lt_of_lt_of_le (by decide) c2
    have c0 : ¬ x1 < 0 := fun q => Int32.lt_irrefl (Int32.lt_of_lt_of_le (Int32.lt_of_lt_of_le q (by decide)) c2)
    refine ⟨(0, u), (0, v), by rw [if_neg c0, if_pos c2]; rfl, by rw [if_neg c0, if_pos c3], no _ _ rfl rfl⟩
  · have c1 : ¬ nI j < 0 := nI_pos (by omega)
    have c2 : ¬ (4 : Int32) ≤ nI j := nI_ge (b := 4) hj (by decide)
    have c3 : ¬ nI j = -1 := fun e => c1 (by rw [e]; decide)
    have c4 : ¬ (3 : Int32) < nI j := nI_nlt (a := 3) (by omega) (by decide)
    rw [if_neg c1, if_neg c2, k_gd_t _ (inbN hj (by decide)), k_bd_s, if_neg c3, k_gd_t _ (inbN hj (by decide)), nI_clamp (by omega), if_neg c1, if_neg c4]
    rcases pk_ix x2 (n := 17) (by decide) with d | d | ⟨r, hr, rfl⟩
    · refine ⟨(0, u), (0, v), ?_, by rw [if_pos d], no _ _ rfl rfl⟩
      by_cases z : x4 = 0
      · rw [if_pos z, f_Thing_give, if_pos d]; rfl
      · have d1 : x2 < 1 := Int32.lt_trans d (by decide)
        rw [if_neg z, f_Thing_takeAway, if_pos d1]; rfl
    · have d2 : (17 : Int32) ≤ x2 := d
      have d3 : (16 : Int32) < x2 := Int32.lt_of_lt_of_le (by decide) d2
      have d0 : ¬ x2 < 0 := fun q => Int32.lt_irrefl (Int32.lt_of_lt_of_le (Int32.lt_of_lt_of_le q (by decide)) d2)
      refine ⟨(0, u), (0, v), ?_, by rw [if_neg d0, if_pos d3], no _ _ rfl rfl⟩
      by_cases z : x4 = 0
      · rw [if_pos z, f_Thing_give, if_neg d0, if_pos d3]; rfl
      · have d1 : ¬ x2 < 1 := fun q => Int32.lt_irrefl (Int32.lt_of_lt_of_le (Int32.lt_of_lt_of_le q (by decide)) d2)
        have d5 : ¬ x2 ≤ 16 := fun q => Int32.lt_irrefl (Int32.lt_of_le_of_lt q d3)
        rw [if_neg z, f_Thing_takeAway, if_neg d1, if_neg d5]; rfl
    · have d1 : ¬ nI r < 0 := nI_pos (by omega)
      have d2 : ¬ (16 : Int32) < nI r := nI_nlt (a := 16) (by omega) (by decide)
      rw [if_neg d1, if_neg d2]
      obtain ⟨n, hM, hz1, hx1⟩ := h
      have ht : Rt u v := hM.2.2.2.2.2.1
      by_cases z : x4 = 0
      · rw [if_pos z, if_pos z, give_C u hj r (by omega)]
        have m1 : f_Mod_set_J28 v (nI j) (nI r) x3 x4 = some (if j < 2 ∨ isz x3 then (1, rs (rs v 6 (17 * j + r) x3) 7 (17 * j + r) 1) else (0, v)) := by
          unfold f_Mod_set_J28
          rw [if_pos z, set_M hj (by omega), if_pos z]
          by_cases e : j < 2
          · rw [if_pos (show nI j ≤ (1 : Int32) from nI_le (b := 1) (by omega) (by decide)), if_pos (Or.inl e)]
          · rw [if_neg (show ¬ nI j ≤ (1 : Int32) from nI_ge (a := 1) (by omega) (by omega))]
            by_cases e0 : x3 = 0
            · rw [if_pos e0, if_pos (Or.inr (Or.inl e0))]
            · by_cases e1 : x3 = 1
              · rw [if_neg e0, if_pos e1, if_pos (Or.inr (Or.inr e1))]
              · rw [if_neg e0, if_neg e1, if_neg]
                rintro (h | h | h)
                · exact e h
                · exact e0 h
                · exact e1 h
        by_cases g : j < 2 ∨ isz x3
        · rw [if_pos g] at m1 ⊢
          refine ⟨(1, rs (rs u (7 + 2 * j) r x3) (8 + 2 * j) r 1), (1, rs (rs v 6 (17 * j + r) x3) 7 (17 * j + r) 1), by rw [k_bd_s, k_gd_t _ (Or.inr rfl)], ?_, rfl, n, ?_, hz1, hx1⟩
          · rw [m1]
            by_cases e : nI r = 0
            · rw [if_pos e]
            · rw [if_neg e]
          · refine RM_things hM (kp_tr (kp_rs _ _ _ _) (kp_rs _ _ _ _)) (kp_tr (kp_rs _ _ _ _) (kp_rs _ _ _ _)) (fun k hk => ?_) (fun k hk => ?_) (Rt_give ht hj (by omega) (fun h2 => g.resolve_left (by omega)) (fun _ => rfl))
            · simp at hk ⊢; omega
            · simp at hk ⊢; omega
        · rw [if_neg g] at m1 ⊢
          refine ⟨(0, u), (0, v), by rw [k_bd_s, k_gd_t _ (Or.inl rfl)], ?_, rfl, n, hM, hz1, hx1⟩
          rw [m1]
          by_cases e : nI r = 0
          · rw [if_pos e]
          · rw [if_neg e]
      · rw [if_neg z, if_neg z]
        by_cases r0 : r = 0
        · subst r0
          refine ⟨(0, u), (0, v), by rw [f_Thing_takeAway, if_pos (by decide)]; rfl, by rw [if_pos (show nI 0 = 0 from rfl)], rfl, n, hM, hz1, hx1⟩
        · rw [take_C u j r (by omega) (by omega), if_neg (show ¬ nI r = 0 from nI_ne0 (by omega) (by omega))]
          refine ⟨(1, rs u (8 + 2 * j) r 0), (1, rs (rs v 6 (17 * j + r) x3) 7 (17 * j + r) 0), by rw [k_bd_s, k_gd_t _ (Or.inr rfl)], ?_, rfl, n, ?_, hz1, hx1⟩
          · rw [f_Mod_set_J28, if_neg z, set_M hj (by omega), if_neg z]
          · refine RM_things hM (kp_rs _ _ _ _) (kp_tr (kp_rs _ _ _ _) (kp_rs _ _ _ _)) (fun k hk => ?_) (fun k hk => ?_) (Rt_take ht hj (by omega) (by omega) x3)
            · simp at hk ⊢; omega
            · simp at hk ⊢; omega
