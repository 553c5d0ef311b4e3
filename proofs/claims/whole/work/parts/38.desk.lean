/-! a request that is well formed -/
theorem wf_write {W X : ST} {j r : Nat} {id pr ix kd vl : Int32} (hj : j < 4) (hr1 : 1 ≤ r) (hr2 : r ≤ 16) (ht : Rt W X) (hW : W.1 31 = nI 0) (hX : X.1 18 = nI 0) (h17 : W.1 17 = id) (h33 : W.1 33 = nI j) (h24 : W.1 24 = nI r) (hq : RQ W pr ix kd vl) (h18 : W.1 18 = 15) (hn : nof j pr ix kd vl) : ∃ W1 X1, (k_bd (f_Desk_write W) fun q11 => k_bd (f_Desk_begin q11 32 15) fun q12 => some q12) = some (pL 6 31 W1 [1, 0, 32, id, 15]) ∧ (if pr = 85 then f_Mod_answerTo_J119 X id kd vl (nI r) (17 * nI j) else f_Mod_answerTo_J119 X id kd vl 0 (17 * nI j)) = some (pL 3 18 X1 [1, 0, 32, id, 15]) ∧ W1.1 31 = nI 0 ∧ X1.1 18 = nI 0 ∧ kp [] [7, 8, 9, 10, 11, 12, 13, 14] W W1 ∧ kp [] [6, 7] X X1 ∧ Rt W1 X1 := by
  obtain ⟨r20, r21, rp, ri, rr⟩ := hq
  obtain ⟨q22, q⟩ : W.1 22 = kd ∧ (kd = 0 ∨ (kd = 68 ∧ W.1 23 = vl) ∨ (kd = 145 ∧ W.1 23 = vl ∧ byt vl)) := by
    rcases rr with ⟨a, -⟩ | ⟨-, a, b⟩
    · rw [a] at h18; exact absurd h18 (by decide)
    · exact ⟨a, b⟩
  have kn : ¬ kd = -1 := by
    rcases q with rfl | ⟨rfl, -⟩ | ⟨rfl, -⟩ <;> decide
  obtain ⟨n1, n2⟩ := hn.2.2.2 kn
  have hin : inb (W.1 33) 4 := inbE h33 hj (by decide)
  have hcl : (W.1 33).toNatClampNeg = j := by rw [h33, nI_clamp (by omega)]
  have fin : ∀ (W1 X1 : ST), kp [] [7, 8, 9, 10, 11, 12, 13, 14] W W1 → kp [] [6, 7] X X1 → Rt W1 X1 → f_Desk_write W = some W1 → (if pr = 85 then f_Mod_answerTo_J119 X id kd vl (nI r) (17 * nI j) else f_Mod_answerTo_J119 X id kd vl 0 (17 * nI j)) = (k_bd (f_Mod_add X1 1) fun q11 => k_bd (f_Mod_add q11 0) fun q12 => k_bd (f_Mod_add q12 32) fun q13 => k_bd (f_Mod_add q13 id) fun q14 => k_bd (f_Mod_add q14 15) fun q15 => some q15) → ∃ W1 X1, (k_bd (f_Desk_write W) fun q11 => k_bd (f_Desk_begin q11 32 15) fun q12 => some q12) = some (pL 6 31 W1 [1, 0, 32, id, 15]) ∧ (if pr = 85 then f_Mod_answerTo_J119 X id kd vl (nI r) (17 * nI j) else f_Mod_answerTo_J119 X id kd vl 0 (17 * nI j)) = some (pL 3 18 X1 [1, 0, 32, id, 15]) ∧ W1.1 31 = nI 0 ∧ X1.1 18 = nI 0 ∧ kp [] [7, 8, 9, 10, 11, 12, 13, 14] W W1 ∧ kp [] [6, 7] X X1 ∧ Rt W1 X1 := by
    intro W1 X1 k1 k2 t1 e1 e2
    have n0 : ∀ i : Nat, i ∉ ([] : List Nat) := fun _ h => by cases h
    have hW1 : W1.1 31 = nI 0 := (k1.1 31 (n0 _)).trans hW
    have hX1 : X1.1 18 = nI 0 := (k2.1 18 (n0 _)).trans hX
    refine ⟨W1, X1, ?_, ?_, hW1, hX1, k1, k2, t1⟩
    · rw [e1, k_bd_s, bg0 hW1, k_bd_s, k1.1 17 (n0 _), h17]
    · rw [e2, ← pL_nil 3 18 X1, am hX1 [] _ (by simp), k_bd_s, am hX1 _ _ (by simp), k_bd_s, am hX1 _ _ (by simp), k_bd_s, am hX1 _ _ (by simp), k_bd_s, am hX1 _ _ (by simp), k_bd_s]
      rfl
  -- the place
  have J : ∀ (p : Nat) (x : Int32), p ≤ 16 → x = nI p → f_Mod_answerTo_J119 X id kd vl x (17 * nI j) = (k_bd (f_Mod_add (rs (rs X 6 (17 * j + p) vl) 7 (17 * j + p) (if kd ≤ 0 then 0 else 1)) 1) fun q11 => k_bd (f_Mod_add q11 0) fun q12 => k_bd (f_Mod_add q12 32) fun q13 => k_bd (f_Mod_add q13 id) fun q14 => k_bd (f_Mod_add q14 15) fun q15 => some q15) := by
    intro p x hp ex
    subst ex
    unfold f_Mod_answerTo_J119 f_Mod_answerTo_J147
    rw [n17, k_gd_t _ (inbN (by omega) (by decide)), k_let_s]
    by_cases c : kd ≤ 0
    · rw [if_pos c, if_pos c, k_gd_t _ (Or.inl rfl), k_gd_t _ (inbN (by omega) (by decide)), k_let_s, nI_clamp (by omega)]
    · rw [if_neg c, if_neg c, k_gd_t _ (Or.inr rfl), k_gd_t _ (inbN (by omega) (by decide)), k_let_s, nI_clamp (by omega)]
  have kX : ∀ (p : Nat) (g : Int32), kp [] [6, 7] X (rs (rs X 6 (17 * j + p) vl) 7 (17 * j + p) g) := fun p g => kp_sub (kp_tr (kp_rs _ _ _ _) (kp_rs _ _ _ _)) (by decide) (by decide)
  have kW : ∀ (p : Nat), kp [] [7, 8, 9, 10, 11, 12, 13, 14] W (rs (rs W (7 + 2 * j) p vl) (8 + 2 * j) p 1) := fun p => kp_sub (kp_tr (kp_rs _ _ _ _) (kp_rs _ _ _ _)) (by decide) (fun i hi => by simp at hi ⊢; omega)
  by_cases c0 : kd = 0
  · have c85 : pr = 85 := by
      rcases n2 with ⟨-, a⟩ | ⟨a, -⟩ | ⟨a, -⟩
      · exact a
      · rw [c0] at a; exact absurd a (by decide)
      · rw [c0] at a; exact absurd a (by decide)
    have htk : f_Thing_takeAway W (W.1 33).toNatClampNeg (W.1 24) = some (1, rs W (8 + 2 * j) r 0) := by rw [hcl, h24]; exact take_C W j r hr1 hr2
    refine fin (rs W (8 + 2 * j) r 0) (rs (rs X 6 (17 * j + r) vl) 7 (17 * j + r) 0) (kp_sub (kp_rs _ _ _ _) (by decide) (fun i hi => by simp at hi ⊢; omega)) (kX r 0) (Rt_take ht hj hr1 hr2 vl) ?_ ?_
    · rw [f_Desk_write, q22, if_pos c0, k_gd_t _ hin, htk, k_bd_s]
    · rw [if_pos c85, J r (nI r) hr2 rfl, if_pos (by rw [c0]; decide)]
  · have hv : W.1 23 = vl ∧ (j < 2 ∨ isz vl) ∧ ¬ kd ≤ 0 ∧ (2 ≤ j → isz vl) := by
      rcases q with a | ⟨a, b⟩ | ⟨a, b, -⟩
      · exact absurd a c0
      · rcases n2 with ⟨d, -⟩ | ⟨-, d⟩ | ⟨d, -⟩
        · exact absurd d c0
        · exact ⟨b, Or.inl d, by rw [a]; decide, fun h => by omega⟩
        · rw [a] at d; exact absurd d (by decide)
      · rcases n2 with ⟨d, -⟩ | ⟨d, -⟩ | ⟨-, d1, d2⟩
        · exact absurd d c0
        · rw [a] at d; exact absurd d (by decide)
        · exact ⟨b, Or.inr d2, by rw [a]; decide, fun _ => d2⟩
    obtain ⟨v1, v2, v3, v4⟩ := hv
    rcases n1 with c85 | c104
    · have hg : f_Thing_give W (W.1 33).toNatClampNeg (W.1 24) (W.1 23) = some (1, rs (rs W (7 + 2 * j) r vl) (8 + 2 * j) r 1) := by rw [hcl, h24, v1, give_C W hj r hr2, if_pos v2]
      refine fin _ _ (kW r) (kX r 1) (Rt_give ht hj hr2 v4 (fun _ => rfl)) ?_ ?_
      · rw [f_Desk_write, q22, if_neg c0, k_gd_t _ hin, r20, if_neg (by rw [c85]; decide), hg, k_bd_s]
      · rw [if_pos c85, J r (nI r) hr2 rfl, if_neg v3]
    · have hg : f_Thing_give W (W.1 33).toNatClampNeg 0 (W.1 23) = some (1, rs (rs W (7 + 2 * j) 0 vl) (8 + 2 * j) 0 1) := by
        rw [hcl, v1, show (0 : Int32) = nI 0 from rfl, give_C W hj 0 (by decide), if_pos v2]
      refine fin _ _ (kW 0) (kX 0 1) (Rt_give ht hj (by decide) v4 (fun q => absurd q (by decide))) ?_ ?_
      · rw [f_Desk_write, q22, if_neg c0, k_gd_t _ hin, r20, if_pos c104, hg, k_bd_s]
      · rw [if_neg (by rw [c104]; decide), J 0 0 (by decide) rfl, if_neg v3]
/-- what both sides come to with a request -/
def DR (W X : ST) (cu mv : Option ST) : Prop := ∃ W1 X1 L, cu = some (pL 6 31 W1 L) ∧ mv = some (pL 3 18 X1 L) ∧ W1.1 31 = nI 0 ∧ X1.1 18 = nI 0 ∧ L.length ≤ 32 ∧ (∀ x ∈ L, byt x) ∧ kp [33] [7, 8, 9, 10, 11, 12, 13, 14] W W1 ∧ kp [] [6, 7] X X1 ∧ Rt W1 X1
theorem well {W X : ST} {r : Nat} {id rf pr ix kd vl : Int32} (hr1 : 1 ≤ r) (hr2 : r ≤ 16) (ht : Rt W X) (hW : W.1 31 = nI 0) (hX : X.1 18 = nI 0) (h17 : W.1 17 = id) (h19 : W.1 19 = rf) (h24 : W.1 18 = 15 → W.1 24 = nI r) (bid : byt id) (hq : RQ W pr ix kd vl) (hv : kd = -1 → vl = 0) : DR W X (f_Desk_answerWellFormed W) (f_Mod_answerTo X id rf pr ix kd vl (nI r)) := by
  have n0 : ∀ i : Nat, i ∉ ([] : List Nat) := fun _ h => by cases h
  obtain ⟨W2, hW2⟩ : ∃ x, x = ss W 33 (tc rf) := ⟨_, rfl⟩
  have k2 : kp [33] [] W W2 := by rw [hW2]; exact kp_ss _ _ _
  have w33 : W2.1 33 = tc rf := by rw [hW2]; rfl
  have w31 : W2.1 31 = nI 0 := by rw [k2.1 31 (by decide)]; exact hW
  have w17 : W2.1 17 = id := by rw [k2.1 17 (by decide)]; exact h17
  have w18 : W2.1 18 = W.1 18 := k2.1 18 (by decide)
  have q2 : RQ W2 pr ix kd vl := by
    unfold RQ at *
    rw [k2.1 20 (by decide), k2.1 21 (by decide), k2.1 18 (by decide), k2.1 22 (by decide), k2.1 23 (by decide)]
    exact hq
  have t2 : Rt W2 X := Rt_kp k2 (kp_rf X) (by decide) (by decide) ht
  have bsv : byt (W2.1 18) ∧ (0 ≤ kd → W2.1 18 = 15) ∧ (¬ 0 ≤ kd → W2.1 18 = 12 ∧ kd = -1) := by
    rw [w18]
    rcases hq.2.2.2.2 with ⟨a, b⟩ | ⟨a, -, b⟩
    · exact ⟨by rw [a]; exact ⟨12, by decide, rfl⟩, fun q => by rw [b] at q; exact absurd q (by decide), fun _ => ⟨a, b⟩⟩
    · refine ⟨by rw [a]; exact ⟨15, by decide, rfl⟩, fun _ => a, fun q => ?_⟩
      rcases b with rfl | ⟨rfl, -⟩ | ⟨rfl, -⟩ <;> exact absurd (by decide) q
  unfold f_Desk_answerWellFormed f_Mod_answerTo
  rw [h19, tcC, k_bd_s, k_let_s, ← hW2, tcM, k_bd_s]
  -- an answer that tells a fault
  have flr : ∀ f e : Int32, flt f e → ¬ f = 0 → f_Desk_fault W2 = some f → f_Mod_wrong (tc rf) pr ix kd vl = some e → DR W X (k_bd (f_Desk_fault W2) fun q3 => if q3 = 0 then (if (W2.1 18) = 15 then k_bd (f_Desk_write W2) fun q11 => k_bd (f_Desk_begin q11 32 15) fun q12 => some q12 else k_bd (f_Desk_begin W2 48 12) fun q6 => k_bd (f_Desk_tellPlace q6) fun q7 => k_bd (f_Row_put_15 q7 62) fun q8 => k_bd (f_Desk_tellProperty q8) fun q9 => k_bd (f_Row_put_15 q9 63) fun q10 => some q10) else k_bd (f_Desk_begin W2 80 (W2.1 18)) fun q13 => k_bd (f_Row_put_15 q13 145) fun q14 => k_bd (f_Row_put_15 q14 (q3 / 256)) fun q15 => k_bd (f_Row_put_15 q15 145) fun q16 => k_bd (f_Row_put_15 q16 (q3 - q3 / 256 * 256)) fun q17 => some q17) (k_bd (f_Mod_wrong (tc rf) pr ix kd vl) fun q2 => if q2 ≤ 0 then (if kd < 0 then k_bd (f_Mod_tell X id (tc rf) rf pr ix) fun q5 => some q5 else if pr = 85 then f_Mod_answerTo_J119 X id kd vl (nI r) (17 * (tc rf)) else f_Mod_answerTo_J119 X id kd vl 0 (17 * (tc rf))) else k_bd (f_Mod_add X 1) fun q16 => k_bd (f_Mod_add q16 0) fun q17 => k_bd (f_Mod_add q17 80) fun q18 => k_bd (f_Mod_add q18 id) fun q19 => if 0 ≤ kd then f_Mod_answerTo_J59 q19 q2 15 else f_Mod_answerTo_J59 q19 q2 12) := by
    intro f e hfe hf0 e1 e2
    rcases hfe with ⟨a, -⟩ | ⟨-, a1, a2, a3, a4, a5⟩
    · exact absurd a hf0
    refine ⟨W2, X, [1, 0, 80, id, W2.1 18, 145, f / 256, 145, f - f / 256 * 256], ?_, ?_, w31, hX, by simp, ?_, kp_sub k2 (by decide) (by decide), kp_sub (kp_rf X) (by decide) (by decide), t2⟩
    · rw [e1, k_bd_s, if_neg hf0, bg0 w31, k_bd_s, ap15 w31 _ _ (by simp), k_bd_s, ap15 w31 _ _ (by simp), k_bd_s, ap15 w31 _ _ (by simp), k_bd_s, ap15 w31 _ _ (by simp), k_bd_s, w17]
      rfl
    · have J : ∀ sv : Int32, f_Mod_answerTo_J59 (pL 3 18 X [1, 0, 80, id]) e sv = some (pL 3 18 X [1, 0, 80, id, sv, 145, e / 100, 145, e - e / 100 * 100]) := by
        intro sv
        rw [f_Mod_answerTo_J59, am hX _ _ (by simp), k_bd_s, am hX _ _ (by simp), k_bd_s, am hX _ _ (by simp), k_bd_s, am hX _ _ (by simp), k_bd_s, am hX _ _ (by simp), k_bd_s]
        rfl
      rw [e2, k_bd_s, if_neg a1, ← pL_nil 3 18 X, am hX [] _ (by simp), k_bd_s, am hX _ _ (by simp), k_bd_s, am hX _ _ (by simp), k_bd_s, am hX _ _ (by simp), k_bd_s]
      simp only [List.nil_append, List.cons_append, pL_nil]
      rw [J 15, J 12, ← a3, ← a2]
      by_cases c : 0 ≤ kd
      · rw [if_pos c, bsv.2.1 c]
      · rw [if_neg c, (bsv.2.2 c).1]
    · intro x hx
      simp only [List.mem_cons, List.not_mem_nil, or_false] at hx
      rcases hx with rfl | rfl | rfl | rfl | rfl | rfl | rfl | rfl | rfl
      · exact ⟨1, by decide, rfl⟩
      · exact ⟨0, by decide, rfl⟩
      · exact ⟨80, by decide, rfl⟩
      · exact bid
      · exact bsv.1
      · exact ⟨145, by decide, rfl⟩
      · exact a4
      · exact ⟨145, by decide, rfl⟩
      · exact a5
  rcases tc_num rf with c | ⟨j, hj, c⟩
  · refine flr 287 131 flt131 (by decide) ?_ ?_
    · rw [f_Desk_fault, w33, if_pos c]
    · rw [f_Mod_wrong, c, if_neg (by decide)]
  · obtain ⟨f, e, g1, g2, g3, g4⟩ := fault_eq hj (w33.trans c) q2
    rw [← c] at g2
    by_cases hf0 : f = 0
    · have he0 : e = 0 := by
        rcases g3 with ⟨-, a⟩ | ⟨a, -⟩
        · exact a
        · exact absurd hf0 a
      have hn := g4 hf0
      rw [g1, k_bd_s, if_pos hf0, g2, k_bd_s, if_pos (show e ≤ 0 by rw [he0]; decide), c]
      by_cases ck : 0 ≤ kd
      · have s15 := bsv.2.1 ck
        obtain ⟨W1, X1, a1, a2, a3, a4, a5, a6, a7⟩ := wf_write hj hr1 hr2 t2 w31 hX w17 (w33.trans c) (by rw [k2.1 24 (by decide)]; exact h24 (by rw [← w18]; exact s15)) q2 s15 hn
        rw [if_pos s15, if_neg (Int32.not_lt.mpr ck), a1, a2]
        refine ⟨W1, X1, _, rfl, rfl, a3, a4, by simp, ?_, kp_sub (kp_tr k2 a5) (by decide) (by decide), a6, a7⟩
        intro x hx
        simp only [List.mem_cons, List.not_mem_nil, or_false] at hx
        rcases hx with rfl | rfl | rfl | rfl | rfl
        · exact ⟨1, by decide, rfl⟩
        · exact ⟨0, by decide, rfl⟩
        · exact ⟨32, by decide, rfl⟩
        · exact bid
        · exact ⟨15, by decide, rfl⟩
      · obtain ⟨s12, kd1⟩ := bsv.2.2 ck
        have v0 := hv kd1
        subst kd1
        subst v0
        obtain ⟨L, a1, a2, a3, a4⟩ := wf_read (id := id) (rf := rf) hj t2 w31 hX w17 (by rw [k2.1 19 (by decide)]; exact h19) (w33.trans c) q2.1 q2.2.1 bid q2.2.2.1 q2.2.2.2.1 hn
        rw [if_neg (by rw [s12]; decide), if_pos (by decide), a1, a2]
        exact ⟨W2, X, L, rfl, rfl, w31, hX, a3, a4, kp_sub k2 (by decide) (by decide), kp_sub (kp_rf X) (by decide) (by decide), t2⟩
    · exact flr f e g3 hf0 g1 g2
