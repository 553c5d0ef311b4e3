/-! a write's value and rank -/
theorem w63 {v0 V U : ST} {k b : Nat} {D : Nat → Int32} (id rf pr ix kd vl : Int32) (h18 : v0.1 18 = nI 0) (hk : v0.1 13 = nI k) (h40 : k ≤ 40) (hD : ∀ i, i < k → D i = v0.2 1 i ∧ byt (D i)) (hb : b ≤ k) (hV : GM v0 V b) (hU : GC k D U b) :
    (∃ U1 X, f_Desk_takesWritten_J69 U = some (0, U1) ∧ kp [16, 24] [] U U1 ∧ BM v0 X ∧ f_Mod_makeAnswer_J233 V id rf pr ix kd vl 16 1 = some (pL 3 18 X [1, 0, 96, id, 4])) ∨
    (∃ U1 X a r, f_Desk_takesWritten_J69 U = some (1, U1) ∧ kp [16, 24] [] U U1 ∧ GC k D U1 a ∧ a ≤ k ∧ U1.1 24 = nI r ∧ 1 ≤ r ∧ r ≤ 16 ∧ GM v0 X a ∧ f_Mod_makeAnswer_J233 V id rf pr ix kd vl 16 1 = f_Mod_makeAnswer_J296 X id rf pr ix kd vl (nI r)) := by
  have hV1 : GM v0 (ss V 28 1) b := ⟨kp_cm hV.1 (kp_sub (kp_ss _ _ _) (by decide) (by decide)), rfl, by rw [ss_n _ _ (by decide)]; exact hV.2.2⟩
  by_cases P : b < k ∧ D b = 63
  · have P' : b < k ∧ v0.2 1 b = 63 := ⟨P.1, by rw [← (hD b P.1).1]; exact P.2⟩
    obtain ⟨V2, e2, g2⟩ := mex_g hV1 hk h40 P'.1 P'.2
    have c1 := cfo_g hU h40 (by omega) P.1 P.2
    have G1 : GC k D (ss U 16 (nI (b + 1))) (b + 1) := GC_mv hU (b + 1)
    have stM : f_Mod_makeAnswer_J233 V id rf pr ix kd vl 16 1 = k_bd (f_Mod_isNext V2 73) fun q29 => if q29 = 0 then f_Mod_makeAnswer_J296 V2 id rf pr ix kd vl 16 else k_let (ss V2 27 ((V2.1 27) + 1)) fun u31 => k_bd (f_Mod_take u31) fun q32 => if (q32.2.1 28) = 0 then f_Mod_makeAnswer_J292 q32.2 id rf pr ix kd vl q32.1 else if q32.1 < 1 then f_Mod_makeAnswer_J292 q32.2 id rf pr ix kd vl q32.1 else if 16 < q32.1 then f_Mod_makeAnswer_J292 q32.2 id rf pr ix kd vl q32.1 else f_Mod_makeAnswer_J293 q32.2 id rf pr ix kd vl q32.1 1 := by
      rw [f_Mod_makeAnswer_J233, k_gd_t _ (Or.inr rfl), k_let_s, e2, k_bd_s]
    have stC : f_Desk_takesWritten_J69 U = k_bd (f_Desk_follows (ss U 16 (nI (b + 1))) 73) fun q10 => if q10.1 = 0 then f_Desk_takesWritten_J99 q10.2 16 else k_bd (f_Desk_nextByte q10.2) fun q15 => f_Desk_takesWritten_J99 q15.2 q15.1 := by
      rw [f_Desk_takesWritten_J69, c1, k_bd_s, if_neg (show ¬ (1 : Int32) = 0 by decide)]
    by_cases R : b + 1 < k ∧ D (b + 1) = 73
    · have R' : b + 1 < k ∧ v0.2 1 (b + 1) = 73 := ⟨R.1, by rw [← (hD _ R.1).1]; exact R.2⟩
      have c2 := cfo_g G1 h40 (by omega) R.1 R.2
      have G2 : GC k D (ss (ss U 16 (nI (b + 1))) 16 (nI (b + 1 + 1))) (b + 1 + 1) := GC_mv G1 _
      have c3 := cby G2 h40 (by omega)
      obtain ⟨U2, hU2⟩ : ∃ x, x = ss (ss (ss U 16 (nI (b + 1))) 16 (nI (b + 1 + 1))) 16 (nI (b + 1 + 1 + 1)) := ⟨_, rfl⟩
      have K2 : kp [16] [] U U2 := by rw [hU2]; exact kp_sub (kp_tr (kp_tr (kp_ss _ _ _) (kp_ss _ _ _)) (kp_ss _ _ _)) (by decide) (by decide)
      have G3 : GC k D U2 (b + 1 + 1 + 1) := by rw [hU2]; exact GC_mv G2 _
      have stC2 : f_Desk_takesWritten_J69 U = f_Desk_takesWritten_J99 U2 (dv k D (b + 1 + 1)) := by
        rw [stC, c2, k_bd_s, if_neg (show ¬ (1 : Int32) = 0 by decide), c3, k_bd_s, hU2]
      have K24 : ∀ x : Int32, kp [16, 24] [] U (ss U2 24 x) := fun x => kp_sub (kp_tr K2 (kp_ss _ _ _)) (by decide) (by decide)
      have g2' := mstep g2
      have stM2 : f_Mod_makeAnswer_J233 V id rf pr ix kd vl 16 1 = k_bd (f_Mod_take (ss V2 27 ((V2.1 27) + 1))) fun q32 => if (q32.2.1 28) = 0 then f_Mod_makeAnswer_J292 q32.2 id rf pr ix kd vl q32.1 else if q32.1 < 1 then f_Mod_makeAnswer_J292 q32.2 id rf pr ix kd vl q32.1 else if 16 < q32.1 then f_Mod_makeAnswer_J292 q32.2 id rf pr ix kd vl q32.1 else f_Mod_makeAnswer_J293 q32.2 id rf pr ix kd vl q32.1 1 := by
        rw [stM, mnx_t g2 hk h40 R'.1 R'.2, k_bd_s, if_neg (by decide), k_let_s]
      have j292 : ∀ (Z : ST) (x : Int32), kp [27, 28] [] v0 Z → ∃ X, BM v0 X ∧ f_Mod_makeAnswer_J292 Z id rf pr ix kd vl x = some (pL 3 18 X [1, 0, 96, id, 4]) := by
        intro Z x hZ
        have hB : BM v0 (ss Z 28 0) := ⟨kp_cm hZ (kp_sub (kp_ss _ _ _) (by decide) (by decide)), rfl⟩
        obtain ⟨X, h3, e3⟩ := b296 hB h18 id rf pr ix kd vl x
        exact ⟨X, h3, by rw [f_Mod_makeAnswer_J292, f_Mod_makeAnswer_J293, k_gd_t _ (Or.inl rfl), k_let_s, e3]⟩
      by_cases Q : b + 1 + 1 < k
      · obtain ⟨V4, e4, g4⟩ := mtk_g g2' hk h40 Q
        have dr : dv k D (b + 1 + 1) = v0.2 1 (b + 1 + 1) := by rw [dv, if_pos Q, (hD _ Q).1]
        have br : byt (v0.2 1 (b + 1 + 1)) := by rw [← (hD _ Q).1]; exact (hD _ Q).2
        rw [e4, k_bd_s, if_neg (by rw [g4.2.1]; decide)] at stM2
        rw [dr, f_Desk_takesWritten_J99, k_let_s, ss_s] at stC2
        obtain ⟨X, h3, e3⟩ := j292 V4 (v0.2 1 (b + 1 + 1)) g4.1
        by_cases z1 : v0.2 1 (b + 1 + 1) < 1
        · rw [if_pos z1] at stM2 stC2
          exact Or.inl ⟨_, X, stC2, K24 _, h3, stM2.trans e3⟩
        rw [if_neg z1] at stM2 stC2
        by_cases z2 : 16 < v0.2 1 (b + 1 + 1)
        · rw [if_pos z2] at stM2 stC2
          exact Or.inl ⟨_, X, stC2, K24 _, h3, stM2.trans e3⟩
        rw [if_neg z2] at stM2 stC2
        obtain ⟨r, hr, er⟩ := br
        have r1 : 1 ≤ r := Nat.pos_of_ne_zero (fun q => z1 (by rw [er, q]; decide))
        have r2 : r ≤ 16 := Nat.le_of_not_lt (fun q => z2 (by rw [er]; exact nI_lt (a := 16) q (by omega)))
        have g5 : GM v0 (ss V4 28 1) (b + 1 + 1 + 1) := ⟨kp_cm g4.1 (kp_sub (kp_ss _ _ _) (by decide) (by decide)), rfl, by rw [ss_n _ _ (by decide)]; exact g4.2.2⟩
        refine Or.inr ⟨_, ss V4 28 1, b + 1 + 1 + 1, r, stC2, K24 _, GC_ss G3 _ (by decide) (by decide) (by decide), by omega, ?_, r1, r2, g5, ?_⟩
        · rw [ss_s, er]
        · rw [stM2, f_Mod_makeAnswer_J293, k_gd_t _ (Or.inr rfl), k_let_s, er]
      · obtain ⟨V4, e4, g4⟩ := mtk_b g2' hk h40 (by omega) (by omega)
        rw [e4, k_bd_s, if_pos g4.2] at stM2
        obtain ⟨X, h3, e3⟩ := j292 V4 0 g4.1
        have dr : dv k D (b + 1 + 1) = -1 := by rw [dv, if_neg Q]
        rw [dr, f_Desk_takesWritten_J99, k_let_s, ss_s, if_pos (by decide)] at stC2
        exact Or.inl ⟨_, X, stC2, K24 _, h3, stM2.trans e3⟩
    · have R' : ¬ (b + 1 < k ∧ v0.2 1 (b + 1) = 73) := fun q => R ⟨q.1, by rw [(hD _ q.1).1]; exact q.2⟩
      refine Or.inr ⟨ss (ss U 16 (nI (b + 1))) 24 16, V2, b + 1, 16, ?_, kp_tr (kp_ss _ _ _) (kp_ss _ _ _), GC_ss G1 _ (by decide) (by decide) (by decide), by omega, rfl, by decide, by decide, g2, ?_⟩
      · rw [stC, cfo_b G1 h40 (by omega) R (by decide), k_bd_s, if_pos rfl, f_Desk_takesWritten_J99, k_let_s, ss_s, if_neg (by decide), if_neg (by decide)]
      · rw [stM, mnx_f g2 hk h40 (by omega) R', k_bd_s, if_pos rfl]
        rfl
  · have P' : ¬ (b < k ∧ v0.2 1 b = 63) := fun q => P ⟨q.1, by rw [(hD b q.1).1]; exact q.2⟩
    obtain ⟨V2, e2, g2⟩ := mex_b hV1 hk h40 (by omega) P'
    obtain ⟨X, h3, e3⟩ := b296 g2 h18 id rf pr ix kd vl 16
    refine Or.inl ⟨U, X, ?_, kp_sub (kp_rf U) (by decide) (by decide), h3, ?_⟩
    · rw [f_Desk_takesWritten_J69, cfo_b hU h40 (by omega) P (by decide), k_bd_s, if_pos rfl]
    · rw [f_Mod_makeAnswer_J233, k_gd_t _ (Or.inr rfl), k_let_s, e2, k_bd_s, mnx_b g2, k_bd_s, if_pos rfl, e3]
theorem w63o {k b : Nat} {D : Nat → Int32} {U : ST} (h40 : k ≤ 40) (hb : k < b) (hb2 : b < 1000) (hU : GC k D U b) : f_Desk_takesWritten_J69 U = some (0, U) := by
  rw [f_Desk_takesWritten_J69, cfo_b (x := 63) hU h40 hb2 (fun q => by omega) (by decide), k_bd_s, if_pos rfl]
theorem written {v0 V U : ST} {k a : Nat} {D : Nat → Int32} (id rf pr ix : Int32) (h18 : v0.1 18 = nI 0) (hk : v0.1 13 = nI k) (h40 : k ≤ 40) (hD : ∀ i, i < k → D i = v0.2 1 i ∧ byt (D i)) (ha : a ≤ k) (hV : GM v0 V a) (hU : GC k D U a) :
    (∃ U1 X, f_Desk_takesWritten U = some (0, U1) ∧ kp [16, 22, 23, 24] [] U U1 ∧ BM v0 X ∧ f_Mod_makeAnswer_J140 V id 15 rf pr ix = some (pL 3 18 X [1, 0, 96, id, 4])) ∨
    (∃ U1 X a1 r kd vl, f_Desk_takesWritten U = some (1, U1) ∧ kp [16, 22, 23, 24] [] U U1 ∧ GC k D U1 a1 ∧ a1 ≤ k ∧ U1.1 22 = kd ∧ (kd = 0 ∨ (kd = 68 ∧ U1.1 23 = vl) ∨ (kd = 145 ∧ U1.1 23 = vl ∧ byt vl)) ∧ U1.1 24 = nI r ∧ 1 ≤ r ∧ r ≤ 16 ∧ GM v0 X a1 ∧ f_Mod_makeAnswer_J140 V id 15 rf pr ix = f_Mod_makeAnswer_J296 X id rf pr ix kd vl (nI r)) := by
  by_cases P : a < k ∧ D a = 62
  · have P' : a < k ∧ v0.2 1 a = 62 := ⟨P.1, by rw [← (hD a P.1).1]; exact P.2⟩
    obtain ⟨V1, e1, g1⟩ := mex_g hV hk h40 P'.1 P'.2
    have c1 := cfo_g hU h40 (by omega) P.1 P.2
    have G1 : GC k D (ss U 16 (nI (a + 1))) (a + 1) := GC_mv hU _
    have c2 := cby G1 h40 (by omega)
    obtain ⟨U2, hU2⟩ : ∃ x, x = ss (ss (ss U 16 (nI (a + 1))) 16 (nI (a + 1 + 1))) 22 (dv k D (a + 1)) := ⟨_, rfl⟩
    have G2 : GC k D U2 (a + 1 + 1) := by rw [hU2]; exact GC_ss (GC_mv G1 _) _ (by decide) (by decide) (by decide)
    have K2 : kp [16, 22] [] U U2 := by rw [hU2]; exact kp_sub (kp_tr (kp_tr (kp_ss _ _ _) (kp_ss _ _ _)) (kp_ss _ _ _)) (by decide) (by decide)
    have f22 : U2.1 22 = dv k D (a + 1) := by rw [hU2]; rfl
    have stC : f_Desk_takesWritten U = if (U2.1 22) = 68 then k_bd (f_Desk_nextInt U2) fun q18 => k_let (ss q18.2 23 q18.1) fun u19 => f_Desk_takesWritten_J69 u19 else if (U2.1 22) = 145 then k_bd (f_Desk_nextByte U2) fun q16 => k_let (ss q16.2 23 q16.1) fun u17 => f_Desk_takesWritten_J69 u17 else if (U2.1 22) = 0 then f_Desk_takesWritten_J69 U2 else some (0, U2) := by
      rw [f_Desk_takesWritten, c1, k_bd_s, if_neg (show ¬ (1 : Int32) = 0 by decide), c2, k_bd_s, k_let_s, hU2]
    have stM : f_Mod_makeAnswer_J140 V id 15 rf pr ix = k_bd (f_Mod_take V1) fun q22 => if q22.1 = 68 then k_bd (f_Mod_takeInt q22.2) fun q42 => f_Mod_makeAnswer_J198 q42.2 id rf pr ix q22.1 16 q42.1 else if q22.1 = 145 then k_bd (f_Mod_take q22.2) fun q41 => f_Mod_makeAnswer_J198 q41.2 id rf pr ix q22.1 16 q41.1 else f_Mod_makeAnswer_J198 q22.2 id rf pr ix q22.1 16 0 := by
      rw [f_Mod_makeAnswer_J140, if_pos rfl, e1, k_bd_s]
    rw [f22] at stC
    -- good so far: the rest of both
    have rest : ∀ {U3 V3 : ST} {b : Nat} (kd vl : Int32), b ≤ k → GM v0 V3 b → GC k D U3 b → kp [16, 22, 23] [] U U3 → U3.1 22 = kd → (kd = 0 ∨ (kd = 68 ∧ U3.1 23 = vl) ∨ (kd = 145 ∧ U3.1 23 = vl ∧ byt vl)) → f_Desk_takesWritten U = f_Desk_takesWritten_J69 U3 → f_Mod_makeAnswer_J140 V id 15 rf pr ix = f_Mod_makeAnswer_J198 V3 id rf pr ix kd 16 vl →
        (∃ U1 X, f_Desk_takesWritten U = some (0, U1) ∧ kp [16, 22, 23, 24] [] U U1 ∧ BM v0 X ∧ f_Mod_makeAnswer_J140 V id 15 rf pr ix = some (pL 3 18 X [1, 0, 96, id, 4])) ∨
        (∃ U1 X a1 r kd vl, f_Desk_takesWritten U = some (1, U1) ∧ kp [16, 22, 23, 24] [] U U1 ∧ GC k D U1 a1 ∧ a1 ≤ k ∧ U1.1 22 = kd ∧ (kd = 0 ∨ (kd = 68 ∧ U1.1 23 = vl) ∨ (kd = 145 ∧ U1.1 23 = vl ∧ byt vl)) ∧ U1.1 24 = nI r ∧ 1 ≤ r ∧ r ≤ 16 ∧ GM v0 X a1 ∧ f_Mod_makeAnswer_J140 V id 15 rf pr ix = f_Mod_makeAnswer_J296 X id rf pr ix kd vl (nI r)) := by
      intro U3 V3 b kd vl hb gV gU kU k22 kk z1 z2
      have z3 : f_Mod_makeAnswer_J198 V3 id rf pr ix kd 16 vl = f_Mod_makeAnswer_J233 V3 id rf pr ix kd vl 16 1 := by
        rw [f_Mod_makeAnswer_J198, if_neg (by rw [gV.2.1]; decide)]
        rcases kk with rfl | ⟨rfl, -⟩ | ⟨rfl, -⟩ <;> rfl
      rcases w63 id rf pr ix kd vl h18 hk h40 hD hb gV gU with ⟨U1, X, a1, a2, a3, a4⟩ | ⟨U1, X, a', r, a1, a2, a3, a4, a5, a6, a7, a8, a9⟩
      · exact Or.inl ⟨U1, X, z1.trans a1, kp_sub (kp_tr kU a2) (by decide) (by decide), a3, (z2.trans z3).trans a4⟩
      · refine Or.inr ⟨U1, X, a', r, kd, vl, z1.trans a1, kp_sub (kp_tr kU a2) (by decide) (by decide), a3, a4, ?_, ?_, a5, a6, a7, a8, (z2.trans z3).trans a9⟩
        · rw [a2.1 22 (by decide)]; exact k22
        · rw [a2.1 23 (by decide)]; exact kk
    by_cases Q : a + 1 < k
    · obtain ⟨V2, e2, g2⟩ := mtk_g g1 hk h40 Q
      have dm : dv k D (a + 1) = v0.2 1 (a + 1) := by rw [dv, if_pos Q, (hD _ Q).1]
      rw [e2, k_bd_s] at stM
      rw [dm] at stC f22
      by_cases m68 : v0.2 1 (a + 1) = 68
      · rw [if_pos m68, cint G2 h40 (by omega), k_bd_s, k_let_s] at stC
        rw [if_pos m68] at stM
        have G3 : GC k D (ss (ss U2 16 (nI (a + 1 + 1 + 4))) 23 (i4 (dv k D) (a + 1 + 1))) (a + 1 + 1 + 4) := GC_ss (GC_mv G2 _) _ (by decide) (by decide) (by decide)
        have K3 : kp [16, 22, 23] [] U (ss (ss U2 16 (nI (a + 1 + 1 + 4))) 23 (i4 (dv k D) (a + 1 + 1))) := kp_sub (kp_tr K2 (kp_tr (kp_ss _ _ _) (kp_ss _ _ _))) (by decide) (by decide)
        by_cases Q2 : a + 1 + 1 + 4 ≤ k
        · obtain ⟨V3, e3, g3⟩ := mint_g g2 hk h40 Q2
          rw [e3, k_bd_s] at stM
          have ev : i4 (dv k D) (a + 1 + 1) = i4 (v0.2 1) (a + 1 + 1) := by
            rw [i4_dv Q2]
            unfold i4
            rw [(hD (a + 1 + 1) (by omega)).1, (hD (a + 1 + 1 + 1) (by omega)).1, (hD (a + 1 + 1 + 2) (by omega)).1, (hD (a + 1 + 1 + 3) (by omega)).1]
          exact rest (v0.2 1 (a + 1)) (i4 (v0.2 1) (a + 1 + 1)) Q2 g3 G3 K3 f22 (Or.inr (Or.inl ⟨m68, ev⟩)) stC stM
        · obtain ⟨w, V3, e3, g3⟩ := mint_b g2 hk h40 Q2 (by omega)
          rw [e3, k_bd_s] at stM
          obtain ⟨X, h3, e3'⟩ := b198 g3 h18 id rf pr ix (v0.2 1 (a + 1)) 16 w
          exact Or.inl ⟨_, X, stC.trans (w63o h40 (by omega) (by omega) G3), kp_sub K3 (by decide) (by decide), h3, stM.trans e3'⟩
      rw [if_neg m68] at stC stM
      by_cases m145 : v0.2 1 (a + 1) = 145
      · rw [if_pos m145, cby G2 h40 (by omega), k_bd_s, k_let_s] at stC
        rw [if_pos m145] at stM
        have G3 : GC k D (ss (ss U2 16 (nI (a + 1 + 1 + 1))) 23 (dv k D (a + 1 + 1))) (a + 1 + 1 + 1) := GC_ss (GC_mv G2 _) _ (by decide) (by decide) (by decide)
        have K3 : kp [16, 22, 23] [] U (ss (ss U2 16 (nI (a + 1 + 1 + 1))) 23 (dv k D (a + 1 + 1))) := kp_sub (kp_tr K2 (kp_tr (kp_ss _ _ _) (kp_ss _ _ _))) (by decide) (by decide)
        by_cases Q2 : a + 1 + 1 < k
        · obtain ⟨V3, e3, g3⟩ := mtk_g g2 hk h40 Q2
          rw [e3, k_bd_s] at stM
          have ev : dv k D (a + 1 + 1) = v0.2 1 (a + 1 + 1) := by rw [dv, if_pos Q2, (hD _ Q2).1]
          have bv : byt (v0.2 1 (a + 1 + 1)) := by rw [← (hD _ Q2).1]; exact (hD _ Q2).2
          exact rest (v0.2 1 (a + 1)) (v0.2 1 (a + 1 + 1)) (by omega) g3 G3 K3 f22 (Or.inr (Or.inr ⟨m145, ev, bv⟩)) stC stM
        · obtain ⟨V3, e3, g3⟩ := mtk_b g2 hk h40 (by omega) (by omega)
          rw [e3, k_bd_s] at stM
          obtain ⟨X, h3, e3'⟩ := b198 g3 h18 id rf pr ix (v0.2 1 (a + 1)) 16 0
          exact Or.inl ⟨_, X, stC.trans (w63o h40 (by omega) (by omega) G3), kp_sub K3 (by decide) (by decide), h3, stM.trans e3'⟩
      rw [if_neg m145] at stC stM
      by_cases m0 : v0.2 1 (a + 1) = 0
      · rw [if_pos m0] at stC
        exact rest (v0.2 1 (a + 1)) 0 (by omega) g2 G2 (kp_sub K2 (by decide) (by decide)) f22 (Or.inl m0) stC stM
      · rw [if_neg m0] at stC
        obtain ⟨X, h3, e3'⟩ := b232 (Or.inr ⟨_, g2⟩) h18 id rf pr ix (v0.2 1 (a + 1)) 0 16
        refine Or.inl ⟨U2, X, stC, kp_sub K2 (by decide) (by decide), h3, ?_⟩
        rw [stM, f_Mod_makeAnswer_J198, if_neg (by rw [g2.2.1]; decide), if_neg m0, if_neg m68, if_neg m145, e3']
    · obtain ⟨V2, e2, g2⟩ := mtk_b g1 hk h40 (by omega) (by omega)
      have dm : dv k D (a + 1) = -1 := by rw [dv, if_neg Q]
      rw [e2, k_bd_s, if_neg (show ¬ (0 : Int32) = 68 by decide), if_neg (show ¬ (0 : Int32) = 145 by decide)] at stM
      rw [dm, if_neg (by decide), if_neg (by decide), if_neg (by decide)] at stC
      obtain ⟨X, h3, e3'⟩ := b198 g2 h18 id rf pr ix 0 16 0
      exact Or.inl ⟨U2, X, stC, kp_sub K2 (by decide) (by decide), h3, stM.trans e3'⟩
  · have P' : ¬ (a < k ∧ v0.2 1 a = 62) := fun q => P ⟨q.1, by rw [(hD a q.1).1]; exact q.2⟩
    obtain ⟨V1, e1, g1⟩ := mex_b hV hk h40 (by omega) P'
    obtain ⟨V2, e2, g2⟩ := mtk_bb g1
    obtain ⟨X, h3, e3'⟩ := b198 g2 h18 id rf pr ix 0 16 0
    refine Or.inl ⟨U, X, ?_, kp_sub (kp_rf U) (by decide) (by decide), h3, ?_⟩
    · rw [f_Desk_takesWritten, cfo_b hU h40 (by omega) P (by decide), k_bd_s, if_pos rfl]
    · rw [f_Mod_makeAnswer_J140, if_pos rfl, e1, k_bd_s, e2, k_bd_s, if_neg (show ¬ (0 : Int32) = 68 by decide), if_neg (show ¬ (0 : Int32) = 145 by decide), e3']
