/-! a request: taken apart on both sides -/
section BAD
variable {v0 V : ST}
theorem b296 (h : BM v0 V) (h18 : v0.1 18 = nI 0) (id a b c d e f : Int32) : ∃ X, BM v0 X ∧ f_Mod_makeAnswer_J296 V id a b c d e f = some (pL 3 18 X [1, 0, 96, id, 4]) := by
  refine ⟨V, h, ?_⟩
  rw [f_Mod_makeAnswer_J296, if_pos h.2, rej (by rw [h.1.1 18 (by decide)]; exact h18), k_bd_s]
theorem b233 (h : BM v0 V) (h18 : v0.1 18 = nI 0) (id a b c d e f : Int32) : ∃ X, BM v0 X ∧ f_Mod_makeAnswer_J233 V id a b c d e f 0 = some (pL 3 18 X [1, 0, 96, id, 4]) := by
  have h1 : BM v0 (ss V 28 0) := ⟨kp_cm h.1 (kp_sub (kp_ss _ _ _) (by decide) (by decide)), rfl⟩
  obtain ⟨W, e1, h2⟩ := mex_bb h1 63
  obtain ⟨X, h3, e3⟩ := b296 h2 h18 id a b c d e f
  refine ⟨X, h3, ?_⟩
  rw [f_Mod_makeAnswer_J233, k_gd_t _ (Or.inl rfl), k_let_s, e1, k_bd_s, mnx_b h2, k_bd_s, if_pos rfl, e3]
theorem b232 (h : BM v0 V ∨ ∃ a, GM v0 V a) (h18 : v0.1 18 = nI 0) (id a b c d e f : Int32) : ∃ X, BM v0 X ∧ f_Mod_makeAnswer_J232 V id a b c d e f = some (pL 3 18 X [1, 0, 96, id, 4]) := by
  have h0 : kp [27, 28] [] v0 V := by
    rcases h with h | ⟨_, h⟩
    · exact h.1
    · exact h.1
  have h1 : BM v0 (ss V 28 0) := ⟨kp_cm h0 (kp_sub (kp_ss _ _ _) (by decide) (by decide)), rfl⟩
  obtain ⟨W, e1, h2⟩ := mex_bb h1 63
  obtain ⟨X, h3, e3⟩ := b296 h2 h18 id a b c d e f
  refine ⟨X, h3, ?_⟩
  rw [f_Mod_makeAnswer_J232, f_Mod_makeAnswer_J233, k_gd_t _ (Or.inl rfl), k_let_s, e1, k_bd_s, mnx_b h2, k_bd_s, if_pos rfl, e3]
theorem b198 (h : BM v0 V) (h18 : v0.1 18 = nI 0) (id a b c d e f : Int32) : ∃ X, BM v0 X ∧ f_Mod_makeAnswer_J198 V id a b c d e f = some (pL 3 18 X [1, 0, 96, id, 4]) := by
  obtain ⟨X, h3, e3⟩ := b232 (Or.inl h) h18 id a b c d f e
  exact ⟨X, h3, by rw [f_Mod_makeAnswer_J198, if_pos h.2, e3]⟩
theorem b140 (h : BM v0 V) (h18 : v0.1 18 = nI 0) (id sv a b c : Int32) : ∃ X, BM v0 X ∧ f_Mod_makeAnswer_J140 V id sv a b c = some (pL 3 18 X [1, 0, 96, id, 4]) := by
  by_cases s : sv = 15
  · obtain ⟨W1, e1, h1⟩ := mex_bb h 62
    obtain ⟨W2, e2, h2⟩ := mtk_bb h1
    obtain ⟨X, h3, e3⟩ := b198 h2 h18 id a b c 0 16 0
    exact ⟨X, h3, by rw [f_Mod_makeAnswer_J140, if_pos s, e1, k_bd_s, e2, k_bd_s, if_neg (show ¬ (0 : Int32) = 68 by decide), if_neg (show ¬ (0 : Int32) = 145 by decide), e3]⟩
  · obtain ⟨X, h3, e3⟩ := b296 h h18 id a b c (-1) 0 16
    exact ⟨X, h3, by rw [f_Mod_makeAnswer_J140, if_neg s, e3]⟩
/-- behind a fault in the place -/
def J78t (q9 : ST) (y1 y2 : Int32) : Option ST := k_bd (f_Mod_takeInt q9) fun q10 => k_bd (f_Mod_expect q10.2 25) fun q11 => k_bd (f_Mod_take q11) fun q12 => k_bd (f_Mod_isNext q12.2 41) fun q13 => if q13 = 0 then f_Mod_makeAnswer_J140 q12.2 y1 y2 q10.1 q12.1 (-1) else k_let (ss q12.2 27 ((q12.2.1 27) + 1)) fun u43 => k_bd (f_Mod_take u43) fun q44 => f_Mod_makeAnswer_J140 q44.2 y1 y2 q10.1 q12.1 q44.1
theorem b78c {W : ST} {w : Int32} (h : BM v0 V) (h18 : v0.1 18 = nI 0) (id sv : Int32) : ∃ X, BM v0 X ∧ (k_bd (f_Mod_take V) fun q12 => k_bd (f_Mod_isNext q12.2 41) fun q13 => if q13 = 0 then f_Mod_makeAnswer_J140 q12.2 id sv w q12.1 (-1) else k_let (ss q12.2 27 ((q12.2.1 27) + 1)) fun u43 => k_bd (f_Mod_take u43) fun q44 => f_Mod_makeAnswer_J140 q44.2 id sv w q12.1 q44.1) = some (pL 3 18 X [1, 0, 96, id, 4]) := by
  obtain ⟨W2, e2, h2⟩ := mtk_bb h
  obtain ⟨X, h3, e3⟩ := b140 h2 h18 id sv w 0 (-1)
  exact ⟨X, h3, by rw [e2, k_bd_s, mnx_b h2, k_bd_s, if_pos rfl, e3]⟩
theorem b78b (h : BM v0 V) (h18 : v0.1 18 = nI 0) (id sv : Int32) : ∃ X, BM v0 X ∧ J78t V id sv = some (pL 3 18 X [1, 0, 96, id, 4]) := by
  obtain ⟨w, W1, e1, h1⟩ := mint_bb h
  obtain ⟨W2, e2, h2⟩ := mex_bb h1 25
  obtain ⟨X, h3, e3⟩ := b78c (W := V) (w := w) h2 h18 id sv
  exact ⟨X, h3, by rw [J78t, e1, k_bd_s, e2, k_bd_s, e3]⟩
end BAD
/-- the place: class and reference -/
theorem place {v0 V U : ST} {k : Nat} {D : Nat → Int32} {id sv : Int32} (h18 : v0.1 18 = nI 0) (hk : v0.1 13 = nI k) (h40 : k ≤ 40) (hD : ∀ i, i < k → D i = v0.2 1 i ∧ byt (D i)) (hV : GM v0 V 6) (hU : GC k D U 6) :
    (∃ U1 X, f_Desk_takesPlace U = some (0, U1) ∧ kp [16, 19, 20, 21] [] U U1 ∧ BM v0 X ∧ (k_bd (f_Mod_expect V 12) fun q9 => J78t q9 id sv) = some (pL 3 18 X [1, 0, 96, id, 4])) ∨
    (∃ U1 X a, f_Desk_takesPlace U = some (1, U1) ∧ kp [16, 19, 20, 21] [] U U1 ∧ GC k D U1 a ∧ k < a ∧ a < 100 ∧ BM v0 X ∧ (k_bd (f_Mod_expect V 12) fun q9 => J78t q9 id sv) = some (pL 3 18 X [1, 0, 96, id, 4])) ∨
    (∃ U1 X a rf pr ix, f_Desk_takesPlace U = some (1, U1) ∧ kp [16, 19, 20, 21] [] U U1 ∧ GC k D U1 a ∧ a ≤ k ∧ U1.1 19 = rf ∧ U1.1 20 = pr ∧ U1.1 21 = ix ∧ byt pr ∧ (ix = -1 ∨ byt ix) ∧ GM v0 X a ∧ (k_bd (f_Mod_expect V 12) fun q9 => J78t q9 id sv) = f_Mod_makeAnswer_J140 X id sv rf pr ix) := by
  by_cases P1 : 6 < k ∧ D 6 = 12
  · have P1' : 6 < k ∧ v0.2 1 6 = 12 := ⟨P1.1, by rw [← (hD 6 P1.1).1]; exact P1.2⟩
    obtain ⟨V1, e1, g1⟩ := mex_g hV hk h40 P1'.1 P1'.2
    have c1 := cfo_g hU h40 (by decide) P1.1 P1.2
    have U7 : GC k D (ss U 16 (nI 7)) 7 := GC_mv hU 7
    have c2 := cint U7 h40 (by decide)
    obtain ⟨U8, hU8⟩ : ∃ x, x = ss (ss (ss U 16 (nI 7)) 16 (nI 11)) 19 (i4 (dv k D) 7) := ⟨_, rfl⟩
    have G8 : GC k D U8 11 := by rw [hU8]; exact GC_ss (GC_mv U7 11) _ (by decide) (by decide) (by decide)
    have K8 : kp [16, 16, 19] [] U U8 := by rw [hU8]; exact kp_tr (kp_tr (kp_ss _ _ _) (kp_ss _ _ _)) (kp_ss _ _ _)
    have start : f_Desk_takesPlace U = k_bd (f_Desk_follows U8 25) fun q5 => if q5.1 = 0 then some (0, q5.2) else k_bd (f_Desk_nextByte q5.2) fun q7 => k_let (ss q7.2 20 q7.1) fun u8 => k_bd (f_Desk_follows u8 41) fun q9 => if q9.1 = 0 then k_let (ss q9.2 21 (-1)) fun u11 => some (1, u11) else k_bd (f_Desk_nextByte q9.2) fun q12 => k_let (ss q12.2 21 q12.1) fun u13 => some (1, u13) := by
      rw [f_Desk_takesPlace, c1, k_bd_s, if_neg (show ¬ (1 : Int32) = 0 by decide), c2, k_bd_s, k_let_s, hU8]
    by_cases P3 : 11 < k ∧ D 11 = 25
    · have P3' : 11 < k ∧ v0.2 1 11 = 25 := ⟨P3.1, by rw [← (hD 11 P3.1).1]; exact P3.2⟩
      obtain ⟨V2, e2, g2⟩ := mint_g g1 hk h40 (by omega)
      obtain ⟨V3, e3, g3⟩ := mex_g g2 hk h40 P3'.1 P3'.2
      have c3 := cfo_g G8 h40 (by decide) P3.1 P3.2
      have U12 : GC k D (ss U8 16 (nI 12)) 12 := GC_mv G8 12
      have c4 := cby U12 h40 (by decide)
      obtain ⟨U13, hU13⟩ : ∃ x, x = ss (ss (ss U8 16 (nI 12)) 16 (nI 13)) 20 (dv k D 12) := ⟨_, rfl⟩
      have G13 : GC k D U13 13 := by rw [hU13]; exact GC_ss (GC_mv U12 13) _ (by decide) (by decide) (by decide)
      have K13 : kp [16, 16, 19, 16, 16, 20] [] U U13 := by rw [hU13]; exact kp_tr K8 (kp_tr (kp_tr (kp_ss _ _ _) (kp_ss _ _ _)) (kp_ss _ _ _))
      have f19 : U13.1 19 = i4 (dv k D) 7 := by rw [hU13, hU8]; rfl
      have f20 : U13.1 20 = dv k D 12 := by rw [hU13]; rfl
      have st2 : f_Desk_takesPlace U = k_bd (f_Desk_follows U13 41) fun q9 => if q9.1 = 0 then k_let (ss q9.2 21 (-1)) fun u11 => some (1, u11) else k_bd (f_Desk_nextByte q9.2) fun q12 => k_let (ss q12.2 21 q12.1) fun u13 => some (1, u13) := by
        rw [start, c3, k_bd_s, if_neg (show ¬ (1 : Int32) = 0 by decide), c4, k_bd_s, k_let_s, hU13]
      have stM : (k_bd (f_Mod_expect V 12) fun q9 => J78t q9 id sv) = k_bd (f_Mod_take V3) fun q12 => k_bd (f_Mod_isNext q12.2 41) fun q13 => if q13 = 0 then f_Mod_makeAnswer_J140 q12.2 id sv (i4 (v0.2 1) 7) q12.1 (-1) else k_let (ss q12.2 27 ((q12.2.1 27) + 1)) fun u43 => k_bd (f_Mod_take u43) fun q44 => f_Mod_makeAnswer_J140 q44.2 id sv (i4 (v0.2 1) 7) q12.1 q44.1 := by
        rw [e1, k_bd_s, J78t, e2, k_bd_s, e3, k_bd_s]
      have erf : i4 (dv k D) 7 = i4 (v0.2 1) 7 := by
        rw [i4_dv (by omega)]
        unfold i4
        rw [(hD 7 (by omega)).1, (hD (7 + 1) (by omega)).1, (hD (7 + 2) (by omega)).1, (hD (7 + 3) (by omega)).1]
      by_cases P4 : 12 < k
      · obtain ⟨V4, e4, g4⟩ := mtk_g g3 hk h40 P4
        have d12 : dv k D 12 = D 12 := by rw [dv, if_pos P4]
        by_cases PX : 13 < k ∧ D 13 = 41
        · have PX' : 13 < k ∧ v0.2 1 13 = 41 := ⟨PX.1, by rw [← (hD 13 PX.1).1]; exact PX.2⟩
          have c5 := cfo_g G13 h40 (by decide) PX.1 PX.2
          have U14 : GC k D (ss U13 16 (nI 14)) 14 := GC_mv G13 14
          have c6 := cby U14 h40 (by decide)
          obtain ⟨U15, hU15⟩ : ∃ x, x = ss (ss (ss U13 16 (nI 14)) 16 (nI 15)) 21 (dv k D 14) := ⟨_, rfl⟩
          have G15 : GC k D U15 15 := by rw [hU15]; exact GC_ss (GC_mv U14 15) _ (by decide) (by decide) (by decide)
          have K15 : kp [16, 19, 20, 21] [] U U15 := by rw [hU15]; exact kp_sub (kp_tr K13 (kp_tr (kp_tr (kp_ss _ _ _) (kp_ss _ _ _)) (kp_ss _ _ _))) (by decide) (by decide)
          have done : f_Desk_takesPlace U = some (1, U15) := by
            rw [st2, c5, k_bd_s, if_neg (show ¬ (1 : Int32) = 0 by decide), c6, k_bd_s, k_let_s, hU15]
          have g4' := mstep g4
          have mM : (k_bd (f_Mod_expect V 12) fun q9 => J78t q9 id sv) = k_bd (f_Mod_take (ss V4 27 (V4.1 27 + 1))) fun q44 => f_Mod_makeAnswer_J140 q44.2 id sv (i4 (v0.2 1) 7) (v0.2 1 12) q44.1 := by
            rw [stM, e4, k_bd_s, mnx_t g4 hk h40 PX'.1 PX'.2, k_bd_s, if_neg (by decide), k_let_s]
          by_cases P14 : 14 < k
          · obtain ⟨V5, e5, g5⟩ := mtk_g g4' hk h40 P14
            have d14 : dv k D 14 = D 14 := by rw [dv, if_pos P14]
            refine Or.inr (Or.inr ⟨U15, V5, 15, i4 (v0.2 1) 7, v0.2 1 12, v0.2 1 14, done, K15, G15, by omega, ?_, ?_, ?_, ?_, Or.inr ?_, g5, ?_⟩)
            · rw [hU15]; exact f19.trans erf
            · rw [hU15]; exact f20.trans (d12.trans (hD 12 P4).1)
            · rw [hU15]; exact d14.trans (hD 14 P14).1
            · rw [← (hD 12 P4).1]; exact (hD 12 P4).2
            · rw [← (hD 14 P14).1]; exact (hD 14 P14).2
            · rw [mM, e5, k_bd_s]
          · obtain ⟨V5, e5, g5⟩ := mtk_b g4' hk h40 (by omega) (by decide)
            obtain ⟨X, h3, e3'⟩ := b140 g5 h18 id sv (i4 (v0.2 1) 7) (v0.2 1 12) 0
            exact Or.inr (Or.inl ⟨U15, X, 15, done, K15, G15, by omega, by decide, h3, by rw [mM, e5, k_bd_s, e3']⟩)
        · have PX' : ¬ (13 < k ∧ v0.2 1 13 = 41) := fun q => PX ⟨q.1, by rw [(hD 13 q.1).1]; exact q.2⟩
          have c5 := cfo_b G13 h40 (by decide) PX (by decide)
          refine Or.inr (Or.inr ⟨ss U13 21 (-1), V4, 13, i4 (v0.2 1) 7, v0.2 1 12, -1, ?_, kp_sub (kp_tr K13 (kp_ss _ _ _)) (by decide) (by decide), GC_ss G13 _ (by decide) (by decide) (by decide), by omega, f19.trans erf, f20.trans (d12.trans (hD 12 P4).1), rfl, ?_, Or.inl rfl, g4, ?_⟩)
          · rw [st2, c5, k_bd_s, if_pos rfl, k_let_s]
          · rw [← (hD 12 P4).1]; exact (hD 12 P4).2
          · rw [stM, e4, k_bd_s, mnx_f g4 hk h40 (by decide) PX', k_bd_s, if_pos rfl]
      · obtain ⟨V4, e4, g4⟩ := mtk_b g3 hk h40 (by omega) (by decide)
        have c5 := cfo_b (x := 41) G13 h40 (by decide) (fun q => by omega) (by decide)
        obtain ⟨X, h3, e3'⟩ := b140 g4 h18 id sv (i4 (v0.2 1) 7) 0 (-1)
        refine Or.inr (Or.inl ⟨ss U13 21 (-1), X, 13, ?_, kp_sub (kp_tr K13 (kp_ss _ _ _)) (by decide) (by decide), GC_ss G13 _ (by decide) (by decide) (by decide), by omega, by decide, h3, ?_⟩)
        · rw [st2, c5, k_bd_s, if_pos rfl, k_let_s]
        · rw [stM, e4, k_bd_s, mnx_b g4, k_bd_s, if_pos rfl, e3']
    · have P3' : ¬ (11 < k ∧ v0.2 1 11 = 25) := fun q => P3 ⟨q.1, by rw [(hD 11 q.1).1]; exact q.2⟩
      have c3 := cfo_b G8 h40 (by decide) P3 (by decide)
      have hb : ∃ w W, f_Mod_takeInt V1 = some (w, W) ∧ ∃ W2, f_Mod_expect W 25 = some W2 ∧ BM v0 W2 := by
        by_cases q : 7 + 4 ≤ k
        · obtain ⟨V2, e2, g2⟩ := mint_g g1 hk h40 q
          exact ⟨_, V2, e2, mex_b g2 hk h40 (by decide) P3'⟩
        · obtain ⟨w, V2, e2, g2⟩ := mint_b g1 hk h40 q (by decide)
          exact ⟨w, V2, e2, mex_bb g2 25⟩
      obtain ⟨w, V2, e2, V3, e3, g3⟩ := hb
      obtain ⟨X, h3, e3'⟩ := b78c (W := V) (w := w) g3 h18 id sv
      refine Or.inl ⟨U8, X, ?_, kp_sub K8 (by decide) (by decide), h3, ?_⟩
      · rw [start, c3, k_bd_s, if_pos rfl]
      · rw [e1, k_bd_s, J78t, e2, k_bd_s, e3, k_bd_s, e3']
  · have P1' : ¬ (6 < k ∧ v0.2 1 6 = 12) := fun q => P1 ⟨q.1, by rw [(hD 6 q.1).1]; exact q.2⟩
    obtain ⟨V1, e1, g1⟩ := mex_b hV hk h40 (by decide) P1'
    obtain ⟨X, h3, e3⟩ := b78b g1 h18 id sv
    refine Or.inl ⟨U, X, ?_, kp_sub (kp_rf U) (by decide) (by decide), h3, ?_⟩
    · rw [f_Desk_takesPlace, cfo_b hU h40 (by decide) P1 (by decide), k_bd_s, if_pos rfl]
    · rw [e1, k_bd_s, e3]
