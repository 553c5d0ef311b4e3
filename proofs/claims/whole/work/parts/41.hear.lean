/-! waiting, polling: a frame was heard; hear -/
theorem rp9 : ∀ (r e i : Nat) (u : ST), r < e → u.1 30 = nI (i + r) → i + r ≤ 40 → u.1 28 = nI i → f_Row_putAll_9_13_L2 e u (nI i) = some (pL 3 28 u (tkd (u.2 5) i r)) := by
  intro r
  induction r with
  | zero =>
    intro e i u he h1 h2 h3
    obtain ⟨e, rfl⟩ : ∃ e', e = e' + 1 := ⟨e - 1, by omega⟩
    rw [f_Row_putAll_9_13_L2, if_pos (show u.1 30 ≤ nI i by rw [h1]; exact nI_le (by omega) (by omega))]
    rfl
  | succ r ih =>
    intro e i u he h1 h2 h3
    obtain ⟨e, rfl⟩ : ∃ e', e = e' + 1 := ⟨e - 1, by omega⟩
    rw [f_Row_putAll_9_13_L2, if_neg (show ¬ u.1 30 ≤ nI i by rw [h1]; exact nI_ge (by omega) (by omega)), k_gd_t _ (inbN (by omega) (by decide)), put9 _ h3 (by omega), k_bd_s, nI_1, nI_clamp (by omega)]
    rw [ih e (i + 1) (p1 3 28 u (u.2 5 i)) (by omega) (by rw [p1_n _ _ (by decide), h1]; congr 1; omega) (by omega) (by rw [p1_c, h3, nI_1])]
    rw [p1_m _ _ (by decide)]
    rfl
theorem rpM : ∀ (r e i k : Nat) (w : ST) (y : Int32), r < e → i + r = k → k ≤ 40 → w.1 13 = nI k → f_Mod_awaits_L43 e w y (nI i) = f_Mod_awaits_J77 (ss (cpy 4 1 w i r) 20 (nI k)) y := by
  intro r
  induction r with
  | zero =>
    intro e i k w y he hi hk h
    obtain ⟨e, rfl⟩ : ∃ e', e = e' + 1 := ⟨e - 1, by omega⟩
    rw [f_Mod_awaits_L43, if_pos (show w.1 13 ≤ nI i by rw [h]; exact nI_le (by omega) (by omega)), h]
    rfl
  | succ r ih =>
    intro e i k w y he hi hk h
    obtain ⟨e, rfl⟩ : ∃ e', e = e' + 1 := ⟨e - 1, by omega⟩
    rw [f_Mod_awaits_L43, if_neg (show ¬ w.1 13 ≤ nI i by rw [h]; exact nI_ge (by omega) (by omega)), k_gd_t _ (inbN (by omega) (by decide)), k_gd_t _ (inbN (by omega) (by decide)), k_let_s, nI_1, nI_clamp (by omega), ih e (i + 1) k (rs w 4 i (w.2 1 i)) y (by omega) (by omega) hk h]
    rfl
theorem awJ (w : ST) : f_Mod_awaits_J77 w 1 = some (1, ss w 4 (if w.2 0 0 = 6 ∨ w.2 0 0 = 4 ∨ w.2 0 0 = 7 then 3 else 0)) := by
  show (if (1 : Int32) = 0 then _ else k_gd (inb 0 6) (if w.2 0 0 = 6 then k_let (ss w 4 3) fun u11 => some (1, u11) else k_gd (inb 0 6) (if w.2 0 0 = 4 then k_let (ss w 4 3) fun u13 => some (1, u13) else k_gd (inb 0 6) (if w.2 0 0 = 7 then k_let (ss w 4 3) fun u16 => some (1, u16) else k_let (ss w 4 0) fun u15 => some (1, u15))))) = _
  rw [if_neg (by decide), k_gd_t _ (by decide)]
  by_cases c : w.2 0 0 = 6
  · rw [if_pos c, if_pos (Or.inl c)]; rfl
  rw [if_neg c, k_gd_t _ (by decide)]
  by_cases d : w.2 0 0 = 4
  · rw [if_pos d, if_pos (Or.inr (Or.inl d))]; rfl
  rw [if_neg d, k_gd_t _ (by decide)]
  by_cases f : w.2 0 0 = 7
  · rw [if_pos f, if_pos (Or.inr (Or.inr f))]; rfl
  rw [if_neg f, if_neg]
  · rfl
  · rintro (q | q | q)
    · exact c q
    · exact d q
    · exact f q
theorem mv_rep {n k : Nat} {u v : ST} (h : RM n u v) (hk : k ≤ 40) (h30 : u.1 30 = nI k) (h6 : ∀ i, i < k → u.2 5 i = v.2 1 i) : RM n (pL 3 28 (ss u 28 0) (tk (u.2 5) k)) (ss (cpy 4 1 v 0 k) 20 (nI k)) := by
  obtain ⟨b, rb, ro, rq, rr, rt, re⟩ := h
  have K1 : kp [28, 28] [3] u (pL 3 28 (ss u 28 0) (tk (u.2 5) k)) := kp_tr (kp_ss _ _ _) (kp_pL _ _ _ _)
  have K2 : kp [20] [4] v (ss (cpy 4 1 v 0 k) 20 (nI k)) := kp_tr (cpy_kp 4 1 k 0 v) (kp_ss _ _ _)
  refine ⟨?_, Rb_kp K1 (by decide) rb, Ro_kp K1 K2 (by decide) (by decide) (by decide) (by decide) ro, Rq_kp K1 K2 (by decide) (by decide) (by decide) rq, ⟨k, hk, ?_, rfl, ?_⟩, Rt_kp K1 K2 (by decide) (by decide) rt, Re_kp K1 K2 (by decide) (by decide) (by decide) (by decide) re⟩
  · unfold Bs at *
    rw [K1.1 0 (by decide), K1.1 1 (by decide), K1.1 2 (by decide), K1.1 3 (by decide), K1.1 4 (by decide), K1.1 5 (by decide), K1.1 6 (by decide), K1.1 7 (by decide), K1.1 8 (by decide), K1.1 9 (by decide), K1.1 10 (by decide), K1.1 11 (by decide), K1.1 12 (by decide), K2.1 0 (by decide), K2.1 1 (by decide), K2.1 4 (by decide), K2.1 5 (by decide), K2.1 6 (by decide), K2.1 7 (by decide), K2.1 8 (by decide), K2.1 9 (by decide), K2.1 3 (by decide), K2.1 2 (by decide), K2.1 23 (by decide), K2.1 22 (by decide)]
    exact b
  · rw [pL_c (n := 0) (ss u 28 0) (tk (u.2 5) k) rfl, tk_len, Nat.zero_add]
  · intro i hi
    have := pL_new (a := 3) (c := 28) (n := 0) (ss u 28 0) (tk (u.2 5) k) rfl (by rw [tk_len]; omega) (tk_at (u.2 5) hi)
    rw [Nat.zero_add] at this
    rw [this, h6 i hi]
    exact (cpy_at (d := 4) (s := 1) (by decide) k 0 v (by omega) (by omega)).symm
theorem set_wait1 {n : Nat} {u v : ST} (h : RM n u v) (hn : n + 50 ≤ 128) (h2 : u.1 2 = 2) (h9 : u.1 9 = nI 0) (h14 : v.1 14 = 1) (hf : Fr u v) : SET 10 1 n 50 u v := by
  obtain ⟨p0, p1', p2, p3, p4, p5, p6, p7, p8, p9, p10, p11, p12⟩ := h.1
  have v4 : v.1 4 = 2 := p2.symm.trans h2
  obtain ⟨c1, c2, c3, e0, e1, e2, hb2⟩ := hd_C hf
  have n14 : ¬ v.1 14 = 0 := by rw [h14]; decide
  have to0 : ∀ {u1 v1 : ST}, RM n u1 v1 → u1.1 9 = u.1 9 → u1.1 13 = u.1 13 → f_PT_waitLine u 1 = some (1, ss u1 2 0) → f_Mod_awaits v = some (1, ss v1 4 0) → SET 10 1 n 50 u v := by
    intro u1 v1 R a9 a13 r1 r2
    have S1 : SET (1 + 1) 1 n 50 u v := SET.go (n1 := n) (cap1 := 0) (by rw [stC2 1 h2]; exact r1) (stM2 v4 r2 (Or.inr rfl)) (stop0 (s := 0) (RM_cl2 (mv_mode R 0)) rfl (a9.trans h9) (by decide) (by decide) rfl) (by omega) (by omega) (Or.inl ⟨rfl, a9⟩) a13
    exact S1.mono (by decide) (by decide)
  have to3 : ∀ {u1 v1 : ST}, RM n u1 v1 → u1.1 9 = u.1 9 → u1.1 13 = u.1 13 → f_PT_waitLine u 1 = some (1, ss u1 2 3) → f_Mod_awaits v = some (1, ss v1 4 3) → SET 10 1 n 50 u v := by
    intro u1 v1 R a9 a13 r1 r2
    have S1 : SET (9 + 1) 1 n 50 u v := SET.go (n1 := n) (cap1 := 23) (by rw [stC2 1 h2]; exact r1) (stM2 v4 r2 (Or.inr rfl)) (set_done (RM_cl2 (mv_mode R 3)) (by omega) rfl) (by omega) (by omega) (Or.inl ⟨rfl, a9⟩) a13
    exact S1
  by_cases z : u.2 4 1 = u.1 0
  · have z2 : v.2 0 1 = v.1 0 := by rw [← e1, ← p0]; exact z
    have hm1 : f_Mod_awaits v = f_Mod_awaits_J25 v 1 := by
      rw [f_Mod_awaits, if_neg n14, k_gd_t _ (by decide), if_pos (show v.2 0 (1 : Int32).toNatClampNeg = v.1 0 from z2)]
    have hm2 : f_Mod_awaits_J25 v 1 = if v.2 0 0 = 6 then f_Mod_awaits_L43 200 v 1 0 else f_Mod_awaits_J77 v 1 := by
      rw [f_Mod_awaits_J25, if_neg (by decide), k_gd_t _ (by decide)]
      rfl
    rw [hm2, ← e0] at hm1
    by_cases t6 : u.2 4 0 = 6
    · rw [if_pos t6] at hm1
      obtain ⟨k, hk, f1, f2, f3, f4, f5, f6⟩ := hf
      rw [show (0 : Int32) = nI 0 from rfl, rpM k 200 0 k v 1 (by omega) (by omega) hk f4, awJ] at hm1
      have hv0 : (ss (cpy 4 1 v 0 k) 20 (nI k)).2 0 0 = 6 := by rw [ss_2, (cpy_kp 4 1 k 0 v).2 0 (by decide), ← e0]; exact t6
      rw [if_pos (Or.inl hv0)] at hm1
      refine to3 (u1 := pL 3 28 (ss u 28 0) (tk (u.2 5) k)) (mv_rep h hk f5 (fun i hi => (f6 i hi).1)) (pL_n _ _ (by decide)) (pL_n _ _ (by decide)) ?_ hm1
      have e9 : f_PT_endsWaiting u = some (1, pL 3 28 (ss u 28 0) (tk (u.2 5) k)) := by
        rw [f_PT_endsWaiting, c2, k_bd_s, if_pos z, c1, k_bd_s, if_pos t6, f_Row_clear_9, k_let_s, k_bd_s, f_Ear_data, k_bd_s, f_Row_putAll_9_13]
        have := rp9 k 200 0 (ss u 28 0) (by omega) (by rw [Nat.zero_add]; exact f5) (by omega) rfl
        rw [tkd_0] at this
        rw [show (0 : Int32) = nI 0 from rfl] at *
        rw [this, k_bd_s]
        rfl
      rw [f_PT_waitLine, if_pos rfl, e9, k_bd_s, if_neg (show ¬ (1 : Int32) = 0 by decide)]
      rfl
    · rw [if_neg t6, awJ, ← e0] at hm1
      by_cases t47 : u.2 4 0 = 4 ∨ u.2 4 0 = 7
      · rw [if_pos (Or.inr t47)] at hm1
        refine to3 (u1 := u) h rfl rfl ?_ hm1
        have e9 : f_PT_endsWaiting u = some (1, u) := by
          rw [f_PT_endsWaiting, c2, k_bd_s, if_pos z, c1, k_bd_s, if_neg t6, k_bd_s]
          by_cases t4 : u.2 4 0 = 4
          · rw [if_pos t4]
          · rw [if_neg t4, k_bd_s, if_pos (t47.resolve_left t4)]
        rw [f_PT_waitLine, if_pos rfl, e9, k_bd_s, if_neg (show ¬ (1 : Int32) = 0 by decide)]
        rfl
      · rw [if_neg (fun q => q.elim t6 t47)] at hm1
        refine to0 (u1 := u) h rfl rfl ?_ hm1
        have e9 : f_PT_endsWaiting u = some (0, u) := by
          rw [f_PT_endsWaiting, c2, k_bd_s, if_pos z, c1, k_bd_s, if_neg t6, k_bd_s, if_neg (fun q => t47 (Or.inl q)), k_bd_s, if_neg (fun q => t47 (Or.inr q))]
        rw [f_PT_waitLine, if_pos rfl, e9, k_bd_s, if_pos rfl]
        rfl
  · have z2 : ¬ v.2 0 1 = v.1 0 := by rw [← e1, ← p0]; exact z
    refine to0 (u1 := u) (v1 := v) h rfl rfl ?_ ?_
    · have e9 : f_PT_endsWaiting u = some (0, u) := by rw [f_PT_endsWaiting, c2, k_bd_s, if_neg z]
      rw [f_PT_waitLine, if_pos rfl, e9, k_bd_s, if_pos rfl]
      rfl
    · rw [f_Mod_awaits, if_neg n14, k_gd_t _ (by decide), if_neg (show ¬ v.2 0 (1 : Int32).toNatClampNeg = v.1 0 from z2)]
      rfl
theorem set_poll1 {n : Nat} {u v : ST} (h : RM n u v) (hn : n + 50 ≤ 128) (h2 : u.1 2 = 6) (h9 : u.1 9 = nI 0) (h14 : v.1 14 = 1) (hf : Fr u v) : SET 10 1 n 50 u v := by
  obtain ⟨o, m, a, b, t', s, q0, q1, q3, q4, q5, q9, l0, l1, l3, l4, l5, l9, q26, w0, w1, w5, w6, w7, w2, wsm, o1, o2, o3⟩ := RM_num h
  obtain ⟨p0, p1', p2, p3, p4, p5, p6, p7, p8, p9, p10, p11, p12⟩ := h.1
  have v4 : v.1 4 = 6 := p2.symm.trans h2
  obtain ⟨c1, c2, c3, e0, e1, e2, hb2⟩ := hd_C hf
  have n14 : ¬ v.1 14 = 0 := by rw [h14]; decide
  have hm1 : f_Mod_polling v = (if v.2 0 1 = v.1 0 then (if v.2 0 0 = 2 then (if v.1 1 < v.2 0 2 then f_Mod_polling_J57 v (v.2 0 2) else if v.2 0 2 = v.1 0 then f_Mod_polling_J57 v (v.2 0 2) else f_Mod_polling_J58 v (v.2 0 2) 1) else f_Mod_polling_J57 v (v.2 0 2)) else f_Mod_polling_J57 v (v.2 0 2)) := by
    rw [f_Mod_polling, if_neg n14, k_gd_t _ (by decide), k_gd_t _ (by decide), k_gd_t _ (by decide)]
    rfl
  have j57 : f_Mod_polling_J57 v (v.2 0 2) = some (1, ss v 4 0) := by
    rw [f_Mod_polling_J57, f_Mod_polling_J58, if_pos rfl, f_Mod_polling_J69, k_let_s, if_pos rfl]
  rw [← e0, ← e1, ← e2, ← p0, ← p1'] at hm1
  rw [← e2] at j57
  have to0 : f_PT_answeredLine u = some (1, ss u 2 0) → f_Mod_polling v = some (1, ss v 4 0) → SET 10 1 n 50 u v := by
    intro r1 r2
    have S1 : SET (1 + 1) 1 n 50 u v := SET.go (n1 := n) (cap1 := 0) (by rw [stC6 1 h2, if_pos rfl]; exact r1) (stM6 v4 r2 (Or.inr rfl)) (stop0 (s := 0) (RM_cl2 (mv_mode h 0)) rfl h9 (by decide) (by decide) rfl) (by omega) (by omega) (Or.inl ⟨rfl, rfl⟩) rfl
    exact S1.mono (by decide) (by decide)
  by_cases z : u.2 4 1 = u.1 0
  · rw [if_pos z] at hm1
    by_cases t2 : u.2 4 0 = 2
    · rw [if_pos t2] at hm1
      have hA : f_PT_answeredLine u = k_bd (f_PT_isOtherStation u (u.2 4 2)) fun q8 => if q8 = 0 then some (1, ss u 2 0) else k_bd (f_PT_pass (ss (ss (ss (ss u 7 0) 3 (u.2 4 2)) 4 (u.1 0)) 5 0) 0) fun q16 => some (1, q16) := by
        have c3' : f_Ear_from (ss u 7 0) = some (u.2 4 2) := c3
        rw [f_PT_answeredLine, c2, k_bd_s, if_pos z, c1, k_bd_s, if_pos t2, c3, k_bd_s]
        simp only [k_let_s]
        rw [c3']
        rfl
      rcases other_C q0 q1 l1 (u.2 4 2) with ⟨eo, co⟩ | ⟨eo, k, hk, ho, ek⟩
      · rw [eo, k_bd_s, if_pos rfl] at hA
        refine to0 hA ?_
        have hnn : ¬ u.2 4 2 < 0 := by
          obtain ⟨k, hk, ek⟩ := hb2
          rw [ek]; exact nI_pos (by omega)
        by_cases y1 : u.1 1 < u.2 4 2
        · rw [hm1, if_pos y1, j57]
        · rw [hm1, if_neg y1, if_pos ((co.resolve_left hnn).resolve_left y1), j57]
      · rw [eo, k_bd_s, if_neg (by decide), ek, q0] at hA
        have m1 : ¬ u.1 1 < nI k := by rw [q1]; exact nI_nlt hk (by omega)
        have m2 : ¬ nI k = u.1 0 := by rw [q0]; exact fun q => ho ((nI_eq (by omega) (by omega)).mp q)
        rw [ek, if_neg m1, if_neg m2, f_Mod_polling_J58, if_neg (by decide), f_Mod_polling_J69] at hm1
        simp only [k_let_s] at hm1
        rw [if_neg (show ¬ (1 : Int32) = 0 by decide)] at hm1
        have w0' : (ss (ss (ss v 4 4) 9 0) 5 (nI k)).1 0 = nI o := w0
        rw [w0'] at hm1
        obtain ⟨V, hV⟩ : ∃ x, x = ss (ss (ss (ss (ss (ss v 4 4) 9 0) 5 (nI k)) 6 (nI o)) 7 0) 8 0 := ⟨_, rfl⟩
        rw [← hV] at hm1
        have R1 : RM n (ss (ss (ss (ss (ss (ss u 2 4) 7 0) 3 (nI k)) 4 (nI o)) 5 (nI 0)) 6 0) V := by
          rw [hV]
          exact mv_tries (mv_tok (mv_polled (mv_next (mv_sole (mv_mode h 4) 0) q1 l1 hk) q1 l1 l0) (by decide)) 0
        have kV : V.1 16 = nI n := by rw [hV]; exact o2
        have V5 : V.1 5 = nI k := by rw [hV]; rfl
        have V0 : sm 16 (V.1 0) := by rw [hV]; exact wsm
        have V4 : V.1 4 = 4 := by rw [hV]; rfl
        rw [pass_M (n := n) (k := k) kV o3 V5 (by omega) V0, k_bd_s] at hm1
        have ps : psC (ss (ss (ss (ss (ss (ss u 2 4) 7 0) 3 (nI k)) 4 (nI o)) 5 (nI 0)) 6 0) = psC (ss (ss (ss (ss (ss u 7 0) 3 (nI k)) 4 (nI o)) 5 (nI 0)) 6 0) := by
          refine st_ext (fun i => ?_) (fun i j => rfl)
          by_cases c : i = 2
          · subst c; rfl
          by_cases d : i = 8
          · subst d; rfl
          by_cases f : i = 9
          · subst f; rfl
          by_cases g : i = 25
          · subst g; rfl
          unfold psC
          rw [ss_n _ _ c, ss_n _ _ d, ss_n _ _ f, pL_n _ _ g, ss_n _ _ c, ss_n _ _ d, ss_n _ _ f, pL_n _ _ g]
          simp only [ss_1, if_neg c]
        rw [pass_C (u := ss (ss (ss (ss u 7 0) 3 (nI k)) 4 (nI o)) 5 0) (n := n) o1 q26 (by omega), k_bd_s] at hA
        have R2 := pass_a R1 (by omega) (Or.inr ⟨rfl, V4⟩)
        rw [ps] at R2
        have S1 : SET (1 + 1) 1 n 50 u v := SET.go (n1 := n + 8) (cap1 := 0) (by rw [stC6 1 h2, if_pos rfl]; exact hA) (stM6 v4 hm1 (Or.inr rfl)) (after_pass R2 rfl rfl rfl) (by omega) (by omega) (Or.inr rfl) rfl
        exact S1.mono (by decide) (by decide)
    · rw [if_neg t2, j57] at hm1
      refine to0 ?_ hm1
      rw [f_PT_answeredLine, c2, k_bd_s, if_pos z, c1, k_bd_s, if_neg t2]; rfl
  · rw [if_neg z, j57] at hm1
    refine to0 ?_ hm1
    rw [f_PT_answeredLine, c2, k_bd_s, if_neg z]; rfl
theorem s_hear : ∀ (u v : ST) (x1 : Int32), Rl u v → ∃ q q2, f_PT_hear u x1 = some q ∧ f_Mod_hear v x1 = some q2 ∧ q.1 = q2.1 ∧ Rl q.2 q2.2 := by
  intro u v x h
  have h0 := h
  obtain ⟨n, hM, hz, hx⟩ := h
  rcases isByte_C x with ⟨e, c⟩ | ⟨e, c0, c1, hb⟩
  · refine ⟨(-1, u), (-1, v), by rw [f_PT_hear, e]; rfl, ?_, rfl, h0⟩
    rw [f_Mod_hear]
    by_cases c0 : x < 0
    · rw [if_pos c0]
    · rw [if_neg c0, if_neg (fun q => Int32.lt_irrefl (Int32.lt_of_lt_of_le (c.resolve_left c0) q))]
  · have hm := Rx_mode hx
    obtain ⟨p0, p1', p2, p3, p4, p5, p6, p7, p8, p9, p10, p11, p12⟩ := hM.1
    obtain ⟨U, hU⟩ : ∃ y, y = ss (ss (ss u 25 0) 9 0) 8 (u.1 8 + 1) := ⟨_, rfl⟩
    obtain ⟨V, hV⟩ : ∃ y, y = ss (ss (ss (ss (ss v 16 0) 2 0) 3 (v.1 3 + 1)) 14 0) 15 0 := ⟨_, rfl⟩
    have KU : kp [25, 9, 8] [] u U := by rw [hU]; exact kp_tr (kp_tr (kp_ss _ _ _) (kp_ss _ _ _)) (kp_ss _ _ _)
    have KV : kp [16, 2, 3, 14, 15] [] v V := by rw [hV]; exact kp_tr (kp_tr (kp_tr (kp_tr (kp_ss _ _ _) (kp_ss _ _ _)) (kp_ss _ _ _)) (kp_ss _ _ _)) (kp_ss _ _ _)
    have U9 : U.1 9 = nI 0 := by rw [hU]; rfl
    have R1 : RM 0 U V := by
      refine RM_line hM (kp_sub KU (by decide) (by decide)) (kp_sub KV (by decide) (by decide)) (by rw [KU.1 2 (by decide), KV.1 4 (by decide)]; exact p2) (by rw [KU.1 3 (by decide), KV.1 5 (by decide)]; exact p3) (by rw [KU.1 4 (by decide), KV.1 6 (by decide)]; exact p4) (by rw [KU.1 5 (by decide), KV.1 7 (by decide)]; exact p5) (by rw [KU.1 6 (by decide), KV.1 8 (by decide)]; exact p6) (by rw [KU.1 7 (by decide), KV.1 9 (by decide)]; exact p7) (by rw [hU, hV]; show u.1 8 + 1 = v.1 3 + 1; rw [p8]) (by rw [hU, hV]; rfl) (by rw [KU.1 11 (by decide), KV.1 22 (by decide)]; exact p11) (fun m e hm2 => ?_) (by rw [hU, hV]; exact ⟨rfl, rfl, by decide, fun i hi => absurd hi (by omega)⟩) (Or.inr (KU.1 11 (by decide)))
      obtain ⟨o', a', b', t', s', z0, z3, z4, z5, z9, y0, y3, y4, y5, y9⟩ := RM_bd hM m e hm2
      exact ⟨a', b', t', 0, by rw [KU.1 3 (by decide)]; exact z3, by rw [KU.1 4 (by decide)]; exact z4, by rw [KU.1 5 (by decide)]; exact z5, U9, y3, y4, y5, by decide⟩
    obtain ⟨t, u1, v1, g1, g2, k1, k2, re1, gt⟩ := ear_take hb R1.2.2.2.2.2.2 (by rw [KU.1 12 (by decide), KV.1 0 (by decide)]; exact p12) (by rw [hV]; rfl) (by rw [hV]; rfl)
    have R2 : RM 0 u1 v1 := by
      obtain ⟨b, rb, ro, rq, rr, rt, -⟩ := R1
      refine ⟨?_, Rb_kp k1 (by decide) rb, Ro_kp k1 k2 (by decide) (by decide) (by decide) (by decide) ro, Rq_kp k1 k2 (by decide) (by decide) (by decide) rq, Rr_kp k1 k2 (by decide) (by decide) (by decide) (by decide) rr, Rt_kp k1 k2 (by decide) (by decide) rt, re1⟩
      unfold Bs at *
      rw [k1.1 0 (by decide), k1.1 1 (by decide), k1.1 2 (by decide), k1.1 3 (by decide), k1.1 4 (by decide), k1.1 5 (by decide), k1.1 6 (by decide), k1.1 7 (by decide), k1.1 8 (by decide), k1.1 9 (by decide), k1.1 10 (by decide), k1.1 11 (by decide), k1.1 12 (by decide), k2.1 0 (by decide), k2.1 1 (by decide), k2.1 4 (by decide), k2.1 5 (by decide), k2.1 6 (by decide), k2.1 7 (by decide), k2.1 8 (by decide), k2.1 9 (by decide), k2.1 3 (by decide), k2.1 2 (by decide), k2.1 23 (by decide), k2.1 22 (by decide)]
      exact b
    have u19 : u1.1 9 = nI 0 := by rw [k1.1 9 (by decide)]; exact U9
    have hm1 : u1.1 2 = 0 ∨ u1.1 2 = 2 ∨ u1.1 2 = 4 ∨ u1.1 2 = 5 ∨ u1.1 2 = 6 := by rw [k1.1 2 (by decide), KU.1 2 (by decide)]; exact hm
    have S : SET 10 t 0 50 u1 v1 := by
      rcases gt with ⟨rfl, a, b⟩ | ⟨rfl, a, b, hf⟩ | ⟨rfl, a, b⟩
      · exact (set_quiet R2 (by decide) hm1 ⟨a, Or.inl ⟨rfl, b⟩⟩).mono (by decide) (by decide)
      · rcases hm1 with d | d | d | d | d
        · exact set_idle1 R2 (by decide) d u19 a hf
        · exact set_wait1 R2 (by decide) d u19 a hf
        · exact (set_pass1 R2 (by decide) d).mono (by decide) (by decide)
        · exact (set_lost R2 (by decide) d).mono (by decide) (by decide)
        · exact set_poll1 R2 (by decide) d u19 a hf
      · exact (set_quiet R2 (by decide) hm1 ⟨a, Or.inr ⟨rfl, b⟩⟩).mono (by decide) (by decide)
    obtain ⟨u2, v2, n1, r1, r2, r3, r4, r5, r6, r7, r8, r9⟩ := SET_run (by decide) S
    have u29 : u2.1 9 = nI 0 := by
      rcases r8 with c | c
      · rw [c]; exact u19
      · exact c
    refine ⟨(nI n1, u2), (nI n1, v2), ?_, ?_, rfl, n1, r3, Rz_of u29 (fun _ => by decide), r4⟩
    · rw [f_PT_hear, e, k_bd_s, if_neg (by decide), f_Row_clear_3, k_let_s, k_bd_s, k_let_s, k_let_s, show ss (ss (ss u 25 0) 9 0) 8 ((ss (ss u 25 0) 9 0).1 8 + 1) = U from hU.symm, g1, k_bd_s, r1, k_bd_s, f_Row_size_3, k_bd_s, r3.2.2.1.1]
    · rw [f_Mod_hear, if_neg c0, if_pos (Int32.not_lt.mp c1)]
      simp only [k_let_s]
      rw [show ss (ss (ss (ss (ss v 16 0) 2 0) 3 ((ss (ss v 16 0) 2 0).1 3 + 1)) 14 0) 15 0 = V from hV.symm, g2, k_bd_s, r2, k_bd_s, r3.2.2.1.2.1]
