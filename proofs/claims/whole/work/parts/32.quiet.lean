/-! the other states, when no frame was heard -/
theorem set_pass1 {n : Nat} {t : Int32} {u v : ST} (h : RM n u v) (hn : n + 23 ≤ 128) (h2 : u.1 2 = 4) : SET 2 t n 23 u v := by
  obtain ⟨o, m, a, b, t', s, q0, q1, q3, q4, q5, q9, l0, l1, l3, l4, l5, l9, q26, w0, w1, w5, w6, w7, w2, wsm, o1, o2, o3⟩ := RM_num h
  obtain ⟨p0, p1', p2, p3, p4, p5, p6, p7, p8, p9, p10, p11, p12⟩ := h.1
  have v4 : v.1 4 = 4 := p2.symm.trans h2
  by_cases hs : s < 20
  · have c1 : ¬ (20 : Int32) ≤ u.1 9 := by rw [q9]; exact nI_ge (b := 20) hs (by decide)
    have c2 : ¬ (20 : Int32) ≤ v.1 2 := by rw [← p9]; exact c1
    by_cases he : u.1 8 ≤ 4
    · exact (stop4 h h2 q9 hs he).mono (by decide) (by decide)
    · refine SET.go (u1 := ss u 2 0) (v1 := ss v 4 0) (n1 := n) (cap1 := 0) ?_ (stM4 v4 ?_ (Or.inr rfl)) (stop0 (s := s) (RM_cl2 (mv_mode h 0)) rfl q9 (by omega) (by decide) rfl) (by omega) (by omega) (Or.inl ⟨rfl, rfl⟩) rfl
      · rw [stC4 t h2, f_PT_passingLine, if_neg c1, if_neg he]; rfl
      · rw [f_Mod_passing, if_neg c2, if_pos (show (4 : Int32) < v.1 3 by rw [← p8]; exact Int32.not_le.mp he)]; rfl
  · have c1 : (20 : Int32) ≤ u.1 9 := by rw [q9]; exact nI_le (a := 20) (by omega) (by omega)
    have c2 : (20 : Int32) ≤ v.1 2 := by rw [← p9]; exact c1
    by_cases z : u.1 6 = 0
    · refine SET.go (u1 := psC (ss u 6 1)) (v1 := passM (ss v 8 1)) (n1 := n + 8) (cap1 := 0) ?_ (stM4 v4 ?_ (Or.inr rfl)) (after_pass (pass_a (mv_tries h 1) (by omega) (Or.inr ⟨rfl, v4⟩)) rfl rfl rfl) (by omega) (by omega) (Or.inr rfl) rfl
      · rw [stC4 t h2, f_PT_passingLine, if_pos c1, if_pos z, pass_C (n := n) o1 q26 (by omega), k_bd_s]; rfl
      · rw [f_Mod_passing, if_pos c2, if_pos (by rw [← p6]; exact z), k_let_s, pass_M (v := ss v 8 1) (n := n) (k := a) o2 o3 w5 (by omega) wsm, k_bd_s]
    · refine SET.go (u1 := ss (ss (pollC u (nI (bh m a))) 3 (nI o)) 5 (nI 0)) (v1 := ss (ss (ss (pollM v (nI (bh m a))) 5 (nI o)) 7 (nI 0)) 4 6) (n1 := n + 8) (cap1 := 0) ?_ (stM4 v4 ?_ (Or.inr rfl)) (after_poll (poll_b h q1 l1 rfl (bh_le l3) (by omega) l0 (by decide)) rfl rfl) (by omega) (by omega) (Or.inr rfl) rfl
      · rw [stC4 t h2, f_PT_passingLine, if_pos c1, if_neg z, q3, behC q1 l1 l3, k_bd_s, poll_C (n := n) o1 q26 (by omega), k_bd_s, k_let_s, k_let_s, show (pollC u (nI (bh m a))).1 0 = nI o from q0]; rfl
      · rw [f_Mod_passing, if_pos c2, if_neg (by rw [← p6]; exact z), w5, behM w1 l1 l3, k_bd_s, poll_M (n := n) o2 o3 (Nat.le_trans (bh_le l3) l1) wsm, k_bd_s, k_let_s, k_let_s, k_let_s, show (pollM v (nI (bh m a))).1 0 = nI o from w0]; rfl
theorem set_lost1 {n : Nat} {t : Int32} {u v : ST} (h : RM n u v) (hn : n + 23 ≤ 128) (h2 : u.1 2 = 5) (he : u.1 8 ≤ 4) : SET 2 t n 23 u v := by
  obtain ⟨o, m, a, b, t', s, q0, q1, q3, q4, q5, q9, l0, l1, l3, l4, l5, l9, q26, w0, w1, w5, w6, w7, w2, wsm, o1, o2, o3⟩ := RM_num h
  obtain ⟨p0, p1', p2, p3, p4, p5, p6, p7, p8, p9, p10, p11, p12⟩ := h.1
  have v4 : v.1 4 = 5 := p2.symm.trans h2
  by_cases hs : s < 500 + 10 * o
  · exact (stop5 h h2 q9 q0 (by omega) hs he).mono (by decide) (by decide)
  · refine SET.go (u1 := ss (ss (pollC u (nI (bh m o))) 3 (nI o)) 5 (nI 0)) (v1 := ss (ss (ss (pollM v (nI (bh m o))) 5 (nI o)) 7 (nI 0)) 4 6) (n1 := n + 8) (cap1 := 0) ?_ (stM5 v4 ?_ (Or.inr rfl)) (after_poll (poll_b h q1 l1 rfl (bh_le l0) (by omega) l0 (by decide)) rfl rfl) (by omega) (by omega) (Or.inr rfl) rfl
    · rw [stC5 t h2, f_PT_lostLine, if_pos he, q0, nI_10, if_neg (show ¬ u.1 9 < nI (500 + 10 * o) by rw [q9]; exact nI_nlt (by omega) (by omega)), behC q1 l1 l0, k_bd_s, poll_C (n := n) o1 q26 (by omega), k_bd_s, k_let_s, k_let_s, show (pollC u (nI (bh m o))).1 0 = nI o from q0]; rfl
    · rw [f_Mod_lost, if_pos (by rw [← p8]; exact he), w0, nI_10, if_pos (show nI (500 + 10 * o) ≤ v.1 2 by rw [w2]; exact nI_le (by omega) (by omega)), behM w1 l1 l0, k_bd_s, poll_M (n := n) o2 o3 (Nat.le_trans (bh_le l0) l1) wsm, k_bd_s, k_let_s, k_let_s, k_let_s, show (pollM v (nI (bh m o))).1 0 = nI o from w0]; rfl
theorem set_idle0 {n : Nat} {t : Int32} {u v : ST} (h : RM n u v) (hn : n + 23 ≤ 128) (h2 : u.1 2 = 0) (ht : t ≠ 1) (h14 : v.1 14 = 0) : SET 3 t n 23 u v := by
  obtain ⟨o, m, a, b, t', s, q0, q1, q3, q4, q5, q9, l0, l1, l3, l4, l5, l9, q26, w0, w1, w5, w6, w7, w2, wsm, o1, o2, o3⟩ := RM_num h
  obtain ⟨p0, p1', p2, p3, p4, p5, p6, p7, p8, p9, p10, p11, p12⟩ := h.1
  have v4 : v.1 4 = 0 := p2.symm.trans h2
  by_cases hs : s < 500
  · exact (stop0 h h2 q9 hs ht h14).mono (by decide) (by decide)
  · refine SET.go (u1 := ss (ss u 8 0) 2 5) (v1 := ss (ss v 3 0) 4 5) (n1 := n) (cap1 := 23) ?_ (stM0 v4 ?_ (Or.inr rfl)) (set_lost1 (RM_cl2 (mv_mode (mv_ev h 0) 5)) hn rfl (show (0 : Int32) ≤ 4 by decide)) (by omega) (by omega) (Or.inl ⟨rfl, rfl⟩) rfl
    · rw [stC0 t h2, f_PT_idleLine, if_neg ht, if_neg (show ¬ u.1 9 < 500 by rw [q9]; exact nI_nlt (b := 500) (by omega) (by omega))]; rfl
    · rw [f_Mod_idle, if_pos h14, if_pos (show (500 : Int32) ≤ v.1 2 by rw [w2]; exact nI_le (a := 500) (by omega) (by omega))]; rfl
theorem set_lost {n : Nat} {t : Int32} {u v : ST} (h : RM n u v) (hn : n + 23 ≤ 128) (h2 : u.1 2 = 5) : SET 4 t n 23 u v := by
  obtain ⟨p0, p1', p2, p3, p4, p5, p6, p7, p8, p9, p10, p11, p12⟩ := h.1
  have v4 : v.1 4 = 5 := p2.symm.trans h2
  by_cases he : u.1 8 ≤ 4
  · exact (set_lost1 h hn h2 he).mono (by decide) (by decide)
  · refine SET.go (u1 := ss u 2 0) (v1 := ss v 4 0) (n1 := n) (cap1 := 23) ?_ (stM5 v4 ?_ (Or.inr rfl)) (set_idle0 (RM_cl2 (mv_mode h 0)) hn rfl (by decide) rfl) (by omega) (by omega) (Or.inl ⟨rfl, rfl⟩) rfl
    · rw [stC5 t h2, f_PT_lostLine, if_neg he]; rfl
    · rw [f_Mod_lost, if_neg (by rw [← p8]; exact he)]; rfl
/-- nothing was heard, or what is no frame -/
def tl (t : Int32) (v : ST) : Prop := v.1 14 = 0 ∧ ((t = 0 ∧ v.1 15 = 0) ∨ (t = 2 ∧ v.1 15 = 1))
theorem set_wait0 {n : Nat} {t : Int32} {u v : ST} (h : RM n u v) (hn : n + 23 ≤ 128) (h2 : u.1 2 = 2) (ht : tl t v) : SET 10 t n 23 u v := by
  obtain ⟨o, m, a, b, t', s, q0, q1, q3, q4, q5, q9, l0, l1, l3, l4, l5, l9, q26, w0, w1, w5, w6, w7, w2, wsm, o1, o2, o3⟩ := RM_num h
  obtain ⟨p0, p1', p2, p3, p4, p5, p6, p7, p8, p9, p10, p11, p12⟩ := h.1
  have v4 : v.1 4 = 2 := p2.symm.trans h2
  have R3 : RM n (ss u 2 3) (cl2 (ss v 4 3)) := RM_cl2 (mv_mode h 3)
  obtain ⟨h14, ⟨rfl, h15⟩ | ⟨rfl, h15⟩⟩ := ht
  · by_cases hs : s < 255
    · exact (stop2 h h2 q9 hs h14 h15).mono (by decide) (by decide)
    · refine SET.go (u1 := ss u 2 3) (v1 := ss v 4 3) (n1 := n) (cap1 := 23) ?_ (stM2 v4 ?_ (Or.inr rfl)) (set_done R3 hn rfl) (by omega) (by omega) (Or.inl ⟨rfl, rfl⟩) rfl
      · rw [stC2 0 h2, f_PT_waitLine, if_neg (by decide), if_neg (by decide), if_neg (show ¬ u.1 9 < 255 by rw [q9]; exact nI_nlt (b := 255) (by omega) (by omega))]; rfl
      · rw [f_Mod_awaits, if_pos h14, if_pos h15, if_pos (show (255 : Int32) ≤ v.1 2 by rw [w2]; exact nI_le (a := 255) (by omega) (by omega))]; rfl
  · refine SET.go (u1 := ss u 2 3) (v1 := ss v 4 3) (n1 := n) (cap1 := 23) ?_ (stM2 v4 ?_ (Or.inr rfl)) (set_done R3 hn rfl) (by omega) (by omega) (Or.inl ⟨rfl, rfl⟩) rfl
    · rw [stC2 2 h2, f_PT_waitLine, if_neg (by decide), if_pos rfl]; rfl
    · rw [f_Mod_awaits, if_pos h14, if_neg (by rw [h15]; decide)]; rfl
theorem poll16 {n : Nat} {t : Int32} {u v : ST} (h : RM n u v) (hn : n + 23 ≤ 128) (h2 : u.1 2 = 6) (hc : cst u t = f_PT_unansweredLine_J16 u) (hm : f_Mod_polling v = f_Mod_polling_J128 v) : SET 10 t n 23 u v := by
  obtain ⟨o, m, a, b, t', s, q0, q1, q3, q4, q5, q9, l0, l1, l3, l4, l5, l9, q26, w0, w1, w5, w6, w7, w2, wsm, o1, o2, o3⟩ := RM_num h
  obtain ⟨p0, p1', p2, p3, p4, p5, p6, p7, p8, p9, p10, p11, p12⟩ := h.1
  have v4 : v.1 4 = 6 := p2.symm.trans h2
  by_cases z : u.1 7 = 0
  · have z2 : v.1 9 = 0 := p7.symm.trans z
    by_cases e : u.1 3 = u.1 0
    · have e2 : v.1 5 = v.1 0 := by rw [← p3, ← p0]; exact e
      by_cases f : nI (bh m b) = nI o
      · refine SET.go (k := 9) (u1 := ss (ss u 7 1) 2 1) (v1 := ss (ss v 9 1) 4 1) (n1 := n) (cap1 := 23) ?_ (stM6 v4 ?_ (Or.inr rfl)) (set_use (RM_cl2 (mv_mode (mv_sole h 1) 1)) hn rfl) (by omega) (by omega) (Or.inl ⟨rfl, rfl⟩) rfl
        · rw [hc, f_PT_unansweredLine_J16, if_pos z, if_pos e, q4, behC q1 l1 l4, k_bd_s, q0, if_pos f]; rfl
        · rw [hm, f_Mod_polling_J128, if_pos z2, if_pos e2, w6, behM w1 l1 l4, k_bd_s, w0, if_pos f]; rfl
      · refine SET.go (k := 9) (u1 := pollC u (nI (bh m b))) (v1 := pollM v (nI (bh m b))) (n1 := n + 8) (cap1 := 0) ?_ (stM6 v4 ?_ (Or.inr rfl)) ((after_poll (poll_a h q1 l1 rfl (bh_le l4) (by omega) (Or.inr ⟨rfl, v4⟩)) rfl rfl).mono (by decide) (by decide)) (by omega) (by omega) (Or.inr rfl) rfl
        · rw [hc, f_PT_unansweredLine_J16, if_pos z, if_pos e, q4, behC q1 l1 l4, k_bd_s, q0, if_neg f, k_bd_s, poll_C (n := n) o1 q26 (by omega), k_bd_s]
        · rw [hm, f_Mod_polling_J128, if_pos z2, if_pos e2, w6, behM w1 l1 l4, k_bd_s, w0, if_neg f, k_bd_s, poll_M (n := n) o2 o3 (Nat.le_trans (bh_le l4) l1) wsm, k_bd_s]
    · refine SET.go (k := 9) (u1 := psC (ss u 6 0)) (v1 := ss (passM (ss v 8 0)) 4 4) (n1 := n + 8) (cap1 := 0) ?_ (stM6 v4 ?_ (Or.inr rfl)) ((after_pass (pass_a (mv_tries h 0) (by omega) (Or.inl rfl)) rfl rfl rfl).mono (by decide) (by decide)) (by omega) (by omega) (Or.inr rfl) rfl
      · rw [hc, f_PT_unansweredLine_J16, if_pos z, if_neg e, pass_C (n := n) o1 q26 (by omega), k_bd_s]; rfl
      · rw [hm, f_Mod_polling_J128, if_pos z2, if_neg (by rw [← p3, ← p0]; exact e), k_let_s, pass_M (v := ss v 8 0) (n := n) (k := a) o2 o3 w5 (by omega) wsm, k_bd_s, k_let_s]
  · refine SET.go (k := 9) (u1 := ss u 2 1) (v1 := ss v 4 1) (n1 := n) (cap1 := 23) ?_ (stM6 v4 ?_ (Or.inr rfl)) (set_use (RM_cl2 (mv_mode h 1)) hn rfl) (by omega) (by omega) (Or.inl ⟨rfl, rfl⟩) rfl
    · rw [hc, f_PT_unansweredLine_J16, if_neg z]; rfl
    · rw [hm, f_Mod_polling_J128, if_neg (by rw [← p7]; exact z)]; rfl
theorem set_poll0 {n : Nat} {t : Int32} {u v : ST} (h : RM n u v) (hn : n + 23 ≤ 128) (h2 : u.1 2 = 6) (ht : tl t v) : SET 10 t n 23 u v := by
  obtain ⟨o, m, a, b, t', s, q0, q1, q3, q4, q5, q9, l0, l1, l3, l4, l5, l9, q26, w0, w1, w5, w6, w7, w2, wsm, o1, o2, o3⟩ := RM_num h
  obtain ⟨h14, ⟨rfl, h15⟩ | ⟨rfl, h15⟩⟩ := ht
  · by_cases hs : s < 20
    · exact (stop6 h h2 q9 hs h14 h15).mono (by decide) (by decide)
    · refine poll16 h hn h2 ?_ ?_
      · rw [stC6 0 h2, if_neg (by decide), f_PT_unansweredLine, if_neg (by decide), if_pos (show (20 : Int32) ≤ u.1 9 by rw [q9]; exact nI_le (a := 20) (by omega) (by omega))]
      · rw [f_Mod_polling, if_pos h14, if_pos h15, if_pos (show (20 : Int32) ≤ v.1 2 by rw [w2]; exact nI_le (a := 20) (by omega) (by omega))]
  · refine poll16 h hn h2 ?_ ?_
    · rw [stC6 2 h2, if_neg (by decide), f_PT_unansweredLine, if_pos rfl]
    · rw [f_Mod_polling, if_pos h14, if_neg (by rw [h15]; decide)]
theorem set_quiet {n : Nat} {t : Int32} {u v : ST} (h : RM n u v) (hn : n + 23 ≤ 128) (h2 : u.1 2 = 0 ∨ u.1 2 = 2 ∨ u.1 2 = 4 ∨ u.1 2 = 5 ∨ u.1 2 = 6) (ht : tl t v) : SET 10 t n 23 u v := by
  have t1 : t ≠ 1 := by
    obtain ⟨-, ⟨rfl, -⟩ | ⟨rfl, -⟩⟩ := ht <;> decide
  rcases h2 with c | c | c | c | c
  · exact (set_idle0 h hn c t1 ht.1).mono (by decide) (by decide)
  · exact set_wait0 h hn c ht
  · exact (set_pass1 h hn c).mono (by decide) (by decide)
  · exact (set_lost h hn c).mono (by decide) (by decide)
  · exact set_poll0 h hn c ht
