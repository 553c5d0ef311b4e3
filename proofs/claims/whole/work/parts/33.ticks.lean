/-! quiet -/
theorem set_still {n s : Nat} {u v : ST} (h : RM n u v) (h2 : u.1 2 = 0 ∨ u.1 2 = 2 ∨ u.1 2 = 4 ∨ u.1 2 = 5 ∨ u.1 2 = 6) (h9 : u.1 9 = nI s) (hs : s < 20) (h14 : v.1 14 = 0) (h15 : v.1 15 = 0) : SET 2 0 n 0 u v := by
  obtain ⟨o, m, a, b, t', s', q0, q1, q3, q4, q5, q9, l0, l1, l3, l4, l5, l9, q26, w0, w1, w5, w6, w7, w2, wsm, o1, o2, o3⟩ := RM_num h
  obtain ⟨p0, p1', p2, p3, p4, p5, p6, p7, p8, p9, p10, p11, p12⟩ := h.1
  rcases h2 with c | c | c | c | c
  · exact (stop0 h c h9 (by omega) (by decide) h14).mono (by decide) (by decide)
  · exact (stop2 h c h9 (by omega) h14 h15).mono (by decide) (by decide)
  · by_cases he : u.1 8 ≤ 4
    · exact (stop4 h c h9 hs he).mono (by decide) (by decide)
    · refine SET.go (u1 := ss u 2 0) (v1 := ss v 4 0) (n1 := n) (cap1 := 0) ?_ (stM4 (p2.symm.trans c) ?_ (Or.inr rfl)) (stop0 (s := s) (RM_cl2 (mv_mode h 0)) rfl h9 (by omega) (by decide) rfl) (by omega) (by omega) (Or.inl ⟨rfl, rfl⟩) rfl
      · rw [stC4 0 c, f_PT_passingLine, if_neg (show ¬ (20 : Int32) ≤ u.1 9 by rw [h9]; exact nI_ge (b := 20) hs (by decide)), if_neg he]; rfl
      · rw [f_Mod_passing, if_neg (show ¬ (20 : Int32) ≤ v.1 2 by rw [← p9, h9]; exact nI_ge (b := 20) hs (by decide)), if_pos (show (4 : Int32) < v.1 3 by rw [← p8]; exact Int32.not_le.mp he)]; rfl
  · by_cases he : u.1 8 ≤ 4
    · exact (stop5 h c h9 q0 (by omega) (by omega) he).mono (by decide) (by decide)
    · refine SET.go (u1 := ss u 2 0) (v1 := ss v 4 0) (n1 := n) (cap1 := 0) ?_ (stM5 (p2.symm.trans c) ?_ (Or.inr rfl)) (stop0 (s := s) (RM_cl2 (mv_mode h 0)) rfl h9 (by omega) (by decide) rfl) (by omega) (by omega) (Or.inl ⟨rfl, rfl⟩) rfl
      · rw [stC5 0 c, f_PT_lostLine, if_neg he]; rfl
      · rw [f_Mod_lost, if_neg (by rw [← p8]; exact he)]; rfl
  · exact (stop6 h c h9 hs h14 h15).mono (by decide) (by decide)
theorem mv_s {n s : Nat} {u v : ST} (h : RM n u v) (hs : s ≤ 1000) (x : Int32) : RM n (ss u 9 (nI s)) (ss (ss (ss v 2 (nI s)) 14 0) 15 x) := by
  obtain ⟨p0, p1', p2, p3, p4, p5, p6, p7, p8, p9, p10, p11, p12⟩ := h.1
  refine RM_line h (kp_sub (kp_ss _ _ _) (by decide) (by decide)) (kp_sub (kp_tr (kp_tr (kp_ss _ _ _) (kp_ss _ _ _)) (kp_ss _ _ _)) (by decide) (by decide)) p2 p3 p4 p5 p6 p7 p8 rfl p11 (fun m hm hm15 => ?_) (Ro_kp (kp_ss _ _ _) (kp_tr (kp_tr (kp_ss _ _ _) (kp_ss _ _ _)) (kp_ss _ _ _)) (by decide) (by decide) (by decide) (by decide) h.2.2.1) (Or.inr rfl)
  obtain ⟨o, a, b, t, s2, q0, q3, q4, q5, q9, l0, l3, l4, l5, l9⟩ := RM_bd h m hm hm15
  exact ⟨a, b, t, s, q3, q4, q5, rfl, l3, l4, l5, hs⟩
theorem mv_cut {n : Nat} {u v : ST} (h : RM n u v) : RM n (ss u 13 0) (ss v 10 0) := by
  obtain ⟨b, rb, ro, rq, rr, rt, re⟩ := h
  exact ⟨b, Rb_kp (kp_ss _ _ _) (by decide) rb, Ro_ss _ _ ro (by decide) (by decide), Rq_kp (kp_ss _ _ _) (kp_ss _ _ _) (by decide) (by decide) (by decide) rq, Rr_kp (kp_ss _ _ _) (kp_ss _ _ _) (by decide) (by decide) (by decide) (by decide) rr, Rt_kp (kp_ss _ _ _) (kp_ss _ _ _) (by decide) (by decide) rt, Or.inl ⟨rfl, rfl⟩⟩
theorem ss_id (u : ST) (k : Nat) : ss u k (u.1 k) = u := by
  refine st_ext (fun i => ?_) (fun _ _ => rfl)
  rw [ss_1]
  by_cases c : i = k
  · rw [if_pos c, c]
  · rw [if_neg c]
/-- the room that is left for k ticks more -/
def pot (k s : Nat) (mid : Bool) : Nat := if mid then (if k + s < 4 then 0 else 23 * (1 + (k + s - 4) / 20)) else 23 * ((k + (if s < 19 then s else 19)) / 20)
theorem pot_still {k s s1 : Nat} {mid : Bool} (h : s1 = s + 1 ∨ s1 = 0) : pot k s1 mid ≤ pot (k + 1) s mid := by
  unfold pot
  cases mid with
  | true =>
    simp only [if_true]
    by_cases c : k + 1 + s < 4
    · rw [if_pos c, if_pos (by omega)]; omega
    · rw [if_neg c]
      by_cases d : k + s1 < 4
      · rw [if_pos d]; omega
      · rw [if_neg d]; omega
  | false =>
    simp only [Bool.false_eq_true, if_false]
    by_cases c : s < 19
    · rw [if_pos c]
      by_cases d : s1 < 19
      · rw [if_pos d]; omega
      · rw [if_neg d]; omega
    · rw [if_neg c]
      by_cases d : s1 < 19
      · rw [if_pos d]; omega
      · rw [if_neg d]; omega
theorem pot_send {k s : Nat} (h : 19 ≤ s) : pot k 0 false + 23 ≤ pot (k + 1) s false := by
  unfold pot
  simp only [Bool.false_eq_true, if_false]
  rw [if_pos (by decide), if_neg (by omega)]
  omega
theorem pot_inv {k : Nat} : pot k 0 false + 23 ≤ pot (k + 1) 3 true ∧ pot k 4 false ≤ pot (k + 1) 3 true := by
  unfold pot
  simp only [Bool.false_eq_true, if_false, if_true]
  rw [if_pos (by decide), if_neg (by omega), if_pos (by decide)]
  omega
theorem Rx_mode {u : ST} (h : Rx u) : u.1 2 = 0 ∨ u.1 2 = 2 ∨ u.1 2 = 4 ∨ u.1 2 = 5 ∨ u.1 2 = 6 := by
  obtain ⟨s, -, ⟨h, -⟩ | ⟨h, -⟩ | ⟨h, -⟩ | ⟨h, -⟩ | ⟨h, -⟩⟩ := h
  · exact Or.inl h
  · exact Or.inr (Or.inl h)
  · exact Or.inr (Or.inr (Or.inl h))
  · exact Or.inr (Or.inr (Or.inr (Or.inl h)))
  · exact Or.inr (Or.inr (Or.inr (Or.inr h)))
theorem Rx_s {u : ST} (h : Rx u) : ∃ s, u.1 9 = nI s ∧ s < 650 := by
  obtain ⟨s, h9, ⟨-, h⟩ | ⟨-, h⟩ | ⟨-, h⟩ | ⟨-, h⟩ | ⟨-, h⟩⟩ := h
  all_goals exact ⟨s, h9, by omega⟩
/-- is the ear in the middle of a frame -/
def midE (u : ST) : Bool := if u.1 13 = 0 ∨ u.1 13 = 1 then false else true
theorem mid_M {u v : ST} (h : Re u v) : (midE u = false ∧ v.1 10 ≤ 1 ∧ u.1 13 < 2) ∨ (midE u = true ∧ ¬ v.1 10 ≤ 1 ∧ ¬ u.1 13 < 2) := by
  unfold midE
  rcases h with ⟨e1, e2⟩ | ⟨e1, e2⟩ | ⟨h, hh, e1, e2, e3, e4, e5, e6⟩ | ⟨e1, e2, e3, e4, e5, e6⟩ | ⟨n, d, hd, hn, e1, e2, e3, e4⟩ | ⟨n, h0, hn, e1, e2, e3, e4⟩ | ⟨n, h0, hn, e1, e2, e3, e4, e5, e6⟩
  · exact Or.inl ⟨by rw [e1, if_pos (Or.inl rfl)], by rw [e2]; decide, by rw [e1]; decide⟩
  · exact Or.inl ⟨by rw [e1, if_pos (Or.inr rfl)], by rw [e2]; decide, by rw [e1]; decide⟩
  · exact Or.inr ⟨by rw [e1]; decide, by rw [e4]; exact nI_ge (a := 1) (by omega) (by omega), by rw [e1]; decide⟩
  · exact Or.inr ⟨by rw [e1]; decide, by rw [e4]; exact nI_ge (a := 1) (by omega) (by omega), by rw [e1]; decide⟩
  · exact Or.inr ⟨by rw [e1]; decide, by rw [e3]; exact nI_ge (a := 1) (by omega) (by omega), by rw [e1]; decide⟩
  · exact Or.inr ⟨by rw [e1]; decide, by rw [e3]; exact nI_ge (a := 1) (by omega) (by omega), by rw [e1]; decide⟩
  · exact Or.inr ⟨by rw [e1]; decide, by rw [e3]; exact nI_ge (a := 1) (by omega) (by omega), by rw [e1]; decide⟩
theorem midE_of {u u1 : ST} (h : u1.1 13 = u.1 13) : midE u1 = midE u := by
  unfold midE
  rw [h]
theorem Rz_mid {u : ST} {s : Nat} (h : Rz u) (h9 : u.1 9 = nI s) (hs : s < 2 ^ 31) (hm : midE u = true) : s ≤ 3 := by
  rcases h with c | c | ⟨s', h1, h2⟩
  · unfold midE at hm; rw [if_pos (Or.inl c)] at hm; cases hm
  · unfold midE at hm; rw [if_pos (Or.inr c)] at hm; cases hm
  · have := (nI_eq hs (by omega)).mp (h9.symm.trans h2)
    omega
theorem Rz_of {u : ST} {s : Nat} (h9 : u.1 9 = nI s) (h : midE u = true → s ≤ 3) : Rz u := by
  by_cases c : u.1 13 = 0
  · exact Or.inl c
  · by_cases d : u.1 13 = 1
    · exact Or.inr (Or.inl d)
    · refine Or.inr (Or.inr ⟨s, h (by unfold midE; rw [if_neg]; rintro (q | q); exact c q; exact d q), h9⟩)
theorem SET_run {k : Nat} {t : Int32} {n cap : Nat} {u v : ST} (hk : k ≤ 60) (h : SET k t n cap u v) : ∃ (u1 v1 : ST) (n1 : Nat), f_PT_settle u t = some u1 ∧ f_Mod_settle v = some v1 ∧ RM n1 u1 v1 ∧ Rx u1 ∧ n ≤ n1 ∧ n1 ≤ n + cap ∧ (n1 = n ∨ u1.1 9 = 0) ∧ (u1.1 9 = u.1 9 ∨ u1.1 9 = 0) ∧ u1.1 13 = u.1 13 := by
  obtain ⟨u1, v1, n1, h1, h2, h3⟩ := h
  exact ⟨u1, v1, n1, h1 199 0 (by omega) (by omega), h2 199 (by omega), h3⟩
/-- a tick -/
theorem tick {n k s : Nat} {u v : ST} (h : RM n u v) (hz : Rz u) (hx : Rx u) (h9 : u.1 9 = nI s) (hs : s < 650) (hp : n + pot (k + 1) s (midE u) ≤ 128) : ∃ (t : Int32) (u1 v1 u2 v2 : ST) (n1 s1 : Nat), f_Ear_rest (ss u 9 (u.1 9 + 1)) ((ss u 9 (u.1 9 + 1)).1 9) = some (t, u1) ∧ f_PT_settle u1 t = some u2 ∧ f_Mod_settle v1 = some v2 ∧ RM n1 u2 v2 ∧ Rz u2 ∧ Rx u2 ∧ u2.1 9 = nI s1 ∧ s1 < 650 ∧ n1 + pot k s1 (midE u2) ≤ 128 ∧
    (∀ (K : ST → Option (Int32 × ST)), (k_let (ss v 2 ((v.1 2) + 1)) fun u5 => k_let (ss u5 14 0) fun u6 => if (u6.1 2) = 4 then if (u6.1 10) ≤ 1 then k_let (ss u6 15 0) fun u15 => if (u15.1 15) = 0 then k_let (ss u15 10 (u15.1 10)) fun u17 => k_bd (f_Mod_settle u17) fun q18 => K q18 else k_let (ss u15 10 0) fun u19 => k_bd (f_Mod_settle u19) fun q20 => K q20 else k_let (ss u6 15 1) fun u21 => if (u21.1 15) = 0 then k_let (ss u21 10 (u21.1 10)) fun u23 => k_bd (f_Mod_settle u23) fun q24 => K q24 else k_let (ss u21 10 0) fun u25 => k_bd (f_Mod_settle u25) fun q26 => K q26 else k_let (ss u6 15 0) fun u8 => if (u8.1 15) = 0 then k_let (ss u8 10 (u8.1 10)) fun u10 => k_bd (f_Mod_settle u10) fun q11 => K q11 else k_let (ss u8 10 0) fun u12 => k_bd (f_Mod_settle u12) fun q13 => K q13) = k_bd (f_Mod_settle v1) K) := by
  have v2s : v.1 2 = nI s := h.1.2.2.2.2.2.2.2.2.2.1.symm.trans h9
  have re : Re u v := h.2.2.2.2.2.2
  have hm := Rx_mode hx
  rw [h9, v2s, nI_1, ss_s]
  have i4 : nI (s + 1) = 4 ↔ s = 3 := by rw [show (4 : Int32) = nI 4 from rfl, nI_eq (by omega) (by omega)]; omega
  rcases mid_M re with ⟨m1, m2, m3⟩ | ⟨m1, m2, m3⟩
  · -- not in a frame
    have R1 : RM n (ss u 9 (nI (s + 1))) (ss (ss (ss v 2 (nI (s + 1))) 14 0) 15 0) := mv_s h (by omega) 0
    have st : ∃ cap, (cap = 0 ∨ (cap = 23 ∧ 19 ≤ s)) ∧ SET 10 0 n cap (ss u 9 (nI (s + 1))) (ss (ss (ss v 2 (nI (s + 1))) 14 0) 15 0) := by
      by_cases c : s + 1 < 20
      · exact ⟨0, Or.inl rfl, (set_still R1 hm rfl c rfl rfl).mono (by decide) (by decide)⟩
      · have := pot_send (k := k) (s := s) (by omega)
        rw [m1] at hp
        exact ⟨23, Or.inr ⟨rfl, by omega⟩, set_quiet R1 (by omega) hm ⟨rfl, Or.inl ⟨rfl, rfl⟩⟩⟩
    obtain ⟨cap, hcap, S⟩ := st
    obtain ⟨u2, v2, n1, g1, g2, g3, g4, g5, g6, g7, g8, g9⟩ := SET_run (by decide) S
    have mE : midE u2 = false := (midE_of (g9.trans rfl)).trans m1
    have hs1 : ∃ s1, u2.1 9 = nI s1 ∧ (s1 = s + 1 ∨ s1 = 0) := by
      rcases g8 with c | c
      · exact ⟨s + 1, c.trans rfl, Or.inl rfl⟩
      · exact ⟨0, c, Or.inr rfl⟩
    obtain ⟨s1, e1, e2⟩ := hs1
    obtain ⟨sx, ex, lx⟩ := Rx_s g4
    have hsx : s1 = sx := (nI_eq (by omega) (by omega)).mp (e1.symm.trans ex)
    refine ⟨0, ss u 9 (nI (s + 1)), ss (ss (ss v 2 (nI (s + 1))) 14 0) 15 0, u2, v2, n1, s1, ?_, g1, g2, g3, Rz_of e1 (fun q => by rw [mE] at q; cases q), g4, e1, by omega, ?_, fun K => ?_⟩
    · rw [f_Ear_rest, if_pos (show (ss u 9 (nI (s + 1))).1 13 < 2 from m3)]
    · rw [mE]
      rw [m1] at hp
      rcases g7 with c | c
      · have := pot_still (k := k) (mid := false) e2
        omega
      · have z : s1 = 0 := (nI_eq (by omega) (by decide)).mp (e1.symm.trans c)
        rw [z]
        rcases hcap with d | ⟨d, d2⟩
        · have := pot_still (k := k) (s := s) (s1 := 0) (mid := false) (Or.inr rfl)
          omega
        · have := pot_send (k := k) d2
          omega
    · simp only [k_let_s]
      rw [show (ss (ss v 2 (nI (s + 1))) 14 0).1 2 = nI (s + 1) from rfl, show (ss (ss v 2 (nI (s + 1))) 14 0).1 10 = v.1 10 from rfl, if_pos m2, show (ss (ss (ss v 2 (nI (s + 1))) 14 0) 15 0).1 15 = 0 from rfl, if_pos rfl, ss_id]
      by_cases c : nI (s + 1) = 4
      · rw [if_pos c]
      · rw [if_neg c]
  · -- in the middle of a frame
    have s3 : s ≤ 3 := Rz_mid hz h9 (by omega) m1
    by_cases c3 : s = 3
    · subst c3
      have R1 : RM n (ss (ss u 9 (nI 4)) 13 0) (ss (ss (ss (ss v 2 (nI 4)) 14 0) 15 1) 10 0) := mv_cut (mv_s h (by omega) 1)
      rw [m1] at hp
      have hq := pot_inv (k := k)
      obtain ⟨u2, v2, n1, g1, g2, g3, g4, g5, g6, g7, g8, g9⟩ := SET_run (by decide) (set_quiet (t := 2) R1 (by omega) hm ⟨rfl, Or.inr ⟨rfl, rfl⟩⟩)
      have z13 : u2.1 13 = 0 := g9
      have mE : midE u2 = false := by unfold midE; rw [if_pos (Or.inl z13)]
      have hs1 : ∃ s1, u2.1 9 = nI s1 ∧ (s1 = 4 ∨ s1 = 0) := by
        rcases g8 with c | c
        · exact ⟨4, c.trans rfl, Or.inl rfl⟩
        · exact ⟨0, c, Or.inr rfl⟩
      obtain ⟨s1, e1, e2⟩ := hs1
      refine ⟨2, ss (ss u 9 (nI 4)) 13 0, ss (ss (ss (ss v 2 (nI 4)) 14 0) 15 1) 10 0, u2, v2, n1, s1, ?_, g1, g2, g3, Rz_of e1 (fun q => by rw [mE] at q; cases q), g4, e1, by omega, ?_, fun K => ?_⟩
      · rw [f_Ear_rest, if_neg (show ¬ (ss u 9 (nI (3 + 1))).1 13 < 2 from m3), if_neg (by decide)]; rfl
      · rw [mE]
        rcases g7 with c | c
        · rcases e2 with rfl | rfl <;> omega
        · have z : s1 = 0 := (nI_eq (by omega) (by decide)).mp (e1.symm.trans c)
          rw [z]
          omega
      · simp only [k_let_s]
        rw [if_pos (show (ss (ss v 2 (nI (3 + 1))) 14 0).1 2 = 4 from rfl), if_neg (show ¬ (ss (ss v 2 (nI (3 + 1))) 14 0).1 10 ≤ 1 from m2), if_neg (show ¬ (ss (ss (ss v 2 (nI (3 + 1))) 14 0) 15 1).1 15 = 0 from (by decide : ¬ (1 : Int32) = 0))]
    · have R1 : RM n (ss u 9 (nI (s + 1))) (ss (ss (ss v 2 (nI (s + 1))) 14 0) 15 0) := mv_s h (by omega) 0
      obtain ⟨u2, v2, n1, g1, g2, g3, g4, g5, g6, g7, g8, g9⟩ := SET_run (by decide) (set_still R1 hm rfl (by omega) rfl rfl)
      have mE : midE u2 = true := (midE_of (g9.trans rfl)).trans m1
      have hs1 : ∃ s1, u2.1 9 = nI s1 ∧ (s1 = s + 1 ∨ s1 = 0) := by
        rcases g8 with c | c
        · exact ⟨s + 1, c.trans rfl, Or.inl rfl⟩
        · exact ⟨0, c, Or.inr rfl⟩
      obtain ⟨s1, e1, e2⟩ := hs1
      refine ⟨0, ss u 9 (nI (s + 1)), ss (ss (ss v 2 (nI (s + 1))) 14 0) 15 0, u2, v2, n1, s1, ?_, g1, g2, g3, Rz_of e1 (fun _ => by omega), g4, e1, by omega, ?_, fun K => ?_⟩
      · rw [f_Ear_rest, if_neg (show ¬ (ss u 9 (nI (s + 1))).1 13 < 2 from m3), if_pos (show nI (s + 1) < (4 : Int32) from nI_lt (b := 4) (by omega) (by decide))]
      · rw [mE]
        rw [m1] at hp
        have := pot_still (k := k) (mid := true) e2
        omega
      · simp only [k_let_s]
        rw [if_neg (show ¬ (ss (ss v 2 (nI (s + 1))) 14 0).1 2 = 4 from fun q => c3 (i4.mp q)), show (ss (ss (ss v 2 (nI (s + 1))) 14 0) 15 0).1 15 = 0 from rfl, if_pos rfl, ss_id]
theorem quietL {N : Nat} (hN : N ≤ 100) : ∀ (k e i n s : Nat) (u v : ST), k < e → i + k = N → RM n u v → Rz u → Rx u → u.1 9 = nI s → s < 650 → n + pot k s (midE u) ≤ 128 → ∃ q q2, f_PT_quiet_L22 e u (nI N) (nI i) = some q ∧ f_Mod_quiet_L20 e v (nI N) (nI i) = some q2 ∧ q.1 = q2.1 ∧ Rl q.2 q2.2 := by
  intro k
  induction k with
  | zero =>
    intro e i n s u v he hi h hz hx h9 hs hp
    obtain ⟨e, rfl⟩ : ∃ e', e = e' + 1 := ⟨e - 1, by omega⟩
    have c : nI N ≤ nI i := nI_le (by omega) (by omega)
    refine ⟨(nI n, u), (nI n, v), ?_, ?_, rfl, n, h, hz, hx⟩
    · rw [f_PT_quiet_L22, if_pos c, f_Row_size_3, k_bd_s, h.2.2.1.1]
    · rw [f_Mod_quiet_L20, if_pos c, h.2.2.1.2.1]
  | succ k ih =>
    intro e i n s u v he hi h hz hx h9 hs hp
    obtain ⟨e, rfl⟩ : ∃ e', e = e' + 1 := ⟨e - 1, by omega⟩
    have c : ¬ nI N ≤ nI i := nI_ge (by omega) (by omega)
    obtain ⟨t, u1, v1, u2, v2, n1, s1, g1, g2, g3, g4, g5, g6, g7, g8, g9, g10⟩ := tick h hz hx h9 hs hp
    obtain ⟨q, q2, r1, r2, r3⟩ := ih e (i + 1) n1 s1 u2 v2 (by omega) (by omega) g4 g5 g6 g7 g8 g9
    refine ⟨q, q2, ?_, ?_, r3⟩
    · rw [f_PT_quiet_L22, if_neg c, k_let_s, g1, k_bd_s, g2, k_bd_s, nI_1]
      exact r1
    · rw [f_Mod_quiet_L20, if_neg c, nI_1, g10 (fun q => f_Mod_quiet_L20 e q (nI N) (nI (i + 1))), g3, k_bd_s]
      exact r2
theorem s_quiet : ∀ (u v : ST) (x1 : Int32), Rl u v → ∃ q q2, f_PT_quiet u x1 = some q ∧ f_Mod_quiet v x1 = some q2 ∧ q.1 = q2.1 ∧ Rl q.2 q2.2 := by
  intro u v x h
  unfold f_PT_quiet f_Mod_quiet
  by_cases c1 : x < 1
  · exact ⟨(-1, u), (-1, v), by rw [if_pos c1], by rw [if_pos c1], rfl, h⟩
  by_cases c2 : x ≤ 100
  · obtain ⟨n, hM, hz, hx⟩ := h
    have c0 : ¬ x < 0 := fun q => c1 (Int32.lt_trans q (by decide))
    obtain ⟨N, hN, rfl⟩ := nI_of2 (M := 100) (n := 100) rfl c0 c2
    rw [if_neg c1, if_pos c2, if_neg c1, if_pos c2, f_Row_clear_3, k_let_s, k_bd_s, k_let_s]
    obtain ⟨s, h9, hs⟩ := Rx_s hx
    have h1 : RM 0 (ss u 25 0) (ss v 16 0) := by
      obtain ⟨b, rb, ro, rq, rr, rt, re⟩ := hM
      exact ⟨b, Rb_kp (kp_ss _ _ _) (by decide) rb, ⟨rfl, rfl, by decide, fun i hi => absurd hi (by omega)⟩, Rq_kp (kp_ss _ _ _) (kp_ss _ _ _) (by decide) (by decide) (by decide) rq, Rr_kp (kp_ss _ _ _) (kp_ss _ _ _) (by decide) (by decide) (by decide) (by decide) rr, Rt_kp (kp_ss _ _ _) (kp_ss _ _ _) (by decide) (by decide) rt, Re_kp (kp_ss _ _ _) (kp_ss _ _ _) (by decide) (by decide) (by decide) (by decide) re⟩
    refine quietL hN N 200 0 0 s _ _ (by omega) (by omega) h1 hz hx h9 hs ?_
    rw [show midE (ss u 25 0) = midE u from rfl]
    unfold pot
    by_cases hmE : midE u = true
    · have := Rz_mid hz h9 (by omega) hmE
      rw [hmE]
      simp only [if_true]
      by_cases d : N + s < 4
      · rw [if_pos d]; omega
      · rw [if_neg d]; omega
    · rw [Bool.not_eq_true] at hmE
      rw [hmE]
      simp only [Bool.false_eq_true, if_false]
      by_cases d : s < 19
      · rw [if_pos d]; omega
      · rw [if_neg d]; omega
  · exact ⟨(-1, u), (-1, v), by rw [if_neg c1, if_neg c2], by rw [if_neg c1, if_neg c2], rfl, h⟩
