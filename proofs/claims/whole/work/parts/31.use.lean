/-! USE and DONE -/
def cpy (d s : Nat) : ST → Nat → Nat → ST
  | w, _, 0 => w
  | w, i, r + 1 => cpy d s (rs w d i (w.2 s i)) (i + 1) r
theorem cpy_kp (d s : Nat) : ∀ (r i : Nat) (w : ST), kp [] [d] w (cpy d s w i r) := by
  intro r
  induction r with
  | zero => intro i w; exact kp_sub (kp_rf w) (by decide) (fun _ h => by cases h)
  | succ r ih =>
    intro i w
    exact kp_sub (kp_tr (kp_rs w d i (w.2 s i)) (ih (i + 1) _)) (fun _ h => by cases h) (fun j h => by
      rcases List.mem_append.mp h with h | h <;> exact h)
theorem cpy_old {d s : Nat} : ∀ (r i : Nat) (w : ST) {j : Nat}, j < i → (cpy d s w i r).2 d j = w.2 d j := by
  intro r
  induction r with
  | zero => intro i w j h; rfl
  | succ r ih =>
    intro i w j h
    show (cpy d s (rs w d i (w.2 s i)) (i + 1) r).2 d j = _
    rw [ih (i + 1) _ (by omega), rs_s, pk_un (by omega)]
theorem cpy_at {d s : Nat} (hds : s ≠ d) : ∀ (r i : Nat) (w : ST) {j : Nat}, i ≤ j → j < i + r → (cpy d s w i r).2 d j = w.2 s j := by
  intro r
  induction r with
  | zero => intro i w j h1 h2; omega
  | succ r ih =>
    intro i w j h1 h2
    show (cpy d s (rs w d i (w.2 s i)) (i + 1) r).2 d j = _
    by_cases c : j = i
    · subst c; rw [cpy_old r _ _ (by omega), rs_s, pk_us]
    · rw [ih (i + 1) _ (by omega) (by omega), rs_n _ _ _ hds]
theorem useL {v : ST} : ∀ (r e i : Nat) (w : ST), r < e → i + r = 13 → f_Mod_use_L25 e w (nI i) = k_let (ss (cpy 3 5 w i r) 22 0) fun u5 => k_bd (f_Mod_send u5 5 (u5.1 23) 13) fun q6 => some (1, q6) := by
  intro r
  induction r with
  | zero =>
    intro e i w he hi
    obtain ⟨e, rfl⟩ : ∃ e', e = e' + 1 := ⟨e - 1, by omega⟩
    rw [f_Mod_use_L25, if_pos (show (13 : Int32) ≤ nI i from nI_le (a := 13) (by omega) (by omega))]
    rfl
  | succ r ih =>
    intro e i w he hi
    obtain ⟨e, rfl⟩ : ∃ e', e = e' + 1 := ⟨e - 1, by omega⟩
    rw [f_Mod_use_L25, if_neg (show ¬ (13 : Int32) ≤ nI i from nI_ge (b := 13) (by omega) (by decide)), k_gd_t _ (inbN (by omega) (by decide)), k_gd_t _ (inbN (by omega) (by decide)), k_let_s, nI_1, nI_clamp (by omega), ih e (i + 1) _ (by omega) (by omega)]
    rfl
theorem use_step {n : Nat} {u v : ST} (h : RM n u v) (hn : n + 23 ≤ 128) (ha : ¬ u.1 11 = 0) : ∃ u1 v1, f_PT_useLine u = some (1, u1) ∧ f_Mod_use v = some (1, v1) ∧ RM (n + 23) u1 v1 ∧ u1.1 2 = 2 ∧ u1.1 9 = 0 ∧ u1.1 13 = u.1 13 := by
  obtain ⟨o, m, a, b, t, s, q0, q1, q3, q4, q5, q9, l0, l1, l3, l4, l5, l9, q26, w0, w1, w5, w6, w7, w2, wsm, o1, o2, o3⟩ := RM_num h
  have hh := h
  obtain ⟨⟨p0, p1', p2, p3, p4, p5, p6, p7, p8, p9, p10, p11, p12⟩, ⟨-, -, -, -, -, -, rr, -, -, -, -, -, -, g10, -, -, -, -, -, -, r15, -⟩, ro, rq, -⟩ := hh
  rcases rq with c | ⟨d1, d2⟩
  · exact absurd c ha
  obtain ⟨L, hL⟩ : ∃ x, x = frm 5 (u.1 10) (u.1 0) (tk (u.2 2) 13) := ⟨_, rfl⟩
  have lenL : L.length = 23 := by rw [hL, frm_len, tk_len]; rfl
  obtain ⟨w, hw⟩ : ∃ x, x = ss (cpy 3 5 (ss v 4 2) 0 13) 22 0 := ⟨_, rfl⟩
  have kw : kp [4, 22] [3] v w := by rw [hw]; exact kp_tr (kp_tr (kp_ss _ _ _) (cpy_kp 3 5 13 0 _)) (kp_ss _ _ _)
  have w3 : ∀ j, j < 13 → w.2 3 j = u.2 2 j := by
    intro j hj
    rw [hw, (d2 j hj).1]
    exact cpy_at (d := 3) (s := 5) (by decide) 13 0 (ss v 4 2) (by omega) (by omega)
  refine ⟨ss (ss (ss (pL 0 25 u L) 9 0) 11 0) 2 2, ss (pL 2 16 w L) 2 0, ?_, ?_, ?_, rfl, rfl, ?_⟩
  · rw [f_PT_useLine, if_neg ha, snd7 (k := 13) 5 _ o1 d1 (by decide) (by simpa using hn), k_bd_s, k_let_s, k_let_s, hL]
  · have hv : ¬ v.1 22 = 0 := by rw [← p11]; exact ha
    rw [f_Mod_use, if_neg hv, f_Mod_use_J13, k_let_s, if_neg (show ¬ (ss v 4 2).1 22 = 0 from hv), show (0 : Int32) = nI 0 from rfl, useL (v := v) 13 200 0 _ (by decide) (by decide), k_let_s]
    rw [← hw]
    have e23 : w.1 23 = u.1 10 := by rw [kw.1 23 (by decide), p10]
    have e0 : w.1 0 = u.1 0 := by rw [kw.1 0 (by decide), p0]
    rw [show (13 : Int32) = nI 13 from rfl, msnd (ty := 5) (n := n) (k := 13) (by rw [kw.1 16 (by decide)]; exact o2) (by decide) (by omega) (smK (k := 5) rfl (by decide)) (by rw [e23]; exact smK g10 (by omega)) (by rw [e0]; exact smK q0 (by omega)) (fun j hj => by rw [w3 j hj]; exact byt_sm (d2 j hj).2), k_bd_s, e23, e0, tk_eq (f := w.2 3) (g := u.2 2) w3, ← hL]
    rfl
  · have ro1 : Ro (n + 23) (ss (pL 0 25 u L) 9 0) (ss (pL 2 16 w L) 2 0) := by
      have := Ro_send (u := u) (v := w) L (Ro_kp (kp_rf u) kw (by decide) (by decide) (by decide) (by decide) ro) (by rw [lenL]; exact hn)
      rw [lenL] at this
      exact this
    have K1 : kp [25, 9, 11, 2] [0] u (ss (ss (ss (pL 0 25 u L) 9 0) 11 0) 2 2) := kp_tr (kp_tr (kp_tr (kp_pL _ _ _ _) (kp_ss _ _ _)) (kp_ss _ _ _)) (kp_ss _ _ _)
    have K2 : kp [4, 22, 16, 2] [3, 2] v (ss (pL 2 16 w L) 2 0) := kp_tr kw (kp_tr (kp_pL _ _ _ _) (kp_ss _ _ _))
    have v4 : (ss (pL 2 16 w L) 2 0).1 4 = 2 := by rw [ss_n _ _ (by decide), pL_n _ _ (by decide), hw, ss_n _ _ (by decide), (cpy_kp 3 5 13 0 _).1 4 (fun q => by cases q)]; rfl
    have v22 : (ss (pL 2 16 w L) 2 0).1 22 = 0 := by rw [ss_n _ _ (by decide), pL_n _ _ (by decide), hw]; rfl
    refine RM_line h (kp_sub K1 (by decide) (by decide)) (kp_sub K2 (by decide) (by decide)) v4.symm (by rw [K1.1 3 (by decide), K2.1 5 (by decide)]; exact p3) (by rw [K1.1 4 (by decide), K2.1 6 (by decide)]; exact p4) (by rw [K1.1 5 (by decide), K2.1 7 (by decide)]; exact p5) (by rw [K1.1 6 (by decide), K2.1 8 (by decide)]; exact p6) (by rw [K1.1 7 (by decide), K2.1 9 (by decide)]; exact p7) (by rw [K1.1 8 (by decide), K2.1 3 (by decide)]; exact p8) rfl v22.symm (fun m2 e hm2 => ?_) (Ro_kp (kp_tr (kp_ss _ _ _) (kp_ss _ _ _)) (kp_rf _) (by decide) (by decide) (by decide) (by decide) ro1) (Or.inl rfl)
    obtain ⟨o', a', b', t', s', z0, z3, z4, z5, z9, y0, y3, y4, y5, y9⟩ := RM_bd h m2 e hm2
    exact ⟨a', b', t', 0, by rw [K1.1 3 (by decide)]; exact z3, by rw [K1.1 4 (by decide)]; exact z4, by rw [K1.1 5 (by decide)]; exact z5, rfl, y3, y4, y5, by decide⟩
  · rw [ss_n _ _ (by decide), ss_n _ _ (by decide), ss_n _ _ (by decide), pL_n _ _ (by decide)]
theorem done33 {n k t : Nat} {u v : ST} (h : RM n u v) (hn : n + 23 ≤ 128) (h5 : u.1 5 = nI t) (ht : t ≤ 3) (ih : t < 3 → SET k 0 n 23 (ss (ss u 5 (nI (t + 1))) 2 1) (cl2 (ss (ss v 7 (nI (t + 1))) 4 1))) (hk : 1 ≤ k) : ∃ u1 v1 n1 cap1, f_PT_doneLine_J33 u = some (1, u1) ∧ f_Mod_done_J39 v = some (1, v1) ∧ SET k 0 n1 cap1 u1 (cl2 v1) ∧ n ≤ n1 ∧ n1 + cap1 ≤ n + 23 ∧ ((n1 = n ∧ u1.1 9 = u.1 9) ∨ u1.1 9 = 0) ∧ u1.1 13 = u.1 13 := by
  obtain ⟨o, m, a, b, t', s, q0, q1, q3, q4, q5, q9, l0, l1, l3, l4, l5, l9, q26, w0, w1, w5, w6, w7, w2, wsm, o1, o2, o3⟩ := RM_num h
  have p7 : u.1 7 = v.1 9 := h.1.2.2.2.2.2.2.2.1
  have v7 : v.1 7 = nI t := h.1.2.2.2.2.2.1.symm.trans h5
  unfold f_PT_doneLine_J33 f_Mod_done_J39
  by_cases c3 : t = 3
  · subst c3
    rw [if_pos (show (3 : Int32) ≤ u.1 5 by rw [h5]; decide), if_pos (show (3 : Int32) ≤ v.1 7 by rw [v7]; decide), q4, w6, behC q1 l1 l4, behM w1 l1 l4, k_bd_s, k_bd_s, k_bd_s, k_bd_s, q3, w5]
    by_cases e : nI (bh m b) = nI a
    · rw [if_pos e, if_pos e, ← p7]
      by_cases z : u.1 7 = 0
      · rw [if_pos z, if_pos z, q0, w0]
        have R1 : RM n (ss (ss (ss u 4 (nI o)) 5 (nI 1)) 6 0) (ss (ss (ss v 6 (nI o)) 8 0) 7 (nI 1)) := by
          rw [ss_swap (u := ss v 6 (nI o)) (j := 8) (k := 7) (by decide)]
          exact mv_tries (mv_tok (mv_polled h q1 l1 l0) (by decide)) 0
        refine ⟨psC (ss (ss (ss u 4 (nI o)) 5 (nI 1)) 6 0), ss (passM (ss (ss (ss v 6 (nI o)) 8 0) 7 (nI 1))) 4 4, n + 8, 0, ?_, ?_, (after_pass (pass_a R1 (by omega) (Or.inl rfl)) rfl rfl rfl).mono hk (by omega), by omega, by omega, Or.inr rfl, rfl⟩
        · rw [k_let_s, k_let_s, pass_C (u := ss (ss u 4 (nI o)) 5 1) (n := n) o1 q26 (by omega), k_bd_s]
          rfl
        · rw [k_let_s, k_let_s, k_let_s, pass_M (v := ss (ss (ss v 6 (nI o)) 8 0) 7 1) (n := n) (k := a) o2 o3 w5 (by omega) wsm, k_bd_s, k_let_s]
          rfl
      · rw [if_neg z, if_neg z, behC q1 l1 l3, behM w1 l1 l3, k_bd_s, k_bd_s]
        refine ⟨ss (ss (pollC u (nI (bh m a))) 3 (nI o)) 5 (nI 1), ss (ss (ss (pollM v (nI (bh m a))) 5 (nI o)) 7 (nI 1)) 4 6, n + 8, 0, ?_, ?_, (after_poll (poll_b h q1 l1 rfl (bh_le l3) (by omega) l0 (by decide)) rfl rfl).mono hk (by omega), by omega, by omega, Or.inr rfl, rfl⟩
        · rw [poll_C (n := n) o1 q26 (by omega), k_bd_s, k_let_s, k_let_s, show (pollC u (nI (bh m a))).1 0 = nI o from q0]
          rfl
        · rw [poll_M (n := n) o2 o3 (Nat.le_trans (bh_le l3) l1) wsm, k_bd_s, k_let_s, k_let_s, k_let_s, show (pollM v (nI (bh m a))).1 0 = nI o from w0]
          rfl
    · rw [if_neg e, if_neg e]
      refine ⟨pollC u (nI (bh m b)), ss (pollM v (nI (bh m b))) 4 6, n + 8, 0, ?_, ?_, (after_poll (poll_a h q1 l1 rfl (bh_le l4) (by omega) (Or.inl rfl)) rfl rfl).mono hk (by omega), by omega, by omega, Or.inr rfl, rfl⟩
      · rw [poll_C (n := n) o1 q26 (by omega), k_bd_s]
      · rw [poll_M (n := n) o2 o3 (Nat.le_trans (bh_le l4) l1) wsm, k_bd_s, k_let_s]
  · have ht3 : t < 3 := by omega
    rw [if_neg (show ¬ (3 : Int32) ≤ u.1 5 by rw [h5]; exact nI_ge (b := 3) ht3 (by decide)), if_neg (show ¬ (3 : Int32) ≤ v.1 7 by rw [v7]; exact nI_ge (b := 3) ht3 (by decide)), h5, v7, nI_1]
    simp only [k_let_s]
    rw [show (ss u 5 (nI (t + 1))).1 7 = u.1 7 from rfl, show (ss v 7 (nI (t + 1))).1 9 = v.1 9 from rfl, ← p7]
    by_cases z : u.1 7 = 0
    · rw [if_pos z, if_pos z]
      refine ⟨psC (ss (ss u 5 (nI (t + 1))) 6 0), ss (passM (ss (ss v 7 (nI (t + 1))) 8 0)) 4 4, n + 8, 0, ?_, ?_, (after_pass (pass_a (mv_tries (mv_tok h (by omega)) 0) (by omega) (Or.inl rfl)) rfl rfl rfl).mono hk (by omega), by omega, by omega, Or.inr rfl, rfl⟩
      · rw [pass_C (u := ss u 5 (nI (t + 1))) (n := n) o1 q26 (by omega), k_bd_s]
        rfl
      · rw [pass_M (v := ss (ss v 7 (nI (t + 1))) 8 0) (n := n) (k := a) o2 o3 w5 (by omega) wsm, k_bd_s]
    · rw [if_neg z, if_neg z]
      exact ⟨ss (ss u 5 (nI (t + 1))) 2 1, ss (ss v 7 (nI (t + 1))) 4 1, n, 23, rfl, rfl, ih ht3, by omega, by omega, Or.inl ⟨rfl, rfl⟩, rfl⟩
theorem done_set {n k t : Nat} {u v : ST} (h : RM n u v) (hn : n + 23 ≤ 128) (h2 : u.1 2 = 3) (h5 : u.1 5 = nI t) (ht : t ≤ 3) (ih : t < 3 → SET k 0 n 23 (ss (ss u 5 (nI (t + 1))) 2 1) (cl2 (ss (ss v 7 (nI (t + 1))) 4 1))) (hk : 1 ≤ k) : SET (k + 1) 0 n 23 u v := by
  obtain ⟨o, m, a, b, t', s, q0, q1, q3, q4, q5, q9, l0, l1, l3, l4, l5, l9, q26, w0, w1, w5, w6, w7, w2, wsm, o1, o2, o3⟩ := RM_num h
  obtain ⟨p0, p1', p2, p3, p4, p5, p6, p7, p8, p9, p10, p11, p12⟩ := h.1
  have v4 : v.1 4 = 3 := p2.symm.trans h2
  obtain ⟨u1, v1, n1, cap1, g1, g2, g3, g4, g5, g6, g7⟩ := done33 h hn h5 ht ih hk
  by_cases z : u.1 7 = 0
  · by_cases e : u.1 3 = u.1 0
    · refine SET.go (u1 := pollC u (nI (bh m o))) (v1 := ss (pollM v (nI (bh m o))) 4 6) (n1 := n + 8) (cap1 := 0) ?_ (stM3 v4 ?_ (Or.inr rfl)) ((after_poll (poll_a h q1 l1 rfl (bh_le l0) (by omega) (Or.inl rfl)) rfl rfl).mono hk (by omega)) (by omega) (by omega) (Or.inr rfl) rfl
      · rw [stC3 0 h2, f_PT_doneLine, if_pos z, if_pos e, q0, behC q1 l1 l0, k_bd_s, poll_C (n := n) o1 q26 (by omega), k_bd_s]
      · rw [f_Mod_done, if_pos (by rw [← p7]; exact z), if_pos (by rw [← p3, ← p0]; exact e), w0, behM w1 l1 l0, k_bd_s, poll_M (n := n) o2 o3 (Nat.le_trans (bh_le l0) l1) wsm, k_bd_s, k_let_s]
    · refine SET.go ?_ (stM3 v4 ?_ (Or.inr rfl)) g3 g4 g5 g6 g7
      · rw [stC3 0 h2, f_PT_doneLine, if_pos z, if_neg e, g1]
      · rw [f_Mod_done, if_pos (by rw [← p7]; exact z), if_neg (by rw [← p3, ← p0]; exact e), g2]
  · refine SET.go ?_ (stM3 v4 ?_ (Or.inr rfl)) g3 g4 g5 g6 g7
    · rw [stC3 0 h2, f_PT_doneLine, if_neg z, g1]
    · rw [f_Mod_done, if_neg (by rw [← p7]; exact z), g2]
theorem use_set {n k : Nat} {u v : ST} (h : RM n u v) (hn : n + 23 ≤ 128) (h2 : u.1 2 = 1) (ih : SET k 0 n 23 (ss u 2 3) (cl2 (ss v 4 3))) (hk : 1 ≤ k) : SET (k + 1) 0 n 23 u v := by
  obtain ⟨p0, p1', p2, p3, p4, p5, p6, p7, p8, p9, p10, p11, p12⟩ := h.1
  have v4 : v.1 4 = 1 := p2.symm.trans h2
  by_cases z : u.1 11 = 0
  · refine SET.go (u1 := ss u 2 3) (v1 := ss v 4 3) (n1 := n) (cap1 := 23) ?_ (stM1 v4 ?_ (Or.inr rfl)) ih (by omega) (by omega) (Or.inl ⟨rfl, rfl⟩) rfl
    · rw [stC1 0 h2, f_PT_useLine, if_pos z]; rfl
    · have z2 : v.1 22 = 0 := p11.symm.trans z
      rw [f_Mod_use, if_pos z2, f_Mod_use_J13, k_let_s, if_pos (show (ss v 4 3).1 22 = 0 from z2)]
  · obtain ⟨u1, v1, g1, g2, g3, g4, g5, g6⟩ := use_step h hn z
    refine SET.go (n1 := n + 23) (cap1 := 0) ?_ (stM1 v4 g2 (Or.inr rfl)) ((stop2 (s := 0) (RM_cl2 g3) g4 g5 (by decide) rfl rfl).mono hk (by omega)) (by omega) (by omega) (Or.inr g5) g6
    rw [stC1 0 h2, g1]
theorem done_use : ∀ (r n t : Nat) (u v : ST), t + r = 3 → RM n u v → u.1 5 = nI t → n + 23 ≤ 128 → (u.1 2 = 3 → SET (2 * r + 2) 0 n 23 u v) ∧ (u.1 2 = 1 → SET (2 * r + 3) 0 n 23 u v) := by
  intro r
  induction r with
  | zero =>
    intro n t u v ht h h5 hn
    have D : ∀ (u v : ST), RM n u v → u.1 5 = nI t → u.1 2 = 3 → SET (1 + 1) 0 n 23 u v := fun u v h h5 h2 => done_set h hn h2 h5 (by omega) (fun q => absurd q (by omega)) (by decide)
    exact ⟨fun h2 => D u v h h5 h2, fun h2 => use_set h hn h2 (D _ _ (RM_cl2 (mv_mode h 3)) h5 rfl) (by decide)⟩
  | succ r ih =>
    intro n t u v ht h h5 hn
    have D : ∀ (u v : ST), RM n u v → u.1 5 = nI t → u.1 2 = 3 → SET ((2 * r + 3) + 1) 0 n 23 u v := fun u v h h5 h2 => done_set h hn h2 h5 (by omega) (fun q => (ih n (t + 1) _ _ (by omega) (RM_cl2 (mv_mode (mv_tok h (by omega)) 1)) rfl hn).2 rfl) (by omega)
    exact ⟨fun h2 => D u v h h5 h2, fun h2 => use_set h hn h2 (D _ _ (RM_cl2 (mv_mode h 3)) h5 rfl) (by omega)⟩
theorem set_use {n : Nat} {u v : ST} (h : RM n u v) (hn : n + 23 ≤ 128) (h2 : u.1 2 = 1) : SET 9 0 n 23 u v := by
  obtain ⟨o, m, a, b, t, s, q0, q1, q3, q4, q5, q9, l0, l1, l3, l4, l5, -⟩ := RM_num h
  exact ((done_use (3 - t) n t u v (by omega) h q5 hn).2 h2).mono (by omega) (by omega)
theorem set_done {n : Nat} {u v : ST} (h : RM n u v) (hn : n + 23 ≤ 128) (h2 : u.1 2 = 3) : SET 9 0 n 23 u v := by
  obtain ⟨o, m, a, b, t, s, q0, q1, q3, q4, q5, q9, l0, l1, l3, l4, l5, -⟩ := RM_num h
  exact ((done_use (3 - t) n t u v (by omega) h q5 hn).1 h2).mono (by omega) (by omega)
