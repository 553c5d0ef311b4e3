/-! polls and passes; USE and DONE -/
theorem poll_a {n k m : Nat} {u v w : ST} {x : Int32} (h : RM n u v) (hm : u.1 1 = nI m) (hm15 : m ≤ 15) (hx : x = nI k) (hk : k ≤ m) (hn : n + 8 ≤ 128) (hw : w = ss (pollM v x) 4 6 ∨ (w = pollM v x ∧ v.1 4 = 6)) : RM (n + 8) (pollC u x) w := by
  obtain ⟨p0, p1', p2, p3, p4, p5, p6, p7, p8, p9, p10, p11, p12⟩ := h.1
  obtain ⟨o, a, b, t, s, q0, q3, q4, q5, q9, l0, l3, l4, l5, l9⟩ := RM_bd h m hm hm15
  have ro : Ro (n + 8) (pollC u x) (pollM v x) := Ro_poll (k := 0) (l := 0) h.2.2.1 hn p0 x (by decide) 0
  have bd : ∀ m2 : Nat, u.1 1 = nI m2 → m2 ≤ 15 → ∃ a b t s : Nat, (pollC u x).1 3 = nI a ∧ (pollC u x).1 4 = nI b ∧ (pollC u x).1 5 = nI t ∧ (pollC u x).1 9 = nI s ∧ a ≤ m2 ∧ b ≤ m2 ∧ t ≤ 3 ∧ s ≤ 1000 := by
    intro m2 e hm2
    have : m2 = m := (nI_eq (by omega) (by omega)).mp (e.symm.trans hm)
    subst this
    exact ⟨a, k, t, 0, q3, hx, q5, rfl, l3, hk, l5, by decide⟩
  rcases hw with rfl | ⟨rfl, h4⟩
  · exact RM_line h (kp_sub (kp_pollC u x) (by decide) (by decide)) (kp_sub (kp_tr (kp_pollM v x) (kp_ss _ _ _)) (by decide) (by decide)) rfl p3 rfl p5 p6 p7 p8 rfl p11 bd (Ro_kp (kp_rf _) (kp_ss _ _ _) (by decide) (by decide) (by decide) (by decide) ro) (Or.inr rfl)
  · exact RM_line h (kp_sub (kp_pollC u x) (by decide) (by decide)) (kp_sub (kp_pollM v x) (by decide) (by decide)) h4.symm p3 rfl p5 p6 p7 p8 rfl p11 bd ro (Or.inr rfl)
theorem poll_b {n k m a c : Nat} {u v : ST} {x : Int32} (h : RM n u v) (hm : u.1 1 = nI m) (hm15 : m ≤ 15) (hx : x = nI k) (hk : k ≤ m) (hn : n + 8 ≤ 128) (ha : a ≤ m) (hc : c ≤ 3) : RM (n + 8) (ss (ss (pollC u x) 3 (nI a)) 5 (nI c)) (ss (ss (ss (pollM v x) 5 (nI a)) 7 (nI c)) 4 6) := by
  obtain ⟨p0, p1', p2, p3, p4, p5, p6, p7, p8, p9, p10, p11, p12⟩ := h.1
  have ro : Ro (n + 8) (pollC u x) (pollM v x) := Ro_poll (k := 0) (l := 0) h.2.2.1 hn p0 x (by decide) 0
  refine RM_line h (kp_sub (kp_tr (kp_tr (kp_pollC u x) (kp_ss _ _ _)) (kp_ss _ _ _)) (by decide) (by decide)) (kp_sub (kp_tr (kp_tr (kp_tr (kp_pollM v x) (kp_ss _ _ _)) (kp_ss _ _ _)) (kp_ss _ _ _)) (by decide) (by decide)) rfl rfl rfl rfl p6 p7 p8 rfl p11 ?_ (Ro_kp (kp_tr (kp_ss _ _ _) (kp_ss _ _ _)) (kp_tr (kp_tr (kp_ss _ _ _) (kp_ss _ _ _)) (kp_ss _ _ _)) (by decide) (by decide) (by decide) (by decide) ro) (Or.inr rfl)
  intro m2 e hm2
  have : m2 = m := (nI_eq (by omega) (by omega)).mp (e.symm.trans hm)
  subst this
  exact ⟨a, k, c, 0, rfl, hx, rfl, rfl, ha, hk, hc, by decide⟩
/-- the class's pass, over the state in which tries is set -/
def psC (u : ST) : ST := ss (ss (ss (pL 0 25 u (frm 0 (u.1 3) (u.1 0) [])) 9 0) 8 0) 2 4
theorem psC_eq (u : ST) (t : Int32) : passC u t = psC (ss u 6 t) := rfl
theorem pass_a {n : Nat} {u v w : ST} (h : RM n u v) (hn : n + 8 ≤ 128) (hw : w = ss (passM v) 4 4 ∨ (w = passM v ∧ v.1 4 = 4)) : RM (n + 8) (psC u) w := by
  obtain ⟨p0, p1', p2, p3, p4, p5, p6, p7, p8, p9, p10, p11, p12⟩ := h.1
  have ro : Ro (n + 8) (ss (pL 0 25 u (frm 0 (u.1 3) (u.1 0) [])) 9 0) (ss (pL 2 16 v (frm 0 (u.1 3) (u.1 0) [])) 2 0) := Ro_send (frm 0 (u.1 3) (u.1 0) []) h.2.2.1 hn
  have e : passM v = ss (ss (pL 2 16 v (frm 0 (u.1 3) (u.1 0) [])) 2 0) 3 0 := by unfold passM; rw [p0, p3]
  have K1 : kp [25, 9, 8, 2] [0] u (psC u) := kp_tr (kp_tr (kp_tr (kp_pL _ _ _ _) (kp_ss _ _ _)) (kp_ss _ _ _)) (kp_ss _ _ _)
  have bd : ∀ m : Nat, u.1 1 = nI m → m ≤ 15 → ∃ a b t s : Nat, (psC u).1 3 = nI a ∧ (psC u).1 4 = nI b ∧ (psC u).1 5 = nI t ∧ (psC u).1 9 = nI s ∧ a ≤ m ∧ b ≤ m ∧ t ≤ 3 ∧ s ≤ 1000 := by
    intro m hm hm15
    obtain ⟨o, a, b, t, s, q0, q3, q4, q5, q9, l0, l3, l4, l5, l9⟩ := RM_bd h m hm hm15
    exact ⟨a, b, t, 0, q3, q4, q5, rfl, l3, l4, l5, by decide⟩
  rcases hw with rfl | ⟨rfl, h4⟩
  · rw [e]
    exact RM_line h (kp_sub K1 (by decide) (by decide)) (kp_sub (kp_tr (kp_tr (kp_tr (kp_pL _ _ _ _) (kp_ss _ _ _)) (kp_ss _ _ _)) (kp_ss _ _ _)) (by decide) (by decide)) rfl p3 p4 p5 p6 p7 rfl rfl p11 bd (Ro_kp (kp_tr (kp_ss _ _ _) (kp_ss _ _ _)) (kp_tr (kp_ss _ _ _) (kp_ss _ _ _)) (by decide) (by decide) (by decide) (by decide) ro) (Or.inr rfl)
  · rw [e]
    exact RM_line h (kp_sub K1 (by decide) (by decide)) (kp_sub (kp_tr (kp_tr (kp_pL _ _ _ _) (kp_ss _ _ _)) (kp_ss _ _ _)) (by decide) (by decide)) h4.symm p3 p4 p5 p6 p7 rfl rfl p11 bd (Ro_kp (kp_tr (kp_ss _ _ _) (kp_ss _ _ _)) (kp_ss _ _ _) (by decide) (by decide) (by decide) (by decide) ro) (Or.inr rfl)
theorem after_poll {n : Nat} {u w : ST} (h : RM n u w) (h2 : u.1 2 = 6) (h9 : u.1 9 = 0) : SET 1 0 n 0 u (cl2 w) := stop6 (s := 0) (RM_cl2 h) h2 h9 (by decide) rfl rfl
theorem after_pass {n : Nat} {u w : ST} (h : RM n u w) (h2 : u.1 2 = 4) (h9 : u.1 9 = 0) (h8 : u.1 8 = 0) : SET 1 0 n 0 u (cl2 w) := stop4 (s := 0) (RM_cl2 h) h2 h9 (by decide) (by rw [h8]; decide)
/-- fields set alike on both sides -/
theorem mv_tok {n c : Nat} {u v : ST} (h : RM n u v) (hc : c ≤ 3) : RM n (ss u 5 (nI c)) (ss v 7 (nI c)) := by
  obtain ⟨p0, p1', p2, p3, p4, p5, p6, p7, p8, p9, p10, p11, p12⟩ := h.1
  refine RM_line h (kp_sub (kp_ss _ _ _) (by decide) (by decide)) (kp_sub (kp_ss _ _ _) (by decide) (by decide)) p2 p3 p4 rfl p6 p7 p8 p9 p11 (fun m hm hm15 => ?_) (Ro_ss _ _ h.2.2.1 (by decide) (by decide)) (Or.inr rfl)
  obtain ⟨o, a, b, t, s, q0, q3, q4, q5, q9, l0, l3, l4, l5, l9⟩ := RM_bd h m hm hm15
  exact ⟨a, b, c, s, q3, q4, rfl, q9, l3, l4, hc, l9⟩
theorem mv_mode {n : Nat} {u v : ST} (h : RM n u v) (x : Int32) : RM n (ss u 2 x) (ss v 4 x) := by
  obtain ⟨p0, p1', p2, p3, p4, p5, p6, p7, p8, p9, p10, p11, p12⟩ := h.1
  refine RM_line h (kp_sub (kp_ss _ _ _) (by decide) (by decide)) (kp_sub (kp_ss _ _ _) (by decide) (by decide)) rfl p3 p4 p5 p6 p7 p8 p9 p11 (fun m hm hm15 => ?_) (Ro_ss _ _ h.2.2.1 (by decide) (by decide)) (Or.inr rfl)
  obtain ⟨o, a, b, t, s, q0, q3, q4, q5, q9, l0, l3, l4, l5, l9⟩ := RM_bd h m hm hm15
  exact ⟨a, b, t, s, q3, q4, q5, q9, l3, l4, l5, l9⟩
theorem mv_tries {n : Nat} {u v : ST} (h : RM n u v) (x : Int32) : RM n (ss u 6 x) (ss v 8 x) := by
  obtain ⟨p0, p1', p2, p3, p4, p5, p6, p7, p8, p9, p10, p11, p12⟩ := h.1
  refine RM_line h (kp_sub (kp_ss _ _ _) (by decide) (by decide)) (kp_sub (kp_ss _ _ _) (by decide) (by decide)) p2 p3 p4 p5 rfl p7 p8 p9 p11 (fun m hm hm15 => ?_) (Ro_ss _ _ h.2.2.1 (by decide) (by decide)) (Or.inr rfl)
  obtain ⟨o, a, b, t, s, q0, q3, q4, q5, q9, l0, l3, l4, l5, l9⟩ := RM_bd h m hm hm15
  exact ⟨a, b, t, s, q3, q4, q5, q9, l3, l4, l5, l9⟩
theorem mv_sole {n : Nat} {u v : ST} (h : RM n u v) (x : Int32) : RM n (ss u 7 x) (ss v 9 x) := by
  obtain ⟨p0, p1', p2, p3, p4, p5, p6, p7, p8, p9, p10, p11, p12⟩ := h.1
  refine RM_line h (kp_sub (kp_ss _ _ _) (by decide) (by decide)) (kp_sub (kp_ss _ _ _) (by decide) (by decide)) p2 p3 p4 p5 p6 rfl p8 p9 p11 (fun m hm hm15 => ?_) (Ro_ss _ _ h.2.2.1 (by decide) (by decide)) (Or.inr rfl)
  obtain ⟨o, a, b, t, s, q0, q3, q4, q5, q9, l0, l3, l4, l5, l9⟩ := RM_bd h m hm hm15
  exact ⟨a, b, t, s, q3, q4, q5, q9, l3, l4, l5, l9⟩
theorem mv_ev {n : Nat} {u v : ST} (h : RM n u v) (x : Int32) : RM n (ss u 8 x) (ss v 3 x) := by
  obtain ⟨p0, p1', p2, p3, p4, p5, p6, p7, p8, p9, p10, p11, p12⟩ := h.1
  refine RM_line h (kp_sub (kp_ss _ _ _) (by decide) (by decide)) (kp_sub (kp_ss _ _ _) (by decide) (by decide)) p2 p3 p4 p5 p6 p7 rfl p9 p11 (fun m hm hm15 => ?_) (Ro_ss _ _ h.2.2.1 (by decide) (by decide)) (Or.inr rfl)
  obtain ⟨o, a, b, t, s, q0, q3, q4, q5, q9, l0, l3, l4, l5, l9⟩ := RM_bd h m hm hm15
  exact ⟨a, b, t, s, q3, q4, q5, q9, l3, l4, l5, l9⟩
theorem mv_polled {n m k : Nat} {u v : ST} (h : RM n u v) (hm : u.1 1 = nI m) (hm15 : m ≤ 15) (hk : k ≤ m) : RM n (ss u 4 (nI k)) (ss v 6 (nI k)) := by
  obtain ⟨p0, p1', p2, p3, p4, p5, p6, p7, p8, p9, p10, p11, p12⟩ := h.1
  refine RM_line h (kp_sub (kp_ss _ _ _) (by decide) (by decide)) (kp_sub (kp_ss _ _ _) (by decide) (by decide)) p2 p3 rfl p5 p6 p7 p8 p9 p11 (fun m2 e hm2 => ?_) (Ro_ss _ _ h.2.2.1 (by decide) (by decide)) (Or.inr rfl)
  have : m2 = m := (nI_eq (by omega) (by omega)).mp (e.symm.trans hm)
  subst this
  obtain ⟨o, a, b, t, s, q0, q3, q4, q5, q9, l0, l3, l4, l5, l9⟩ := RM_bd h m2 hm hm15
  exact ⟨a, k, t, s, q3, rfl, q5, q9, l3, hk, l5, l9⟩
theorem mv_next {n m k : Nat} {u v : ST} (h : RM n u v) (hm : u.1 1 = nI m) (hm15 : m ≤ 15) (hk : k ≤ m) : RM n (ss u 3 (nI k)) (ss v 5 (nI k)) := by
  obtain ⟨p0, p1', p2, p3, p4, p5, p6, p7, p8, p9, p10, p11, p12⟩ := h.1
  refine RM_line h (kp_sub (kp_ss _ _ _) (by decide) (by decide)) (kp_sub (kp_ss _ _ _) (by decide) (by decide)) p2 rfl p4 p5 p6 p7 p8 p9 p11 (fun m2 e hm2 => ?_) (Ro_ss _ _ h.2.2.1 (by decide) (by decide)) (Or.inr rfl)
  have : m2 = m := (nI_eq (by omega) (by omega)).mp (e.symm.trans hm)
  subst this
  obtain ⟨o, a, b, t, s, q0, q3, q4, q5, q9, l0, l3, l4, l5, l9⟩ := RM_bd h m2 hm hm15
  exact ⟨k, b, t, s, rfl, q4, q5, q9, hk, l4, l5, l9⟩
theorem ss_swap {u : ST} {j k : Nat} {x y : Int32} (h : j ≠ k) : ss (ss u j x) k y = ss (ss u k y) j x := by
  refine st_ext (fun i => ?_) (fun _ _ => rfl)
  rw [ss_1, ss_1, ss_1, ss_1]
  by_cases c : i = k
  · rw [if_pos c, if_neg (fun q => h (q.symm.trans c)), if_pos c]
  · rw [if_neg c]
    by_cases d : i = j
    · rw [if_pos d, if_pos d]
    · rw [if_neg d, if_neg d, if_neg c]
/-- numbers at hand -/
theorem RM_num {n : Nat} {u v : ST} (h : RM n u v) : ∃ o m a b t s : Nat, u.1 0 = nI o ∧ u.1 1 = nI m ∧ u.1 3 = nI a ∧ u.1 4 = nI b ∧ u.1 5 = nI t ∧ u.1 9 = nI s ∧ o ≤ m ∧ m ≤ 15 ∧ a ≤ m ∧ b ≤ m ∧ t ≤ 3 ∧ s ≤ 1000 ∧ u.1 26 = nI 0 ∧ v.1 0 = nI o ∧ v.1 1 = nI m ∧ v.1 5 = nI a ∧ v.1 6 = nI b ∧ v.1 7 = nI t ∧ v.1 2 = nI s ∧ sm 16 (v.1 0) ∧ u.1 25 = nI n ∧ v.1 16 = nI n ∧ n ≤ 128 := by
  obtain ⟨⟨p0, p1', p2, p3, p4, p5, p6, p7, p8, p9, p10, p11, p12⟩, ⟨o, m, a, b, t, s, r, g0, g1, g3, g4, g5, g9, g10, l1, l2, l3, l4, l5, l6, l7, l8⟩, ⟨o1, o2, o3, -⟩, -⟩ := h
  exact ⟨o, m, a, b, t, s, g0, g1, g3, g4, g5, g9, l1, l2, l3, l4, l5, l6, l8, p0.symm.trans g0, p1'.symm.trans g1, p3.symm.trans g3, p4.symm.trans g4, p5.symm.trans g5, p9.symm.trans g9, smK (p0.symm.trans g0) (by omega), o1, o2, o3⟩
