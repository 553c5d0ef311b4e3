/-! the lines of the states -/
/-- one line of the class, as its loop picks it -/
def cst (u : ST) (t : Int32) : Option (Int32 × ST) :=
  if (u.1 2) = 0 then f_PT_idleLine u t else if (u.1 2) = 1 then f_PT_useLine u else if (u.1 2) = 2 then f_PT_waitLine u t else if (u.1 2) = 3 then f_PT_doneLine u
  else if (u.1 2) = 4 then f_PT_passingLine u else if (u.1 2) = 5 then f_PT_lostLine u else if t = 1 then f_PT_answeredLine u else f_PT_unansweredLine u t
theorem set_C (k : Nat) (u : ST) (t : Int32) {i : Nat} (hi : i < 64) : f_PT_settle_L7 (k + 1) u t 1 (nI i) = k_bd (cst u t) fun q => f_PT_settle_L7 k q.2 0 q.1 (nI (i + 1)) := by
  rw [f_PT_settle_L7, if_neg (by decide), if_neg (show ¬ (64 : Int32) ≤ nI i from nI_ge (b := 64) hi (by decide)), nI_1]
  unfold cst
  by_cases c0 : u.1 2 = 0
  · rw [if_pos c0, if_pos c0]
  · rw [if_neg c0, if_neg c0]
    by_cases c1 : u.1 2 = 1
    · rw [if_pos c1, if_pos c1]
    · rw [if_neg c1, if_neg c1]
      by_cases c2 : u.1 2 = 2
      · rw [if_pos c2, if_pos c2]
      · rw [if_neg c2, if_neg c2]
        by_cases c3 : u.1 2 = 3
        · rw [if_pos c3, if_pos c3]
        · rw [if_neg c3, if_neg c3]
          by_cases c4 : u.1 2 = 4
          · rw [if_pos c4, if_pos c4]
          · rw [if_neg c4, if_neg c4]
            by_cases c5 : u.1 2 = 5
            · rw [if_pos c5, if_pos c5]
            · rw [if_neg c5, if_neg c5]
              by_cases c6 : t = 1
              · rw [if_pos c6, if_pos c6]
              · rw [if_neg c6, if_neg c6]
/-- the model's state with what was heard forgotten -/
def cl2 (v : ST) : ST := ss (ss v 14 0) 15 0
theorem kp_cl2 (v : ST) : kp [14, 15] [] v (cl2 v) := kp_tr (kp_ss _ _ _) (kp_ss _ _ _)
theorem RM_cl2 {n : Nat} {u v : ST} (h : RM n u v) : RM n u (cl2 v) := by
  obtain ⟨b, rb, ro, rq, rr, rt, re⟩ := h
  have K := kp_cl2 v
  exact ⟨b, rb, Ro_kp (kp_rf u) K (by decide) (by decide) (by decide) (by decide) ro, Rq_kp (kp_rf u) K (by decide) (by decide) (by decide) rq, Rr_kp (kp_rf u) K (by decide) (by decide) (by decide) (by decide) rr, Rt_kp (kp_rf u) K (by decide) (by decide) rt, Re_kp (kp_rf u) K (by decide) (by decide) (by decide) (by decide) re⟩
/-- both settle, in at most k lines, alike; at most cap bytes more are sent -/
def SET (k : Nat) (t : Int32) (n cap : Nat) (u v : ST) : Prop := ∃ (u1 v1 : ST) (n1 : Nat), (∀ e i, k ≤ e → i + k ≤ 64 → f_PT_settle_L7 (e + 1) u t 1 (nI i) = some u1) ∧ (∀ e, k ≤ e → f_Mod_settle_L2 (e + 1) v 1 = some v1) ∧ RM n1 u1 v1 ∧ Rx u1 ∧ n ≤ n1 ∧ n1 ≤ n + cap ∧ (n1 = n ∨ u1.1 9 = 0) ∧ (u1.1 9 = u.1 9 ∨ u1.1 9 = 0) ∧ u1.1 13 = u.1 13
theorem SET.mono {k k2 : Nat} {t : Int32} {n cap cap2 : Nat} {u v : ST} (h : SET k t n cap u v) (hk : k ≤ k2) (hc : cap ≤ cap2) : SET k2 t n cap2 u v := by
  obtain ⟨u1, v1, n1, h1, h2, h3, h4, h5, h6, h7, h8, h9⟩ := h
  exact ⟨u1, v1, n1, fun e i a b => h1 e i (by omega) (by omega), fun e a => h2 e (by omega), h3, h4, h5, by omega, h7, h8, h9⟩
theorem SET.stop {t : Int32} {n : Nat} {u v : ST} (hc : cst u t = some (0, u)) (hm : f_Mod_step v = some (0, v)) (hR : RM n u v) (hx : Rx u) : SET 1 t n 0 u v := by
  refine ⟨u, cl2 v, n, fun e i a b => ?_, fun e a => ?_, RM_cl2 hR, hx, by omega, by omega, Or.inl rfl, Or.inl rfl, rfl⟩
  · obtain ⟨e, rfl⟩ : ∃ e', e = e' + 1 := ⟨e - 1, by omega⟩
    rw [set_C _ _ _ (by omega), hc, k_bd_s, f_PT_settle_L7, if_pos rfl]
  · obtain ⟨e, rfl⟩ : ∃ e', e = e' + 1 := ⟨e - 1, by omega⟩
    rw [f_Mod_settle_L2, if_neg (by decide), hm, k_bd_s, k_let_s, k_let_s, f_Mod_settle_L2, if_pos rfl]
    rfl
theorem SET.go {k : Nat} {t : Int32} {n n1 cap cap1 : Nat} {u v u1 v1 : ST} (hc : cst u t = some (1, u1)) (hm : f_Mod_step v = some (1, v1)) (h : SET k 0 n1 cap1 u1 (cl2 v1)) (hn : n ≤ n1) (hcap : n1 + cap1 ≤ n + cap) (h9 : (n1 = n ∧ u1.1 9 = u.1 9) ∨ u1.1 9 = 0) (h13 : u1.1 13 = u.1 13) : SET (k + 1) t n cap u v := by
  obtain ⟨u2, v2, n2, g1, g2, g3, g4, g5, g6, g7, g8, g9⟩ := h
  refine ⟨u2, v2, n2, fun e i a b => ?_, fun e a => ?_, g3, g4, by omega, by omega, ?_, ?_, g9.trans h13⟩
  · obtain ⟨e, rfl⟩ : ∃ e', e = e' + 1 := ⟨e - 1, by omega⟩
    rw [set_C _ _ _ (by omega), hc, k_bd_s]
    exact g1 e (i + 1) (by omega) (by omega)
  · obtain ⟨e, rfl⟩ : ∃ e', e = e' + 1 := ⟨e - 1, by omega⟩
    rw [f_Mod_settle_L2, if_neg (by decide), hm, k_bd_s, k_let_s, k_let_s]
    exact g2 e (by omega)
  · rcases h9 with ⟨a, b⟩ | b
    · rcases g7 with c | c
      · exact Or.inl (c.trans a)
      · exact Or.inr c
    · rcases g8 with c | c
      · exact Or.inr (c.trans b)
      · exact Or.inr c
  · rcases h9 with ⟨a, b⟩ | b
    · rcases g8 with c | c
      · exact Or.inl (c.trans b)
      · exact Or.inr c
    · rcases g8 with c | c
      · exact Or.inr (c.trans b)
      · exact Or.inr c
/-- a line keeps the relation -/
theorem RM_line {n n1 : Nat} {u v u1 v1 : ST} (h : RM n u v) (K1 : kp [2, 3, 4, 5, 6, 7, 8, 9, 11, 25] [0] u u1) (K2 : kp [2, 3, 4, 5, 6, 7, 8, 9, 14, 15, 16, 22] [2, 3] v v1)
    (x2 : u1.1 2 = v1.1 4) (x3 : u1.1 3 = v1.1 5) (x4 : u1.1 4 = v1.1 6) (x5 : u1.1 5 = v1.1 7) (x6 : u1.1 6 = v1.1 8) (x7 : u1.1 7 = v1.1 9) (x8 : u1.1 8 = v1.1 3) (x9 : u1.1 9 = v1.1 2) (x11 : u1.1 11 = v1.1 22)
    (hb : ∀ m : Nat, u.1 1 = nI m → m ≤ 15 → ∃ a b t s : Nat, u1.1 3 = nI a ∧ u1.1 4 = nI b ∧ u1.1 5 = nI t ∧ u1.1 9 = nI s ∧ a ≤ m ∧ b ≤ m ∧ t ≤ 3 ∧ s ≤ 1000) (ro : Ro n1 u1 v1) (rq1 : u1.1 11 = 0 ∨ u1.1 11 = u.1 11) : RM n1 u1 v1 := by
  obtain ⟨b, rb, -, rq, rr, rt, re⟩ := h
  obtain ⟨p0, p1', p2, p3, p4, p5, p6, p7, p8, p9, p10, p11, p12⟩ := b
  obtain ⟨o, m, a, b', t, s, r, g0, g1, g3, g4, g5, g9, g10, l1, l2, l3, l4, l5, l6, l7, l8⟩ := rb
  refine ⟨⟨by rw [K1.1 0 (by decide), K2.1 0 (by decide)]; exact p0, by rw [K1.1 1 (by decide), K2.1 1 (by decide)]; exact p1', x2, x3, x4, x5, x6, x7, x8, x9, by rw [K1.1 10 (by decide), K2.1 23 (by decide)]; exact p10, x11, by rw [K1.1 12 (by decide), K2.1 0 (by decide)]; exact p12⟩, ?_, ro, ?_, Rr_kp K1 K2 (by decide) (by decide) (by decide) (by decide) rr, Rt_kp K1 K2 (by decide) (by decide) rt, Re_kp K1 K2 (by decide) (by decide) (by decide) (by decide) re⟩
  · obtain ⟨a2, b2, t2, s2, q1, q2, q3, q4, q5, q6, q7, q8⟩ := hb m g1 l2
    exact ⟨o, m, a2, b2, t2, s2, r, by rw [K1.1 0 (by decide)]; exact g0, by rw [K1.1 1 (by decide)]; exact g1, q1, q2, q3, q4, by rw [K1.1 10 (by decide)]; exact g10, l1, l2, q5, q6, q7, q8, l7, by rw [K1.1 26 (by decide)]; exact l8⟩
  · rcases rq1 with c | c
    · exact Or.inl c
    · rcases rq with d | ⟨d1, d2⟩
      · exact Or.inl (c.trans d)
      · refine Or.inr ⟨by rw [K1.1 27 (by decide)]; exact d1, ?_⟩
        rw [K1.2 2 (by decide), K2.2 5 (by decide)]
        exact d2
theorem RM_bd {n : Nat} {u v : ST} (h : RM n u v) : ∀ m : Nat, u.1 1 = nI m → m ≤ 15 → ∃ o a b t s : Nat, u.1 0 = nI o ∧ u.1 3 = nI a ∧ u.1 4 = nI b ∧ u.1 5 = nI t ∧ u.1 9 = nI s ∧ o ≤ m ∧ a ≤ m ∧ b ≤ m ∧ t ≤ 3 ∧ s ≤ 1000 := by
  obtain ⟨-, ⟨o, m, a, b', t, s, r, g0, g1, g3, g4, g5, g9, g10, l1, l2, l3, l4, l5, l6, l7, l8⟩, -⟩ := h
  intro m2 e hm
  have : m2 = m := (nI_eq (by omega) (by omega)).mp (e.symm.trans g1)
  subst this
  exact ⟨o, a, b', t, s, g0, g3, g4, g5, g9, l1, l3, l4, l5, l6⟩
/-! what the lines are made of -/
def bh (m k : Nat) : Nat := if k < m then k + 1 else 0
theorem bh_le {m k : Nat} (h : k ≤ m) : bh m k ≤ m := by
  unfold bh
  by_cases c : k < m
  · rw [if_pos c]; omega
  · rw [if_neg c]; omega
theorem behC {u : ST} {m k : Nat} (h : u.1 1 = nI m) (hm : m ≤ 15) (hk : k ≤ m) : f_PT_behind u (nI k) = some (nI (bh m k)) := by
  unfold f_PT_behind bh
  rw [h]
  by_cases c : k < m
  · rw [if_pos c, if_pos (nI_lt c (by omega)), nI_1]
  · rw [if_neg c, if_neg (nI_nlt (by omega) (by omega))]; rfl
theorem behM {v : ST} {m k : Nat} (h : v.1 1 = nI m) (hm : m ≤ 15) (hk : k ≤ m) : f_Mod_behind v (nI k) = some (nI (bh m k)) := by
  unfold f_Mod_behind bh
  rw [h]
  by_cases c : k < m
  · rw [if_pos c, if_neg (fun q => by have := (nI_eq (by omega) (by omega)).mp q; omega), nI_1]
  · rw [if_neg c, if_pos (by congr 1; omega)]; rfl
def pollC (u : ST) (x : Int32) : ST := ss (ss (pL 0 25 (ss u 4 x) (frm 1 x (u.1 0) [])) 9 0) 2 6
def pollM (v : ST) (x : Int32) : ST := ss (pL 2 16 (ss v 6 x) (frm 1 x (v.1 0) [])) 2 0
def passC (u : ST) (t : Int32) : ST := ss (ss (ss (pL 0 25 (ss u 6 t) (frm 0 (u.1 3) (u.1 0) [])) 9 0) 8 0) 2 4
def passM (v : ST) : ST := ss (ss (pL 2 16 v (frm 0 (v.1 5) (v.1 0) [])) 2 0) 3 0
theorem poll_C {u : ST} {n : Nat} (h : u.1 25 = nI n) (h26 : u.1 26 = nI 0) (hn : n + 8 ≤ 128) (x : Int32) : f_PT_poll u x = some (pollC u x) := by
  unfold f_PT_poll
  rw [k_let_s, snd5 (n := n) (k := 0) 1 x (by rw [ss_n _ _ (by decide)]; exact h) (by rw [ss_n _ _ (by decide)]; exact h26) (by decide) (by simpa using hn), k_bd_s, k_let_s]
  rfl
theorem pass_C {u : ST} {n : Nat} (h : u.1 25 = nI n) (h26 : u.1 26 = nI 0) (hn : n + 8 ≤ 128) (x : Int32) : f_PT_pass u x = some (passC u x) := by
  unfold f_PT_pass
  rw [k_let_s, snd5 (n := n) (k := 0) 0 _ (by rw [ss_n _ _ (by decide)]; exact h) (by rw [ss_n _ _ (by decide)]; exact h26) (by decide) (by simpa using hn), k_bd_s, k_let_s, k_let_s]
  rfl
theorem smK {x : Int32} {k : Nat} (e : x = nI k) (h : k < 65536) : sm 16 x := ⟨k, h, e⟩
theorem poll_M {v : ST} {n k : Nat} (h : v.1 16 = nI n) (hn : n ≤ 128) (hk : k ≤ 15) (h0 : sm 16 (v.1 0)) : f_Mod_poll v (nI k) = some (pollM v (nI k)) := by
  unfold f_Mod_poll
  rw [k_let_s, show (0 : Int32) = nI 0 from rfl, msnd (ty := 1) (n := n) (k := 0) (by rw [ss_n _ _ (by decide)]; exact h) (by decide) (by omega) (smK (k := 1) rfl (by decide)) (smK (k := k) rfl (by omega)) (by rw [ss_n _ _ (by decide)]; exact h0) (fun j hj => absurd hj (by omega)), k_bd_s]
  rfl
theorem pass_M {v : ST} {n k : Nat} (h : v.1 16 = nI n) (hn : n ≤ 128) (h5 : v.1 5 = nI k) (hk : k ≤ 15) (h0 : sm 16 (v.1 0)) : f_Mod_pass v = some (passM v) := by
  unfold f_Mod_pass
  rw [show (0 : Int32) = nI 0 from rfl, msnd (n := n) (k := 0) h (by decide) (by omega) (smK (k := 0) rfl (by decide)) (smK h5 (by omega)) h0 (fun j hj => absurd hj (by omega)), k_bd_s, k_let_s]
  rfl
theorem frm8 (ty to own : Int32) : (frm ty to own []).length = 8 := rfl
theorem Ro_send {n : Nat} {u v : ST} (L : List Int32) (q : Ro n u v) (hn : n + L.length ≤ 128) : Ro (n + L.length) (ss (pL 0 25 u L) 9 0) (ss (pL 2 16 v L) 2 0) := Ro_ss 0 0 (Ro_pL L q hn) (by decide) (by decide)
