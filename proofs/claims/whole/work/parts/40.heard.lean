/-! the states when a frame was heard -/
theorem hd_C {u v : ST} (hf : Fr u v) : f_Ear_type u = some (u.2 4 0) ∧ f_Ear_to u = some (u.2 4 1) ∧ f_Ear_from u = some (u.2 4 2) ∧ u.2 4 0 = v.2 0 0 ∧ u.2 4 1 = v.2 0 1 ∧ u.2 4 2 = v.2 0 2 ∧ byt (u.2 4 2) := by
  obtain ⟨n, hn, f1, f2, -⟩ := hf
  refine ⟨?_, ?_, ?_, (f2 0 (by decide)).1, (f2 1 (by decide)).1, (f2 2 (by decide)).1, (f2 2 (by decide)).2⟩
  · rw [f_Ear_type, show (0 : Int32) = nI 0 from rfl, at11 f1 (by decide) (by decide)]; rfl
  · rw [f_Ear_to, show (1 : Int32) = nI 1 from rfl, at11 f1 (by decide) (by decide)]; rfl
  · rw [f_Ear_from, show (2 : Int32) = nI 2 from rfl, at11 f1 (by decide) (by decide)]; rfl
/-- a frame goes out of IDLE -/
theorem send_line {n : Nat} {u v u1 v1 w : ST} {L : List Int32} (h : RM n u v) (hR : RM n u1 w) (hn : n + L.length ≤ 128) (hk : v1 = ss (pL 2 16 w L) 2 0) (h2 : u1.1 2 = 0) (hc : cst u 1 = some (1, ss (pL 0 25 u1 L) 9 0)) (hm : f_Mod_step v = some (1, v1)) (h13 : u1.1 13 = u.1 13) : SET 2 1 n L.length u v := by
  have K1 : kp [25, 9] [0] u1 (ss (pL 0 25 u1 L) 9 0) := kp_tr (kp_pL _ _ _ _) (kp_ss _ _ _)
  have K2 : kp [16, 2] [2] w v1 := by rw [hk]; exact kp_tr (kp_pL _ _ _ _) (kp_ss _ _ _)
  obtain ⟨p0, p1', p2, p3, p4, p5, p6, p7, p8, p9, p10, p11, p12⟩ := hR.1
  have R2 : RM (n + L.length) (ss (pL 0 25 u1 L) 9 0) v1 := by
    refine RM_line hR (kp_sub K1 (by decide) (by decide)) (kp_sub K2 (by decide) (by decide)) (by rw [K1.1 2 (by decide), K2.1 4 (by decide)]; exact p2) (by rw [K1.1 3 (by decide), K2.1 5 (by decide)]; exact p3) (by rw [K1.1 4 (by decide), K2.1 6 (by decide)]; exact p4) (by rw [K1.1 5 (by decide), K2.1 7 (by decide)]; exact p5) (by rw [K1.1 6 (by decide), K2.1 8 (by decide)]; exact p6) (by rw [K1.1 7 (by decide), K2.1 9 (by decide)]; exact p7) (by rw [K1.1 8 (by decide), K2.1 3 (by decide)]; exact p8) (by rw [hk]; rfl) (by rw [K1.1 11 (by decide), K2.1 22 (by decide)]; exact p11) (fun m e hm2 => ?_) (by rw [hk]; exact Ro_send L hR.2.2.1 hn) (Or.inr (K1.1 11 (by decide)))
    obtain ⟨o', a', b', t', s', z0, z3, z4, z5, z9, y0, y3, y4, y5, y9⟩ := RM_bd hR m e hm2
    exact ⟨a', b', t', 0, by rw [K1.1 3 (by decide)]; exact z3, by rw [K1.1 4 (by decide)]; exact z4, by rw [K1.1 5 (by decide)]; exact z5, rfl, y3, y4, y5, by decide⟩
  exact SET.go hc hm (stop0 (s := 0) (RM_cl2 R2) (by rw [K1.1 2 (by decide)]; exact h2) rfl (by decide) (by decide) rfl) (by omega) (by omega) (Or.inr rfl) (by rw [K1.1 13 (by decide)]; exact h13)
theorem echoL : ∀ (r e i k : Nat) (w : ST) (y : Int32), r < e → i + r = k → k ≤ 40 → w.1 13 = nI k → f_Mod_idle_L81 e w y (nI i) = k_bd (f_Mod_send (cpy 3 1 w i r) 4 y (nI k)) fun q17 => some (1, q17) := by
  intro r
  induction r with
  | zero =>
    intro e i k w y he hi hk h
    obtain ⟨e, rfl⟩ : ∃ e', e = e' + 1 := ⟨e - 1, by omega⟩
    rw [f_Mod_idle_L81, if_pos (show w.1 13 ≤ nI i by rw [h]; exact nI_le (by omega) (by omega)), h]
    rfl
  | succ r ih =>
    intro e i k w y he hi hk h
    obtain ⟨e, rfl⟩ : ∃ e', e = e' + 1 := ⟨e - 1, by omega⟩
    rw [f_Mod_idle_L81, if_neg (show ¬ w.1 13 ≤ nI i by rw [h]; exact nI_ge (by omega) (by omega)), k_gd_t _ (inbN (by omega) (by decide)), k_gd_t _ (inbN (by omega) (by decide)), k_let_s, nI_1, nI_clamp (by omega), ih e (i + 1) k (rs w 3 i (w.2 1 i)) y (by omega) (by omega) hk h]
    rfl
theorem RM_ans {n : Nat} {u v w : ST} (h : RM n u v) (k : kp [] [3] v w) : RM n u w := by
  obtain ⟨b, rb, ro, rq, rr, rt, re⟩ := h
  refine ⟨?_, rb, Ro_kp (kp_rf u) k (by decide) (by decide) (by decide) (by decide) ro, Rq_kp (kp_rf u) k (by decide) (by decide) (by decide) rq, Rr_kp (kp_rf u) k (by decide) (by decide) (by decide) (by decide) rr, Rt_kp (kp_rf u) k (by decide) (by decide) rt, Re_kp (kp_rf u) k (by decide) (by decide) (by decide) (by decide) re⟩
  unfold Bs at *
  have n0 : ∀ j : Nat, j ∉ ([] : List Nat) := fun _ h => by cases h
  simp only [k.1 _ (n0 _)]
  exact b
theorem set_idle1 {n : Nat} {u v : ST} (h : RM n u v) (hn : n + 50 ≤ 128) (h2 : u.1 2 = 0) (h9 : u.1 9 = nI 0) (h14 : v.1 14 = 1) (hf : Fr u v) : SET 10 1 n 50 u v := by
  obtain ⟨o, m, a, b, t', s, q0, q1, q3, q4, q5, q9, l0, l1, l3, l4, l5, l9, q26, w0, w1, w5, w6, w7, w2, wsm, o1, o2, o3⟩ := RM_num h
  obtain ⟨p0, p1', p2, p3, p4, p5, p6, p7, p8, p9, p10, p11, p12⟩ := h.1
  have v4 : v.1 4 = 0 := p2.symm.trans h2
  have w2' : v.1 2 = nI 0 := p9.symm.trans h9
  obtain ⟨c1, c2, c3, e0, e1, e2, hb2⟩ := hd_C hf
  have n14 : ¬ v.1 14 = 0 := by rw [h14]; decide
  have i0 : (0 : Int32).toNatClampNeg = 0 := rfl
  have i1 : (1 : Int32).toNatClampNeg = 1 := rfl
  have i2 : (2 : Int32).toNatClampNeg = 2 := rfl
  have smto : sm 16 (v.2 0 2) := by rw [← e2]; exact byt_sm hb2
  by_cases z : u.2 4 1 = u.1 0
  · have z2 : v.2 0 1 = v.1 0 := by rw [← e1, ← p0]; exact z
    have hcl : ∀ (r : Option (Int32 × ST)), f_PT_idleLine u 1 = (if u.2 4 0 = 0 then some (1, ss (ss u 7 0) 2 1) else if u.2 4 0 = 1 then k_bd (f_PT_send_5 u 2 (u.2 4 2)) fun q16 => some (1, q16) else if u.2 4 0 = 2 then some (1, u) else if u.2 4 0 = 3 then k_bd (f_PT_send_13 u 4 (u.2 4 2)) fun q21 => some (1, q21) else if u.2 4 0 = 4 then some (1, u) else if u.2 4 0 = 5 then k_bd (f_Desk_answerTo_13 u) fun q25 => k_bd (f_PT_sendAnswer_15 q25) fun q26 => some (1, q26) else some (1, u)) := by
      intro _
      rw [f_PT_idleLine, if_pos rfl, c2, k_bd_s, if_pos z, c1, k_bd_s, c3]
      rfl
    have hml : f_Mod_idle v = (if v.2 0 0 = 0 then some (1, ss (ss v 9 0) 4 1) else if v.2 0 0 = 1 then k_bd (f_Mod_send v 2 (v.2 0 2) 0) fun q19 => some (1, q19) else if v.2 0 0 = 3 then f_Mod_idle_L81 200 v (v.2 0 2) 0 else if v.2 0 0 = 5 then k_bd (f_Mod_makeAnswer v) fun q13 => if (q13.1 18) ≤ 0 then some (1, q13) else k_bd (f_Mod_send q13 6 (v.2 0 2) (q13.1 18)) fun q15 => some (1, q15) else some (1, v)) := by
      rw [f_Mod_idle, if_neg n14, k_gd_t _ (by decide), if_pos (show v.2 0 (1 : Int32).toNatClampNeg = v.1 0 from z2), k_gd_t _ (by decide), k_gd_t _ (by decide), k_gd_t _ (by decide), k_gd_t _ (by decide), k_gd_t _ (by decide)]
      rfl
    have hcl := hcl none
    rw [← e0] at hml
    have same : f_PT_idleLine u 1 = some (1, u) → f_Mod_idle v = some (1, v) → SET 10 1 n 50 u v := by
      intro r1 r2
      have := SET.go (t := 1) (u1 := u) (v1 := v) (n1 := n) (cap1 := 0) (cap := 50) (by rw [stC0 1 h2]; exact r1) (stM0 v4 r2 (Or.inr rfl)) (stop0 (s := 0) (RM_cl2 h) h2 h9 (by decide) (by decide) rfl) (by omega) (by omega) (Or.inl ⟨rfl, rfl⟩) rfl
      exact this.mono (by decide) (by decide)
    by_cases t0 : u.2 4 0 = 0
    · rw [if_pos t0] at hcl hml
      have S1 : SET (9 + 1) 1 n 50 u v := SET.go (n1 := n) (cap1 := 23) (by rw [stC0 1 h2]; exact hcl) (stM0 v4 hml (Or.inr rfl)) (set_use (RM_cl2 (mv_mode (mv_sole h 0) 1)) (by omega) rfl) (by omega) (by omega) (Or.inl ⟨rfl, rfl⟩) rfl
      exact S1.mono (by decide) (by decide)
    rw [if_neg t0] at hcl hml
    by_cases t1 : u.2 4 0 = 1
    · rw [if_pos t1] at hcl hml
      rw [snd5 (n := n) (k := 0) 2 _ o1 q26 (by decide) (by simp; omega), k_bd_s] at hcl
      rw [show (0 : Int32) = nI 0 from rfl, msnd (ty := 2) (n := n) (k := 0) o2 (by decide) (by omega) (smK (k := 2) rfl (by decide)) smto wsm (fun j hj => absurd hj (by omega)), k_bd_s, ← p0, ← e2] at hml
      have := send_line (u1 := u) (w := v) (L := frm 2 (u.2 4 2) (u.1 0) (tk (u.2 1) 0)) h h (by show n + 8 ≤ 128; omega) rfl h2 (by rw [stC0 1 h2]; exact hcl) (stM0 v4 hml (Or.inr rfl)) rfl
      exact this.mono (by decide) (by show 8 ≤ 50; decide)
    rw [if_neg t1] at hcl hml
    by_cases t2 : u.2 4 0 = 2
    · rw [if_pos t2] at hcl
      rw [if_neg (by rw [t2]; decide), if_neg (by rw [t2]; decide)] at hml
      exact same hcl hml
    rw [if_neg t2] at hcl
    by_cases t3 : u.2 4 0 = 3
    · rw [if_pos t3] at hcl hml
      obtain ⟨k, hk, f1, f2, f3, f4, f5, f6⟩ := hf
      obtain ⟨w, hw⟩ : ∃ x, x = cpy 3 1 v 0 k := ⟨_, rfl⟩
      have kw : kp [] [3] v w := by rw [hw]; exact cpy_kp 3 1 k 0 v
      have n0 : ∀ j : Nat, j ∉ ([] : List Nat) := fun _ h => by cases h
      have w3 : ∀ j, j < k → w.2 3 j = u.2 5 j := fun j hj => by rw [hw, (f6 j hj).1]; exact cpy_at (d := 3) (s := 1) (by decide) k 0 v (by omega) (by omega)
      have hl : (if k = 0 then 8 else 10 + k) ≤ 50 := by
        by_cases q : k = 0
        · rw [if_pos q]; omega
        · rw [if_neg q]; omega
      rw [snd13 (n := n) (k := k) 4 _ o1 f5 hk (by omega), k_bd_s] at hcl
      rw [show (0 : Int32) = nI 0 from rfl, echoL k 200 0 k v _ (by omega) (by omega) hk f4, ← hw, msnd (ty := 4) (n := n) (k := k) (by rw [kw.1 16 (n0 _)]; exact o2) (by omega) (by omega) (smK (k := 4) rfl (by decide)) smto (by rw [kw.1 0 (n0 _)]; exact wsm) (fun j hj => by rw [w3 j hj]; exact byt_sm (f6 j hj).2), k_bd_s, kw.1 0 (n0 _), ← p0, ← e2, tk_eq (f := w.2 3) (g := u.2 5) w3] at hml
      have hlen : (frm 4 (u.2 4 2) (u.1 0) (tk (u.2 5) k)).length ≤ 50 := by rw [frm_len, tk_len]; exact hl
      have := send_line (u1 := u) (w := w) (L := frm 4 (u.2 4 2) (u.1 0) (tk (u.2 5) k)) h (RM_ans h kw) (by omega) rfl h2 (by rw [stC0 1 h2]; exact hcl) (stM0 v4 hml (Or.inr rfl)) rfl
      exact this.mono (by decide) hlen
    rw [if_neg t3] at hcl hml
    by_cases t4 : u.2 4 0 = 4
    · rw [if_pos t4] at hcl
      rw [if_neg (by rw [t4]; decide)] at hml
      exact same hcl hml
    rw [if_neg t4] at hcl
    by_cases t5 : u.2 4 0 = 5
    · rw [if_pos t5] at hcl hml
      obtain ⟨u1, v1, L, d1, d2, d3, d4, d5, d6, d7, d8, d9, d10, d11⟩ := desk_step h hf
      rw [d1, k_bd_s, f_PT_sendAnswer_15, f_Row_size_15, k_bd_s, d3] at hcl
      rw [d2, k_bd_s, d4] at hml
      have h2' : u1.1 2 = 0 := (d10.1 2 (by decide)).trans h2
      by_cases z0 : L.length = 0
      · rw [z0, if_pos (by decide), k_bd_s] at hcl
        rw [z0, if_pos (by decide)] at hml
        exact (SET.go (t := 1) (n1 := n) (cap1 := 0) (by rw [stC0 1 h2]; exact hcl) (stM0 v4 hml (Or.inr rfl)) (stop0 (s := 0) (RM_cl2 d9) h2' ((d10.1 9 (by decide)).trans h9) (by decide) (by decide) rfl) (by omega) (cap := 50) (by omega) (Or.inl ⟨rfl, d10.1 9 (by decide)⟩) (d10.1 13 (by decide))).mono (by decide) (by decide)
      · have b1 : ¬ nI L.length ≤ 0 := nI_nle (by omega) (by omega)
        have fr1 : f_Ear_from u1 = some (u.2 4 2) := by
          rw [f_Ear_from, f_Row_at_11, d10.1 29 (by decide), d10.2 4 (by decide)]
          have := c3
          rw [f_Ear_from, f_Row_at_11] at this
          exact this
        obtain ⟨o1', o2', o3', -⟩ := d9.2.2.1
        rw [if_neg b1, fr1, k_bd_s, snd15 (n := n) (k := L.length) 6 _ o1' d3 d5 (by rw [if_neg z0]; omega), k_bd_s, k_bd_s, d6] at hcl
        rw [if_neg b1, msnd (ty := 6) (n := n) (k := L.length) o2' (by omega) (by omega) (smK (k := 6) rfl (by decide)) smto (by rw [d11.1 0 (by decide)]; exact wsm) (fun j hj => by
          have := tk_at (v1.2 3) hj
          rw [d7] at this
          exact byt_sm (d8 _ (List.mem_of_getElem? this))), k_bd_s, d7, d11.1 0 (by decide), ← p0, ← e2] at hml
        rw [d10.1 0 (by decide)] at hcl
        have hlen : (frm 6 (u.2 4 2) (u.1 0) L).length ≤ 50 := by rw [frm_len, if_neg z0]; omega
        exact (send_line (u1 := u1) (w := v1) (L := frm 6 (u.2 4 2) (u.1 0) L) h d9 (by omega) rfl h2' (by rw [stC0 1 h2]; exact hcl) (stM0 v4 hml (Or.inr rfl)) (d10.1 13 (by decide))).mono (by decide) hlen
    rw [if_neg t5] at hcl hml
    exact same hcl hml
  · have z2 : ¬ v.2 0 1 = v.1 0 := by rw [← e1, ← p0]; exact z
    refine (SET.stop ?_ (stM0 v4 ?_ (Or.inl rfl)) h ⟨0, h9, Or.inl ⟨h2, by decide⟩⟩).mono (by decide) (by decide)
    · rw [stC0 1 h2, f_PT_idleLine, if_pos rfl, c2, k_bd_s, if_neg z, if_pos (by rw [h9]; decide)]
    · rw [f_Mod_idle, if_neg n14, k_gd_t _ (by decide), if_neg (show ¬ v.2 0 (1 : Int32).toNatClampNeg = v.1 0 from z2), if_neg (by rw [w2']; decide)]
