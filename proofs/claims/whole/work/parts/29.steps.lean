/-! lines of both sides, state by state -/
theorem stM0 {v w : ST} {a : Int32} (h : v.1 4 = 0) (hf : f_Mod_idle v = some (a, w)) (ha : isz a) : f_Mod_step v = some (a, w) := by
  unfold f_Mod_step
  rw [h, if_pos rfl, hf, k_bd_s, k_gd_t _ ha]
theorem stM1 {v w : ST} {a : Int32} (h : v.1 4 = 1) (hf : f_Mod_use v = some (a, w)) (ha : isz a) : f_Mod_step v = some (a, w) := by
  unfold f_Mod_step
  rw [h, if_neg (by decide), if_pos rfl, hf, k_bd_s, k_gd_t _ ha]
theorem stM2 {v w : ST} {a : Int32} (h : v.1 4 = 2) (hf : f_Mod_awaits v = some (a, w)) (ha : isz a) : f_Mod_step v = some (a, w) := by
  unfold f_Mod_step
  rw [h, if_neg (by decide), if_neg (by decide), if_pos rfl, hf, k_bd_s, k_gd_t _ ha]
theorem stM3 {v w : ST} {a : Int32} (h : v.1 4 = 3) (hf : f_Mod_done v = some (a, w)) (ha : isz a) : f_Mod_step v = some (a, w) := by
  unfold f_Mod_step
  rw [h, if_neg (by decide), if_neg (by decide), if_neg (by decide), if_pos rfl, hf, k_bd_s, k_gd_t _ ha]
theorem stM4 {v w : ST} {a : Int32} (h : v.1 4 = 4) (hf : f_Mod_passing v = some (a, w)) (ha : isz a) : f_Mod_step v = some (a, w) := by
  unfold f_Mod_step
  rw [h, if_neg (by decide), if_neg (by decide), if_neg (by decide), if_neg (by decide), if_pos rfl, hf, k_bd_s, k_gd_t _ ha]
theorem stM5 {v w : ST} {a : Int32} (h : v.1 4 = 5) (hf : f_Mod_lost v = some (a, w)) (ha : isz a) : f_Mod_step v = some (a, w) := by
  unfold f_Mod_step
  rw [h, if_neg (by decide), if_neg (by decide), if_neg (by decide), if_neg (by decide), if_neg (by decide), if_pos rfl, hf, k_bd_s, k_gd_t _ ha]
theorem stM6 {v w : ST} {a : Int32} (h : v.1 4 = 6) (hf : f_Mod_polling v = some (a, w)) (ha : isz a) : f_Mod_step v = some (a, w) := by
  unfold f_Mod_step
  rw [h, if_neg (by decide), if_neg (by decide), if_neg (by decide), if_neg (by decide), if_neg (by decide), if_neg (by decide), hf, k_bd_s, k_gd_t _ ha]
theorem stC0 {u : ST} (t : Int32) (h : u.1 2 = 0) : cst u t = f_PT_idleLine u t := by
  unfold cst
  rw [h, if_pos rfl]
theorem stC1 {u : ST} (t : Int32) (h : u.1 2 = 1) : cst u t = f_PT_useLine u := by
  unfold cst
  rw [h, if_neg (by decide), if_pos rfl]
theorem stC2 {u : ST} (t : Int32) (h : u.1 2 = 2) : cst u t = f_PT_waitLine u t := by
  unfold cst
  rw [h, if_neg (by decide), if_neg (by decide), if_pos rfl]
theorem stC3 {u : ST} (t : Int32) (h : u.1 2 = 3) : cst u t = f_PT_doneLine u := by
  unfold cst
  rw [h, if_neg (by decide), if_neg (by decide), if_neg (by decide), if_pos rfl]
theorem stC4 {u : ST} (t : Int32) (h : u.1 2 = 4) : cst u t = f_PT_passingLine u := by
  unfold cst
  rw [h, if_neg (by decide), if_neg (by decide), if_neg (by decide), if_neg (by decide), if_pos rfl]
theorem stC5 {u : ST} (t : Int32) (h : u.1 2 = 5) : cst u t = f_PT_lostLine u := by
  unfold cst
  rw [h, if_neg (by decide), if_neg (by decide), if_neg (by decide), if_neg (by decide), if_neg (by decide), if_pos rfl]
theorem stC6 {u : ST} (t : Int32) (h : u.1 2 = 6) : cst u t = (if t = 1 then f_PT_answeredLine u else f_PT_unansweredLine u t) := by
  unfold cst
  rw [h, if_neg (by decide), if_neg (by decide), if_neg (by decide), if_neg (by decide), if_neg (by decide), if_neg (by decide)]
theorem stop0 {n : Nat} {u v : ST} {t : Int32} {s : Nat} (h : RM n u v) (h2 : u.1 2 = 0) (h9 : u.1 9 = nI s) (hs : s < 500) (ht : t ≠ 1) (h14 : v.1 14 = 0) : SET 1 t n 0 u v := by
  have b := h.1
  refine SET.stop ?_ (stM0 (b.2.2.1.symm.trans h2) ?_ (Or.inl rfl)) h ⟨s, h9, Or.inl ⟨h2, hs⟩⟩
  · rw [stC0 t h2, f_PT_idleLine, if_neg ht, if_pos (show u.1 9 < 500 by rw [h9]; exact nI_lt (b := 500) hs (by decide))]
  · rw [f_Mod_idle, if_pos h14, if_neg (show ¬ (500 : Int32) ≤ v.1 2 by rw [← b.2.2.2.2.2.2.2.2.2.1, h9]; exact nI_ge (b := 500) hs (by decide))]
theorem stop2 {n : Nat} {u v : ST} {s : Nat} (h : RM n u v) (h2 : u.1 2 = 2) (h9 : u.1 9 = nI s) (hs : s < 255) (h14 : v.1 14 = 0) (h15 : v.1 15 = 0) : SET 1 0 n 0 u v := by
  have b := h.1
  refine SET.stop ?_ (stM2 (b.2.2.1.symm.trans h2) ?_ (Or.inl rfl)) h ⟨s, h9, Or.inr (Or.inl ⟨h2, hs⟩)⟩
  · rw [stC2 0 h2, f_PT_waitLine, if_neg (by decide), if_neg (by decide), if_pos (show u.1 9 < 255 by rw [h9]; exact nI_lt (b := 255) hs (by decide))]
  · rw [f_Mod_awaits, if_pos h14, if_pos h15, if_neg (show ¬ (255 : Int32) ≤ v.1 2 by rw [← b.2.2.2.2.2.2.2.2.2.1, h9]; exact nI_ge (b := 255) hs (by decide))]
theorem stop4 {n : Nat} {u v : ST} {t : Int32} {s : Nat} (h : RM n u v) (h2 : u.1 2 = 4) (h9 : u.1 9 = nI s) (hs : s < 20) (h8 : u.1 8 ≤ 4) : SET 1 t n 0 u v := by
  have b := h.1
  refine SET.stop ?_ (stM4 (b.2.2.1.symm.trans h2) ?_ (Or.inl rfl)) h ⟨s, h9, Or.inr (Or.inr (Or.inl ⟨h2, hs⟩))⟩
  · rw [stC4 t h2, f_PT_passingLine, if_neg (show ¬ (20 : Int32) ≤ u.1 9 by rw [h9]; exact nI_ge (b := 20) hs (by decide)), if_pos h8]
  · rw [f_Mod_passing, if_neg (show ¬ (20 : Int32) ≤ v.1 2 by rw [← b.2.2.2.2.2.2.2.2.2.1, h9]; exact nI_ge (b := 20) hs (by decide)), if_neg (show ¬ (4 : Int32) < v.1 3 by rw [← b.2.2.2.2.2.2.2.2.1]; exact Int32.not_lt.mpr h8)]
theorem nI_10 (o : Nat) : 500 + (10 * nI o) = nI (500 + 10 * o) := by
  rw [show (10 : Int32) = nI 10 from rfl, pk_mul, show (500 : Int32) = nI 500 from rfl, nI_add]
theorem stop5 {n : Nat} {u v : ST} {t : Int32} {s o : Nat} (h : RM n u v) (h2 : u.1 2 = 5) (h9 : u.1 9 = nI s) (h0 : u.1 0 = nI o) (ho : o ≤ 15) (hs : s < 500 + 10 * o) (h8 : u.1 8 ≤ 4) : SET 1 t n 0 u v := by
  have b := h.1
  refine SET.stop ?_ (stM5 (b.2.2.1.symm.trans h2) ?_ (Or.inl rfl)) h ⟨s, h9, Or.inr (Or.inr (Or.inr (Or.inl ⟨h2, by omega⟩)))⟩
  · rw [stC5 t h2, f_PT_lostLine, if_pos h8, h0, nI_10, if_pos (show u.1 9 < nI (500 + 10 * o) by rw [h9]; exact nI_lt hs (by omega))]
  · rw [f_Mod_lost, if_pos (show v.1 3 ≤ 4 by rw [← b.2.2.2.2.2.2.2.2.1]; exact h8), ← b.1, h0, nI_10, if_neg (show ¬ nI (500 + 10 * o) ≤ v.1 2 by rw [← b.2.2.2.2.2.2.2.2.2.1, h9]; exact nI_ge hs (by omega))]
theorem stop6 {n : Nat} {u v : ST} {s : Nat} (h : RM n u v) (h2 : u.1 2 = 6) (h9 : u.1 9 = nI s) (hs : s < 20) (h14 : v.1 14 = 0) (h15 : v.1 15 = 0) : SET 1 0 n 0 u v := by
  have b := h.1
  refine SET.stop ?_ (stM6 (b.2.2.1.symm.trans h2) ?_ (Or.inl rfl)) h ⟨s, h9, Or.inr (Or.inr (Or.inr (Or.inr ⟨h2, hs⟩)))⟩
  · rw [stC6 0 h2, if_neg (by decide), f_PT_unansweredLine, if_neg (by decide), if_neg (show ¬ (20 : Int32) ≤ u.1 9 by rw [h9]; exact nI_ge (b := 20) hs (by decide))]
  · rw [f_Mod_polling, if_pos h14, if_pos h15, if_neg (show ¬ (20 : Int32) ≤ v.1 2 by rw [← b.2.2.2.2.2.2.2.2.2.1, h9]; exact nI_ge (b := 20) hs (by decide))]
theorem kp_pollC (u : ST) (x : Int32) : kp [4, 25, 9, 2] [0] u (pollC u x) := kp_tr (kp_tr (kp_tr (kp_ss _ _ _) (kp_pL _ _ _ _)) (kp_ss _ _ _)) (kp_ss _ _ _)
theorem kp_pollM (v : ST) (x : Int32) : kp [6, 16, 2] [2] v (pollM v x) := kp_tr (kp_tr (kp_ss _ _ _) (kp_pL _ _ _ _)) (kp_ss _ _ _)
theorem kp_passC (u : ST) (t : Int32) : kp [6, 25, 9, 8, 2] [0] u (passC u t) := kp_tr (kp_tr (kp_tr (kp_tr (kp_ss _ _ _) (kp_pL _ _ _ _)) (kp_ss _ _ _)) (kp_ss _ _ _)) (kp_ss _ _ _)
theorem kp_passM (v : ST) : kp [16, 2, 3] [2] v (passM v) := kp_tr (kp_tr (kp_pL _ _ _ _) (kp_ss _ _ _)) (kp_ss _ _ _)
theorem Ro_poll {n k l : Nat} {u v : ST} (q : Ro n u v) (hn : n + 8 ≤ 128) (b0 : u.1 0 = v.1 0) (x : Int32) (hk : k ≠ 25) (y : Int32) : Ro (n + 8) (pollC u x) (pollM v x) := by
  unfold pollC pollM
  rw [← b0]
  have := Ro_send (frm 1 x (u.1 0) []) (Ro_ss x x q (k := 4) (l := 6) (by decide) (by decide)) hn
  exact Ro_kp (kp_ss _ 2 6) (kp_rf _) (by decide) (by decide) (by decide) (by decide) this

