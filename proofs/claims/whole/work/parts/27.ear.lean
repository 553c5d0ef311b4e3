/-! the ear -/
theorem isForMe_M (v : ST) : f_Mod_isForMe v = some (if v.2 0 1 = v.1 0 ∨ v.2 0 1 = 255 then 1 else 0) := by
  show k_gd (inb 1 6) (if v.2 0 1 = v.1 0 then some 1 else k_gd (inb 1 6) (if v.2 0 1 = 255 then some 1 else some 0)) = _
  rw [k_gd_t _ (by decide)]
  by_cases c : v.2 0 1 = v.1 0
  · rw [if_pos c, if_pos (Or.inl c)]
  · rw [if_neg c, k_gd_t _ (by decide)]
    by_cases d : v.2 0 1 = 255
    · rw [if_pos d, if_pos (Or.inr d)]
    · rw [if_neg d, if_neg]
      rintro (h | h)
      · exact c h
      · exact d h
theorem ended_C {u : ST} (h : u.1 29 = nI 5) : f_Ear_ended u = some (if u.2 4 1 = u.1 12 ∨ u.2 4 1 = 255 then 1 else 0) := by
  have ha : f_Ear_to u = some (u.2 4 1) := by
    unfold f_Ear_to
    rw [show (1 : Int32) = nI 1 from rfl, at11 h (by decide) (by decide)]; rfl
  unfold f_Ear_ended
  rw [ha, k_bd_s]
  by_cases c : u.2 4 1 = u.1 12
  · rw [if_pos c, if_pos (Or.inl c)]
  · rw [if_neg c, k_bd_s]
    by_cases d : u.2 4 1 = 255
    · rw [if_pos d, if_pos (Or.inr d)]
    · rw [if_neg d, if_neg]
      rintro (h | h)
      · exact c h
      · exact d h
theorem dataBytes_C {u : ST} (h : u.1 29 = nI 5) : f_Ear_dataBytes u = some ((256 * u.2 4 3) + u.2 4 4) := by
  unfold f_Ear_dataBytes
  rw [show (3 : Int32) = nI 3 from rfl, at11 h (by decide) (by decide), k_bd_s, show (4 : Int32) = nI 4 from rfl, at11 h (by decide) (by decide), k_bd_s]
theorem n256 (a c : Nat) : (256 * nI a) + nI c = nI (256 * a + c) := by
  rw [show (256 : Int32) = nI 256 from rfl, pk_mul, nI_add]
theorem endH_st {v : ST} {e i : Nat} {c : Int32} (hi : i < 5) (hc : sm 16 c) (hb : sm 16 (v.2 0 i)) : f_Mod_endHeader_L6 (e + 1) v c (nI i) = f_Mod_endHeader_L6 e v (wb 129 c (v.2 0 i)) (nI (i + 1)) := by
  rw [f_Mod_endHeader_L6, if_neg (show ¬ (5 : Int32) ≤ nI i from nI_ge (b := 5) hi (by decide)), k_gd_t _ (inbN (by omega) (by decide)), nI_clamp (by omega), wb_H hc hb, k_bd_s, nI_1]
theorem endH_M {v : ST} (hb : ∀ i, i < 5 → sm 16 (v.2 0 i)) : f_Mod_endHeader v = k_let (ss v 13 ((256 * v.2 0 3) + v.2 0 4)) fun u2 => if v.2 0 5 = (255 - crc 129 255 (tk (v.2 0) 5)) then (if (256 * v.2 0 3) + v.2 0 4 ≤ 40 then f_Mod_endHeader_J78 u2 0 else f_Mod_endHeader_J73 u2) else f_Mod_endHeader_J73 u2 := by
  have s0 : sm 16 (255 : Int32) := ⟨255, by decide, rfl⟩
  have s1 := sm_wb sm129 s0 (hb 0 (by decide))
  have s2 := sm_wb sm129 s1 (hb 1 (by decide))
  have s3 := sm_wb sm129 s2 (hb 2 (by decide))
  have s4 := sm_wb sm129 s3 (hb 3 (by decide))
  show f_Mod_endHeader_L6 200 v 255 (nI 0) = _
  rw [endH_st (e := 199) (by decide) s0 (hb 0 (by decide)), endH_st (e := 198) (by decide) s1 (hb 1 (by decide)), endH_st (e := 197) (by decide) s2 (hb 2 (by decide)), endH_st (e := 196) (by decide) s3 (hb 3 (by decide)), endH_st (e := 195) (by decide) s4 (hb 4 (by decide))]
  rw [f_Mod_endHeader_L6, if_pos (by decide), k_gd_t _ (by decide), k_gd_t _ (by decide), k_let_s, k_gd_t _ (by decide), k_let_s]
  rfl
def endF (v : ST) (c : Int32) : Option ST := k_gd (inb (v.1 13) 42) (
      if (v.2 1 (v.1 13).toNatClampNeg) = ((65535 - c) - (65535 - c) / 256 * 256) then
        k_gd (inb ((v.1 13) + 1) 42) (
        if (v.2 1 ((v.1 13) + 1).toNatClampNeg) = ((65535 - c) / 256) then
          f_Mod_endData_J78 v 0
        else
        f_Mod_endData_J73 v)
      else
      f_Mod_endData_J73 v)
theorem endD_L {v : ST} {n : Nat} (h13 : v.1 13 = nI n) (hn : n ≤ 40) (hb : ∀ i, i < n → sm 16 (v.2 1 i)) : ∀ (r e i : Nat) (c : Int32), r < e → i + r = n → sm 16 c → f_Mod_endData_L5 e v c (nI i) = endF v (crc 33800 c (tkd (v.2 1) i r)) := by
  intro r
  induction r with
  | zero =>
    intro e i c he hi hc
    obtain ⟨e, rfl⟩ : ∃ e', e = e' + 1 := ⟨e - 1, by omega⟩
    rw [f_Mod_endData_L5, if_pos (show v.1 13 ≤ nI i by rw [h13]; exact nI_le (by omega) (by omega))]
    rfl
  | succ r ih =>
    intro e i c he hi hc
    obtain ⟨e, rfl⟩ : ∃ e', e = e' + 1 := ⟨e - 1, by omega⟩
    rw [f_Mod_endData_L5, if_neg (show ¬ v.1 13 ≤ nI i by rw [h13]; exact nI_ge (by omega) (by omega)), k_gd_t _ (inbN (by omega) (by decide)), nI_clamp (by omega), wb_D hc (hb i (by omega)), k_bd_s, nI_1, ih e (i + 1) _ (by omega) (by omega) (sm_wb sm33800 hc (hb i (by omega)))]
    rfl
theorem endD_M {v : ST} {n : Nat} (h13 : v.1 13 = nI n) (hn : n ≤ 40) (hb : ∀ i, i < n → sm 16 (v.2 1 i)) : f_Mod_endData v = endF v (crc 33800 65535 (tk (v.2 1) n)) := by
  rw [← tkd_0]
  exact endD_L h13 hn hb n 200 0 65535 (by omega) (by omega) ⟨65535, by decide, rfl⟩
theorem sub64 {x : Int32} (h : sm 16 x) : ∃ c : Nat, c < 65536 ∧ 65535 - x = nI c := by
  obtain ⟨n, hn, rfl⟩ := h
  exact ⟨65535 - n, by omega, by rw [show (65535 : Int32) = nI 65535 from rfl, pk_sub (by omega)]⟩
/-- the class's way to hold the two bytes of a check against it, and the reference's -/
theorem chk {l g x : Int32} (hl : byt l) (hg : byt g) (hx : sm 16 x) : (l + (256 * g) = 65535 - x) ↔ (l = (65535 - x) - (65535 - x) / 256 * 256 ∧ g = (65535 - x) / 256) := by
  obtain ⟨c, hc, e⟩ := sub64 hx
  obtain ⟨a, ha, rfl⟩ := hl
  obtain ⟨b, hb, rfl⟩ := hg
  rw [e, show nI a + 256 * nI b = nI (a + 256 * b) by rw [show (256 : Int32) = nI 256 from rfl, pk_mul, nI_add], show nI c - nI c / 256 * 256 = nI (c % 256) from pk_rem (d := 256) (by omega) (by decide) (by decide), show nI c / 256 = nI (c / 256) from pk_div (d := 256) (by omega) (by decide) (by decide), nI_eq (by omega) (by omega), nI_eq (by omega) (by omega), nI_eq (by omega) (by omega)]
  omega
theorem ear_take {u v : ST} {b : Int32} (hb : byt b) (he : Re u v) (h12 : u.1 12 = v.1 0) (h14 : v.1 14 = 0) (h15 : v.1 15 = 0) : ∃ (t : Int32) (u1 v1 : ST), f_Ear_take u b = some (t, u1) ∧ f_Mod_listen v b = some v1 ∧ kp [13, 14, 15, 29, 30] [4, 5] u u1 ∧ kp [10, 13, 14, 15] [0, 1] v v1 ∧ Re u1 v1 ∧ ((t = 0 ∧ v1.1 14 = 0 ∧ v1.1 15 = 0) ∨ (t = 1 ∧ v1.1 14 = 1 ∧ v1.1 15 = 0 ∧ Fr u1 v1) ∨ (t = 2 ∧ v1.1 14 = 0 ∧ v1.1 15 = 1)) := by
  rcases he with ⟨e1, e2⟩ | ⟨e1, e2⟩ | ⟨h, hh, e1, e2, e3, e4, e5, e6⟩ | ⟨e1, e2, e3, e4, e5, e6⟩ | ⟨n, d, hd, hn, e1, e2, e3, e4⟩ | ⟨n, h0, hn, e1, e2, e3, e4⟩ | ⟨n, h0, hn, e1, e2, e3, e4, e5, e6⟩
  · by_cases c : b = 85
    · refine ⟨0, ss u 13 1, ss v 10 1, ?_, ?_, kp_sub (kp_ss _ _ _) (by decide) (by decide), kp_sub (kp_ss _ _ _) (by decide) (by decide), Or.inr (Or.inl ⟨rfl, rfl⟩), Or.inl ⟨rfl, h14, h15⟩⟩
      · rw [f_Ear_take, e1, if_pos rfl, if_pos c]; rfl
      · rw [f_Mod_listen, e2, if_pos rfl, if_pos c]; rfl
    · refine ⟨0, ss u 13 0, ss v 10 0, ?_, ?_, kp_sub (kp_ss _ _ _) (by decide) (by decide), kp_sub (kp_ss _ _ _) (by decide) (by decide), Or.inl ⟨rfl, rfl⟩, Or.inl ⟨rfl, h14, h15⟩⟩
      · rw [f_Ear_take, e1, if_pos rfl, if_neg c]; rfl
      · rw [f_Mod_listen, e2, if_pos rfl, if_neg c]; rfl
  · by_cases c : b = 255
    · refine ⟨0, ss (ss (ss (ss u 13 2) 29 0) 30 0) 14 255, ss v 10 2, ?_, ?_, kp_sub (kp_tr (kp_tr (kp_tr (kp_ss _ _ _) (kp_ss _ _ _)) (kp_ss _ _ _)) (kp_ss _ _ _)) (by decide) (by decide), kp_sub (kp_ss _ _ _) (by decide) (by decide), Or.inr (Or.inr (Or.inl ⟨0, by decide, rfl, rfl, rfl, rfl, fun i hi => absurd hi (by omega), rfl⟩)), Or.inl ⟨rfl, h14, h15⟩⟩
      · rw [f_Ear_take, e1, if_neg (by decide), if_pos rfl, f_Ear_takeSecond, if_pos c]; rfl
      · rw [f_Mod_listen, e2, if_neg (by decide), if_pos rfl, if_pos c]; rfl
    · by_cases c2 : b = 85
      · refine ⟨0, u, ss v 10 1, ?_, ?_, kp_sub (kp_rf _) (by decide) (by decide), kp_sub (kp_ss _ _ _) (by decide) (by decide), Or.inr (Or.inl ⟨e1, rfl⟩), Or.inl ⟨rfl, h14, h15⟩⟩
        · rw [f_Ear_take, e1, if_neg (by decide), if_pos rfl, f_Ear_takeSecond, if_neg c, if_pos c2]; rfl
        · rw [f_Mod_listen, e2, if_neg (by decide), if_pos rfl, if_neg c, if_pos c2]; rfl
      · refine ⟨0, ss u 13 0, ss v 10 0, ?_, ?_, kp_sub (kp_ss _ _ _) (by decide) (by decide), kp_sub (kp_ss _ _ _) (by decide) (by decide), Or.inl ⟨rfl, rfl⟩, Or.inl ⟨rfl, h14, h15⟩⟩
        · rw [f_Ear_take, e1, if_neg (by decide), if_pos rfl, f_Ear_takeSecond, if_neg c, if_neg c2]; rfl
        · rw [f_Mod_listen, e2, if_neg (by decide), if_pos rfl, if_neg c, if_neg c2]; rfl
  · -- a byte of the header
    have pc : (p1 4 29 u b).1 29 = nI (h + 1) := by rw [p1_c, e2, nI_1]
    have pa : (p1 4 29 u b).2 4 = upd (u.2 4) h b := by rw [p1_a, e2, nI_clamp (by omega)]
    have hC : f_Ear_takeHeader u b = if h = 4 then some (ss (ss (p1 4 29 u b) 14 (wb 129 (u.1 14) b)) 13 3) else some (ss (p1 4 29 u b) 14 (wb 129 (u.1 14) b)) := by
      unfold f_Ear_takeHeader
      rw [put11 b e2 hh, k_bd_s, wb_C, k_bd_s, k_let_s, f_Row_size_11, k_bd_s, ss_n _ _ (by decide), pc, p1_n _ _ (by decide)]
      by_cases c : h = 4
      · rw [if_pos c, if_pos (by rw [c]; rfl)]; rfl
      · rw [if_neg c, if_neg (show ¬ nI (h + 1) = 5 from fun q => c (by have := (nI_eq (b := 5) (by omega) (by decide)).mp q; omega))]
    have hV : f_Mod_listen v b = some (ss (rs v 0 h b) 10 (nI (3 + h))) := by
      unfold f_Mod_listen
      rw [e4, if_neg (show ¬ nI (2 + h) = 0 from nI_ne0 (by omega) (by omega)), if_neg (show ¬ nI (2 + h) = 1 from fun q => by have := (nI_eq (b := 1) (by omega) (by decide)).mp q; omega), if_neg (show ¬ (8 : Int32) ≤ nI (2 + h) from nI_ge (b := 8) (by omega) (by decide))]
      rw [show nI (2 + h) - 2 = nI h from by rw [show (2 : Int32) = nI 2 from rfl, pk_sub (by omega)]; congr 1; omega, k_gd_t _ (inbN (by omega) (by decide)), k_let_s, k_let_s, nI_clamp (by omega)]
      have z : (rs v 0 h b).1 10 + 1 = nI (3 + h) := by rw [rs_1, e4, nI_1]; congr 1; omega
      rw [z, if_neg]
      rw [ss_s]
      exact fun q => by have := (nI_eq (b := 8) (by omega) (by decide)).mp q; omega
    have hbn : ∀ i, i < h + 1 → upd (u.2 4) h b i = upd (v.2 0) h b i ∧ byt (upd (u.2 4) h b i) := by
      intro i hi
      by_cases c : i = h
      · subst c; rw [pk_us, pk_us]; exact ⟨rfl, hb⟩
      · rw [pk_un c, pk_un c]; exact e5 i (by omega)
    have hck : wb 129 (u.1 14) b = crc 129 255 (tk (upd (u.2 4) h b) (h + 1)) := by
      rw [tk_succ, crc_app, crc_one, pk_us, e6]
      congr 2
      exact tk_eq (fun i hi => (pk_un (by omega)).symm)
    by_cases c : h = 4
    · subst c
      refine ⟨0, ss (ss (p1 4 29 u b) 14 (wb 129 (u.1 14) b)) 13 3, ss (rs v 0 4 b) 10 (nI 7), ?_, hV, kp_sub (kp_tr (kp_tr (kp_pL 4 29 u [b]) (kp_ss _ _ _)) (kp_ss _ _ _)) (by decide) (by decide), kp_sub (kp_tr (kp_rs _ _ _ _) (kp_ss _ _ _)) (by decide) (by decide), Or.inr (Or.inr (Or.inr (Or.inl ⟨rfl, pc, ?_, rfl, ?_, ?_⟩))), Or.inl ⟨rfl, h14, h15⟩⟩
      · rw [f_Ear_take, e1, if_neg (by decide), if_neg (by decide), if_pos rfl, hC, if_pos rfl]; rfl
      · exact (p1_n (a := 4) (c := 29) (j := 30) u b (by decide)).trans e3
      · intro i hi
        show (p1 4 29 u b).2 4 i = upd (v.2 0) 4 b i ∧ byt ((p1 4 29 u b).2 4 i)
        rw [pa]; exact hbn i hi
      · show wb 129 (u.1 14) b = crc 129 255 (tk ((p1 4 29 u b).2 4) 5)
        rw [pa]; exact hck
    · refine ⟨0, ss (p1 4 29 u b) 14 (wb 129 (u.1 14) b), ss (rs v 0 h b) 10 (nI (3 + h)), ?_, hV, kp_sub (kp_tr (kp_pL 4 29 u [b]) (kp_ss _ _ _)) (by decide) (by decide), kp_sub (kp_tr (kp_rs _ _ _ _) (kp_ss _ _ _)) (by decide) (by decide), Or.inr (Or.inr (Or.inl ⟨h + 1, by omega, ?_, pc, ?_, ?_, ?_, ?_⟩)), Or.inl ⟨rfl, h14, h15⟩⟩
      · rw [f_Ear_take, e1, if_neg (by decide), if_neg (by decide), if_pos rfl, hC, if_neg c]; rfl
      · exact (p1_n (a := 4) (c := 29) (j := 13) u b (by decide)).trans e1
      · exact (p1_n (a := 4) (c := 29) (j := 30) u b (by decide)).trans e3
      · show nI (3 + h) = nI (2 + (h + 1))
        congr 1; omega
      · intro i hi
        show (p1 4 29 u b).2 4 i = upd (v.2 0) h b i ∧ byt ((p1 4 29 u b).2 4 i)
        rw [pa]; exact hbn i hi
      · show wb 129 (u.1 14) b = crc 129 255 (tk ((p1 4 29 u b).2 4) (h + 1))
        rw [pa]; exact hck
  · -- the header's check
    obtain ⟨a, ha, ea⟩ := (e5 3 (by decide)).2
    obtain ⟨c, hc, ec⟩ := (e5 4 (by decide)).2
    have eN : (256 * u.2 4 3) + u.2 4 4 = nI (256 * a + c) := by rw [ea, ec, n256]
    obtain ⟨w, hw⟩ : ∃ x, x = ss (rs v 0 5 b) 10 (nI 8) := ⟨_, rfl⟩
    have w5 : w.2 0 5 = b := by rw [hw]; exact pk_us (f := v.2 0) (k := 5)
    have wi : ∀ i, i < 5 → w.2 0 i = u.2 4 i := fun i hi => by rw [hw, (e5 i hi).1]; exact pk_un (by omega)
    have kw1 : kp [10] [0] v w := by rw [hw]; exact kp_tr (kp_rs _ _ _ _) (kp_ss _ _ _)
    have w10 : w.1 10 = nI 8 := by rw [hw]; rfl
    have hV : f_Mod_listen v b = k_bd (f_Mod_endHeader w) fun q11 => some q11 := by
      unfold f_Mod_listen
      rw [e4, if_neg (by decide), if_neg (by decide), if_neg (by decide), k_gd_t _ (by decide), k_let_s, k_let_s]
      have z : ss (rs v 0 (nI 7 - 2).toNatClampNeg b) 10 ((rs v 0 (nI 7 - 2).toNatClampNeg b).1 10 + 1) = w := by
        rw [hw, rs_1, e4]; rfl
      rw [z, if_pos (by rw [w10]; rfl)]
    rw [endH_M (fun i hi => by rw [wi i hi]; exact byt_sm (e5 i hi).2)] at hV
    rw [k_let_s, w5, wi 3 (by decide), wi 4 (by decide), tk_eq (f := w.2 0) (g := u.2 4) wi, ← e6] at hV
    obtain ⟨u1, hu1⟩ : ∃ x, x = ss u 13 0 := ⟨_, rfl⟩
    have ku1 : kp [13] [] u u1 := by rw [hu1]; exact kp_ss _ _ _
    have hC : f_Ear_take u b = k_bd (if b = (255 - u.1 14) then (if nI (256 * a + c) ≤ 40 then (if nI (256 * a + c) = 0 then k_bd (f_Ear_ended u1) fun q9 => some (q9, u1) else some (0, ss (ss u1 13 4) 14 65535)) else some (2, u1)) else some (2, u1)) fun q10 => some (q10.1, q10.2) := by
      rw [f_Ear_take, e1, if_neg (by decide), if_neg (by decide), if_neg (by decide), if_pos rfl, f_Ear_takeHeaderCheck, k_let_s, ← hu1, dataBytes_C (by rw [ku1.1 29 (by decide)]; exact e2), k_bd_s, k_bd_s, ku1.1 14 (by decide), ku1.2 4 (by decide), eN]
      rfl
    rw [eN] at hV
    have w13 : ∀ x : Int32, kp [13, 15, 14, 10] [] w (ss (ss (ss (ss w 13 x) 15 1) 14 0) 10 0) := fun x => kp_tr (kp_tr (kp_tr (kp_ss _ _ _) (kp_ss _ _ _)) (kp_ss _ _ _)) (kp_ss _ _ _)
    have inv : f_Ear_take u b = some (2, u1) → f_Mod_listen v b = k_bd (f_Mod_endHeader_J73 (ss w 13 (nI (256 * a + c)))) (fun q11 => some q11) → ∃ (t : Int32) (u1 v1 : ST), f_Ear_take u b = some (t, u1) ∧ f_Mod_listen v b = some v1 ∧ kp [13, 14, 15, 29, 30] [4, 5] u u1 ∧ kp [10, 13, 14, 15] [0, 1] v v1 ∧ Re u1 v1 ∧ ((t = 0 ∧ v1.1 14 = 0 ∧ v1.1 15 = 0) ∨ (t = 1 ∧ v1.1 14 = 1 ∧ v1.1 15 = 0 ∧ Fr u1 v1) ∨ (t = 2 ∧ v1.1 14 = 0 ∧ v1.1 15 = 1)) := by
      intro i1 i2
      refine ⟨2, u1, ss (ss (ss (ss w 13 (nI (256 * a + c))) 15 1) 14 0) 10 0, i1, i2.trans rfl, kp_sub ku1 (by decide) (by decide), kp_sub (kp_tr kw1 (w13 _)) (by decide) (by decide), Or.inl ⟨by rw [hu1]; rfl, rfl⟩, Or.inr (Or.inr ⟨rfl, rfl, rfl⟩)⟩
    by_cases c1 : b = 255 - u.1 14
    · rw [if_pos c1] at hC hV
      by_cases c2 : nI (256 * a + c) ≤ 40
      · rw [if_pos c2] at hC hV
        have hK : 256 * a + c ≤ 40 := (nI_leI (b := 40) (by omega) (by decide)).mp c2
        have f1 : u1.1 29 = nI 5 := by rw [ku1.1 29 (by decide)]; exact e2
        by_cases c3 : nI (256 * a + c) = 0
        · have k0 : 256 * a + c = 0 := (nI_eq (b := 0) (by omega) (by decide)).mp c3
          rw [if_pos c3, ended_C f1, k_bd_s] at hC
          have hI : f_Mod_listen v b = some (ss (ss (ss (ss w 13 (nI (256 * a + c))) 15 0) 14 (if u.2 4 1 = v.1 0 ∨ u.2 4 1 = 255 then 1 else 0)) 10 0) := by
            rw [hV]
            unfold f_Mod_endHeader_J78
            rw [k_gd_t _ (by decide), k_let_s, if_pos (ss_s _ _ _), ss_n _ _ (show 13 ≠ 15 by decide), ss_s, if_pos c3, isForMe_M, k_bd_s]
            have g1 : (ss (ss w 13 (nI (256 * a + c))) 15 0).2 0 1 = u.2 4 1 := wi 1 (by decide)
            have g2 : (ss (ss w 13 (nI (256 * a + c))) 15 0).1 0 = v.1 0 := kw1.1 0 (by decide)
            rw [g1, g2]
            by_cases q : u.2 4 1 = v.1 0 ∨ u.2 4 1 = 255
            · rw [if_pos q, if_neg (by decide)]
              unfold f_Mod_endHeader_J108
              rw [k_gd_t _ (by decide), k_let_s, if_pos (show (ss (ss (ss w 13 (nI (256 * a + c))) 15 0) 14 1).1 15 = 0 from rfl), if_pos (show (ss (ss (ss w 13 (nI (256 * a + c))) 15 0) 14 1).1 13 = 0 from c3)]
              rfl
            · rw [if_neg q, if_pos rfl]
              unfold f_Mod_endHeader_J107 f_Mod_endHeader_J108
              rw [k_gd_t _ (by decide), k_let_s, if_pos (show (ss (ss (ss w 13 (nI (256 * a + c))) 15 0) 14 0).1 15 = 0 from rfl), if_pos (show (ss (ss (ss w 13 (nI (256 * a + c))) 15 0) 14 0).1 13 = 0 from c3)]
              rfl
          rw [ku1.1 12 (by decide), ku1.2 4 (by decide), h12] at hC
          have K2 : ∀ y : Int32, kp [10, 13, 14, 15] [0, 1] v (ss (ss (ss (ss w 13 (nI (256 * a + c))) 15 0) 14 y) 10 0) := fun y => kp_sub (kp_tr kw1 (kp_tr (kp_tr (kp_tr (kp_ss _ _ _) (kp_ss _ _ _)) (kp_ss _ _ _)) (kp_ss _ _ _))) (by decide) (by decide)
          by_cases q : u.2 4 1 = v.1 0 ∨ u.2 4 1 = 255
          · rw [if_pos q] at hC hI
            refine ⟨1, u1, _, hC, hI, kp_sub ku1 (by decide) (by decide), K2 _, Or.inl ⟨by rw [hu1]; rfl, rfl⟩, Or.inr (Or.inl ⟨rfl, rfl, rfl, 0, by decide, f1, ?_, ?_, ?_, ?_, fun i hi => absurd hi (by omega)⟩)⟩
            · intro i hi
              rw [ku1.2 4 (by decide)]
              exact ⟨(wi i hi).symm, (e5 i hi).2⟩
            · rw [ku1.2 4 (by decide), eN, k0]
            · show nI (256 * a + c) = nI 0
              rw [k0]
            · rw [ku1.1 30 (by decide), e3]; rfl
          · rw [if_neg q] at hC hI
            exact ⟨0, u1, _, hC, hI, kp_sub ku1 (by decide) (by decide), K2 _, Or.inl ⟨by rw [hu1]; rfl, rfl⟩, Or.inl ⟨rfl, rfl, rfl⟩⟩
        · rw [if_neg c3] at hC
          have k0 : 0 < 256 * a + c := Nat.pos_of_ne_zero (fun q => c3 (by rw [q]; rfl))
          have hI : f_Mod_listen v b = some (ss (ss (ss (ss w 13 (nI (256 * a + c))) 15 0) 14 0) 10 (nI 8)) := by
            rw [hV]
            unfold f_Mod_endHeader_J78
            rw [k_gd_t _ (by decide), k_let_s, if_pos (ss_s _ _ _), ss_n _ _ (show 13 ≠ 15 by decide), ss_s, if_neg c3]
            unfold f_Mod_endHeader_J107 f_Mod_endHeader_J108
            rw [k_gd_t _ (by decide), k_let_s, if_pos (show (ss (ss (ss w 13 (nI (256 * a + c))) 15 0) 14 0).1 15 = 0 from rfl), if_neg (show ¬ (ss (ss (ss w 13 (nI (256 * a + c))) 15 0) 14 0).1 13 = 0 from c3), k_let_s, k_bd_s, show (ss (ss (ss w 13 (nI (256 * a + c))) 15 0) 14 0).1 10 = w.1 10 from rfl, w10]
          refine ⟨0, ss (ss u1 13 4) 14 65535, _, hC, hI, kp_sub (kp_tr ku1 (kp_tr (kp_ss _ _ _) (kp_ss _ _ _))) (by decide) (by decide), kp_sub (kp_tr kw1 (kp_tr (kp_tr (kp_tr (kp_ss _ _ _) (kp_ss _ _ _)) (kp_ss _ _ _)) (kp_ss _ _ _))) (by decide) (by decide), Or.inr (Or.inr (Or.inr (Or.inr (Or.inl ⟨256 * a + c, 0, k0, hK, rfl, ⟨f1, ?_, ?_, rfl, ?_, fun i hi => absurd hi (by omega)⟩, rfl, rfl⟩)))), Or.inl ⟨rfl, rfl, rfl⟩⟩
          · intro i hi
            show u1.2 4 i = w.2 0 i ∧ byt (u1.2 4 i)
            rw [ku1.2 4 (by decide)]
            exact ⟨(wi i hi).symm, (e5 i hi).2⟩
          · show (256 * u1.2 4 3) + u1.2 4 4 = _
            rw [ku1.2 4 (by decide), eN]
          · show u1.1 30 = nI 0
            rw [ku1.1 30 (by decide), e3]; rfl
      · rw [if_neg c2] at hC hV
        exact inv hC hV
    · rw [if_neg c1] at hC hV
      exact inv hC hV
  · -- a byte of the data
    obtain ⟨f1, f2, f3, f4, f5, f6⟩ := e2
    have pc : (p1 5 30 u b).1 30 = nI (d + 1) := by rw [p1_c, f5, nI_1]
    have pa : (p1 5 30 u b).2 5 = upd (u.2 5) d b := by rw [p1_a, f5, nI_clamp (by omega)]
    have p4 : (p1 5 30 u b).2 4 = u.2 4 := p1_m u b (by decide)
    have hC : f_Ear_takeData u b = if d + 1 < n then some (ss (p1 5 30 u b) 14 (wb 33800 (u.1 14) b)) else some (ss (ss (p1 5 30 u b) 14 (wb 33800 (u.1 14) b)) 13 5) := by
      unfold f_Ear_takeData
      rw [put13 b f5 (by omega), k_bd_s, wb_C, k_bd_s, k_let_s, f_Row_size_13, k_bd_s, dataBytes_C (by rw [ss_n _ _ (by decide), p1_n _ _ (by decide)]; exact f1), k_bd_s, ss_n _ _ (by decide), pc, p1_n _ _ (by decide), ss_2, p4, f3]
      by_cases c : d + 1 < n
      · rw [if_pos c, if_pos (nI_lt c (by omega))]
      · rw [if_neg c, if_neg (nI_nlt (by omega) (by omega))]; rfl
    have hV : f_Mod_listen v b = some (ss (rs v 1 d b) 10 (nI (9 + d))) := by
      unfold f_Mod_listen
      rw [e3, if_neg (show ¬ nI (8 + d) = 0 from nI_ne0 (by omega) (by omega)), if_neg (show ¬ nI (8 + d) = 1 from fun q => by have := (nI_eq (b := 1) (by omega) (by decide)).mp q; omega), if_pos (show (8 : Int32) ≤ nI (8 + d) from nI_le (a := 8) (by omega) (by omega))]
      rw [show nI (8 + d) - 8 = nI d from by rw [show (8 : Int32) = nI 8 from rfl, pk_sub (by omega)]; congr 1; omega, k_gd_t _ (inbN (by omega) (by decide)), k_let_s, k_let_s, nI_clamp (by omega)]
      have z : (rs v 1 d b).1 10 + 1 = nI (9 + d) := by rw [rs_1, e3, nI_1]; congr 1; omega
      rw [z, if_neg]
      rw [ss_s, ss_n _ _ (by decide), rs_1, f4, show 10 + nI n = nI (10 + n) from by rw [show (10 : Int32) = nI 10 from rfl, nI_add]]
      exact fun q => by have := (nI_eq (by omega) (by omega)).mp q; omega
    have hbn : ∀ i, i < d + 1 → upd (u.2 5) d b i = upd (v.2 1) d b i ∧ byt (upd (u.2 5) d b i) := by
      intro i hi
      by_cases c : i = d
      · subst c; rw [pk_us, pk_us]; exact ⟨rfl, hb⟩
      · rw [pk_un c, pk_un c]; exact f6 i (by omega)
    have hck : wb 33800 (u.1 14) b = crc 33800 65535 (tk (upd (u.2 5) d b) (d + 1)) := by
      rw [tk_succ, crc_app, crc_one, pk_us, e4]
      congr 2
      exact tk_eq (fun i hi => (pk_un (by omega)).symm)
    have hF : ∀ (w : ST), w.1 29 = u.1 29 → w.2 4 = u.2 4 → w.1 30 = nI (d + 1) → w.2 5 = upd (u.2 5) d b → fr n (d + 1) w (ss (rs v 1 d b) 10 (nI (9 + d))) := by
      intro w w1 w2 w3 w4
      refine ⟨w1.trans f1, ?_, by rw [w2]; exact f3, f4, w3, ?_⟩
      · intro i hi
        rw [w2]; exact f2 i hi
      · intro i hi
        rw [w4]; exact hbn i hi
    by_cases c : d + 1 < n
    · refine ⟨0, ss (p1 5 30 u b) 14 (wb 33800 (u.1 14) b), ss (rs v 1 d b) 10 (nI (9 + d)), ?_, hV, kp_sub (kp_tr (kp_pL 5 30 u [b]) (kp_ss _ _ _)) (by decide) (by decide), kp_sub (kp_tr (kp_rs _ _ _ _) (kp_ss _ _ _)) (by decide) (by decide), Or.inr (Or.inr (Or.inr (Or.inr (Or.inl ⟨n, d + 1, c, hn, ?_, hF _ ?_ p4 pc pa, ?_, ?_⟩)))), Or.inl ⟨rfl, h14, h15⟩⟩
      · rw [f_Ear_take, e1, if_neg (by decide), if_neg (by decide), if_neg (by decide), if_neg (by decide), if_pos rfl, hC, if_pos c]; rfl
      · exact (p1_n (a := 5) (c := 30) (j := 13) u b (by decide)).trans e1
      · exact p1_n (a := 5) (c := 30) (j := 29) u b (by decide)
      · show nI (9 + d) = nI (8 + (d + 1))
        congr 1; omega
      · show wb 33800 (u.1 14) b = crc 33800 65535 (tk ((p1 5 30 u b).2 5) (d + 1))
        rw [pa]; exact hck
    · have en : n = d + 1 := by omega
      subst en
      refine ⟨0, ss (ss (p1 5 30 u b) 14 (wb 33800 (u.1 14) b)) 13 5, ss (rs v 1 d b) 10 (nI (9 + d)), ?_, hV, kp_sub (kp_tr (kp_tr (kp_pL 5 30 u [b]) (kp_ss _ _ _)) (kp_ss _ _ _)) (by decide) (by decide), kp_sub (kp_tr (kp_rs _ _ _ _) (kp_ss _ _ _)) (by decide) (by decide), Or.inr (Or.inr (Or.inr (Or.inr (Or.inr (Or.inl ⟨d + 1, by omega, hn, rfl, hF _ ?_ p4 pc pa, ?_, ?_⟩))))), Or.inl ⟨rfl, h14, h15⟩⟩
      · rw [f_Ear_take, e1, if_neg (by decide), if_neg (by decide), if_neg (by decide), if_neg (by decide), if_pos rfl, hC, if_neg c]; rfl
      · exact p1_n (a := 5) (c := 30) (j := 29) u b (by decide)
      · show nI (9 + d) = nI (8 + (d + 1))
        congr 1; omega
      · show wb 33800 (u.1 14) b = crc 33800 65535 (tk ((p1 5 30 u b).2 5) (d + 1))
        rw [pa]; exact hck
  · -- the check's low byte
    obtain ⟨f1, f2, f3, f4, f5, f6⟩ := e2
    have hV : f_Mod_listen v b = some (ss (rs v 1 n b) 10 (nI (9 + n))) := by
      unfold f_Mod_listen
      rw [e3, if_neg (show ¬ nI (8 + n) = 0 from nI_ne0 (by omega) (by omega)), if_neg (show ¬ nI (8 + n) = 1 from fun q => by have := (nI_eq (b := 1) (by omega) (by decide)).mp q; omega), if_pos (show (8 : Int32) ≤ nI (8 + n) from nI_le (a := 8) (by omega) (by omega))]
      rw [show nI (8 + n) - 8 = nI n from by rw [show (8 : Int32) = nI 8 from rfl, pk_sub (by omega)]; congr 1; omega, k_gd_t _ (inbN (by omega) (by decide)), k_let_s, k_let_s, nI_clamp (by omega)]
      have z : (rs v 1 n b).1 10 + 1 = nI (9 + n) := by rw [rs_1, e3, nI_1]; congr 1; omega
      rw [z, if_neg]
      rw [ss_s, ss_n _ _ (by decide), rs_1, f4, show 10 + nI n = nI (10 + n) from by rw [show (10 : Int32) = nI 10 from rfl, nI_add]]
      exact fun q => by have := (nI_eq (by omega) (by omega)).mp q; omega
    refine ⟨0, ss (ss u 15 b) 13 6, ss (rs v 1 n b) 10 (nI (9 + n)), ?_, hV, kp_sub (kp_tr (kp_ss _ _ _) (kp_ss _ _ _)) (by decide) (by decide), kp_sub (kp_tr (kp_rs _ _ _ _) (kp_ss _ _ _)) (by decide) (by decide), Or.inr (Or.inr (Or.inr (Or.inr (Or.inr (Or.inr ⟨n, h0, hn, rfl, ⟨f1, f2, f3, f4, f5, ?_⟩, rfl, e4, ?_, hb⟩))))), Or.inl ⟨rfl, h14, h15⟩⟩
    · rw [f_Ear_take, e1, if_neg (by decide), if_neg (by decide), if_neg (by decide), if_neg (by decide), if_neg (by decide), if_pos rfl]; rfl
    · intro i hi
      show u.2 5 i = upd (v.2 1) n b i ∧ byt (u.2 5 i)
      rw [pk_un (by omega)]; exact f6 i hi
    · show b = upd (v.2 1) n b n
      rw [pk_us]
  · -- the check's high byte
    obtain ⟨f1, f2, f3, f4, f5, f6⟩ := e2
    obtain ⟨w, hw⟩ : ∃ x, x = ss (rs v 1 (n + 1) b) 10 (nI (10 + n)) := ⟨_, rfl⟩
    have kw1 : kp [10] [1] v w := by rw [hw]; exact kp_tr (kp_rs _ _ _ _) (kp_ss _ _ _)
    have w13 : w.1 13 = nI n := by rw [kw1.1 13 (by decide)]; exact f4
    have wb1 : w.2 1 (n + 1) = b := by rw [hw]; exact pk_us
    have wn : w.2 1 n = u.1 15 := by rw [e5, hw]; exact pk_un (by omega)
    have wi : ∀ i, i < n → w.2 1 i = u.2 5 i := fun i hi => by rw [hw, (f6 i hi).1]; exact pk_un (by omega)
    have hV : f_Mod_listen v b = k_bd (endF w (u.1 14)) fun q7 => some q7 := by
      unfold f_Mod_listen
      rw [e3, if_neg (show ¬ nI (9 + n) = 0 from nI_ne0 (by omega) (by omega)), if_neg (show ¬ nI (9 + n) = 1 from fun q => by have := (nI_eq (b := 1) (by omega) (by decide)).mp q; omega), if_pos (show (8 : Int32) ≤ nI (9 + n) from nI_le (a := 8) (by omega) (by omega))]
      have z0 : nI (9 + n) - 8 = nI (n + 1) := by rw [show (8 : Int32) = nI 8 from rfl, pk_sub (by omega)]; congr 1; omega
      rw [z0, k_gd_t _ (inbN (by omega) (by decide)), k_let_s, k_let_s, nI_clamp (by omega)]
      have z : ss (rs v 1 (n + 1) b) 10 ((rs v 1 (n + 1) b).1 10 + 1) = w := by
        rw [hw, rs_1, e3, nI_1, show 9 + n + 1 = 10 + n by omega]
      rw [z, if_pos (by rw [w13, hw, ss_s, show (10 : Int32) = nI 10 from rfl, nI_add]), endD_M w13 hn (fun i hi => by rw [wi i hi]; exact byt_sm (f6 i hi).2), tk_eq (f := w.2 1) (g := u.2 5) wi, ← e4]
    obtain ⟨u1, hu1⟩ : ∃ x, x = ss u 13 0 := ⟨_, rfl⟩
    have ku1 : kp [13] [] u u1 := by rw [hu1]; exact kp_ss _ _ _
    have g1 : u1.1 29 = nI 5 := by rw [ku1.1 29 (by decide)]; exact f1
    have hC : f_Ear_take u b = k_bd (if (u.1 15 + (256 * b)) = (65535 - u.1 14) then (k_bd (f_Ear_ended u1) fun q3 => some (q3, u1)) else some (2, u1)) fun q16 => some (q16.1, q16.2) := by
      rw [f_Ear_take, e1, if_neg (by decide), if_neg (by decide), if_neg (by decide), if_neg (by decide), if_neg (by decide), if_neg (by decide), f_Ear_takeHighCheck, k_let_s, ← hu1, ku1.1 14 (by decide), ku1.1 15 (by decide)]
    rw [ended_C g1, k_bd_s, ku1.1 12 (by decide), ku1.2 4 (by decide), h12] at hC
    have hs : sm 16 (u.1 14) := by
      rw [e4]
      exact sm_crc sm33800 ⟨65535, by decide, rfl⟩ (fun x hx => by
        obtain ⟨i, hi, rfl⟩ := List.mem_map.mp hx
        exact byt_sm (f6 i (List.mem_range.mp hi)).2)
    have hF : endF w (u.1 14) = if (u.1 15 + (256 * b)) = (65535 - u.1 14) then f_Mod_endData_J78 w 0 else f_Mod_endData_J73 w := by
      unfold endF
      have hq := chk e6 hb hs
      have z1 : w.1 13 + 1 = nI (n + 1) := by rw [w13, nI_1]
      rw [z1, k_gd_t _ (inbE w13 (by omega) (by decide)), k_gd_t _ (inbN (by omega) (by decide)), nI_clamp (by omega), w13, nI_clamp (by omega), wb1, wn]
      by_cases q : u.1 15 + 256 * b = 65535 - u.1 14
      · rw [if_pos q, if_pos (hq.mp q).1, if_pos (hq.mp q).2]
      · rw [if_neg q]
        by_cases q1 : u.1 15 = 65535 - u.1 14 - (65535 - u.1 14) / 256 * 256
        · rw [if_pos q1, if_neg (fun q2 => q (hq.mpr ⟨q1, q2⟩))]
        · rw [if_neg q1]
    rw [hF] at hV
    by_cases q : u.1 15 + 256 * b = 65535 - u.1 14
    · rw [if_pos q] at hC hV
      rw [k_bd_s] at hC
      have hI : f_Mod_listen v b = some (ss (ss (ss w 15 0) 14 (if u.2 4 1 = v.1 0 ∨ u.2 4 1 = 255 then 1 else 0)) 10 0) := by
        rw [hV]
        unfold f_Mod_endData_J78
        rw [k_gd_t _ (by decide), k_let_s, if_pos (ss_s _ _ _), isForMe_M, k_bd_s]
        have g2 : (ss w 15 0).2 0 1 = u.2 4 1 := by rw [ss_2, kw1.2 0 (by decide), (f2 1 (by decide)).1]
        have g3 : (ss w 15 0).1 0 = v.1 0 := kw1.1 0 (by decide)
        rw [g2, g3]
        by_cases z : u.2 4 1 = v.1 0 ∨ u.2 4 1 = 255
        · rw [if_pos z, if_neg (by decide)]; rfl
        · rw [if_neg z, if_pos rfl]; rfl
      have K2 : ∀ y : Int32, kp [10, 13, 14, 15] [0, 1] v (ss (ss (ss w 15 0) 14 y) 10 0) := fun y => kp_sub (kp_tr kw1 (kp_tr (kp_tr (kp_ss _ _ _) (kp_ss _ _ _)) (kp_ss _ _ _))) (by decide) (by decide)
      by_cases z : u.2 4 1 = v.1 0 ∨ u.2 4 1 = 255
      · rw [if_pos z] at hC hI
        refine ⟨1, u1, _, hC, hI, kp_sub ku1 (by decide) (by decide), K2 _, Or.inl ⟨by rw [hu1]; rfl, rfl⟩, Or.inr (Or.inl ⟨rfl, rfl, rfl, n, hn, g1, ?_, ?_, w13, ?_, ?_⟩)⟩
        · intro i hi
          show u1.2 4 i = w.2 0 i ∧ byt (u1.2 4 i)
          rw [ku1.2 4 (by decide), kw1.2 0 (by decide)]
          exact f2 i hi
        · rw [ku1.2 4 (by decide)]; exact f3
        · rw [ku1.1 30 (by decide)]; exact f5
        · intro i hi
          show u1.2 5 i = w.2 1 i ∧ byt (u1.2 5 i)
          rw [ku1.2 5 (by decide)]
          exact ⟨(wi i hi).symm, (f6 i hi).2⟩
      · rw [if_neg z] at hC hI
        exact ⟨0, u1, _, hC, hI, kp_sub ku1 (by decide) (by decide), K2 _, Or.inl ⟨by rw [hu1]; rfl, rfl⟩, Or.inl ⟨rfl, rfl, rfl⟩⟩
    · rw [if_neg q] at hC hV
      refine ⟨2, u1, ss (ss (ss w 15 1) 14 0) 10 0, hC, hV.trans rfl, kp_sub ku1 (by decide) (by decide), kp_sub (kp_tr kw1 (kp_tr (kp_tr (kp_ss _ _ _) (kp_ss _ _ _)) (kp_ss _ _ _))) (by decide) (by decide), Or.inl ⟨by rw [hu1]; rfl, rfl⟩, Or.inr (Or.inr ⟨rfl, rfl, rfl⟩)⟩
