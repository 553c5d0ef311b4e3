/-! the desk and the reference's answer -/
theorem desk_step {n : Nat} {u v : ST} (h : RM n u v) (hf : Fr u v) : ∃ (u1 v1 : ST) (L : List Int32), f_Desk_answerTo_13 u = some u1 ∧ f_Mod_makeAnswer v = some v1 ∧ u1.1 31 = nI L.length ∧ v1.1 18 = nI L.length ∧ L.length ≤ 32 ∧ tk (u1.2 6) L.length = L ∧ tk (v1.2 3) L.length = L ∧ (∀ x ∈ L, byt x) ∧ RM n u1 v1 ∧ kp [16, 17, 18, 19, 20, 21, 22, 23, 24, 31, 32, 33] [6, 7, 8, 9, 10, 11, 12, 13, 14] u u1 ∧ kp [18, 27, 28] [3, 6, 7] v v1 := by
  obtain ⟨b, rb, ro, rq, rr, rt, re⟩ := h
  have pack : ∀ (W1 X1 : ST) (L : List Int32), f_Desk_answerTo_13 u = some (pL 6 31 W1 L) → f_Mod_makeAnswer v = some (pL 3 18 X1 L) → W1.1 31 = nI 0 → X1.1 18 = nI 0 → L.length ≤ 32 → (∀ x ∈ L, byt x) → kp [16, 17, 18, 19, 20, 21, 22, 23, 24, 31, 32, 33] [7, 8, 9, 10, 11, 12, 13, 14] u W1 → kp [18, 27, 28] [6, 7] v X1 → Rt W1 X1 → ∃ (u1 v1 : ST) (L : List Int32), f_Desk_answerTo_13 u = some u1 ∧ f_Mod_makeAnswer v = some v1 ∧ u1.1 31 = nI L.length ∧ v1.1 18 = nI L.length ∧ L.length ≤ 32 ∧ tk (u1.2 6) L.length = L ∧ tk (v1.2 3) L.length = L ∧ (∀ x ∈ L, byt x) ∧ RM n u1 v1 ∧ kp [16, 17, 18, 19, 20, 21, 22, 23, 24, 31, 32, 33] [6, 7, 8, 9, 10, 11, 12, 13, 14] u u1 ∧ kp [18, 27, 28] [3, 6, 7] v v1 := by
    intro W1 X1 L c1 c2 c3 c4 c5 c6 K1 K2 c7
    have P1 := kp_pL 6 31 W1 L
    have P2 := kp_pL 3 18 X1 L
    have Q1 : kp [16, 17, 18, 19, 20, 21, 22, 23, 24, 31, 32, 33] [6, 7, 8, 9, 10, 11, 12, 13, 14] u (pL 6 31 W1 L) := kp_sub (kp_tr K1 P1) (by decide) (by decide)
    have Q2 : kp [18, 27, 28] [3, 6, 7] v (pL 3 18 X1 L) := kp_sub (kp_tr K2 P2) (by decide) (by decide)
    refine ⟨pL 6 31 W1 L, pL 3 18 X1 L, L, c1, c2, by rw [pL_c W1 L c3, Nat.zero_add], by rw [pL_c X1 L c4, Nat.zero_add], c5, pL_tk W1 L c3 (by omega), pL_tk X1 L c4 (by omega), c6, ⟨?_, Rb_kp Q1 (by decide) rb, Ro_kp Q1 Q2 (by decide) (by decide) (by decide) (by decide) ro, Rq_kp Q1 Q2 (by decide) (by decide) (by decide) rq, Rr_kp Q1 Q2 (by decide) (by decide) (by decide) (by decide) rr, Rt_kp P1 P2 (by decide) (by decide) c7, Re_kp Q1 Q2 (by decide) (by decide) (by decide) (by decide) re⟩, Q1, Q2⟩
    unfold Bs at *
    rw [Q1.1 0 (by decide), Q1.1 1 (by decide), Q1.1 2 (by decide), Q1.1 3 (by decide), Q1.1 4 (by decide), Q1.1 5 (by decide), Q1.1 6 (by decide), Q1.1 7 (by decide), Q1.1 8 (by decide), Q1.1 9 (by decide), Q1.1 10 (by decide), Q1.1 11 (by decide), Q1.1 12 (by decide), Q2.1 0 (by decide), Q2.1 1 (by decide), Q2.1 4 (by decide), Q2.1 5 (by decide), Q2.1 6 (by decide), Q2.1 7 (by decide), Q2.1 8 (by decide), Q2.1 9 (by decide), Q2.1 3 (by decide), Q2.1 2 (by decide), Q2.1 23 (by decide), Q2.1 22 (by decide)]
    exact b
  obtain ⟨k, h40, f1, f2, f3, f4, f5, f6⟩ := hf
  obtain ⟨v0, hv0⟩ : ∃ x, x = ss v 18 0 := ⟨_, rfl⟩
  obtain ⟨q1, hq1⟩ : ∃ x, x = ss u 31 0 := ⟨_, rfl⟩
  have kv : kp [18] [] v v0 := by rw [hv0]; exact kp_ss _ _ _
  have ku : kp [31] [] u q1 := by rw [hq1]; exact kp_ss _ _ _
  have v18 : v0.1 18 = nI 0 := by rw [hv0]; rfl
  have u31 : q1.1 31 = nI 0 := by rw [hq1]; rfl
  have v13 : v0.1 13 = nI k := by rw [kv.1 13 (by decide)]; exact f4
  have u30 : q1.1 30 = nI k := by rw [ku.1 30 (by decide)]; exact f5
  have hD : ∀ i, i < k → u.2 5 i = v0.2 1 i ∧ byt (u.2 5 i) := fun i hi => by rw [kv.2 1 (by decide)]; exact f6 i hi
  have q5 : q1.2 5 = u.2 5 := ku.2 5 (by decide)
  have t0 : Rt q1 v0 := Rt_kp ku kv (by decide) (by decide) rt
  have cC : f_Desk_answerTo_13 u = k_bd (f_Desk_isForDesk_13 q1) fun q2 => if q2 = 0 then some q1 else k_let (ss q1 32 1) fun u4 => k_bd (f_Row_at_13 u4 4) fun q5 => k_let (ss u4 17 q5) fun u6 => k_bd (f_Row_at_13 u6 5) fun q7 => k_let (ss u6 18 q7) fun u8 => k_let (ss u8 16 6) fun u9 => if (u9.1 18) = 12 then f_Desk_answerTo_13_J77 u9 else if (u9.1 18) = 15 then f_Desk_answerTo_13_J77 u9 else k_bd (f_Desk_begin u9 96 9) fun q23 => some q23 := by
    rw [f_Desk_answerTo_13, f_Row_clear_15, k_let_s, k_bd_s, hq1]
  have cM : f_Mod_makeAnswer v = if (v0.1 13) < 6 then some v0 else if v0.2 1 0 = 1 then (if v0.2 1 1 = 4 then (if v0.2 1 2 = 0 then (if v0.2 1 5 = 12 then f_Mod_makeAnswer_J78 v0 (v0.2 1 4) (v0.2 1 5) else if v0.2 1 5 = 15 then f_Mod_makeAnswer_J78 v0 (v0.2 1 4) (v0.2 1 5) else k_bd (f_Mod_reject v0 (v0.2 1 4) 9) fun q46 => some q46) else some v0) else some v0) else some v0 := by
    rw [f_Mod_makeAnswer, k_let_s, k_gd_t _ (by decide), k_gd_t _ (by decide), k_gd_t _ (by decide), k_gd_t _ (by decide), k_gd_t _ (by decide), hv0]
    rfl
  have none : f_Desk_isForDesk_13 q1 = some 0 → f_Mod_makeAnswer v = some v0 → ∃ (u1 v1 : ST) (L : List Int32), f_Desk_answerTo_13 u = some u1 ∧ f_Mod_makeAnswer v = some v1 ∧ u1.1 31 = nI L.length ∧ v1.1 18 = nI L.length ∧ L.length ≤ 32 ∧ tk (u1.2 6) L.length = L ∧ tk (v1.2 3) L.length = L ∧ (∀ x ∈ L, byt x) ∧ RM n u1 v1 ∧ kp [16, 17, 18, 19, 20, 21, 22, 23, 24, 31, 32, 33] [6, 7, 8, 9, 10, 11, 12, 13, 14] u u1 ∧ kp [18, 27, 28] [3, 6, 7] v v1 := by
    intro z1 z2
    refine pack q1 v0 [] ?_ z2 u31 v18 (by decide) (fun x hx => by cases hx) (kp_sub ku (by decide) (by decide)) (kp_sub kv (by decide) (by decide)) t0
    rw [cC, z1, k_bd_s, if_pos rfl]
    rfl
  by_cases c6 : k < 6
  · refine none ?_ ?_
    · rw [f_Desk_isForDesk_13, f_Row_size_13, k_bd_s, u30, if_pos (show nI k < (6 : Int32) from nI_lt (b := 6) c6 (by decide))]
    · rw [cM, if_pos (show v0.1 13 < 6 by rw [v13]; exact nI_lt (b := 6) c6 (by decide))]
  have k6 : 6 ≤ k := by omega
  have n6 : ¬ nI k < (6 : Int32) := nI_nlt (b := 6) k6 (by omega)
  have atq : ∀ i, i < 6 → f_Row_at_13 q1 (nI i) = some (u.2 5 i) := fun i hi => by rw [at13 u30 h40 (by omega), q5]
  have fC : f_Desk_isForDesk_13 q1 = if u.2 5 0 = 1 then (if u.2 5 1 = 4 then (if u.2 5 2 = 0 then some 1 else some 0) else some 0) else some 0 := by
    rw [f_Desk_isForDesk_13, f_Row_size_13, k_bd_s, u30, if_neg n6, show f_Row_at_13 q1 0 = some (u.2 5 0) from atq 0 (by decide), k_bd_s, show f_Row_at_13 q1 1 = some (u.2 5 1) from atq 1 (by decide), k_bd_s, show f_Row_at_13 q1 2 = some (u.2 5 2) from atq 2 (by decide), k_bd_s]
  rw [if_neg (show ¬ v0.1 13 < 6 by rw [v13]; exact n6), ← (hD 0 (by omega)).1, ← (hD 1 (by omega)).1, ← (hD 2 (by omega)).1, ← (hD 4 (by omega)).1, ← (hD 5 (by omega)).1] at cM
  by_cases d0n : ¬ u.2 5 0 = 1
  · rw [if_neg d0n] at fC cM; exact none fC cM
  have d0 : u.2 5 0 = 1 := Classical.not_not.mp d0n
  rw [if_pos d0] at fC cM
  by_cases d1n : ¬ u.2 5 1 = 4
  · rw [if_neg d1n] at fC cM; exact none fC cM
  have d1 : u.2 5 1 = 4 := Classical.not_not.mp d1n
  rw [if_pos d1] at fC cM
  by_cases d2n : ¬ u.2 5 2 = 0
  · rw [if_neg d2n] at fC cM; exact none fC cM
  have d2 : u.2 5 2 = 0 := Classical.not_not.mp d2n
  rw [if_pos d2] at fC cM
  obtain ⟨U, hU⟩ : ∃ x, x = ss (ss (ss (ss q1 32 1) 17 (u.2 5 4)) 18 (u.2 5 5)) 16 6 := ⟨_, rfl⟩
  have K0 : kp [31, 32, 17, 18, 16] [] u U := by rw [hU]; exact kp_tr ku (kp_tr (kp_tr (kp_tr (kp_ss _ _ _) (kp_ss _ _ _)) (kp_ss _ _ _)) (kp_ss _ _ _))
  have U31 : U.1 31 = nI 0 := by rw [hU]; exact u31
  have U17 : U.1 17 = u.2 5 4 := by rw [hU]; rfl
  have U18 : U.1 18 = u.2 5 5 := by rw [hU]; rfl
  have GU : GC k (u.2 5) U 6 := ⟨by rw [hU]; rfl, by rw [K0.1 30 (by decide)]; exact f5, K0.2 5 (by decide), by rw [hU]; rfl⟩
  have cC2 : f_Desk_answerTo_13 u = if u.2 5 5 = 12 then f_Desk_answerTo_13_J77 U else if u.2 5 5 = 15 then f_Desk_answerTo_13_J77 U else k_bd (f_Desk_begin U 96 9) fun q23 => some q23 := by
    have a4 : f_Row_at_13 (ss q1 32 1) 4 = some (u.2 5 4) := by
      have := at13 (u := ss q1 32 1) (i := 4) u30 h40 (by omega)
      rw [ss_2, q5] at this
      exact this
    have a5 : f_Row_at_13 (ss (ss q1 32 1) 17 (u.2 5 4)) 5 = some (u.2 5 5) := by
      have := at13 (u := ss (ss q1 32 1) 17 (u.2 5 4)) (i := 5) u30 h40 (by omega)
      rw [ss_2, ss_2, q5] at this
      exact this
    rw [cC, fC, k_bd_s, if_neg (by decide), k_let_s, a4, k_bd_s, k_let_s, a5, k_bd_s, k_let_s, k_let_s, ← hU, U18]
  have b4 : byt (u.2 5 4) := (hD 4 (by omega)).2
  have bad : ∀ (W X : ST) (w : Int32), byt w → f_Desk_answerTo_13 u = (k_bd (f_Desk_begin W 96 w) fun q => some q) → f_Mod_makeAnswer v = some (pL 3 18 X [1, 0, 96, u.2 5 4, w]) → kp [16, 19, 20, 21, 22, 23, 24] [] U W → kp [27, 28] [] v0 X → ∃ (u1 v1 : ST) (L : List Int32), f_Desk_answerTo_13 u = some u1 ∧ f_Mod_makeAnswer v = some v1 ∧ u1.1 31 = nI L.length ∧ v1.1 18 = nI L.length ∧ L.length ≤ 32 ∧ tk (u1.2 6) L.length = L ∧ tk (v1.2 3) L.length = L ∧ (∀ x ∈ L, byt x) ∧ RM n u1 v1 ∧ kp [16, 17, 18, 19, 20, 21, 22, 23, 24, 31, 32, 33] [6, 7, 8, 9, 10, 11, 12, 13, 14] u u1 ∧ kp [18, 27, 28] [3, 6, 7] v v1 := by
    intro W X w bw z1 z2 kW kX
    have W31 : W.1 31 = nI 0 := by rw [kW.1 31 (by decide)]; exact U31
    have X18 : X.1 18 = nI 0 := by rw [kX.1 18 (by decide)]; exact v18
    have kW' := kp_tr K0 kW
    have kX' := kp_tr kv kX
    refine pack W X [1, 0, 96, u.2 5 4, w] ?_ z2 W31 X18 (by simp) ?_ (kp_sub kW' (by decide) (by decide)) (kp_sub kX' (by decide) (by decide)) (Rt_kp kW' kX' (by decide) (by decide) rt)
    · rw [z1, bg0 W31, k_bd_s, kW.1 17 (by decide), U17]
    · intro x hx
      simp only [List.mem_cons, List.not_mem_nil, or_false] at hx
      rcases hx with rfl | rfl | rfl | rfl | rfl
      · exact ⟨1, by decide, rfl⟩
      · exact ⟨0, by decide, rfl⟩
      · exact ⟨96, by decide, rfl⟩
      · exact b4
      · exact bw
  by_cases svn : ¬ (u.2 5 5 = 12 ∨ u.2 5 5 = 15)
  · have s1 : ¬ u.2 5 5 = 12 := fun q => svn (Or.inl q)
    have s2 : ¬ u.2 5 5 = 15 := fun q => svn (Or.inr q)
    rw [if_neg s1, if_neg s2] at cC2 cM
    refine bad U v0 9 ⟨9, by decide, rfl⟩ cC2 ?_ (kp_sub (kp_rf U) (by decide) (by decide)) (kp_sub (kp_rf v0) (by decide) (by decide))
    rw [cM, rej v18, k_bd_s]
  have sv : u.2 5 5 = 12 ∨ u.2 5 5 = 15 := Classical.not_not.mp svn
  have cC3 : f_Desk_answerTo_13 u = f_Desk_answerTo_13_J77 U := by
    rw [cC2]
    rcases sv with s | s
    · rw [if_pos s]
    · rw [if_neg (by rw [s]; decide), if_pos s]
  obtain ⟨V, hV⟩ : ∃ x, x = ss (ss v0 28 1) 27 6 := ⟨_, rfl⟩
  have GV : GM v0 V 6 := ⟨by rw [hV]; exact kp27 v0 1 6, by rw [hV]; rfl, by rw [hV]; rfl⟩
  have cM3 : f_Mod_makeAnswer v = k_bd (f_Mod_expect V 12) fun q9 => J78t q9 (u.2 5 4) (u.2 5 5) := by
    have : f_Mod_makeAnswer v = f_Mod_makeAnswer_J78 v0 (u.2 5 4) (u.2 5 5) := by
      rw [cM]
      rcases sv with s | s
      · rw [if_pos s]
      · rw [if_neg (by rw [s]; decide), if_pos s]
    rw [this, f_Mod_makeAnswer_J78, k_let_s, k_let_s, hV]
    rfl
  have bt4 : byt (4 : Int32) := ⟨4, by decide, rfl⟩
  -- behind the place and what is written
  have fin : ∀ (W X : ST) (a r : Nat) (rf pr ix kd vl : Int32), kp [16, 19, 20, 21, 22, 23, 24] [] U W → GC k (u.2 5) W a → a ≤ k → GM v0 X a → W.1 19 = rf → RQ W pr ix kd vl → 1 ≤ r → r ≤ 16 → (W.1 18 = 15 → W.1 24 = nI r) → (kd = -1 → vl = 0) → f_Desk_answerTo_13 u = f_Desk_answerTo_13_J100 W → f_Mod_makeAnswer v = f_Mod_makeAnswer_J296 X (u.2 5 4) rf pr ix kd vl (nI r) → ∃ (u1 v1 : ST) (L : List Int32), f_Desk_answerTo_13 u = some u1 ∧ f_Mod_makeAnswer v = some v1 ∧ u1.1 31 = nI L.length ∧ v1.1 18 = nI L.length ∧ L.length ≤ 32 ∧ tk (u1.2 6) L.length = L ∧ tk (v1.2 3) L.length = L ∧ (∀ x ∈ L, byt x) ∧ RM n u1 v1 ∧ kp [16, 17, 18, 19, 20, 21, 22, 23, 24, 31, 32, 33] [6, 7, 8, 9, 10, 11, 12, 13, 14] u u1 ∧ kp [18, 27, 28] [3, 6, 7] v v1 := by
    intro W X a r rf pr ix kd vl kW gW ha gX w19 wq r1 r2 w24 wv z1 z2
    have W31 : W.1 31 = nI 0 := by rw [kW.1 31 (by decide)]; exact U31
    have W17 : W.1 17 = u.2 5 4 := by rw [kW.1 17 (by decide)]; exact U17
    have X18 : X.1 18 = nI 0 := by rw [gX.1.1 18 (by decide)]; exact v18
    have kW' := kp_tr K0 kW
    have kX' := kp_tr kv gX.1
    have X13 : X.1 13 = nI k := by rw [gX.1.1 13 (by decide)]; exact v13
    rw [f_Desk_answerTo_13_J100, k_gd_t _ gW.1, f_Row_size_13, k_bd_s, gW.2.1, gW.2.2.2] at z1
    rw [f_Mod_makeAnswer_J296, if_neg (by rw [gX.2.1]; decide), gX.2.2, X13] at z2
    by_cases e : nI a = nI k
    · rw [if_pos e] at z1 z2
      obtain ⟨W1, X1, L, g1, g2, g3, g4, g5, g6, g7, g8, g9⟩ := well r1 r2 (Rt_kp kW' kX' (by decide) (by decide) rt) W31 X18 W17 w19 w24 b4 wq wv
      rw [g1, k_bd_s] at z1
      rw [g2, k_bd_s] at z2
      exact pack W1 X1 L z1 z2 g3 g4 g5 g6 (kp_sub (kp_tr kW' g7) (by decide) (by decide)) (kp_sub (kp_tr kX' g8) (by decide) (by decide)) g9
    · rw [if_neg e] at z1 z2
      rw [rej X18, k_bd_s] at z2
      exact bad W X 4 bt4 z1 z2 kW gX.1
  rcases place (id := u.2 5 4) (sv := u.2 5 5) v18 v13 h40 hD GV GU with ⟨U1, X, a1, a2, a3, a4⟩ | ⟨U1, X, a, a1, a2, a3, a5, a6, a7, a8⟩ | ⟨U1, X, a, rf, pr, ix, a1, a2, a3, a5, a6, a7, a8, a9, a10, a11, a12⟩
  · refine bad U1 X 4 bt4 ?_ (cM3.trans a4) (kp_sub a2 (by decide) (by decide)) a3.1
    rw [cC3, f_Desk_answerTo_13_J77, a1, k_bd_s, if_pos rfl]
  · have s18 : U1.1 18 = u.2 5 5 := by rw [a2.1 18 (by decide)]; exact U18
    refine bad U1 X 4 bt4 ?_ (cM3.trans a8) (kp_sub a2 (by decide) (by decide)) a7.1
    rw [cC3, f_Desk_answerTo_13_J77, a1, k_bd_s, if_neg (show ¬ (1 : Int32) = 0 by decide), s18]
    rcases sv with s | s
    · rw [if_neg (by rw [s]; decide), f_Desk_answerTo_13_J100, k_gd_t _ a3.1, f_Row_size_13, k_bd_s, a3.2.1, a3.2.2.2, if_neg (fun q => by have := (nI_eq (by omega) (by omega)).mp q; omega)]
    · rw [if_pos s, f_Desk_takesWritten, cfo_b (x := 62) a3 h40 (by omega) (fun q => by omega) (by decide), k_bd_s, if_pos rfl, k_bd_s, if_pos rfl]
  · have s18 : U1.1 18 = u.2 5 5 := by rw [a2.1 18 (by decide)]; exact U18
    have cC4 : f_Desk_answerTo_13 u = if u.2 5 5 = 15 then (k_bd (f_Desk_takesWritten U1) fun q19 => if q19.1 = 0 then k_bd (f_Desk_begin q19.2 96 4) fun q21 => some q21 else f_Desk_answerTo_13_J100 q19.2) else f_Desk_answerTo_13_J100 U1 := by
      rw [cC3, f_Desk_answerTo_13_J77, a1, k_bd_s, if_neg (show ¬ (1 : Int32) = 0 by decide), s18]
    have cM4 := cM3.trans a12
    rcases sv with s | s
    · rw [s, if_neg (by decide)] at cC4
      rw [s, f_Mod_makeAnswer_J140, if_neg (by decide)] at cM4
      exact fin U1 X a 16 rf pr ix (-1) 0 (kp_sub a2 (by decide) (by decide)) a3 a5 a11 a6 ⟨a7, a8, a9, a10, Or.inl ⟨s18.trans s, rfl⟩⟩ (by decide) (by decide) (fun q => by rw [s18, s] at q; exact absurd q (by decide)) (fun _ => rfl) cC4 cM4
    · rw [s, if_pos rfl] at cC4
      rw [s] at cM4
      rcases written (u.2 5 4) rf pr ix v18 v13 h40 hD a5 a11 a3 with ⟨U2, X2, c1, c2, c3, c4⟩ | ⟨U2, X2, a', r, kd, vl, c1, c2, c3, c4, c5, c6', c7, c8, c9, c10, c11⟩
      · rw [c1, k_bd_s, if_pos rfl] at cC4
        exact bad U2 X2 4 bt4 cC4 (cM4.trans c4) (kp_sub (kp_tr a2 c2) (by decide) (by decide)) c3.1
      · rw [c1, k_bd_s, if_neg (show ¬ (1 : Int32) = 0 by decide)] at cC4
        have t18 : U2.1 18 = 15 := by rw [c2.1 18 (by decide), s18]; exact s
        refine fin U2 X2 a' r rf pr ix kd vl (kp_sub (kp_tr a2 c2) (by decide) (by decide)) c3 c4 c10 (by rw [c2.1 19 (by decide)]; exact a6) ⟨by rw [c2.1 20 (by decide)]; exact a7, by rw [c2.1 21 (by decide)]; exact a8, a9, a10, Or.inr ⟨t18, c5, c6'⟩⟩ c8 c9 (fun _ => c7) (fun q => ?_) cC4 (cM4.trans c11)
        rcases c6' with e | ⟨e, -⟩ | ⟨e, -⟩ <;> rw [e] at q <;> exact absurd q (by decide)
