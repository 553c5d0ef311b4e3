/-! the calls that only read; a new object -/
theorem s_sent : ∀ (u v : ST) (x1 : Int32), Rl u v → ∃ q, f_PT_sent u x1 = some q ∧ f_Mod_sent v x1 = some q := by
  intro u v x h
  obtain ⟨n, ⟨-, -, ⟨h1, h2, h3, h4⟩, -⟩, -⟩ := h
  unfold f_PT_sent f_Row_at_3 f_Mod_sent
  rw [h1, h2]
  rcases pk_ix x (n := n) (by omega) with c | c | ⟨j, hj, rfl⟩
  · exact ⟨-1, by rw [if_pos c]; rfl, by rw [if_pos c]⟩
  · by_cases c0 : x < 0
    · exact ⟨-1, by rw [if_pos c0]; rfl, by rw [if_pos c0]⟩
    · exact ⟨-1, by rw [if_neg c0, if_pos c]; rfl, by rw [if_neg c0, if_pos c]⟩
  · refine ⟨u.2 0 j, ?_, ?_⟩
    · rw [if_neg (nI_pos (by omega)), if_neg (nI_ge hj (by omega)), k_gd_t _ (inbN (by omega) (by decide)), nI_clamp (by omega)]; rfl
    · rw [if_neg (nI_pos (by omega)), if_neg (nI_ge hj (by omega)), k_gd_t _ (inbN (by omega) (by decide)), nI_clamp (by omega), h4 j hj]
theorem s_replied : ∀ (u v : ST), Rl u v → ∃ q, f_PT_replied u = some q ∧ f_Mod_replied v = some q := by
  intro u v h
  obtain ⟨n, ⟨-, -, -, -, ⟨k, h0, h1, h2, h3⟩, -⟩, -⟩ := h
  exact ⟨nI k, by rw [f_PT_replied, f_Row_size_9, h1]; rfl, by rw [f_Mod_replied, h2]⟩
theorem s_reply : ∀ (u v : ST) (x1 : Int32), Rl u v → ∃ q, f_PT_reply u x1 = some q ∧ f_Mod_reply v x1 = some q := by
  intro u v x h
  obtain ⟨-, ⟨-, -, -, -, ⟨n, h3, h1, h2, h4⟩, -⟩, -⟩ := h
  unfold f_PT_reply f_Row_at_9 f_Mod_reply
  rw [h1, h2]
  rcases pk_ix x (n := n) (by omega) with c | c | ⟨j, hj, rfl⟩
  · exact ⟨-1, by rw [if_pos c]; rfl, by rw [if_pos c]⟩
  · by_cases c0 : x < 0
    · exact ⟨-1, by rw [if_pos c0]; rfl, by rw [if_pos c0]⟩
    · exact ⟨-1, by rw [if_neg c0, if_pos c]; rfl, by rw [if_neg c0, if_pos c]⟩
  · refine ⟨u.2 3 j, ?_, ?_⟩
    · rw [if_neg (nI_pos (by omega)), if_neg (nI_ge hj (by omega)), k_gd_t _ (inbN (by omega) (by decide)), nI_clamp (by omega)]; rfl
    · rw [if_neg (nI_pos (by omega)), if_neg (nI_ge hj (by omega)), k_gd_t _ (inbN (by omega) (by decide)), nI_clamp (by omega), h4 j hj]
theorem s_state : ∀ (u v : ST), Rl u v → ∃ q, f_PT_state u = some q ∧ f_Mod_state v = some q := by
  intro u v h
  obtain ⟨n, ⟨⟨b0, b1, b2, b3, b4, b5, b6, b7, b8, b9, b10, b11, b12⟩, -⟩, -⟩ := h
  have e : f_PT_state u = f_Mod_state v := by
    unfold f_PT_state f_Mod_state
    rw [b2, b3, b4, b7, b11]
  have : ∃ q, f_Mod_state v = some q := by
    unfold f_Mod_state
    split <;> split <;> exact ⟨_, rfl⟩
  obtain ⟨q, hq⟩ := this
  exact ⟨q, e.trans hq, hq⟩
theorem s_silence : ∀ (u v : ST), Rl u v → ∃ q, f_PT_silence u = some q ∧ f_Mod_silence v = some q := by
  intro u v h
  obtain ⟨n, ⟨⟨b0, b1, b2, b3, b4, b5, b6, b7, b8, b9, -⟩, ⟨o, m, a, b, t, s, r, -, -, -, -, -, g9, -, -, -, -, -, -, gs, -⟩, -⟩, -⟩ := h
  refine ⟨nI s, ?_, ?_⟩
  · rw [f_PT_silence, g9, if_neg (show ¬ (1000 : Int32) < nI s from nI_nlt (a := 1000) gs (by decide))]
  · rw [f_Mod_silence, ← b9, g9, if_pos (show nI s ≤ (1000 : Int32) from nI_le (b := 1000) gs (by decide))]
theorem mm (x : Int32) : ∃ m : Nat, 1 ≤ m ∧ m ≤ 15 ∧ pt_M x = nI m ∧ md_M x = nI m := by
  rcases pk_ix x (n := 15) (by decide) with c | c | ⟨j, hj, rfl⟩
  · refine ⟨1, by decide, by decide, ?_, ?_⟩
    · have h1 : x < 15 := Int32.lt_trans c (by decide)
      have h2 : ¬ (1 : Int32) < x := fun q => absurd (Int32.lt_trans q c) (by decide)
      unfold pt_M
      rw [if_pos h1, if_neg h2]; rfl
    · have h2 : ¬ (1 : Int32) ≤ x := fun q => absurd (Int32.lt_of_le_of_lt q c) (by decide)
      unfold md_M
      rw [if_neg h2]; rfl
  · refine ⟨15, by decide, by decide, ?_, ?_⟩
    · have h1 : ¬ x < 15 := fun q => Int32.lt_irrefl (Int32.lt_of_lt_of_le q c)
      unfold pt_M
      rw [if_neg h1, if_pos (by decide)]; rfl
    · have h2 : (1 : Int32) ≤ x := Int32.le_trans (by decide) c
      unfold md_M
      rw [if_pos h2]
      by_cases h3 : x ≤ 15
      · rw [if_pos h3]; exact Int32.le_antisymm h3 c
      · rw [if_neg h3]; rfl
  · by_cases h : j = 0
    · subst h
      exact ⟨1, by decide, by decide, by decide, by decide⟩
    · refine ⟨j, by omega, by omega, ?_, ?_⟩
      · unfold pt_M
        rw [if_pos (show nI j < (15 : Int32) from nI_lt (b := 15) hj (by decide))]
        by_cases h1 : j = 1
        · subst h1; decide
        · rw [if_pos (show (1 : Int32) < nI j from nI_lt (a := 1) (by omega) (by omega))]
      · unfold md_M
        rw [if_pos (show (1 : Int32) ≤ nI j from nI_le (a := 1) (by omega) (by omega)), if_pos (show nI j ≤ (15 : Int32) from nI_le (b := 15) (by omega) (by decide))]
theorem mo (x1 x2 : Int32) : ∃ o m : Nat, o ≤ m ∧ 1 ≤ m ∧ m ≤ 15 ∧ pt_M x2 = nI m ∧ md_M x2 = nI m ∧ pt_O x1 x2 = nI o ∧ md_O x1 x2 = nI o := by
  obtain ⟨m, h1, h2, h3, h4⟩ := mm x2
  unfold pt_O md_O
  rw [h3, h4]
  rcases pk_ix x1 (n := m) (by omega) with c | c | ⟨j, hj, rfl⟩
  · refine ⟨0, m, by omega, h1, h2, rfl, rfl, ?_, ?_⟩
    · have a1 : x1 < nI m := Int32.lt_trans c (nI_lt (a := 0) (by omega) (by omega))
      have a2 : ¬ (0 : Int32) < x1 := fun q => Int32.lt_irrefl (Int32.lt_trans q c)
      rw [if_pos a1, if_neg a2]; rfl
    · have a2 : ¬ (0 : Int32) ≤ x1 := fun q => Int32.lt_irrefl (Int32.lt_of_le_of_lt q c)
      rw [if_neg a2]; rfl
  · refine ⟨m, m, by omega, h1, h2, rfl, rfl, ?_, ?_⟩
    · have a1 : ¬ x1 < nI m := fun q => Int32.lt_irrefl (Int32.lt_of_lt_of_le q c)
      rw [if_neg a1, if_pos (show (0 : Int32) < nI m from nI_lt (a := 0) (by omega) (by omega))]
    · have a2 : (0 : Int32) ≤ x1 := Int32.le_trans (nI_pos' (by omega)) c
      rw [if_pos a2]
      by_cases a3 : x1 ≤ nI m
      · rw [if_pos a3]; exact Int32.le_antisymm a3 c
      · rw [if_neg a3]
  · refine ⟨j, m, by omega, h1, h2, rfl, rfl, ?_, ?_⟩
    · rw [if_pos (nI_lt hj (by omega))]
      by_cases h0 : j = 0
      · subst h0; decide
      · rw [if_pos (show (0 : Int32) < nI j from nI_lt (a := 0) (by omega) (by omega))]
    · rw [if_pos (show (0 : Int32) ≤ nI j from nI_pos' (by omega)), if_pos (nI_le (by omega) (by omega))]
theorem s_new : ∀ x1 x2, Rl (u_0 x1 x2) (v_0 (md_O x1 x2) (md_M x2)) := by
  intro x1 x2
  obtain ⟨o, m, h1, h2, h3, e1, e2, e3, e4⟩ := mo x1 x2
  rw [e2, e4]
  have p0 : (u_0 x1 x2).1 0 = nI o := e3
  have p1' : (u_0 x1 x2).1 1 = nI m := e1
  have p3 : (u_0 x1 x2).1 3 = nI o := e3
  have p4 : (u_0 x1 x2).1 4 = nI o := e3
  have p12 : (u_0 x1 x2).1 12 = nI o := e3
  refine ⟨0, ⟨⟨p0, p1', rfl, p3, p4, rfl, rfl, rfl, rfl, rfl, rfl, rfl, p12⟩, ⟨o, m, o, o, 0, 0, 0, p0, p1', p3, p4, rfl, rfl, rfl, h1, h3, h1, h1, by decide, by decide, by decide, rfl⟩, ⟨rfl, rfl, by decide, fun i hi => absurd hi (by omega)⟩, Or.inl rfl, ⟨0, by decide, rfl, rfl, fun i hi => absurd hi (by omega)⟩, ?_, Or.inl ⟨rfl, rfl⟩⟩, Or.inl rfl, ⟨0, rfl, Or.inl ⟨rfl, by decide⟩⟩⟩
  intro j hj
  refine ⟨?_, fun r hr1 hr2 => ⟨?_, ?_⟩, fun h2 r hr => Or.inl ?_⟩
  · rcases (show j = 0 ∨ j = 1 ∨ j = 2 ∨ j = 3 by omega) with rfl | rfl | rfl | rfl <;> rfl
  · have : (u_0 x1 x2).2 (8 + 2 * j) = upd (fun _ => 0) 0 1 := by
      rcases (show j = 0 ∨ j = 1 ∨ j = 2 ∨ j = 3 by omega) with rfl | rfl | rfl | rfl <;> rfl
    rw [this, pk_un (by omega)]
    rfl
  · intro _
    rcases (show j = 0 ∨ j = 1 ∨ j = 2 ∨ j = 3 by omega) with rfl | rfl | rfl | rfl <;> rfl
  · rcases (show j = 0 ∨ j = 1 ∨ j = 2 ∨ j = 3 by omega) with rfl | rfl | rfl | rfl <;> rfl
