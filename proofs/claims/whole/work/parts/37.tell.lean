/-! the answer: writes, reads -/
theorem shf_isz {g w : Nat → Int32} : ∀ (k i : Nat) (y : Int32), isz y → (∀ r, i ≤ r → r < i + k → isz (w r)) → isz (shf g w i k y) := by
  intro k
  induction k with
  | zero => intro i y hy _; exact hy
  | succ k ih =>
    intro i y hy h
    show isz (if g i = 0 then shf g w (i + 1) k y else w i)
    by_cases c : g i = 0
    · rw [if_pos c]; exact ih (i + 1) y hy (fun r a b => h r (by omega) (by omega))
    · rw [if_neg c]; exact h i (by omega) (by omega)
theorem isz_byt {x : Int32} (h : isz x) : byt x := by
  rcases h with rfl | rfl
  · exact ⟨0, by decide, rfl⟩
  · exact ⟨1, by decide, rfl⟩
/-- the value's bytes -/
def vb (j : Nat) (x : Int32) : List Int32 := if j < 2 then [68] ++ B4 x else [145, x]
theorem vb_len (j : Nat) (x : Int32) : (vb j x).length ≤ 5 := by
  unfold vb
  by_cases c : j < 2
  · rw [if_pos c]; simp [B4]
  · rw [if_neg c]; simp
theorem vb_byt {j : Nat} {x : Int32} (h : 2 ≤ j → isz x) : ∀ y ∈ vb j x, byt y := by
  intro y hy
  unfold vb at hy
  by_cases c : j < 2
  · rw [if_pos c] at hy
    rcases List.mem_append.mp hy with q | q
    · rcases List.mem_singleton.mp q with rfl; exact ⟨68, by decide, rfl⟩
    · exact B4_byt x y q
  · rw [if_neg c] at hy
    simp only [List.mem_cons, List.not_mem_nil, or_false] at hy
    rcases hy with rfl | rfl
    · exact ⟨145, by decide, rfl⟩
    · exact isz_byt (h (by omega))
theorem addV {X : ST} (hX : X.1 18 = nI 0) (M : List Int32) {j : Nat} (hj : j < 4) (x : Int32) (hM : M.length + 5 ≤ 48) : f_Mod_addValue (pL 3 18 X M) (nI j) x = some (pL 3 18 X (M ++ vb j x)) := by
  unfold f_Mod_addValue vb
  by_cases c : j < 2
  · rw [if_neg (show ¬ (2 : Int32) ≤ nI j from nI_ge (b := 2) c (by decide)), if_pos c, am hX _ _ (by omega), k_bd_s, aim hX _ _ (by simp; omega), k_bd_s, List.append_assoc]
  · rw [if_pos (show (2 : Int32) ≤ nI j from nI_le (a := 2) (by omega) (by omega)), if_neg c, am hX _ _ (by omega), k_bd_s, am hX _ _ (by simp; omega), k_bd_s, List.append_assoc]
    rfl
def plL (id rf pr ix : Int32) : List Int32 := [1, 0, 48, id, 12, 12] ++ B4 rf ++ [25, pr] ++ (if ix = -1 then [] else [41, ix]) ++ [62]
theorem plL_len (id rf pr ix : Int32) : (plL id rf pr ix).length ≤ 15 := by
  unfold plL
  by_cases c : ix = -1
  · rw [if_pos c]; simp [B4]
  · rw [if_neg c]; simp [B4]
/-- the value that a read without a fault tells, on both sides -/
theorem val_eq {W X : ST} {j : Nat} {pr ix : Int32} (hj : j < 4) (ht : Rt W X) (h33 : W.1 33 = nI j) (h20 : W.1 20 = pr) (h21 : W.1 21 = ix) (hx : (pr = 85 ∨ pr = 104) ∨ (pr = 87 ∧ ∃ w, 1 ≤ w ∧ w ≤ 16 ∧ ix = nI w ∧ W.2 (8 + 2 * j) w ≠ 0)) : ∃ val, f_Desk_valueRead W = some val ∧ (2 ≤ j → isz val) ∧ ((pr = 85 ∧ f_Mod_presentOf X (nI j) = some val) ∨ (pr = 104 ∧ X.2 6 (17 * j) = val) ∨ (pr = 87 ∧ ∃ w, 1 ≤ w ∧ w ≤ 16 ∧ ix = nI w ∧ X.2 6 (17 * j + w) = val)) := by
  obtain ⟨t1, t2, t3⟩ := ht j hj
  have hin : inb (W.1 33) 4 := inbE h33 hj (by decide)
  have hcl : (W.1 33).toNatClampNeg = j := by rw [h33, nI_clamp (by omega)]
  have hs : f_Thing_shown W (W.1 33).toNatClampNeg = some (shf (W.2 (8 + 2 * j)) (W.2 (7 + 2 * j)) 1 16 (W.2 (7 + 2 * j) 0)) := by rw [hcl]; exact shown_C W j
  have h0 : f_Thing_valueOf W (W.1 33).toNatClampNeg 0 = some (W.2 (7 + 2 * j) 0) := by rw [hcl]; rfl
  unfold f_Desk_valueRead
  rw [h20]
  rcases hx with (c | c) | ⟨c, w, w1, w2, w3, w4⟩
  · refine ⟨shf (W.2 (8 + 2 * j)) (W.2 (7 + 2 * j)) 1 16 (W.2 (7 + 2 * j) 0), ?_, fun h2 => shf_isz 16 1 _ (t3 h2 0 (by decide)) (fun r a b => t3 h2 r (by omega)), Or.inl ⟨c, ?_⟩⟩
    · rw [if_pos c, k_gd_t _ hin, hs, k_bd_s]
    · rw [pres_eq ht hj]; exact shown_C W j
  · refine ⟨W.2 (7 + 2 * j) 0, ?_, fun h2 => t3 h2 0 (by decide), Or.inr (Or.inl ⟨c, t1.symm⟩)⟩
    rw [if_neg (by rw [c]; decide), k_gd_t _ hin, if_pos c, h0, k_bd_s]
  · have hv : f_Thing_valueOf W (W.1 33).toNatClampNeg (W.1 21) = some (W.2 (7 + 2 * j) w) := by
      rw [hcl, h21, w3, f_Thing_valueOf, if_neg (nI_pos (by omega)), if_neg (show ¬ (16 : Int32) < nI w from nI_nlt (a := 16) w2 (by decide)), k_gd_t _ (inbN (by omega) (by decide)), nI_clamp (by omega)]
    refine ⟨W.2 (7 + 2 * j) w, ?_, fun h2 => t3 h2 w (by omega), Or.inr (Or.inr ⟨c, w, w1, w2, w3, ((t2 w w1 w2).2 w4).symm⟩)⟩
    rw [if_neg (by rw [c]; decide), k_gd_t _ hin, if_neg (by rw [c]; decide), hv, k_bd_s]
/-- states that tell the same: the class's, but for its answer -/
theorem vr_pL {W : ST} (M : List Int32) : f_Desk_valueRead (pL 6 31 W M) = f_Desk_valueRead W := by
  have k := kp_pL 6 31 W M
  have e : ∀ j, (pL 6 31 W M).2 (7 + 2 * j) = W.2 (7 + 2 * j) := fun j => k.2 _ (by simp; omega)
  have e8 : ∀ j, (pL 6 31 W M).2 (8 + 2 * j) = W.2 (8 + 2 * j) := fun j => k.2 _ (by simp; omega)
  unfold f_Desk_valueRead f_Thing_valueOf
  rw [k.1 20 (by decide), k.1 21 (by decide), k.1 33 (by decide), e, shown_C, shown_C, e, e8]
theorem wf_read {W X : ST} {j : Nat} {id rf pr ix : Int32} (hj : j < 4) (ht : Rt W X) (hW : W.1 31 = nI 0) (hX : X.1 18 = nI 0) (h17 : W.1 17 = id) (h19 : W.1 19 = rf) (h33 : W.1 33 = nI j) (h20 : W.1 20 = pr) (h21 : W.1 21 = ix) (bid : byt id) (bpr : byt pr) (bix : ix = -1 ∨ byt ix) (hn : nof j pr ix (-1) 0) : ∃ L, (k_bd (f_Desk_begin W 48 12) fun q6 => k_bd (f_Desk_tellPlace q6) fun q7 => k_bd (f_Row_put_15 q7 62) fun q8 => k_bd (f_Desk_tellProperty q8) fun q9 => k_bd (f_Row_put_15 q9 63) fun q10 => some q10) = some (pL 6 31 W L) ∧ f_Mod_tell X id (nI j) rf pr ix = some (pL 3 18 X L) ∧ L.length ≤ 32 ∧ ∀ x ∈ L, byt x := by
  obtain ⟨n1, n2, n3, -⟩ := hn
  obtain ⟨P, hP⟩ : ∃ x, x = plL id rf pr ix := ⟨_, rfl⟩
  have lP : P.length ≤ 15 := by rw [hP]; exact plL_len _ _ _ _
  -- the place
  have hC : (k_bd (f_Desk_begin W 48 12) fun q6 => k_bd (f_Desk_tellPlace q6) fun q7 => k_bd (f_Row_put_15 q7 62) fun q8 => k_bd (f_Desk_tellProperty q8) fun q9 => k_bd (f_Row_put_15 q9 63) fun q10 => some q10) = k_bd (f_Desk_tellProperty (pL 6 31 W P)) fun q9 => k_bd (f_Row_put_15 q9 63) fun q10 => some q10 := by
    rw [bg0 hW, k_bd_s, f_Desk_tellPlace, ap15 hW _ _ (by simp), k_bd_s, pL_n _ _ (by decide), h19, ai15 hW _ _ (by simp), k_bd_s, ap15 hW _ _ (by simp [B4]), k_bd_s, pL_n _ _ (by decide), h20, ap15 hW _ _ (by simp [B4]), k_bd_s, pL_n _ _ (by decide), h21]
    by_cases c : ix = -1
    · rw [if_pos c, k_bd_s, ap15 hW _ _ (by simp [B4]), k_bd_s, hP, plL, if_pos c, h17]
      simp only [List.append_assoc, List.cons_append, List.nil_append]
    · rw [if_neg c, ap15 hW _ _ (by simp [B4]), k_bd_s, pL_n _ _ (by decide), h21, ap15 hW _ _ (by simp [B4]), k_bd_s, k_bd_s, ap15 hW _ _ (by simp [B4]), k_bd_s, hP, plL, if_neg c, h17]
      simp only [List.append_assoc, List.cons_append, List.nil_append]
  have hix : ix < 0 ↔ ix = -1 := by
    rcases bix with rfl | ⟨w, hw, rfl⟩
    · exact ⟨fun _ => rfl, fun _ => by decide⟩
    · exact ⟨fun q => absurd q (nI_pos (by omega)), fun q => by rw [q]; decide⟩
  obtain ⟨P0, hP0⟩ : ∃ x, P = x ++ [62] := ⟨[1, 0, 48, id, 12, 12] ++ B4 rf ++ [25, pr] ++ (if ix = -1 then [] else [41, ix]), by rw [hP]; rfl⟩
  have hM : f_Mod_tell X id (nI j) rf pr ix = f_Mod_tell_J67 (pL 3 18 X P0) (nI j) rf pr ix := by
    have e0 : P0 = [1, 0, 48, id, 12, 12] ++ B4 rf ++ [25, pr] ++ (if ix = -1 then [] else [41, ix]) := by
      have : P0 ++ [62] = ([1, 0, 48, id, 12, 12] ++ B4 rf ++ [25, pr] ++ (if ix = -1 then [] else [41, ix])) ++ [62] := by rw [← hP0, hP]; rfl
      exact List.append_cancel_right this
    rw [f_Mod_tell, ← pL_nil 3 18 X, am hX [] _ (by simp), k_bd_s, am hX _ _ (by simp), k_bd_s, am hX _ _ (by simp), k_bd_s, am hX _ _ (by simp), k_bd_s, am hX _ _ (by simp), k_bd_s, am hX _ _ (by simp), k_bd_s, aim hX _ _ (by simp), k_bd_s, am hX _ _ (by simp [B4]), k_bd_s, am hX _ _ (by simp [B4]), k_bd_s, e0]
    by_cases c : ix = -1
    · rw [if_pos (hix.mpr c), if_pos c]
      simp only [List.append_assoc, List.cons_append, List.nil_append, List.append_nil]
      rfl
    · rw [if_neg (fun q => c (hix.mp q)), if_neg c, am hX _ _ (by simp [B4]), k_bd_s, am hX _ _ (by simp [B4]), k_bd_s]
      simp only [List.append_assoc, List.cons_append, List.nil_append]
      rfl
  have l0 : P0.length ≤ 14 := by
    have := congrArg List.length hP0
    simp at this
    omega
  rw [f_Mod_tell_J67, am hX P0 62 (by omega), k_bd_s, ← hP0] at hM
  have bP : ∀ x ∈ P, byt x := by
    intro x hx
    rw [hP] at hx
    unfold plL at hx
    simp only [List.mem_append, List.mem_cons, List.not_mem_nil, or_false] at hx
    rcases hx with (((q | q) | q) | q) | q
    · rcases q with rfl | rfl | rfl | rfl | rfl | rfl
      · exact ⟨1, by decide, rfl⟩
      · exact ⟨0, by decide, rfl⟩
      · exact ⟨48, by decide, rfl⟩
      · exact bid
      · exact ⟨12, by decide, rfl⟩
      · exact ⟨12, by decide, rfl⟩
    · exact B4_byt rf x q
    · rcases q with rfl | rfl
      · exact ⟨25, by decide, rfl⟩
      · exact bpr
    · by_cases c : ix = -1
      · rw [if_pos c] at q; cases q
      · rw [if_neg c] at q
        simp only [List.mem_cons, List.not_mem_nil, or_false] at q
        rcases q with rfl | rfl
        · exact ⟨41, by decide, rfl⟩
        · exact bix.resolve_left c
    · subst q; exact ⟨62, by decide, rfl⟩
  have fin : ∀ (Z : List Int32), Z.length ≤ 5 → (∀ x ∈ Z, byt x) → f_Desk_tellProperty (pL 6 31 W P) = some (pL 6 31 W (P ++ Z)) → f_Mod_tell X id (nI j) rf pr ix = some (pL 3 18 X (P ++ Z ++ [63])) → ∃ L, (k_bd (f_Desk_begin W 48 12) fun q6 => k_bd (f_Desk_tellPlace q6) fun q7 => k_bd (f_Row_put_15 q7 62) fun q8 => k_bd (f_Desk_tellProperty q8) fun q9 => k_bd (f_Row_put_15 q9 63) fun q10 => some q10) = some (pL 6 31 W L) ∧ f_Mod_tell X id (nI j) rf pr ix = some (pL 3 18 X L) ∧ L.length ≤ 32 ∧ ∀ x ∈ L, byt x := by
    intro Z hZ bZ z1 z2
    refine ⟨P ++ Z ++ [63], ?_, z2, by simp; omega, ?_⟩
    · rw [hC, z1, k_bd_s, ap15 hW _ _ (by simp; omega), k_bd_s]
    · intro x hx
      simp only [List.mem_append, List.mem_singleton] at hx
      rcases hx with (q | q) | q
      · exact bP x q
      · exact bZ x q
      · subst q; exact ⟨63, by decide, rfl⟩
  have hin : inb (W.1 33) 4 := inbE h33 hj (by decide)
  have hcl : (W.1 33).toNatClampNeg = j := by rw [h33, nI_clamp (by omega)]
  have r20 : (pL 6 31 W P).1 20 = pr := by rw [pL_n _ _ (by decide)]; exact h20
  have r21 : (pL 6 31 W P).1 21 = ix := by rw [pL_n _ _ (by decide)]; exact h21
  have r33 : (pL 6 31 W P).1 33 = W.1 33 := pL_n _ _ (by decide)
  have r19 : ∀ M, (pL 6 31 W M).1 19 = rf := fun M => by rw [pL_n _ _ (by decide)]; exact h19
  by_cases c75 : pr = 75
  · refine fin ([196] ++ B4 rf) (by simp [B4]) (fun x hx => ?_) ?_ ?_
    · rcases List.mem_append.mp hx with q | q
      · rcases List.mem_singleton.mp q with rfl; exact ⟨196, by decide, rfl⟩
      · exact B4_byt rf x q
    · rw [f_Desk_tellProperty, r20, if_pos c75, ap15 hW _ _ (by omega), k_bd_s, r19, ai15 hW _ _ (by simp; omega), k_bd_s, List.append_assoc]
    · rw [hM, if_pos c75, am hX _ _ (by omega), k_bd_s, aim hX _ _ (by simp; omega), k_bd_s, am hX _ _ (by simp [B4]; omega), k_bd_s]
      simp only [List.append_assoc]
  rw [if_neg c75] at hM
  -- a value is told
  have tellv : ∀ val, f_Desk_valueRead W = some val → (2 ≤ j → isz val) → f_Desk_tellProperty (pL 6 31 W P) = f_Desk_tellProperty_J104 (pL 6 31 W P) → f_Mod_tell X id (nI j) rf pr ix = (k_bd (f_Mod_addValue (pL 3 18 X P) (nI j) val) fun q22 => k_bd (f_Mod_add q22 63) fun q23 => some q23) → ∃ L, (k_bd (f_Desk_begin W 48 12) fun q6 => k_bd (f_Desk_tellPlace q6) fun q7 => k_bd (f_Row_put_15 q7 62) fun q8 => k_bd (f_Desk_tellProperty q8) fun q9 => k_bd (f_Row_put_15 q9 63) fun q10 => some q10) = some (pL 6 31 W L) ∧ f_Mod_tell X id (nI j) rf pr ix = some (pL 3 18 X L) ∧ L.length ≤ 32 ∧ ∀ x ∈ L, byt x := by
    intro val g1 g2 g3 g4
    refine fin (vb j val) (vb_len j val) (vb_byt g2) ?_ ?_
    · have hbn : f_Thing_isBinary (pL 6 31 W P) ((pL 6 31 W P).1 33).toNatClampNeg = some (if j < 2 then 0 else 1) := by rw [r33, hcl]; exact isBin _ hj
      rw [g3, f_Desk_tellProperty_J104, k_gd_t _ (by rw [r33]; exact hin), hbn, k_bd_s]
      unfold vb
      by_cases c : j < 2
      · rw [if_pos c, if_pos rfl, ap15 hW _ _ (by omega), k_bd_s, vr_pL, g1, k_bd_s, ai15 hW _ _ (by simp; omega), k_bd_s, if_pos c, List.append_assoc]
      · rw [if_neg c, if_neg (by decide), ap15 hW _ _ (by omega), k_bd_s, vr_pL, g1, k_bd_s, ap15 hW _ _ (by simp; omega), k_bd_s, if_neg c, List.append_assoc]
        rfl
    · rw [g4, addV hX _ hj _ (by omega), k_bd_s, am hX _ _ (by have := vb_len j val; simp; omega), k_bd_s]
  have i17 : 17 * nI j = nI (17 * j) := n17'
  by_cases c87 : pr = 87
  · obtain ⟨m1, m2⟩ := n2 c87
    obtain ⟨w, hw, ew⟩ := bix.resolve_left m1
    have w16 : w ≤ 16 := by rw [ew] at m2; exact (nI_leI (b := 16) (by omega) (by decide)).mp m2
    by_cases c0 : ix = 0
    · rw [if_pos c0] at hM
      refine fin [33, 16] (by decide) (fun x hx => ?_) ?_ ?_
      · simp only [List.mem_cons, List.not_mem_nil, or_false] at hx
        rcases hx with rfl | rfl
        · exact ⟨33, by decide, rfl⟩
        · exact ⟨16, by decide, rfl⟩
      · rw [f_Desk_tellProperty, r20, if_neg c75, if_pos c87, r21, if_pos c0, ap15 hW _ _ (by omega), k_bd_s, ap15 hW _ _ (by simp; omega), k_bd_s, List.append_assoc]
        rfl
      · rw [hM, am hX _ _ (by omega), k_bd_s, am hX _ _ (by simp; omega), k_bd_s, am hX _ _ (by simp; omega), k_bd_s]
        simp only [List.append_assoc, List.cons_append, List.nil_append]
    · have w1 : 1 ≤ w := by
        rcases Nat.eq_zero_or_pos w with q | q
        · exact absurd (by rw [ew, q]; rfl) c0
        · exact q
      have i17w : 17 * nI j + ix = nI (17 * j + w) := by rw [ew]; exact n17
      rw [if_neg c0, if_neg (by rw [ew]; exact nI_nle (by omega) (by omega)), i17w, k_gd_t _ (inbN (by omega) (by decide)), nI_clamp (by omega), pL_m _ _ (by decide)] at hM
      obtain ⟨t1, t2, t3⟩ := ht j hj
      have hg : f_Thing_isGiven (pL 6 31 W P) ((pL 6 31 W P).1 33).toNatClampNeg ((pL 6 31 W P).1 21) = some (if W.2 (8 + 2 * j) w = 0 then 0 else 1) := by
        rw [r33, hcl, r21, ew, f_Thing_isGiven, if_neg (nI_pos (by omega)), if_neg (show ¬ (16 : Int32) < nI w from nI_nlt (a := 16) w16 (by decide)), k_gd_t _ (inbN (by omega) (by decide)), nI_clamp (by omega), (kp_pL 6 31 W P).2 (8 + 2 * j) (by simp; omega)]
        by_cases q : W.2 (8 + 2 * j) w = 0
        · rw [if_pos q, if_pos q]
        · rw [if_neg q, if_neg q]
      have hT : f_Desk_tellProperty (pL 6 31 W P) = if W.2 (8 + 2 * j) w = 0 then (k_bd (f_Row_put_15 (pL 6 31 W P) 0) fun q16 => some q16) else f_Desk_tellProperty_J104 (pL 6 31 W P) := by
        rw [f_Desk_tellProperty, r20, if_neg c75, if_pos c87]
        rw [if_neg (by rw [r21]; exact c0), f_Desk_tellProperty_J70, r20, if_pos c87, k_gd_t _ (by rw [r33]; exact hin), hg, k_bd_s]
        by_cases q : W.2 (8 + 2 * j) w = 0
        · rw [if_pos q, if_pos rfl, if_pos q]
        · rw [if_neg q, if_neg (by decide), if_neg q]
      rw [← (t2 w w1 w16).1] at hM
      by_cases q : W.2 (8 + 2 * j) w = 0
      · rw [if_pos q] at hM hT
        refine fin [0] (by decide) (fun x hx => by rcases List.mem_singleton.mp hx with rfl; exact ⟨0, by decide, rfl⟩) ?_ ?_
        · rw [hT, ap15 hW _ _ (by omega), k_bd_s]
        · rw [hM, am hX _ _ (by omega), k_bd_s, am hX _ _ (by simp; omega), k_bd_s]
      · rw [if_neg q] at hM hT
        obtain ⟨val, g1, g2, g3⟩ := val_eq hj ht h33 h20 h21 (Or.inr ⟨c87, w, w1, w16, ew, q⟩)
        refine tellv val g1 g2 hT ?_
        rcases g3 with ⟨a, -⟩ | ⟨a, -⟩ | ⟨-, w', b1, b2, b3, b4⟩
        · rw [c87] at a; exact absurd a (by decide)
        · rw [c87] at a; exact absurd a (by decide)
        · have : w' = w := (nI_eq (by omega) (by omega)).mp (b3.symm.trans ew)
          subst this
          rw [hM, f_Mod_tell_J143, if_neg (by rw [c87]; decide), if_neg (by rw [c87]; decide), i17w, k_gd_t _ (inbN (by omega) (by decide)), nI_clamp (by omega), pL_m _ _ (by decide), b4]
  · have ixn : ix = -1 := n3 c87
    have cp : pr = 85 ∨ pr = 104 := by
      rcases n1 with a | a | a | a
      · exact absurd a c75
      · exact Or.inl a
      · exact absurd a c87
      · exact Or.inr a
    rw [if_neg (by rw [ixn]; decide), if_pos (by rw [ixn]; decide)] at hM
    have hT : f_Desk_tellProperty (pL 6 31 W P) = f_Desk_tellProperty_J104 (pL 6 31 W P) := by
      rw [f_Desk_tellProperty, r20, if_neg c75, if_neg c87, f_Desk_tellProperty_J70, r20, if_neg c87]
    obtain ⟨val, g1, g2, g3⟩ := val_eq hj ht h33 h20 h21 (Or.inl cp)
    refine tellv val g1 g2 hT ?_
    rcases g3 with ⟨a, b⟩ | ⟨a, b⟩ | ⟨a, -⟩
    · have hp : f_Mod_presentOf (pL 3 18 X P) (nI j) = some val := by
        rw [pres_M _ hj, ← b, pres_M _ hj, (kp_pL 3 18 X P).2 6 (by decide), (kp_pL 3 18 X P).2 7 (by decide)]
      rw [hM, f_Mod_tell_J143, if_pos a, hp, k_bd_s]
    · rw [hM, f_Mod_tell_J143, if_neg (by rw [a]; decide), if_pos a, i17, k_gd_t _ (inbN (by omega) (by decide)), nI_clamp (by omega), pL_m _ _ (by decide), b]
    · exact absurd a c87
