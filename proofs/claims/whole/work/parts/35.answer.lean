/-! writing an answer -/
theorem nI_self (x : Int32) : nI x.toBitVec.toNat = x := by
  apply Int32.toBitVec_inj.mp
  apply BitVec.eq_of_toNat_eq
  exact pk_tn x.toBitVec.isLt
def B4 (x : Int32) : List Int32 := [by4 x.toBitVec.toNat 0, by4 x.toBitVec.toNat 1, by4 x.toBitVec.toNat 2, by4 x.toBitVec.toNat 3]
theorem B4_byt (x : Int32) : ∀ y ∈ B4 x, byt y := by
  intro y hy
  simp only [B4, List.mem_cons, List.not_mem_nil, or_false] at hy
  rcases hy with rfl | rfl | rfl | rfl <;> exact by4_byt _ _
section AN
variable {W X : ST}
theorem ap15 (hW : W.1 31 = nI 0) (M : List Int32) (b : Int32) (hM : M.length < 32) : f_Row_put_15 (pL 6 31 W M) b = some (pL 6 31 W (M ++ [b])) := by
  rw [put15 (n := M.length) b (by rw [pL_c W M hW, Nat.zero_add]) hM, pL_one, pL_app]
theorem ai15 (hW : W.1 31 = nI 0) (M : List Int32) (x : Int32) (hM : M.length + 4 ≤ 32) : f_Row_putInt_15 (pL 6 31 W M) x = some (pL 6 31 W (M ++ B4 x)) := by
  have hx := nI_self x
  have hN : x.toBitVec.toNat < 2 ^ 32 := x.toBitVec.isLt
  have e0 : us x 24 = by4 x.toBitVec.toNat 0 := by rw [← u24 hN, hx]
  have e1 : us x 16 &&& 255 = by4 x.toBitVec.toNat 1 := by rw [← u16 hN, hx]
  have e2 : us x 8 &&& 255 = by4 x.toBitVec.toNat 2 := by rw [← u8 hN, hx]
  have e3 : x &&& 255 = by4 x.toBitVec.toNat 3 := by rw [← ua hN, hx]
  unfold f_Row_putInt_15
  rw [e0, e1, e2, e3, ap15 hW M _ (by omega), k_bd_s, ap15 hW _ _ (by simp; omega), k_bd_s, ap15 hW _ _ (by simp; omega), k_bd_s, ap15 hW _ _ (by simp; omega), k_bd_s]
  simp only [List.append_assoc, List.cons_append, List.nil_append]
  rfl
theorem bg15 (hW : W.1 31 = nI 0) (M : List Int32) (kd la : Int32) (hM : M.length + 5 ≤ 32) : f_Desk_begin (pL 6 31 W M) kd la = some (pL 6 31 W (M ++ [1, 0, kd, W.1 17, la])) := by
  unfold f_Desk_begin
  rw [ap15 hW M _ (by omega), k_bd_s, ap15 hW _ _ (by simp; omega), k_bd_s, ap15 hW _ _ (by simp; omega), k_bd_s, pL_n _ _ (by decide), ap15 hW _ _ (by simp; omega), k_bd_s, ap15 hW _ _ (by simp; omega), k_bd_s]
  simp only [List.append_assoc, List.cons_append, List.nil_append]
theorem am (hX : X.1 18 = nI 0) (M : List Int32) (b : Int32) (hM : M.length < 48) : f_Mod_add (pL 3 18 X M) b = some (pL 3 18 X (M ++ [b])) := by
  rw [madd (n := M.length) b (by rw [pL_c X M hX, Nat.zero_add]) hM, pL_one, pL_app]
theorem aim (hX : X.1 18 = nI 0) (M : List Int32) (x : Int32) (hM : M.length + 4 ≤ 48) : f_Mod_addInt (pL 3 18 X M) x = some (pL 3 18 X (M ++ B4 x)) := by
  have hx := nI_self x
  have hN : x.toBitVec.toNat < 2 ^ 32 := x.toBitVec.isLt
  have e0 : us x 24 &&& 255 = by4 x.toBitVec.toNat 0 := by rw [← u24b hN, hx]
  have e1 : us x 16 &&& 255 = by4 x.toBitVec.toNat 1 := by rw [← u16 hN, hx]
  have e2 : us x 8 &&& 255 = by4 x.toBitVec.toNat 2 := by rw [← u8 hN, hx]
  have e3 : us x 0 &&& 255 = by4 x.toBitVec.toNat 3 := by rw [← u0 hN, hx]
  show f_Mod_addInt_L3 200 _ x 24 = _
  rw [f_Mod_addInt_L3, if_neg (by decide), e0, am hX M _ (by omega), k_bd_s, show (24 + (-8) : Int32) = 16 from by decide]
  rw [f_Mod_addInt_L3, if_neg (by decide), e1, am hX _ _ (by simp; omega), k_bd_s, show (16 + (-8) : Int32) = 8 from by decide]
  rw [f_Mod_addInt_L3, if_neg (by decide), e2, am hX _ _ (by simp; omega), k_bd_s, show (8 + (-8) : Int32) = 0 from by decide]
  rw [f_Mod_addInt_L3, if_neg (by decide), e3, am hX _ _ (by simp; omega), k_bd_s, show (0 + (-8) : Int32) = -8 from by decide]
  rw [f_Mod_addInt_L3, if_pos (by decide)]
  simp only [List.append_assoc, List.cons_append, List.nil_append]
  rfl
theorem rej (hX : X.1 18 = nI 0) (id why : Int32) : f_Mod_reject X id why = some (pL 3 18 X [1, 0, 96, id, why]) := by
  unfold f_Mod_reject
  rw [← pL_nil 3 18 X, am hX [] _ (by simp), k_bd_s, am hX _ _ (by simp), k_bd_s, am hX _ _ (by simp), k_bd_s, am hX _ _ (by simp), k_bd_s, am hX _ _ (by simp), k_bd_s]
  rfl
theorem bg0 (hW : W.1 31 = nI 0) (kd la : Int32) : f_Desk_begin W kd la = some (pL 6 31 W [1, 0, kd, W.1 17, la]) := bg15 hW [] kd la (by simp)
end AN
/-- the thing that a reference names, or -1 -/
def tc (x : Int32) : Int32 := if x = 8388608 then 0 else if x = 8388609 then 1 else if x = 16777216 then 2 else if x = 16777217 then 3 else -1
theorem tcC (u : ST) (x : Int32) : f_Desk_thingOf u x = some (tc x) := by
  have e1 : (0 : Int32) + 1 = 1 := by decide
  have e2 : (1 : Int32) + 1 = 2 := by decide
  have e3 : (2 : Int32) + 1 = 3 := by decide
  have e4 : (3 : Int32) + 1 = 4 := by decide
  unfold tc
  show f_Desk_thingOf_L2 200 u x 0 = _
  rw [f_Desk_thingOf_L2, if_neg (by decide), k_gd_t _ (by decide), f_Thing_reference, k_bd_s, show rfT (0 : Int32).toNatClampNeg = 8388608 from rfl, e1]
  by_cases c0 : x = 8388608
  · rw [if_pos c0.symm, k_gd_t _ (by decide), if_pos c0]
  rw [if_neg (fun q => c0 q.symm), if_neg c0, f_Desk_thingOf_L2, if_neg (by decide), k_gd_t _ (by decide), f_Thing_reference, k_bd_s, show rfT (1 : Int32).toNatClampNeg = 8388609 from rfl, e2]
  by_cases c1 : x = 8388609
  · rw [if_pos c1.symm, k_gd_t _ (by decide), if_pos c1]
  rw [if_neg (fun q => c1 q.symm), if_neg c1, f_Desk_thingOf_L2, if_neg (by decide), k_gd_t _ (by decide), f_Thing_reference, k_bd_s, show rfT (2 : Int32).toNatClampNeg = 16777216 from rfl, e3]
  by_cases c2 : x = 16777216
  · rw [if_pos c2.symm, k_gd_t _ (by decide), if_pos c2]
  rw [if_neg (fun q => c2 q.symm), if_neg c2, f_Desk_thingOf_L2, if_neg (by decide), k_gd_t _ (by decide), f_Thing_reference, k_bd_s, show rfT (3 : Int32).toNatClampNeg = 16777217 from rfl, e4]
  by_cases c3 : x = 16777217
  · rw [if_pos c3.symm, k_gd_t _ (by decide), if_pos c3]
  rw [if_neg (fun q => c3 q.symm), if_neg c3, f_Desk_thingOf_L2, if_pos (by decide)]
theorem tcM (x : Int32) : f_Mod_thingOf x = some (tc x) := by
  by_cases c0 : x = 8388608
  · subst c0; decide
  by_cases c1 : x = 8388609
  · subst c1; decide
  by_cases c2 : x = 16777216
  · subst c2; decide
  by_cases c3 : x = 16777217
  · subst c3; decide
  have hx := nI_self x
  have hN : x.toBitVec.toNat < 2 ^ 32 := x.toBitVec.isLt
  unfold tc
  rw [if_neg c0, if_neg c1, if_neg c2, if_neg c3]
  unfold f_Mod_thingOf
  have e1 : x &&& 4194303 = nI (x.toBitVec.toNat % 2 ^ 22) := pk_and x 22 (by decide)
  have e2 : us x 22 = nI (x.toBitVec.toNat / 2 ^ 22) := by
    have h := pk_ushrN hN 22 22 (by decide)
    rw [hx] at h
    exact h
  generalize x.toBitVec.toNat = N at hx hN e1 e2
  rw [e1, e2]
  by_cases d : nI (N % 2 ^ 22) ≤ 1
  · have d1 : N % 2 ^ 22 ≤ 1 := (nI_leI (b := 1) (by omega) (by decide)).mp d
    rw [if_pos d, if_neg, if_neg]
    · intro q
      have q1 : N / 2 ^ 22 = 4 := (nI_eq (b := 4) (by omega) (by decide)).mp q
      have : N = 16777216 ∨ N = 16777217 := by omega
      rcases this with rfl | rfl
      · exact c2 hx.symm
      · exact c3 hx.symm
    · intro q
      have q1 : N / 2 ^ 22 = 2 := (nI_eq (b := 2) (by omega) (by decide)).mp q
      have : N = 8388608 ∨ N = 8388609 := by omega
      rcases this with rfl | rfl
      · exact c0 hx.symm
      · exact c1 hx.symm
  · rw [if_neg d]
theorem tc_num (x : Int32) : tc x = -1 ∨ ∃ j, j < 4 ∧ tc x = nI j := by
  unfold tc
  by_cases c0 : x = 8388608
  · rw [if_pos c0]; exact Or.inr ⟨0, by decide, rfl⟩
  rw [if_neg c0]
  by_cases c1 : x = 8388609
  · rw [if_pos c1]; exact Or.inr ⟨1, by decide, rfl⟩
  rw [if_neg c1]
  by_cases c2 : x = 16777216
  · rw [if_pos c2]; exact Or.inr ⟨2, by decide, rfl⟩
  rw [if_neg c2]
  by_cases c3 : x = 16777217
  · rw [if_pos c3]; exact Or.inr ⟨3, by decide, rfl⟩
  rw [if_neg c3]
  exact Or.inl rfl
