/-! the answer to a request that is well formed -/
/-- a fault's two numbers, as the class and as the reference keep them -/
def flt (f e : Int32) : Prop := (f = 0 ∧ e = 0) ∨ (¬ f = 0 ∧ ¬ e ≤ 0 ∧ f / 256 = e / 100 ∧ f - f / 256 * 256 = e - e / 100 * 100 ∧ byt (f / 256) ∧ byt (f - f / 256 * 256))
theorem flt0 : flt 0 0 := Or.inl ⟨rfl, rfl⟩
theorem byt_of (k : Nat) (h : k < 256) : byt (nI k) := ⟨k, h, rfl⟩
theorem flt131 : flt 287 131 := Or.inr ⟨by decide, by decide, by decide, by decide, ⟨1, by decide, by decide⟩, ⟨31, by decide, by decide⟩⟩
theorem flt232 : flt 544 232 := Or.inr ⟨by decide, by decide, by decide, by decide, ⟨2, by decide, by decide⟩, ⟨32, by decide, by decide⟩⟩
theorem flt250 : flt 562 250 := Or.inr ⟨by decide, by decide, by decide, by decide, ⟨2, by decide, by decide⟩, ⟨50, by decide, by decide⟩⟩
theorem flt242 : flt 554 242 := Or.inr ⟨by decide, by decide, by decide, by decide, ⟨2, by decide, by decide⟩, ⟨42, by decide, by decide⟩⟩
theorem flt240 : flt 552 240 := Or.inr ⟨by decide, by decide, by decide, by decide, ⟨2, by decide, by decide⟩, ⟨40, by decide, by decide⟩⟩
theorem flt209 : flt 521 209 := Or.inr ⟨by decide, by decide, by decide, by decide, ⟨2, by decide, by decide⟩, ⟨9, by decide, by decide⟩⟩
theorem flt237 : flt 549 237 := Or.inr ⟨by decide, by decide, by decide, by decide, ⟨2, by decide, by decide⟩, ⟨37, by decide, by decide⟩⟩
theorem isBin (u : ST) {j : Nat} (hj : j < 4) : f_Thing_isBinary u j = some (if j < 2 then 0 else 1) := by
  rcases (show j = 0 ∨ j = 1 ∨ j = 2 ∨ j = 3 by omega) with rfl | rfl | rfl | rfl <;> rfl
/-- what is known of a request that was taken apart: kind -1 is a read -/
def RQ (W : ST) (pr ix kd vl : Int32) : Prop := W.1 20 = pr ∧ W.1 21 = ix ∧ byt pr ∧ (ix = -1 ∨ byt ix) ∧ ((W.1 18 = 12 ∧ kd = -1) ∨ (W.1 18 = 15 ∧ W.1 22 = kd ∧ (kd = 0 ∨ (kd = 68 ∧ W.1 23 = vl) ∨ (kd = 145 ∧ W.1 23 = vl ∧ byt vl))))
/-- where there is no fault -/
def nof (j : Nat) (pr ix kd vl : Int32) : Prop := (pr = 75 ∨ pr = 85 ∨ pr = 87 ∨ pr = 104) ∧ (pr = 87 → ¬ ix = -1 ∧ ix ≤ 16) ∧ (¬ pr = 87 → ix = -1) ∧ (¬ kd = -1 → (pr = 85 ∨ pr = 104) ∧ ((kd = 0 ∧ pr = 85) ∨ (kd = 68 ∧ j < 2) ∨ (kd = 145 ∧ 2 ≤ j ∧ isz vl)))
theorem faultW {W : ST} {j : Nat} {pr ix kd vl : Int32} (hj : j < 4) (h33 : W.1 33 = nI j) (hq : RQ W pr ix kd vl) (h18 : W.1 18 = 15) : ∃ f e, f_Desk_faultOfWrite W = some f ∧ f_Mod_wrong_J70 (nI j) pr kd vl = some e ∧ flt f e ∧ (f = 0 → (pr = 75 ∨ pr = 85 ∨ pr = 87 ∨ pr = 104) → (pr = 85 ∨ pr = 104) ∧ ((kd = 0 ∧ pr = 85) ∨ (kd = 68 ∧ j < 2) ∨ (kd = 145 ∧ 2 ≤ j ∧ isz vl))) := by
  obtain ⟨r20, r21, rp, ri, r⟩ := hq
  obtain ⟨q22, q⟩ : W.1 22 = kd ∧ (kd = 0 ∨ (kd = 68 ∧ W.1 23 = vl) ∨ (kd = 145 ∧ W.1 23 = vl ∧ byt vl)) := by
    rcases r with ⟨a, -⟩ | ⟨-, a, b⟩
    · rw [a] at h18; exact absurd h18 (by decide)
    · exact ⟨a, b⟩
  have k0 : (0 : Int32) ≤ kd := by
    rcases q with rfl | ⟨rfl, -⟩ | ⟨rfl, -⟩ <;> decide
  have hin : inb (W.1 33) 4 := inbE h33 hj (by decide)
  have hcl : (W.1 33).toNatClampNeg = j := by rw [h33, nI_clamp (by omega)]
  unfold f_Desk_faultOfWrite f_Mod_wrong_J70
  rw [if_pos k0, r20, q22]
  by_cases c75 : pr = 75
  · rw [if_pos c75, if_pos c75]
    exact ⟨_, _, rfl, rfl, flt240, fun q => absurd q (by decide)⟩
  rw [if_neg c75, if_neg c75]
  by_cases c87 : pr = 87
  · rw [if_pos c87, if_pos c87]
    exact ⟨_, _, rfl, rfl, flt240, fun q => absurd q (by decide)⟩
  have hbn : f_Thing_isBinary W (W.1 33).toNatClampNeg = some (if j < 2 then 0 else 1) := by rw [hcl]; exact isBin W hj
  have htk : f_Thing_takes W (W.1 33).toNatClampNeg (W.1 23) = some (if j < 2 ∨ isz (W.1 23) then 1 else 0) := by rw [hcl]; exact takes_C W hj _
  rw [if_neg c87, if_neg c87, k_gd_t _ hin, hbn, k_bd_s, k_gd_t _ hin, htk]
  have hpr : (pr = 75 ∨ pr = 85 ∨ pr = 87 ∨ pr = 104) → (pr = 85 ∨ pr = 104) := by
    rintro (q | q | q | q)
    · exact absurd q c75
    · exact Or.inl q
    · exact absurd q c87
    · exact Or.inr q
  by_cases cj : j < 2
  · have cj2 : ¬ (2 : Int32) ≤ nI j := nI_ge (b := 2) cj (by decide)
    rw [if_neg cj2, if_pos cj, if_pos (Or.inl cj)]
    unfold f_Mod_wrong_J106 f_Mod_wrong_J119 f_Mod_wrong_J123 f_Mod_wrong_J124
    rcases q with rfl | ⟨rfl, e23⟩ | ⟨rfl, e23, bv⟩
    · by_cases c85 : pr = 85
      · rw [if_pos c85, if_pos c85]
        exact ⟨0, 0, rfl, rfl, flt0, fun _ z => ⟨hpr z, Or.inl ⟨rfl, c85⟩⟩⟩
      · rw [if_neg c85, if_neg c85]
        exact ⟨521, 209, rfl, rfl, flt209, fun q => absurd q (by decide)⟩
    · rw [if_neg (by decide), if_pos rfl, if_pos rfl, if_pos rfl, if_neg (by decide), if_neg (by decide), k_bd_s, if_neg (by decide)]
      exact ⟨_, _, rfl, rfl, flt0, fun _ z => ⟨hpr z, Or.inr (Or.inl ⟨rfl, cj⟩)⟩⟩
    · rw [if_neg (by decide), if_pos rfl, if_neg (by decide), if_neg (by decide), if_neg (by decide), if_pos rfl]
      exact ⟨_, _, rfl, rfl, flt209, fun q => absurd q (by decide)⟩
  · have cj2 : (2 : Int32) ≤ nI j := nI_le (a := 2) (by omega) (by omega)
    rw [if_pos cj2, if_neg cj]
    unfold f_Mod_wrong_J106 f_Mod_wrong_J119 f_Mod_wrong_J123 f_Mod_wrong_J124
    rcases q with rfl | ⟨rfl, e23⟩ | ⟨rfl, e23, bv⟩
    · by_cases c85 : pr = 85
      · rw [if_pos c85, if_pos c85]
        exact ⟨0, 0, rfl, rfl, flt0, fun _ z => ⟨hpr z, Or.inl ⟨rfl, c85⟩⟩⟩
      · rw [if_neg c85, if_neg c85]
        exact ⟨521, 209, rfl, rfl, flt209, fun q => absurd q (by decide)⟩
    · rw [if_neg (by decide), if_neg (by decide), if_neg (by decide), if_neg (by decide), if_neg (by decide), if_pos rfl]
      exact ⟨_, _, rfl, rfl, flt209, fun q => absurd q (by decide)⟩
    · obtain ⟨w, hw, rfl⟩ := bv
      rw [e23]
      by_cases cz : isz (nI w)
      · have c1 : nI w ≤ 1 := by
          rcases cz with z | z <;> rw [z] <;> decide
        rw [if_pos (Or.inr cz), if_pos c1]
        exact ⟨0, 0, rfl, rfl, flt0, fun _ z => ⟨hpr z, Or.inr (Or.inr ⟨rfl, by omega, cz⟩)⟩⟩
      · have c1 : ¬ nI w ≤ 1 := by
          intro q
          have : w ≤ 1 := (nI_leI (b := 1) (by omega) (by decide)).mp q
          rcases (show w = 0 ∨ w = 1 by omega) with rfl | rfl
          · exact cz (Or.inl rfl)
          · exact cz (Or.inr rfl)
        rw [if_neg (show ¬ (j < 2 ∨ isz (nI w)) from fun q => q.elim cj cz), if_neg c1]
        exact ⟨549, 237, rfl, rfl, flt237, fun q => absurd q (by decide)⟩
theorem fault_eq {W : ST} {j : Nat} {pr ix kd vl : Int32} (hj : j < 4) (h33 : W.1 33 = nI j) (hq : RQ W pr ix kd vl) : ∃ f e, f_Desk_fault W = some f ∧ f_Mod_wrong (nI j) pr ix kd vl = some e ∧ flt f e ∧ (f = 0 → nof j pr ix kd vl) := by
  have hq0 := hq
  obtain ⟨r20, r21, rp, ri, r⟩ := hq
  have hin : inb (W.1 33) 4 := inbE h33 hj (by decide)
  have n33 : ¬ W.1 33 = -1 := by
    rw [h33]; intro q
    exact nI_pos (n := j) (by omega) (by rw [q]; decide)
  have ix0 : ix < 0 ↔ ix = -1 := by
    rcases ri with rfl | ⟨w, hw, rfl⟩
    · exact ⟨fun _ => rfl, fun _ => by decide⟩
    · exact ⟨fun q => absurd q (nI_pos (by omega)), fun q => by rw [q]; decide⟩
  -- behind the place's own faults
  have last : (pr = 75 ∨ pr = 85 ∨ pr = 87 ∨ pr = 104) → (pr = 87 → ¬ ix = -1 ∧ ix ≤ 16) → (¬ pr = 87 → ix = -1) → ∃ f e, (if W.1 18 = 15 then k_bd (f_Desk_faultOfWrite W) fun q7 => some q7 else some 0) = some f ∧ f_Mod_wrong_J70 (nI j) pr kd vl = some e ∧ flt f e ∧ (f = 0 → nof j pr ix kd vl) := by
    intro z1 z2 z3
    rcases r with ⟨a, b⟩ | ⟨a, b⟩
    · subst b
      rw [a, if_neg (by decide), f_Mod_wrong_J70, if_neg (by decide)]
      exact ⟨_, _, rfl, rfl, flt0, fun _ => ⟨z1, z2, z3, fun q => absurd rfl q⟩⟩
    · obtain ⟨f, e, g1, g2, g3, g4⟩ := faultW hj h33 hq0 a
      rw [a, if_pos rfl, g1, k_bd_s]
      exact ⟨f, e, rfl, g2, g3, fun q => ⟨z1, z2, z3, fun _ => g4 q z1⟩⟩
  have j72 : (pr = 75 ∨ pr = 85 ∨ pr = 87 ∨ pr = 104) → (¬ pr = 87 → ix = -1) → ∃ f e, f_Desk_fault_J72 W = some f ∧ f_Mod_wrong_J50 (nI j) pr ix kd vl = some e ∧ flt f e ∧ (f = 0 → nof j pr ix kd vl) := by
    intro z1 z3
    unfold f_Desk_fault_J72 f_Mod_wrong_J50
    rw [r20, r21]
    by_cases c87 : pr = 87
    · rw [if_pos c87, if_pos c87]
      by_cases cx : ix = -1
      · rw [if_pos cx, if_pos (ix0.mpr cx)]
        exact ⟨_, _, rfl, rfl, flt242, fun q => absurd q (by decide)⟩
      · rw [if_neg cx, if_neg (fun q => cx (ix0.mp q))]
        by_cases c16 : ix ≤ 16
        · rw [if_pos c16, if_pos c16]
          exact last z1 (fun _ => ⟨cx, c16⟩) z3
        · rw [if_neg c16, if_neg c16]
          exact ⟨_, _, rfl, rfl, flt242, fun q => absurd q (by decide)⟩
    · rw [if_neg c87, if_neg c87]
      exact last z1 (fun q => absurd q c87) z3
  have j51 : (pr = 75 ∨ pr = 85 ∨ pr = 87 ∨ pr = 104) → ∃ f e, f_Desk_fault_J51 W = some f ∧ f_Mod_wrong_J36 (nI j) pr ix kd vl = some e ∧ flt f e ∧ (f = 0 → nof j pr ix kd vl) := by
    intro z1
    unfold f_Desk_fault_J51 f_Mod_wrong_J36
    rw [r20, r21]
    by_cases cx : ix = -1
    · rw [if_pos cx, if_pos (ix0.mpr cx)]
      exact j72 z1 (fun _ => cx)
    · rw [if_neg cx, if_neg (fun q => cx (ix0.mp q))]
      by_cases c87 : pr = 87
      · rw [if_pos c87, if_pos c87]
        exact j72 z1 (fun q => absurd c87 q)
      · rw [if_neg c87, if_neg c87]
        exact ⟨_, _, rfl, rfl, flt250, fun q => absurd q (by decide)⟩
  unfold f_Desk_fault f_Mod_wrong
  rw [if_neg n33, k_gd_t _ hin, if_pos (show (0 : Int32) ≤ nI j from nI_pos' (by omega)), r20]
  by_cases c75 : pr = 75
  · rw [if_pos c75, if_pos c75]; exact j51 (Or.inl c75)
  rw [if_neg c75, if_neg c75]
  by_cases c85 : pr = 85
  · rw [if_pos c85, if_pos c85]; exact j51 (Or.inr (Or.inl c85))
  rw [if_neg c85, if_neg c85]
  by_cases c87 : pr = 87
  · rw [if_pos c87, if_pos c87]; exact j51 (Or.inr (Or.inr (Or.inl c87)))
  rw [if_neg c87, if_neg c87]
  by_cases c104 : pr = 104
  · rw [if_pos c104, if_pos c104]; exact j51 (Or.inr (Or.inr (Or.inr c104)))
  rw [if_neg c104, if_neg c104]
  exact ⟨_, _, rfl, rfl, flt232, fun q => absurd q (by decide)⟩
