def f_Thing_give (u : ST) (j : Nat) (x1 x2 : Int32) : Option (Int32 × ST) :=
  if x1 < 0 then
    some (0, u)
  else
  if 16 < x1 then
    some (0, u)
  else
  k_bd (f_Thing_takes u j x2) fun q3 =>
  if q3 = 0 then
    some (0, u)
  else
  k_gd (inb x1 17) (
  k_let (rs u (7 + 2 * j) x1.toNatClampNeg x2) fun u5 =>
  k_gd (inb x1 17) (
  k_let (rs u5 (8 + 2 * j) x1.toNatClampNeg 1) fun u6 =>
  some (1, u6)))
set_option maxHeartbeats 4000000 in
set_option maxRecDepth 100000 in
theorem c_Thing_give (l : Launch) (D : va_G) (ad : Nat → Nat) (cI cZ cT : ClassId) (v u : ST) (j : Nat) (hj : j < 4) (x1 x2 : Int32) (q : Int32 × ST) (h : f_Thing_give u j x1 x2 = some q) : MX l D (tyC cI cZ cT) (wC ad cI cZ cT v) y_Thing_give cd_Thing_give 1 21 [.ref (ad (18 + 3 * j)), .int x1, .int x2] u (some (.int q.1)) q.2 := by
  refine MX.start (by decide) (Nat.le_of_ble_eq_true rfl) ?_
  intro p e s m below meth c ls A hC hr hl hK hA hw
  have ⟨hx, hb, hml, hown, hT, hlk⟩ := hC
  have hl : lv_has ls 3 [(0, .ref (ad (18 + 3 * j))), (1, .int x1), (2, .int x2)] := hl
  rw [f_Thing_give] at h
  refine lv_iload_n hx hb d_Thing_give_0 rfl (lv_at hl 1 rfl) ?_
  refine lv_if_lt (tgt := 18) hx hb d_Thing_give_1 rfl (fun c1 => ?_) (fun c1 => ?_)
  · have h := br1 c1 h
    refine lv_iconst (v := 0) hx hb d_Thing_give_18 (by decide) ?_
    exact fx_retw hC hr (by decide) hK hw h d_Thing_give_19
  · have h := br0 c1 h
    refine lv_iload_n hx hb d_Thing_give_4 rfl (lv_at hl 1 rfl) ?_
    refine lv_bipush (v := 16) hx hb d_Thing_give_5 (by decide) ?_
    refine lv_icmp_gt (tgt := 18) hx hb d_Thing_give_7 rfl (fun c2 => ?_) (fun c2 => ?_)
    · have h := br1 c2 h
      refine lv_iconst (v := 0) hx hb d_Thing_give_18 (by decide) ?_
      exact fx_retw hC hr (by decide) hK hw h d_Thing_give_19
    · have h := br0 c2 h
      refine lv_aload_n hx hb d_Thing_give_10 rfl (lv_at hl 0 rfl) ?_
      refine lv_iload_n hx hb d_Thing_give_11 rfl (lv_at hl 2 rfl) ?_
      refine fx_sVr (As := [.int x2]) hC hl.1 (fun q hq => c_Thing_takes l D ad cI cZ cT v u j hj x2 q hq) fy_Thing_takes fv_Thing_takes kw_372 ⟨Nat.le_of_ble_eq_true rfl, Nat.le_of_ble_eq_true rfl⟩ rfl hK hA hw (at_T hj) rfl rfl rfl (Nat.le_of_ble_eq_true rfl) d_Thing_give_12 ⟨Nat.le_refl _, Nat.le_refl _⟩ h (fun H locs q3 h hw => ?_)
      refine lv_if_ne (tgt := 20) hx hb d_Thing_give_15 rfl (fun c4 => ?_) (fun c4 => ?_)
      · have h := br0 c4 h
        refine lv_aload_n hx hb d_Thing_give_20 rfl (lv_at hl 0 rfl) ?_
        refine gf_T_values hj hC hK hw d_Thing_give_21 ?_
        refine lv_iload_n hx hb d_Thing_give_24 rfl (lv_at hl 1 rfl) ?_
        refine lv_iload_n hx hb d_Thing_give_25 rfl (lv_at hl 2 rfl) ?_
        refine as_TV hj hC hK hw d_Thing_give_26 h (fun H locs u5 h hw => ?_)
        refine lv_aload_n hx hb d_Thing_give_27 rfl (lv_at hl 0 rfl) ?_
        refine gf_T_given hj hC hK hw d_Thing_give_28 ?_
        refine lv_iload_n hx hb d_Thing_give_31 rfl (lv_at hl 1 rfl) ?_
        refine lv_iconst (v := 1) hx hb d_Thing_give_32 (by decide) ?_
        refine as_TG hj hC hK hw (by decide) d_Thing_give_33 h (fun H locs u6 h hw => ?_)
        refine lv_iconst (v := 1) hx hb d_Thing_give_34 (by decide) ?_
        exact fx_retw hC hr (by decide) hK hw h d_Thing_give_35
      · have h := br1 c4 h
        refine lv_iconst (v := 0) hx hb d_Thing_give_18 (by decide) ?_
        exact fx_retw hC hr (by decide) hK hw h d_Thing_give_19
def f_Thing_takeAway (u : ST) (j : Nat) (x1 : Int32) : Option (Int32 × ST) :=
  if x1 < 1 then
    some (0, u)
  else
  if x1 ≤ 16 then
    k_gd (inb x1 17) (
    k_let (rs u (8 + 2 * j) x1.toNatClampNeg 0) fun u3 =>
    some (1, u3))
  else
  some (0, u)
set_option maxHeartbeats 4000000 in
set_option maxRecDepth 100000 in
theorem c_Thing_takeAway (l : Launch) (D : va_G) (ad : Nat → Nat) (cI cZ cT : ClassId) (v u : ST) (j : Nat) (hj : j < 4) (x1 : Int32) (q : Int32 × ST) (h : f_Thing_takeAway u j x1 = some q) : MX l D (tyC cI cZ cT) (wC ad cI cZ cT v) y_Thing_takeAway cd_Thing_takeAway 0 0 [.ref (ad (18 + 3 * j)), .int x1] u (some (.int q.1)) q.2 := by
  refine MX.start (by decide) (Nat.le_of_ble_eq_true rfl) ?_
  intro p e s m below meth c ls A hC hr hl hK hA hw
  have ⟨hx, hb, hml, hown, hT, hlk⟩ := hC
  have hl : lv_has ls 2 [(0, .ref (ad (18 + 3 * j))), (1, .int x1)] := hl
  rw [f_Thing_takeAway] at h
  refine lv_iload_n hx hb d_Thing_takeAway_0 rfl (lv_at hl 1 rfl) ?_
  refine lv_iconst (v := 1) hx hb d_Thing_takeAway_1 (by decide) ?_
  refine lv_icmp_lt (tgt := 11) hx hb d_Thing_takeAway_2 rfl (fun c1 => ?_) (fun c1 => ?_)
  · have h := br1 c1 h
    refine lv_iconst (v := 0) hx hb d_Thing_takeAway_11 (by decide) ?_
    exact fx_retw hC hr (by decide) hK hw h d_Thing_takeAway_12
  · have h := br0 c1 h
    refine lv_iload_n hx hb d_Thing_takeAway_5 rfl (lv_at hl 1 rfl) ?_
    refine lv_bipush (v := 16) hx hb d_Thing_takeAway_6 (by decide) ?_
    refine lv_icmp_le (tgt := 13) hx hb d_Thing_takeAway_8 rfl (fun c2 => ?_) (fun c2 => ?_)
    · have h := br1 c2 h
      refine lv_aload_n hx hb d_Thing_takeAway_13 rfl (lv_at hl 0 rfl) ?_
      refine gf_T_given hj hC hK hw d_Thing_takeAway_14 ?_
      refine lv_iload_n hx hb d_Thing_takeAway_17 rfl (lv_at hl 1 rfl) ?_
      refine lv_iconst (v := 0) hx hb d_Thing_takeAway_18 (by decide) ?_
      refine as_TG hj hC hK hw (by decide) d_Thing_takeAway_19 h (fun H locs u3 h hw => ?_)
      refine lv_iconst (v := 1) hx hb d_Thing_takeAway_20 (by decide) ?_
      exact fx_retw hC hr (by decide) hK hw h d_Thing_takeAway_21
    · have h := br0 c2 h
      refine lv_iconst (v := 0) hx hb d_Thing_takeAway_11 (by decide) ?_
      exact fx_retw hC hr (by decide) hK hw h d_Thing_takeAway_12
def f_Desk_write (u : ST)  : Option (ST) :=
  if (u.1 22) = 0 then
    k_gd (inb (u.1 33) 4) (
    k_bd (f_Thing_takeAway u (u.1 33).toNatClampNeg (u.1 24)) fun q7 =>
    some q7.2)
  else
  k_gd (inb (u.1 33) 4) (
  if (u.1 20) = 104 then
    k_bd (f_Thing_give u (u.1 33).toNatClampNeg 0 (u.1 23)) fun q5 =>
    some q5.2
  else
  k_bd (f_Thing_give u (u.1 33).toNatClampNeg (u.1 24) (u.1 23)) fun q4 =>
  some q4.2)
set_option maxHeartbeats 4000000 in
set_option maxRecDepth 100000 in
theorem c_Desk_write (l : Launch) (D : va_G) (ad : Nat → Nat) (cI cZ cT : ClassId) (v u : ST) (q : ST) (h : f_Desk_write u = some q) : MX l D (tyC cI cZ cT) (wC ad cI cZ cT v) y_Desk_write cd_Desk_write 2 43 [.ref (ad 2)] u none q := by
  refine MX.start (by decide) (Nat.le_of_ble_eq_true rfl) ?_
  intro p e s m below meth c ls A hC hr hl hK hA hw
  have ⟨hx, hb, hml, hown, hT, hlk⟩ := hC
  have hl : lv_has ls 1 [(0, .ref (ad 2))] := hl
  rw [f_Desk_write] at h
  refine lv_aload_n hx hb d_Desk_write_0 rfl (lv_at hl 0 rfl) ?_
  refine gf_C_2_writtenMark hC hK hw d_Desk_write_1 ?_
  refine lv_if_ne (tgt := 22) hx hb d_Desk_write_4 rfl (fun c1 => ?_) (fun c1 => ?_)
  · have h := br0 c1 h
    refine lv_aload_n hx hb d_Desk_write_22 rfl (lv_at hl 0 rfl) ?_
    refine gf_C_2_asksFor hC hK hw d_Desk_write_23 ?_
    obtain ⟨g2, h⟩ := k_gd_some h
    rw [tv_some (ad := ad) g2]
    refine lv_aload_n hx hb d_Desk_write_26 rfl (lv_at hl 0 rfl) ?_
    refine gf_C_2_property hC hK hw d_Desk_write_27 ?_
    refine lv_bipush (v := 104) hx hb d_Desk_write_30 (by decide) ?_
    refine lv_icmp_ne (tgt := 39) hx hb d_Desk_write_32 rfl (fun c3 => ?_) (fun c3 => ?_)
    · have h := br0 c3 h
      refine lv_aload_n hx hb d_Desk_write_39 rfl (lv_at hl 0 rfl) ?_
      refine gf_C_2_rank hC hK hw d_Desk_write_40 ?_
      refine lv_aload_n hx hb d_Desk_write_43 rfl (lv_at hl 0 rfl) ?_
      refine gf_C_2_writtenValue hC hK hw d_Desk_write_44 ?_
      refine fx_sVi (As := [.int (u.1 24), .int (u.1 23)]) hC hl.1 (fun q hq => c_Thing_give l D ad cI cZ cT v u (u.1 33).toNatClampNeg g2.2 (u.1 24) (u.1 23) q hq) fy_Thing_give fv_Thing_give kw_368 ⟨Nat.le_of_ble_eq_true rfl, Nat.le_of_ble_eq_true rfl⟩ rfl hK hA hw (at_T g2.2) rfl rfl rfl (Nat.le_of_ble_eq_true rfl) d_Desk_write_47 ⟨Nat.le_refl _, Nat.le_refl _⟩ h (fun H locs q4 h hw => ?_)
      refine lv_pop hx hb d_Desk_write_50 rfl ?_
      exact fx_retv hC hr hK hw h d_Desk_write_51
    · have h := br1 c3 h
      refine lv_iconst (v := 0) hx hb d_Desk_write_35 (by decide) ?_
      refine lv_goto (tgt := 43) hx hb d_Desk_write_36 rfl ?_
      refine lv_aload_n hx hb d_Desk_write_43 rfl (lv_at hl 0 rfl) ?_
      refine gf_C_2_writtenValue hC hK hw d_Desk_write_44 ?_
      refine fx_sVi (As := [.int 0, .int (u.1 23)]) hC hl.1 (fun q hq => c_Thing_give l D ad cI cZ cT v u (u.1 33).toNatClampNeg g2.2 0 (u.1 23) q hq) fy_Thing_give fv_Thing_give kw_368 ⟨Nat.le_of_ble_eq_true rfl, Nat.le_of_ble_eq_true rfl⟩ rfl hK hA hw (at_T g2.2) rfl rfl rfl (Nat.le_of_ble_eq_true rfl) d_Desk_write_47 ⟨Nat.le_refl _, Nat.le_refl _⟩ h (fun H locs q5 h hw => ?_)
      refine lv_pop hx hb d_Desk_write_50 rfl ?_
      exact fx_retv hC hr hK hw h d_Desk_write_51
  · have h := br1 c1 h
    refine lv_aload_n hx hb d_Desk_write_7 rfl (lv_at hl 0 rfl) ?_
    refine gf_C_2_asksFor hC hK hw d_Desk_write_8 ?_
    obtain ⟨g6, h⟩ := k_gd_some h
    rw [tv_some (ad := ad) g6]
    refine lv_aload_n hx hb d_Desk_write_11 rfl (lv_at hl 0 rfl) ?_
    refine gf_C_2_rank hC hK hw d_Desk_write_12 ?_
    refine fx_sVi (As := [.int (u.1 24)]) hC hl.1 (fun q hq => c_Thing_takeAway l D ad cI cZ cT v u (u.1 33).toNatClampNeg g6.2 (u.1 24) q hq) fy_Thing_takeAway fv_Thing_takeAway kw_364 ⟨Nat.le_of_ble_eq_true rfl, Nat.le_of_ble_eq_true rfl⟩ rfl hK hA hw (at_T g6.2) rfl rfl rfl (Nat.le_of_ble_eq_true rfl) d_Desk_write_15 ⟨Nat.le_refl _, Nat.le_refl _⟩ h (fun H locs q7 h hw => ?_)
    refine lv_pop hx hb d_Desk_write_18 rfl ?_
    refine lv_goto (tgt := 51) hx hb d_Desk_write_19 rfl ?_
    exact fx_retv hC hr hK hw h d_Desk_write_51
def f_Desk_answerWellFormed (u : ST)  : Option (ST) :=
  k_bd (f_Desk_thingOf u (u.1 19)) fun q1 =>
  k_let (ss u 33 q1) fun u2 =>
  k_bd (f_Desk_fault u2) fun q3 =>
  if q3 = 0 then
    if (u2.1 18) = 15 then
      k_bd (f_Desk_write u2) fun q11 =>
      k_bd (f_Desk_begin q11 32 15) fun q12 =>
      some q12
    else
    k_bd (f_Desk_begin u2 48 12) fun q6 =>
    k_bd (f_Desk_tellPlace q6) fun q7 =>
    k_bd (f_Row_put_15 q7 62) fun q8 =>
    k_bd (f_Desk_tellProperty q8) fun q9 =>
    k_bd (f_Row_put_15 q9 63) fun q10 =>
    some q10
  else
  k_bd (f_Desk_begin u2 80 (u2.1 18)) fun q13 =>
  k_bd (f_Row_put_15 q13 145) fun q14 =>
  k_bd (f_Row_put_15 q14 (q3 / 256)) fun q15 =>
  k_bd (f_Row_put_15 q15 145) fun q16 =>
  k_bd (f_Row_put_15 q16 (q3 - q3 / 256 * 256)) fun q17 =>
  some q17
set_option maxHeartbeats 4000000 in
set_option maxRecDepth 100000 in
theorem c_Desk_answerWellFormed (l : Launch) (D : va_G) (ad : Nat → Nat) (cI cZ cT : ClassId) (v u : ST) (q : ST) (h : f_Desk_answerWellFormed u = some q) : MX l D (tyC cI cZ cT) (wC ad cI cZ cT v) y_Desk_answerWellFormed cd_Desk_answerWellFormed 3 63 [.ref (ad 2)] u none q := by
  refine MX.start (by decide) (Nat.le_of_ble_eq_true rfl) ?_
  intro p e s m below meth c ls A hC hr hl hK hA hw
  have ⟨hx, hb, hml, hown, hT, hlk⟩ := hC
  have hl : lv_has ls 2 [(0, .ref (ad 2))] := hl
  rw [f_Desk_answerWellFormed] at h
  refine lv_aload_n hx hb d_Desk_answerWellFormed_0 rfl (lv_at hl 0 rfl) ?_
  refine lv_aload_n hx hb d_Desk_answerWellFormed_1 rfl (lv_at hl 0 rfl) ?_
  refine lv_aload_n hx hb d_Desk_answerWellFormed_2 rfl (lv_at hl 0 rfl) ?_
  refine gf_C_2_reference hC hK hw d_Desk_answerWellFormed_3 ?_
  refine fx_sVt (As := [.int (u.1 19)]) hC hl.1 (fun q hq => c_Desk_thingOf l D ad cI cZ cT v u (u.1 19) q hq) fy_Desk_thingOf fv_Desk_thingOf kw_336 ⟨Nat.le_of_ble_eq_true rfl, Nat.le_of_ble_eq_true rfl⟩ rfl hK hA hw at_C_2 rfl rfl rfl (Nat.le_of_ble_eq_true rfl) d_Desk_answerWellFormed_6 ⟨Nat.le_refl _, Nat.le_refl _⟩ h (fun H locs q1 h hw => ?_)
  refine pf_C_2_asksFor rfl hC hK hw d_Desk_answerWellFormed_9 h (fun H locs u2 h hw => ?_)
  refine lv_aload_n hx hb d_Desk_answerWellFormed_12 rfl (lv_at hl 0 rfl) ?_
  refine fx_sVr (As := []) hC hl.1 (fun q hq => c_Desk_fault l D ad cI cZ cT v u2 q hq) fy_Desk_fault fv_Desk_fault kw_344 ⟨Nat.le_of_ble_eq_true rfl, Nat.le_of_ble_eq_true rfl⟩ rfl hK hA hw at_C_2 rfl rfl rfl (Nat.le_of_ble_eq_true rfl) d_Desk_answerWellFormed_13 ⟨Nat.le_refl _, Nat.le_refl _⟩ h (fun H locs q3 h hw => ?_)
  refine lv_istore_n (lv' := [(1, .int q3), (0, .ref (ad 2))]) hx hb d_Desk_answerWellFormed_16 rfl hl (by decide) rfl (fun ls hl => ?_)
  refine lv_iload_n hx hb d_Desk_answerWellFormed_17 rfl (lv_at hl 0 rfl) ?_
  refine lv_if_eq (tgt := 78) hx hb d_Desk_answerWellFormed_18 rfl (fun c4 => ?_) (fun c4 => ?_)
  · have h := br1 c4 h
    refine lv_aload_n hx hb d_Desk_answerWellFormed_78 rfl (lv_at hl 1 rfl) ?_
    refine gf_C_2_service hC hK hw d_Desk_answerWellFormed_79 ?_
    refine lv_bipush (v := 15) hx hb d_Desk_answerWellFormed_82 (by decide) ?_
    refine lv_icmp_ne (tgt := 102) hx hb d_Desk_answerWellFormed_84 rfl (fun c5 => ?_) (fun c5 => ?_)
    · have h := br0 c5 h
      refine lv_aload_n hx hb d_Desk_answerWellFormed_102 rfl (lv_at hl 1 rfl) ?_
      refine lv_bipush (v := 48) hx hb d_Desk_answerWellFormed_103 (by decide) ?_
      refine lv_bipush (v := 12) hx hb d_Desk_answerWellFormed_105 (by decide) ?_
      refine fx_sVv (As := [.int 48, .int 12]) hC hl.1 (fun q hq => c_Desk_begin l D ad cI cZ cT v u2 48 12 q hq) fy_Desk_begin fv_Desk_begin kw_307 ⟨Nat.le_of_ble_eq_true rfl, Nat.le_of_ble_eq_true rfl⟩ rfl hK hA hw at_C_2 rfl rfl rfl (Nat.le_of_ble_eq_true rfl) d_Desk_answerWellFormed_107 ⟨Nat.le_refl _, Nat.le_refl _⟩ h (fun H locs q6 h hw => ?_)
      refine lv_aload_n hx hb d_Desk_answerWellFormed_110 rfl (lv_at hl 1 rfl) ?_
      refine fx_sVv (As := []) hC hl.1 (fun q hq => c_Desk_tellPlace l D ad cI cZ cT v q6 q hq) fy_Desk_tellPlace fv_Desk_tellPlace kw_373 ⟨Nat.le_of_ble_eq_true rfl, Nat.le_of_ble_eq_true rfl⟩ rfl hK hA hw at_C_2 rfl rfl rfl (Nat.le_of_ble_eq_true rfl) d_Desk_answerWellFormed_111 ⟨Nat.le_refl _, Nat.le_refl _⟩ h (fun H locs q7 h hw => ?_)
      refine lv_aload_n hx hb d_Desk_answerWellFormed_114 rfl (lv_at hl 1 rfl) ?_
      refine gf_C_2_answer hC hK hw d_Desk_answerWellFormed_115 ?_
      refine lv_bipush (v := 62) hx hb d_Desk_answerWellFormed_118 (by decide) ?_
      refine fx_sVv (As := [.int 62]) hC hl.1 (fun q hq => c_Row_put_15 l D ad cI cZ cT v q7 62 q hq) fy_Row_put fv_Row_put kw_311 ⟨Nat.le_of_ble_eq_true rfl, Nat.le_of_ble_eq_true rfl⟩ rfl hK hA hw at_C_15 rfl rfl rfl (Nat.le_of_ble_eq_true rfl) d_Desk_answerWellFormed_120 ⟨Nat.le_refl _, Nat.le_refl _⟩ h (fun H locs q8 h hw => ?_)
      refine lv_aload_n hx hb d_Desk_answerWellFormed_123 rfl (lv_at hl 1 rfl) ?_
      refine fx_sVv (As := []) hC hl.1 (fun q hq => c_Desk_tellProperty l D ad cI cZ cT v q8 q hq) fy_Desk_tellProperty fv_Desk_tellProperty kw_381 ⟨Nat.le_of_ble_eq_true rfl, Nat.le_of_ble_eq_true rfl⟩ rfl hK hA hw at_C_2 rfl rfl rfl (Nat.le_of_ble_eq_true rfl) d_Desk_answerWellFormed_124 ⟨Nat.le_refl _, Nat.le_refl _⟩ h (fun H locs q9 h hw => ?_)
      refine lv_aload_n hx hb d_Desk_answerWellFormed_127 rfl (lv_at hl 1 rfl) ?_
      refine gf_C_2_answer hC hK hw d_Desk_answerWellFormed_128 ?_
      refine lv_bipush (v := 63) hx hb d_Desk_answerWellFormed_131 (by decide) ?_
      refine fx_sVv (As := [.int 63]) hC hl.1 (fun q hq => c_Row_put_15 l D ad cI cZ cT v q9 63 q hq) fy_Row_put fv_Row_put kw_311 ⟨Nat.le_of_ble_eq_true rfl, Nat.le_of_ble_eq_true rfl⟩ rfl hK hA hw at_C_15 rfl rfl rfl (Nat.le_of_ble_eq_true rfl) d_Desk_answerWellFormed_133 ⟨Nat.le_refl _, Nat.le_refl _⟩ h (fun H locs q10 h hw => ?_)
      exact fx_retv hC hr hK hw h d_Desk_answerWellFormed_136
    · have h := br1 c5 h
      refine lv_aload_n hx hb d_Desk_answerWellFormed_87 rfl (lv_at hl 1 rfl) ?_
      refine fx_sVv (As := []) hC hl.1 (fun q hq => c_Desk_write l D ad cI cZ cT v u2 q hq) fy_Desk_write fv_Desk_write kw_360 ⟨Nat.le_of_ble_eq_true rfl, Nat.le_of_ble_eq_true rfl⟩ rfl hK hA hw at_C_2 rfl rfl rfl (Nat.le_of_ble_eq_true rfl) d_Desk_answerWellFormed_88 ⟨Nat.le_refl _, Nat.le_refl _⟩ h (fun H locs q11 h hw => ?_)
      refine lv_aload_n hx hb d_Desk_answerWellFormed_91 rfl (lv_at hl 1 rfl) ?_
      refine lv_bipush (v := 32) hx hb d_Desk_answerWellFormed_92 (by decide) ?_
      refine lv_bipush (v := 15) hx hb d_Desk_answerWellFormed_94 (by decide) ?_
      refine fx_sVv (As := [.int 32, .int 15]) hC hl.1 (fun q hq => c_Desk_begin l D ad cI cZ cT v q11 32 15 q hq) fy_Desk_begin fv_Desk_begin kw_307 ⟨Nat.le_of_ble_eq_true rfl, Nat.le_of_ble_eq_true rfl⟩ rfl hK hA hw at_C_2 rfl rfl rfl (Nat.le_of_ble_eq_true rfl) d_Desk_answerWellFormed_96 ⟨Nat.le_refl _, Nat.le_refl _⟩ h (fun H locs q12 h hw => ?_)
      refine lv_goto (tgt := 136) hx hb d_Desk_answerWellFormed_99 rfl ?_
      exact fx_retv hC hr hK hw h d_Desk_answerWellFormed_136
  · have h := br0 c4 h
    refine lv_aload_n hx hb d_Desk_answerWellFormed_21 rfl (lv_at hl 1 rfl) ?_
    refine lv_bipush (v := 80) hx hb d_Desk_answerWellFormed_22 (by decide) ?_
    refine lv_aload_n hx hb d_Desk_answerWellFormed_24 rfl (lv_at hl 1 rfl) ?_
    refine gf_C_2_service hC hK hw d_Desk_answerWellFormed_25 ?_
    refine fx_sVv (As := [.int 80, .int (u2.1 18)]) hC hl.1 (fun q hq => c_Desk_begin l D ad cI cZ cT v u2 80 (u2.1 18) q hq) fy_Desk_begin fv_Desk_begin kw_307 ⟨Nat.le_of_ble_eq_true rfl, Nat.le_of_ble_eq_true rfl⟩ rfl hK hA hw at_C_2 rfl rfl rfl (Nat.le_of_ble_eq_true rfl) d_Desk_answerWellFormed_28 ⟨Nat.le_refl _, Nat.le_refl _⟩ h (fun H locs q13 h hw => ?_)
    refine lv_aload_n hx hb d_Desk_answerWellFormed_31 rfl (lv_at hl 1 rfl) ?_
    refine gf_C_2_answer hC hK hw d_Desk_answerWellFormed_32 ?_
    refine lv_sipush (v := 145) hx hb d_Desk_answerWellFormed_35 (by decide) ?_
    refine fx_sVv (As := [.int 145]) hC hl.1 (fun q hq => c_Row_put_15 l D ad cI cZ cT v q13 145 q hq) fy_Row_put fv_Row_put kw_311 ⟨Nat.le_of_ble_eq_true rfl, Nat.le_of_ble_eq_true rfl⟩ rfl hK hA hw at_C_15 rfl rfl rfl (Nat.le_of_ble_eq_true rfl) d_Desk_answerWellFormed_38 ⟨Nat.le_refl _, Nat.le_refl _⟩ h (fun H locs q14 h hw => ?_)
    refine lv_aload_n hx hb d_Desk_answerWellFormed_41 rfl (lv_at hl 1 rfl) ?_
    refine gf_C_2_answer hC hK hw d_Desk_answerWellFormed_42 ?_
    refine lv_iload_n hx hb d_Desk_answerWellFormed_45 rfl (lv_at hl 0 rfl) ?_
    refine lv_sipush (v := 256) hx hb d_Desk_answerWellFormed_46 (by decide) ?_
    refine lv_idiv hx hb d_Desk_answerWellFormed_49 (by decide) ?_
    refine fx_sVv (As := [.int (q3 / 256)]) hC hl.1 (fun q hq => c_Row_put_15 l D ad cI cZ cT v q14 (q3 / 256) q hq) fy_Row_put fv_Row_put kw_311 ⟨Nat.le_of_ble_eq_true rfl, Nat.le_of_ble_eq_true rfl⟩ rfl hK hA hw at_C_15 rfl rfl rfl (Nat.le_of_ble_eq_true rfl) d_Desk_answerWellFormed_50 ⟨Nat.le_refl _, Nat.le_refl _⟩ h (fun H locs q15 h hw => ?_)
    refine lv_aload_n hx hb d_Desk_answerWellFormed_53 rfl (lv_at hl 1 rfl) ?_
    refine gf_C_2_answer hC hK hw d_Desk_answerWellFormed_54 ?_
    refine lv_sipush (v := 145) hx hb d_Desk_answerWellFormed_57 (by decide) ?_
    refine fx_sVv (As := [.int 145]) hC hl.1 (fun q hq => c_Row_put_15 l D ad cI cZ cT v q15 145 q hq) fy_Row_put fv_Row_put kw_311 ⟨Nat.le_of_ble_eq_true rfl, Nat.le_of_ble_eq_true rfl⟩ rfl hK hA hw at_C_15 rfl rfl rfl (Nat.le_of_ble_eq_true rfl) d_Desk_answerWellFormed_60 ⟨Nat.le_refl _, Nat.le_refl _⟩ h (fun H locs q16 h hw => ?_)
    refine lv_aload_n hx hb d_Desk_answerWellFormed_63 rfl (lv_at hl 1 rfl) ?_
    refine gf_C_2_answer hC hK hw d_Desk_answerWellFormed_64 ?_
    refine lv_iload_n hx hb d_Desk_answerWellFormed_67 rfl (lv_at hl 0 rfl) ?_
    refine lv_sipush (v := 256) hx hb d_Desk_answerWellFormed_68 (by decide) ?_
    refine lv_irem hx hb d_Desk_answerWellFormed_71 (by decide) ?_
    refine fx_sVv (As := [.int (q3 - q3 / 256 * 256)]) hC hl.1 (fun q hq => c_Row_put_15 l D ad cI cZ cT v q16 (q3 - q3 / 256 * 256) q hq) fy_Row_put fv_Row_put kw_311 ⟨Nat.le_of_ble_eq_true rfl, Nat.le_of_ble_eq_true rfl⟩ rfl hK hA hw at_C_15 rfl rfl rfl (Nat.le_of_ble_eq_true rfl) d_Desk_answerWellFormed_72 ⟨Nat.le_refl _, Nat.le_refl _⟩ h (fun H locs q17 h hw => ?_)
    refine lv_goto (tgt := 136) hx hb d_Desk_answerWellFormed_75 rfl ?_
    exact fx_retv hC hr hK hw h d_Desk_answerWellFormed_136
def f_Desk_takesWritten_J99 (u : ST) (s0 : Int32) : Option (Int32 × ST) :=
  k_let (ss u 24 s0) fun u12 =>
  if (u12.1 24) < 1 then
    some (0, u12)
  else
  if 16 < (u12.1 24) then
    some (0, u12)
  else
  some (1, u12)
def f_Desk_takesWritten_J69 (u : ST)  : Option (Int32 × ST) :=
  k_bd (f_Desk_follows u 63) fun q8 =>
  if q8.1 = 0 then
    some (0, q8.2)
  else
  k_bd (f_Desk_follows q8.2 73) fun q10 =>
  if q10.1 = 0 then
    f_Desk_takesWritten_J99 q10.2 16
  else
  k_bd (f_Desk_nextByte q10.2) fun q15 =>
  f_Desk_takesWritten_J99 q15.2 q15.1
def f_Desk_takesWritten (u : ST)  : Option (Int32 × ST) :=
  k_bd (f_Desk_follows u 62) fun q1 =>
  if q1.1 = 0 then
    some (0, q1.2)
  else
  k_bd (f_Desk_nextByte q1.2) fun q3 =>
  k_let (ss q3.2 22 q3.1) fun u4 =>
  if (u4.1 22) = 68 then
    k_bd (f_Desk_nextInt u4) fun q18 =>
    k_let (ss q18.2 23 q18.1) fun u19 =>
    f_Desk_takesWritten_J69 u19
  else
  if (u4.1 22) = 145 then
    k_bd (f_Desk_nextByte u4) fun q16 =>
    k_let (ss q16.2 23 q16.1) fun u17 =>
    f_Desk_takesWritten_J69 u17
  else
  if (u4.1 22) = 0 then
    f_Desk_takesWritten_J69 u4
  else
  some (0, u4)
set_option maxHeartbeats 4000000 in
set_option maxRecDepth 100000 in
theorem c_Desk_takesWritten (l : Launch) (D : va_G) (ad : Nat → Nat) (cI cZ cT : ClassId) (v u : ST) (q : Int32 × ST) (h : f_Desk_takesWritten u = some q) : MX l D (tyC cI cZ cT) (wC ad cI cZ cT v) y_Desk_takesWritten cd_Desk_takesWritten 2 43 [.ref (ad 2)] u (some (.int q.1)) q.2 := by
  refine MX.start (by decide) (Nat.le_of_ble_eq_true rfl) ?_
  intro p e s m below meth c ls A hC hr hl hK hA hw
  have ⟨hx, hb, hml, hown, hT, hlk⟩ := hC
  have hl : lv_has ls 1 [(0, .ref (ad 2))] := hl
  have J99 : ∀ (u : ST) (s0 : Int32) (ls : Array Slot) (H : Heap) (locs : List Loc), f_Desk_takesWritten_J99 u s0 = some q → lv_has ls 1 [(0, .ref (ad 2))] → fw D A s.heap (wC ad cI cZ cT v u) H locs → WX (wC ad cI cZ cT v) p l e 2 43 s m [.ref (ad 2)] below meth c A D (tyC cI cZ cT) (some (.int q.1)) q.2 H locs (F0 m 99 ls [.int s0, .ref (ad 2)]) := by
    intro u s0 ls H locs h hl hw
    rw [f_Desk_takesWritten_J99] at h
    refine pf_C_2_rank hC hK hw d_Desk_takesWritten_99 h (fun H locs u12 h hw => ?_)
    refine lv_aload_n hx hb d_Desk_takesWritten_102 rfl (lv_at hl 0 rfl) ?_
    refine gf_C_2_rank hC hK hw d_Desk_takesWritten_103 ?_
    refine lv_iconst (v := 1) hx hb d_Desk_takesWritten_106 (by decide) ?_
    refine lv_icmp_lt (tgt := 123) hx hb d_Desk_takesWritten_107 rfl (fun c13 => ?_) (fun c13 => ?_)
    · have h := br1 c13 h
      refine lv_iconst (v := 0) hx hb d_Desk_takesWritten_123 (by decide) ?_
      exact fx_retw hC hr (by decide) hK hw h d_Desk_takesWritten_124
    · have h := br0 c13 h
      refine lv_aload_n hx hb d_Desk_takesWritten_110 rfl (lv_at hl 0 rfl) ?_
      refine gf_C_2_rank hC hK hw d_Desk_takesWritten_111 ?_
      refine lv_bipush (v := 16) hx hb d_Desk_takesWritten_114 (by decide) ?_
      refine lv_icmp_gt (tgt := 123) hx hb d_Desk_takesWritten_116 rfl (fun c14 => ?_) (fun c14 => ?_)
      · have h := br1 c14 h
        refine lv_iconst (v := 0) hx hb d_Desk_takesWritten_123 (by decide) ?_
        exact fx_retw hC hr (by decide) hK hw h d_Desk_takesWritten_124
      · have h := br0 c14 h
        refine lv_iconst (v := 1) hx hb d_Desk_takesWritten_119 (by decide) ?_
        refine lv_goto (tgt := 124) hx hb d_Desk_takesWritten_120 rfl ?_
        exact fx_retw hC hr (by decide) hK hw h d_Desk_takesWritten_124
  have J69 : ∀ (u : ST) (ls : Array Slot) (H : Heap) (locs : List Loc), f_Desk_takesWritten_J69 u = some q → lv_has ls 1 [(0, .ref (ad 2))] → fw D A s.heap (wC ad cI cZ cT v u) H locs → WX (wC ad cI cZ cT v) p l e 2 43 s m [.ref (ad 2)] below meth c A D (tyC cI cZ cT) (some (.int q.1)) q.2 H locs (F0 m 69 ls []) := by
    intro u ls H locs h hl hw
    rw [f_Desk_takesWritten_J69] at h
    refine lv_aload_n hx hb d_Desk_takesWritten_69 rfl (lv_at hl 0 rfl) ?_
    refine lv_bipush (v := 63) hx hb d_Desk_takesWritten_70 (by decide) ?_
    refine fx_sVi (As := [.int 63]) hC hl.1 (fun q hq => c_Desk_follows l D ad cI cZ cT v u 63 q hq) fy_Desk_follows fv_Desk_follows kw_316 ⟨Nat.le_of_ble_eq_true rfl, Nat.le_of_ble_eq_true rfl⟩ rfl hK hA hw at_C_2 rfl rfl rfl (Nat.le_of_ble_eq_true rfl) d_Desk_takesWritten_72 ⟨Nat.le_refl _, Nat.le_refl _⟩ h (fun H locs q8 h hw => ?_)
    refine lv_if_ne (tgt := 80) hx hb d_Desk_takesWritten_75 rfl (fun c9 => ?_) (fun c9 => ?_)
    · have h := br0 c9 h
      refine lv_aload_n hx hb d_Desk_takesWritten_80 rfl (lv_at hl 0 rfl) ?_
      refine lv_aload_n hx hb d_Desk_takesWritten_81 rfl (lv_at hl 0 rfl) ?_
      refine lv_bipush (v := 73) hx hb d_Desk_takesWritten_82 (by decide) ?_
      refine fx_sVi (As := [.int 73]) hC hl.1 (fun q hq => c_Desk_follows l D ad cI cZ cT v q8.2 73 q hq) fy_Desk_follows fv_Desk_follows kw_316 ⟨Nat.le_of_ble_eq_true rfl, Nat.le_of_ble_eq_true rfl⟩ rfl hK hA hw at_C_2 rfl rfl rfl (Nat.le_of_ble_eq_true rfl) d_Desk_takesWritten_84 ⟨Nat.le_refl _, Nat.le_refl _⟩ h (fun H locs q10 h hw => ?_)
      refine lv_if_eq (tgt := 97) hx hb d_Desk_takesWritten_87 rfl (fun c11 => ?_) (fun c11 => ?_)
      · have h := br1 c11 h
        refine lv_bipush (v := 16) hx hb d_Desk_takesWritten_97 (by decide) ?_
        exact J99 _ _ _ _ _ h (lv_sub hl [0] rfl) hw
      · have h := br0 c11 h
        refine lv_aload_n hx hb d_Desk_takesWritten_90 rfl (lv_at hl 0 rfl) ?_
        refine fx_sVi (As := []) hC hl.1 (fun q hq => c_Desk_nextByte l D ad cI cZ cT v q10.2 q hq) fy_Desk_nextByte fv_Desk_nextByte kw_324 ⟨Nat.le_of_ble_eq_true rfl, Nat.le_of_ble_eq_true rfl⟩ rfl hK hA hw at_C_2 rfl rfl rfl (Nat.le_of_ble_eq_true rfl) d_Desk_takesWritten_91 ⟨Nat.le_refl _, Nat.le_refl _⟩ h (fun H locs q15 h hw => ?_)
        refine lv_goto (tgt := 99) hx hb d_Desk_takesWritten_94 rfl ?_
        exact J99 _ _ _ _ _ h (lv_sub hl [0] rfl) hw
    · have h := br1 c9 h
      refine lv_iconst (v := 0) hx hb d_Desk_takesWritten_78 (by decide) ?_
      exact fx_retw hC hr (by decide) hK hw h d_Desk_takesWritten_79
  rw [f_Desk_takesWritten] at h
  refine lv_aload_n hx hb d_Desk_takesWritten_0 rfl (lv_at hl 0 rfl) ?_
  refine lv_bipush (v := 62) hx hb d_Desk_takesWritten_1 (by decide) ?_
  refine fx_sVi (As := [.int 62]) hC hl.1 (fun q hq => c_Desk_follows l D ad cI cZ cT v u 62 q hq) fy_Desk_follows fv_Desk_follows kw_316 ⟨Nat.le_of_ble_eq_true rfl, Nat.le_of_ble_eq_true rfl⟩ rfl hK hA hw at_C_2 rfl rfl rfl (Nat.le_of_ble_eq_true rfl) d_Desk_takesWritten_3 ⟨Nat.le_refl _, Nat.le_refl _⟩ h (fun H locs q1 h hw => ?_)
  refine lv_if_ne (tgt := 11) hx hb d_Desk_takesWritten_6 rfl (fun c2 => ?_) (fun c2 => ?_)
  · have h := br0 c2 h
    refine lv_aload_n hx hb d_Desk_takesWritten_11 rfl (lv_at hl 0 rfl) ?_
    refine lv_aload_n hx hb d_Desk_takesWritten_12 rfl (lv_at hl 0 rfl) ?_
    refine fx_sVi (As := []) hC hl.1 (fun q hq => c_Desk_nextByte l D ad cI cZ cT v q1.2 q hq) fy_Desk_nextByte fv_Desk_nextByte kw_324 ⟨Nat.le_of_ble_eq_true rfl, Nat.le_of_ble_eq_true rfl⟩ rfl hK hA hw at_C_2 rfl rfl rfl (Nat.le_of_ble_eq_true rfl) d_Desk_takesWritten_13 ⟨Nat.le_refl _, Nat.le_refl _⟩ h (fun H locs q3 h hw => ?_)
    refine pf_C_2_writtenMark hC hK hw d_Desk_takesWritten_16 h (fun H locs u4 h hw => ?_)
    refine lv_aload_n hx hb d_Desk_takesWritten_19 rfl (lv_at hl 0 rfl) ?_
    refine gf_C_2_writtenMark hC hK hw d_Desk_takesWritten_20 ?_
    refine lv_bipush (v := 68) hx hb d_Desk_takesWritten_23 (by decide) ?_
    refine lv_icmp_ne (tgt := 39) hx hb d_Desk_takesWritten_25 rfl (fun c5 => ?_) (fun c5 => ?_)
    · have h := br0 c5 h
      refine lv_aload_n hx hb d_Desk_takesWritten_39 rfl (lv_at hl 0 rfl) ?_
      refine gf_C_2_writtenMark hC hK hw d_Desk_takesWritten_40 ?_
      refine lv_sipush (v := 145) hx hb d_Desk_takesWritten_43 (by decide) ?_
      refine lv_icmp_ne (tgt := 60) hx hb d_Desk_takesWritten_46 rfl (fun c6 => ?_) (fun c6 => ?_)
      · have h := br0 c6 h
        refine lv_aload_n hx hb d_Desk_takesWritten_60 rfl (lv_at hl 0 rfl) ?_
        refine gf_C_2_writtenMark hC hK hw d_Desk_takesWritten_61 ?_
        refine lv_if_eq (tgt := 69) hx hb d_Desk_takesWritten_64 rfl (fun c7 => ?_) (fun c7 => ?_)
        · have h := br1 c7 h
          exact J69 _ _ _ _ h (lv_sub hl [0] rfl) hw
        · have h := br0 c7 h
          refine lv_iconst (v := 0) hx hb d_Desk_takesWritten_67 (by decide) ?_
          exact fx_retw hC hr (by decide) hK hw h d_Desk_takesWritten_68
      · have h := br1 c6 h
        refine lv_aload_n hx hb d_Desk_takesWritten_49 rfl (lv_at hl 0 rfl) ?_
        refine lv_aload_n hx hb d_Desk_takesWritten_50 rfl (lv_at hl 0 rfl) ?_
        refine fx_sVi (As := []) hC hl.1 (fun q hq => c_Desk_nextByte l D ad cI cZ cT v u4 q hq) fy_Desk_nextByte fv_Desk_nextByte kw_324 ⟨Nat.le_of_ble_eq_true rfl, Nat.le_of_ble_eq_true rfl⟩ rfl hK hA hw at_C_2 rfl rfl rfl (Nat.le_of_ble_eq_true rfl) d_Desk_takesWritten_51 ⟨Nat.le_refl _, Nat.le_refl _⟩ h (fun H locs q16 h hw => ?_)
        refine pf_C_2_writtenValue hC hK hw d_Desk_takesWritten_54 h (fun H locs u17 h hw => ?_)
        refine lv_goto (tgt := 69) hx hb d_Desk_takesWritten_57 rfl ?_
        exact J69 _ _ _ _ h (lv_sub hl [0] rfl) hw
    · have h := br1 c5 h
      refine lv_aload_n hx hb d_Desk_takesWritten_28 rfl (lv_at hl 0 rfl) ?_
      refine lv_aload_n hx hb d_Desk_takesWritten_29 rfl (lv_at hl 0 rfl) ?_
      refine fx_sVi (As := []) hC hl.1 (fun q hq => c_Desk_nextInt l D ad cI cZ cT v u4 q hq) fy_Desk_nextInt fv_Desk_nextInt kw_320 ⟨Nat.le_of_ble_eq_true rfl, Nat.le_of_ble_eq_true rfl⟩ rfl hK hA hw at_C_2 rfl rfl rfl (Nat.le_of_ble_eq_true rfl) d_Desk_takesWritten_30 ⟨Nat.le_refl _, Nat.le_refl _⟩ h (fun H locs q18 h hw => ?_)
      refine pf_C_2_writtenValue hC hK hw d_Desk_takesWritten_33 h (fun H locs u19 h hw => ?_)
      refine lv_goto (tgt := 69) hx hb d_Desk_takesWritten_36 rfl ?_
      exact J69 _ _ _ _ h (lv_sub hl [0] rfl) hw
  · have h := br1 c2 h
    refine lv_iconst (v := 0) hx hb d_Desk_takesWritten_9 (by decide) ?_
    exact fx_retw hC hr (by decide) hK hw h d_Desk_takesWritten_10
def f_Desk_answerTo_13_J100 (u : ST)  : Option (ST) :=
  k_gd ((u.1 32) = 1) (
  k_bd (f_Row_size_13 u) fun q15 =>
  if (u.1 16) = q15 then
    k_bd (f_Desk_answerWellFormed u) fun q17 =>
    some q17
  else
  k_bd (f_Desk_begin u 96 4) fun q18 =>
  some q18)
def f_Desk_answerTo_13_J77 (u : ST)  : Option (ST) :=
  k_bd (f_Desk_takesPlace u) fun q11 =>
  if q11.1 = 0 then
    k_bd (f_Desk_begin q11.2 96 4) fun q13 =>
    some q13
  else
  if (q11.2.1 18) = 15 then
    k_bd (f_Desk_takesWritten q11.2) fun q19 =>
    if q19.1 = 0 then
      k_bd (f_Desk_begin q19.2 96 4) fun q21 =>
      some q21
    else
    f_Desk_answerTo_13_J100 q19.2
  else
  f_Desk_answerTo_13_J100 q11.2
def f_Desk_answerTo_13 (u : ST)  : Option (ST) :=
  k_bd (f_Row_clear_15 u) fun q1 =>
  k_bd (f_Desk_isForDesk_13 q1) fun q2 =>
  if q2 = 0 then
    some q1
  else
  k_let (ss q1 32 1) fun u4 =>
  k_bd (f_Row_at_13 u4 4) fun q5 =>
  k_let (ss u4 17 q5) fun u6 =>
  k_bd (f_Row_at_13 u6 5) fun q7 =>
  k_let (ss u6 18 q7) fun u8 =>
  k_let (ss u8 16 6) fun u9 =>
  if (u9.1 18) = 12 then
    f_Desk_answerTo_13_J77 u9
  else
  if (u9.1 18) = 15 then
    f_Desk_answerTo_13_J77 u9
  else
  k_bd (f_Desk_begin u9 96 9) fun q23 =>
  some q23
set_option maxHeartbeats 4000000 in
set_option maxRecDepth 100000 in
theorem c_Desk_answerTo_13 (l : Launch) (D : va_G) (ad : Nat → Nat) (cI cZ cT : ClassId) (v u : ST) (q : ST) (h : f_Desk_answerTo_13 u = some q) : MX l D (tyC cI cZ cT) (wC ad cI cZ cT v) y_Desk_answerTo cd_Desk_answerTo 4 84 [.ref (ad 2), .ref (ad 13)] u (some (.ref (ad 15))) q := by
  refine MX.start (by decide) (Nat.le_of_ble_eq_true rfl) ?_
  intro p e s m below meth c ls A hC hr hl hK hA hw
  have ⟨hx, hb, hml, hown, hT, hlk⟩ := hC
  have hl : lv_has ls 2 [(0, .ref (ad 2)), (1, .ref (ad 13))] := hl
  have J100 : ∀ (u : ST) (ls : Array Slot) (H : Heap) (locs : List Loc), f_Desk_answerTo_13_J100 u = some q → lv_has ls 2 [(0, .ref (ad 2))] → fw D A s.heap (wC ad cI cZ cT v u) H locs → WX (wC ad cI cZ cT v) p l e 4 84 s m [.ref (ad 2), .ref (ad 13)] below meth c A D (tyC cI cZ cT) (some (.ref (ad 15))) q H locs (F0 m 100 ls []) := by
    intro u ls H locs h hl hw
    rw [f_Desk_answerTo_13_J100] at h
    refine lv_aload_n hx hb d_Desk_answerTo_100 rfl (lv_at hl 0 rfl) ?_
    refine gf_C_2_at hC hK hw d_Desk_answerTo_101 ?_
    refine lv_aload_n hx hb d_Desk_answerTo_104 rfl (lv_at hl 0 rfl) ?_
    refine gf_C_2_asked hC hK hw d_Desk_answerTo_105 h (fun h => ?_)
    refine fx_sVr (As := []) hC hl.1 (fun q hq => c_Row_size_13 l D ad cI cZ cT v u q hq) fy_Row_size fv_Row_size kw_305 ⟨Nat.le_of_ble_eq_true rfl, Nat.le_of_ble_eq_true rfl⟩ rfl hK hA hw at_C_13 rfl rfl rfl (Nat.le_of_ble_eq_true rfl) d_Desk_answerTo_108 ⟨Nat.le_refl _, Nat.le_refl _⟩ h (fun H locs q15 h hw => ?_)
    refine lv_icmp_eq (tgt := 124) hx hb d_Desk_answerTo_111 rfl (fun c16 => ?_) (fun c16 => ?_)
    · have h := br1 c16 h
      refine lv_aload_n hx hb d_Desk_answerTo_124 rfl (lv_at hl 0 rfl) ?_
      refine fx_sVv (As := []) hC hl.1 (fun q hq => c_Desk_answerWellFormed l D ad cI cZ cT v u q hq) fy_Desk_answerWellFormed fv_Desk_answerWellFormed kw_332 ⟨Nat.le_of_ble_eq_true rfl, Nat.le_of_ble_eq_true rfl⟩ rfl hK hA hw at_C_2 rfl rfl rfl (Nat.le_of_ble_eq_true rfl) d_Desk_answerTo_125 ⟨Nat.le_refl _, Nat.le_refl _⟩ h (fun H locs q17 h hw => ?_)
      refine lv_aload_n hx hb d_Desk_answerTo_128 rfl (lv_at hl 0 rfl) ?_
      refine gf_C_2_answer hC hK hw d_Desk_answerTo_129 ?_
      exact fx_reta hC hr hK hw h d_Desk_answerTo_132
    · have h := br0 c16 h
      refine lv_aload_n hx hb d_Desk_answerTo_114 rfl (lv_at hl 0 rfl) ?_
      refine lv_bipush (v := 96) hx hb d_Desk_answerTo_115 (by decide) ?_
      refine lv_iconst (v := 4) hx hb d_Desk_answerTo_117 (by decide) ?_
      refine fx_sVv (As := [.int 96, .int 4]) hC hl.1 (fun q hq => c_Desk_begin l D ad cI cZ cT v u 96 4 q hq) fy_Desk_begin fv_Desk_begin kw_307 ⟨Nat.le_of_ble_eq_true rfl, Nat.le_of_ble_eq_true rfl⟩ rfl hK hA hw at_C_2 rfl rfl rfl (Nat.le_of_ble_eq_true rfl) d_Desk_answerTo_118 ⟨Nat.le_refl _, Nat.le_refl _⟩ h (fun H locs q18 h hw => ?_)
      refine lv_goto (tgt := 128) hx hb d_Desk_answerTo_121 rfl ?_
      refine lv_aload_n hx hb d_Desk_answerTo_128 rfl (lv_at hl 0 rfl) ?_
      refine gf_C_2_answer hC hK hw d_Desk_answerTo_129 ?_
      exact fx_reta hC hr hK hw h d_Desk_answerTo_132
  have J77 : ∀ (u : ST) (ls : Array Slot) (H : Heap) (locs : List Loc), f_Desk_answerTo_13_J77 u = some q → lv_has ls 2 [(0, .ref (ad 2))] → fw D A s.heap (wC ad cI cZ cT v u) H locs → WX (wC ad cI cZ cT v) p l e 4 84 s m [.ref (ad 2), .ref (ad 13)] below meth c A D (tyC cI cZ cT) (some (.ref (ad 15))) q H locs (F0 m 77 ls []) := by
    intro u ls H locs h hl hw
    rw [f_Desk_answerTo_13_J77] at h
    refine lv_aload_n hx hb d_Desk_answerTo_77 rfl (lv_at hl 0 rfl) ?_
    refine fx_sVi (As := []) hC hl.1 (fun q hq => c_Desk_takesPlace l D ad cI cZ cT v u q hq) fy_Desk_takesPlace fv_Desk_takesPlace kw_312 ⟨Nat.le_of_ble_eq_true rfl, Nat.le_of_ble_eq_true rfl⟩ rfl hK hA hw at_C_2 rfl rfl rfl (Nat.le_of_ble_eq_true rfl) d_Desk_answerTo_78 ⟨Nat.le_refl _, Nat.le_refl _⟩ h (fun H locs q11 h hw => ?_)
    refine lv_if_eq (tgt := 114) hx hb d_Desk_answerTo_81 rfl (fun c12 => ?_) (fun c12 => ?_)
    · have h := br1 c12 h
      refine lv_aload_n hx hb d_Desk_answerTo_114 rfl (lv_at hl 0 rfl) ?_
      refine lv_bipush (v := 96) hx hb d_Desk_answerTo_115 (by decide) ?_
      refine lv_iconst (v := 4) hx hb d_Desk_answerTo_117 (by decide) ?_
      refine fx_sVv (As := [.int 96, .int 4]) hC hl.1 (fun q hq => c_Desk_begin l D ad cI cZ cT v q11.2 96 4 q hq) fy_Desk_begin fv_Desk_begin kw_307 ⟨Nat.le_of_ble_eq_true rfl, Nat.le_of_ble_eq_true rfl⟩ rfl hK hA hw at_C_2 rfl rfl rfl (Nat.le_of_ble_eq_true rfl) d_Desk_answerTo_118 ⟨Nat.le_refl _, Nat.le_refl _⟩ h (fun H locs q13 h hw => ?_)
      refine lv_goto (tgt := 128) hx hb d_Desk_answerTo_121 rfl ?_
      refine lv_aload_n hx hb d_Desk_answerTo_128 rfl (lv_at hl 0 rfl) ?_
      refine gf_C_2_answer hC hK hw d_Desk_answerTo_129 ?_
      exact fx_reta hC hr hK hw h d_Desk_answerTo_132
    · have h := br0 c12 h
      refine lv_aload_n hx hb d_Desk_answerTo_84 rfl (lv_at hl 0 rfl) ?_
      refine gf_C_2_service hC hK hw d_Desk_answerTo_85 ?_
      refine lv_bipush (v := 15) hx hb d_Desk_answerTo_88 (by decide) ?_
      refine lv_icmp_ne (tgt := 100) hx hb d_Desk_answerTo_90 rfl (fun c14 => ?_) (fun c14 => ?_)
      · have h := br0 c14 h
        exact J100 _ _ _ _ h (lv_sub hl [0] rfl) hw
      · have h := br1 c14 h
        refine lv_aload_n hx hb d_Desk_answerTo_93 rfl (lv_at hl 0 rfl) ?_
        refine fx_sVi (As := []) hC hl.1 (fun q hq => c_Desk_takesWritten l D ad cI cZ cT v q11.2 q hq) fy_Desk_takesWritten fv_Desk_takesWritten kw_328 ⟨Nat.le_of_ble_eq_true rfl, Nat.le_of_ble_eq_true rfl⟩ rfl hK hA hw at_C_2 rfl rfl rfl (Nat.le_of_ble_eq_true rfl) d_Desk_answerTo_94 ⟨Nat.le_refl _, Nat.le_refl _⟩ h (fun H locs q19 h hw => ?_)
        refine lv_if_eq (tgt := 114) hx hb d_Desk_answerTo_97 rfl (fun c20 => ?_) (fun c20 => ?_)
        · have h := br1 c20 h
          refine lv_aload_n hx hb d_Desk_answerTo_114 rfl (lv_at hl 0 rfl) ?_
          refine lv_bipush (v := 96) hx hb d_Desk_answerTo_115 (by decide) ?_
          refine lv_iconst (v := 4) hx hb d_Desk_answerTo_117 (by decide) ?_
          refine fx_sVv (As := [.int 96, .int 4]) hC hl.1 (fun q hq => c_Desk_begin l D ad cI cZ cT v q19.2 96 4 q hq) fy_Desk_begin fv_Desk_begin kw_307 ⟨Nat.le_of_ble_eq_true rfl, Nat.le_of_ble_eq_true rfl⟩ rfl hK hA hw at_C_2 rfl rfl rfl (Nat.le_of_ble_eq_true rfl) d_Desk_answerTo_118 ⟨Nat.le_refl _, Nat.le_refl _⟩ h (fun H locs q21 h hw => ?_)
          refine lv_goto (tgt := 128) hx hb d_Desk_answerTo_121 rfl ?_
          refine lv_aload_n hx hb d_Desk_answerTo_128 rfl (lv_at hl 0 rfl) ?_
          refine gf_C_2_answer hC hK hw d_Desk_answerTo_129 ?_
          exact fx_reta hC hr hK hw h d_Desk_answerTo_132
        · have h := br0 c20 h
          exact J100 _ _ _ _ h (lv_sub hl [0] rfl) hw
  rw [f_Desk_answerTo_13] at h
  refine lv_aload_n hx hb d_Desk_answerTo_0 rfl (lv_at hl 0 rfl) ?_
  refine gf_C_2_answer hC hK hw d_Desk_answerTo_1 ?_
  refine fx_sVv (As := []) hC hl.1 (fun q hq => c_Row_clear_15 l D ad cI cZ cT v u q hq) fy_Row_clear fv_Row_clear kw_301 ⟨Nat.le_of_ble_eq_true rfl, Nat.le_of_ble_eq_true rfl⟩ rfl hK hA hw at_C_15 rfl rfl rfl (Nat.le_of_ble_eq_true rfl) d_Desk_answerTo_4 ⟨Nat.le_refl _, Nat.le_refl _⟩ h (fun H locs q1 h hw => ?_)
  refine lv_aload_n hx hb d_Desk_answerTo_7 rfl (lv_at hl 1 rfl) ?_
  refine fx_sSr (As := [.ref (ad 13)]) hC hl.1 (fun q hq => c_Desk_isForDesk_13 l D ad cI cZ cT v q1 q hq) fy_Desk_isForDesk fs_Desk_isForDesk kw_302 ⟨Nat.le_of_ble_eq_true rfl, Nat.le_of_ble_eq_true rfl⟩ rfl hK hA hw rfl (Nat.le_of_ble_eq_true rfl) d_Desk_answerTo_8 ⟨Nat.le_refl _, Nat.le_refl _⟩ h (fun H locs q2 h hw => ?_)
  refine lv_if_ne (tgt := 19) hx hb d_Desk_answerTo_11 rfl (fun c3 => ?_) (fun c3 => ?_)
  · have h := br0 c3 h
    refine lv_aload_n hx hb d_Desk_answerTo_19 rfl (lv_at hl 0 rfl) ?_
    refine lv_aload_n hx hb d_Desk_answerTo_20 rfl (lv_at hl 1 rfl) ?_
    refine pf_C_2_asked hC hK hw d_Desk_answerTo_21 h (fun H locs u4 h hw => ?_)
    refine lv_aload_n hx hb d_Desk_answerTo_24 rfl (lv_at hl 0 rfl) ?_
    refine lv_aload_n hx hb d_Desk_answerTo_25 rfl (lv_at hl 1 rfl) ?_
    refine lv_iconst (v := 4) hx hb d_Desk_answerTo_26 (by decide) ?_
    refine fx_sVr (As := [.int 4]) hC hl.1 (fun q hq => c_Row_at_13 l D ad cI cZ cT v u4 4 q hq) fy_Row_at fv_Row_at kw_306 ⟨Nat.le_of_ble_eq_true rfl, Nat.le_of_ble_eq_true rfl⟩ rfl hK hA hw at_C_13 rfl rfl rfl (Nat.le_of_ble_eq_true rfl) d_Desk_answerTo_27 ⟨Nat.le_refl _, Nat.le_refl _⟩ h (fun H locs q5 h hw => ?_)
    refine pf_C_2_id hC hK hw d_Desk_answerTo_30 h (fun H locs u6 h hw => ?_)
    refine lv_aload_n hx hb d_Desk_answerTo_33 rfl (lv_at hl 0 rfl) ?_
    refine lv_aload_n hx hb d_Desk_answerTo_34 rfl (lv_at hl 1 rfl) ?_
    refine lv_iconst (v := 5) hx hb d_Desk_answerTo_35 (by decide) ?_
    refine fx_sVr (As := [.int 5]) hC hl.1 (fun q hq => c_Row_at_13 l D ad cI cZ cT v u6 5 q hq) fy_Row_at fv_Row_at kw_306 ⟨Nat.le_of_ble_eq_true rfl, Nat.le_of_ble_eq_true rfl⟩ rfl hK hA hw at_C_13 rfl rfl rfl (Nat.le_of_ble_eq_true rfl) d_Desk_answerTo_36 ⟨Nat.le_refl _, Nat.le_refl _⟩ h (fun H locs q7 h hw => ?_)
    refine pf_C_2_service hC hK hw d_Desk_answerTo_39 h (fun H locs u8 h hw => ?_)
    refine lv_aload_n hx hb d_Desk_answerTo_42 rfl (lv_at hl 0 rfl) ?_
    refine lv_bipush (v := 6) hx hb d_Desk_answerTo_43 (by decide) ?_
    refine pf_C_2_at hC hK hw d_Desk_answerTo_45 h (fun H locs u9 h hw => ?_)
    refine lv_aload_n hx hb d_Desk_answerTo_48 rfl (lv_at hl 0 rfl) ?_
    refine gf_C_2_service hC hK hw d_Desk_answerTo_49 ?_
    refine lv_bipush (v := 12) hx hb d_Desk_answerTo_52 (by decide) ?_
    refine lv_icmp_eq (tgt := 77) hx hb d_Desk_answerTo_54 rfl (fun c10 => ?_) (fun c10 => ?_)
    · have h := br1 c10 h
      exact J77 _ _ _ _ h (lv_sub hl [0] rfl) hw
    · have h := br0 c10 h
      refine lv_aload_n hx hb d_Desk_answerTo_57 rfl (lv_at hl 0 rfl) ?_
      refine gf_C_2_service hC hK hw d_Desk_answerTo_58 ?_
      refine lv_bipush (v := 15) hx hb d_Desk_answerTo_61 (by decide) ?_
      refine lv_icmp_eq (tgt := 77) hx hb d_Desk_answerTo_63 rfl (fun c22 => ?_) (fun c22 => ?_)
      · have h := br1 c22 h
        exact J77 _ _ _ _ h (lv_sub hl [0] rfl) hw
      · have h := br0 c22 h
        refine lv_aload_n hx hb d_Desk_answerTo_66 rfl (lv_at hl 0 rfl) ?_
        refine lv_bipush (v := 96) hx hb d_Desk_answerTo_67 (by decide) ?_
        refine lv_bipush (v := 9) hx hb d_Desk_answerTo_69 (by decide) ?_
        refine fx_sVv (As := [.int 96, .int 9]) hC hl.1 (fun q hq => c_Desk_begin l D ad cI cZ cT v u9 96 9 q hq) fy_Desk_begin fv_Desk_begin kw_307 ⟨Nat.le_of_ble_eq_true rfl, Nat.le_of_ble_eq_true rfl⟩ rfl hK hA hw at_C_2 rfl rfl rfl (Nat.le_of_ble_eq_true rfl) d_Desk_answerTo_71 ⟨Nat.le_refl _, Nat.le_refl _⟩ h (fun H locs q23 h hw => ?_)
        refine lv_goto (tgt := 128) hx hb d_Desk_answerTo_74 rfl ?_
        refine lv_aload_n hx hb d_Desk_answerTo_128 rfl (lv_at hl 0 rfl) ?_
        refine gf_C_2_answer hC hK hw d_Desk_answerTo_129 ?_
        exact fx_reta hC hr hK hw h d_Desk_answerTo_132
  · have h := br1 c3 h
    refine lv_aload_n hx hb d_Desk_answerTo_14 rfl (lv_at hl 0 rfl) ?_
    refine gf_C_2_answer hC hK hw d_Desk_answerTo_15 ?_
    exact fx_reta hC hr hK hw h d_Desk_answerTo_18
def f_Row_size_15 (u : ST)  : Option (Int32) :=
  some (u.1 31)
set_option maxHeartbeats 4000000 in
set_option maxRecDepth 100000 in
theorem c_Row_size_15 (l : Launch) (D : va_G) (ad : Nat → Nat) (cI cZ cT : ClassId) (v u : ST) (q : Int32) (h : f_Row_size_15 u = some q) : MX l D (tyC cI cZ cT) (wC ad cI cZ cT v) y_Row_size cd_Row_size 0 0 [.ref (ad 15)] u (some (.int q)) u := by
  refine MX.start (by decide) (Nat.le_of_ble_eq_true rfl) ?_
  intro p e s m below meth c ls A hC hr hl hK hA hw
  have ⟨hx, hb, hml, hown, hT, hlk⟩ := hC
  have hl : lv_has ls 1 [(0, .ref (ad 15))] := hl
  rw [f_Row_size_15] at h
  refine lv_aload_n hx hb d_Row_size_0 rfl (lv_at hl 0 rfl) ?_
  refine gf_C_15_count hC hK hw d_Row_size_1 ?_
  exact fx_retr hC hr rfl hK hw h d_Row_size_4
def f_Row_putAll_3_15_L2 : Nat → ST → Int32 → Option (ST)
  | 0, _, _ => none
  | k_ + 1, u, y2 =>
    if (u.1 31) ≤ y2 then
      some u
    else
    k_gd (inb y2 32) (
    k_bd (f_Row_put_3 u (u.2 6 y2.toNatClampNeg)) fun q2 =>
    f_Row_putAll_3_15_L2 k_ q2 (y2 + 1))
def f_Row_putAll_3_15 (u : ST)  : Option (ST) :=
  f_Row_putAll_3_15_L2 200 u 0
set_option maxHeartbeats 4000000 in
set_option maxRecDepth 100000 in
theorem c_Row_putAll_3_15 (l : Launch) (D : va_G) (ad : Nat → Nat) (cI cZ cT : ClassId) (v u : ST) (q : ST) (h : f_Row_putAll_3_15 u = some q) : MX l D (tyC cI cZ cT) (wC ad cI cZ cT v) y_Row_putAll cd_Row_putAll 1 21 [.ref (ad 3), .ref (ad 15)] u none q := by
  refine MX.start (by decide) (Nat.le_of_ble_eq_true rfl) ?_
  intro p e s m below meth c ls A hC hr hl hK hA hw
  have ⟨hx, hb, hml, hown, hT, hlk⟩ := hC
  have hl : lv_has ls 3 [(0, .ref (ad 3)), (1, .ref (ad 15))] := hl
  have L2 : ∀ (k_ : Nat) (u : ST) (y2 : Int32) (ls : Array Slot) (H : Heap) (locs : List Loc), f_Row_putAll_3_15_L2 k_ u y2 = some q → lv_has ls 3 [(0, .ref (ad 3)), (1, .ref (ad 15)), (2, .int y2)] → fw D A s.heap (wC ad cI cZ cT v u) H locs → WX (wC ad cI cZ cT v) p l e 1 21 s m [.ref (ad 3), .ref (ad 15)] below meth c A D (tyC cI cZ cT) none q H locs (F0 m 2 ls []) := by
    intro k_
    induction k_ with
    | zero =>
      intro u y2 ls H locs h hl hw
      cases h
    | succ k_ ih =>
      intro u y2 ls H locs h hl hw
      rw [f_Row_putAll_3_15_L2] at h
      refine lv_iload_n hx hb d_Row_putAll_2 rfl (lv_at hl 2 rfl) ?_
      refine lv_aload_n hx hb d_Row_putAll_3 rfl (lv_at hl 1 rfl) ?_
      refine gf_C_15_count hC hK hw d_Row_putAll_4 ?_
      refine lv_icmp_ge (tgt := 26) hx hb d_Row_putAll_7 rfl (fun c1 => ?_) (fun c1 => ?_)
      · have h := br1 c1 h
        exact fx_retv hC hr hK hw h d_Row_putAll_26
      · have h := br0 c1 h
        refine lv_aload_n hx hb d_Row_putAll_10 rfl (lv_at hl 0 rfl) ?_
        refine lv_aload_n hx hb d_Row_putAll_11 rfl (lv_at hl 1 rfl) ?_
        refine gf_C_15_bytes hC hK hw d_Row_putAll_12 ?_
        refine lv_iload_n hx hb d_Row_putAll_15 rfl (lv_at hl 2 rfl) ?_
        refine al_C_16 hC hK hw d_Row_putAll_16 h (fun h => ?_)
        refine fx_sVv (As := [.int (u.2 6 y2.toNatClampNeg)]) hC hl.1 (fun q hq => c_Row_put_3 l D ad cI cZ cT v u (u.2 6 y2.toNatClampNeg) q hq) fy_Row_put fv_Row_put kw_286 ⟨Nat.le_of_ble_eq_true rfl, Nat.le_of_ble_eq_true rfl⟩ rfl hK hA hw at_C_3 rfl rfl rfl (Nat.le_of_ble_eq_true rfl) d_Row_putAll_17 ⟨Nat.le_refl _, Nat.le_refl _⟩ h (fun H locs q2 h hw => ?_)
        refine lv_iinc (k := 2) (v := (y2 + 1)) (lv' := [(2, .int (y2 + 1)), (0, .ref (ad 3)), (1, .ref (ad 15))]) hx hb d_Row_putAll_20 hl rfl rfl (by decide) rfl (fun ls hl => ?_)
        refine lv_goto (tgt := 2) hx hb d_Row_putAll_23 rfl ?_
        exact ih _ _ _ _ _ h (lv_sub hl [1, 2, 0] rfl) hw
  rw [f_Row_putAll_3_15] at h
  refine lv_iconst (v := 0) hx hb d_Row_putAll_0 (by decide) ?_
  refine lv_istore_n (lv' := [(2, .int 0), (0, .ref (ad 3)), (1, .ref (ad 15))]) hx hb d_Row_putAll_1 rfl hl (by decide) rfl (fun ls hl => ?_)
  exact L2 _ _ _ _ _ _ h (lv_sub hl [1, 2, 0] rfl) hw
def f_Row_at_15 (u : ST) (x1 : Int32) : Option (Int32) :=
  if x1 < 0 then
    some (-1)
  else
  if (u.1 31) ≤ x1 then
    some (-1)
  else
  k_gd (inb x1 32) (
  some (u.2 6 x1.toNatClampNeg))
set_option maxHeartbeats 4000000 in
set_option maxRecDepth 100000 in
theorem c_Row_at_15 (l : Launch) (D : va_G) (ad : Nat → Nat) (cI cZ cT : ClassId) (v u : ST) (x1 : Int32) (q : Int32) (h : f_Row_at_15 u x1 = some q) : MX l D (tyC cI cZ cT) (wC ad cI cZ cT v) y_Row_at cd_Row_at 0 0 [.ref (ad 15), .int x1] u (some (.int q)) u := by
  refine MX.start (by decide) (Nat.le_of_ble_eq_true rfl) ?_
  intro p e s m below meth c ls A hC hr hl hK hA hw
  have ⟨hx, hb, hml, hown, hT, hlk⟩ := hC
  have hl : lv_has ls 2 [(0, .ref (ad 15)), (1, .int x1)] := hl
  rw [f_Row_at_15] at h
  refine lv_iload_n hx hb d_Row_at_0 rfl (lv_at hl 1 rfl) ?_
  refine lv_if_lt (tgt := 21) hx hb d_Row_at_1 rfl (fun c1 => ?_) (fun c1 => ?_)
  · have h := br1 c1 h
    refine lv_iconst (v := (-1)) hx hb d_Row_at_21 (by decide) ?_
    exact fx_retr hC hr rfl hK hw h d_Row_at_22
  · have h := br0 c1 h
    refine lv_iload_n hx hb d_Row_at_4 rfl (lv_at hl 1 rfl) ?_
    refine lv_aload_n hx hb d_Row_at_5 rfl (lv_at hl 0 rfl) ?_
    refine gf_C_15_count hC hK hw d_Row_at_6 ?_
    refine lv_icmp_ge (tgt := 21) hx hb d_Row_at_9 rfl (fun c2 => ?_) (fun c2 => ?_)
    · have h := br1 c2 h
      refine lv_iconst (v := (-1)) hx hb d_Row_at_21 (by decide) ?_
      exact fx_retr hC hr rfl hK hw h d_Row_at_22
    · have h := br0 c2 h
      refine lv_aload_n hx hb d_Row_at_12 rfl (lv_at hl 0 rfl) ?_
      refine gf_C_15_bytes hC hK hw d_Row_at_13 ?_
      refine lv_iload_n hx hb d_Row_at_16 rfl (lv_at hl 1 rfl) ?_
      refine al_C_16 hC hK hw d_Row_at_17 h (fun h => ?_)
      refine lv_goto (tgt := 22) hx hb d_Row_at_18 rfl ?_
      exact fx_retr hC hr rfl hK hw h d_Row_at_22
def f_Chk_ofData_15_L5 : Nat → ST → Int32 → Int32 → Option (Int32)
  | 0, _, _, _ => none
  | k_ + 1, u, y1, y2 =>
    k_bd (f_Row_size_15 u) fun q1 =>
    if q1 ≤ y2 then
      some (65535 - y1)
    else
    k_bd (f_Row_at_15 u y2) fun q3 =>
    k_bd (f_Chk_withByte y1 q3 33800) fun q4 =>
    f_Chk_ofData_15_L5 k_ u q4 (y2 + 1)
def f_Chk_ofData_15 (u : ST)  : Option (Int32) :=
  f_Chk_ofData_15_L5 200 u 65535 0
set_option maxHeartbeats 4000000 in
set_option maxRecDepth 100000 in
theorem c_Chk_ofData_15 (l : Launch) (D : va_G) (ad : Nat → Nat) (cI cZ cT : ClassId) (v u : ST) (q : Int32) (h : f_Chk_ofData_15 u = some q) : MX l D (tyC cI cZ cT) (wC ad cI cZ cT v) y_Chk_ofData cd_Chk_ofData 1 24 [.ref (ad 15)] u (some (.int q)) u := by
  refine MX.start (by decide) (Nat.le_of_ble_eq_true rfl) ?_
  intro p e s m below meth c ls A hC hr hl hK hA hw
  have ⟨hx, hb, hml, hown, hT, hlk⟩ := hC
  have hl : lv_has ls 3 [(0, .ref (ad 15))] := hl
  have L5 : ∀ (k_ : Nat) (y1 y2 : Int32) (ls : Array Slot) (H : Heap) (locs : List Loc), f_Chk_ofData_15_L5 k_ u y1 y2 = some q → lv_has ls 3 [(0, .ref (ad 15)), (1, .int y1), (2, .int y2)] → fw D A s.heap (wC ad cI cZ cT v u) H locs → WX (wC ad cI cZ cT v) p l e 1 24 s m [.ref (ad 15)] below meth c A D (tyC cI cZ cT) (some (.int q)) u H locs (F0 m 5 ls []) := by
    intro k_
    induction k_ with
    | zero =>
      intro y1 y2 ls H locs h hl hw
      cases h
    | succ k_ ih =>
      intro y1 y2 ls H locs h hl hw
      rw [f_Chk_ofData_15_L5] at h
      refine lv_iload_n hx hb d_Chk_ofData_5 rfl (lv_at hl 2 rfl) ?_
      refine lv_aload_n hx hb d_Chk_ofData_6 rfl (lv_at hl 0 rfl) ?_
      refine fx_sVr (As := []) hC hl.1 (fun q hq => c_Row_size_15 l D ad cI cZ cT v u q hq) fy_Row_size fv_Row_size kw_291 ⟨Nat.le_of_ble_eq_true rfl, Nat.le_of_ble_eq_true rfl⟩ rfl hK hA hw at_C_15 rfl rfl rfl (Nat.le_of_ble_eq_true rfl) d_Chk_ofData_7 ⟨Nat.le_refl _, Nat.le_refl _⟩ h (fun H locs q1 h hw => ?_)
      refine lv_icmp_ge (tgt := 31) hx hb d_Chk_ofData_10 rfl (fun c2 => ?_) (fun c2 => ?_)
      · have h := br1 c2 h
        refine lv_ldc (v := 65535) hx hb hown (hT _ kw_290) d_Chk_ofData_31 ?_
        refine lv_iload_n hx hb d_Chk_ofData_33 rfl (lv_at hl 1 rfl) ?_
        refine lv_isub hx hb d_Chk_ofData_34 ?_
        exact fx_retr hC hr rfl hK hw h d_Chk_ofData_35
      · have h := br0 c2 h
        refine lv_iload_n hx hb d_Chk_ofData_13 rfl (lv_at hl 1 rfl) ?_
        refine lv_aload_n hx hb d_Chk_ofData_14 rfl (lv_at hl 0 rfl) ?_
        refine lv_iload_n hx hb d_Chk_ofData_15 rfl (lv_at hl 2 rfl) ?_
        refine fx_sVr (As := [.int y2]) hC hl.1 (fun q hq => c_Row_at_15 l D ad cI cZ cT v u y2 q hq) fy_Row_at fv_Row_at kw_280 ⟨Nat.le_of_ble_eq_true rfl, Nat.le_of_ble_eq_true rfl⟩ rfl hK hA hw at_C_15 rfl rfl rfl (Nat.le_of_ble_eq_true rfl) d_Chk_ofData_16 ⟨Nat.le_refl _, Nat.le_refl _⟩ h (fun H locs q3 h hw => ?_)
        refine lv_ldc (v := 33800) hx hb hown (hT _ kw_292) d_Chk_ofData_19 ?_
        refine fx_sSr (As := [.int y1, .int q3, .int 33800]) hC hl.1 (fun q hq => c_Chk_withByte l D ad cI cZ cT v u y1 q3 33800 q hq) fy_Chk_withByte fs_Chk_withByte kw_281 ⟨Nat.le_of_ble_eq_true rfl, Nat.le_of_ble_eq_true rfl⟩ rfl hK hA hw rfl (Nat.le_of_ble_eq_true rfl) d_Chk_ofData_21 ⟨Nat.le_refl _, Nat.le_refl _⟩ h (fun H locs q4 h hw => ?_)
        refine lv_istore_n (lv' := [(1, .int q4), (0, .ref (ad 15)), (2, .int y2)]) hx hb d_Chk_ofData_24 rfl hl (by decide) rfl (fun ls hl => ?_)
        refine lv_iinc (k := 2) (v := (y2 + 1)) (lv' := [(2, .int (y2 + 1)), (1, .int q4), (0, .ref (ad 15))]) hx hb d_Chk_ofData_25 hl rfl rfl (by decide) rfl (fun ls hl => ?_)
        refine lv_goto (tgt := 5) hx hb d_Chk_ofData_28 rfl ?_
        exact ih _ _ _ _ _ h (lv_sub hl [2, 1, 0] rfl) hw
  rw [f_Chk_ofData_15] at h
  refine lv_ldc (v := 65535) hx hb hown (hT _ kw_290) d_Chk_ofData_0 ?_
  refine lv_istore_n (lv' := [(1, .int 65535), (0, .ref (ad 15))]) hx hb d_Chk_ofData_2 rfl hl (by decide) rfl (fun ls hl => ?_)
  refine lv_iconst (v := 0) hx hb d_Chk_ofData_3 (by decide) ?_
  refine lv_istore_n (lv' := [(2, .int 0), (1, .int 65535), (0, .ref (ad 15))]) hx hb d_Chk_ofData_4 rfl hl (by decide) rfl (fun ls hl => ?_)
  exact L5 _ _ _ _ _ _ h (lv_sub hl [2, 1, 0] rfl) hw
def f_PT_send_15 (u : ST) (x1 x2 : Int32) : Option (ST) :=
  k_bd (f_Row_put_3 u 85) fun q1 =>
  k_bd (f_Row_put_3 q1 255) fun q2 =>
  k_bd (f_Row_size_3 q2) fun q3 =>
  k_bd (f_Row_put_3 q2 x1) fun q4 =>
  k_bd (f_Row_put_3 q4 x2) fun q5 =>
  k_bd (f_Row_put_3 q5 (q5.1 0)) fun q6 =>
  k_bd (f_Row_size_15 q6) fun q7 =>
  k_bd (f_Row_put_3 q6 (q7 / 256)) fun q8 =>
  k_bd (f_Row_size_15 q8) fun q9 =>
  k_bd (f_Row_put_3 q8 (q9 - q9 / 256 * 256)) fun q10 =>
  k_bd (f_Chk_ofHeader_3 q10 q3) fun q11 =>
  k_bd (f_Row_put_3 q10 q11) fun q12 =>
  k_bd (f_Row_size_15 q12) fun q13 =>
  if q13 ≤ 0 then
    k_let (ss q12 9 0) fun u15 =>
    some u15
  else
  k_bd (f_Row_putAll_3_15 q12) fun q16 =>
  k_bd (f_Chk_ofData_15 q16) fun q17 =>
  k_bd (f_Row_put_3 q16 (q17 - q17 / 256 * 256)) fun q18 =>
  k_bd (f_Row_put_3 q18 (q17 / 256)) fun q19 =>
  k_let (ss q19 9 0) fun u20 =>
  some u20
set_option maxHeartbeats 4000000 in
set_option maxRecDepth 100000 in
theorem c_PT_send_15 (l : Launch) (D : va_G) (ad : Nat → Nat) (cI cZ cT : ClassId) (v u : ST) (x1 x2 : Int32) (q : ST) (h : f_PT_send_15 u x1 x2 = some q) : MX l D (tyC cI cZ cT) (wC ad cI cZ cT v) y_PT_send cd_PT_send 2 47 [.ref (ad 0), .int x1, .int x2, .ref (ad 15)] u none q := by
  refine MX.start (by decide) (Nat.le_of_ble_eq_true rfl) ?_
  intro p e s m below meth c ls A hC hr hl hK hA hw
  have ⟨hx, hb, hml, hown, hT, hlk⟩ := hC
  have hl : lv_has ls 6 [(0, .ref (ad 0)), (1, .int x1), (2, .int x2), (3, .ref (ad 15))] := hl
  rw [f_PT_send_15] at h
  refine lv_aload_n hx hb d_PT_send_0 rfl (lv_at hl 0 rfl) ?_
  refine gf_C_0_out hC hK hw d_PT_send_1 ?_
  refine lv_bipush (v := 85) hx hb d_PT_send_4 (by decide) ?_
  refine fx_sVv (As := [.int 85]) hC hl.1 (fun q hq => c_Row_put_3 l D ad cI cZ cT v u 85 q hq) fy_Row_put fv_Row_put kw_275 ⟨Nat.le_of_ble_eq_true rfl, Nat.le_of_ble_eq_true rfl⟩ rfl hK hA hw at_C_3 rfl rfl rfl (Nat.le_of_ble_eq_true rfl) d_PT_send_6 ⟨Nat.le_refl _, Nat.le_refl _⟩ h (fun H locs q1 h hw => ?_)
  refine lv_aload_n hx hb d_PT_send_9 rfl (lv_at hl 0 rfl) ?_
  refine gf_C_0_out hC hK hw d_PT_send_10 ?_
  refine lv_sipush (v := 255) hx hb d_PT_send_13 (by decide) ?_
  refine fx_sVv (As := [.int 255]) hC hl.1 (fun q hq => c_Row_put_3 l D ad cI cZ cT v q1 255 q hq) fy_Row_put fv_Row_put kw_275 ⟨Nat.le_of_ble_eq_true rfl, Nat.le_of_ble_eq_true rfl⟩ rfl hK hA hw at_C_3 rfl rfl rfl (Nat.le_of_ble_eq_true rfl) d_PT_send_16 ⟨Nat.le_refl _, Nat.le_refl _⟩ h (fun H locs q2 h hw => ?_)
  refine lv_aload_n hx hb d_PT_send_19 rfl (lv_at hl 0 rfl) ?_
  refine gf_C_0_out hC hK hw d_PT_send_20 ?_
  refine fx_sVr (As := []) hC hl.1 (fun q hq => c_Row_size_3 l D ad cI cZ cT v q2 q hq) fy_Row_size fv_Row_size kw_276 ⟨Nat.le_of_ble_eq_true rfl, Nat.le_of_ble_eq_true rfl⟩ rfl hK hA hw at_C_3 rfl rfl rfl (Nat.le_of_ble_eq_true rfl) d_PT_send_23 ⟨Nat.le_refl _, Nat.le_refl _⟩ h (fun H locs q3 h hw => ?_)
  refine lv_istore (lv' := [(4, .int q3), (0, .ref (ad 0)), (1, .int x1), (2, .int x2), (3, .ref (ad 15))]) hx hb d_PT_send_26 hl (by decide) rfl (fun ls hl => ?_)
  refine lv_aload_n hx hb d_PT_send_28 rfl (lv_at hl 1 rfl) ?_
  refine gf_C_0_out hC hK hw d_PT_send_29 ?_
  refine lv_iload_n hx hb d_PT_send_32 rfl (lv_at hl 2 rfl) ?_
  refine fx_sVv (As := [.int x1]) hC hl.1 (fun q hq => c_Row_put_3 l D ad cI cZ cT v q2 x1 q hq) fy_Row_put fv_Row_put kw_275 ⟨Nat.le_of_ble_eq_true rfl, Nat.le_of_ble_eq_true rfl⟩ rfl hK hA hw at_C_3 rfl rfl rfl (Nat.le_of_ble_eq_true rfl) d_PT_send_33 ⟨Nat.le_refl _, Nat.le_refl _⟩ h (fun H locs q4 h hw => ?_)
  refine lv_aload_n hx hb d_PT_send_36 rfl (lv_at hl 1 rfl) ?_
  refine gf_C_0_out hC hK hw d_PT_send_37 ?_
  refine lv_iload_n hx hb d_PT_send_40 rfl (lv_at hl 3 rfl) ?_
  refine fx_sVv (As := [.int x2]) hC hl.1 (fun q hq => c_Row_put_3 l D ad cI cZ cT v q4 x2 q hq) fy_Row_put fv_Row_put kw_275 ⟨Nat.le_of_ble_eq_true rfl, Nat.le_of_ble_eq_true rfl⟩ rfl hK hA hw at_C_3 rfl rfl rfl (Nat.le_of_ble_eq_true rfl) d_PT_send_41 ⟨Nat.le_refl _, Nat.le_refl _⟩ h (fun H locs q5 h hw => ?_)
  refine lv_aload_n hx hb d_PT_send_44 rfl (lv_at hl 1 rfl) ?_
  refine gf_C_0_out hC hK hw d_PT_send_45 ?_
  refine lv_aload_n hx hb d_PT_send_48 rfl (lv_at hl 1 rfl) ?_
  refine gf_C_0_own hC hK hw d_PT_send_49 ?_
  refine fx_sVv (As := [.int (q5.1 0)]) hC hl.1 (fun q hq => c_Row_put_3 l D ad cI cZ cT v q5 (q5.1 0) q hq) fy_Row_put fv_Row_put kw_275 ⟨Nat.le_of_ble_eq_true rfl, Nat.le_of_ble_eq_true rfl⟩ rfl hK hA hw at_C_3 rfl rfl rfl (Nat.le_of_ble_eq_true rfl) d_PT_send_52 ⟨Nat.le_refl _, Nat.le_refl _⟩ h (fun H locs q6 h hw => ?_)
  refine lv_aload_n hx hb d_PT_send_55 rfl (lv_at hl 1 rfl) ?_
  refine gf_C_0_out hC hK hw d_PT_send_56 ?_
  refine lv_aload_n hx hb d_PT_send_59 rfl (lv_at hl 4 rfl) ?_
  refine fx_sVr (As := []) hC hl.1 (fun q hq => c_Row_size_15 l D ad cI cZ cT v q6 q hq) fy_Row_size fv_Row_size kw_276 ⟨Nat.le_of_ble_eq_true rfl, Nat.le_of_ble_eq_true rfl⟩ rfl hK hA hw at_C_15 rfl rfl rfl (Nat.le_of_ble_eq_true rfl) d_PT_send_60 ⟨Nat.le_refl _, Nat.le_refl _⟩ h (fun H locs q7 h hw => ?_)
  refine lv_sipush (v := 256) hx hb d_PT_send_63 (by decide) ?_
  refine lv_idiv hx hb d_PT_send_66 (by decide) ?_
  refine fx_sVv (As := [.int (q7 / 256)]) hC hl.1 (fun q hq => c_Row_put_3 l D ad cI cZ cT v q6 (q7 / 256) q hq) fy_Row_put fv_Row_put kw_275 ⟨Nat.le_of_ble_eq_true rfl, Nat.le_of_ble_eq_true rfl⟩ rfl hK hA hw at_C_3 rfl rfl rfl (Nat.le_of_ble_eq_true rfl) d_PT_send_67 ⟨Nat.le_refl _, Nat.le_refl _⟩ h (fun H locs q8 h hw => ?_)
  refine lv_aload_n hx hb d_PT_send_70 rfl (lv_at hl 1 rfl) ?_
  refine gf_C_0_out hC hK hw d_PT_send_71 ?_
  refine lv_aload_n hx hb d_PT_send_74 rfl (lv_at hl 4 rfl) ?_
  refine fx_sVr (As := []) hC hl.1 (fun q hq => c_Row_size_15 l D ad cI cZ cT v q8 q hq) fy_Row_size fv_Row_size kw_276 ⟨Nat.le_of_ble_eq_true rfl, Nat.le_of_ble_eq_true rfl⟩ rfl hK hA hw at_C_15 rfl rfl rfl (Nat.le_of_ble_eq_true rfl) d_PT_send_75 ⟨Nat.le_refl _, Nat.le_refl _⟩ h (fun H locs q9 h hw => ?_)
  refine lv_sipush (v := 256) hx hb d_PT_send_78 (by decide) ?_
  refine lv_irem hx hb d_PT_send_81 (by decide) ?_
  refine fx_sVv (As := [.int (q9 - q9 / 256 * 256)]) hC hl.1 (fun q hq => c_Row_put_3 l D ad cI cZ cT v q8 (q9 - q9 / 256 * 256) q hq) fy_Row_put fv_Row_put kw_275 ⟨Nat.le_of_ble_eq_true rfl, Nat.le_of_ble_eq_true rfl⟩ rfl hK hA hw at_C_3 rfl rfl rfl (Nat.le_of_ble_eq_true rfl) d_PT_send_82 ⟨Nat.le_refl _, Nat.le_refl _⟩ h (fun H locs q10 h hw => ?_)
  refine lv_aload_n hx hb d_PT_send_85 rfl (lv_at hl 1 rfl) ?_
  refine gf_C_0_out hC hK hw d_PT_send_86 ?_
  refine lv_aload_n hx hb d_PT_send_89 rfl (lv_at hl 1 rfl) ?_
  refine gf_C_0_out hC hK hw d_PT_send_90 ?_
  refine lv_iload hx hb d_PT_send_93 (lv_at hl 0 rfl) ?_
  refine fx_sSr (As := [.ref (ad 3), .int q3]) hC hl.1 (fun q hq => c_Chk_ofHeader_3 l D ad cI cZ cT v q10 q3 q hq) fy_Chk_ofHeader fs_Chk_ofHeader kw_277 ⟨Nat.le_of_ble_eq_true rfl, Nat.le_of_ble_eq_true rfl⟩ rfl hK hA hw rfl (Nat.le_of_ble_eq_true rfl) d_PT_send_95 ⟨Nat.le_refl _, Nat.le_refl _⟩ h (fun H locs q11 h hw => ?_)
  refine fx_sVv (As := [.int q11]) hC hl.1 (fun q hq => c_Row_put_3 l D ad cI cZ cT v q10 q11 q hq) fy_Row_put fv_Row_put kw_275 ⟨Nat.le_of_ble_eq_true rfl, Nat.le_of_ble_eq_true rfl⟩ rfl hK hA hw at_C_3 rfl rfl rfl (Nat.le_of_ble_eq_true rfl) d_PT_send_98 ⟨Nat.le_refl _, Nat.le_refl _⟩ h (fun H locs q12 h hw => ?_)
  refine lv_aload_n hx hb d_PT_send_101 rfl (lv_at hl 4 rfl) ?_
  refine fx_sVr (As := []) hC hl.1 (fun q hq => c_Row_size_15 l D ad cI cZ cT v q12 q hq) fy_Row_size fv_Row_size kw_276 ⟨Nat.le_of_ble_eq_true rfl, Nat.le_of_ble_eq_true rfl⟩ rfl hK hA hw at_C_15 rfl rfl rfl (Nat.le_of_ble_eq_true rfl) d_PT_send_102 ⟨Nat.le_refl _, Nat.le_refl _⟩ h (fun H locs q13 h hw => ?_)
  refine lv_if_le (tgt := 148) hx hb d_PT_send_105 rfl (fun c14 => ?_) (fun c14 => ?_)
  · have h := br1 c14 h
    refine lv_aload_n hx hb d_PT_send_148 rfl (lv_at hl 1 rfl) ?_
    refine lv_iconst (v := 0) hx hb d_PT_send_149 (by decide) ?_
    refine pf_C_0_stillness hC hK hw d_PT_send_150 h (fun H locs u15 h hw => ?_)
    exact fx_retv hC hr hK hw h d_PT_send_153
  · have h := br0 c14 h
    refine lv_aload_n hx hb d_PT_send_108 rfl (lv_at hl 1 rfl) ?_
    refine gf_C_0_out hC hK hw d_PT_send_109 ?_
    refine lv_aload_n hx hb d_PT_send_112 rfl (lv_at hl 4 rfl) ?_
    refine fx_sVv (As := [.ref (ad 15)]) hC hl.1 (fun q hq => c_Row_putAll_3_15 l D ad cI cZ cT v q12 q hq) fy_Row_putAll fv_Row_putAll kw_282 ⟨Nat.le_of_ble_eq_true rfl, Nat.le_of_ble_eq_true rfl⟩ rfl hK hA hw at_C_3 rfl rfl rfl (Nat.le_of_ble_eq_true rfl) d_PT_send_113 ⟨Nat.le_refl _, Nat.le_refl _⟩ h (fun H locs q16 h hw => ?_)
    refine lv_aload_n hx hb d_PT_send_116 rfl (lv_at hl 4 rfl) ?_
    refine fx_sSr (As := [.ref (ad 15)]) hC hl.1 (fun q hq => c_Chk_ofData_15 l D ad cI cZ cT v q16 q hq) fy_Chk_ofData fs_Chk_ofData kw_287 ⟨Nat.le_of_ble_eq_true rfl, Nat.le_of_ble_eq_true rfl⟩ rfl hK hA hw rfl (Nat.le_of_ble_eq_true rfl) d_PT_send_117 ⟨Nat.le_refl _, Nat.le_refl _⟩ h (fun H locs q17 h hw => ?_)
    refine lv_istore (lv' := [(5, .int q17), (4, .int q3), (0, .ref (ad 0)), (1, .int x1), (2, .int x2), (3, .ref (ad 15))]) hx hb d_PT_send_120 hl (by decide) rfl (fun ls hl => ?_)
    refine lv_aload_n hx hb d_PT_send_122 rfl (lv_at hl 2 rfl) ?_
    refine gf_C_0_out hC hK hw d_PT_send_123 ?_
    refine lv_iload hx hb d_PT_send_126 (lv_at hl 0 rfl) ?_
    refine lv_sipush (v := 256) hx hb d_PT_send_128 (by decide) ?_
    refine lv_irem hx hb d_PT_send_131 (by decide) ?_
    refine fx_sVv (As := [.int (q17 - q17 / 256 * 256)]) hC hl.1 (fun q hq => c_Row_put_3 l D ad cI cZ cT v q16 (q17 - q17 / 256 * 256) q hq) fy_Row_put fv_Row_put kw_275 ⟨Nat.le_of_ble_eq_true rfl, Nat.le_of_ble_eq_true rfl⟩ rfl hK hA hw at_C_3 rfl rfl rfl (Nat.le_of_ble_eq_true rfl) d_PT_send_132 ⟨Nat.le_refl _, Nat.le_refl _⟩ h (fun H locs q18 h hw => ?_)
    refine lv_aload_n hx hb d_PT_send_135 rfl (lv_at hl 2 rfl) ?_
    refine gf_C_0_out hC hK hw d_PT_send_136 ?_
    refine lv_iload hx hb d_PT_send_139 (lv_at hl 0 rfl) ?_
    refine lv_sipush (v := 256) hx hb d_PT_send_141 (by decide) ?_
    refine lv_idiv hx hb d_PT_send_144 (by decide) ?_
    refine fx_sVv (As := [.int (q17 / 256)]) hC hl.1 (fun q hq => c_Row_put_3 l D ad cI cZ cT v q18 (q17 / 256) q hq) fy_Row_put fv_Row_put kw_275 ⟨Nat.le_of_ble_eq_true rfl, Nat.le_of_ble_eq_true rfl⟩ rfl hK hA hw at_C_3 rfl rfl rfl (Nat.le_of_ble_eq_true rfl) d_PT_send_145 ⟨Nat.le_refl _, Nat.le_refl _⟩ h (fun H locs q19 h hw => ?_)
    refine lv_aload_n hx hb d_PT_send_148 rfl (lv_at hl 2 rfl) ?_
    refine lv_iconst (v := 0) hx hb d_PT_send_149 (by decide) ?_
    refine pf_C_0_stillness hC hK hw d_PT_send_150 h (fun H locs u20 h hw => ?_)
    exact fx_retv hC hr hK hw h d_PT_send_153
def f_PT_sendAnswer_15 (u : ST)  : Option (ST) :=
  k_bd (f_Row_size_15 u) fun q1 =>
  if q1 ≤ 0 then
    some u
  else
  k_bd (f_Ear_from u) fun q3 =>
  k_bd (f_PT_send_15 u 6 q3) fun q4 =>
  some q4
set_option maxHeartbeats 4000000 in
set_option maxRecDepth 100000 in
theorem c_PT_sendAnswer_15 (l : Launch) (D : va_G) (ad : Nat → Nat) (cI cZ cT : ClassId) (v u : ST) (q : ST) (h : f_PT_sendAnswer_15 u = some q) : MX l D (tyC cI cZ cT) (wC ad cI cZ cT v) y_PT_sendAnswer cd_PT_sendAnswer 3 72 [.ref (ad 0), .ref (ad 15)] u none q := by
  refine MX.start (by decide) (Nat.le_of_ble_eq_true rfl) ?_
  intro p e s m below meth c ls A hC hr hl hK hA hw
  have ⟨hx, hb, hml, hown, hT, hlk⟩ := hC
  have hl : lv_has ls 2 [(0, .ref (ad 0)), (1, .ref (ad 15))] := hl
  rw [f_PT_sendAnswer_15] at h
  refine lv_aload_n hx hb d_PT_sendAnswer_0 rfl (lv_at hl 1 rfl) ?_
  refine fx_sVr (As := []) hC hl.1 (fun q hq => c_Row_size_15 l D ad cI cZ cT v u q hq) fy_Row_size fv_Row_size kw_276 ⟨Nat.le_of_ble_eq_true rfl, Nat.le_of_ble_eq_true rfl⟩ rfl hK hA hw at_C_15 rfl rfl rfl (Nat.le_of_ble_eq_true rfl) d_PT_sendAnswer_1 ⟨Nat.le_refl _, Nat.le_refl _⟩ h (fun H locs q1 h hw => ?_)
  refine lv_if_le (tgt := 21) hx hb d_PT_sendAnswer_4 rfl (fun c2 => ?_) (fun c2 => ?_)
  · have h := br1 c2 h
    exact fx_retv hC hr hK hw h d_PT_sendAnswer_21
  · have h := br0 c2 h
    refine lv_aload_n hx hb d_PT_sendAnswer_7 rfl (lv_at hl 0 rfl) ?_
    refine lv_bipush (v := 6) hx hb d_PT_sendAnswer_8 (by decide) ?_
    refine lv_aload_n hx hb d_PT_sendAnswer_10 rfl (lv_at hl 0 rfl) ?_
    refine gf_C_0_ear hC hK hw d_PT_sendAnswer_11 ?_
    refine fx_sVr (As := []) hC hl.1 (fun q hq => c_Ear_from l D ad cI cZ cT v u q hq) fy_Ear_from fv_Ear_from kw_267 ⟨Nat.le_of_ble_eq_true rfl, Nat.le_of_ble_eq_true rfl⟩ rfl hK hA hw at_C_1 rfl rfl rfl (Nat.le_of_ble_eq_true rfl) d_PT_sendAnswer_14 ⟨Nat.le_refl _, Nat.le_refl _⟩ h (fun H locs q3 h hw => ?_)
    refine lv_aload_n hx hb d_PT_sendAnswer_17 rfl (lv_at hl 1 rfl) ?_
    refine fx_sVv (As := [.int 6, .int q3, .ref (ad 15)]) hC hl.1 (fun q hq => c_PT_send_15 l D ad cI cZ cT v u 6 q3 q hq) fy_PT_send fv_PT_send kw_271 ⟨Nat.le_of_ble_eq_true rfl, Nat.le_of_ble_eq_true rfl⟩ rfl hK hA hw at_C_0 rfl rfl rfl (Nat.le_of_ble_eq_true rfl) d_PT_sendAnswer_18 ⟨Nat.le_refl _, Nat.le_refl _⟩ h (fun H locs q4 h hw => ?_)
    exact fx_retv hC hr hK hw h d_PT_sendAnswer_21
def f_PT_idleLine (u : ST) (x1 : Int32) : Option (Int32 × ST) :=
  if x1 = 1 then
    k_bd (f_Ear_to u) fun q5 =>
    if q5 = (u.1 0) then
      k_bd (f_Ear_type u) fun q10 =>
      if q10 = 0 then
        k_let (ss u 7 0) fun u12 =>
        k_let (ss u12 2 1) fun u13 =>
        some (1, u13)
      else
      if q10 = 1 then
        k_bd (f_Ear_from u) fun q15 =>
        k_bd (f_PT_send_5 u 2 q15) fun q16 =>
        some (1, q16)
      else
      if q10 = 2 then
        some (1, u)
      else
      if q10 = 3 then
        k_bd (f_Ear_from u) fun q19 =>
        k_bd (f_Ear_data u) fun q20 =>
        k_bd (f_PT_send_13 q20 4 q19) fun q21 =>
        some (1, q21)
      else
      if q10 = 4 then
        some (1, u)
      else
      if q10 = 5 then
        k_bd (f_Ear_data u) fun q24 =>
        k_bd (f_Desk_answerTo_13 q24) fun q25 =>
        k_bd (f_PT_sendAnswer_15 q25) fun q26 =>
        some (1, q26)
      else
      some (1, u)
    else
    if (u.1 9) < 500 then
      some (0, u)
    else
    k_let (ss u 8 0) fun u8 =>
    k_let (ss u8 2 5) fun u9 =>
    some (1, u9)
  else
  if (u.1 9) < 500 then
    some (0, u)
  else
  k_let (ss u 8 0) fun u3 =>
  k_let (ss u3 2 5) fun u4 =>
  some (1, u4)
set_option maxHeartbeats 4000000 in
set_option maxRecDepth 100000 in
theorem c_PT_idleLine (l : Launch) (D : va_G) (ad : Nat → Nat) (cI cZ cT : ClassId) (v u : ST) (x1 : Int32) (q : Int32 × ST) (h : f_PT_idleLine u x1 = some q) : MX l D (tyC cI cZ cT) (wC ad cI cZ cT v) y_PT_idleLine cd_PT_idleLine 5 105 [.ref (ad 0), .int x1] u (some (.int q.1)) q.2 := by
  refine MX.start (by decide) (Nat.le_of_ble_eq_true rfl) ?_
  intro p e s m below meth c ls A hC hr hl hK hA hw
  have ⟨hx, hb, hml, hown, hT, hlk⟩ := hC
  have hl : lv_has ls 2 [(0, .ref (ad 0)), (1, .int x1)] := hl
  rw [f_PT_idleLine] at h
  refine lv_iload_n hx hb d_PT_idleLine_0 rfl (lv_at hl 1 rfl) ?_
  refine lv_iconst (v := 1) hx hb d_PT_idleLine_1 (by decide) ?_
  refine lv_icmp_ne (tgt := 141) hx hb d_PT_idleLine_2 rfl (fun c1 => ?_) (fun c1 => ?_)
  · have h := br0 c1 h
    refine lv_aload_n hx hb d_PT_idleLine_141 rfl (lv_at hl 0 rfl) ?_
    refine gf_C_0_stillness hC hK hw d_PT_idleLine_142 ?_
    refine lv_sipush (v := 500) hx hb d_PT_idleLine_145 (by decide) ?_
    refine lv_icmp_lt (tgt := 163) hx hb d_PT_idleLine_148 rfl (fun c2 => ?_) (fun c2 => ?_)
    · have h := br1 c2 h
      refine lv_iconst (v := 0) hx hb d_PT_idleLine_163 (by decide) ?_
      exact fx_retw hC hr (by decide) hK hw h d_PT_idleLine_164
    · have h := br0 c2 h
      refine lv_aload_n hx hb d_PT_idleLine_151 rfl (lv_at hl 0 rfl) ?_
      refine lv_iconst (v := 0) hx hb d_PT_idleLine_152 (by decide) ?_
      refine pf_C_0_events hC hK hw d_PT_idleLine_153 h (fun H locs u3 h hw => ?_)
      refine lv_aload_n hx hb d_PT_idleLine_156 rfl (lv_at hl 0 rfl) ?_
      refine lv_iconst (v := 5) hx hb d_PT_idleLine_157 (by decide) ?_
      refine pf_C_0_mode hC hK hw d_PT_idleLine_158 h (fun H locs u4 h hw => ?_)
      refine lv_iconst (v := 1) hx hb d_PT_idleLine_161 (by decide) ?_
      exact fx_retw hC hr (by decide) hK hw h d_PT_idleLine_162
  · have h := br1 c1 h
    refine lv_aload_n hx hb d_PT_idleLine_5 rfl (lv_at hl 0 rfl) ?_
    refine gf_C_0_ear hC hK hw d_PT_idleLine_6 ?_
    refine fx_sVr (As := []) hC hl.1 (fun q hq => c_Ear_to l D ad cI cZ cT v u q hq) fy_Ear_to fv_Ear_to kw_262 ⟨Nat.le_of_ble_eq_true rfl, Nat.le_of_ble_eq_true rfl⟩ rfl hK hA hw at_C_1 rfl rfl rfl (Nat.le_of_ble_eq_true rfl) d_PT_idleLine_9 ⟨Nat.le_refl _, Nat.le_refl _⟩ h (fun H locs q5 h hw => ?_)
    refine lv_aload_n hx hb d_PT_idleLine_12 rfl (lv_at hl 0 rfl) ?_
    refine gf_C_0_own hC hK hw d_PT_idleLine_13 ?_
    refine lv_icmp_ne (tgt := 141) hx hb d_PT_idleLine_16 rfl (fun c6 => ?_) (fun c6 => ?_)
    · have h := br0 c6 h
      refine lv_aload_n hx hb d_PT_idleLine_141 rfl (lv_at hl 0 rfl) ?_
      refine gf_C_0_stillness hC hK hw d_PT_idleLine_142 ?_
      refine lv_sipush (v := 500) hx hb d_PT_idleLine_145 (by decide) ?_
      refine lv_icmp_lt (tgt := 163) hx hb d_PT_idleLine_148 rfl (fun c7 => ?_) (fun c7 => ?_)
      · have h := br1 c7 h
        refine lv_iconst (v := 0) hx hb d_PT_idleLine_163 (by decide) ?_
        exact fx_retw hC hr (by decide) hK hw h d_PT_idleLine_164
      · have h := br0 c7 h
        refine lv_aload_n hx hb d_PT_idleLine_151 rfl (lv_at hl 0 rfl) ?_
        refine lv_iconst (v := 0) hx hb d_PT_idleLine_152 (by decide) ?_
        refine pf_C_0_events hC hK hw d_PT_idleLine_153 h (fun H locs u8 h hw => ?_)
        refine lv_aload_n hx hb d_PT_idleLine_156 rfl (lv_at hl 0 rfl) ?_
        refine lv_iconst (v := 5) hx hb d_PT_idleLine_157 (by decide) ?_
        refine pf_C_0_mode hC hK hw d_PT_idleLine_158 h (fun H locs u9 h hw => ?_)
        refine lv_iconst (v := 1) hx hb d_PT_idleLine_161 (by decide) ?_
        exact fx_retw hC hr (by decide) hK hw h d_PT_idleLine_162
    · have h := br1 c6 h
      refine lv_aload_n hx hb d_PT_idleLine_19 rfl (lv_at hl 0 rfl) ?_
      refine gf_C_0_ear hC hK hw d_PT_idleLine_20 ?_
      refine fx_sVr (As := []) hC hl.1 (fun q hq => c_Ear_type l D ad cI cZ cT v u q hq) fy_Ear_type fv_Ear_type kw_263 ⟨Nat.le_of_ble_eq_true rfl, Nat.le_of_ble_eq_true rfl⟩ rfl hK hA hw at_C_1 rfl rfl rfl (Nat.le_of_ble_eq_true rfl) d_PT_idleLine_23 ⟨Nat.le_refl _, Nat.le_refl _⟩ h (fun H locs q10 h hw => ?_)
      by_cases c11 : q10 = 0
      · have h := br1 c11 h
        refine lv_tableIn (tgt := 64) hx hb d_PT_idleLine_26 (by rw [c11]; decide) (by rw [c11]; decide) (off := 38) (by rw [c11]; decide) rfl ?_
        refine lv_aload_n hx hb d_PT_idleLine_64 rfl (lv_at hl 0 rfl) ?_
        refine lv_iconst (v := 0) hx hb d_PT_idleLine_65 (by decide) ?_
        refine pf_C_0_sole hC hK hw (by decide) d_PT_idleLine_66 h (fun H locs u12 h hw => ?_)
        refine lv_aload_n hx hb d_PT_idleLine_69 rfl (lv_at hl 0 rfl) ?_
        refine lv_iconst (v := 1) hx hb d_PT_idleLine_70 (by decide) ?_
        refine pf_C_0_mode hC hK hw d_PT_idleLine_71 h (fun H locs u13 h hw => ?_)
        refine lv_goto (tgt := 139) hx hb d_PT_idleLine_74 rfl ?_
        refine lv_iconst (v := 1) hx hb d_PT_idleLine_139 (by decide) ?_
        exact fx_retw hC hr (by decide) hK hw h d_PT_idleLine_140
      · have h := br0 c11 h
        by_cases c14 : q10 = 1
        · have h := br1 c14 h
          refine lv_tableIn (tgt := 77) hx hb d_PT_idleLine_26 (by rw [c14]; decide) (by rw [c14]; decide) (off := 51) (by rw [c14]; decide) rfl ?_
          refine lv_aload_n hx hb d_PT_idleLine_77 rfl (lv_at hl 0 rfl) ?_
          refine lv_iconst (v := 2) hx hb d_PT_idleLine_78 (by decide) ?_
          refine lv_aload_n hx hb d_PT_idleLine_79 rfl (lv_at hl 0 rfl) ?_
          refine gf_C_0_ear hC hK hw d_PT_idleLine_80 ?_
          refine fx_sVr (As := []) hC hl.1 (fun q hq => c_Ear_from l D ad cI cZ cT v u q hq) fy_Ear_from fv_Ear_from kw_267 ⟨Nat.le_of_ble_eq_true rfl, Nat.le_of_ble_eq_true rfl⟩ rfl hK hA hw at_C_1 rfl rfl rfl (Nat.le_of_ble_eq_true rfl) d_PT_idleLine_83 ⟨Nat.le_refl _, Nat.le_refl _⟩ h (fun H locs q15 h hw => ?_)
          refine lv_aload_n hx hb d_PT_idleLine_86 rfl (lv_at hl 0 rfl) ?_
          refine gf_C_0_noData hC hK hw d_PT_idleLine_87 ?_
          refine fx_sVv (As := [.int 2, .int q15, .ref (ad 5)]) hC hl.1 (fun q hq => c_PT_send_5 l D ad cI cZ cT v u 2 q15 q hq) fy_PT_send fv_PT_send kw_271 ⟨Nat.le_of_ble_eq_true rfl, Nat.le_of_ble_eq_true rfl⟩ rfl hK hA hw at_C_0 rfl rfl rfl (Nat.le_of_ble_eq_true rfl) d_PT_idleLine_90 ⟨Nat.le_refl _, Nat.le_refl _⟩ h (fun H locs q16 h hw => ?_)
          refine lv_goto (tgt := 139) hx hb d_PT_idleLine_93 rfl ?_
          refine lv_iconst (v := 1) hx hb d_PT_idleLine_139 (by decide) ?_
          exact fx_retw hC hr (by decide) hK hw h d_PT_idleLine_140
        · have h := br0 c14 h
          by_cases c17 : q10 = 2
          · have h := br1 c17 h
            refine lv_tableIn (tgt := 139) hx hb d_PT_idleLine_26 (by rw [c17]; decide) (by rw [c17]; decide) (off := 113) (by rw [c17]; decide) rfl ?_
            refine lv_iconst (v := 1) hx hb d_PT_idleLine_139 (by decide) ?_
            exact fx_retw hC hr (by decide) hK hw h d_PT_idleLine_140
          · have h := br0 c17 h
            by_cases c18 : q10 = 3
            · have h := br1 c18 h
              refine lv_tableIn (tgt := 96) hx hb d_PT_idleLine_26 (by rw [c18]; decide) (by rw [c18]; decide) (off := 70) (by rw [c18]; decide) rfl ?_
              refine lv_aload_n hx hb d_PT_idleLine_96 rfl (lv_at hl 0 rfl) ?_
              refine lv_iconst (v := 4) hx hb d_PT_idleLine_97 (by decide) ?_
              refine lv_aload_n hx hb d_PT_idleLine_98 rfl (lv_at hl 0 rfl) ?_
              refine gf_C_0_ear hC hK hw d_PT_idleLine_99 ?_
              refine fx_sVr (As := []) hC hl.1 (fun q hq => c_Ear_from l D ad cI cZ cT v u q hq) fy_Ear_from fv_Ear_from kw_267 ⟨Nat.le_of_ble_eq_true rfl, Nat.le_of_ble_eq_true rfl⟩ rfl hK hA hw at_C_1 rfl rfl rfl (Nat.le_of_ble_eq_true rfl) d_PT_idleLine_102 ⟨Nat.le_refl _, Nat.le_refl _⟩ h (fun H locs q19 h hw => ?_)
              refine lv_aload_n hx hb d_PT_idleLine_105 rfl (lv_at hl 0 rfl) ?_
              refine gf_C_0_ear hC hK hw d_PT_idleLine_106 ?_
              refine fx_sVa (As := []) hC hl.1 (fun q hq => c_Ear_data l D ad cI cZ cT v u q hq) fy_Ear_data fv_Ear_data kw_293 ⟨Nat.le_of_ble_eq_true rfl, Nat.le_of_ble_eq_true rfl⟩ rfl hK hA hw at_C_1 rfl rfl rfl (Nat.le_of_ble_eq_true rfl) d_PT_idleLine_109 ⟨Nat.le_refl _, Nat.le_refl _⟩ h (fun H locs q20 h hw => ?_)
              refine fx_sVv (As := [.int 4, .int q19, .ref (ad 13)]) hC hl.1 (fun q hq => c_PT_send_13 l D ad cI cZ cT v q20 4 q19 q hq) fy_PT_send fv_PT_send kw_271 ⟨Nat.le_of_ble_eq_true rfl, Nat.le_of_ble_eq_true rfl⟩ rfl hK hA hw at_C_0 rfl rfl rfl (Nat.le_of_ble_eq_true rfl) d_PT_idleLine_112 ⟨Nat.le_refl _, Nat.le_refl _⟩ h (fun H locs q21 h hw => ?_)
              refine lv_goto (tgt := 139) hx hb d_PT_idleLine_115 rfl ?_
              refine lv_iconst (v := 1) hx hb d_PT_idleLine_139 (by decide) ?_
              exact fx_retw hC hr (by decide) hK hw h d_PT_idleLine_140
            · have h := br0 c18 h
              by_cases c22 : q10 = 4
              · have h := br1 c22 h
                refine lv_tableIn (tgt := 139) hx hb d_PT_idleLine_26 (by rw [c22]; decide) (by rw [c22]; decide) (off := 113) (by rw [c22]; decide) rfl ?_
                refine lv_iconst (v := 1) hx hb d_PT_idleLine_139 (by decide) ?_
                exact fx_retw hC hr (by decide) hK hw h d_PT_idleLine_140
              · have h := br0 c22 h
                by_cases c23 : q10 = 5
                · have h := br1 c23 h
                  refine lv_tableIn (tgt := 118) hx hb d_PT_idleLine_26 (by rw [c23]; decide) (by rw [c23]; decide) (off := 92) (by rw [c23]; decide) rfl ?_
                  refine lv_aload_n hx hb d_PT_idleLine_118 rfl (lv_at hl 0 rfl) ?_
                  refine lv_aload_n hx hb d_PT_idleLine_119 rfl (lv_at hl 0 rfl) ?_
                  refine gf_C_0_desk hC hK hw d_PT_idleLine_120 ?_
                  refine lv_aload_n hx hb d_PT_idleLine_123 rfl (lv_at hl 0 rfl) ?_
                  refine gf_C_0_ear hC hK hw d_PT_idleLine_124 ?_
                  refine fx_sVa (As := []) hC hl.1 (fun q hq => c_Ear_data l D ad cI cZ cT v u q hq) fy_Ear_data fv_Ear_data kw_293 ⟨Nat.le_of_ble_eq_true rfl, Nat.le_of_ble_eq_true rfl⟩ rfl hK hA hw at_C_1 rfl rfl rfl (Nat.le_of_ble_eq_true rfl) d_PT_idleLine_127 ⟨Nat.le_refl _, Nat.le_refl _⟩ h (fun H locs q24 h hw => ?_)
                  refine fx_sVa (As := [.ref (ad 13)]) hC hl.1 (fun q hq => c_Desk_answerTo_13 l D ad cI cZ cT v q24 q hq) fy_Desk_answerTo fv_Desk_answerTo kw_297 ⟨Nat.le_of_ble_eq_true rfl, Nat.le_of_ble_eq_true rfl⟩ rfl hK hA hw at_C_2 rfl rfl rfl (Nat.le_of_ble_eq_true rfl) d_PT_idleLine_130 ⟨Nat.le_refl _, Nat.le_refl _⟩ h (fun H locs q25 h hw => ?_)
                  refine fx_sVv (As := [.ref (ad 15)]) hC hl.1 (fun q hq => c_PT_sendAnswer_15 l D ad cI cZ cT v q25 q hq) fy_PT_sendAnswer fv_PT_sendAnswer kw_401 ⟨Nat.le_of_ble_eq_true rfl, Nat.le_of_ble_eq_true rfl⟩ rfl hK hA hw at_C_0 rfl rfl rfl (Nat.le_of_ble_eq_true rfl) d_PT_idleLine_133 ⟨Nat.le_refl _, Nat.le_refl _⟩ h (fun H locs q26 h hw => ?_)
                  refine lv_goto (tgt := 139) hx hb d_PT_idleLine_136 rfl ?_
                  refine lv_iconst (v := 1) hx hb d_PT_idleLine_139 (by decide) ?_
                  exact fx_retw hC hr (by decide) hK hw h d_PT_idleLine_140
                · have h := br0 c23 h
                  refine lv_tableOut (tgt := 139) hx hb d_PT_idleLine_26 (sw_out5 c11 c14 c17 c18 c22 c23) rfl ?_
                  refine lv_iconst (v := 1) hx hb d_PT_idleLine_139 (by decide) ?_
                  exact fx_retw hC hr (by decide) hK hw h d_PT_idleLine_140
