def f_Row_size_9 (u : ST)  : Option (Int32) :=
  some (u.1 28)
set_option maxHeartbeats 4000000 in
set_option maxRecDepth 100000 in
theorem c_Row_size_9 (l : Launch) (D : va_G) (ad : Nat → Nat) (cI cZ cT : ClassId) (v u : ST) (q : Int32) (h : f_Row_size_9 u = some q) : MX l D (tyC cI cZ cT) (wC ad cI cZ cT v) y_Row_size cd_Row_size 0 0 [.ref (ad 9)] u (some (.int q)) u := by
  refine MX.start (by decide) (Nat.le_of_ble_eq_true rfl) ?_
  intro p e s m below meth c ls A hC hr hl hK hA hw
  have ⟨hx, hb, hml, hown, hT, hlk⟩ := hC
  have hl : lv_has ls 1 [(0, .ref (ad 9))] := hl
  rw [f_Row_size_9] at h
  refine lv_aload_n hx hb d_Row_size_0 rfl (lv_at hl 0 rfl) ?_
  refine gf_C_9_count hC hK hw d_Row_size_1 ?_
  exact fx_retr hC hr rfl hK hw h d_Row_size_4
def f_PT_replied (u : ST)  : Option (Int32) :=
  k_bd (f_Row_size_9 u) fun q1 =>
  some q1
set_option maxHeartbeats 4000000 in
set_option maxRecDepth 100000 in
theorem c_PT_replied (l : Launch) (D : va_G) (ad : Nat → Nat) (cI cZ cT : ClassId) (v u : ST) (q : Int32) (h : f_PT_replied u = some q) : MX l D (tyC cI cZ cT) (wC ad cI cZ cT v) y_PT_replied cd_PT_replied 1 20 [.ref (ad 0)] u (some (.int q)) u := by
  refine MX.start (by decide) (Nat.le_of_ble_eq_true rfl) ?_
  intro p e s m below meth c ls A hC hr hl hK hA hw
  have ⟨hx, hb, hml, hown, hT, hlk⟩ := hC
  have hl : lv_has ls 1 [(0, .ref (ad 0))] := hl
  rw [f_PT_replied] at h
  refine lv_aload_n hx hb d_PT_replied_0 rfl (lv_at hl 0 rfl) ?_
  refine gf_C_0_latestReply hC hK hw d_PT_replied_1 ?_
  refine fx_sVr (As := []) hC hl.1 (fun q hq => c_Row_size_9 l D ad cI cZ cT v u q hq) fy_Row_size fv_Row_size kw_276 ⟨Nat.le_of_ble_eq_true rfl, Nat.le_of_ble_eq_true rfl⟩ rfl hK hA hw at_C_9 rfl rfl rfl (Nat.le_of_ble_eq_true rfl) d_PT_replied_4 ⟨Nat.le_refl _, Nat.le_refl _⟩ h (fun H locs q1 h hw => ?_)
  exact fx_retr hC hr rfl hK hw h d_PT_replied_7
def f_Row_at_9 (u : ST) (x1 : Int32) : Option (Int32) :=
  if x1 < 0 then
    some (-1)
  else
  if (u.1 28) ≤ x1 then
    some (-1)
  else
  k_gd (inb x1 40) (
  some (u.2 3 x1.toNatClampNeg))
set_option maxHeartbeats 4000000 in
set_option maxRecDepth 100000 in
theorem c_Row_at_9 (l : Launch) (D : va_G) (ad : Nat → Nat) (cI cZ cT : ClassId) (v u : ST) (x1 : Int32) (q : Int32) (h : f_Row_at_9 u x1 = some q) : MX l D (tyC cI cZ cT) (wC ad cI cZ cT v) y_Row_at cd_Row_at 0 0 [.ref (ad 9), .int x1] u (some (.int q)) u := by
  refine MX.start (by decide) (Nat.le_of_ble_eq_true rfl) ?_
  intro p e s m below meth c ls A hC hr hl hK hA hw
  have ⟨hx, hb, hml, hown, hT, hlk⟩ := hC
  have hl : lv_has ls 2 [(0, .ref (ad 9)), (1, .int x1)] := hl
  rw [f_Row_at_9] at h
  refine lv_iload_n hx hb d_Row_at_0 rfl (lv_at hl 1 rfl) ?_
  refine lv_if_lt (tgt := 21) hx hb d_Row_at_1 rfl (fun c1 => ?_) (fun c1 => ?_)
  · have h := br1 c1 h
    refine lv_iconst (v := (-1)) hx hb d_Row_at_21 (by decide) ?_
    exact fx_retr hC hr rfl hK hw h d_Row_at_22
  · have h := br0 c1 h
    refine lv_iload_n hx hb d_Row_at_4 rfl (lv_at hl 1 rfl) ?_
    refine lv_aload_n hx hb d_Row_at_5 rfl (lv_at hl 0 rfl) ?_
    refine gf_C_9_count hC hK hw d_Row_at_6 ?_
    refine lv_icmp_ge (tgt := 21) hx hb d_Row_at_9 rfl (fun c2 => ?_) (fun c2 => ?_)
    · have h := br1 c2 h
      refine lv_iconst (v := (-1)) hx hb d_Row_at_21 (by decide) ?_
      exact fx_retr hC hr rfl hK hw h d_Row_at_22
    · have h := br0 c2 h
      refine lv_aload_n hx hb d_Row_at_12 rfl (lv_at hl 0 rfl) ?_
      refine gf_C_9_bytes hC hK hw d_Row_at_13 ?_
      refine lv_iload_n hx hb d_Row_at_16 rfl (lv_at hl 1 rfl) ?_
      refine al_C_10 hC hK hw d_Row_at_17 h (fun h => ?_)
      refine lv_goto (tgt := 22) hx hb d_Row_at_18 rfl ?_
      exact fx_retr hC hr rfl hK hw h d_Row_at_22
def f_PT_reply (u : ST) (x1 : Int32) : Option (Int32) :=
  k_bd (f_Row_at_9 u x1) fun q1 =>
  some q1
set_option maxHeartbeats 4000000 in
set_option maxRecDepth 100000 in
theorem c_PT_reply (l : Launch) (D : va_G) (ad : Nat → Nat) (cI cZ cT : ClassId) (v u : ST) (x1 : Int32) (q : Int32) (h : f_PT_reply u x1 = some q) : MX l D (tyC cI cZ cT) (wC ad cI cZ cT v) y_PT_reply cd_PT_reply 1 21 [.ref (ad 0), .int x1] u (some (.int q)) u := by
  refine MX.start (by decide) (Nat.le_of_ble_eq_true rfl) ?_
  intro p e s m below meth c ls A hC hr hl hK hA hw
  have ⟨hx, hb, hml, hown, hT, hlk⟩ := hC
  have hl : lv_has ls 2 [(0, .ref (ad 0)), (1, .int x1)] := hl
  rw [f_PT_reply] at h
  refine lv_aload_n hx hb d_PT_reply_0 rfl (lv_at hl 0 rfl) ?_
  refine gf_C_0_latestReply hC hK hw d_PT_reply_1 ?_
  refine lv_iload_n hx hb d_PT_reply_4 rfl (lv_at hl 1 rfl) ?_
  refine fx_sVr (As := [.int x1]) hC hl.1 (fun q hq => c_Row_at_9 l D ad cI cZ cT v u x1 q hq) fy_Row_at fv_Row_at kw_465 ⟨Nat.le_of_ble_eq_true rfl, Nat.le_of_ble_eq_true rfl⟩ rfl hK hA hw at_C_9 rfl rfl rfl (Nat.le_of_ble_eq_true rfl) d_PT_reply_5 ⟨Nat.le_refl _, Nat.le_refl _⟩ h (fun H locs q1 h hw => ?_)
  exact fx_retr hC hr rfl hK hw h d_PT_reply_8
def f_PT_state (u : ST)  : Option (Int32) :=
  if (u.1 7) = 0 then
    if (u.1 11) = 0 then
      some (((((u.1 2) + (8 * (u.1 3))) + (128 * (u.1 4))) + 0) + 0)
    else
    some (((((u.1 2) + (8 * (u.1 3))) + (128 * (u.1 4))) + 0) + 4096)
  else
  if (u.1 11) = 0 then
    some (((((u.1 2) + (8 * (u.1 3))) + (128 * (u.1 4))) + 2048) + 0)
  else
  some (((((u.1 2) + (8 * (u.1 3))) + (128 * (u.1 4))) + 2048) + 4096)
set_option maxHeartbeats 4000000 in
set_option maxRecDepth 100000 in
theorem c_PT_state (l : Launch) (D : va_G) (ad : Nat → Nat) (cI cZ cT : ClassId) (v u : ST) (q : Int32) (h : f_PT_state u = some q) : MX l D (tyC cI cZ cT) (wC ad cI cZ cT v) y_PT_state cd_PT_state 0 0 [.ref (ad 0)] u (some (.int q)) u := by
  refine MX.start (by decide) (Nat.le_of_ble_eq_true rfl) ?_
  intro p e s m below meth c ls A hC hr hl hK hA hw
  have ⟨hx, hb, hml, hown, hT, hlk⟩ := hC
  have hl : lv_has ls 1 [(0, .ref (ad 0))] := hl
  rw [f_PT_state] at h
  refine lv_aload_n hx hb d_PT_state_0 rfl (lv_at hl 0 rfl) ?_
  refine gf_C_0_mode hC hK hw d_PT_state_1 ?_
  refine lv_bipush (v := 8) hx hb d_PT_state_4 (by decide) ?_
  refine lv_aload_n hx hb d_PT_state_6 rfl (lv_at hl 0 rfl) ?_
  refine gf_C_0_next hC hK hw d_PT_state_7 ?_
  refine lv_imul hx hb d_PT_state_10 ?_
  refine lv_iadd hx hb d_PT_state_11 ?_
  refine lv_sipush (v := 128) hx hb d_PT_state_12 (by decide) ?_
  refine lv_aload_n hx hb d_PT_state_15 rfl (lv_at hl 0 rfl) ?_
  refine gf_C_0_polled hC hK hw d_PT_state_16 ?_
  refine lv_imul hx hb d_PT_state_19 ?_
  refine lv_iadd hx hb d_PT_state_20 ?_
  refine lv_aload_n hx hb d_PT_state_21 rfl (lv_at hl 0 rfl) ?_
  refine gf_C_0_sole hC hK hw d_PT_state_22 ?_
  refine lv_if_eq (tgt := 34) hx hb d_PT_state_25 rfl (fun c1 => ?_) (fun c1 => ?_)
  · have h := br1 c1 h
    refine lv_iconst (v := 0) hx hb d_PT_state_34 (by decide) ?_
    refine lv_iadd hx hb d_PT_state_35 ?_
    refine lv_aload_n hx hb d_PT_state_36 rfl (lv_at hl 0 rfl) ?_
    refine gf_C_0_requestWaits hC hK hw d_PT_state_37 ?_
    refine lv_if_eq (tgt := 49) hx hb d_PT_state_40 rfl (fun c2 => ?_) (fun c2 => ?_)
    · have h := br1 c2 h
      refine lv_iconst (v := 0) hx hb d_PT_state_49 (by decide) ?_
      refine lv_iadd hx hb d_PT_state_50 ?_
      exact fx_retr hC hr rfl hK hw h d_PT_state_51
    · have h := br0 c2 h
      refine lv_sipush (v := 4096) hx hb d_PT_state_43 (by decide) ?_
      refine lv_goto (tgt := 50) hx hb d_PT_state_46 rfl ?_
      refine lv_iadd hx hb d_PT_state_50 ?_
      exact fx_retr hC hr rfl hK hw h d_PT_state_51
  · have h := br0 c1 h
    refine lv_sipush (v := 2048) hx hb d_PT_state_28 (by decide) ?_
    refine lv_goto (tgt := 35) hx hb d_PT_state_31 rfl ?_
    refine lv_iadd hx hb d_PT_state_35 ?_
    refine lv_aload_n hx hb d_PT_state_36 rfl (lv_at hl 0 rfl) ?_
    refine gf_C_0_requestWaits hC hK hw d_PT_state_37 ?_
    refine lv_if_eq (tgt := 49) hx hb d_PT_state_40 rfl (fun c3 => ?_) (fun c3 => ?_)
    · have h := br1 c3 h
      refine lv_iconst (v := 0) hx hb d_PT_state_49 (by decide) ?_
      refine lv_iadd hx hb d_PT_state_50 ?_
      exact fx_retr hC hr rfl hK hw h d_PT_state_51
    · have h := br0 c3 h
      refine lv_sipush (v := 4096) hx hb d_PT_state_43 (by decide) ?_
      refine lv_goto (tgt := 50) hx hb d_PT_state_46 rfl ?_
      refine lv_iadd hx hb d_PT_state_50 ?_
      exact fx_retr hC hr rfl hK hw h d_PT_state_51
def f_PT_silence (u : ST)  : Option (Int32) :=
  some (if 1000 < (u.1 9) then 1000 else (u.1 9))
set_option maxHeartbeats 4000000 in
set_option maxRecDepth 100000 in
theorem c_PT_silence (l : Launch) (D : va_G) (ad : Nat → Nat) (cI cZ cT : ClassId) (v u : ST) (q : Int32) (h : f_PT_silence u = some q) : MX l D (tyC cI cZ cT) (wC ad cI cZ cT v) y_PT_silence cd_PT_silence 1 21 [.ref (ad 0)] u (some (.int q)) u := by
  refine MX.start (by decide) (Nat.le_of_ble_eq_true rfl) ?_
  intro p e s m below meth c ls A hC hr hl hK hA hw
  have ⟨hx, hb, hml, hown, hT, hlk⟩ := hC
  have hl : lv_has ls 1 [(0, .ref (ad 0))] := hl
  rw [f_PT_silence] at h
  refine lv_aload_n hx hb d_PT_silence_0 rfl (lv_at hl 0 rfl) ?_
  refine gf_C_0_stillness hC hK hw d_PT_silence_1 ?_
  refine lv_sipush (v := 1000) hx hb d_PT_silence_4 (by decide) ?_
  refine va_mmin hx hb (by rw [hml]; exact hl.1.symm) hown (hT _ kw_101) (hT _ kw_102) (hT _ kw_5) (hT _ kw_103) (Nat.le_of_ble_eq_true rfl) (Nat.le_of_ble_eq_true rfl) (Nat.le_refl _) (Nat.le_refl _) d_PT_silence_7 ?_
  exact fx_retr hC hr rfl hK hw h d_PT_silence_10
def f_Desk_thing (u : ST) (x1 : Int32) : Option (Int32) :=
  if x1 < 0 then
    some (-1)
  else
  if 4 ≤ x1 then
    some (-1)
  else
  k_gd (inb x1 4) (
  some x1)
set_option maxHeartbeats 4000000 in
set_option maxRecDepth 100000 in
theorem c_Desk_thing (l : Launch) (D : va_G) (ad : Nat → Nat) (cI cZ cT : ClassId) (v u : ST) (x1 : Int32) (q : Int32) (h : f_Desk_thing u x1 = some q) : MX l D (tyC cI cZ cT) (wC ad cI cZ cT v) y_Desk_thing cd_Desk_thing 0 0 [.ref (ad 2), .int x1] u (some (tv ad q)) u := by
  refine MX.start (by decide) (Nat.le_of_ble_eq_true rfl) ?_
  intro p e s m below meth c ls A hC hr hl hK hA hw
  have ⟨hx, hb, hml, hown, hT, hlk⟩ := hC
  have hl : lv_has ls 2 [(0, .ref (ad 2)), (1, .int x1)] := hl
  rw [f_Desk_thing] at h
  refine lv_iload_n hx hb d_Desk_thing_0 rfl (lv_at hl 1 rfl) ?_
  refine lv_if_lt (tgt := 22) hx hb d_Desk_thing_1 rfl (fun c1 => ?_) (fun c1 => ?_)
  · have h := br1 c1 h
    refine lv_null hx hb d_Desk_thing_22 ?_
    exact fx_rett hC hr tv_none hK hw h d_Desk_thing_23
  · have h := br0 c1 h
    refine lv_iload_n hx hb d_Desk_thing_4 rfl (lv_at hl 1 rfl) ?_
    refine lv_aload_n hx hb d_Desk_thing_5 rfl (lv_at hl 0 rfl) ?_
    refine gf_C_2_things hC hK hw d_Desk_thing_6 ?_
    refine ln_C_17 hC hK hw d_Desk_thing_9 ?_
    refine lv_icmp_ge (tgt := 22) hx hb d_Desk_thing_10 rfl (fun c2 => ?_) (fun c2 => ?_)
    · have h := br1 c2 h
      refine lv_null hx hb d_Desk_thing_22 ?_
      exact fx_rett hC hr tv_none hK hw h d_Desk_thing_23
    · have h := br0 c2 h
      refine lv_aload_n hx hb d_Desk_thing_13 rfl (lv_at hl 0 rfl) ?_
      refine gf_C_2_things hC hK hw d_Desk_thing_14 ?_
      refine lv_iload_n hx hb d_Desk_thing_17 rfl (lv_at hl 1 rfl) ?_
      refine al_C_17 hC hK hw d_Desk_thing_18 h (fun g3 h => ?_)
      refine lv_goto (tgt := 23) hx hb d_Desk_thing_19 rfl ?_
      exact fx_rett hC hr (tv_some g3) hK hw h d_Desk_thing_23
def f_PT_set (u : ST) (x1 x2 x3 x4 : Int32) : Option (Int32 × ST) :=
  k_bd (f_Desk_thing u x1) fun q1 =>
  if q1 = -1 then
    some (0, u)
  else
  k_gd (inb q1 4) (
  if x4 = 0 then
    k_bd (f_Thing_give u q1.toNatClampNeg x2 x3) fun q5 =>
    k_gd (isz q5.1) (
    some (q5.1, q5.2))
  else
  k_bd (f_Thing_takeAway u q1.toNatClampNeg x2) fun q7 =>
  k_gd (isz q7.1) (
  some (q7.1, q7.2)))
set_option maxHeartbeats 4000000 in
set_option maxRecDepth 100000 in
theorem c_PT_set (l : Launch) (D : va_G) (ad : Nat → Nat) (cI cZ cT : ClassId) (v u : ST) (x1 x2 x3 x4 : Int32) (q : Int32 × ST) (h : f_PT_set u x1 x2 x3 x4 = some q) : MX l D (tyC cI cZ cT) (wC ad cI cZ cT v) y_PT_set cd_PT_set 2 43 [.ref (ad 0), .int x1, .int x2, .int x3, .int x4] u (some (.int q.1)) q.2 := by
  refine MX.start (by decide) (Nat.le_of_ble_eq_true rfl) ?_
  intro p e s m below meth c ls A hC hr hl hK hA hw
  have ⟨hx, hb, hml, hown, hT, hlk⟩ := hC
  have hl : lv_has ls 6 [(0, .ref (ad 0)), (1, .int x1), (2, .int x2), (3, .int x3), (4, .int x4)] := hl
  rw [f_PT_set] at h
  refine lv_aload_n hx hb d_PT_set_0 rfl (lv_at hl 0 rfl) ?_
  refine gf_C_0_desk hC hK hw d_PT_set_1 ?_
  refine lv_iload_n hx hb d_PT_set_4 rfl (lv_at hl 1 rfl) ?_
  refine fx_sVt (As := [.int x1]) hC hl.1 (fun q hq => c_Desk_thing l D ad cI cZ cT v u x1 q hq) fy_Desk_thing fv_Desk_thing kw_493 ⟨Nat.le_of_ble_eq_true rfl, Nat.le_of_ble_eq_true rfl⟩ rfl hK hA hw at_C_2 rfl rfl rfl (Nat.le_of_ble_eq_true rfl) d_PT_set_5 ⟨Nat.le_refl _, Nat.le_refl _⟩ h (fun H locs q1 h hw => ?_)
  by_cases c2 : q1 = -1
  · have h := br1 c2 h
    rw [show tv ad q1 = .null from by rw [c2]; rfl]
    refine lv_astoreN (lv' := [(5, .null), (0, .ref (ad 0)), (1, .int x1), (2, .int x2), (3, .int x3), (4, .int x4)]) hx hb d_PT_set_8 hl (by decide) rfl (fun ls hl => ?_)
    refine lv_aloadN hx hb d_PT_set_10 (lv_at hl 0 rfl) ?_
    refine lv_ifnonnullN hx hb d_PT_set_12 ?_
    refine lv_iconst (v := 0) hx hb d_PT_set_15 (by decide) ?_
    exact fx_retw hC hr (by decide) hK hw h d_PT_set_16
  · obtain ⟨g3, h⟩ := k_gd_some (br0 c2 h)
    rw [tv_some (ad := ad) g3]
    refine lv_astore (lv' := [(5, .ref (ad (18 + 3 * q1.toNatClampNeg))), (0, .ref (ad 0)), (1, .int x1), (2, .int x2), (3, .int x3), (4, .int x4)]) hx hb d_PT_set_8 hl (by decide) rfl (fun ls hl => ?_)
    refine lv_aload hx hb d_PT_set_10 (lv_at hl 0 rfl) ?_
    refine lv_ifnonnull (tgt := 17) hx hb d_PT_set_12 rfl ?_
    refine lv_iload hx hb d_PT_set_17 (lv_at hl 5 rfl) ?_
    refine lv_if_eq (tgt := 31) hx hb d_PT_set_19 rfl (fun c4 => ?_) (fun c4 => ?_)
    · have h := br1 c4 h
      refine lv_aload hx hb d_PT_set_31 (lv_at hl 0 rfl) ?_
      refine lv_iload_n hx hb d_PT_set_33 rfl (lv_at hl 3 rfl) ?_
      refine lv_iload_n hx hb d_PT_set_34 rfl (lv_at hl 4 rfl) ?_
      refine fx_sVi (As := [.int x2, .int x3]) hC hl.1 (fun q hq => c_Thing_give l D ad cI cZ cT v u q1.toNatClampNeg g3.2 x2 x3 q hq) fy_Thing_give fv_Thing_give kw_498 ⟨Nat.le_of_ble_eq_true rfl, Nat.le_of_ble_eq_true rfl⟩ rfl hK hA hw (at_T g3.2) rfl rfl rfl (Nat.le_of_ble_eq_true rfl) d_PT_set_35 ⟨Nat.le_refl _, Nat.le_refl _⟩ h (fun H locs q5 h hw => ?_)
      obtain ⟨g6, h⟩ := k_gd_some h
      exact fx_retw hC hr (isz_nar g6) hK hw h d_PT_set_38
    · have h := br0 c4 h
      refine lv_aload hx hb d_PT_set_22 (lv_at hl 0 rfl) ?_
      refine lv_iload_n hx hb d_PT_set_24 rfl (lv_at hl 3 rfl) ?_
      refine fx_sVi (As := [.int x2]) hC hl.1 (fun q hq => c_Thing_takeAway l D ad cI cZ cT v u q1.toNatClampNeg g3.2 x2 q hq) fy_Thing_takeAway fv_Thing_takeAway kw_497 ⟨Nat.le_of_ble_eq_true rfl, Nat.le_of_ble_eq_true rfl⟩ rfl hK hA hw (at_T g3.2) rfl rfl rfl (Nat.le_of_ble_eq_true rfl) d_PT_set_25 ⟨Nat.le_refl _, Nat.le_refl _⟩ h (fun H locs q7 h hw => ?_)
      refine lv_goto (tgt := 38) hx hb d_PT_set_28 rfl ?_
      obtain ⟨g8, h⟩ := k_gd_some h
      exact fx_retw hC hr (isz_nar g8) hK hw h d_PT_set_38
def f_PT_present (u : ST) (x1 : Int32) : Option (Int32) :=
  k_bd (f_Desk_thing u x1) fun q1 =>
  if q1 = -1 then
    some 0
  else
  k_gd (inb q1 4) (
  k_bd (f_Thing_shown u q1.toNatClampNeg) fun q4 =>
  some q4)
set_option maxHeartbeats 4000000 in
set_option maxRecDepth 100000 in
theorem c_PT_present (l : Launch) (D : va_G) (ad : Nat → Nat) (cI cZ cT : ClassId) (v u : ST) (x1 : Int32) (q : Int32) (h : f_PT_present u x1 = some q) : MX l D (tyC cI cZ cT) (wC ad cI cZ cT v) y_PT_present cd_PT_present 1 21 [.ref (ad 0), .int x1] u (some (.int q)) u := by
  refine MX.start (by decide) (Nat.le_of_ble_eq_true rfl) ?_
  intro p e s m below meth c ls A hC hr hl hK hA hw
  have ⟨hx, hb, hml, hown, hT, hlk⟩ := hC
  have hl : lv_has ls 3 [(0, .ref (ad 0)), (1, .int x1)] := hl
  rw [f_PT_present] at h
  refine lv_aload_n hx hb d_PT_present_0 rfl (lv_at hl 0 rfl) ?_
  refine gf_C_0_desk hC hK hw d_PT_present_1 ?_
  refine lv_iload_n hx hb d_PT_present_4 rfl (lv_at hl 1 rfl) ?_
  refine fx_sVt (As := [.int x1]) hC hl.1 (fun q hq => c_Desk_thing l D ad cI cZ cT v u x1 q hq) fy_Desk_thing fv_Desk_thing kw_493 ⟨Nat.le_of_ble_eq_true rfl, Nat.le_of_ble_eq_true rfl⟩ rfl hK hA hw at_C_2 rfl rfl rfl (Nat.le_of_ble_eq_true rfl) d_PT_present_5 ⟨Nat.le_refl _, Nat.le_refl _⟩ h (fun H locs q1 h hw => ?_)
  by_cases c2 : q1 = -1
  · have h := br1 c2 h
    rw [show tv ad q1 = .null from by rw [c2]; rfl]
    refine lv_astore_nN (lv' := [(2, .null), (0, .ref (ad 0)), (1, .int x1)]) hx hb d_PT_present_8 rfl hl (by decide) rfl (fun ls hl => ?_)
    refine lv_aload_nN hx hb d_PT_present_9 rfl (lv_at hl 0 rfl) ?_
    refine lv_ifnonnullN hx hb d_PT_present_10 ?_
    refine lv_iconst (v := 0) hx hb d_PT_present_13 (by decide) ?_
    refine lv_goto (tgt := 21) hx hb d_PT_present_14 rfl ?_
    exact fx_retr hC hr rfl hK hw h d_PT_present_21
  · obtain ⟨g3, h⟩ := k_gd_some (br0 c2 h)
    rw [tv_some (ad := ad) g3]
    refine lv_astore_n (lv' := [(2, .ref (ad (18 + 3 * q1.toNatClampNeg))), (0, .ref (ad 0)), (1, .int x1)]) hx hb d_PT_present_8 rfl hl (by decide) rfl (fun ls hl => ?_)
    refine lv_aload_n hx hb d_PT_present_9 rfl (lv_at hl 0 rfl) ?_
    refine lv_ifnonnull (tgt := 17) hx hb d_PT_present_10 rfl ?_
    refine lv_aload_n hx hb d_PT_present_17 rfl (lv_at hl 0 rfl) ?_
    refine fx_sVr (As := []) hC hl.1 (fun q hq => c_Thing_shown l D ad cI cZ cT v u q1.toNatClampNeg g3.2 q hq) fy_Thing_shown fv_Thing_shown kw_503 ⟨Nat.le_of_ble_eq_true rfl, Nat.le_of_ble_eq_true rfl⟩ rfl hK hA hw (at_T g3.2) rfl rfl rfl (Nat.le_of_ble_eq_true rfl) d_PT_present_18 ⟨Nat.le_refl _, Nat.le_refl _⟩ h (fun H locs q4 h hw => ?_)
    exact fx_retr hC hr rfl hK hw h d_PT_present_21
