def f_Desk_begin (u : ST) (x1 x2 : Int32) : Option (ST) :=
  k_bd (f_Row_put_15 u 1) fun q1 =>
  k_bd (f_Row_put_15 q1 0) fun q2 =>
  k_bd (f_Row_put_15 q2 x1) fun q3 =>
  k_bd (f_Row_put_15 q3 (q3.1 17)) fun q4 =>
  k_bd (f_Row_put_15 q4 x2) fun q5 =>
  some q5
set_option maxHeartbeats 4000000 in
set_option maxRecDepth 100000 in
theorem c_Desk_begin (l : Launch) (D : va_G) (ad : Nat → Nat) (cI cZ cT : ClassId) (v u : ST) (x1 x2 : Int32) (q : ST) (h : f_Desk_begin u x1 x2 = some q) : MX l D (tyC cI cZ cT) (wC ad cI cZ cT v) y_Desk_begin cd_Desk_begin 1 21 [.ref (ad 2), .int x1, .int x2] u none q := by
  refine MX.start (by decide) (Nat.le_of_ble_eq_true rfl) ?_
  intro p e s m below meth c ls A hC hr hl hK hA hw
  have ⟨hx, hb, hml, hown, hT, hlk⟩ := hC
  have hl : lv_has ls 3 [(0, .ref (ad 2)), (1, .int x1), (2, .int x2)] := hl
  rw [f_Desk_begin] at h
  refine lv_aload_n hx hb d_Desk_begin_0 rfl (lv_at hl 0 rfl) ?_
  refine gf_C_2_answer hC hK hw d_Desk_begin_1 ?_
  refine lv_iconst (v := 1) hx hb d_Desk_begin_4 (by decide) ?_
  refine fx_sVv (As := [.int 1]) hC hl.1 (fun q hq => c_Row_put_15 l D ad cI cZ cT v u 1 q hq) fy_Row_put fv_Row_put kw_311 ⟨Nat.le_of_ble_eq_true rfl, Nat.le_of_ble_eq_true rfl⟩ rfl hK hA hw at_C_15 rfl rfl rfl (Nat.le_of_ble_eq_true rfl) d_Desk_begin_5 ⟨Nat.le_refl _, Nat.le_refl _⟩ h (fun H locs q1 h hw => ?_)
  refine lv_aload_n hx hb d_Desk_begin_8 rfl (lv_at hl 0 rfl) ?_
  refine gf_C_2_answer hC hK hw d_Desk_begin_9 ?_
  refine lv_iconst (v := 0) hx hb d_Desk_begin_12 (by decide) ?_
  refine fx_sVv (As := [.int 0]) hC hl.1 (fun q hq => c_Row_put_15 l D ad cI cZ cT v q1 0 q hq) fy_Row_put fv_Row_put kw_311 ⟨Nat.le_of_ble_eq_true rfl, Nat.le_of_ble_eq_true rfl⟩ rfl hK hA hw at_C_15 rfl rfl rfl (Nat.le_of_ble_eq_true rfl) d_Desk_begin_13 ⟨Nat.le_refl _, Nat.le_refl _⟩ h (fun H locs q2 h hw => ?_)
  refine lv_aload_n hx hb d_Desk_begin_16 rfl (lv_at hl 0 rfl) ?_
  refine gf_C_2_answer hC hK hw d_Desk_begin_17 ?_
  refine lv_iload_n hx hb d_Desk_begin_20 rfl (lv_at hl 1 rfl) ?_
  refine fx_sVv (As := [.int x1]) hC hl.1 (fun q hq => c_Row_put_15 l D ad cI cZ cT v q2 x1 q hq) fy_Row_put fv_Row_put kw_311 ⟨Nat.le_of_ble_eq_true rfl, Nat.le_of_ble_eq_true rfl⟩ rfl hK hA hw at_C_15 rfl rfl rfl (Nat.le_of_ble_eq_true rfl) d_Desk_begin_21 ⟨Nat.le_refl _, Nat.le_refl _⟩ h (fun H locs q3 h hw => ?_)
  refine lv_aload_n hx hb d_Desk_begin_24 rfl (lv_at hl 0 rfl) ?_
  refine gf_C_2_answer hC hK hw d_Desk_begin_25 ?_
  refine lv_aload_n hx hb d_Desk_begin_28 rfl (lv_at hl 0 rfl) ?_
  refine gf_C_2_id hC hK hw d_Desk_begin_29 ?_
  refine fx_sVv (As := [.int (q3.1 17)]) hC hl.1 (fun q hq => c_Row_put_15 l D ad cI cZ cT v q3 (q3.1 17) q hq) fy_Row_put fv_Row_put kw_311 ⟨Nat.le_of_ble_eq_true rfl, Nat.le_of_ble_eq_true rfl⟩ rfl hK hA hw at_C_15 rfl rfl rfl (Nat.le_of_ble_eq_true rfl) d_Desk_begin_32 ⟨Nat.le_refl _, Nat.le_refl _⟩ h (fun H locs q4 h hw => ?_)
  refine lv_aload_n hx hb d_Desk_begin_35 rfl (lv_at hl 0 rfl) ?_
  refine gf_C_2_answer hC hK hw d_Desk_begin_36 ?_
  refine lv_iload_n hx hb d_Desk_begin_39 rfl (lv_at hl 2 rfl) ?_
  refine fx_sVv (As := [.int x2]) hC hl.1 (fun q hq => c_Row_put_15 l D ad cI cZ cT v q4 x2 q hq) fy_Row_put fv_Row_put kw_311 ⟨Nat.le_of_ble_eq_true rfl, Nat.le_of_ble_eq_true rfl⟩ rfl hK hA hw at_C_15 rfl rfl rfl (Nat.le_of_ble_eq_true rfl) d_Desk_begin_40 ⟨Nat.le_refl _, Nat.le_refl _⟩ h (fun H locs q5 h hw => ?_)
  exact fx_retv hC hr hK hw h d_Desk_begin_43
def f_Thing_reference (u : ST) (j : Nat)  : Option (Int32) :=
  some (rfT j)
set_option maxHeartbeats 4000000 in
set_option maxRecDepth 100000 in
theorem c_Thing_reference (l : Launch) (D : va_G) (ad : Nat → Nat) (cI cZ cT : ClassId) (v u : ST) (j : Nat) (hj : j < 4) (q : Int32) (h : f_Thing_reference u j = some q) : MX l D (tyC cI cZ cT) (wC ad cI cZ cT v) y_Thing_reference cd_Thing_reference 0 0 [.ref (ad (18 + 3 * j))] u (some (.int q)) u := by
  refine MX.start (by decide) (Nat.le_of_ble_eq_true rfl) ?_
  intro p e s m below meth c ls A hC hr hl hK hA hw
  have ⟨hx, hb, hml, hown, hT, hlk⟩ := hC
  have hl : lv_has ls 1 [(0, .ref (ad (18 + 3 * j)))] := hl
  rw [f_Thing_reference] at h
  refine lv_aload_n hx hb d_Thing_reference_0 rfl (lv_at hl 0 rfl) ?_
  refine gf_T_reference hj hC hK hw d_Thing_reference_1 ?_
  exact fx_retr hC hr rfl hK hw h d_Thing_reference_4
def f_Desk_thingOf_L2 : Nat → ST → Int32 → Int32 → Option (Int32)
  | 0, _, _, _ => none
  | k_ + 1, u, y1, y2 =>
    if 4 ≤ y2 then
      some (-1)
    else
    k_gd (inb y2 4) (
    k_bd (f_Thing_reference u y2.toNatClampNeg) fun q3 =>
    if q3 = y1 then
      k_gd (inb y2 4) (
      some y2)
    else
    f_Desk_thingOf_L2 k_ u y1 (y2 + 1))
def f_Desk_thingOf (u : ST) (x1 : Int32) : Option (Int32) :=
  f_Desk_thingOf_L2 200 u x1 0
set_option maxHeartbeats 4000000 in
set_option maxRecDepth 100000 in
theorem c_Desk_thingOf (l : Launch) (D : va_G) (ad : Nat → Nat) (cI cZ cT : ClassId) (v u : ST) (x1 : Int32) (q : Int32) (h : f_Desk_thingOf u x1 = some q) : MX l D (tyC cI cZ cT) (wC ad cI cZ cT v) y_Desk_thingOf cd_Desk_thingOf 1 20 [.ref (ad 2), .int x1] u (some (tv ad q)) u := by
  refine MX.start (by decide) (Nat.le_of_ble_eq_true rfl) ?_
  intro p e s m below meth c ls A hC hr hl hK hA hw
  have ⟨hx, hb, hml, hown, hT, hlk⟩ := hC
  have hl : lv_has ls 3 [(0, .ref (ad 2)), (1, .int x1)] := hl
  have L2 : ∀ (k_ : Nat) (y1 y2 : Int32) (ls : Array Slot) (H : Heap) (locs : List Loc), f_Desk_thingOf_L2 k_ u y1 y2 = some q → lv_has ls 3 [(0, .ref (ad 2)), (1, .int y1), (2, .int y2)] → fw D A s.heap (wC ad cI cZ cT v u) H locs → WX (wC ad cI cZ cT v) p l e 1 20 s m [.ref (ad 2), .int x1] below meth c A D (tyC cI cZ cT) (some (tv ad q)) u H locs (F0 m 2 ls []) := by
    intro k_
    induction k_ with
    | zero =>
      intro y1 y2 ls H locs h hl hw
      cases h
    | succ k_ ih =>
      intro y1 y2 ls H locs h hl hw
      rw [f_Desk_thingOf_L2] at h
      refine lv_iload_n hx hb d_Desk_thingOf_2 rfl (lv_at hl 2 rfl) ?_
      refine lv_aload_n hx hb d_Desk_thingOf_3 rfl (lv_at hl 0 rfl) ?_
      refine gf_C_2_things hC hK hw d_Desk_thingOf_4 ?_
      refine ln_C_17 hC hK hw d_Desk_thingOf_7 ?_
      refine lv_icmp_ge (tgt := 37) hx hb d_Desk_thingOf_8 rfl (fun c1 => ?_) (fun c1 => ?_)
      · have h := br1 c1 h
        refine lv_null hx hb d_Desk_thingOf_37 ?_
        exact fx_rett hC hr tv_none hK hw h d_Desk_thingOf_38
      · have h := br0 c1 h
        refine lv_aload_n hx hb d_Desk_thingOf_11 rfl (lv_at hl 0 rfl) ?_
        refine gf_C_2_things hC hK hw d_Desk_thingOf_12 ?_
        refine lv_iload_n hx hb d_Desk_thingOf_15 rfl (lv_at hl 2 rfl) ?_
        refine al_C_17 hC hK hw d_Desk_thingOf_16 h (fun g2 h => ?_)
        refine fx_sVr (As := []) hC hl.1 (fun q hq => c_Thing_reference l D ad cI cZ cT v u y2.toNatClampNeg g2.2 q hq) fy_Thing_reference fv_Thing_reference kw_340 ⟨Nat.le_of_ble_eq_true rfl, Nat.le_of_ble_eq_true rfl⟩ rfl hK hA hw (at_T g2.2) rfl rfl rfl (Nat.le_of_ble_eq_true rfl) d_Desk_thingOf_17 ⟨Nat.le_refl _, Nat.le_refl _⟩ h (fun H locs q3 h hw => ?_)
        refine lv_iload_n hx hb d_Desk_thingOf_20 rfl (lv_at hl 1 rfl) ?_
        refine lv_icmp_ne (tgt := 31) hx hb d_Desk_thingOf_21 rfl (fun c4 => ?_) (fun c4 => ?_)
        · have h := br0 c4 h
          refine lv_iinc (k := 2) (v := (y2 + 1)) (lv' := [(2, .int (y2 + 1)), (0, .ref (ad 2)), (1, .int y1)]) hx hb d_Desk_thingOf_31 hl rfl rfl (by decide) rfl (fun ls hl => ?_)
          refine lv_goto (tgt := 2) hx hb d_Desk_thingOf_34 rfl ?_
          exact ih _ _ _ _ _ h (lv_sub hl [1, 2, 0] rfl) hw
        · have h := br1 c4 h
          refine lv_aload_n hx hb d_Desk_thingOf_24 rfl (lv_at hl 0 rfl) ?_
          refine gf_C_2_things hC hK hw d_Desk_thingOf_25 ?_
          refine lv_iload_n hx hb d_Desk_thingOf_28 rfl (lv_at hl 2 rfl) ?_
          refine al_C_17 hC hK hw d_Desk_thingOf_29 h (fun g5 h => ?_)
          exact fx_rett hC hr (tv_some g5) hK hw h d_Desk_thingOf_30
  rw [f_Desk_thingOf] at h
  refine lv_iconst (v := 0) hx hb d_Desk_thingOf_0 (by decide) ?_
  refine lv_istore_n (lv' := [(2, .int 0), (0, .ref (ad 2)), (1, .int x1)]) hx hb d_Desk_thingOf_1 rfl hl (by decide) rfl (fun ls hl => ?_)
  exact L2 _ _ _ _ _ _ h (lv_sub hl [1, 2, 0] rfl) hw
def f_Thing_isBinary (u : ST) (j : Nat)  : Option (Int32) :=
  k_gd (isz (bnT j)) (
  some (bnT j))
set_option maxHeartbeats 4000000 in
set_option maxRecDepth 100000 in
theorem c_Thing_isBinary (l : Launch) (D : va_G) (ad : Nat → Nat) (cI cZ cT : ClassId) (v u : ST) (j : Nat) (hj : j < 4) (q : Int32) (h : f_Thing_isBinary u j = some q) : MX l D (tyC cI cZ cT) (wC ad cI cZ cT v) y_Thing_isBinary cd_Thing_isBinary 0 0 [.ref (ad (18 + 3 * j))] u (some (.int q)) u := by
  refine MX.start (by decide) (Nat.le_of_ble_eq_true rfl) ?_
  intro p e s m below meth c ls A hC hr hl hK hA hw
  have ⟨hx, hb, hml, hown, hT, hlk⟩ := hC
  have hl : lv_has ls 1 [(0, .ref (ad (18 + 3 * j)))] := hl
  rw [f_Thing_isBinary] at h
  refine lv_aload_n hx hb d_Thing_isBinary_0 rfl (lv_at hl 0 rfl) ?_
  refine gf_T_binary hj hC hK hw d_Thing_isBinary_1 ?_
  obtain ⟨g1, h⟩ := k_gd_some h
  exact fx_retr hC hr (isz_nar g1) hK hw h d_Thing_isBinary_4
def f_Thing_takes (u : ST) (j : Nat) (x1 : Int32) : Option (Int32) :=
  if (bnT j) = 0 then
    some 1
  else
  if x1 = 0 then
    some 1
  else
  if x1 = 1 then
    some 1
  else
  some 0
set_option maxHeartbeats 4000000 in
set_option maxRecDepth 100000 in
theorem c_Thing_takes (l : Launch) (D : va_G) (ad : Nat → Nat) (cI cZ cT : ClassId) (v u : ST) (j : Nat) (hj : j < 4) (x1 : Int32) (q : Int32) (h : f_Thing_takes u j x1 = some q) : MX l D (tyC cI cZ cT) (wC ad cI cZ cT v) y_Thing_takes cd_Thing_takes 0 0 [.ref (ad (18 + 3 * j)), .int x1] u (some (.int q)) u := by
  refine MX.start (by decide) (Nat.le_of_ble_eq_true rfl) ?_
  intro p e s m below meth c ls A hC hr hl hK hA hw
  have ⟨hx, hb, hml, hown, hT, hlk⟩ := hC
  have hl : lv_has ls 2 [(0, .ref (ad (18 + 3 * j))), (1, .int x1)] := hl
  rw [f_Thing_takes] at h
  refine lv_aload_n hx hb d_Thing_takes_0 rfl (lv_at hl 0 rfl) ?_
  refine gf_T_binary hj hC hK hw d_Thing_takes_1 ?_
  refine lv_if_eq (tgt := 16) hx hb d_Thing_takes_4 rfl (fun c1 => ?_) (fun c1 => ?_)
  · have h := br1 c1 h
    refine lv_iconst (v := 1) hx hb d_Thing_takes_16 (by decide) ?_
    refine lv_goto (tgt := 21) hx hb d_Thing_takes_17 rfl ?_
    exact fx_retr hC hr (by decide) hK hw h d_Thing_takes_21
  · have h := br0 c1 h
    refine lv_iload_n hx hb d_Thing_takes_7 rfl (lv_at hl 1 rfl) ?_
    refine lv_if_eq (tgt := 16) hx hb d_Thing_takes_8 rfl (fun c2 => ?_) (fun c2 => ?_)
    · have h := br1 c2 h
      refine lv_iconst (v := 1) hx hb d_Thing_takes_16 (by decide) ?_
      refine lv_goto (tgt := 21) hx hb d_Thing_takes_17 rfl ?_
      exact fx_retr hC hr (by decide) hK hw h d_Thing_takes_21
    · have h := br0 c2 h
      refine lv_iload_n hx hb d_Thing_takes_11 rfl (lv_at hl 1 rfl) ?_
      refine lv_iconst (v := 1) hx hb d_Thing_takes_12 (by decide) ?_
      refine lv_icmp_ne (tgt := 20) hx hb d_Thing_takes_13 rfl (fun c3 => ?_) (fun c3 => ?_)
      · have h := br0 c3 h
        refine lv_iconst (v := 0) hx hb d_Thing_takes_20 (by decide) ?_
        exact fx_retr hC hr (by decide) hK hw h d_Thing_takes_21
      · have h := br1 c3 h
        refine lv_iconst (v := 1) hx hb d_Thing_takes_16 (by decide) ?_
        refine lv_goto (tgt := 21) hx hb d_Thing_takes_17 rfl ?_
        exact fx_retr hC hr (by decide) hK hw h d_Thing_takes_21
def f_Desk_faultOfWrite (u : ST)  : Option (Int32) :=
  if (u.1 20) = 75 then
    some 552
  else
  if (u.1 20) = 87 then
    some 552
  else
  if (u.1 22) = 0 then
    if (u.1 20) = 85 then
      some 0
    else
    some 521
  else
  k_gd (inb (u.1 33) 4) (
  k_bd (f_Thing_isBinary u (u.1 33).toNatClampNeg) fun q5 =>
  if q5 = 0 then
    if (u.1 22) = 68 then
      k_gd (inb (u.1 33) 4) (
      k_bd (f_Thing_takes u (u.1 33).toNatClampNeg (u.1 23)) fun q9 =>
      if q9 = 0 then
        some 549
      else
      some 0)
    else
    some 521
  else
  if (u.1 22) = 145 then
    k_gd (inb (u.1 33) 4) (
    k_bd (f_Thing_takes u (u.1 33).toNatClampNeg (u.1 23)) fun q13 =>
    if q13 = 0 then
      some 549
    else
    some 0)
  else
  some 521)
set_option maxHeartbeats 4000000 in
set_option maxRecDepth 100000 in
theorem c_Desk_faultOfWrite (l : Launch) (D : va_G) (ad : Nat → Nat) (cI cZ cT : ClassId) (v u : ST) (q : Int32) (h : f_Desk_faultOfWrite u = some q) : MX l D (tyC cI cZ cT) (wC ad cI cZ cT v) y_Desk_faultOfWrite cd_Desk_faultOfWrite 1 21 [.ref (ad 2)] u (some (.int q)) u := by
  refine MX.start (by decide) (Nat.le_of_ble_eq_true rfl) ?_
  intro p e s m below meth c ls A hC hr hl hK hA hw
  have ⟨hx, hb, hml, hown, hT, hlk⟩ := hC
  have hl : lv_has ls 1 [(0, .ref (ad 2))] := hl
  rw [f_Desk_faultOfWrite] at h
  refine lv_aload_n hx hb d_Desk_faultOfWrite_0 rfl (lv_at hl 0 rfl) ?_
  refine gf_C_2_property hC hK hw d_Desk_faultOfWrite_1 ?_
  refine lv_bipush (v := 75) hx hb d_Desk_faultOfWrite_4 (by decide) ?_
  refine lv_icmp_eq (tgt := 18) hx hb d_Desk_faultOfWrite_6 rfl (fun c1 => ?_) (fun c1 => ?_)
  · have h := br1 c1 h
    refine lv_sipush (v := 552) hx hb d_Desk_faultOfWrite_18 (by decide) ?_
    exact fx_retr hC hr rfl hK hw h d_Desk_faultOfWrite_21
  · have h := br0 c1 h
    refine lv_aload_n hx hb d_Desk_faultOfWrite_9 rfl (lv_at hl 0 rfl) ?_
    refine gf_C_2_property hC hK hw d_Desk_faultOfWrite_10 ?_
    refine lv_bipush (v := 87) hx hb d_Desk_faultOfWrite_13 (by decide) ?_
    refine lv_icmp_ne (tgt := 22) hx hb d_Desk_faultOfWrite_15 rfl (fun c2 => ?_) (fun c2 => ?_)
    · have h := br0 c2 h
      refine lv_aload_n hx hb d_Desk_faultOfWrite_22 rfl (lv_at hl 0 rfl) ?_
      refine gf_C_2_writtenMark hC hK hw d_Desk_faultOfWrite_23 ?_
      refine lv_if_ne (tgt := 46) hx hb d_Desk_faultOfWrite_26 rfl (fun c3 => ?_) (fun c3 => ?_)
      · have h := br0 c3 h
        refine lv_aload_n hx hb d_Desk_faultOfWrite_46 rfl (lv_at hl 0 rfl) ?_
        refine gf_C_2_writtenMark hC hK hw d_Desk_faultOfWrite_47 ?_
        refine lv_aload_n hx hb d_Desk_faultOfWrite_50 rfl (lv_at hl 0 rfl) ?_
        refine gf_C_2_asksFor hC hK hw d_Desk_faultOfWrite_51 ?_
        obtain ⟨g4, h⟩ := k_gd_some h
        rw [tv_some (ad := ad) g4]
        refine fx_sVr (As := []) hC hl.1 (fun q hq => c_Thing_isBinary l D ad cI cZ cT v u (u.1 33).toNatClampNeg g4.2 q hq) fy_Thing_isBinary fv_Thing_isBinary kw_352 ⟨Nat.le_of_ble_eq_true rfl, Nat.le_of_ble_eq_true rfl⟩ rfl hK hA hw (at_T g4.2) rfl rfl rfl (Nat.le_of_ble_eq_true rfl) d_Desk_faultOfWrite_54 ⟨Nat.le_refl _, Nat.le_refl _⟩ h (fun H locs q5 h hw => ?_)
        refine lv_if_eq (tgt := 66) hx hb d_Desk_faultOfWrite_57 rfl (fun c6 => ?_) (fun c6 => ?_)
        · have h := br1 c6 h
          refine lv_bipush (v := 68) hx hb d_Desk_faultOfWrite_66 (by decide) ?_
          refine lv_icmp_eq (tgt := 75) hx hb d_Desk_faultOfWrite_68 rfl (fun c7 => ?_) (fun c7 => ?_)
          · have h := br1 c7 h
            refine lv_aload_n hx hb d_Desk_faultOfWrite_75 rfl (lv_at hl 0 rfl) ?_
            refine gf_C_2_asksFor hC hK hw d_Desk_faultOfWrite_76 ?_
            obtain ⟨g8, h⟩ := k_gd_some h
            rw [tv_some (ad := ad) g8]
            refine lv_aload_n hx hb d_Desk_faultOfWrite_79 rfl (lv_at hl 0 rfl) ?_
            refine gf_C_2_writtenValue hC hK hw d_Desk_faultOfWrite_80 ?_
            refine fx_sVr (As := [.int (u.1 23)]) hC hl.1 (fun q hq => c_Thing_takes l D ad cI cZ cT v u (u.1 33).toNatClampNeg g8.2 (u.1 23) q hq) fy_Thing_takes fv_Thing_takes kw_356 ⟨Nat.le_of_ble_eq_true rfl, Nat.le_of_ble_eq_true rfl⟩ rfl hK hA hw (at_T g8.2) rfl rfl rfl (Nat.le_of_ble_eq_true rfl) d_Desk_faultOfWrite_83 ⟨Nat.le_refl _, Nat.le_refl _⟩ h (fun H locs q9 h hw => ?_)
            refine lv_if_eq (tgt := 93) hx hb d_Desk_faultOfWrite_86 rfl (fun c10 => ?_) (fun c10 => ?_)
            · have h := br1 c10 h
              refine lv_sipush (v := 549) hx hb d_Desk_faultOfWrite_93 (by decide) ?_
              exact fx_retr hC hr rfl hK hw h d_Desk_faultOfWrite_96
            · have h := br0 c10 h
              refine lv_iconst (v := 0) hx hb d_Desk_faultOfWrite_89 (by decide) ?_
              refine lv_goto (tgt := 96) hx hb d_Desk_faultOfWrite_90 rfl ?_
              exact fx_retr hC hr rfl hK hw h d_Desk_faultOfWrite_96
          · have h := br0 c7 h
            refine lv_sipush (v := 521) hx hb d_Desk_faultOfWrite_71 (by decide) ?_
            exact fx_retr hC hr rfl hK hw h d_Desk_faultOfWrite_74
        · have h := br0 c6 h
          refine lv_sipush (v := 145) hx hb d_Desk_faultOfWrite_60 (by decide) ?_
          refine lv_goto (tgt := 68) hx hb d_Desk_faultOfWrite_63 rfl ?_
          refine lv_icmp_eq (tgt := 75) hx hb d_Desk_faultOfWrite_68 rfl (fun c11 => ?_) (fun c11 => ?_)
          · have h := br1 c11 h
            refine lv_aload_n hx hb d_Desk_faultOfWrite_75 rfl (lv_at hl 0 rfl) ?_
            refine gf_C_2_asksFor hC hK hw d_Desk_faultOfWrite_76 ?_
            obtain ⟨g12, h⟩ := k_gd_some h
            rw [tv_some (ad := ad) g12]
            refine lv_aload_n hx hb d_Desk_faultOfWrite_79 rfl (lv_at hl 0 rfl) ?_
            refine gf_C_2_writtenValue hC hK hw d_Desk_faultOfWrite_80 ?_
            refine fx_sVr (As := [.int (u.1 23)]) hC hl.1 (fun q hq => c_Thing_takes l D ad cI cZ cT v u (u.1 33).toNatClampNeg g12.2 (u.1 23) q hq) fy_Thing_takes fv_Thing_takes kw_356 ⟨Nat.le_of_ble_eq_true rfl, Nat.le_of_ble_eq_true rfl⟩ rfl hK hA hw (at_T g12.2) rfl rfl rfl (Nat.le_of_ble_eq_true rfl) d_Desk_faultOfWrite_83 ⟨Nat.le_refl _, Nat.le_refl _⟩ h (fun H locs q13 h hw => ?_)
            refine lv_if_eq (tgt := 93) hx hb d_Desk_faultOfWrite_86 rfl (fun c14 => ?_) (fun c14 => ?_)
            · have h := br1 c14 h
              refine lv_sipush (v := 549) hx hb d_Desk_faultOfWrite_93 (by decide) ?_
              exact fx_retr hC hr rfl hK hw h d_Desk_faultOfWrite_96
            · have h := br0 c14 h
              refine lv_iconst (v := 0) hx hb d_Desk_faultOfWrite_89 (by decide) ?_
              refine lv_goto (tgt := 96) hx hb d_Desk_faultOfWrite_90 rfl ?_
              exact fx_retr hC hr rfl hK hw h d_Desk_faultOfWrite_96
          · have h := br0 c11 h
            refine lv_sipush (v := 521) hx hb d_Desk_faultOfWrite_71 (by decide) ?_
            exact fx_retr hC hr rfl hK hw h d_Desk_faultOfWrite_74
      · have h := br1 c3 h
        refine lv_aload_n hx hb d_Desk_faultOfWrite_29 rfl (lv_at hl 0 rfl) ?_
        refine gf_C_2_property hC hK hw d_Desk_faultOfWrite_30 ?_
        refine lv_bipush (v := 85) hx hb d_Desk_faultOfWrite_33 (by decide) ?_
        refine lv_icmp_ne (tgt := 42) hx hb d_Desk_faultOfWrite_35 rfl (fun c15 => ?_) (fun c15 => ?_)
        · have h := br0 c15 h
          refine lv_sipush (v := 521) hx hb d_Desk_faultOfWrite_42 (by decide) ?_
          exact fx_retr hC hr rfl hK hw h d_Desk_faultOfWrite_45
        · have h := br1 c15 h
          refine lv_iconst (v := 0) hx hb d_Desk_faultOfWrite_38 (by decide) ?_
          refine lv_goto (tgt := 45) hx hb d_Desk_faultOfWrite_39 rfl ?_
          exact fx_retr hC hr rfl hK hw h d_Desk_faultOfWrite_45
    · have h := br1 c2 h
      refine lv_sipush (v := 552) hx hb d_Desk_faultOfWrite_18 (by decide) ?_
      exact fx_retr hC hr rfl hK hw h d_Desk_faultOfWrite_21
def f_Desk_fault_J72 (u : ST)  : Option (Int32) :=
  if (u.1 20) = 87 then
    if (u.1 21) = (-1) then
      some 554
    else
    if (u.1 21) ≤ 16 then
      if (u.1 18) = 15 then
        k_bd (f_Desk_faultOfWrite u) fun q11 =>
        some q11
      else
      some 0
    else
    some 554
  else
  if (u.1 18) = 15 then
    k_bd (f_Desk_faultOfWrite u) fun q7 =>
    some q7
  else
  some 0
def f_Desk_fault_J51 (u : ST)  : Option (Int32) :=
  if (u.1 21) = (-1) then
    f_Desk_fault_J72 u
  else
  if (u.1 20) = 87 then
    f_Desk_fault_J72 u
  else
  some 562
def f_Desk_fault (u : ST)  : Option (Int32) :=
  if (u.1 33) = -1 then
    some 287
  else
  k_gd (inb (u.1 33) 4) (
  if (u.1 20) = 75 then
    f_Desk_fault_J51 u
  else
  if (u.1 20) = 85 then
    f_Desk_fault_J51 u
  else
  if (u.1 20) = 87 then
    f_Desk_fault_J51 u
  else
  if (u.1 20) = 104 then
    f_Desk_fault_J51 u
  else
  some 544)
set_option maxHeartbeats 4000000 in
set_option maxRecDepth 100000 in
theorem c_Desk_fault (l : Launch) (D : va_G) (ad : Nat → Nat) (cI cZ cT : ClassId) (v u : ST) (q : Int32) (h : f_Desk_fault u = some q) : MX l D (tyC cI cZ cT) (wC ad cI cZ cT v) y_Desk_fault cd_Desk_fault 2 41 [.ref (ad 2)] u (some (.int q)) u := by
  refine MX.start (by decide) (Nat.le_of_ble_eq_true rfl) ?_
  intro p e s m below meth c ls A hC hr hl hK hA hw
  have ⟨hx, hb, hml, hown, hT, hlk⟩ := hC
  have hl : lv_has ls 1 [(0, .ref (ad 2))] := hl
  have J72 : ∀ (ls : Array Slot) (H : Heap) (locs : List Loc), f_Desk_fault_J72 u = some q → lv_has ls 1 [(0, .ref (ad 2))] → fw D A s.heap (wC ad cI cZ cT v u) H locs → WX (wC ad cI cZ cT v) p l e 2 41 s m [.ref (ad 2)] below meth c A D (tyC cI cZ cT) (some (.int q)) u H locs (F0 m 72 ls []) := by
    intro ls H locs h hl hw
    rw [f_Desk_fault_J72] at h
    refine lv_aload_n hx hb d_Desk_fault_72 rfl (lv_at hl 0 rfl) ?_
    refine gf_C_2_property hC hK hw d_Desk_fault_73 ?_
    refine lv_bipush (v := 87) hx hb d_Desk_fault_76 (by decide) ?_
    refine lv_icmp_ne (tgt := 102) hx hb d_Desk_fault_78 rfl (fun c5 => ?_) (fun c5 => ?_)
    · have h := br0 c5 h
      refine lv_aload_n hx hb d_Desk_fault_102 rfl (lv_at hl 0 rfl) ?_
      refine gf_C_2_service hC hK hw d_Desk_fault_103 ?_
      refine lv_bipush (v := 15) hx hb d_Desk_fault_106 (by decide) ?_
      refine lv_icmp_ne (tgt := 118) hx hb d_Desk_fault_108 rfl (fun c6 => ?_) (fun c6 => ?_)
      · have h := br0 c6 h
        refine lv_iconst (v := 0) hx hb d_Desk_fault_118 (by decide) ?_
        exact fx_retr hC hr rfl hK hw h d_Desk_fault_119
      · have h := br1 c6 h
        refine lv_aload_n hx hb d_Desk_fault_111 rfl (lv_at hl 0 rfl) ?_
        refine fx_sVr (As := []) hC hl.1 (fun q hq => c_Desk_faultOfWrite l D ad cI cZ cT v u q hq) fy_Desk_faultOfWrite fv_Desk_faultOfWrite kw_348 ⟨Nat.le_of_ble_eq_true rfl, Nat.le_of_ble_eq_true rfl⟩ rfl hK hA hw at_C_2 rfl rfl rfl (Nat.le_of_ble_eq_true rfl) d_Desk_fault_112 ⟨Nat.le_refl _, Nat.le_refl _⟩ h (fun H locs q7 h hw => ?_)
        refine lv_goto (tgt := 119) hx hb d_Desk_fault_115 rfl ?_
        exact fx_retr hC hr rfl hK hw h d_Desk_fault_119
    · have h := br1 c5 h
      refine lv_aload_n hx hb d_Desk_fault_81 rfl (lv_at hl 0 rfl) ?_
      refine gf_C_2_index hC hK hw d_Desk_fault_82 ?_
      refine lv_iconst (v := (-1)) hx hb d_Desk_fault_85 (by decide) ?_
      refine lv_icmp_eq (tgt := 98) hx hb d_Desk_fault_86 rfl (fun c8 => ?_) (fun c8 => ?_)
      · have h := br1 c8 h
        refine lv_sipush (v := 554) hx hb d_Desk_fault_98 (by decide) ?_
        exact fx_retr hC hr rfl hK hw h d_Desk_fault_101
      · have h := br0 c8 h
        refine lv_aload_n hx hb d_Desk_fault_89 rfl (lv_at hl 0 rfl) ?_
        refine gf_C_2_index hC hK hw d_Desk_fault_90 ?_
        refine lv_bipush (v := 16) hx hb d_Desk_fault_93 (by decide) ?_
        refine lv_icmp_le (tgt := 102) hx hb d_Desk_fault_95 rfl (fun c9 => ?_) (fun c9 => ?_)
        · have h := br1 c9 h
          refine lv_aload_n hx hb d_Desk_fault_102 rfl (lv_at hl 0 rfl) ?_
          refine gf_C_2_service hC hK hw d_Desk_fault_103 ?_
          refine lv_bipush (v := 15) hx hb d_Desk_fault_106 (by decide) ?_
          refine lv_icmp_ne (tgt := 118) hx hb d_Desk_fault_108 rfl (fun c10 => ?_) (fun c10 => ?_)
          · have h := br0 c10 h
            refine lv_iconst (v := 0) hx hb d_Desk_fault_118 (by decide) ?_
            exact fx_retr hC hr rfl hK hw h d_Desk_fault_119
          · have h := br1 c10 h
            refine lv_aload_n hx hb d_Desk_fault_111 rfl (lv_at hl 0 rfl) ?_
            refine fx_sVr (As := []) hC hl.1 (fun q hq => c_Desk_faultOfWrite l D ad cI cZ cT v u q hq) fy_Desk_faultOfWrite fv_Desk_faultOfWrite kw_348 ⟨Nat.le_of_ble_eq_true rfl, Nat.le_of_ble_eq_true rfl⟩ rfl hK hA hw at_C_2 rfl rfl rfl (Nat.le_of_ble_eq_true rfl) d_Desk_fault_112 ⟨Nat.le_refl _, Nat.le_refl _⟩ h (fun H locs q11 h hw => ?_)
            refine lv_goto (tgt := 119) hx hb d_Desk_fault_115 rfl ?_
            exact fx_retr hC hr rfl hK hw h d_Desk_fault_119
        · have h := br0 c9 h
          refine lv_sipush (v := 554) hx hb d_Desk_fault_98 (by decide) ?_
          exact fx_retr hC hr rfl hK hw h d_Desk_fault_101
  have J51 : ∀ (ls : Array Slot) (H : Heap) (locs : List Loc), f_Desk_fault_J51 u = some q → lv_has ls 1 [(0, .ref (ad 2))] → fw D A s.heap (wC ad cI cZ cT v u) H locs → WX (wC ad cI cZ cT v) p l e 2 41 s m [.ref (ad 2)] below meth c A D (tyC cI cZ cT) (some (.int q)) u H locs (F0 m 51 ls []) := by
    intro ls H locs h hl hw
    rw [f_Desk_fault_J51] at h
    refine lv_aload_n hx hb d_Desk_fault_51 rfl (lv_at hl 0 rfl) ?_
    refine gf_C_2_index hC hK hw d_Desk_fault_52 ?_
    refine lv_iconst (v := (-1)) hx hb d_Desk_fault_55 (by decide) ?_
    refine lv_icmp_eq (tgt := 72) hx hb d_Desk_fault_56 rfl (fun c4 => ?_) (fun c4 => ?_)
    · have h := br1 c4 h
      exact J72 _ _ _ h (lv_sub hl [0] rfl) hw
    · have h := br0 c4 h
      refine lv_aload_n hx hb d_Desk_fault_59 rfl (lv_at hl 0 rfl) ?_
      refine gf_C_2_property hC hK hw d_Desk_fault_60 ?_
      refine lv_bipush (v := 87) hx hb d_Desk_fault_63 (by decide) ?_
      refine lv_icmp_eq (tgt := 72) hx hb d_Desk_fault_65 rfl (fun c12 => ?_) (fun c12 => ?_)
      · have h := br1 c12 h
        exact J72 _ _ _ h (lv_sub hl [0] rfl) hw
      · have h := br0 c12 h
        refine lv_sipush (v := 562) hx hb d_Desk_fault_68 (by decide) ?_
        exact fx_retr hC hr rfl hK hw h d_Desk_fault_71
  rw [f_Desk_fault] at h
  refine lv_aload_n hx hb d_Desk_fault_0 rfl (lv_at hl 0 rfl) ?_
  refine gf_C_2_asksFor hC hK hw d_Desk_fault_1 ?_
  by_cases c1 : (u.1 33) = -1
  · have h := br1 c1 h
    rw [show tv ad (u.1 33) = .null from by rw [c1]; rfl]
    refine lv_ifnonnullN hx hb d_Desk_fault_4 ?_
    refine lv_sipush (v := 287) hx hb d_Desk_fault_7 (by decide) ?_
    exact fx_retr hC hr rfl hK hw h d_Desk_fault_10
  · obtain ⟨g2, h⟩ := k_gd_some (br0 c1 h)
    rw [tv_some (ad := ad) g2]
    refine lv_ifnonnull (tgt := 11) hx hb d_Desk_fault_4 rfl ?_
    refine lv_aload_n hx hb d_Desk_fault_11 rfl (lv_at hl 0 rfl) ?_
    refine gf_C_2_property hC hK hw d_Desk_fault_12 ?_
    refine lv_bipush (v := 75) hx hb d_Desk_fault_15 (by decide) ?_
    refine lv_icmp_eq (tgt := 51) hx hb d_Desk_fault_17 rfl (fun c3 => ?_) (fun c3 => ?_)
    · have h := br1 c3 h
      exact J51 _ _ _ h (lv_sub hl [0] rfl) hw
    · have h := br0 c3 h
      refine lv_aload_n hx hb d_Desk_fault_20 rfl (lv_at hl 0 rfl) ?_
      refine gf_C_2_property hC hK hw d_Desk_fault_21 ?_
      refine lv_bipush (v := 85) hx hb d_Desk_fault_24 (by decide) ?_
      refine lv_icmp_eq (tgt := 51) hx hb d_Desk_fault_26 rfl (fun c13 => ?_) (fun c13 => ?_)
      · have h := br1 c13 h
        exact J51 _ _ _ h (lv_sub hl [0] rfl) hw
      · have h := br0 c13 h
        refine lv_aload_n hx hb d_Desk_fault_29 rfl (lv_at hl 0 rfl) ?_
        refine gf_C_2_property hC hK hw d_Desk_fault_30 ?_
        refine lv_bipush (v := 87) hx hb d_Desk_fault_33 (by decide) ?_
        refine lv_icmp_eq (tgt := 51) hx hb d_Desk_fault_35 rfl (fun c14 => ?_) (fun c14 => ?_)
        · have h := br1 c14 h
          exact J51 _ _ _ h (lv_sub hl [0] rfl) hw
        · have h := br0 c14 h
          refine lv_aload_n hx hb d_Desk_fault_38 rfl (lv_at hl 0 rfl) ?_
          refine gf_C_2_property hC hK hw d_Desk_fault_39 ?_
          refine lv_bipush (v := 104) hx hb d_Desk_fault_42 (by decide) ?_
          refine lv_icmp_eq (tgt := 51) hx hb d_Desk_fault_44 rfl (fun c15 => ?_) (fun c15 => ?_)
          · have h := br1 c15 h
            exact J51 _ _ _ h (lv_sub hl [0] rfl) hw
          · have h := br0 c15 h
            refine lv_sipush (v := 544) hx hb d_Desk_fault_47 (by decide) ?_
            exact fx_retr hC hr rfl hK hw h d_Desk_fault_50
def f_Row_putInt_15 (u : ST) (x1 : Int32) : Option (ST) :=
  k_bd (f_Row_put_15 u (us x1 24)) fun q1 =>
  k_bd (f_Row_put_15 q1 ((us x1 16) &&& 255)) fun q2 =>
  k_bd (f_Row_put_15 q2 ((us x1 8) &&& 255)) fun q3 =>
  k_bd (f_Row_put_15 q3 (x1 &&& 255)) fun q4 =>
  some q4
set_option maxHeartbeats 4000000 in
set_option maxRecDepth 100000 in
theorem c_Row_putInt_15 (l : Launch) (D : va_G) (ad : Nat → Nat) (cI cZ cT : ClassId) (v u : ST) (x1 : Int32) (q : ST) (h : f_Row_putInt_15 u x1 = some q) : MX l D (tyC cI cZ cT) (wC ad cI cZ cT v) y_Row_putInt cd_Row_putInt 1 21 [.ref (ad 15), .int x1] u none q := by
  refine MX.start (by decide) (Nat.le_of_ble_eq_true rfl) ?_
  intro p e s m below meth c ls A hC hr hl hK hA hw
  have ⟨hx, hb, hml, hown, hT, hlk⟩ := hC
  have hl : lv_has ls 2 [(0, .ref (ad 15)), (1, .int x1)] := hl
  rw [f_Row_putInt_15] at h
  refine lv_aload_n hx hb d_Row_putInt_0 rfl (lv_at hl 0 rfl) ?_
  refine lv_iload_n hx hb d_Row_putInt_1 rfl (lv_at hl 1 rfl) ?_
  refine lv_bipush (v := 24) hx hb d_Row_putInt_2 (by decide) ?_
  refine lv_iushr (v := (us x1 24)) hx hb d_Row_putInt_4 rfl ?_
  refine fx_sVv (As := [.int (us x1 24)]) hC hl.1 (fun q hq => c_Row_put_15 l D ad cI cZ cT v u (us x1 24) q hq) fy_Row_put fv_Row_put kw_286 ⟨Nat.le_of_ble_eq_true rfl, Nat.le_of_ble_eq_true rfl⟩ rfl hK hA hw at_C_15 rfl rfl rfl (Nat.le_of_ble_eq_true rfl) d_Row_putInt_5 ⟨Nat.le_refl _, Nat.le_refl _⟩ h (fun H locs q1 h hw => ?_)
  refine lv_aload_n hx hb d_Row_putInt_8 rfl (lv_at hl 0 rfl) ?_
  refine lv_iload_n hx hb d_Row_putInt_9 rfl (lv_at hl 1 rfl) ?_
  refine lv_bipush (v := 16) hx hb d_Row_putInt_10 (by decide) ?_
  refine lv_iushr (v := (us x1 16)) hx hb d_Row_putInt_12 rfl ?_
  refine lv_sipush (v := 255) hx hb d_Row_putInt_13 (by decide) ?_
  refine lv_iand hx hb d_Row_putInt_16 ?_
  refine fx_sVv (As := [.int ((us x1 16) &&& 255)]) hC hl.1 (fun q hq => c_Row_put_15 l D ad cI cZ cT v q1 ((us x1 16) &&& 255) q hq) fy_Row_put fv_Row_put kw_286 ⟨Nat.le_of_ble_eq_true rfl, Nat.le_of_ble_eq_true rfl⟩ rfl hK hA hw at_C_15 rfl rfl rfl (Nat.le_of_ble_eq_true rfl) d_Row_putInt_17 ⟨Nat.le_refl _, Nat.le_refl _⟩ h (fun H locs q2 h hw => ?_)
  refine lv_aload_n hx hb d_Row_putInt_20 rfl (lv_at hl 0 rfl) ?_
  refine lv_iload_n hx hb d_Row_putInt_21 rfl (lv_at hl 1 rfl) ?_
  refine lv_bipush (v := 8) hx hb d_Row_putInt_22 (by decide) ?_
  refine lv_iushr (v := (us x1 8)) hx hb d_Row_putInt_24 rfl ?_
  refine lv_sipush (v := 255) hx hb d_Row_putInt_25 (by decide) ?_
  refine lv_iand hx hb d_Row_putInt_28 ?_
  refine fx_sVv (As := [.int ((us x1 8) &&& 255)]) hC hl.1 (fun q hq => c_Row_put_15 l D ad cI cZ cT v q2 ((us x1 8) &&& 255) q hq) fy_Row_put fv_Row_put kw_286 ⟨Nat.le_of_ble_eq_true rfl, Nat.le_of_ble_eq_true rfl⟩ rfl hK hA hw at_C_15 rfl rfl rfl (Nat.le_of_ble_eq_true rfl) d_Row_putInt_29 ⟨Nat.le_refl _, Nat.le_refl _⟩ h (fun H locs q3 h hw => ?_)
  refine lv_aload_n hx hb d_Row_putInt_32 rfl (lv_at hl 0 rfl) ?_
  refine lv_iload_n hx hb d_Row_putInt_33 rfl (lv_at hl 1 rfl) ?_
  refine lv_sipush (v := 255) hx hb d_Row_putInt_34 (by decide) ?_
  refine lv_iand hx hb d_Row_putInt_37 ?_
  refine fx_sVv (As := [.int (x1 &&& 255)]) hC hl.1 (fun q hq => c_Row_put_15 l D ad cI cZ cT v q3 (x1 &&& 255) q hq) fy_Row_put fv_Row_put kw_286 ⟨Nat.le_of_ble_eq_true rfl, Nat.le_of_ble_eq_true rfl⟩ rfl hK hA hw at_C_15 rfl rfl rfl (Nat.le_of_ble_eq_true rfl) d_Row_putInt_38 ⟨Nat.le_refl _, Nat.le_refl _⟩ h (fun H locs q4 h hw => ?_)
  exact fx_retv hC hr hK hw h d_Row_putInt_41
def f_Desk_tellPlace (u : ST)  : Option (ST) :=
  k_bd (f_Row_put_15 u 12) fun q1 =>
  k_bd (f_Row_putInt_15 q1 (q1.1 19)) fun q2 =>
  k_bd (f_Row_put_15 q2 25) fun q3 =>
  k_bd (f_Row_put_15 q3 (q3.1 20)) fun q4 =>
  if (q4.1 21) = (-1) then
    some q4
  else
  k_bd (f_Row_put_15 q4 41) fun q6 =>
  k_bd (f_Row_put_15 q6 (q6.1 21)) fun q7 =>
  some q7
set_option maxHeartbeats 4000000 in
set_option maxRecDepth 100000 in
theorem c_Desk_tellPlace (l : Launch) (D : va_G) (ad : Nat → Nat) (cI cZ cT : ClassId) (v u : ST) (q : ST) (h : f_Desk_tellPlace u = some q) : MX l D (tyC cI cZ cT) (wC ad cI cZ cT v) y_Desk_tellPlace cd_Desk_tellPlace 2 42 [.ref (ad 2)] u none q := by
  refine MX.start (by decide) (Nat.le_of_ble_eq_true rfl) ?_
  intro p e s m below meth c ls A hC hr hl hK hA hw
  have ⟨hx, hb, hml, hown, hT, hlk⟩ := hC
  have hl : lv_has ls 1 [(0, .ref (ad 2))] := hl
  rw [f_Desk_tellPlace] at h
  refine lv_aload_n hx hb d_Desk_tellPlace_0 rfl (lv_at hl 0 rfl) ?_
  refine gf_C_2_answer hC hK hw d_Desk_tellPlace_1 ?_
  refine lv_bipush (v := 12) hx hb d_Desk_tellPlace_4 (by decide) ?_
  refine fx_sVv (As := [.int 12]) hC hl.1 (fun q hq => c_Row_put_15 l D ad cI cZ cT v u 12 q hq) fy_Row_put fv_Row_put kw_311 ⟨Nat.le_of_ble_eq_true rfl, Nat.le_of_ble_eq_true rfl⟩ rfl hK hA hw at_C_15 rfl rfl rfl (Nat.le_of_ble_eq_true rfl) d_Desk_tellPlace_6 ⟨Nat.le_refl _, Nat.le_refl _⟩ h (fun H locs q1 h hw => ?_)
  refine lv_aload_n hx hb d_Desk_tellPlace_9 rfl (lv_at hl 0 rfl) ?_
  refine gf_C_2_answer hC hK hw d_Desk_tellPlace_10 ?_
  refine lv_aload_n hx hb d_Desk_tellPlace_13 rfl (lv_at hl 0 rfl) ?_
  refine gf_C_2_reference hC hK hw d_Desk_tellPlace_14 ?_
  refine fx_sVv (As := [.int (q1.1 19)]) hC hl.1 (fun q hq => c_Row_putInt_15 l D ad cI cZ cT v q1 (q1.1 19) q hq) fy_Row_putInt fv_Row_putInt kw_377 ⟨Nat.le_of_ble_eq_true rfl, Nat.le_of_ble_eq_true rfl⟩ rfl hK hA hw at_C_15 rfl rfl rfl (Nat.le_of_ble_eq_true rfl) d_Desk_tellPlace_17 ⟨Nat.le_refl _, Nat.le_refl _⟩ h (fun H locs q2 h hw => ?_)
  refine lv_aload_n hx hb d_Desk_tellPlace_20 rfl (lv_at hl 0 rfl) ?_
  refine gf_C_2_answer hC hK hw d_Desk_tellPlace_21 ?_
  refine lv_bipush (v := 25) hx hb d_Desk_tellPlace_24 (by decide) ?_
  refine fx_sVv (As := [.int 25]) hC hl.1 (fun q hq => c_Row_put_15 l D ad cI cZ cT v q2 25 q hq) fy_Row_put fv_Row_put kw_311 ⟨Nat.le_of_ble_eq_true rfl, Nat.le_of_ble_eq_true rfl⟩ rfl hK hA hw at_C_15 rfl rfl rfl (Nat.le_of_ble_eq_true rfl) d_Desk_tellPlace_26 ⟨Nat.le_refl _, Nat.le_refl _⟩ h (fun H locs q3 h hw => ?_)
  refine lv_aload_n hx hb d_Desk_tellPlace_29 rfl (lv_at hl 0 rfl) ?_
  refine gf_C_2_answer hC hK hw d_Desk_tellPlace_30 ?_
  refine lv_aload_n hx hb d_Desk_tellPlace_33 rfl (lv_at hl 0 rfl) ?_
  refine gf_C_2_property hC hK hw d_Desk_tellPlace_34 ?_
  refine fx_sVv (As := [.int (q3.1 20)]) hC hl.1 (fun q hq => c_Row_put_15 l D ad cI cZ cT v q3 (q3.1 20) q hq) fy_Row_put fv_Row_put kw_311 ⟨Nat.le_of_ble_eq_true rfl, Nat.le_of_ble_eq_true rfl⟩ rfl hK hA hw at_C_15 rfl rfl rfl (Nat.le_of_ble_eq_true rfl) d_Desk_tellPlace_37 ⟨Nat.le_refl _, Nat.le_refl _⟩ h (fun H locs q4 h hw => ?_)
  refine lv_aload_n hx hb d_Desk_tellPlace_40 rfl (lv_at hl 0 rfl) ?_
  refine gf_C_2_index hC hK hw d_Desk_tellPlace_41 ?_
  refine lv_iconst (v := (-1)) hx hb d_Desk_tellPlace_44 (by decide) ?_
  refine lv_icmp_eq (tgt := 68) hx hb d_Desk_tellPlace_45 rfl (fun c5 => ?_) (fun c5 => ?_)
  · have h := br1 c5 h
    exact fx_retv hC hr hK hw h d_Desk_tellPlace_68
  · have h := br0 c5 h
    refine lv_aload_n hx hb d_Desk_tellPlace_48 rfl (lv_at hl 0 rfl) ?_
    refine gf_C_2_answer hC hK hw d_Desk_tellPlace_49 ?_
    refine lv_bipush (v := 41) hx hb d_Desk_tellPlace_52 (by decide) ?_
    refine fx_sVv (As := [.int 41]) hC hl.1 (fun q hq => c_Row_put_15 l D ad cI cZ cT v q4 41 q hq) fy_Row_put fv_Row_put kw_311 ⟨Nat.le_of_ble_eq_true rfl, Nat.le_of_ble_eq_true rfl⟩ rfl hK hA hw at_C_15 rfl rfl rfl (Nat.le_of_ble_eq_true rfl) d_Desk_tellPlace_54 ⟨Nat.le_refl _, Nat.le_refl _⟩ h (fun H locs q6 h hw => ?_)
    refine lv_aload_n hx hb d_Desk_tellPlace_57 rfl (lv_at hl 0 rfl) ?_
    refine gf_C_2_answer hC hK hw d_Desk_tellPlace_58 ?_
    refine lv_aload_n hx hb d_Desk_tellPlace_61 rfl (lv_at hl 0 rfl) ?_
    refine gf_C_2_index hC hK hw d_Desk_tellPlace_62 ?_
    refine fx_sVv (As := [.int (q6.1 21)]) hC hl.1 (fun q hq => c_Row_put_15 l D ad cI cZ cT v q6 (q6.1 21) q hq) fy_Row_put fv_Row_put kw_311 ⟨Nat.le_of_ble_eq_true rfl, Nat.le_of_ble_eq_true rfl⟩ rfl hK hA hw at_C_15 rfl rfl rfl (Nat.le_of_ble_eq_true rfl) d_Desk_tellPlace_65 ⟨Nat.le_refl _, Nat.le_refl _⟩ h (fun H locs q7 h hw => ?_)
    exact fx_retv hC hr hK hw h d_Desk_tellPlace_68
def f_Thing_valueOf (u : ST) (j : Nat) (x1 : Int32) : Option (Int32) :=
  if x1 < 0 then
    some 0
  else
  if 16 < x1 then
    some 0
  else
  k_gd (inb x1 17) (
  some (u.2 (7 + 2 * j) x1.toNatClampNeg))
set_option maxHeartbeats 4000000 in
set_option maxRecDepth 100000 in
theorem c_Thing_valueOf (l : Launch) (D : va_G) (ad : Nat → Nat) (cI cZ cT : ClassId) (v u : ST) (j : Nat) (hj : j < 4) (x1 : Int32) (q : Int32) (h : f_Thing_valueOf u j x1 = some q) : MX l D (tyC cI cZ cT) (wC ad cI cZ cT v) y_Thing_valueOf cd_Thing_valueOf 0 0 [.ref (ad (18 + 3 * j)), .int x1] u (some (.int q)) u := by
  refine MX.start (by decide) (Nat.le_of_ble_eq_true rfl) ?_
  intro p e s m below meth c ls A hC hr hl hK hA hw
  have ⟨hx, hb, hml, hown, hT, hlk⟩ := hC
  have hl : lv_has ls 2 [(0, .ref (ad (18 + 3 * j))), (1, .int x1)] := hl
  rw [f_Thing_valueOf] at h
  refine lv_iload_n hx hb d_Thing_valueOf_0 rfl (lv_at hl 1 rfl) ?_
  refine lv_if_lt (tgt := 19) hx hb d_Thing_valueOf_1 rfl (fun c1 => ?_) (fun c1 => ?_)
  · have h := br1 c1 h
    refine lv_iconst (v := 0) hx hb d_Thing_valueOf_19 (by decide) ?_
    exact fx_retr hC hr rfl hK hw h d_Thing_valueOf_20
  · have h := br0 c1 h
    refine lv_iload_n hx hb d_Thing_valueOf_4 rfl (lv_at hl 1 rfl) ?_
    refine lv_bipush (v := 16) hx hb d_Thing_valueOf_5 (by decide) ?_
    refine lv_icmp_gt (tgt := 19) hx hb d_Thing_valueOf_7 rfl (fun c2 => ?_) (fun c2 => ?_)
    · have h := br1 c2 h
      refine lv_iconst (v := 0) hx hb d_Thing_valueOf_19 (by decide) ?_
      exact fx_retr hC hr rfl hK hw h d_Thing_valueOf_20
    · have h := br0 c2 h
      refine lv_aload_n hx hb d_Thing_valueOf_10 rfl (lv_at hl 0 rfl) ?_
      refine gf_T_values hj hC hK hw d_Thing_valueOf_11 ?_
      refine lv_iload_n hx hb d_Thing_valueOf_14 rfl (lv_at hl 1 rfl) ?_
      refine al_TV hj hC hK hw d_Thing_valueOf_15 h (fun h => ?_)
      refine lv_goto (tgt := 20) hx hb d_Thing_valueOf_16 rfl ?_
      exact fx_retr hC hr rfl hK hw h d_Thing_valueOf_20
def f_Thing_shown_L2 : Nat → ST → Nat → Int32 → Option (Int32)
  | 0, _, _, _ => none
  | k_ + 1, u, j, y1 =>
    if 16 < y1 then
      k_gd (inb 0 17) (
      some (u.2 (7 + 2 * j) (0 : Int32).toNatClampNeg))
    else
    k_gd (inb y1 17) (
    if (u.2 (8 + 2 * j) y1.toNatClampNeg) = 0 then
      f_Thing_shown_L2 k_ u j (y1 + 1)
    else
    k_gd (inb y1 17) (
    some (u.2 (7 + 2 * j) y1.toNatClampNeg)))
def f_Thing_shown (u : ST) (j : Nat)  : Option (Int32) :=
  f_Thing_shown_L2 200 u j 1
set_option maxHeartbeats 4000000 in
set_option maxRecDepth 100000 in
theorem c_Thing_shown (l : Launch) (D : va_G) (ad : Nat → Nat) (cI cZ cT : ClassId) (v u : ST) (j : Nat) (hj : j < 4) (q : Int32) (h : f_Thing_shown u j = some q) : MX l D (tyC cI cZ cT) (wC ad cI cZ cT v) y_Thing_shown cd_Thing_shown 0 0 [.ref (ad (18 + 3 * j))] u (some (.int q)) u := by
  refine MX.start (by decide) (Nat.le_of_ble_eq_true rfl) ?_
  intro p e s m below meth c ls A hC hr hl hK hA hw
  have ⟨hx, hb, hml, hown, hT, hlk⟩ := hC
  have hl : lv_has ls 2 [(0, .ref (ad (18 + 3 * j)))] := hl
  have L2 : ∀ (k_ : Nat) (y1 : Int32) (ls : Array Slot) (H : Heap) (locs : List Loc), f_Thing_shown_L2 k_ u j y1 = some q → lv_has ls 2 [(0, .ref (ad (18 + 3 * j))), (1, .int y1)] → fw D A s.heap (wC ad cI cZ cT v u) H locs → WX (wC ad cI cZ cT v) p l e 0 0 s m [.ref (ad (18 + 3 * j))] below meth c A D (tyC cI cZ cT) (some (.int q)) u H locs (F0 m 2 ls []) := by
    intro k_
    induction k_ with
    | zero =>
      intro y1 ls H locs h hl hw
      cases h
    | succ k_ ih =>
      intro y1 ls H locs h hl hw
      rw [f_Thing_shown_L2] at h
      refine lv_iload_n hx hb d_Thing_shown_2 rfl (lv_at hl 1 rfl) ?_
      refine lv_bipush (v := 16) hx hb d_Thing_shown_3 (by decide) ?_
      refine lv_icmp_gt (tgt := 30) hx hb d_Thing_shown_5 rfl (fun c1 => ?_) (fun c1 => ?_)
      · have h := br1 c1 h
        refine lv_aload_n hx hb d_Thing_shown_30 rfl (lv_at hl 0 rfl) ?_
        refine gf_T_values hj hC hK hw d_Thing_shown_31 ?_
        refine lv_iconst (v := 0) hx hb d_Thing_shown_34 (by decide) ?_
        refine al_TV hj hC hK hw d_Thing_shown_35 h (fun h => ?_)
        exact fx_retr hC hr rfl hK hw h d_Thing_shown_36
      · have h := br0 c1 h
        refine lv_aload_n hx hb d_Thing_shown_8 rfl (lv_at hl 0 rfl) ?_
        refine gf_T_given hj hC hK hw d_Thing_shown_9 ?_
        refine lv_iload_n hx hb d_Thing_shown_12 rfl (lv_at hl 1 rfl) ?_
        refine al_TG hj hC hK hw d_Thing_shown_13 h (fun h => ?_)
        refine lv_if_eq (tgt := 24) hx hb d_Thing_shown_14 rfl (fun c2 => ?_) (fun c2 => ?_)
        · have h := br1 c2 h
          refine lv_iinc (k := 1) (v := (y1 + 1)) (lv' := [(1, .int (y1 + 1)), (0, .ref (ad (18 + 3 * j)))]) hx hb d_Thing_shown_24 hl rfl rfl (by decide) rfl (fun ls hl => ?_)
          refine lv_goto (tgt := 2) hx hb d_Thing_shown_27 rfl ?_
          exact ih _ _ _ _ h (lv_sub hl [1, 0] rfl) hw
        · have h := br0 c2 h
          refine lv_aload_n hx hb d_Thing_shown_17 rfl (lv_at hl 0 rfl) ?_
          refine gf_T_values hj hC hK hw d_Thing_shown_18 ?_
          refine lv_iload_n hx hb d_Thing_shown_21 rfl (lv_at hl 1 rfl) ?_
          refine al_TV hj hC hK hw d_Thing_shown_22 h (fun h => ?_)
          exact fx_retr hC hr rfl hK hw h d_Thing_shown_23
  rw [f_Thing_shown] at h
  refine lv_iconst (v := 1) hx hb d_Thing_shown_0 (by decide) ?_
  refine lv_istore_n (lv' := [(1, .int 1), (0, .ref (ad (18 + 3 * j)))]) hx hb d_Thing_shown_1 rfl hl (by decide) rfl (fun ls hl => ?_)
  exact L2 _ _ _ _ _ h (lv_sub hl [1, 0] rfl) hw
def f_Desk_valueRead (u : ST)  : Option (Int32) :=
  if (u.1 20) = 85 then
    k_gd (inb (u.1 33) 4) (
    k_bd (f_Thing_shown u (u.1 33).toNatClampNeg) fun q7 =>
    some q7)
  else
  k_gd (inb (u.1 33) 4) (
  if (u.1 20) = 104 then
    k_bd (f_Thing_valueOf u (u.1 33).toNatClampNeg 0) fun q5 =>
    some q5
  else
  k_bd (f_Thing_valueOf u (u.1 33).toNatClampNeg (u.1 21)) fun q4 =>
  some q4)
set_option maxHeartbeats 4000000 in
set_option maxRecDepth 100000 in
theorem c_Desk_valueRead (l : Launch) (D : va_G) (ad : Nat → Nat) (cI cZ cT : ClassId) (v u : ST) (q : Int32) (h : f_Desk_valueRead u = some q) : MX l D (tyC cI cZ cT) (wC ad cI cZ cT v) y_Desk_valueRead cd_Desk_valueRead 1 21 [.ref (ad 2)] u (some (.int q)) u := by
  refine MX.start (by decide) (Nat.le_of_ble_eq_true rfl) ?_
  intro p e s m below meth c ls A hC hr hl hK hA hw
  have ⟨hx, hb, hml, hown, hT, hlk⟩ := hC
  have hl : lv_has ls 1 [(0, .ref (ad 2))] := hl
  rw [f_Desk_valueRead] at h
  refine lv_aload_n hx hb d_Desk_valueRead_0 rfl (lv_at hl 0 rfl) ?_
  refine gf_C_2_property hC hK hw d_Desk_valueRead_1 ?_
  refine lv_bipush (v := 85) hx hb d_Desk_valueRead_4 (by decide) ?_
  refine lv_icmp_ne (tgt := 17) hx hb d_Desk_valueRead_6 rfl (fun c1 => ?_) (fun c1 => ?_)
  · have h := br0 c1 h
    refine lv_aload_n hx hb d_Desk_valueRead_17 rfl (lv_at hl 0 rfl) ?_
    refine gf_C_2_asksFor hC hK hw d_Desk_valueRead_18 ?_
    obtain ⟨g2, h⟩ := k_gd_some h
    rw [tv_some (ad := ad) g2]
    refine lv_aload_n hx hb d_Desk_valueRead_21 rfl (lv_at hl 0 rfl) ?_
    refine gf_C_2_property hC hK hw d_Desk_valueRead_22 ?_
    refine lv_bipush (v := 104) hx hb d_Desk_valueRead_25 (by decide) ?_
    refine lv_icmp_ne (tgt := 34) hx hb d_Desk_valueRead_27 rfl (fun c3 => ?_) (fun c3 => ?_)
    · have h := br0 c3 h
      refine lv_aload_n hx hb d_Desk_valueRead_34 rfl (lv_at hl 0 rfl) ?_
      refine gf_C_2_index hC hK hw d_Desk_valueRead_35 ?_
      refine fx_sVr (As := [.int (u.1 21)]) hC hl.1 (fun q hq => c_Thing_valueOf l D ad cI cZ cT v u (u.1 33).toNatClampNeg g2.2 (u.1 21) q hq) fy_Thing_valueOf fv_Thing_valueOf kw_397 ⟨Nat.le_of_ble_eq_true rfl, Nat.le_of_ble_eq_true rfl⟩ rfl hK hA hw (at_T g2.2) rfl rfl rfl (Nat.le_of_ble_eq_true rfl) d_Desk_valueRead_38 ⟨Nat.le_refl _, Nat.le_refl _⟩ h (fun H locs q4 h hw => ?_)
      exact fx_retr hC hr rfl hK hw h d_Desk_valueRead_41
    · have h := br1 c3 h
      refine lv_iconst (v := 0) hx hb d_Desk_valueRead_30 (by decide) ?_
      refine lv_goto (tgt := 38) hx hb d_Desk_valueRead_31 rfl ?_
      refine fx_sVr (As := [.int 0]) hC hl.1 (fun q hq => c_Thing_valueOf l D ad cI cZ cT v u (u.1 33).toNatClampNeg g2.2 0 q hq) fy_Thing_valueOf fv_Thing_valueOf kw_397 ⟨Nat.le_of_ble_eq_true rfl, Nat.le_of_ble_eq_true rfl⟩ rfl hK hA hw (at_T g2.2) rfl rfl rfl (Nat.le_of_ble_eq_true rfl) d_Desk_valueRead_38 ⟨Nat.le_refl _, Nat.le_refl _⟩ h (fun H locs q5 h hw => ?_)
      exact fx_retr hC hr rfl hK hw h d_Desk_valueRead_41
  · have h := br1 c1 h
    refine lv_aload_n hx hb d_Desk_valueRead_9 rfl (lv_at hl 0 rfl) ?_
    refine gf_C_2_asksFor hC hK hw d_Desk_valueRead_10 ?_
    obtain ⟨g6, h⟩ := k_gd_some h
    rw [tv_some (ad := ad) g6]
    refine fx_sVr (As := []) hC hl.1 (fun q hq => c_Thing_shown l D ad cI cZ cT v u (u.1 33).toNatClampNeg g6.2 q hq) fy_Thing_shown fv_Thing_shown kw_393 ⟨Nat.le_of_ble_eq_true rfl, Nat.le_of_ble_eq_true rfl⟩ rfl hK hA hw (at_T g6.2) rfl rfl rfl (Nat.le_of_ble_eq_true rfl) d_Desk_valueRead_13 ⟨Nat.le_refl _, Nat.le_refl _⟩ h (fun H locs q7 h hw => ?_)
    exact fx_retr hC hr rfl hK hw h d_Desk_valueRead_16
def f_Thing_isGiven (u : ST) (j : Nat) (x1 : Int32) : Option (Int32) :=
  if x1 < 0 then
    some 0
  else
  if 16 < x1 then
    some 0
  else
  k_gd (inb x1 17) (
  if (u.2 (8 + 2 * j) x1.toNatClampNeg) = 0 then
    some 0
  else
  some 1)
set_option maxHeartbeats 4000000 in
set_option maxRecDepth 100000 in
theorem c_Thing_isGiven (l : Launch) (D : va_G) (ad : Nat → Nat) (cI cZ cT : ClassId) (v u : ST) (j : Nat) (hj : j < 4) (x1 : Int32) (q : Int32) (h : f_Thing_isGiven u j x1 = some q) : MX l D (tyC cI cZ cT) (wC ad cI cZ cT v) y_Thing_isGiven cd_Thing_isGiven 0 0 [.ref (ad (18 + 3 * j)), .int x1] u (some (.int q)) u := by
  refine MX.start (by decide) (Nat.le_of_ble_eq_true rfl) ?_
  intro p e s m below meth c ls A hC hr hl hK hA hw
  have ⟨hx, hb, hml, hown, hT, hlk⟩ := hC
  have hl : lv_has ls 2 [(0, .ref (ad (18 + 3 * j))), (1, .int x1)] := hl
  rw [f_Thing_isGiven] at h
  refine lv_iload_n hx hb d_Thing_isGiven_0 rfl (lv_at hl 1 rfl) ?_
  refine lv_if_lt (tgt := 23) hx hb d_Thing_isGiven_1 rfl (fun c1 => ?_) (fun c1 => ?_)
  · have h := br1 c1 h
    refine lv_iconst (v := 0) hx hb d_Thing_isGiven_23 (by decide) ?_
    exact fx_retr hC hr (by decide) hK hw h d_Thing_isGiven_24
  · have h := br0 c1 h
    refine lv_iload_n hx hb d_Thing_isGiven_4 rfl (lv_at hl 1 rfl) ?_
    refine lv_bipush (v := 16) hx hb d_Thing_isGiven_5 (by decide) ?_
    refine lv_icmp_gt (tgt := 23) hx hb d_Thing_isGiven_7 rfl (fun c2 => ?_) (fun c2 => ?_)
    · have h := br1 c2 h
      refine lv_iconst (v := 0) hx hb d_Thing_isGiven_23 (by decide) ?_
      exact fx_retr hC hr (by decide) hK hw h d_Thing_isGiven_24
    · have h := br0 c2 h
      refine lv_aload_n hx hb d_Thing_isGiven_10 rfl (lv_at hl 0 rfl) ?_
      refine gf_T_given hj hC hK hw d_Thing_isGiven_11 ?_
      refine lv_iload_n hx hb d_Thing_isGiven_14 rfl (lv_at hl 1 rfl) ?_
      refine al_TG hj hC hK hw d_Thing_isGiven_15 h (fun h => ?_)
      refine lv_if_eq (tgt := 23) hx hb d_Thing_isGiven_16 rfl (fun c3 => ?_) (fun c3 => ?_)
      · have h := br1 c3 h
        refine lv_iconst (v := 0) hx hb d_Thing_isGiven_23 (by decide) ?_
        exact fx_retr hC hr (by decide) hK hw h d_Thing_isGiven_24
      · have h := br0 c3 h
        refine lv_iconst (v := 1) hx hb d_Thing_isGiven_19 (by decide) ?_
        refine lv_goto (tgt := 24) hx hb d_Thing_isGiven_20 rfl ?_
        exact fx_retr hC hr (by decide) hK hw h d_Thing_isGiven_24
def f_Desk_tellProperty_J104 (u : ST)  : Option (ST) :=
  k_gd (inb (u.1 33) 4) (
  k_bd (f_Thing_isBinary u (u.1 33).toNatClampNeg) fun q5 =>
  if q5 = 0 then
    k_bd (f_Row_put_15 u 68) fun q7 =>
    k_bd (f_Desk_valueRead q7) fun q8 =>
    k_bd (f_Row_putInt_15 q7 q8) fun q9 =>
    some q9
  else
  k_bd (f_Row_put_15 u 145) fun q10 =>
  k_bd (f_Desk_valueRead q10) fun q11 =>
  k_bd (f_Row_put_15 q10 q11) fun q12 =>
  some q12)
def f_Desk_tellProperty_J70 (u : ST)  : Option (ST) :=
  if (u.1 20) = 87 then
    k_gd (inb (u.1 33) 4) (
    k_bd (f_Thing_isGiven u (u.1 33).toNatClampNeg (u.1 21)) fun q14 =>
    if q14 = 0 then
      k_bd (f_Row_put_15 u 0) fun q16 =>
      some q16
    else
    f_Desk_tellProperty_J104 u)
  else
  f_Desk_tellProperty_J104 u
def f_Desk_tellProperty (u : ST)  : Option (ST) :=
  if (u.1 20) = 75 then
    k_bd (f_Row_put_15 u 196) fun q20 =>
    k_bd (f_Row_putInt_15 q20 (q20.1 19)) fun q21 =>
    some q21
  else
  if (u.1 20) = 87 then
    if (u.1 21) = 0 then
      k_bd (f_Row_put_15 u 33) fun q18 =>
      k_bd (f_Row_put_15 q18 16) fun q19 =>
      some q19
    else
    f_Desk_tellProperty_J70 u
  else
  f_Desk_tellProperty_J70 u
set_option maxHeartbeats 4000000 in
set_option maxRecDepth 100000 in
theorem c_Desk_tellProperty (l : Launch) (D : va_G) (ad : Nat → Nat) (cI cZ cT : ClassId) (v u : ST) (q : ST) (h : f_Desk_tellProperty u = some q) : MX l D (tyC cI cZ cT) (wC ad cI cZ cT v) y_Desk_tellProperty cd_Desk_tellProperty 2 42 [.ref (ad 2)] u none q := by
  refine MX.start (by decide) (Nat.le_of_ble_eq_true rfl) ?_
  intro p e s m below meth c ls A hC hr hl hK hA hw
  have ⟨hx, hb, hml, hown, hT, hlk⟩ := hC
  have hl : lv_has ls 1 [(0, .ref (ad 2))] := hl
  have J104 : ∀ (u : ST) (ls : Array Slot) (H : Heap) (locs : List Loc), f_Desk_tellProperty_J104 u = some q → lv_has ls 1 [(0, .ref (ad 2))] → fw D A s.heap (wC ad cI cZ cT v u) H locs → WX (wC ad cI cZ cT v) p l e 2 42 s m [.ref (ad 2)] below meth c A D (tyC cI cZ cT) none q H locs (F0 m 104 ls []) := by
    intro u ls H locs h hl hw
    rw [f_Desk_tellProperty_J104] at h
    refine lv_aload_n hx hb d_Desk_tellProperty_104 rfl (lv_at hl 0 rfl) ?_
    refine gf_C_2_asksFor hC hK hw d_Desk_tellProperty_105 ?_
    obtain ⟨g4, h⟩ := k_gd_some h
    rw [tv_some (ad := ad) g4]
    refine fx_sVr (As := []) hC hl.1 (fun q hq => c_Thing_isBinary l D ad cI cZ cT v u (u.1 33).toNatClampNeg g4.2 q hq) fy_Thing_isBinary fv_Thing_isBinary kw_352 ⟨Nat.le_of_ble_eq_true rfl, Nat.le_of_ble_eq_true rfl⟩ rfl hK hA hw (at_T g4.2) rfl rfl rfl (Nat.le_of_ble_eq_true rfl) d_Desk_tellProperty_108 ⟨Nat.le_refl _, Nat.le_refl _⟩ h (fun H locs q5 h hw => ?_)
    refine lv_if_eq (tgt := 138) hx hb d_Desk_tellProperty_111 rfl (fun c6 => ?_) (fun c6 => ?_)
    · have h := br1 c6 h
      refine lv_aload_n hx hb d_Desk_tellProperty_138 rfl (lv_at hl 0 rfl) ?_
      refine gf_C_2_answer hC hK hw d_Desk_tellProperty_139 ?_
      refine lv_bipush (v := 68) hx hb d_Desk_tellProperty_142 (by decide) ?_
      refine fx_sVv (As := [.int 68]) hC hl.1 (fun q hq => c_Row_put_15 l D ad cI cZ cT v u 68 q hq) fy_Row_put fv_Row_put kw_311 ⟨Nat.le_of_ble_eq_true rfl, Nat.le_of_ble_eq_true rfl⟩ rfl hK hA hw at_C_15 rfl rfl rfl (Nat.le_of_ble_eq_true rfl) d_Desk_tellProperty_144 ⟨Nat.le_refl _, Nat.le_refl _⟩ h (fun H locs q7 h hw => ?_)
      refine lv_aload_n hx hb d_Desk_tellProperty_147 rfl (lv_at hl 0 rfl) ?_
      refine gf_C_2_answer hC hK hw d_Desk_tellProperty_148 ?_
      refine lv_aload_n hx hb d_Desk_tellProperty_151 rfl (lv_at hl 0 rfl) ?_
      refine fx_sVr (As := []) hC hl.1 (fun q hq => c_Desk_valueRead l D ad cI cZ cT v q7 q hq) fy_Desk_valueRead fv_Desk_valueRead kw_389 ⟨Nat.le_of_ble_eq_true rfl, Nat.le_of_ble_eq_true rfl⟩ rfl hK hA hw at_C_2 rfl rfl rfl (Nat.le_of_ble_eq_true rfl) d_Desk_tellProperty_152 ⟨Nat.le_refl _, Nat.le_refl _⟩ h (fun H locs q8 h hw => ?_)
      refine fx_sVv (As := [.int q8]) hC hl.1 (fun q hq => c_Row_putInt_15 l D ad cI cZ cT v q7 q8 q hq) fy_Row_putInt fv_Row_putInt kw_377 ⟨Nat.le_of_ble_eq_true rfl, Nat.le_of_ble_eq_true rfl⟩ rfl hK hA hw at_C_15 rfl rfl rfl (Nat.le_of_ble_eq_true rfl) d_Desk_tellProperty_155 ⟨Nat.le_refl _, Nat.le_refl _⟩ h (fun H locs q9 h hw => ?_)
      exact fx_retv hC hr hK hw h d_Desk_tellProperty_158
    · have h := br0 c6 h
      refine lv_aload_n hx hb d_Desk_tellProperty_114 rfl (lv_at hl 0 rfl) ?_
      refine gf_C_2_answer hC hK hw d_Desk_tellProperty_115 ?_
      refine lv_sipush (v := 145) hx hb d_Desk_tellProperty_118 (by decide) ?_
      refine fx_sVv (As := [.int 145]) hC hl.1 (fun q hq => c_Row_put_15 l D ad cI cZ cT v u 145 q hq) fy_Row_put fv_Row_put kw_311 ⟨Nat.le_of_ble_eq_true rfl, Nat.le_of_ble_eq_true rfl⟩ rfl hK hA hw at_C_15 rfl rfl rfl (Nat.le_of_ble_eq_true rfl) d_Desk_tellProperty_121 ⟨Nat.le_refl _, Nat.le_refl _⟩ h (fun H locs q10 h hw => ?_)
      refine lv_aload_n hx hb d_Desk_tellProperty_124 rfl (lv_at hl 0 rfl) ?_
      refine gf_C_2_answer hC hK hw d_Desk_tellProperty_125 ?_
      refine lv_aload_n hx hb d_Desk_tellProperty_128 rfl (lv_at hl 0 rfl) ?_
      refine fx_sVr (As := []) hC hl.1 (fun q hq => c_Desk_valueRead l D ad cI cZ cT v q10 q hq) fy_Desk_valueRead fv_Desk_valueRead kw_389 ⟨Nat.le_of_ble_eq_true rfl, Nat.le_of_ble_eq_true rfl⟩ rfl hK hA hw at_C_2 rfl rfl rfl (Nat.le_of_ble_eq_true rfl) d_Desk_tellProperty_129 ⟨Nat.le_refl _, Nat.le_refl _⟩ h (fun H locs q11 h hw => ?_)
      refine fx_sVv (As := [.int q11]) hC hl.1 (fun q hq => c_Row_put_15 l D ad cI cZ cT v q10 q11 q hq) fy_Row_put fv_Row_put kw_311 ⟨Nat.le_of_ble_eq_true rfl, Nat.le_of_ble_eq_true rfl⟩ rfl hK hA hw at_C_15 rfl rfl rfl (Nat.le_of_ble_eq_true rfl) d_Desk_tellProperty_132 ⟨Nat.le_refl _, Nat.le_refl _⟩ h (fun H locs q12 h hw => ?_)
      refine lv_goto (tgt := 158) hx hb d_Desk_tellProperty_135 rfl ?_
      exact fx_retv hC hr hK hw h d_Desk_tellProperty_158
  have J70 : ∀ (u : ST) (ls : Array Slot) (H : Heap) (locs : List Loc), f_Desk_tellProperty_J70 u = some q → lv_has ls 1 [(0, .ref (ad 2))] → fw D A s.heap (wC ad cI cZ cT v u) H locs → WX (wC ad cI cZ cT v) p l e 2 42 s m [.ref (ad 2)] below meth c A D (tyC cI cZ cT) none q H locs (F0 m 70 ls []) := by
    intro u ls H locs h hl hw
    rw [f_Desk_tellProperty_J70] at h
    refine lv_aload_n hx hb d_Desk_tellProperty_70 rfl (lv_at hl 0 rfl) ?_
    refine gf_C_2_property hC hK hw d_Desk_tellProperty_71 ?_
    refine lv_bipush (v := 87) hx hb d_Desk_tellProperty_74 (by decide) ?_
    refine lv_icmp_ne (tgt := 104) hx hb d_Desk_tellProperty_76 rfl (fun c3 => ?_) (fun c3 => ?_)
    · have h := br0 c3 h
      exact J104 _ _ _ _ h (lv_sub hl [0] rfl) hw
    · have h := br1 c3 h
      refine lv_aload_n hx hb d_Desk_tellProperty_79 rfl (lv_at hl 0 rfl) ?_
      refine gf_C_2_asksFor hC hK hw d_Desk_tellProperty_80 ?_
      obtain ⟨g13, h⟩ := k_gd_some h
      rw [tv_some (ad := ad) g13]
      refine lv_aload_n hx hb d_Desk_tellProperty_83 rfl (lv_at hl 0 rfl) ?_
      refine gf_C_2_index hC hK hw d_Desk_tellProperty_84 ?_
      refine fx_sVr (As := [.int (u.1 21)]) hC hl.1 (fun q hq => c_Thing_isGiven l D ad cI cZ cT v u (u.1 33).toNatClampNeg g13.2 (u.1 21) q hq) fy_Thing_isGiven fv_Thing_isGiven kw_385 ⟨Nat.le_of_ble_eq_true rfl, Nat.le_of_ble_eq_true rfl⟩ rfl hK hA hw (at_T g13.2) rfl rfl rfl (Nat.le_of_ble_eq_true rfl) d_Desk_tellProperty_87 ⟨Nat.le_refl _, Nat.le_refl _⟩ h (fun H locs q14 h hw => ?_)
      refine lv_if_ne (tgt := 104) hx hb d_Desk_tellProperty_90 rfl (fun c15 => ?_) (fun c15 => ?_)
      · have h := br0 c15 h
        exact J104 _ _ _ _ h (lv_sub hl [0] rfl) hw
      · have h := br1 c15 h
        refine lv_aload_n hx hb d_Desk_tellProperty_93 rfl (lv_at hl 0 rfl) ?_
        refine gf_C_2_answer hC hK hw d_Desk_tellProperty_94 ?_
        refine lv_iconst (v := 0) hx hb d_Desk_tellProperty_97 (by decide) ?_
        refine fx_sVv (As := [.int 0]) hC hl.1 (fun q hq => c_Row_put_15 l D ad cI cZ cT v u 0 q hq) fy_Row_put fv_Row_put kw_311 ⟨Nat.le_of_ble_eq_true rfl, Nat.le_of_ble_eq_true rfl⟩ rfl hK hA hw at_C_15 rfl rfl rfl (Nat.le_of_ble_eq_true rfl) d_Desk_tellProperty_98 ⟨Nat.le_refl _, Nat.le_refl _⟩ h (fun H locs q16 h hw => ?_)
        refine lv_goto (tgt := 158) hx hb d_Desk_tellProperty_101 rfl ?_
        exact fx_retv hC hr hK hw h d_Desk_tellProperty_158
  rw [f_Desk_tellProperty] at h
  refine lv_aload_n hx hb d_Desk_tellProperty_0 rfl (lv_at hl 0 rfl) ?_
  refine gf_C_2_property hC hK hw d_Desk_tellProperty_1 ?_
  refine lv_bipush (v := 75) hx hb d_Desk_tellProperty_4 (by decide) ?_
  refine lv_icmp_ne (tgt := 33) hx hb d_Desk_tellProperty_6 rfl (fun c1 => ?_) (fun c1 => ?_)
  · have h := br0 c1 h
    refine lv_aload_n hx hb d_Desk_tellProperty_33 rfl (lv_at hl 0 rfl) ?_
    refine gf_C_2_property hC hK hw d_Desk_tellProperty_34 ?_
    refine lv_bipush (v := 87) hx hb d_Desk_tellProperty_37 (by decide) ?_
    refine lv_icmp_ne (tgt := 70) hx hb d_Desk_tellProperty_39 rfl (fun c2 => ?_) (fun c2 => ?_)
    · have h := br0 c2 h
      exact J70 _ _ _ _ h (lv_sub hl [0] rfl) hw
    · have h := br1 c2 h
      refine lv_aload_n hx hb d_Desk_tellProperty_42 rfl (lv_at hl 0 rfl) ?_
      refine gf_C_2_index hC hK hw d_Desk_tellProperty_43 ?_
      refine lv_if_ne (tgt := 70) hx hb d_Desk_tellProperty_46 rfl (fun c17 => ?_) (fun c17 => ?_)
      · have h := br0 c17 h
        exact J70 _ _ _ _ h (lv_sub hl [0] rfl) hw
      · have h := br1 c17 h
        refine lv_aload_n hx hb d_Desk_tellProperty_49 rfl (lv_at hl 0 rfl) ?_
        refine gf_C_2_answer hC hK hw d_Desk_tellProperty_50 ?_
        refine lv_bipush (v := 33) hx hb d_Desk_tellProperty_53 (by decide) ?_
        refine fx_sVv (As := [.int 33]) hC hl.1 (fun q hq => c_Row_put_15 l D ad cI cZ cT v u 33 q hq) fy_Row_put fv_Row_put kw_311 ⟨Nat.le_of_ble_eq_true rfl, Nat.le_of_ble_eq_true rfl⟩ rfl hK hA hw at_C_15 rfl rfl rfl (Nat.le_of_ble_eq_true rfl) d_Desk_tellProperty_55 ⟨Nat.le_refl _, Nat.le_refl _⟩ h (fun H locs q18 h hw => ?_)
        refine lv_aload_n hx hb d_Desk_tellProperty_58 rfl (lv_at hl 0 rfl) ?_
        refine gf_C_2_answer hC hK hw d_Desk_tellProperty_59 ?_
        refine lv_bipush (v := 16) hx hb d_Desk_tellProperty_62 (by decide) ?_
        refine fx_sVv (As := [.int 16]) hC hl.1 (fun q hq => c_Row_put_15 l D ad cI cZ cT v q18 16 q hq) fy_Row_put fv_Row_put kw_311 ⟨Nat.le_of_ble_eq_true rfl, Nat.le_of_ble_eq_true rfl⟩ rfl hK hA hw at_C_15 rfl rfl rfl (Nat.le_of_ble_eq_true rfl) d_Desk_tellProperty_64 ⟨Nat.le_refl _, Nat.le_refl _⟩ h (fun H locs q19 h hw => ?_)
        refine lv_goto (tgt := 158) hx hb d_Desk_tellProperty_67 rfl ?_
        exact fx_retv hC hr hK hw h d_Desk_tellProperty_158
  · have h := br1 c1 h
    refine lv_aload_n hx hb d_Desk_tellProperty_9 rfl (lv_at hl 0 rfl) ?_
    refine gf_C_2_answer hC hK hw d_Desk_tellProperty_10 ?_
    refine lv_sipush (v := 196) hx hb d_Desk_tellProperty_13 (by decide) ?_
    refine fx_sVv (As := [.int 196]) hC hl.1 (fun q hq => c_Row_put_15 l D ad cI cZ cT v u 196 q hq) fy_Row_put fv_Row_put kw_311 ⟨Nat.le_of_ble_eq_true rfl, Nat.le_of_ble_eq_true rfl⟩ rfl hK hA hw at_C_15 rfl rfl rfl (Nat.le_of_ble_eq_true rfl) d_Desk_tellProperty_16 ⟨Nat.le_refl _, Nat.le_refl _⟩ h (fun H locs q20 h hw => ?_)
    refine lv_aload_n hx hb d_Desk_tellProperty_19 rfl (lv_at hl 0 rfl) ?_
    refine gf_C_2_answer hC hK hw d_Desk_tellProperty_20 ?_
    refine lv_aload_n hx hb d_Desk_tellProperty_23 rfl (lv_at hl 0 rfl) ?_
    refine gf_C_2_reference hC hK hw d_Desk_tellProperty_24 ?_
    refine fx_sVv (As := [.int (q20.1 19)]) hC hl.1 (fun q hq => c_Row_putInt_15 l D ad cI cZ cT v q20 (q20.1 19) q hq) fy_Row_putInt fv_Row_putInt kw_377 ⟨Nat.le_of_ble_eq_true rfl, Nat.le_of_ble_eq_true rfl⟩ rfl hK hA hw at_C_15 rfl rfl rfl (Nat.le_of_ble_eq_true rfl) d_Desk_tellProperty_27 ⟨Nat.le_refl _, Nat.le_refl _⟩ h (fun H locs q21 h hw => ?_)
    refine lv_goto (tgt := 158) hx hb d_Desk_tellProperty_30 rfl ?_
    exact fx_retv hC hr hK hw h d_Desk_tellProperty_158
