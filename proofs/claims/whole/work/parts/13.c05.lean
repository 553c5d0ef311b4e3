def f_Row_size_7 (u : ST)  : Option (Int32) :=
  some (u.1 27)
set_option maxHeartbeats 4000000 in
set_option maxRecDepth 100000 in
theorem c_Row_size_7 (l : Launch) (D : va_G) (ad : Nat → Nat) (cI cZ cT : ClassId) (v u : ST) (q : Int32) (h : f_Row_size_7 u = some q) : MX l D (tyC cI cZ cT) (wC ad cI cZ cT v) y_Row_size cd_Row_size 0 0 [.ref (ad 7)] u (some (.int q)) u := by
  refine MX.start (by decide) (Nat.le_of_ble_eq_true rfl) ?_
  intro p e s m below meth c ls A hC hr hl hK hA hw
  have ⟨hx, hb, hml, hown, hT, hlk⟩ := hC
  have hl : lv_has ls 1 [(0, .ref (ad 7))] := hl
  rw [f_Row_size_7] at h
  refine lv_aload_n hx hb d_Row_size_0 rfl (lv_at hl 0 rfl) ?_
  refine gf_C_7_count hC hK hw d_Row_size_1 ?_
  exact fx_retr hC hr rfl hK hw h d_Row_size_4
def f_Row_putAll_3_7_L2 : Nat → ST → Int32 → Option (ST)
  | 0, _, _ => none
  | k_ + 1, u, y2 =>
    if (u.1 27) ≤ y2 then
      some u
    else
    k_gd (inb y2 13) (
    k_bd (f_Row_put_3 u (u.2 2 y2.toNatClampNeg)) fun q2 =>
    f_Row_putAll_3_7_L2 k_ q2 (y2 + 1))
def f_Row_putAll_3_7 (u : ST)  : Option (ST) :=
  f_Row_putAll_3_7_L2 200 u 0
set_option maxHeartbeats 4000000 in
set_option maxRecDepth 100000 in
theorem c_Row_putAll_3_7 (l : Launch) (D : va_G) (ad : Nat → Nat) (cI cZ cT : ClassId) (v u : ST) (q : ST) (h : f_Row_putAll_3_7 u = some q) : MX l D (tyC cI cZ cT) (wC ad cI cZ cT v) y_Row_putAll cd_Row_putAll 1 21 [.ref (ad 3), .ref (ad 7)] u none q := by
  refine MX.start (by decide) (Nat.le_of_ble_eq_true rfl) ?_
  intro p e s m below meth c ls A hC hr hl hK hA hw
  have ⟨hx, hb, hml, hown, hT, hlk⟩ := hC
  have hl : lv_has ls 3 [(0, .ref (ad 3)), (1, .ref (ad 7))] := hl
  have L2 : ∀ (k_ : Nat) (u : ST) (y2 : Int32) (ls : Array Slot) (H : Heap) (locs : List Loc), f_Row_putAll_3_7_L2 k_ u y2 = some q → lv_has ls 3 [(0, .ref (ad 3)), (1, .ref (ad 7)), (2, .int y2)] → fw D A s.heap (wC ad cI cZ cT v u) H locs → WX (wC ad cI cZ cT v) p l e 1 21 s m [.ref (ad 3), .ref (ad 7)] below meth c A D (tyC cI cZ cT) none q H locs (F0 m 2 ls []) := by
    intro k_
    induction k_ with
    | zero =>
      intro u y2 ls H locs h hl hw
      cases h
    | succ k_ ih =>
      intro u y2 ls H locs h hl hw
      rw [f_Row_putAll_3_7_L2] at h
      refine lv_iload_n hx hb d_Row_putAll_2 rfl (lv_at hl 2 rfl) ?_
      refine lv_aload_n hx hb d_Row_putAll_3 rfl (lv_at hl 1 rfl) ?_
      refine gf_C_7_count hC hK hw d_Row_putAll_4 ?_
      refine lv_icmp_ge (tgt := 26) hx hb d_Row_putAll_7 rfl (fun c1 => ?_) (fun c1 => ?_)
      · have h := br1 c1 h
        exact fx_retv hC hr hK hw h d_Row_putAll_26
      · have h := br0 c1 h
        refine lv_aload_n hx hb d_Row_putAll_10 rfl (lv_at hl 0 rfl) ?_
        refine lv_aload_n hx hb d_Row_putAll_11 rfl (lv_at hl 1 rfl) ?_
        refine gf_C_7_bytes hC hK hw d_Row_putAll_12 ?_
        refine lv_iload_n hx hb d_Row_putAll_15 rfl (lv_at hl 2 rfl) ?_
        refine al_C_8 hC hK hw d_Row_putAll_16 h (fun h => ?_)
        refine fx_sVv (As := [.int (u.2 2 y2.toNatClampNeg)]) hC hl.1 (fun q hq => c_Row_put_3 l D ad cI cZ cT v u (u.2 2 y2.toNatClampNeg) q hq) fy_Row_put fv_Row_put kw_286 ⟨Nat.le_of_ble_eq_true rfl, Nat.le_of_ble_eq_true rfl⟩ rfl hK hA hw at_C_3 rfl rfl rfl (Nat.le_of_ble_eq_true rfl) d_Row_putAll_17 ⟨Nat.le_refl _, Nat.le_refl _⟩ h (fun H locs q2 h hw => ?_)
        refine lv_iinc (k := 2) (v := (y2 + 1)) (lv' := [(2, .int (y2 + 1)), (0, .ref (ad 3)), (1, .ref (ad 7))]) hx hb d_Row_putAll_20 hl rfl rfl (by decide) rfl (fun ls hl => ?_)
        refine lv_goto (tgt := 2) hx hb d_Row_putAll_23 rfl ?_
        exact ih _ _ _ _ _ h (lv_sub hl [1, 2, 0] rfl) hw
  rw [f_Row_putAll_3_7] at h
  refine lv_iconst (v := 0) hx hb d_Row_putAll_0 (by decide) ?_
  refine lv_istore_n (lv' := [(2, .int 0), (0, .ref (ad 3)), (1, .ref (ad 7))]) hx hb d_Row_putAll_1 rfl hl (by decide) rfl (fun ls hl => ?_)
  exact L2 _ _ _ _ _ _ h (lv_sub hl [1, 2, 0] rfl) hw
def f_Row_at_7 (u : ST) (x1 : Int32) : Option (Int32) :=
  if x1 < 0 then
    some (-1)
  else
  if (u.1 27) ≤ x1 then
    some (-1)
  else
  k_gd (inb x1 13) (
  some (u.2 2 x1.toNatClampNeg))
set_option maxHeartbeats 4000000 in
set_option maxRecDepth 100000 in
theorem c_Row_at_7 (l : Launch) (D : va_G) (ad : Nat → Nat) (cI cZ cT : ClassId) (v u : ST) (x1 : Int32) (q : Int32) (h : f_Row_at_7 u x1 = some q) : MX l D (tyC cI cZ cT) (wC ad cI cZ cT v) y_Row_at cd_Row_at 0 0 [.ref (ad 7), .int x1] u (some (.int q)) u := by
  refine MX.start (by decide) (Nat.le_of_ble_eq_true rfl) ?_
  intro p e s m below meth c ls A hC hr hl hK hA hw
  have ⟨hx, hb, hml, hown, hT, hlk⟩ := hC
  have hl : lv_has ls 2 [(0, .ref (ad 7)), (1, .int x1)] := hl
  rw [f_Row_at_7] at h
  refine lv_iload_n hx hb d_Row_at_0 rfl (lv_at hl 1 rfl) ?_
  refine lv_if_lt (tgt := 21) hx hb d_Row_at_1 rfl (fun c1 => ?_) (fun c1 => ?_)
  · have h := br1 c1 h
    refine lv_iconst (v := (-1)) hx hb d_Row_at_21 (by decide) ?_
    exact fx_retr hC hr rfl hK hw h d_Row_at_22
  · have h := br0 c1 h
    refine lv_iload_n hx hb d_Row_at_4 rfl (lv_at hl 1 rfl) ?_
    refine lv_aload_n hx hb d_Row_at_5 rfl (lv_at hl 0 rfl) ?_
    refine gf_C_7_count hC hK hw d_Row_at_6 ?_
    refine lv_icmp_ge (tgt := 21) hx hb d_Row_at_9 rfl (fun c2 => ?_) (fun c2 => ?_)
    · have h := br1 c2 h
      refine lv_iconst (v := (-1)) hx hb d_Row_at_21 (by decide) ?_
      exact fx_retr hC hr rfl hK hw h d_Row_at_22
    · have h := br0 c2 h
      refine lv_aload_n hx hb d_Row_at_12 rfl (lv_at hl 0 rfl) ?_
      refine gf_C_7_bytes hC hK hw d_Row_at_13 ?_
      refine lv_iload_n hx hb d_Row_at_16 rfl (lv_at hl 1 rfl) ?_
      refine al_C_8 hC hK hw d_Row_at_17 h (fun h => ?_)
      refine lv_goto (tgt := 22) hx hb d_Row_at_18 rfl ?_
      exact fx_retr hC hr rfl hK hw h d_Row_at_22
def f_Chk_ofData_7_L5 : Nat → ST → Int32 → Int32 → Option (Int32)
  | 0, _, _, _ => none
  | k_ + 1, u, y1, y2 =>
    k_bd (f_Row_size_7 u) fun q1 =>
    if q1 ≤ y2 then
      some (65535 - y1)
    else
    k_bd (f_Row_at_7 u y2) fun q3 =>
    k_bd (f_Chk_withByte y1 q3 33800) fun q4 =>
    f_Chk_ofData_7_L5 k_ u q4 (y2 + 1)
def f_Chk_ofData_7 (u : ST)  : Option (Int32) :=
  f_Chk_ofData_7_L5 200 u 65535 0
set_option maxHeartbeats 4000000 in
set_option maxRecDepth 100000 in
theorem c_Chk_ofData_7 (l : Launch) (D : va_G) (ad : Nat → Nat) (cI cZ cT : ClassId) (v u : ST) (q : Int32) (h : f_Chk_ofData_7 u = some q) : MX l D (tyC cI cZ cT) (wC ad cI cZ cT v) y_Chk_ofData cd_Chk_ofData 1 24 [.ref (ad 7)] u (some (.int q)) u := by
  refine MX.start (by decide) (Nat.le_of_ble_eq_true rfl) ?_
  intro p e s m below meth c ls A hC hr hl hK hA hw
  have ⟨hx, hb, hml, hown, hT, hlk⟩ := hC
  have hl : lv_has ls 3 [(0, .ref (ad 7))] := hl
  have L5 : ∀ (k_ : Nat) (y1 y2 : Int32) (ls : Array Slot) (H : Heap) (locs : List Loc), f_Chk_ofData_7_L5 k_ u y1 y2 = some q → lv_has ls 3 [(0, .ref (ad 7)), (1, .int y1), (2, .int y2)] → fw D A s.heap (wC ad cI cZ cT v u) H locs → WX (wC ad cI cZ cT v) p l e 1 24 s m [.ref (ad 7)] below meth c A D (tyC cI cZ cT) (some (.int q)) u H locs (F0 m 5 ls []) := by
    intro k_
    induction k_ with
    | zero =>
      intro y1 y2 ls H locs h hl hw
      cases h
    | succ k_ ih =>
      intro y1 y2 ls H locs h hl hw
      rw [f_Chk_ofData_7_L5] at h
      refine lv_iload_n hx hb d_Chk_ofData_5 rfl (lv_at hl 2 rfl) ?_
      refine lv_aload_n hx hb d_Chk_ofData_6 rfl (lv_at hl 0 rfl) ?_
      refine fx_sVr (As := []) hC hl.1 (fun q hq => c_Row_size_7 l D ad cI cZ cT v u q hq) fy_Row_size fv_Row_size kw_291 ⟨Nat.le_of_ble_eq_true rfl, Nat.le_of_ble_eq_true rfl⟩ rfl hK hA hw at_C_7 rfl rfl rfl (Nat.le_of_ble_eq_true rfl) d_Chk_ofData_7 ⟨Nat.le_refl _, Nat.le_refl _⟩ h (fun H locs q1 h hw => ?_)
      refine lv_icmp_ge (tgt := 31) hx hb d_Chk_ofData_10 rfl (fun c2 => ?_) (fun c2 => ?_)
      · have h := br1 c2 h
        refine lv_ldc (v := 65535) hx hb hown (hT _ kw_290) d_Chk_ofData_31 ?_
        refine lv_iload_n hx hb d_Chk_ofData_33 rfl (lv_at hl 1 rfl) ?_
        refine lv_isub hx hb d_Chk_ofData_34 ?_
        exact fx_retr hC hr rfl hK hw h d_Chk_ofData_35
      · have h := br0 c2 h
        refine lv_iload_n hx hb d_Chk_ofData_13 rfl (lv_at hl 1 rfl) ?_
        refine lv_aload_n hx hb d_Chk_ofData_14 rfl (lv_at hl 0 rfl) ?_
        refine lv_iload_n hx hb d_Chk_ofData_15 rfl (lv_at hl 2 rfl) ?_
        refine fx_sVr (As := [.int y2]) hC hl.1 (fun q hq => c_Row_at_7 l D ad cI cZ cT v u y2 q hq) fy_Row_at fv_Row_at kw_280 ⟨Nat.le_of_ble_eq_true rfl, Nat.le_of_ble_eq_true rfl⟩ rfl hK hA hw at_C_7 rfl rfl rfl (Nat.le_of_ble_eq_true rfl) d_Chk_ofData_16 ⟨Nat.le_refl _, Nat.le_refl _⟩ h (fun H locs q3 h hw => ?_)
        refine lv_ldc (v := 33800) hx hb hown (hT _ kw_292) d_Chk_ofData_19 ?_
        refine fx_sSr (As := [.int y1, .int q3, .int 33800]) hC hl.1 (fun q hq => c_Chk_withByte l D ad cI cZ cT v u y1 q3 33800 q hq) fy_Chk_withByte fs_Chk_withByte kw_281 ⟨Nat.le_of_ble_eq_true rfl, Nat.le_of_ble_eq_true rfl⟩ rfl hK hA hw rfl (Nat.le_of_ble_eq_true rfl) d_Chk_ofData_21 ⟨Nat.le_refl _, Nat.le_refl _⟩ h (fun H locs q4 h hw => ?_)
        refine lv_istore_n (lv' := [(1, .int q4), (0, .ref (ad 7)), (2, .int y2)]) hx hb d_Chk_ofData_24 rfl hl (by decide) rfl (fun ls hl => ?_)
        refine lv_iinc (k := 2) (v := (y2 + 1)) (lv' := [(2, .int (y2 + 1)), (1, .int q4), (0, .ref (ad 7))]) hx hb d_Chk_ofData_25 hl rfl rfl (by decide) rfl (fun ls hl => ?_)
        refine lv_goto (tgt := 5) hx hb d_Chk_ofData_28 rfl ?_
        exact ih _ _ _ _ _ h (lv_sub hl [2, 1, 0] rfl) hw
  rw [f_Chk_ofData_7] at h
  refine lv_ldc (v := 65535) hx hb hown (hT _ kw_290) d_Chk_ofData_0 ?_
  refine lv_istore_n (lv' := [(1, .int 65535), (0, .ref (ad 7))]) hx hb d_Chk_ofData_2 rfl hl (by decide) rfl (fun ls hl => ?_)
  refine lv_iconst (v := 0) hx hb d_Chk_ofData_3 (by decide) ?_
  refine lv_istore_n (lv' := [(2, .int 0), (1, .int 65535), (0, .ref (ad 7))]) hx hb d_Chk_ofData_4 rfl hl (by decide) rfl (fun ls hl => ?_)
  exact L5 _ _ _ _ _ _ h (lv_sub hl [2, 1, 0] rfl) hw
def f_PT_send_7 (u : ST) (x1 x2 : Int32) : Option (ST) :=
  k_bd (f_Row_put_3 u 85) fun q1 =>
  k_bd (f_Row_put_3 q1 255) fun q2 =>
  k_bd (f_Row_size_3 q2) fun q3 =>
  k_bd (f_Row_put_3 q2 x1) fun q4 =>
  k_bd (f_Row_put_3 q4 x2) fun q5 =>
  k_bd (f_Row_put_3 q5 (q5.1 0)) fun q6 =>
  k_bd (f_Row_size_7 q6) fun q7 =>
  k_bd (f_Row_put_3 q6 (q7 / 256)) fun q8 =>
  k_bd (f_Row_size_7 q8) fun q9 =>
  k_bd (f_Row_put_3 q8 (q9 - q9 / 256 * 256)) fun q10 =>
  k_bd (f_Chk_ofHeader_3 q10 q3) fun q11 =>
  k_bd (f_Row_put_3 q10 q11) fun q12 =>
  k_bd (f_Row_size_7 q12) fun q13 =>
  if q13 ≤ 0 then
    k_let (ss q12 9 0) fun u15 =>
    some u15
  else
  k_bd (f_Row_putAll_3_7 q12) fun q16 =>
  k_bd (f_Chk_ofData_7 q16) fun q17 =>
  k_bd (f_Row_put_3 q16 (q17 - q17 / 256 * 256)) fun q18 =>
  k_bd (f_Row_put_3 q18 (q17 / 256)) fun q19 =>
  k_let (ss q19 9 0) fun u20 =>
  some u20
set_option maxHeartbeats 4000000 in
set_option maxRecDepth 100000 in
theorem c_PT_send_7 (l : Launch) (D : va_G) (ad : Nat → Nat) (cI cZ cT : ClassId) (v u : ST) (x1 x2 : Int32) (q : ST) (h : f_PT_send_7 u x1 x2 = some q) : MX l D (tyC cI cZ cT) (wC ad cI cZ cT v) y_PT_send cd_PT_send 2 47 [.ref (ad 0), .int x1, .int x2, .ref (ad 7)] u none q := by
  refine MX.start (by decide) (Nat.le_of_ble_eq_true rfl) ?_
  intro p e s m below meth c ls A hC hr hl hK hA hw
  have ⟨hx, hb, hml, hown, hT, hlk⟩ := hC
  have hl : lv_has ls 6 [(0, .ref (ad 0)), (1, .int x1), (2, .int x2), (3, .ref (ad 7))] := hl
  rw [f_PT_send_7] at h
  refine lv_aload_n hx hb d_PT_send_0 rfl (lv_at hl 0 rfl) ?_
  refine gf_C_0_out hC hK hw d_PT_send_1 ?_
  refine lv_bipush (v := 85) hx hb d_PT_send_4 (by decide) ?_
  refine fx_sVv (As := [.int 85]) hC hl.1 (fun q hq => c_Row_put_3 l D ad cI cZ cT v u 85 q hq) fy_Row_put fv_Row_put kw_275 ⟨Nat.le_of_ble_eq_true rfl, Nat.le_of_ble_eq_true rfl⟩ rfl hK hA hw at_C_3 rfl rfl rfl (Nat.le_of_ble_eq_true rfl) d_PT_send_6 ⟨Nat.le_refl _, Nat.le_refl _⟩ h (fun H locs q1 h hw => ?_)
  refine lv_aload_n hx hb d_PT_send_9 rfl (lv_at hl 0 rfl) ?_
  refine gf_C_0_out hC hK hw d_PT_send_10 ?_
  refine lv_sipush (v := 255) hx hb d_PT_send_13 (by decide) ?_
  refine fx_sVv (As := [.int 255]) hC hl.1 (fun q hq => c_Row_put_3 l D ad cI cZ cT v q1 255 q hq) fy_Row_put fv_Row_put kw_275 ⟨Nat.le_of_ble_eq_true rfl, Nat.le_of_ble_eq_true rfl⟩ rfl hK hA hw at_C_3 rfl rfl rfl (Nat.le_of_ble_eq_true rfl) d_PT_send_16 ⟨Nat.le_refl _, Nat.le_refl _⟩ h (fun H locs q2 h hw => ?_)
  refine lv_aload_n hx hb d_PT_send_19 rfl (lv_at hl 0 rfl) ?_
  refine gf_C_0_out hC hK hw d_PT_send_20 ?_
  refine fx_sVr (As := []) hC hl.1 (fun q hq => c_Row_size_3 l D ad cI cZ cT v q2 q hq) fy_Row_size fv_Row_size kw_276 ⟨Nat.le_of_ble_eq_true rfl, Nat.le_of_ble_eq_true rfl⟩ rfl hK hA hw at_C_3 rfl rfl rfl (Nat.le_of_ble_eq_true rfl) d_PT_send_23 ⟨Nat.le_refl _, Nat.le_refl _⟩ h (fun H locs q3 h hw => ?_)
  refine lv_istore (lv' := [(4, .int q3), (0, .ref (ad 0)), (1, .int x1), (2, .int x2), (3, .ref (ad 7))]) hx hb d_PT_send_26 hl (by decide) rfl (fun ls hl => ?_)
  refine lv_aload_n hx hb d_PT_send_28 rfl (lv_at hl 1 rfl) ?_
  refine gf_C_0_out hC hK hw d_PT_send_29 ?_
  refine lv_iload_n hx hb d_PT_send_32 rfl (lv_at hl 2 rfl) ?_
  refine fx_sVv (As := [.int x1]) hC hl.1 (fun q hq => c_Row_put_3 l D ad cI cZ cT v q2 x1 q hq) fy_Row_put fv_Row_put kw_275 ⟨Nat.le_of_ble_eq_true rfl, Nat.le_of_ble_eq_true rfl⟩ rfl hK hA hw at_C_3 rfl rfl rfl (Nat.le_of_ble_eq_true rfl) d_PT_send_33 ⟨Nat.le_refl _, Nat.le_refl _⟩ h (fun H locs q4 h hw => ?_)
  refine lv_aload_n hx hb d_PT_send_36 rfl (lv_at hl 1 rfl) ?_
  refine gf_C_0_out hC hK hw d_PT_send_37 ?_
  refine lv_iload_n hx hb d_PT_send_40 rfl (lv_at hl 3 rfl) ?_
  refine fx_sVv (As := [.int x2]) hC hl.1 (fun q hq => c_Row_put_3 l D ad cI cZ cT v q4 x2 q hq) fy_Row_put fv_Row_put kw_275 ⟨Nat.le_of_ble_eq_true rfl, Nat.le_of_ble_eq_true rfl⟩ rfl hK hA hw at_C_3 rfl rfl rfl (Nat.le_of_ble_eq_true rfl) d_PT_send_41 ⟨Nat.le_refl _, Nat.le_refl _⟩ h (fun H locs q5 h hw => ?_)
  refine lv_aload_n hx hb d_PT_send_44 rfl (lv_at hl 1 rfl) ?_
  refine gf_C_0_out hC hK hw d_PT_send_45 ?_
  refine lv_aload_n hx hb d_PT_send_48 rfl (lv_at hl 1 rfl) ?_
  refine gf_C_0_own hC hK hw d_PT_send_49 ?_
  refine fx_sVv (As := [.int (q5.1 0)]) hC hl.1 (fun q hq => c_Row_put_3 l D ad cI cZ cT v q5 (q5.1 0) q hq) fy_Row_put fv_Row_put kw_275 ⟨Nat.le_of_ble_eq_true rfl, Nat.le_of_ble_eq_true rfl⟩ rfl hK hA hw at_C_3 rfl rfl rfl (Nat.le_of_ble_eq_true rfl) d_PT_send_52 ⟨Nat.le_refl _, Nat.le_refl _⟩ h (fun H locs q6 h hw => ?_)
  refine lv_aload_n hx hb d_PT_send_55 rfl (lv_at hl 1 rfl) ?_
  refine gf_C_0_out hC hK hw d_PT_send_56 ?_
  refine lv_aload_n hx hb d_PT_send_59 rfl (lv_at hl 4 rfl) ?_
  refine fx_sVr (As := []) hC hl.1 (fun q hq => c_Row_size_7 l D ad cI cZ cT v q6 q hq) fy_Row_size fv_Row_size kw_276 ⟨Nat.le_of_ble_eq_true rfl, Nat.le_of_ble_eq_true rfl⟩ rfl hK hA hw at_C_7 rfl rfl rfl (Nat.le_of_ble_eq_true rfl) d_PT_send_60 ⟨Nat.le_refl _, Nat.le_refl _⟩ h (fun H locs q7 h hw => ?_)
  refine lv_sipush (v := 256) hx hb d_PT_send_63 (by decide) ?_
  refine lv_idiv hx hb d_PT_send_66 (by decide) ?_
  refine fx_sVv (As := [.int (q7 / 256)]) hC hl.1 (fun q hq => c_Row_put_3 l D ad cI cZ cT v q6 (q7 / 256) q hq) fy_Row_put fv_Row_put kw_275 ⟨Nat.le_of_ble_eq_true rfl, Nat.le_of_ble_eq_true rfl⟩ rfl hK hA hw at_C_3 rfl rfl rfl (Nat.le_of_ble_eq_true rfl) d_PT_send_67 ⟨Nat.le_refl _, Nat.le_refl _⟩ h (fun H locs q8 h hw => ?_)
  refine lv_aload_n hx hb d_PT_send_70 rfl (lv_at hl 1 rfl) ?_
  refine gf_C_0_out hC hK hw d_PT_send_71 ?_
  refine lv_aload_n hx hb d_PT_send_74 rfl (lv_at hl 4 rfl) ?_
  refine fx_sVr (As := []) hC hl.1 (fun q hq => c_Row_size_7 l D ad cI cZ cT v q8 q hq) fy_Row_size fv_Row_size kw_276 ⟨Nat.le_of_ble_eq_true rfl, Nat.le_of_ble_eq_true rfl⟩ rfl hK hA hw at_C_7 rfl rfl rfl (Nat.le_of_ble_eq_true rfl) d_PT_send_75 ⟨Nat.le_refl _, Nat.le_refl _⟩ h (fun H locs q9 h hw => ?_)
  refine lv_sipush (v := 256) hx hb d_PT_send_78 (by decide) ?_
  refine lv_irem hx hb d_PT_send_81 (by decide) ?_
  refine fx_sVv (As := [.int (q9 - q9 / 256 * 256)]) hC hl.1 (fun q hq => c_Row_put_3 l D ad cI cZ cT v q8 (q9 - q9 / 256 * 256) q hq) fy_Row_put fv_Row_put kw_275 ⟨Nat.le_of_ble_eq_true rfl, Nat.le_of_ble_eq_true rfl⟩ rfl hK hA hw at_C_3 rfl rfl rfl (Nat.le_of_ble_eq_true rfl) d_PT_send_82 ⟨Nat.le_refl _, Nat.le_refl _⟩ h (fun H locs q10 h hw => ?_)
  refine lv_aload_n hx hb d_PT_send_85 rfl (lv_at hl 1 rfl) ?_
  refine gf_C_0_out hC hK hw d_PT_send_86 ?_
  refine lv_aload_n hx hb d_PT_send_89 rfl (lv_at hl 1 rfl) ?_
  refine gf_C_0_out hC hK hw d_PT_send_90 ?_
  refine lv_iload hx hb d_PT_send_93 (lv_at hl 0 rfl) ?_
  refine fx_sSr (As := [.ref (ad 3), .int q3]) hC hl.1 (fun q hq => c_Chk_ofHeader_3 l D ad cI cZ cT v q10 q3 q hq) fy_Chk_ofHeader fs_Chk_ofHeader kw_277 ⟨Nat.le_of_ble_eq_true rfl, Nat.le_of_ble_eq_true rfl⟩ rfl hK hA hw rfl (Nat.le_of_ble_eq_true rfl) d_PT_send_95 ⟨Nat.le_refl _, Nat.le_refl _⟩ h (fun H locs q11 h hw => ?_)
  refine fx_sVv (As := [.int q11]) hC hl.1 (fun q hq => c_Row_put_3 l D ad cI cZ cT v q10 q11 q hq) fy_Row_put fv_Row_put kw_275 ⟨Nat.le_of_ble_eq_true rfl, Nat.le_of_ble_eq_true rfl⟩ rfl hK hA hw at_C_3 rfl rfl rfl (Nat.le_of_ble_eq_true rfl) d_PT_send_98 ⟨Nat.le_refl _, Nat.le_refl _⟩ h (fun H locs q12 h hw => ?_)
  refine lv_aload_n hx hb d_PT_send_101 rfl (lv_at hl 4 rfl) ?_
  refine fx_sVr (As := []) hC hl.1 (fun q hq => c_Row_size_7 l D ad cI cZ cT v q12 q hq) fy_Row_size fv_Row_size kw_276 ⟨Nat.le_of_ble_eq_true rfl, Nat.le_of_ble_eq_true rfl⟩ rfl hK hA hw at_C_7 rfl rfl rfl (Nat.le_of_ble_eq_true rfl) d_PT_send_102 ⟨Nat.le_refl _, Nat.le_refl _⟩ h (fun H locs q13 h hw => ?_)
  refine lv_if_le (tgt := 148) hx hb d_PT_send_105 rfl (fun c14 => ?_) (fun c14 => ?_)
  · have h := br1 c14 h
    refine lv_aload_n hx hb d_PT_send_148 rfl (lv_at hl 1 rfl) ?_
    refine lv_iconst (v := 0) hx hb d_PT_send_149 (by decide) ?_
    refine pf_C_0_stillness hC hK hw d_PT_send_150 h (fun H locs u15 h hw => ?_)
    exact fx_retv hC hr hK hw h d_PT_send_153
  · have h := br0 c14 h
    refine lv_aload_n hx hb d_PT_send_108 rfl (lv_at hl 1 rfl) ?_
    refine gf_C_0_out hC hK hw d_PT_send_109 ?_
    refine lv_aload_n hx hb d_PT_send_112 rfl (lv_at hl 4 rfl) ?_
    refine fx_sVv (As := [.ref (ad 7)]) hC hl.1 (fun q hq => c_Row_putAll_3_7 l D ad cI cZ cT v q12 q hq) fy_Row_putAll fv_Row_putAll kw_282 ⟨Nat.le_of_ble_eq_true rfl, Nat.le_of_ble_eq_true rfl⟩ rfl hK hA hw at_C_3 rfl rfl rfl (Nat.le_of_ble_eq_true rfl) d_PT_send_113 ⟨Nat.le_refl _, Nat.le_refl _⟩ h (fun H locs q16 h hw => ?_)
    refine lv_aload_n hx hb d_PT_send_116 rfl (lv_at hl 4 rfl) ?_
    refine fx_sSr (As := [.ref (ad 7)]) hC hl.1 (fun q hq => c_Chk_ofData_7 l D ad cI cZ cT v q16 q hq) fy_Chk_ofData fs_Chk_ofData kw_287 ⟨Nat.le_of_ble_eq_true rfl, Nat.le_of_ble_eq_true rfl⟩ rfl hK hA hw rfl (Nat.le_of_ble_eq_true rfl) d_PT_send_117 ⟨Nat.le_refl _, Nat.le_refl _⟩ h (fun H locs q17 h hw => ?_)
    refine lv_istore (lv' := [(5, .int q17), (4, .int q3), (0, .ref (ad 0)), (1, .int x1), (2, .int x2), (3, .ref (ad 7))]) hx hb d_PT_send_120 hl (by decide) rfl (fun ls hl => ?_)
    refine lv_aload_n hx hb d_PT_send_122 rfl (lv_at hl 2 rfl) ?_
    refine gf_C_0_out hC hK hw d_PT_send_123 ?_
    refine lv_iload hx hb d_PT_send_126 (lv_at hl 0 rfl) ?_
    refine lv_sipush (v := 256) hx hb d_PT_send_128 (by decide) ?_
    refine lv_irem hx hb d_PT_send_131 (by decide) ?_
    refine fx_sVv (As := [.int (q17 - q17 / 256 * 256)]) hC hl.1 (fun q hq => c_Row_put_3 l D ad cI cZ cT v q16 (q17 - q17 / 256 * 256) q hq) fy_Row_put fv_Row_put kw_275 ⟨Nat.le_of_ble_eq_true rfl, Nat.le_of_ble_eq_true rfl⟩ rfl hK hA hw at_C_3 rfl rfl rfl (Nat.le_of_ble_eq_true rfl) d_PT_send_132 ⟨Nat.le_refl _, Nat.le_refl _⟩ h (fun H locs q18 h hw => ?_)
    refine lv_aload_n hx hb d_PT_send_135 rfl (lv_at hl 2 rfl) ?_
    refine gf_C_0_out hC hK hw d_PT_send_136 ?_
    refine lv_iload hx hb d_PT_send_139 (lv_at hl 0 rfl) ?_
    refine lv_sipush (v := 256) hx hb d_PT_send_141 (by decide) ?_
    refine lv_idiv hx hb d_PT_send_144 (by decide) ?_
    refine fx_sVv (As := [.int (q17 / 256)]) hC hl.1 (fun q hq => c_Row_put_3 l D ad cI cZ cT v q18 (q17 / 256) q hq) fy_Row_put fv_Row_put kw_275 ⟨Nat.le_of_ble_eq_true rfl, Nat.le_of_ble_eq_true rfl⟩ rfl hK hA hw at_C_3 rfl rfl rfl (Nat.le_of_ble_eq_true rfl) d_PT_send_145 ⟨Nat.le_refl _, Nat.le_refl _⟩ h (fun H locs q19 h hw => ?_)
    refine lv_aload_n hx hb d_PT_send_148 rfl (lv_at hl 2 rfl) ?_
    refine lv_iconst (v := 0) hx hb d_PT_send_149 (by decide) ?_
    refine pf_C_0_stillness hC hK hw d_PT_send_150 h (fun H locs u20 h hw => ?_)
    exact fx_retv hC hr hK hw h d_PT_send_153
def f_PT_useLine (u : ST)  : Option (Int32 × ST) :=
  if (u.1 11) = 0 then
    k_let (ss u 2 3) fun u2 =>
    some (1, u2)
  else
  k_bd (f_PT_send_7 u 5 (u.1 10)) fun q3 =>
  k_let (ss q3 11 0) fun u4 =>
  k_let (ss u4 2 2) fun u5 =>
  some (1, u5)
set_option maxHeartbeats 4000000 in
set_option maxRecDepth 100000 in
theorem c_PT_useLine (l : Launch) (D : va_G) (ad : Nat → Nat) (cI cZ cT : ClassId) (v u : ST) (q : Int32 × ST) (h : f_PT_useLine u = some q) : MX l D (tyC cI cZ cT) (wC ad cI cZ cT v) y_PT_useLine cd_PT_useLine 3 72 [.ref (ad 0)] u (some (.int q.1)) q.2 := by
  refine MX.start (by decide) (Nat.le_of_ble_eq_true rfl) ?_
  intro p e s m below meth c ls A hC hr hl hK hA hw
  have ⟨hx, hb, hml, hown, hT, hlk⟩ := hC
  have hl : lv_has ls 1 [(0, .ref (ad 0))] := hl
  rw [f_PT_useLine] at h
  refine lv_aload_n hx hb d_PT_useLine_0 rfl (lv_at hl 0 rfl) ?_
  refine gf_C_0_requestWaits hC hK hw d_PT_useLine_1 ?_
  refine lv_if_eq (tgt := 33) hx hb d_PT_useLine_4 rfl (fun c1 => ?_) (fun c1 => ?_)
  · have h := br1 c1 h
    refine lv_aload_n hx hb d_PT_useLine_33 rfl (lv_at hl 0 rfl) ?_
    refine lv_iconst (v := 3) hx hb d_PT_useLine_34 (by decide) ?_
    refine pf_C_0_mode hC hK hw d_PT_useLine_35 h (fun H locs u2 h hw => ?_)
    refine lv_iconst (v := 1) hx hb d_PT_useLine_38 (by decide) ?_
    exact fx_retw hC hr (by decide) hK hw h d_PT_useLine_39
  · have h := br0 c1 h
    refine lv_aload_n hx hb d_PT_useLine_7 rfl (lv_at hl 0 rfl) ?_
    refine lv_iconst (v := 5) hx hb d_PT_useLine_8 (by decide) ?_
    refine lv_aload_n hx hb d_PT_useLine_9 rfl (lv_at hl 0 rfl) ?_
    refine gf_C_0_requestTo hC hK hw d_PT_useLine_10 ?_
    refine lv_aload_n hx hb d_PT_useLine_13 rfl (lv_at hl 0 rfl) ?_
    refine gf_C_0_request hC hK hw d_PT_useLine_14 ?_
    refine fx_sVv (As := [.int 5, .int (u.1 10), .ref (ad 7)]) hC hl.1 (fun q hq => c_PT_send_7 l D ad cI cZ cT v u 5 (u.1 10) q hq) fy_PT_send fv_PT_send kw_271 ⟨Nat.le_of_ble_eq_true rfl, Nat.le_of_ble_eq_true rfl⟩ rfl hK hA hw at_C_0 rfl rfl rfl (Nat.le_of_ble_eq_true rfl) d_PT_useLine_17 ⟨Nat.le_refl _, Nat.le_refl _⟩ h (fun H locs q3 h hw => ?_)
    refine lv_aload_n hx hb d_PT_useLine_20 rfl (lv_at hl 0 rfl) ?_
    refine lv_iconst (v := 0) hx hb d_PT_useLine_21 (by decide) ?_
    refine pf_C_0_requestWaits hC hK hw (by decide) d_PT_useLine_22 h (fun H locs u4 h hw => ?_)
    refine lv_aload_n hx hb d_PT_useLine_25 rfl (lv_at hl 0 rfl) ?_
    refine lv_iconst (v := 2) hx hb d_PT_useLine_26 (by decide) ?_
    refine pf_C_0_mode hC hK hw d_PT_useLine_27 h (fun H locs u5 h hw => ?_)
    refine lv_goto (tgt := 38) hx hb d_PT_useLine_30 rfl ?_
    refine lv_iconst (v := 1) hx hb d_PT_useLine_38 (by decide) ?_
    exact fx_retw hC hr (by decide) hK hw h d_PT_useLine_39
def f_Row_clear_9 (u : ST)  : Option (ST) :=
  k_let (ss u 28 0) fun u1 =>
  some u1
set_option maxHeartbeats 4000000 in
set_option maxRecDepth 100000 in
theorem c_Row_clear_9 (l : Launch) (D : va_G) (ad : Nat → Nat) (cI cZ cT : ClassId) (v u : ST) (q : ST) (h : f_Row_clear_9 u = some q) : MX l D (tyC cI cZ cT) (wC ad cI cZ cT v) y_Row_clear cd_Row_clear 0 0 [.ref (ad 9)] u none q := by
  refine MX.start (by decide) (Nat.le_of_ble_eq_true rfl) ?_
  intro p e s m below meth c ls A hC hr hl hK hA hw
  have ⟨hx, hb, hml, hown, hT, hlk⟩ := hC
  have hl : lv_has ls 1 [(0, .ref (ad 9))] := hl
  rw [f_Row_clear_9] at h
  refine lv_aload_n hx hb d_Row_clear_0 rfl (lv_at hl 0 rfl) ?_
  refine lv_iconst (v := 0) hx hb d_Row_clear_1 (by decide) ?_
  refine pf_C_9_count hC hK hw d_Row_clear_2 h (fun H locs u1 h hw => ?_)
  exact fx_retv hC hr hK hw h d_Row_clear_5
def f_Row_put_9 (u : ST) (x1 : Int32) : Option (ST) :=
  if 40 ≤ (u.1 28) then
    some u
  else
  k_gd (inb (u.1 28) 40) (
  k_let (rs u 3 (u.1 28).toNatClampNeg x1) fun u2 =>
  k_let (ss u2 28 ((u2.1 28) + 1)) fun u3 =>
  some u3)
set_option maxHeartbeats 4000000 in
set_option maxRecDepth 100000 in
theorem c_Row_put_9 (l : Launch) (D : va_G) (ad : Nat → Nat) (cI cZ cT : ClassId) (v u : ST) (x1 : Int32) (q : ST) (h : f_Row_put_9 u x1 = some q) : MX l D (tyC cI cZ cT) (wC ad cI cZ cT v) y_Row_put cd_Row_put 0 0 [.ref (ad 9), .int x1] u none q := by
  refine MX.start (by decide) (Nat.le_of_ble_eq_true rfl) ?_
  intro p e s m below meth c ls A hC hr hl hK hA hw
  have ⟨hx, hb, hml, hown, hT, hlk⟩ := hC
  have hl : lv_has ls 2 [(0, .ref (ad 9)), (1, .int x1)] := hl
  rw [f_Row_put_9] at h
  refine lv_aload_n hx hb d_Row_put_0 rfl (lv_at hl 0 rfl) ?_
  refine gf_C_9_count hC hK hw d_Row_put_1 ?_
  refine lv_aload_n hx hb d_Row_put_4 rfl (lv_at hl 0 rfl) ?_
  refine gf_C_9_bytes hC hK hw d_Row_put_5 ?_
  refine ln_C_10 hC hK hw d_Row_put_8 ?_
  refine lv_icmp_ge (tgt := 32) hx hb d_Row_put_9 rfl (fun c1 => ?_) (fun c1 => ?_)
  · have h := br1 c1 h
    exact fx_retv hC hr hK hw h d_Row_put_32
  · have h := br0 c1 h
    refine lv_aload_n hx hb d_Row_put_12 rfl (lv_at hl 0 rfl) ?_
    refine gf_C_9_bytes hC hK hw d_Row_put_13 ?_
    refine lv_aload_n hx hb d_Row_put_16 rfl (lv_at hl 0 rfl) ?_
    refine gf_C_9_count hC hK hw d_Row_put_17 ?_
    refine lv_iload_n hx hb d_Row_put_20 rfl (lv_at hl 1 rfl) ?_
    refine as_C_10 hC hK hw d_Row_put_21 h (fun H locs u2 h hw => ?_)
    refine lv_aload_n hx hb d_Row_put_22 rfl (lv_at hl 0 rfl) ?_
    refine lv_dup hx hb d_Row_put_23 rfl ?_
    refine gf_C_9_count hC hK hw d_Row_put_24 ?_
    refine lv_iconst (v := 1) hx hb d_Row_put_27 (by decide) ?_
    refine lv_iadd hx hb d_Row_put_28 ?_
    refine pf_C_9_count hC hK hw d_Row_put_29 h (fun H locs u3 h hw => ?_)
    exact fx_retv hC hr hK hw h d_Row_put_32
def f_Row_putAll_9_13_L2 : Nat → ST → Int32 → Option (ST)
  | 0, _, _ => none
  | k_ + 1, u, y2 =>
    if (u.1 30) ≤ y2 then
      some u
    else
    k_gd (inb y2 40) (
    k_bd (f_Row_put_9 u (u.2 5 y2.toNatClampNeg)) fun q2 =>
    f_Row_putAll_9_13_L2 k_ q2 (y2 + 1))
def f_Row_putAll_9_13 (u : ST)  : Option (ST) :=
  f_Row_putAll_9_13_L2 200 u 0
set_option maxHeartbeats 4000000 in
set_option maxRecDepth 100000 in
theorem c_Row_putAll_9_13 (l : Launch) (D : va_G) (ad : Nat → Nat) (cI cZ cT : ClassId) (v u : ST) (q : ST) (h : f_Row_putAll_9_13 u = some q) : MX l D (tyC cI cZ cT) (wC ad cI cZ cT v) y_Row_putAll cd_Row_putAll 1 21 [.ref (ad 9), .ref (ad 13)] u none q := by
  refine MX.start (by decide) (Nat.le_of_ble_eq_true rfl) ?_
  intro p e s m below meth c ls A hC hr hl hK hA hw
  have ⟨hx, hb, hml, hown, hT, hlk⟩ := hC
  have hl : lv_has ls 3 [(0, .ref (ad 9)), (1, .ref (ad 13))] := hl
  have L2 : ∀ (k_ : Nat) (u : ST) (y2 : Int32) (ls : Array Slot) (H : Heap) (locs : List Loc), f_Row_putAll_9_13_L2 k_ u y2 = some q → lv_has ls 3 [(0, .ref (ad 9)), (1, .ref (ad 13)), (2, .int y2)] → fw D A s.heap (wC ad cI cZ cT v u) H locs → WX (wC ad cI cZ cT v) p l e 1 21 s m [.ref (ad 9), .ref (ad 13)] below meth c A D (tyC cI cZ cT) none q H locs (F0 m 2 ls []) := by
    intro k_
    induction k_ with
    | zero =>
      intro u y2 ls H locs h hl hw
      cases h
    | succ k_ ih =>
      intro u y2 ls H locs h hl hw
      rw [f_Row_putAll_9_13_L2] at h
      refine lv_iload_n hx hb d_Row_putAll_2 rfl (lv_at hl 2 rfl) ?_
      refine lv_aload_n hx hb d_Row_putAll_3 rfl (lv_at hl 1 rfl) ?_
      refine gf_C_13_count hC hK hw d_Row_putAll_4 ?_
      refine lv_icmp_ge (tgt := 26) hx hb d_Row_putAll_7 rfl (fun c1 => ?_) (fun c1 => ?_)
      · have h := br1 c1 h
        exact fx_retv hC hr hK hw h d_Row_putAll_26
      · have h := br0 c1 h
        refine lv_aload_n hx hb d_Row_putAll_10 rfl (lv_at hl 0 rfl) ?_
        refine lv_aload_n hx hb d_Row_putAll_11 rfl (lv_at hl 1 rfl) ?_
        refine gf_C_13_bytes hC hK hw d_Row_putAll_12 ?_
        refine lv_iload_n hx hb d_Row_putAll_15 rfl (lv_at hl 2 rfl) ?_
        refine al_C_14 hC hK hw d_Row_putAll_16 h (fun h => ?_)
        refine fx_sVv (As := [.int (u.2 5 y2.toNatClampNeg)]) hC hl.1 (fun q hq => c_Row_put_9 l D ad cI cZ cT v u (u.2 5 y2.toNatClampNeg) q hq) fy_Row_put fv_Row_put kw_286 ⟨Nat.le_of_ble_eq_true rfl, Nat.le_of_ble_eq_true rfl⟩ rfl hK hA hw at_C_9 rfl rfl rfl (Nat.le_of_ble_eq_true rfl) d_Row_putAll_17 ⟨Nat.le_refl _, Nat.le_refl _⟩ h (fun H locs q2 h hw => ?_)
        refine lv_iinc (k := 2) (v := (y2 + 1)) (lv' := [(2, .int (y2 + 1)), (0, .ref (ad 9)), (1, .ref (ad 13))]) hx hb d_Row_putAll_20 hl rfl rfl (by decide) rfl (fun ls hl => ?_)
        refine lv_goto (tgt := 2) hx hb d_Row_putAll_23 rfl ?_
        exact ih _ _ _ _ _ h (lv_sub hl [1, 2, 0] rfl) hw
  rw [f_Row_putAll_9_13] at h
  refine lv_iconst (v := 0) hx hb d_Row_putAll_0 (by decide) ?_
  refine lv_istore_n (lv' := [(2, .int 0), (0, .ref (ad 9)), (1, .ref (ad 13))]) hx hb d_Row_putAll_1 rfl hl (by decide) rfl (fun ls hl => ?_)
  exact L2 _ _ _ _ _ _ h (lv_sub hl [1, 2, 0] rfl) hw
def f_PT_endsWaiting (u : ST)  : Option (Int32 × ST) :=
  k_bd (f_Ear_to u) fun q1 =>
  if q1 = (u.1 0) then
    k_bd (f_Ear_type u) fun q3 =>
    if q3 = 6 then
      k_bd (f_Row_clear_9 u) fun q9 =>
      k_bd (f_Ear_data q9) fun q10 =>
      k_bd (f_Row_putAll_9_13 q10) fun q11 =>
      some (1, q11)
    else
    k_bd (f_Ear_type u) fun q5 =>
    if q5 = 4 then
      some (1, u)
    else
    k_bd (f_Ear_type u) fun q7 =>
    if q7 = 7 then
      some (1, u)
    else
    some (0, u)
  else
  some (0, u)
set_option maxHeartbeats 4000000 in
set_option maxRecDepth 100000 in
theorem c_PT_endsWaiting (l : Launch) (D : va_G) (ad : Nat → Nat) (cI cZ cT : ClassId) (v u : ST) (q : Int32 × ST) (h : f_PT_endsWaiting u = some q) : MX l D (tyC cI cZ cT) (wC ad cI cZ cT v) y_PT_endsWaiting cd_PT_endsWaiting 2 43 [.ref (ad 0)] u (some (.int q.1)) q.2 := by
  refine MX.start (by decide) (Nat.le_of_ble_eq_true rfl) ?_
  intro p e s m below meth c ls A hC hr hl hK hA hw
  have ⟨hx, hb, hml, hown, hT, hlk⟩ := hC
  have hl : lv_has ls 1 [(0, .ref (ad 0))] := hl
  rw [f_PT_endsWaiting] at h
  refine lv_aload_n hx hb d_PT_endsWaiting_0 rfl (lv_at hl 0 rfl) ?_
  refine gf_C_0_ear hC hK hw d_PT_endsWaiting_1 ?_
  refine fx_sVr (As := []) hC hl.1 (fun q hq => c_Ear_to l D ad cI cZ cT v u q hq) fy_Ear_to fv_Ear_to kw_262 ⟨Nat.le_of_ble_eq_true rfl, Nat.le_of_ble_eq_true rfl⟩ rfl hK hA hw at_C_1 rfl rfl rfl (Nat.le_of_ble_eq_true rfl) d_PT_endsWaiting_4 ⟨Nat.le_refl _, Nat.le_refl _⟩ h (fun H locs q1 h hw => ?_)
  refine lv_aload_n hx hb d_PT_endsWaiting_7 rfl (lv_at hl 0 rfl) ?_
  refine gf_C_0_own hC hK hw d_PT_endsWaiting_8 ?_
  refine lv_icmp_eq (tgt := 16) hx hb d_PT_endsWaiting_11 rfl (fun c2 => ?_) (fun c2 => ?_)
  · have h := br1 c2 h
    refine lv_aload_n hx hb d_PT_endsWaiting_16 rfl (lv_at hl 0 rfl) ?_
    refine gf_C_0_ear hC hK hw d_PT_endsWaiting_17 ?_
    refine fx_sVr (As := []) hC hl.1 (fun q hq => c_Ear_type l D ad cI cZ cT v u q hq) fy_Ear_type fv_Ear_type kw_263 ⟨Nat.le_of_ble_eq_true rfl, Nat.le_of_ble_eq_true rfl⟩ rfl hK hA hw at_C_1 rfl rfl rfl (Nat.le_of_ble_eq_true rfl) d_PT_endsWaiting_20 ⟨Nat.le_refl _, Nat.le_refl _⟩ h (fun H locs q3 h hw => ?_)
    refine lv_bipush (v := 6) hx hb d_PT_endsWaiting_23 (by decide) ?_
    refine lv_icmp_ne (tgt := 51) hx hb d_PT_endsWaiting_25 rfl (fun c4 => ?_) (fun c4 => ?_)
    · have h := br0 c4 h
      refine lv_aload_n hx hb d_PT_endsWaiting_51 rfl (lv_at hl 0 rfl) ?_
      refine gf_C_0_ear hC hK hw d_PT_endsWaiting_52 ?_
      refine fx_sVr (As := []) hC hl.1 (fun q hq => c_Ear_type l D ad cI cZ cT v u q hq) fy_Ear_type fv_Ear_type kw_263 ⟨Nat.le_of_ble_eq_true rfl, Nat.le_of_ble_eq_true rfl⟩ rfl hK hA hw at_C_1 rfl rfl rfl (Nat.le_of_ble_eq_true rfl) d_PT_endsWaiting_55 ⟨Nat.le_refl _, Nat.le_refl _⟩ h (fun H locs q5 h hw => ?_)
      refine lv_iconst (v := 4) hx hb d_PT_endsWaiting_58 (by decide) ?_
      refine lv_icmp_eq (tgt := 74) hx hb d_PT_endsWaiting_59 rfl (fun c6 => ?_) (fun c6 => ?_)
      · have h := br1 c6 h
        refine lv_iconst (v := 1) hx hb d_PT_endsWaiting_74 (by decide) ?_
        refine lv_goto (tgt := 79) hx hb d_PT_endsWaiting_75 rfl ?_
        exact fx_retw hC hr (by decide) hK hw h d_PT_endsWaiting_79
      · have h := br0 c6 h
        refine lv_aload_n hx hb d_PT_endsWaiting_62 rfl (lv_at hl 0 rfl) ?_
        refine gf_C_0_ear hC hK hw d_PT_endsWaiting_63 ?_
        refine fx_sVr (As := []) hC hl.1 (fun q hq => c_Ear_type l D ad cI cZ cT v u q hq) fy_Ear_type fv_Ear_type kw_263 ⟨Nat.le_of_ble_eq_true rfl, Nat.le_of_ble_eq_true rfl⟩ rfl hK hA hw at_C_1 rfl rfl rfl (Nat.le_of_ble_eq_true rfl) d_PT_endsWaiting_66 ⟨Nat.le_refl _, Nat.le_refl _⟩ h (fun H locs q7 h hw => ?_)
        refine lv_bipush (v := 7) hx hb d_PT_endsWaiting_69 (by decide) ?_
        refine lv_icmp_ne (tgt := 78) hx hb d_PT_endsWaiting_71 rfl (fun c8 => ?_) (fun c8 => ?_)
        · have h := br0 c8 h
          refine lv_iconst (v := 0) hx hb d_PT_endsWaiting_78 (by decide) ?_
          exact fx_retw hC hr (by decide) hK hw h d_PT_endsWaiting_79
        · have h := br1 c8 h
          refine lv_iconst (v := 1) hx hb d_PT_endsWaiting_74 (by decide) ?_
          refine lv_goto (tgt := 79) hx hb d_PT_endsWaiting_75 rfl ?_
          exact fx_retw hC hr (by decide) hK hw h d_PT_endsWaiting_79
    · have h := br1 c4 h
      refine lv_aload_n hx hb d_PT_endsWaiting_28 rfl (lv_at hl 0 rfl) ?_
      refine gf_C_0_latestReply hC hK hw d_PT_endsWaiting_29 ?_
      refine fx_sVv (As := []) hC hl.1 (fun q hq => c_Row_clear_9 l D ad cI cZ cT v u q hq) fy_Row_clear fv_Row_clear kw_196 ⟨Nat.le_of_ble_eq_true rfl, Nat.le_of_ble_eq_true rfl⟩ rfl hK hA hw at_C_9 rfl rfl rfl (Nat.le_of_ble_eq_true rfl) d_PT_endsWaiting_32 ⟨Nat.le_refl _, Nat.le_refl _⟩ h (fun H locs q9 h hw => ?_)
      refine lv_aload_n hx hb d_PT_endsWaiting_35 rfl (lv_at hl 0 rfl) ?_
      refine gf_C_0_latestReply hC hK hw d_PT_endsWaiting_36 ?_
      refine lv_aload_n hx hb d_PT_endsWaiting_39 rfl (lv_at hl 0 rfl) ?_
      refine gf_C_0_ear hC hK hw d_PT_endsWaiting_40 ?_
      refine fx_sVa (As := []) hC hl.1 (fun q hq => c_Ear_data l D ad cI cZ cT v q9 q hq) fy_Ear_data fv_Ear_data kw_293 ⟨Nat.le_of_ble_eq_true rfl, Nat.le_of_ble_eq_true rfl⟩ rfl hK hA hw at_C_1 rfl rfl rfl (Nat.le_of_ble_eq_true rfl) d_PT_endsWaiting_43 ⟨Nat.le_refl _, Nat.le_refl _⟩ h (fun H locs q10 h hw => ?_)
      refine fx_sVv (As := [.ref (ad 13)]) hC hl.1 (fun q hq => c_Row_putAll_9_13 l D ad cI cZ cT v q10 q hq) fy_Row_putAll fv_Row_putAll kw_282 ⟨Nat.le_of_ble_eq_true rfl, Nat.le_of_ble_eq_true rfl⟩ rfl hK hA hw at_C_9 rfl rfl rfl (Nat.le_of_ble_eq_true rfl) d_PT_endsWaiting_46 ⟨Nat.le_refl _, Nat.le_refl _⟩ h (fun H locs q11 h hw => ?_)
      refine lv_iconst (v := 1) hx hb d_PT_endsWaiting_49 (by decide) ?_
      exact fx_retw hC hr (by decide) hK hw h d_PT_endsWaiting_50
  · have h := br0 c2 h
    refine lv_iconst (v := 0) hx hb d_PT_endsWaiting_14 (by decide) ?_
    exact fx_retw hC hr (by decide) hK hw h d_PT_endsWaiting_15
def f_PT_waitLine (u : ST) (x1 : Int32) : Option (Int32 × ST) :=
  if x1 = 1 then
    k_bd (f_PT_endsWaiting u) fun q6 =>
    if q6.1 = 0 then
      k_let (ss q6.2 2 0) fun u8 =>
      some (1, u8)
    else
    k_let (ss q6.2 2 3) fun u9 =>
    some (1, u9)
  else
  if x1 = 2 then
    k_let (ss u 2 3) fun u3 =>
    some (1, u3)
  else
  if (u.1 9) < 255 then
    some (0, u)
  else
  k_let (ss u 2 3) fun u5 =>
  some (1, u5)
set_option maxHeartbeats 4000000 in
set_option maxRecDepth 100000 in
theorem c_PT_waitLine (l : Launch) (D : va_G) (ad : Nat → Nat) (cI cZ cT : ClassId) (v u : ST) (x1 : Int32) (q : Int32 × ST) (h : f_PT_waitLine u x1 = some q) : MX l D (tyC cI cZ cT) (wC ad cI cZ cT v) y_PT_waitLine cd_PT_waitLine 3 63 [.ref (ad 0), .int x1] u (some (.int q.1)) q.2 := by
  refine MX.start (by decide) (Nat.le_of_ble_eq_true rfl) ?_
  intro p e s m below meth c ls A hC hr hl hK hA hw
  have ⟨hx, hb, hml, hown, hT, hlk⟩ := hC
  have hl : lv_has ls 2 [(0, .ref (ad 0)), (1, .int x1)] := hl
  rw [f_PT_waitLine] at h
  refine lv_iload_n hx hb d_PT_waitLine_0 rfl (lv_at hl 1 rfl) ?_
  refine lv_iconst (v := 1) hx hb d_PT_waitLine_1 (by decide) ?_
  refine lv_icmp_ne (tgt := 23) hx hb d_PT_waitLine_2 rfl (fun c1 => ?_) (fun c1 => ?_)
  · have h := br0 c1 h
    refine lv_iload_n hx hb d_PT_waitLine_23 rfl (lv_at hl 1 rfl) ?_
    refine lv_iconst (v := 2) hx hb d_PT_waitLine_24 (by decide) ?_
    refine lv_icmp_eq (tgt := 38) hx hb d_PT_waitLine_25 rfl (fun c2 => ?_) (fun c2 => ?_)
    · have h := br1 c2 h
      refine lv_aload_n hx hb d_PT_waitLine_38 rfl (lv_at hl 0 rfl) ?_
      refine lv_iconst (v := 3) hx hb d_PT_waitLine_39 (by decide) ?_
      refine pf_C_0_mode hC hK hw d_PT_waitLine_40 h (fun H locs u3 h hw => ?_)
      refine lv_iconst (v := 1) hx hb d_PT_waitLine_43 (by decide) ?_
      exact fx_retw hC hr (by decide) hK hw h d_PT_waitLine_44
    · have h := br0 c2 h
      refine lv_aload_n hx hb d_PT_waitLine_28 rfl (lv_at hl 0 rfl) ?_
      refine gf_C_0_stillness hC hK hw d_PT_waitLine_29 ?_
      refine lv_sipush (v := 255) hx hb d_PT_waitLine_32 (by decide) ?_
      refine lv_icmp_lt (tgt := 45) hx hb d_PT_waitLine_35 rfl (fun c4 => ?_) (fun c4 => ?_)
      · have h := br1 c4 h
        refine lv_iconst (v := 0) hx hb d_PT_waitLine_45 (by decide) ?_
        exact fx_retw hC hr (by decide) hK hw h d_PT_waitLine_46
      · have h := br0 c4 h
        refine lv_aload_n hx hb d_PT_waitLine_38 rfl (lv_at hl 0 rfl) ?_
        refine lv_iconst (v := 3) hx hb d_PT_waitLine_39 (by decide) ?_
        refine pf_C_0_mode hC hK hw d_PT_waitLine_40 h (fun H locs u5 h hw => ?_)
        refine lv_iconst (v := 1) hx hb d_PT_waitLine_43 (by decide) ?_
        exact fx_retw hC hr (by decide) hK hw h d_PT_waitLine_44
  · have h := br1 c1 h
    refine lv_aload_n hx hb d_PT_waitLine_5 rfl (lv_at hl 0 rfl) ?_
    refine lv_aload_n hx hb d_PT_waitLine_6 rfl (lv_at hl 0 rfl) ?_
    refine fx_sVi (As := []) hC hl.1 (fun q hq => c_PT_endsWaiting l D ad cI cZ cT v u q hq) fy_PT_endsWaiting fv_PT_endsWaiting kw_413 ⟨Nat.le_of_ble_eq_true rfl, Nat.le_of_ble_eq_true rfl⟩ rfl hK hA hw at_C_0 rfl rfl rfl (Nat.le_of_ble_eq_true rfl) d_PT_waitLine_7 ⟨Nat.le_refl _, Nat.le_refl _⟩ h (fun H locs q6 h hw => ?_)
    refine lv_if_eq (tgt := 17) hx hb d_PT_waitLine_10 rfl (fun c7 => ?_) (fun c7 => ?_)
    · have h := br1 c7 h
      refine lv_iconst (v := 0) hx hb d_PT_waitLine_17 (by decide) ?_
      refine pf_C_0_mode hC hK hw d_PT_waitLine_18 h (fun H locs u8 h hw => ?_)
      refine lv_iconst (v := 1) hx hb d_PT_waitLine_21 (by decide) ?_
      exact fx_retw hC hr (by decide) hK hw h d_PT_waitLine_22
    · have h := br0 c7 h
      refine lv_iconst (v := 3) hx hb d_PT_waitLine_13 (by decide) ?_
      refine lv_goto (tgt := 18) hx hb d_PT_waitLine_14 rfl ?_
      refine pf_C_0_mode hC hK hw d_PT_waitLine_18 h (fun H locs u9 h hw => ?_)
      refine lv_iconst (v := 1) hx hb d_PT_waitLine_21 (by decide) ?_
      exact fx_retw hC hr (by decide) hK hw h d_PT_waitLine_22
def f_PT_behind (u : ST) (x1 : Int32) : Option (Int32) :=
  if x1 < (u.1 1) then
    some (x1 + 1)
  else
  some 0
set_option maxHeartbeats 4000000 in
set_option maxRecDepth 100000 in
theorem c_PT_behind (l : Launch) (D : va_G) (ad : Nat → Nat) (cI cZ cT : ClassId) (v u : ST) (x1 : Int32) (q : Int32) (h : f_PT_behind u x1 = some q) : MX l D (tyC cI cZ cT) (wC ad cI cZ cT v) y_PT_behind cd_PT_behind 0 0 [.ref (ad 0), .int x1] u (some (.int q)) u := by
  refine MX.start (by decide) (Nat.le_of_ble_eq_true rfl) ?_
  intro p e s m below meth c ls A hC hr hl hK hA hw
  have ⟨hx, hb, hml, hown, hT, hlk⟩ := hC
  have hl : lv_has ls 2 [(0, .ref (ad 0)), (1, .int x1)] := hl
  rw [f_PT_behind] at h
  refine lv_iload_n hx hb d_PT_behind_0 rfl (lv_at hl 1 rfl) ?_
  refine lv_aload_n hx hb d_PT_behind_1 rfl (lv_at hl 0 rfl) ?_
  refine gf_C_0_most hC hK hw d_PT_behind_2 ?_
  refine lv_icmp_lt (tgt := 12) hx hb d_PT_behind_5 rfl (fun c1 => ?_) (fun c1 => ?_)
  · have h := br1 c1 h
    refine lv_iload_n hx hb d_PT_behind_12 rfl (lv_at hl 1 rfl) ?_
    refine lv_iconst (v := 1) hx hb d_PT_behind_13 (by decide) ?_
    refine lv_iadd hx hb d_PT_behind_14 ?_
    exact fx_retr hC hr rfl hK hw h d_PT_behind_15
  · have h := br0 c1 h
    refine lv_iconst (v := 0) hx hb d_PT_behind_8 (by decide) ?_
    refine lv_goto (tgt := 15) hx hb d_PT_behind_9 rfl ?_
    exact fx_retr hC hr rfl hK hw h d_PT_behind_15
def f_PT_pass (u : ST) (x1 : Int32) : Option (ST) :=
  k_let (ss u 6 x1) fun u1 =>
  k_bd (f_PT_send_5 u1 0 (u1.1 3)) fun q2 =>
  k_let (ss q2 8 0) fun u3 =>
  k_let (ss u3 2 4) fun u4 =>
  some u4
set_option maxHeartbeats 4000000 in
set_option maxRecDepth 100000 in
theorem c_PT_pass (l : Launch) (D : va_G) (ad : Nat → Nat) (cI cZ cT : ClassId) (v u : ST) (x1 : Int32) (q : ST) (h : f_PT_pass u x1 = some q) : MX l D (tyC cI cZ cT) (wC ad cI cZ cT v) y_PT_pass cd_PT_pass 3 72 [.ref (ad 0), .int x1] u none q := by
  refine MX.start (by decide) (Nat.le_of_ble_eq_true rfl) ?_
  intro p e s m below meth c ls A hC hr hl hK hA hw
  have ⟨hx, hb, hml, hown, hT, hlk⟩ := hC
  have hl : lv_has ls 2 [(0, .ref (ad 0)), (1, .int x1)] := hl
  rw [f_PT_pass] at h
  refine lv_aload_n hx hb d_PT_pass_0 rfl (lv_at hl 0 rfl) ?_
  refine lv_iload_n hx hb d_PT_pass_1 rfl (lv_at hl 1 rfl) ?_
  refine pf_C_0_tries hC hK hw d_PT_pass_2 h (fun H locs u1 h hw => ?_)
  refine lv_aload_n hx hb d_PT_pass_5 rfl (lv_at hl 0 rfl) ?_
  refine lv_iconst (v := 0) hx hb d_PT_pass_6 (by decide) ?_
  refine lv_aload_n hx hb d_PT_pass_7 rfl (lv_at hl 0 rfl) ?_
  refine gf_C_0_next hC hK hw d_PT_pass_8 ?_
  refine lv_aload_n hx hb d_PT_pass_11 rfl (lv_at hl 0 rfl) ?_
  refine gf_C_0_noData hC hK hw d_PT_pass_12 ?_
  refine fx_sVv (As := [.int 0, .int (u1.1 3), .ref (ad 5)]) hC hl.1 (fun q hq => c_PT_send_5 l D ad cI cZ cT v u1 0 (u1.1 3) q hq) fy_PT_send fv_PT_send kw_271 ⟨Nat.le_of_ble_eq_true rfl, Nat.le_of_ble_eq_true rfl⟩ rfl hK hA hw at_C_0 rfl rfl rfl (Nat.le_of_ble_eq_true rfl) d_PT_pass_15 ⟨Nat.le_refl _, Nat.le_refl _⟩ h (fun H locs q2 h hw => ?_)
  refine lv_aload_n hx hb d_PT_pass_18 rfl (lv_at hl 0 rfl) ?_
  refine lv_iconst (v := 0) hx hb d_PT_pass_19 (by decide) ?_
  refine pf_C_0_events hC hK hw d_PT_pass_20 h (fun H locs u3 h hw => ?_)
  refine lv_aload_n hx hb d_PT_pass_23 rfl (lv_at hl 0 rfl) ?_
  refine lv_iconst (v := 4) hx hb d_PT_pass_24 (by decide) ?_
  refine pf_C_0_mode hC hK hw d_PT_pass_25 h (fun H locs u4 h hw => ?_)
  exact fx_retv hC hr hK hw h d_PT_pass_28
def f_PT_poll (u : ST) (x1 : Int32) : Option (ST) :=
  k_let (ss u 4 x1) fun u1 =>
  k_bd (f_PT_send_5 u1 1 x1) fun q2 =>
  k_let (ss q2 2 6) fun u3 =>
  some u3
set_option maxHeartbeats 4000000 in
set_option maxRecDepth 100000 in
theorem c_PT_poll (l : Launch) (D : va_G) (ad : Nat → Nat) (cI cZ cT : ClassId) (v u : ST) (x1 : Int32) (q : ST) (h : f_PT_poll u x1 = some q) : MX l D (tyC cI cZ cT) (wC ad cI cZ cT v) y_PT_poll cd_PT_poll 3 72 [.ref (ad 0), .int x1] u none q := by
  refine MX.start (by decide) (Nat.le_of_ble_eq_true rfl) ?_
  intro p e s m below meth c ls A hC hr hl hK hA hw
  have ⟨hx, hb, hml, hown, hT, hlk⟩ := hC
  have hl : lv_has ls 2 [(0, .ref (ad 0)), (1, .int x1)] := hl
  rw [f_PT_poll] at h
  refine lv_aload_n hx hb d_PT_poll_0 rfl (lv_at hl 0 rfl) ?_
  refine lv_iload_n hx hb d_PT_poll_1 rfl (lv_at hl 1 rfl) ?_
  refine pf_C_0_polled hC hK hw d_PT_poll_2 h (fun H locs u1 h hw => ?_)
  refine lv_aload_n hx hb d_PT_poll_5 rfl (lv_at hl 0 rfl) ?_
  refine lv_iconst (v := 1) hx hb d_PT_poll_6 (by decide) ?_
  refine lv_iload_n hx hb d_PT_poll_7 rfl (lv_at hl 1 rfl) ?_
  refine lv_aload_n hx hb d_PT_poll_8 rfl (lv_at hl 0 rfl) ?_
  refine gf_C_0_noData hC hK hw d_PT_poll_9 ?_
  refine fx_sVv (As := [.int 1, .int x1, .ref (ad 5)]) hC hl.1 (fun q hq => c_PT_send_5 l D ad cI cZ cT v u1 1 x1 q hq) fy_PT_send fv_PT_send kw_271 ⟨Nat.le_of_ble_eq_true rfl, Nat.le_of_ble_eq_true rfl⟩ rfl hK hA hw at_C_0 rfl rfl rfl (Nat.le_of_ble_eq_true rfl) d_PT_poll_12 ⟨Nat.le_refl _, Nat.le_refl _⟩ h (fun H locs q2 h hw => ?_)
  refine lv_aload_n hx hb d_PT_poll_15 rfl (lv_at hl 0 rfl) ?_
  refine lv_bipush (v := 6) hx hb d_PT_poll_16 (by decide) ?_
  refine pf_C_0_mode hC hK hw d_PT_poll_18 h (fun H locs u3 h hw => ?_)
  exact fx_retv hC hr hK hw h d_PT_poll_21
def f_PT_doneLine_J33 (u : ST)  : Option (Int32 × ST) :=
  if 3 ≤ (u.1 5) then
    k_bd (f_PT_behind u (u.1 4)) fun q3 =>
    if q3 = (u.1 3) then
      if (u.1 7) = 0 then
        k_let (ss u 4 (u.1 0)) fun u6 =>
        k_let (ss u6 5 1) fun u7 =>
        k_bd (f_PT_pass u7 0) fun q8 =>
        some (1, q8)
      else
      k_bd (f_PT_behind u (u.1 3)) fun q9 =>
      k_bd (f_PT_poll u q9) fun q10 =>
      k_let (ss q10 3 (q10.1 0)) fun u11 =>
      k_let (ss u11 5 1) fun u12 =>
      some (1, u12)
    else
    k_bd (f_PT_behind u (u.1 4)) fun q13 =>
    k_bd (f_PT_poll u q13) fun q14 =>
    some (1, q14)
  else
  k_let (ss u 5 ((u.1 5) + 1)) fun u15 =>
  if (u15.1 7) = 0 then
    k_bd (f_PT_pass u15 0) fun q17 =>
    some (1, q17)
  else
  k_let (ss u15 2 1) fun u18 =>
  some (1, u18)
def f_PT_doneLine (u : ST)  : Option (Int32 × ST) :=
  if (u.1 7) = 0 then
    if (u.1 3) = (u.1 0) then
      k_bd (f_PT_behind u (u.1 0)) fun q20 =>
      k_bd (f_PT_poll u q20) fun q21 =>
      some (1, q21)
    else
    f_PT_doneLine_J33 u
  else
  f_PT_doneLine_J33 u
set_option maxHeartbeats 4000000 in
set_option maxRecDepth 100000 in
theorem c_PT_doneLine (l : Launch) (D : va_G) (ad : Nat → Nat) (cI cZ cT : ClassId) (v u : ST) (q : Int32 × ST) (h : f_PT_doneLine u = some q) : MX l D (tyC cI cZ cT) (wC ad cI cZ cT v) y_PT_doneLine cd_PT_doneLine 4 93 [.ref (ad 0)] u (some (.int q.1)) q.2 := by
  refine MX.start (by decide) (Nat.le_of_ble_eq_true rfl) ?_
  intro p e s m below meth c ls A hC hr hl hK hA hw
  have ⟨hx, hb, hml, hown, hT, hlk⟩ := hC
  have hl : lv_has ls 1 [(0, .ref (ad 0))] := hl
  have J33 : ∀ (u : ST) (ls : Array Slot) (H : Heap) (locs : List Loc), f_PT_doneLine_J33 u = some q → lv_has ls 1 [(0, .ref (ad 0))] → fw D A s.heap (wC ad cI cZ cT v u) H locs → WX (wC ad cI cZ cT v) p l e 4 93 s m [.ref (ad 0)] below meth c A D (tyC cI cZ cT) (some (.int q.1)) q.2 H locs (F0 m 33 ls []) := by
    intro u ls H locs h hl hw
    rw [f_PT_doneLine_J33] at h
    refine lv_aload_n hx hb d_PT_doneLine_33 rfl (lv_at hl 0 rfl) ?_
    refine gf_C_0_tokens hC hK hw d_PT_doneLine_34 ?_
    refine lv_iconst (v := 3) hx hb d_PT_doneLine_37 (by decide) ?_
    refine lv_icmp_ge (tgt := 74) hx hb d_PT_doneLine_38 rfl (fun c2 => ?_) (fun c2 => ?_)
    · have h := br1 c2 h
      refine lv_aload_n hx hb d_PT_doneLine_74 rfl (lv_at hl 0 rfl) ?_
      refine lv_aload_n hx hb d_PT_doneLine_75 rfl (lv_at hl 0 rfl) ?_
      refine gf_C_0_polled hC hK hw d_PT_doneLine_76 ?_
      refine fx_sVr (As := [.int (u.1 4)]) hC hl.1 (fun q hq => c_PT_behind l D ad cI cZ cT v u (u.1 4) q hq) fy_PT_behind fv_PT_behind kw_421 ⟨Nat.le_of_ble_eq_true rfl, Nat.le_of_ble_eq_true rfl⟩ rfl hK hA hw at_C_0 rfl rfl rfl (Nat.le_of_ble_eq_true rfl) d_PT_doneLine_79 ⟨Nat.le_refl _, Nat.le_refl _⟩ h (fun H locs q3 h hw => ?_)
      refine lv_aload_n hx hb d_PT_doneLine_82 rfl (lv_at hl 0 rfl) ?_
      refine gf_C_0_next hC hK hw d_PT_doneLine_83 ?_
      refine lv_icmp_eq (tgt := 104) hx hb d_PT_doneLine_86 rfl (fun c4 => ?_) (fun c4 => ?_)
      · have h := br1 c4 h
        refine lv_aload_n hx hb d_PT_doneLine_104 rfl (lv_at hl 0 rfl) ?_
        refine gf_C_0_sole hC hK hw d_PT_doneLine_105 ?_
        refine lv_if_eq (tgt := 139) hx hb d_PT_doneLine_108 rfl (fun c5 => ?_) (fun c5 => ?_)
        · have h := br1 c5 h
          refine lv_aload_n hx hb d_PT_doneLine_139 rfl (lv_at hl 0 rfl) ?_
          refine lv_aload_n hx hb d_PT_doneLine_140 rfl (lv_at hl 0 rfl) ?_
          refine gf_C_0_own hC hK hw d_PT_doneLine_141 ?_
          refine pf_C_0_polled hC hK hw d_PT_doneLine_144 h (fun H locs u6 h hw => ?_)
          refine lv_aload_n hx hb d_PT_doneLine_147 rfl (lv_at hl 0 rfl) ?_
          refine lv_iconst (v := 1) hx hb d_PT_doneLine_148 (by decide) ?_
          refine pf_C_0_tokens hC hK hw d_PT_doneLine_149 h (fun H locs u7 h hw => ?_)
          refine lv_aload_n hx hb d_PT_doneLine_152 rfl (lv_at hl 0 rfl) ?_
          refine lv_iconst (v := 0) hx hb d_PT_doneLine_153 (by decide) ?_
          refine fx_sVv (As := [.int 0]) hC hl.1 (fun q hq => c_PT_pass l D ad cI cZ cT v u7 0 q hq) fy_PT_pass fv_PT_pass kw_429 ⟨Nat.le_of_ble_eq_true rfl, Nat.le_of_ble_eq_true rfl⟩ rfl hK hA hw at_C_0 rfl rfl rfl (Nat.le_of_ble_eq_true rfl) d_PT_doneLine_154 ⟨Nat.le_refl _, Nat.le_refl _⟩ h (fun H locs q8 h hw => ?_)
          refine lv_iconst (v := 1) hx hb d_PT_doneLine_157 (by decide) ?_
          exact fx_retw hC hr (by decide) hK hw h d_PT_doneLine_158
        · have h := br0 c5 h
          refine lv_aload_n hx hb d_PT_doneLine_111 rfl (lv_at hl 0 rfl) ?_
          refine lv_aload_n hx hb d_PT_doneLine_112 rfl (lv_at hl 0 rfl) ?_
          refine lv_aload_n hx hb d_PT_doneLine_113 rfl (lv_at hl 0 rfl) ?_
          refine gf_C_0_next hC hK hw d_PT_doneLine_114 ?_
          refine fx_sVr (As := [.int (u.1 3)]) hC hl.1 (fun q hq => c_PT_behind l D ad cI cZ cT v u (u.1 3) q hq) fy_PT_behind fv_PT_behind kw_421 ⟨Nat.le_of_ble_eq_true rfl, Nat.le_of_ble_eq_true rfl⟩ rfl hK hA hw at_C_0 rfl rfl rfl (Nat.le_of_ble_eq_true rfl) d_PT_doneLine_117 ⟨Nat.le_refl _, Nat.le_refl _⟩ h (fun H locs q9 h hw => ?_)
          refine fx_sVv (As := [.int q9]) hC hl.1 (fun q hq => c_PT_poll l D ad cI cZ cT v u q9 q hq) fy_PT_poll fv_PT_poll kw_425 ⟨Nat.le_of_ble_eq_true rfl, Nat.le_of_ble_eq_true rfl⟩ rfl hK hA hw at_C_0 rfl rfl rfl (Nat.le_of_ble_eq_true rfl) d_PT_doneLine_120 ⟨Nat.le_refl _, Nat.le_refl _⟩ h (fun H locs q10 h hw => ?_)
          refine lv_aload_n hx hb d_PT_doneLine_123 rfl (lv_at hl 0 rfl) ?_
          refine lv_aload_n hx hb d_PT_doneLine_124 rfl (lv_at hl 0 rfl) ?_
          refine gf_C_0_own hC hK hw d_PT_doneLine_125 ?_
          refine pf_C_0_next hC hK hw d_PT_doneLine_128 h (fun H locs u11 h hw => ?_)
          refine lv_aload_n hx hb d_PT_doneLine_131 rfl (lv_at hl 0 rfl) ?_
          refine lv_iconst (v := 1) hx hb d_PT_doneLine_132 (by decide) ?_
          refine pf_C_0_tokens hC hK hw d_PT_doneLine_133 h (fun H locs u12 h hw => ?_)
          refine lv_goto (tgt := 157) hx hb d_PT_doneLine_136 rfl ?_
          refine lv_iconst (v := 1) hx hb d_PT_doneLine_157 (by decide) ?_
          exact fx_retw hC hr (by decide) hK hw h d_PT_doneLine_158
      · have h := br0 c4 h
        refine lv_aload_n hx hb d_PT_doneLine_89 rfl (lv_at hl 0 rfl) ?_
        refine lv_aload_n hx hb d_PT_doneLine_90 rfl (lv_at hl 0 rfl) ?_
        refine lv_aload_n hx hb d_PT_doneLine_91 rfl (lv_at hl 0 rfl) ?_
        refine gf_C_0_polled hC hK hw d_PT_doneLine_92 ?_
        refine fx_sVr (As := [.int (u.1 4)]) hC hl.1 (fun q hq => c_PT_behind l D ad cI cZ cT v u (u.1 4) q hq) fy_PT_behind fv_PT_behind kw_421 ⟨Nat.le_of_ble_eq_true rfl, Nat.le_of_ble_eq_true rfl⟩ rfl hK hA hw at_C_0 rfl rfl rfl (Nat.le_of_ble_eq_true rfl) d_PT_doneLine_95 ⟨Nat.le_refl _, Nat.le_refl _⟩ h (fun H locs q13 h hw => ?_)
        refine fx_sVv (As := [.int q13]) hC hl.1 (fun q hq => c_PT_poll l D ad cI cZ cT v u q13 q hq) fy_PT_poll fv_PT_poll kw_425 ⟨Nat.le_of_ble_eq_true rfl, Nat.le_of_ble_eq_true rfl⟩ rfl hK hA hw at_C_0 rfl rfl rfl (Nat.le_of_ble_eq_true rfl) d_PT_doneLine_98 ⟨Nat.le_refl _, Nat.le_refl _⟩ h (fun H locs q14 h hw => ?_)
        refine lv_goto (tgt := 157) hx hb d_PT_doneLine_101 rfl ?_
        refine lv_iconst (v := 1) hx hb d_PT_doneLine_157 (by decide) ?_
        exact fx_retw hC hr (by decide) hK hw h d_PT_doneLine_158
    · have h := br0 c2 h
      refine lv_aload_n hx hb d_PT_doneLine_41 rfl (lv_at hl 0 rfl) ?_
      refine lv_dup hx hb d_PT_doneLine_42 rfl ?_
      refine gf_C_0_tokens hC hK hw d_PT_doneLine_43 ?_
      refine lv_iconst (v := 1) hx hb d_PT_doneLine_46 (by decide) ?_
      refine lv_iadd hx hb d_PT_doneLine_47 ?_
      refine pf_C_0_tokens hC hK hw d_PT_doneLine_48 h (fun H locs u15 h hw => ?_)
      refine lv_aload_n hx hb d_PT_doneLine_51 rfl (lv_at hl 0 rfl) ?_
      refine gf_C_0_sole hC hK hw d_PT_doneLine_52 ?_
      refine lv_if_eq (tgt := 66) hx hb d_PT_doneLine_55 rfl (fun c16 => ?_) (fun c16 => ?_)
      · have h := br1 c16 h
        refine lv_aload_n hx hb d_PT_doneLine_66 rfl (lv_at hl 0 rfl) ?_
        refine lv_iconst (v := 0) hx hb d_PT_doneLine_67 (by decide) ?_
        refine fx_sVv (As := [.int 0]) hC hl.1 (fun q hq => c_PT_pass l D ad cI cZ cT v u15 0 q hq) fy_PT_pass fv_PT_pass kw_429 ⟨Nat.le_of_ble_eq_true rfl, Nat.le_of_ble_eq_true rfl⟩ rfl hK hA hw at_C_0 rfl rfl rfl (Nat.le_of_ble_eq_true rfl) d_PT_doneLine_68 ⟨Nat.le_refl _, Nat.le_refl _⟩ h (fun H locs q17 h hw => ?_)
        refine lv_goto (tgt := 157) hx hb d_PT_doneLine_71 rfl ?_
        refine lv_iconst (v := 1) hx hb d_PT_doneLine_157 (by decide) ?_
        exact fx_retw hC hr (by decide) hK hw h d_PT_doneLine_158
      · have h := br0 c16 h
        refine lv_aload_n hx hb d_PT_doneLine_58 rfl (lv_at hl 0 rfl) ?_
        refine lv_iconst (v := 1) hx hb d_PT_doneLine_59 (by decide) ?_
        refine pf_C_0_mode hC hK hw d_PT_doneLine_60 h (fun H locs u18 h hw => ?_)
        refine lv_goto (tgt := 157) hx hb d_PT_doneLine_63 rfl ?_
        refine lv_iconst (v := 1) hx hb d_PT_doneLine_157 (by decide) ?_
        exact fx_retw hC hr (by decide) hK hw h d_PT_doneLine_158
  rw [f_PT_doneLine] at h
  refine lv_aload_n hx hb d_PT_doneLine_0 rfl (lv_at hl 0 rfl) ?_
  refine gf_C_0_sole hC hK hw d_PT_doneLine_1 ?_
  refine lv_if_ne (tgt := 33) hx hb d_PT_doneLine_4 rfl (fun c1 => ?_) (fun c1 => ?_)
  · have h := br0 c1 h
    exact J33 _ _ _ _ h (lv_sub hl [0] rfl) hw
  · have h := br1 c1 h
    refine lv_aload_n hx hb d_PT_doneLine_7 rfl (lv_at hl 0 rfl) ?_
    refine gf_C_0_next hC hK hw d_PT_doneLine_8 ?_
    refine lv_aload_n hx hb d_PT_doneLine_11 rfl (lv_at hl 0 rfl) ?_
    refine gf_C_0_own hC hK hw d_PT_doneLine_12 ?_
    refine lv_icmp_ne (tgt := 33) hx hb d_PT_doneLine_15 rfl (fun c19 => ?_) (fun c19 => ?_)
    · have h := br0 c19 h
      exact J33 _ _ _ _ h (lv_sub hl [0] rfl) hw
    · have h := br1 c19 h
      refine lv_aload_n hx hb d_PT_doneLine_18 rfl (lv_at hl 0 rfl) ?_
      refine lv_aload_n hx hb d_PT_doneLine_19 rfl (lv_at hl 0 rfl) ?_
      refine lv_aload_n hx hb d_PT_doneLine_20 rfl (lv_at hl 0 rfl) ?_
      refine gf_C_0_own hC hK hw d_PT_doneLine_21 ?_
      refine fx_sVr (As := [.int (u.1 0)]) hC hl.1 (fun q hq => c_PT_behind l D ad cI cZ cT v u (u.1 0) q hq) fy_PT_behind fv_PT_behind kw_421 ⟨Nat.le_of_ble_eq_true rfl, Nat.le_of_ble_eq_true rfl⟩ rfl hK hA hw at_C_0 rfl rfl rfl (Nat.le_of_ble_eq_true rfl) d_PT_doneLine_24 ⟨Nat.le_refl _, Nat.le_refl _⟩ h (fun H locs q20 h hw => ?_)
      refine fx_sVv (As := [.int q20]) hC hl.1 (fun q hq => c_PT_poll l D ad cI cZ cT v u q20 q hq) fy_PT_poll fv_PT_poll kw_425 ⟨Nat.le_of_ble_eq_true rfl, Nat.le_of_ble_eq_true rfl⟩ rfl hK hA hw at_C_0 rfl rfl rfl (Nat.le_of_ble_eq_true rfl) d_PT_doneLine_27 ⟨Nat.le_refl _, Nat.le_refl _⟩ h (fun H locs q21 h hw => ?_)
      refine lv_goto (tgt := 157) hx hb d_PT_doneLine_30 rfl ?_
      refine lv_iconst (v := 1) hx hb d_PT_doneLine_157 (by decide) ?_
      exact fx_retw hC hr (by decide) hK hw h d_PT_doneLine_158
def f_PT_passingLine (u : ST)  : Option (Int32 × ST) :=
  if 20 ≤ (u.1 9) then
    if (u.1 6) = 0 then
      k_bd (f_PT_pass u 1) fun q7 =>
      some (1, q7)
    else
    k_bd (f_PT_behind u (u.1 3)) fun q3 =>
    k_bd (f_PT_poll u q3) fun q4 =>
    k_let (ss q4 3 (q4.1 0)) fun u5 =>
    k_let (ss u5 5 0) fun u6 =>
    some (1, u6)
  else
  if (u.1 8) ≤ 4 then
    some (0, u)
  else
  k_let (ss u 2 0) fun u9 =>
  some (1, u9)
set_option maxHeartbeats 4000000 in
set_option maxRecDepth 100000 in
theorem c_PT_passingLine (l : Launch) (D : va_G) (ad : Nat → Nat) (cI cZ cT : ClassId) (v u : ST) (q : Int32 × ST) (h : f_PT_passingLine u = some q) : MX l D (tyC cI cZ cT) (wC ad cI cZ cT v) y_PT_passingLine cd_PT_passingLine 4 93 [.ref (ad 0)] u (some (.int q.1)) q.2 := by
  refine MX.start (by decide) (Nat.le_of_ble_eq_true rfl) ?_
  intro p e s m below meth c ls A hC hr hl hK hA hw
  have ⟨hx, hb, hml, hown, hT, hlk⟩ := hC
  have hl : lv_has ls 1 [(0, .ref (ad 0))] := hl
  rw [f_PT_passingLine] at h
  refine lv_aload_n hx hb d_PT_passingLine_0 rfl (lv_at hl 0 rfl) ?_
  refine gf_C_0_stillness hC hK hw d_PT_passingLine_1 ?_
  refine lv_bipush (v := 20) hx hb d_PT_passingLine_4 (by decide) ?_
  refine lv_icmp_ge (tgt := 26) hx hb d_PT_passingLine_6 rfl (fun c1 => ?_) (fun c1 => ?_)
  · have h := br1 c1 h
    refine lv_aload_n hx hb d_PT_passingLine_26 rfl (lv_at hl 0 rfl) ?_
    refine gf_C_0_tries hC hK hw d_PT_passingLine_27 ?_
    refine lv_if_ne (tgt := 41) hx hb d_PT_passingLine_30 rfl (fun c2 => ?_) (fun c2 => ?_)
    · have h := br0 c2 h
      refine lv_aload_n hx hb d_PT_passingLine_41 rfl (lv_at hl 0 rfl) ?_
      refine lv_aload_n hx hb d_PT_passingLine_42 rfl (lv_at hl 0 rfl) ?_
      refine lv_aload_n hx hb d_PT_passingLine_43 rfl (lv_at hl 0 rfl) ?_
      refine gf_C_0_next hC hK hw d_PT_passingLine_44 ?_
      refine fx_sVr (As := [.int (u.1 3)]) hC hl.1 (fun q hq => c_PT_behind l D ad cI cZ cT v u (u.1 3) q hq) fy_PT_behind fv_PT_behind kw_421 ⟨Nat.le_of_ble_eq_true rfl, Nat.le_of_ble_eq_true rfl⟩ rfl hK hA hw at_C_0 rfl rfl rfl (Nat.le_of_ble_eq_true rfl) d_PT_passingLine_47 ⟨Nat.le_refl _, Nat.le_refl _⟩ h (fun H locs q3 h hw => ?_)
      refine fx_sVv (As := [.int q3]) hC hl.1 (fun q hq => c_PT_poll l D ad cI cZ cT v u q3 q hq) fy_PT_poll fv_PT_poll kw_425 ⟨Nat.le_of_ble_eq_true rfl, Nat.le_of_ble_eq_true rfl⟩ rfl hK hA hw at_C_0 rfl rfl rfl (Nat.le_of_ble_eq_true rfl) d_PT_passingLine_50 ⟨Nat.le_refl _, Nat.le_refl _⟩ h (fun H locs q4 h hw => ?_)
      refine lv_aload_n hx hb d_PT_passingLine_53 rfl (lv_at hl 0 rfl) ?_
      refine lv_aload_n hx hb d_PT_passingLine_54 rfl (lv_at hl 0 rfl) ?_
      refine gf_C_0_own hC hK hw d_PT_passingLine_55 ?_
      refine pf_C_0_next hC hK hw d_PT_passingLine_58 h (fun H locs u5 h hw => ?_)
      refine lv_aload_n hx hb d_PT_passingLine_61 rfl (lv_at hl 0 rfl) ?_
      refine lv_iconst (v := 0) hx hb d_PT_passingLine_62 (by decide) ?_
      refine pf_C_0_tokens hC hK hw d_PT_passingLine_63 h (fun H locs u6 h hw => ?_)
      refine lv_iconst (v := 1) hx hb d_PT_passingLine_66 (by decide) ?_
      exact fx_retw hC hr (by decide) hK hw h d_PT_passingLine_67
    · have h := br1 c2 h
      refine lv_aload_n hx hb d_PT_passingLine_33 rfl (lv_at hl 0 rfl) ?_
      refine lv_iconst (v := 1) hx hb d_PT_passingLine_34 (by decide) ?_
      refine fx_sVv (As := [.int 1]) hC hl.1 (fun q hq => c_PT_pass l D ad cI cZ cT v u 1 q hq) fy_PT_pass fv_PT_pass kw_429 ⟨Nat.le_of_ble_eq_true rfl, Nat.le_of_ble_eq_true rfl⟩ rfl hK hA hw at_C_0 rfl rfl rfl (Nat.le_of_ble_eq_true rfl) d_PT_passingLine_35 ⟨Nat.le_refl _, Nat.le_refl _⟩ h (fun H locs q7 h hw => ?_)
      refine lv_goto (tgt := 66) hx hb d_PT_passingLine_38 rfl ?_
      refine lv_iconst (v := 1) hx hb d_PT_passingLine_66 (by decide) ?_
      exact fx_retw hC hr (by decide) hK hw h d_PT_passingLine_67
  · have h := br0 c1 h
    refine lv_aload_n hx hb d_PT_passingLine_9 rfl (lv_at hl 0 rfl) ?_
    refine gf_C_0_events hC hK hw d_PT_passingLine_10 ?_
    refine lv_iconst (v := 4) hx hb d_PT_passingLine_13 (by decide) ?_
    refine lv_icmp_le (tgt := 24) hx hb d_PT_passingLine_14 rfl (fun c8 => ?_) (fun c8 => ?_)
    · have h := br1 c8 h
      refine lv_iconst (v := 0) hx hb d_PT_passingLine_24 (by decide) ?_
      exact fx_retw hC hr (by decide) hK hw h d_PT_passingLine_25
    · have h := br0 c8 h
      refine lv_aload_n hx hb d_PT_passingLine_17 rfl (lv_at hl 0 rfl) ?_
      refine lv_iconst (v := 0) hx hb d_PT_passingLine_18 (by decide) ?_
      refine pf_C_0_mode hC hK hw d_PT_passingLine_19 h (fun H locs u9 h hw => ?_)
      refine lv_iconst (v := 1) hx hb d_PT_passingLine_22 (by decide) ?_
      exact fx_retw hC hr (by decide) hK hw h d_PT_passingLine_23
