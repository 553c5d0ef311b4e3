def f_Chk_ofHeader_3_L6 : Nat → ST → Int32 → Int32 → Int32 → Option (Int32)
  | 0, _, _, _, _ => none
  | k_ + 1, u, y1, y2, y3 =>
    if 5 ≤ y3 then
      some (255 - y2)
    else
    k_bd (f_Row_at_3 u (y1 + y3)) fun q2 =>
    k_bd (f_Chk_withByte y2 q2 129) fun q3 =>
    f_Chk_ofHeader_3_L6 k_ u y1 q3 (y3 + 1)
def f_Chk_ofHeader_3 (u : ST) (x1 : Int32) : Option (Int32) :=
  f_Chk_ofHeader_3_L6 200 u x1 255 0
set_option maxHeartbeats 4000000 in
set_option maxRecDepth 100000 in
theorem c_Chk_ofHeader_3 (l : Launch) (D : va_G) (ad : Nat → Nat) (cI cZ cT : ClassId) (v u : ST) (x1 : Int32) (q : Int32) (h : f_Chk_ofHeader_3 u x1 = some q) : MX l D (tyC cI cZ cT) (wC ad cI cZ cT v) y_Chk_ofHeader cd_Chk_ofHeader 1 24 [.ref (ad 3), .int x1] u (some (.int q)) u := by
  refine MX.start (by decide) (Nat.le_of_ble_eq_true rfl) ?_
  intro p e s m below meth c ls A hC hr hl hK hA hw
  have ⟨hx, hb, hml, hown, hT, hlk⟩ := hC
  have hl : lv_has ls 4 [(0, .ref (ad 3)), (1, .int x1)] := hl
  have L6 : ∀ (k_ : Nat) (y1 y2 y3 : Int32) (ls : Array Slot) (H : Heap) (locs : List Loc), f_Chk_ofHeader_3_L6 k_ u y1 y2 y3 = some q → lv_has ls 4 [(0, .ref (ad 3)), (1, .int y1), (2, .int y2), (3, .int y3)] → fw D A s.heap (wC ad cI cZ cT v u) H locs → WX (wC ad cI cZ cT v) p l e 1 24 s m [.ref (ad 3), .int x1] below meth c A D (tyC cI cZ cT) (some (.int q)) u H locs (F0 m 6 ls []) := by
    intro k_
    induction k_ with
    | zero =>
      intro y1 y2 y3 ls H locs h hl hw
      cases h
    | succ k_ ih =>
      intro y1 y2 y3 ls H locs h hl hw
      rw [f_Chk_ofHeader_3_L6] at h
      refine lv_iload_n hx hb d_Chk_ofHeader_6 rfl (lv_at hl 3 rfl) ?_
      refine lv_iconst (v := 5) hx hb d_Chk_ofHeader_7 (by decide) ?_
      refine lv_icmp_ge (tgt := 32) hx hb d_Chk_ofHeader_8 rfl (fun c1 => ?_) (fun c1 => ?_)
      · have h := br1 c1 h
        refine lv_sipush (v := 255) hx hb d_Chk_ofHeader_32 (by decide) ?_
        refine lv_iload_n hx hb d_Chk_ofHeader_35 rfl (lv_at hl 2 rfl) ?_
        refine lv_isub hx hb d_Chk_ofHeader_36 ?_
        exact fx_retr hC hr rfl hK hw h d_Chk_ofHeader_37
      · have h := br0 c1 h
        refine lv_iload_n hx hb d_Chk_ofHeader_11 rfl (lv_at hl 2 rfl) ?_
        refine lv_aload_n hx hb d_Chk_ofHeader_12 rfl (lv_at hl 0 rfl) ?_
        refine lv_iload_n hx hb d_Chk_ofHeader_13 rfl (lv_at hl 1 rfl) ?_
        refine lv_iload_n hx hb d_Chk_ofHeader_14 rfl (lv_at hl 3 rfl) ?_
        refine lv_iadd hx hb d_Chk_ofHeader_15 ?_
        refine fx_sVr (As := [.int (y1 + y3)]) hC hl.1 (fun q hq => c_Row_at_3 l D ad cI cZ cT v u (y1 + y3) q hq) fy_Row_at fv_Row_at kw_280 ⟨Nat.le_of_ble_eq_true rfl, Nat.le_of_ble_eq_true rfl⟩ rfl hK hA hw at_C_3 rfl rfl rfl (Nat.le_of_ble_eq_true rfl) d_Chk_ofHeader_16 ⟨Nat.le_refl _, Nat.le_refl _⟩ h (fun H locs q2 h hw => ?_)
        refine lv_sipush (v := 129) hx hb d_Chk_ofHeader_19 (by decide) ?_
        refine fx_sSr (As := [.int y2, .int q2, .int 129]) hC hl.1 (fun q hq => c_Chk_withByte l D ad cI cZ cT v u y2 q2 129 q hq) fy_Chk_withByte fs_Chk_withByte kw_281 ⟨Nat.le_of_ble_eq_true rfl, Nat.le_of_ble_eq_true rfl⟩ rfl hK hA hw rfl (Nat.le_of_ble_eq_true rfl) d_Chk_ofHeader_22 ⟨Nat.le_refl _, Nat.le_refl _⟩ h (fun H locs q3 h hw => ?_)
        refine lv_istore_n (lv' := [(2, .int q3), (0, .ref (ad 3)), (1, .int y1), (3, .int y3)]) hx hb d_Chk_ofHeader_25 rfl hl (by decide) rfl (fun ls hl => ?_)
        refine lv_iinc (k := 3) (v := (y3 + 1)) (lv' := [(3, .int (y3 + 1)), (2, .int q3), (0, .ref (ad 3)), (1, .int y1)]) hx hb d_Chk_ofHeader_26 hl rfl rfl (by decide) rfl (fun ls hl => ?_)
        refine lv_goto (tgt := 6) hx hb d_Chk_ofHeader_29 rfl ?_
        exact ih _ _ _ _ _ _ h (lv_sub hl [2, 3, 1, 0] rfl) hw
  rw [f_Chk_ofHeader_3] at h
  refine lv_sipush (v := 255) hx hb d_Chk_ofHeader_0 (by decide) ?_
  refine lv_istore_n (lv' := [(2, .int 255), (0, .ref (ad 3)), (1, .int x1)]) hx hb d_Chk_ofHeader_3 rfl hl (by decide) rfl (fun ls hl => ?_)
  refine lv_iconst (v := 0) hx hb d_Chk_ofHeader_4 (by decide) ?_
  refine lv_istore_n (lv' := [(3, .int 0), (2, .int 255), (0, .ref (ad 3)), (1, .int x1)]) hx hb d_Chk_ofHeader_5 rfl hl (by decide) rfl (fun ls hl => ?_)
  exact L6 _ _ _ _ _ _ _ h (lv_sub hl [2, 3, 1, 0] rfl) hw
def f_Row_putAll_3_5_L2 : Nat → ST → Int32 → Option (ST)
  | 0, _, _ => none
  | k_ + 1, u, y2 =>
    if (u.1 26) ≤ y2 then
      some u
    else
    k_gd (inb y2 0) (
    k_bd (f_Row_put_3 u (u.2 1 y2.toNatClampNeg)) fun q2 =>
    f_Row_putAll_3_5_L2 k_ q2 (y2 + 1))
def f_Row_putAll_3_5 (u : ST)  : Option (ST) :=
  f_Row_putAll_3_5_L2 200 u 0
set_option maxHeartbeats 4000000 in
set_option maxRecDepth 100000 in
theorem c_Row_putAll_3_5 (l : Launch) (D : va_G) (ad : Nat → Nat) (cI cZ cT : ClassId) (v u : ST) (q : ST) (h : f_Row_putAll_3_5 u = some q) : MX l D (tyC cI cZ cT) (wC ad cI cZ cT v) y_Row_putAll cd_Row_putAll 1 21 [.ref (ad 3), .ref (ad 5)] u none q := by
  refine MX.start (by decide) (Nat.le_of_ble_eq_true rfl) ?_
  intro p e s m below meth c ls A hC hr hl hK hA hw
  have ⟨hx, hb, hml, hown, hT, hlk⟩ := hC
  have hl : lv_has ls 3 [(0, .ref (ad 3)), (1, .ref (ad 5))] := hl
  have L2 : ∀ (k_ : Nat) (u : ST) (y2 : Int32) (ls : Array Slot) (H : Heap) (locs : List Loc), f_Row_putAll_3_5_L2 k_ u y2 = some q → lv_has ls 3 [(0, .ref (ad 3)), (1, .ref (ad 5)), (2, .int y2)] → fw D A s.heap (wC ad cI cZ cT v u) H locs → WX (wC ad cI cZ cT v) p l e 1 21 s m [.ref (ad 3), .ref (ad 5)] below meth c A D (tyC cI cZ cT) none q H locs (F0 m 2 ls []) := by
    intro k_
    induction k_ with
    | zero =>
      intro u y2 ls H locs h hl hw
      cases h
    | succ k_ ih =>
      intro u y2 ls H locs h hl hw
      rw [f_Row_putAll_3_5_L2] at h
      refine lv_iload_n hx hb d_Row_putAll_2 rfl (lv_at hl 2 rfl) ?_
      refine lv_aload_n hx hb d_Row_putAll_3 rfl (lv_at hl 1 rfl) ?_
      refine gf_C_5_count hC hK hw d_Row_putAll_4 ?_
      refine lv_icmp_ge (tgt := 26) hx hb d_Row_putAll_7 rfl (fun c1 => ?_) (fun c1 => ?_)
      · have h := br1 c1 h
        exact fx_retv hC hr hK hw h d_Row_putAll_26
      · have h := br0 c1 h
        refine lv_aload_n hx hb d_Row_putAll_10 rfl (lv_at hl 0 rfl) ?_
        refine lv_aload_n hx hb d_Row_putAll_11 rfl (lv_at hl 1 rfl) ?_
        refine gf_C_5_bytes hC hK hw d_Row_putAll_12 ?_
        refine lv_iload_n hx hb d_Row_putAll_15 rfl (lv_at hl 2 rfl) ?_
        refine al_C_6 hC hK hw d_Row_putAll_16 h (fun h => ?_)
        refine fx_sVv (As := [.int (u.2 1 y2.toNatClampNeg)]) hC hl.1 (fun q hq => c_Row_put_3 l D ad cI cZ cT v u (u.2 1 y2.toNatClampNeg) q hq) fy_Row_put fv_Row_put kw_286 ⟨Nat.le_of_ble_eq_true rfl, Nat.le_of_ble_eq_true rfl⟩ rfl hK hA hw at_C_3 rfl rfl rfl (Nat.le_of_ble_eq_true rfl) d_Row_putAll_17 ⟨Nat.le_refl _, Nat.le_refl _⟩ h (fun H locs q2 h hw => ?_)
        refine lv_iinc (k := 2) (v := (y2 + 1)) (lv' := [(2, .int (y2 + 1)), (0, .ref (ad 3)), (1, .ref (ad 5))]) hx hb d_Row_putAll_20 hl rfl rfl (by decide) rfl (fun ls hl => ?_)
        refine lv_goto (tgt := 2) hx hb d_Row_putAll_23 rfl ?_
        exact ih _ _ _ _ _ h (lv_sub hl [1, 2, 0] rfl) hw
  rw [f_Row_putAll_3_5] at h
  refine lv_iconst (v := 0) hx hb d_Row_putAll_0 (by decide) ?_
  refine lv_istore_n (lv' := [(2, .int 0), (0, .ref (ad 3)), (1, .ref (ad 5))]) hx hb d_Row_putAll_1 rfl hl (by decide) rfl (fun ls hl => ?_)
  exact L2 _ _ _ _ _ _ h (lv_sub hl [1, 2, 0] rfl) hw
def f_Row_at_5 (u : ST) (x1 : Int32) : Option (Int32) :=
  if x1 < 0 then
    some (-1)
  else
  if (u.1 26) ≤ x1 then
    some (-1)
  else
  k_gd (inb x1 0) (
  some (u.2 1 x1.toNatClampNeg))
set_option maxHeartbeats 4000000 in
set_option maxRecDepth 100000 in
theorem c_Row_at_5 (l : Launch) (D : va_G) (ad : Nat → Nat) (cI cZ cT : ClassId) (v u : ST) (x1 : Int32) (q : Int32) (h : f_Row_at_5 u x1 = some q) : MX l D (tyC cI cZ cT) (wC ad cI cZ cT v) y_Row_at cd_Row_at 0 0 [.ref (ad 5), .int x1] u (some (.int q)) u := by
  refine MX.start (by decide) (Nat.le_of_ble_eq_true rfl) ?_
  intro p e s m below meth c ls A hC hr hl hK hA hw
  have ⟨hx, hb, hml, hown, hT, hlk⟩ := hC
  have hl : lv_has ls 2 [(0, .ref (ad 5)), (1, .int x1)] := hl
  rw [f_Row_at_5] at h
  refine lv_iload_n hx hb d_Row_at_0 rfl (lv_at hl 1 rfl) ?_
  refine lv_if_lt (tgt := 21) hx hb d_Row_at_1 rfl (fun c1 => ?_) (fun c1 => ?_)
  · have h := br1 c1 h
    refine lv_iconst (v := (-1)) hx hb d_Row_at_21 (by decide) ?_
    exact fx_retr hC hr rfl hK hw h d_Row_at_22
  · have h := br0 c1 h
    refine lv_iload_n hx hb d_Row_at_4 rfl (lv_at hl 1 rfl) ?_
    refine lv_aload_n hx hb d_Row_at_5 rfl (lv_at hl 0 rfl) ?_
    refine gf_C_5_count hC hK hw d_Row_at_6 ?_
    refine lv_icmp_ge (tgt := 21) hx hb d_Row_at_9 rfl (fun c2 => ?_) (fun c2 => ?_)
    · have h := br1 c2 h
      refine lv_iconst (v := (-1)) hx hb d_Row_at_21 (by decide) ?_
      exact fx_retr hC hr rfl hK hw h d_Row_at_22
    · have h := br0 c2 h
      refine lv_aload_n hx hb d_Row_at_12 rfl (lv_at hl 0 rfl) ?_
      refine gf_C_5_bytes hC hK hw d_Row_at_13 ?_
      refine lv_iload_n hx hb d_Row_at_16 rfl (lv_at hl 1 rfl) ?_
      refine al_C_6 hC hK hw d_Row_at_17 h (fun h => ?_)
      refine lv_goto (tgt := 22) hx hb d_Row_at_18 rfl ?_
      exact fx_retr hC hr rfl hK hw h d_Row_at_22
def f_Chk_ofData_5_L5 : Nat → ST → Int32 → Int32 → Option (Int32)
  | 0, _, _, _ => none
  | k_ + 1, u, y1, y2 =>
    k_bd (f_Row_size_5 u) fun q1 =>
    if q1 ≤ y2 then
      some (65535 - y1)
    else
    k_bd (f_Row_at_5 u y2) fun q3 =>
    k_bd (f_Chk_withByte y1 q3 33800) fun q4 =>
    f_Chk_ofData_5_L5 k_ u q4 (y2 + 1)
def f_Chk_ofData_5 (u : ST)  : Option (Int32) :=
  f_Chk_ofData_5_L5 200 u 65535 0
set_option maxHeartbeats 4000000 in
set_option maxRecDepth 100000 in
theorem c_Chk_ofData_5 (l : Launch) (D : va_G) (ad : Nat → Nat) (cI cZ cT : ClassId) (v u : ST) (q : Int32) (h : f_Chk_ofData_5 u = some q) : MX l D (tyC cI cZ cT) (wC ad cI cZ cT v) y_Chk_ofData cd_Chk_ofData 1 24 [.ref (ad 5)] u (some (.int q)) u := by
  refine MX.start (by decide) (Nat.le_of_ble_eq_true rfl) ?_
  intro p e s m below meth c ls A hC hr hl hK hA hw
  have ⟨hx, hb, hml, hown, hT, hlk⟩ := hC
  have hl : lv_has ls 3 [(0, .ref (ad 5))] := hl
  have L5 : ∀ (k_ : Nat) (y1 y2 : Int32) (ls : Array Slot) (H : Heap) (locs : List Loc), f_Chk_ofData_5_L5 k_ u y1 y2 = some q → lv_has ls 3 [(0, .ref (ad 5)), (1, .int y1), (2, .int y2)] → fw D A s.heap (wC ad cI cZ cT v u) H locs → WX (wC ad cI cZ cT v) p l e 1 24 s m [.ref (ad 5)] below meth c A D (tyC cI cZ cT) (some (.int q)) u H locs (F0 m 5 ls []) := by
    intro k_
    induction k_ with
    | zero =>
      intro y1 y2 ls H locs h hl hw
      cases h
    | succ k_ ih =>
      intro y1 y2 ls H locs h hl hw
      rw [f_Chk_ofData_5_L5] at h
      refine lv_iload_n hx hb d_Chk_ofData_5 rfl (lv_at hl 2 rfl) ?_
      refine lv_aload_n hx hb d_Chk_ofData_6 rfl (lv_at hl 0 rfl) ?_
      refine fx_sVr (As := []) hC hl.1 (fun q hq => c_Row_size_5 l D ad cI cZ cT v u q hq) fy_Row_size fv_Row_size kw_291 ⟨Nat.le_of_ble_eq_true rfl, Nat.le_of_ble_eq_true rfl⟩ rfl hK hA hw at_C_5 rfl rfl rfl (Nat.le_of_ble_eq_true rfl) d_Chk_ofData_7 ⟨Nat.le_refl _, Nat.le_refl _⟩ h (fun H locs q1 h hw => ?_)
      refine lv_icmp_ge (tgt := 31) hx hb d_Chk_ofData_10 rfl (fun c2 => ?_) (fun c2 => ?_)
      · have h := br1 c2 h
        refine lv_ldc (v := 65535) hx hb hown (hT _ kw_290) d_Chk_ofData_31 ?_
        refine lv_iload_n hx hb d_Chk_ofData_33 rfl (lv_at hl 1 rfl) ?_
        refine lv_isub hx hb d_Chk_ofData_34 ?_
        exact fx_retr hC hr rfl hK hw h d_Chk_ofData_35
      · have h := br0 c2 h
        refine lv_iload_n hx hb d_Chk_ofData_13 rfl (lv_at hl 1 rfl) ?_
        refine lv_aload_n hx hb d_Chk_ofData_14 rfl (lv_at hl 0 rfl) ?_
        refine lv_iload_n hx hb d_Chk_ofData_15 rfl (lv_at hl 2 rfl) ?_
        refine fx_sVr (As := [.int y2]) hC hl.1 (fun q hq => c_Row_at_5 l D ad cI cZ cT v u y2 q hq) fy_Row_at fv_Row_at kw_280 ⟨Nat.le_of_ble_eq_true rfl, Nat.le_of_ble_eq_true rfl⟩ rfl hK hA hw at_C_5 rfl rfl rfl (Nat.le_of_ble_eq_true rfl) d_Chk_ofData_16 ⟨Nat.le_refl _, Nat.le_refl _⟩ h (fun H locs q3 h hw => ?_)
        refine lv_ldc (v := 33800) hx hb hown (hT _ kw_292) d_Chk_ofData_19 ?_
        refine fx_sSr (As := [.int y1, .int q3, .int 33800]) hC hl.1 (fun q hq => c_Chk_withByte l D ad cI cZ cT v u y1 q3 33800 q hq) fy_Chk_withByte fs_Chk_withByte kw_281 ⟨Nat.le_of_ble_eq_true rfl, Nat.le_of_ble_eq_true rfl⟩ rfl hK hA hw rfl (Nat.le_of_ble_eq_true rfl) d_Chk_ofData_21 ⟨Nat.le_refl _, Nat.le_refl _⟩ h (fun H locs q4 h hw => ?_)
        refine lv_istore_n (lv' := [(1, .int q4), (0, .ref (ad 5)), (2, .int y2)]) hx hb d_Chk_ofData_24 rfl hl (by decide) rfl (fun ls hl => ?_)
        refine lv_iinc (k := 2) (v := (y2 + 1)) (lv' := [(2, .int (y2 + 1)), (1, .int q4), (0, .ref (ad 5))]) hx hb d_Chk_ofData_25 hl rfl rfl (by decide) rfl (fun ls hl => ?_)
        refine lv_goto (tgt := 5) hx hb d_Chk_ofData_28 rfl ?_
        exact ih _ _ _ _ _ h (lv_sub hl [2, 1, 0] rfl) hw
  rw [f_Chk_ofData_5] at h
  refine lv_ldc (v := 65535) hx hb hown (hT _ kw_290) d_Chk_ofData_0 ?_
  refine lv_istore_n (lv' := [(1, .int 65535), (0, .ref (ad 5))]) hx hb d_Chk_ofData_2 rfl hl (by decide) rfl (fun ls hl => ?_)
  refine lv_iconst (v := 0) hx hb d_Chk_ofData_3 (by decide) ?_
  refine lv_istore_n (lv' := [(2, .int 0), (1, .int 65535), (0, .ref (ad 5))]) hx hb d_Chk_ofData_4 rfl hl (by decide) rfl (fun ls hl => ?_)
  exact L5 _ _ _ _ _ _ h (lv_sub hl [2, 1, 0] rfl) hw
def f_PT_send_5 (u : ST) (x1 x2 : Int32) : Option (ST) :=
  k_bd (f_Row_put_3 u 85) fun q1 =>
  k_bd (f_Row_put_3 q1 255) fun q2 =>
  k_bd (f_Row_size_3 q2) fun q3 =>
  k_bd (f_Row_put_3 q2 x1) fun q4 =>
  k_bd (f_Row_put_3 q4 x2) fun q5 =>
  k_bd (f_Row_put_3 q5 (q5.1 0)) fun q6 =>
  k_bd (f_Row_size_5 q6) fun q7 =>
  k_bd (f_Row_put_3 q6 (q7 / 256)) fun q8 =>
  k_bd (f_Row_size_5 q8) fun q9 =>
  k_bd (f_Row_put_3 q8 (q9 - q9 / 256 * 256)) fun q10 =>
  k_bd (f_Chk_ofHeader_3 q10 q3) fun q11 =>
  k_bd (f_Row_put_3 q10 q11) fun q12 =>
  k_bd (f_Row_size_5 q12) fun q13 =>
  if q13 ≤ 0 then
    k_let (ss q12 9 0) fun u15 =>
    some u15
  else
  k_bd (f_Row_putAll_3_5 q12) fun q16 =>
  k_bd (f_Chk_ofData_5 q16) fun q17 =>
  k_bd (f_Row_put_3 q16 (q17 - q17 / 256 * 256)) fun q18 =>
  k_bd (f_Row_put_3 q18 (q17 / 256)) fun q19 =>
  k_let (ss q19 9 0) fun u20 =>
  some u20
set_option maxHeartbeats 4000000 in
set_option maxRecDepth 100000 in
theorem c_PT_send_5 (l : Launch) (D : va_G) (ad : Nat → Nat) (cI cZ cT : ClassId) (v u : ST) (x1 x2 : Int32) (q : ST) (h : f_PT_send_5 u x1 x2 = some q) : MX l D (tyC cI cZ cT) (wC ad cI cZ cT v) y_PT_send cd_PT_send 2 47 [.ref (ad 0), .int x1, .int x2, .ref (ad 5)] u none q := by
  refine MX.start (by decide) (Nat.le_of_ble_eq_true rfl) ?_
  intro p e s m below meth c ls A hC hr hl hK hA hw
  have ⟨hx, hb, hml, hown, hT, hlk⟩ := hC
  have hl : lv_has ls 6 [(0, .ref (ad 0)), (1, .int x1), (2, .int x2), (3, .ref (ad 5))] := hl
  rw [f_PT_send_5] at h
  refine lv_aload_n hx hb d_PT_send_0 rfl (lv_at hl 0 rfl) ?_
  refine gf_C_0_out hC hK hw d_PT_send_1 ?_
  refine lv_bipush (v := 85) hx hb d_PT_send_4 (by decide) ?_
  refine fx_sVv (As := [.int 85]) hC hl.1 (fun q hq => c_Row_put_3 l D ad cI cZ cT v u 85 q hq) fy_Row_put fv_Row_put kw_275 ⟨Nat.le_of_ble_eq_true rfl, Nat.le_of_ble_eq_true rfl⟩ rfl hK hA hw at_C_3 rfl rfl rfl (Nat.le_of_ble_eq_true rfl) d_PT_send_6 ⟨Nat.le_refl _, Nat.le_refl _⟩ h (fun H locs q1 h hw => ?_)
  refine lv_aload_n hx hb d_PT_send_9 rfl (lv_at hl 0 rfl) ?_
  refine gf_C_0_out hC hK hw d_PT_send_10 ?_
  refine lv_sipush (v := 255) hx hb d_PT_send_13 (by decide) ?_
  refine fx_sVv (As := [.int 255]) hC hl.1 (fun q hq => c_Row_put_3 l D ad cI cZ cT v q1 255 q hq) fy_Row_put fv_Row_put kw_275 ⟨Nat.le_of_ble_eq_true rfl, Nat.le_of_ble_eq_true rfl⟩ rfl hK hA hw at_C_3 rfl rfl rfl (Nat.le_of_ble_eq_true rfl) d_PT_send_16 ⟨Nat.le_refl _, Nat.le_refl _⟩ h (fun H locs q2 h hw => ?_)
  refine lv_aload_n hx hb d_PT_send_19 rfl (lv_at hl 0 rfl) ?_
  refine gf_C_0_out hC hK hw d_PT_send_20 ?_
  refine fx_sVr (As := []) hC hl.1 (fun q hq => c_Row_size_3 l D ad cI cZ cT v q2 q hq) fy_Row_size fv_Row_size kw_276 ⟨Nat.le_of_ble_eq_true rfl, Nat.le_of_ble_eq_true rfl⟩ rfl hK hA hw at_C_3 rfl rfl rfl (Nat.le_of_ble_eq_true rfl) d_PT_send_23 ⟨Nat.le_refl _, Nat.le_refl _⟩ h (fun H locs q3 h hw => ?_)
  refine lv_istore (lv' := [(4, .int q3), (0, .ref (ad 0)), (1, .int x1), (2, .int x2), (3, .ref (ad 5))]) hx hb d_PT_send_26 hl (by decide) rfl (fun ls hl => ?_)
  refine lv_aload_n hx hb d_PT_send_28 rfl (lv_at hl 1 rfl) ?_
  refine gf_C_0_out hC hK hw d_PT_send_29 ?_
  refine lv_iload_n hx hb d_PT_send_32 rfl (lv_at hl 2 rfl) ?_
  refine fx_sVv (As := [.int x1]) hC hl.1 (fun q hq => c_Row_put_3 l D ad cI cZ cT v q2 x1 q hq) fy_Row_put fv_Row_put kw_275 ⟨Nat.le_of_ble_eq_true rfl, Nat.le_of_ble_eq_true rfl⟩ rfl hK hA hw at_C_3 rfl rfl rfl (Nat.le_of_ble_eq_true rfl) d_PT_send_33 ⟨Nat.le_refl _, Nat.le_refl _⟩ h (fun H locs q4 h hw => ?_)
  refine lv_aload_n hx hb d_PT_send_36 rfl (lv_at hl 1 rfl) ?_
  refine gf_C_0_out hC hK hw d_PT_send_37 ?_
  refine lv_iload_n hx hb d_PT_send_40 rfl (lv_at hl 3 rfl) ?_
  refine fx_sVv (As := [.int x2]) hC hl.1 (fun q hq => c_Row_put_3 l D ad cI cZ cT v q4 x2 q hq) fy_Row_put fv_Row_put kw_275 ⟨Nat.le_of_ble_eq_true rfl, Nat.le_of_ble_eq_true rfl⟩ rfl hK hA hw at_C_3 rfl rfl rfl (Nat.le_of_ble_eq_true rfl) d_PT_send_41 ⟨Nat.le_refl _, Nat.le_refl _⟩ h (fun H locs q5 h hw => ?_)
  refine lv_aload_n hx hb d_PT_send_44 rfl (lv_at hl 1 rfl) ?_
  refine gf_C_0_out hC hK hw d_PT_send_45 ?_
  refine lv_aload_n hx hb d_PT_send_48 rfl (lv_at hl 1 rfl) ?_
  refine gf_C_0_own hC hK hw d_PT_send_49 ?_
  refine fx_sVv (As := [.int (q5.1 0)]) hC hl.1 (fun q hq => c_Row_put_3 l D ad cI cZ cT v q5 (q5.1 0) q hq) fy_Row_put fv_Row_put kw_275 ⟨Nat.le_of_ble_eq_true rfl, Nat.le_of_ble_eq_true rfl⟩ rfl hK hA hw at_C_3 rfl rfl rfl (Nat.le_of_ble_eq_true rfl) d_PT_send_52 ⟨Nat.le_refl _, Nat.le_refl _⟩ h (fun H locs q6 h hw => ?_)
  refine lv_aload_n hx hb d_PT_send_55 rfl (lv_at hl 1 rfl) ?_
  refine gf_C_0_out hC hK hw d_PT_send_56 ?_
  refine lv_aload_n hx hb d_PT_send_59 rfl (lv_at hl 4 rfl) ?_
  refine fx_sVr (As := []) hC hl.1 (fun q hq => c_Row_size_5 l D ad cI cZ cT v q6 q hq) fy_Row_size fv_Row_size kw_276 ⟨Nat.le_of_ble_eq_true rfl, Nat.le_of_ble_eq_true rfl⟩ rfl hK hA hw at_C_5 rfl rfl rfl (Nat.le_of_ble_eq_true rfl) d_PT_send_60 ⟨Nat.le_refl _, Nat.le_refl _⟩ h (fun H locs q7 h hw => ?_)
  refine lv_sipush (v := 256) hx hb d_PT_send_63 (by decide) ?_
  refine lv_idiv hx hb d_PT_send_66 (by decide) ?_
  refine fx_sVv (As := [.int (q7 / 256)]) hC hl.1 (fun q hq => c_Row_put_3 l D ad cI cZ cT v q6 (q7 / 256) q hq) fy_Row_put fv_Row_put kw_275 ⟨Nat.le_of_ble_eq_true rfl, Nat.le_of_ble_eq_true rfl⟩ rfl hK hA hw at_C_3 rfl rfl rfl (Nat.le_of_ble_eq_true rfl) d_PT_send_67 ⟨Nat.le_refl _, Nat.le_refl _⟩ h (fun H locs q8 h hw => ?_)
  refine lv_aload_n hx hb d_PT_send_70 rfl (lv_at hl 1 rfl) ?_
  refine gf_C_0_out hC hK hw d_PT_send_71 ?_
  refine lv_aload_n hx hb d_PT_send_74 rfl (lv_at hl 4 rfl) ?_
  refine fx_sVr (As := []) hC hl.1 (fun q hq => c_Row_size_5 l D ad cI cZ cT v q8 q hq) fy_Row_size fv_Row_size kw_276 ⟨Nat.le_of_ble_eq_true rfl, Nat.le_of_ble_eq_true rfl⟩ rfl hK hA hw at_C_5 rfl rfl rfl (Nat.le_of_ble_eq_true rfl) d_PT_send_75 ⟨Nat.le_refl _, Nat.le_refl _⟩ h (fun H locs q9 h hw => ?_)
  refine lv_sipush (v := 256) hx hb d_PT_send_78 (by decide) ?_
  refine lv_irem hx hb d_PT_send_81 (by decide) ?_
  refine fx_sVv (As := [.int (q9 - q9 / 256 * 256)]) hC hl.1 (fun q hq => c_Row_put_3 l D ad cI cZ cT v q8 (q9 - q9 / 256 * 256) q hq) fy_Row_put fv_Row_put kw_275 ⟨Nat.le_of_ble_eq_true rfl, Nat.le_of_ble_eq_true rfl⟩ rfl hK hA hw at_C_3 rfl rfl rfl (Nat.le_of_ble_eq_true rfl) d_PT_send_82 ⟨Nat.le_refl _, Nat.le_refl _⟩ h (fun H locs q10 h hw => ?_)
  refine lv_aload_n hx hb d_PT_send_85 rfl (lv_at hl 1 rfl) ?_
  refine gf_C_0_out hC hK hw d_PT_send_86 ?_
  refine lv_aload_n hx hb d_PT_send_89 rfl (lv_at hl 1 rfl) ?_
  refine gf_C_0_out hC hK hw d_PT_send_90 ?_
  refine lv_iload hx hb d_PT_send_93 (lv_at hl 0 rfl) ?_
  refine fx_sSr (As := [.ref (ad 3), .int q3]) hC hl.1 (fun q hq => c_Chk_ofHeader_3 l D ad cI cZ cT v q10 q3 q hq) fy_Chk_ofHeader fs_Chk_ofHeader kw_277 ⟨Nat.le_of_ble_eq_true rfl, Nat.le_of_ble_eq_true rfl⟩ rfl hK hA hw rfl (Nat.le_of_ble_eq_true rfl) d_PT_send_95 ⟨Nat.le_refl _, Nat.le_refl _⟩ h (fun H locs q11 h hw => ?_)
  refine fx_sVv (As := [.int q11]) hC hl.1 (fun q hq => c_Row_put_3 l D ad cI cZ cT v q10 q11 q hq) fy_Row_put fv_Row_put kw_275 ⟨Nat.le_of_ble_eq_true rfl, Nat.le_of_ble_eq_true rfl⟩ rfl hK hA hw at_C_3 rfl rfl rfl (Nat.le_of_ble_eq_true rfl) d_PT_send_98 ⟨Nat.le_refl _, Nat.le_refl _⟩ h (fun H locs q12 h hw => ?_)
  refine lv_aload_n hx hb d_PT_send_101 rfl (lv_at hl 4 rfl) ?_
  refine fx_sVr (As := []) hC hl.1 (fun q hq => c_Row_size_5 l D ad cI cZ cT v q12 q hq) fy_Row_size fv_Row_size kw_276 ⟨Nat.le_of_ble_eq_true rfl, Nat.le_of_ble_eq_true rfl⟩ rfl hK hA hw at_C_5 rfl rfl rfl (Nat.le_of_ble_eq_true rfl) d_PT_send_102 ⟨Nat.le_refl _, Nat.le_refl _⟩ h (fun H locs q13 h hw => ?_)
  refine lv_if_le (tgt := 148) hx hb d_PT_send_105 rfl (fun c14 => ?_) (fun c14 => ?_)
  · have h := br1 c14 h
    refine lv_aload_n hx hb d_PT_send_148 rfl (lv_at hl 1 rfl) ?_
    refine lv_iconst (v := 0) hx hb d_PT_send_149 (by decide) ?_
    refine pf_C_0_stillness hC hK hw d_PT_send_150 h (fun H locs u15 h hw => ?_)
    exact fx_retv hC hr hK hw h d_PT_send_153
  · have h := br0 c14 h
    refine lv_aload_n hx hb d_PT_send_108 rfl (lv_at hl 1 rfl) ?_
    refine gf_C_0_out hC hK hw d_PT_send_109 ?_
    refine lv_aload_n hx hb d_PT_send_112 rfl (lv_at hl 4 rfl) ?_
    refine fx_sVv (As := [.ref (ad 5)]) hC hl.1 (fun q hq => c_Row_putAll_3_5 l D ad cI cZ cT v q12 q hq) fy_Row_putAll fv_Row_putAll kw_282 ⟨Nat.le_of_ble_eq_true rfl, Nat.le_of_ble_eq_true rfl⟩ rfl hK hA hw at_C_3 rfl rfl rfl (Nat.le_of_ble_eq_true rfl) d_PT_send_113 ⟨Nat.le_refl _, Nat.le_refl _⟩ h (fun H locs q16 h hw => ?_)
    refine lv_aload_n hx hb d_PT_send_116 rfl (lv_at hl 4 rfl) ?_
    refine fx_sSr (As := [.ref (ad 5)]) hC hl.1 (fun q hq => c_Chk_ofData_5 l D ad cI cZ cT v q16 q hq) fy_Chk_ofData fs_Chk_ofData kw_287 ⟨Nat.le_of_ble_eq_true rfl, Nat.le_of_ble_eq_true rfl⟩ rfl hK hA hw rfl (Nat.le_of_ble_eq_true rfl) d_PT_send_117 ⟨Nat.le_refl _, Nat.le_refl _⟩ h (fun H locs q17 h hw => ?_)
    refine lv_istore (lv' := [(5, .int q17), (4, .int q3), (0, .ref (ad 0)), (1, .int x1), (2, .int x2), (3, .ref (ad 5))]) hx hb d_PT_send_120 hl (by decide) rfl (fun ls hl => ?_)
    refine lv_aload_n hx hb d_PT_send_122 rfl (lv_at hl 2 rfl) ?_
    refine gf_C_0_out hC hK hw d_PT_send_123 ?_
    refine lv_iload hx hb d_PT_send_126 (lv_at hl 0 rfl) ?_
    refine lv_sipush (v := 256) hx hb d_PT_send_128 (by decide) ?_
    refine lv_irem hx hb d_PT_send_131 (by decide) ?_
    refine fx_sVv (As := [.int (q17 - q17 / 256 * 256)]) hC hl.1 (fun q hq => c_Row_put_3 l D ad cI cZ cT v q16 (q17 - q17 / 256 * 256) q hq) fy_Row_put fv_Row_put kw_275 ⟨Nat.le_of_ble_eq_true rfl, Nat.le_of_ble_eq_true rfl⟩ rfl hK hA hw at_C_3 rfl rfl rfl (Nat.le_of_ble_eq_true rfl) d_PT_send_132 ⟨Nat.le_refl _, Nat.le_refl _⟩ h (fun H locs q18 h hw => ?_)
    refine lv_aload_n hx hb d_PT_send_135 rfl (lv_at hl 2 rfl) ?_
    refine gf_C_0_out hC hK hw d_PT_send_136 ?_
    refine lv_iload hx hb d_PT_send_139 (lv_at hl 0 rfl) ?_
    refine lv_sipush (v := 256) hx hb d_PT_send_141 (by decide) ?_
    refine lv_idiv hx hb d_PT_send_144 (by decide) ?_
    refine fx_sVv (As := [.int (q17 / 256)]) hC hl.1 (fun q hq => c_Row_put_3 l D ad cI cZ cT v q18 (q17 / 256) q hq) fy_Row_put fv_Row_put kw_275 ⟨Nat.le_of_ble_eq_true rfl, Nat.le_of_ble_eq_true rfl⟩ rfl hK hA hw at_C_3 rfl rfl rfl (Nat.le_of_ble_eq_true rfl) d_PT_send_145 ⟨Nat.le_refl _, Nat.le_refl _⟩ h (fun H locs q19 h hw => ?_)
    refine lv_aload_n hx hb d_PT_send_148 rfl (lv_at hl 2 rfl) ?_
    refine lv_iconst (v := 0) hx hb d_PT_send_149 (by decide) ?_
    refine pf_C_0_stillness hC hK hw d_PT_send_150 h (fun H locs u20 h hw => ?_)
    exact fx_retv hC hr hK hw h d_PT_send_153
def f_Ear_data (u : ST)  : Option (ST) :=
  some u
set_option maxHeartbeats 4000000 in
set_option maxRecDepth 100000 in
theorem c_Ear_data (l : Launch) (D : va_G) (ad : Nat → Nat) (cI cZ cT : ClassId) (v u : ST) (q : ST) (h : f_Ear_data u = some q) : MX l D (tyC cI cZ cT) (wC ad cI cZ cT v) y_Ear_data cd_Ear_data 0 0 [.ref (ad 1)] u (some (.ref (ad 13))) q := by
  refine MX.start (by decide) (Nat.le_of_ble_eq_true rfl) ?_
  intro p e s m below meth c ls A hC hr hl hK hA hw
  have ⟨hx, hb, hml, hown, hT, hlk⟩ := hC
  have hl : lv_has ls 1 [(0, .ref (ad 1))] := hl
  rw [f_Ear_data] at h
  refine lv_aload_n hx hb d_Ear_data_0 rfl (lv_at hl 0 rfl) ?_
  refine gf_C_1_data hC hK hw d_Ear_data_1 ?_
  exact fx_reta hC hr hK hw h d_Ear_data_4
def f_Row_putAll_3_13_L2 : Nat → ST → Int32 → Option (ST)
  | 0, _, _ => none
  | k_ + 1, u, y2 =>
    if (u.1 30) ≤ y2 then
      some u
    else
    k_gd (inb y2 40) (
    k_bd (f_Row_put_3 u (u.2 5 y2.toNatClampNeg)) fun q2 =>
    f_Row_putAll_3_13_L2 k_ q2 (y2 + 1))
def f_Row_putAll_3_13 (u : ST)  : Option (ST) :=
  f_Row_putAll_3_13_L2 200 u 0
set_option maxHeartbeats 4000000 in
set_option maxRecDepth 100000 in
theorem c_Row_putAll_3_13 (l : Launch) (D : va_G) (ad : Nat → Nat) (cI cZ cT : ClassId) (v u : ST) (q : ST) (h : f_Row_putAll_3_13 u = some q) : MX l D (tyC cI cZ cT) (wC ad cI cZ cT v) y_Row_putAll cd_Row_putAll 1 21 [.ref (ad 3), .ref (ad 13)] u none q := by
  refine MX.start (by decide) (Nat.le_of_ble_eq_true rfl) ?_
  intro p e s m below meth c ls A hC hr hl hK hA hw
  have ⟨hx, hb, hml, hown, hT, hlk⟩ := hC
  have hl : lv_has ls 3 [(0, .ref (ad 3)), (1, .ref (ad 13))] := hl
  have L2 : ∀ (k_ : Nat) (u : ST) (y2 : Int32) (ls : Array Slot) (H : Heap) (locs : List Loc), f_Row_putAll_3_13_L2 k_ u y2 = some q → lv_has ls 3 [(0, .ref (ad 3)), (1, .ref (ad 13)), (2, .int y2)] → fw D A s.heap (wC ad cI cZ cT v u) H locs → WX (wC ad cI cZ cT v) p l e 1 21 s m [.ref (ad 3), .ref (ad 13)] below meth c A D (tyC cI cZ cT) none q H locs (F0 m 2 ls []) := by
    intro k_
    induction k_ with
    | zero =>
      intro u y2 ls H locs h hl hw
      cases h
    | succ k_ ih =>
      intro u y2 ls H locs h hl hw
      rw [f_Row_putAll_3_13_L2] at h
      refine lv_iload_n hx hb d_Row_putAll_2 rfl (lv_at hl 2 rfl) ?_
      refine lv_aload_n hx hb d_Row_putAll_3 rfl (lv_at hl 1 rfl) ?_
      refine gf_C_13_count hC hK hw d_Row_putAll_4 ?_
      refine lv_icmp_ge (tgt := 26) hx hb d_Row_putAll_7 rfl (fun c1 => ?_) (fun c1 => ?_)
      · have h := br1 c1 h
        exact fx_retv hC hr hK hw h d_Row_putAll_26
      · have h := br0 c1 h
        refine lv_aload_n hx hb d_Row_putAll_10 rfl (lv_at hl 0 rfl) ?_
        refine lv_aload_n hx hb d_Row_putAll_11 rfl (lv_at hl 1 rfl) ?_
        refine gf_C_13_bytes hC hK hw d_Row_putAll_12 ?_
        refine lv_iload_n hx hb d_Row_putAll_15 rfl (lv_at hl 2 rfl) ?_
        refine al_C_14 hC hK hw d_Row_putAll_16 h (fun h => ?_)
        refine fx_sVv (As := [.int (u.2 5 y2.toNatClampNeg)]) hC hl.1 (fun q hq => c_Row_put_3 l D ad cI cZ cT v u (u.2 5 y2.toNatClampNeg) q hq) fy_Row_put fv_Row_put kw_286 ⟨Nat.le_of_ble_eq_true rfl, Nat.le_of_ble_eq_true rfl⟩ rfl hK hA hw at_C_3 rfl rfl rfl (Nat.le_of_ble_eq_true rfl) d_Row_putAll_17 ⟨Nat.le_refl _, Nat.le_refl _⟩ h (fun H locs q2 h hw => ?_)
        refine lv_iinc (k := 2) (v := (y2 + 1)) (lv' := [(2, .int (y2 + 1)), (0, .ref (ad 3)), (1, .ref (ad 13))]) hx hb d_Row_putAll_20 hl rfl rfl (by decide) rfl (fun ls hl => ?_)
        refine lv_goto (tgt := 2) hx hb d_Row_putAll_23 rfl ?_
        exact ih _ _ _ _ _ h (lv_sub hl [1, 2, 0] rfl) hw
  rw [f_Row_putAll_3_13] at h
  refine lv_iconst (v := 0) hx hb d_Row_putAll_0 (by decide) ?_
  refine lv_istore_n (lv' := [(2, .int 0), (0, .ref (ad 3)), (1, .ref (ad 13))]) hx hb d_Row_putAll_1 rfl hl (by decide) rfl (fun ls hl => ?_)
  exact L2 _ _ _ _ _ _ h (lv_sub hl [1, 2, 0] rfl) hw
def f_Row_at_13 (u : ST) (x1 : Int32) : Option (Int32) :=
  if x1 < 0 then
    some (-1)
  else
  if (u.1 30) ≤ x1 then
    some (-1)
  else
  k_gd (inb x1 40) (
  some (u.2 5 x1.toNatClampNeg))
set_option maxHeartbeats 4000000 in
set_option maxRecDepth 100000 in
theorem c_Row_at_13 (l : Launch) (D : va_G) (ad : Nat → Nat) (cI cZ cT : ClassId) (v u : ST) (x1 : Int32) (q : Int32) (h : f_Row_at_13 u x1 = some q) : MX l D (tyC cI cZ cT) (wC ad cI cZ cT v) y_Row_at cd_Row_at 0 0 [.ref (ad 13), .int x1] u (some (.int q)) u := by
  refine MX.start (by decide) (Nat.le_of_ble_eq_true rfl) ?_
  intro p e s m below meth c ls A hC hr hl hK hA hw
  have ⟨hx, hb, hml, hown, hT, hlk⟩ := hC
  have hl : lv_has ls 2 [(0, .ref (ad 13)), (1, .int x1)] := hl
  rw [f_Row_at_13] at h
  refine lv_iload_n hx hb d_Row_at_0 rfl (lv_at hl 1 rfl) ?_
  refine lv_if_lt (tgt := 21) hx hb d_Row_at_1 rfl (fun c1 => ?_) (fun c1 => ?_)
  · have h := br1 c1 h
    refine lv_iconst (v := (-1)) hx hb d_Row_at_21 (by decide) ?_
    exact fx_retr hC hr rfl hK hw h d_Row_at_22
  · have h := br0 c1 h
    refine lv_iload_n hx hb d_Row_at_4 rfl (lv_at hl 1 rfl) ?_
    refine lv_aload_n hx hb d_Row_at_5 rfl (lv_at hl 0 rfl) ?_
    refine gf_C_13_count hC hK hw d_Row_at_6 ?_
    refine lv_icmp_ge (tgt := 21) hx hb d_Row_at_9 rfl (fun c2 => ?_) (fun c2 => ?_)
    · have h := br1 c2 h
      refine lv_iconst (v := (-1)) hx hb d_Row_at_21 (by decide) ?_
      exact fx_retr hC hr rfl hK hw h d_Row_at_22
    · have h := br0 c2 h
      refine lv_aload_n hx hb d_Row_at_12 rfl (lv_at hl 0 rfl) ?_
      refine gf_C_13_bytes hC hK hw d_Row_at_13 ?_
      refine lv_iload_n hx hb d_Row_at_16 rfl (lv_at hl 1 rfl) ?_
      refine al_C_14 hC hK hw d_Row_at_17 h (fun h => ?_)
      refine lv_goto (tgt := 22) hx hb d_Row_at_18 rfl ?_
      exact fx_retr hC hr rfl hK hw h d_Row_at_22
def f_Chk_ofData_13_L5 : Nat → ST → Int32 → Int32 → Option (Int32)
  | 0, _, _, _ => none
  | k_ + 1, u, y1, y2 =>
    k_bd (f_Row_size_13 u) fun q1 =>
    if q1 ≤ y2 then
      some (65535 - y1)
    else
    k_bd (f_Row_at_13 u y2) fun q3 =>
    k_bd (f_Chk_withByte y1 q3 33800) fun q4 =>
    f_Chk_ofData_13_L5 k_ u q4 (y2 + 1)
def f_Chk_ofData_13 (u : ST)  : Option (Int32) :=
  f_Chk_ofData_13_L5 200 u 65535 0
set_option maxHeartbeats 4000000 in
set_option maxRecDepth 100000 in
theorem c_Chk_ofData_13 (l : Launch) (D : va_G) (ad : Nat → Nat) (cI cZ cT : ClassId) (v u : ST) (q : Int32) (h : f_Chk_ofData_13 u = some q) : MX l D (tyC cI cZ cT) (wC ad cI cZ cT v) y_Chk_ofData cd_Chk_ofData 1 24 [.ref (ad 13)] u (some (.int q)) u := by
  refine MX.start (by decide) (Nat.le_of_ble_eq_true rfl) ?_
  intro p e s m below meth c ls A hC hr hl hK hA hw
  have ⟨hx, hb, hml, hown, hT, hlk⟩ := hC
  have hl : lv_has ls 3 [(0, .ref (ad 13))] := hl
  have L5 : ∀ (k_ : Nat) (y1 y2 : Int32) (ls : Array Slot) (H : Heap) (locs : List Loc), f_Chk_ofData_13_L5 k_ u y1 y2 = some q → lv_has ls 3 [(0, .ref (ad 13)), (1, .int y1), (2, .int y2)] → fw D A s.heap (wC ad cI cZ cT v u) H locs → WX (wC ad cI cZ cT v) p l e 1 24 s m [.ref (ad 13)] below meth c A D (tyC cI cZ cT) (some (.int q)) u H locs (F0 m 5 ls []) := by
    intro k_
    induction k_ with
    | zero =>
      intro y1 y2 ls H locs h hl hw
      cases h
    | succ k_ ih =>
      intro y1 y2 ls H locs h hl hw
      rw [f_Chk_ofData_13_L5] at h
      refine lv_iload_n hx hb d_Chk_ofData_5 rfl (lv_at hl 2 rfl) ?_
      refine lv_aload_n hx hb d_Chk_ofData_6 rfl (lv_at hl 0 rfl) ?_
      refine fx_sVr (As := []) hC hl.1 (fun q hq => c_Row_size_13 l D ad cI cZ cT v u q hq) fy_Row_size fv_Row_size kw_291 ⟨Nat.le_of_ble_eq_true rfl, Nat.le_of_ble_eq_true rfl⟩ rfl hK hA hw at_C_13 rfl rfl rfl (Nat.le_of_ble_eq_true rfl) d_Chk_ofData_7 ⟨Nat.le_refl _, Nat.le_refl _⟩ h (fun H locs q1 h hw => ?_)
      refine lv_icmp_ge (tgt := 31) hx hb d_Chk_ofData_10 rfl (fun c2 => ?_) (fun c2 => ?_)
      · have h := br1 c2 h
        refine lv_ldc (v := 65535) hx hb hown (hT _ kw_290) d_Chk_ofData_31 ?_
        refine lv_iload_n hx hb d_Chk_ofData_33 rfl (lv_at hl 1 rfl) ?_
        refine lv_isub hx hb d_Chk_ofData_34 ?_
        exact fx_retr hC hr rfl hK hw h d_Chk_ofData_35
      · have h := br0 c2 h
        refine lv_iload_n hx hb d_Chk_ofData_13 rfl (lv_at hl 1 rfl) ?_
        refine lv_aload_n hx hb d_Chk_ofData_14 rfl (lv_at hl 0 rfl) ?_
        refine lv_iload_n hx hb d_Chk_ofData_15 rfl (lv_at hl 2 rfl) ?_
        refine fx_sVr (As := [.int y2]) hC hl.1 (fun q hq => c_Row_at_13 l D ad cI cZ cT v u y2 q hq) fy_Row_at fv_Row_at kw_280 ⟨Nat.le_of_ble_eq_true rfl, Nat.le_of_ble_eq_true rfl⟩ rfl hK hA hw at_C_13 rfl rfl rfl (Nat.le_of_ble_eq_true rfl) d_Chk_ofData_16 ⟨Nat.le_refl _, Nat.le_refl _⟩ h (fun H locs q3 h hw => ?_)
        refine lv_ldc (v := 33800) hx hb hown (hT _ kw_292) d_Chk_ofData_19 ?_
        refine fx_sSr (As := [.int y1, .int q3, .int 33800]) hC hl.1 (fun q hq => c_Chk_withByte l D ad cI cZ cT v u y1 q3 33800 q hq) fy_Chk_withByte fs_Chk_withByte kw_281 ⟨Nat.le_of_ble_eq_true rfl, Nat.le_of_ble_eq_true rfl⟩ rfl hK hA hw rfl (Nat.le_of_ble_eq_true rfl) d_Chk_ofData_21 ⟨Nat.le_refl _, Nat.le_refl _⟩ h (fun H locs q4 h hw => ?_)
        refine lv_istore_n (lv' := [(1, .int q4), (0, .ref (ad 13)), (2, .int y2)]) hx hb d_Chk_ofData_24 rfl hl (by decide) rfl (fun ls hl => ?_)
        refine lv_iinc (k := 2) (v := (y2 + 1)) (lv' := [(2, .int (y2 + 1)), (1, .int q4), (0, .ref (ad 13))]) hx hb d_Chk_ofData_25 hl rfl rfl (by decide) rfl (fun ls hl => ?_)
        refine lv_goto (tgt := 5) hx hb d_Chk_ofData_28 rfl ?_
        exact ih _ _ _ _ _ h (lv_sub hl [2, 1, 0] rfl) hw
  rw [f_Chk_ofData_13] at h
  refine lv_ldc (v := 65535) hx hb hown (hT _ kw_290) d_Chk_ofData_0 ?_
  refine lv_istore_n (lv' := [(1, .int 65535), (0, .ref (ad 13))]) hx hb d_Chk_ofData_2 rfl hl (by decide) rfl (fun ls hl => ?_)
  refine lv_iconst (v := 0) hx hb d_Chk_ofData_3 (by decide) ?_
  refine lv_istore_n (lv' := [(2, .int 0), (1, .int 65535), (0, .ref (ad 13))]) hx hb d_Chk_ofData_4 rfl hl (by decide) rfl (fun ls hl => ?_)
  exact L5 _ _ _ _ _ _ h (lv_sub hl [2, 1, 0] rfl) hw
def f_PT_send_13 (u : ST) (x1 x2 : Int32) : Option (ST) :=
  k_bd (f_Row_put_3 u 85) fun q1 =>
  k_bd (f_Row_put_3 q1 255) fun q2 =>
  k_bd (f_Row_size_3 q2) fun q3 =>
  k_bd (f_Row_put_3 q2 x1) fun q4 =>
  k_bd (f_Row_put_3 q4 x2) fun q5 =>
  k_bd (f_Row_put_3 q5 (q5.1 0)) fun q6 =>
  k_bd (f_Row_size_13 q6) fun q7 =>
  k_bd (f_Row_put_3 q6 (q7 / 256)) fun q8 =>
  k_bd (f_Row_size_13 q8) fun q9 =>
  k_bd (f_Row_put_3 q8 (q9 - q9 / 256 * 256)) fun q10 =>
  k_bd (f_Chk_ofHeader_3 q10 q3) fun q11 =>
  k_bd (f_Row_put_3 q10 q11) fun q12 =>
  k_bd (f_Row_size_13 q12) fun q13 =>
  if q13 ≤ 0 then
    k_let (ss q12 9 0) fun u15 =>
    some u15
  else
  k_bd (f_Row_putAll_3_13 q12) fun q16 =>
  k_bd (f_Chk_ofData_13 q16) fun q17 =>
  k_bd (f_Row_put_3 q16 (q17 - q17 / 256 * 256)) fun q18 =>
  k_bd (f_Row_put_3 q18 (q17 / 256)) fun q19 =>
  k_let (ss q19 9 0) fun u20 =>
  some u20
set_option maxHeartbeats 4000000 in
set_option maxRecDepth 100000 in
theorem c_PT_send_13 (l : Launch) (D : va_G) (ad : Nat → Nat) (cI cZ cT : ClassId) (v u : ST) (x1 x2 : Int32) (q : ST) (h : f_PT_send_13 u x1 x2 = some q) : MX l D (tyC cI cZ cT) (wC ad cI cZ cT v) y_PT_send cd_PT_send 2 47 [.ref (ad 0), .int x1, .int x2, .ref (ad 13)] u none q := by
  refine MX.start (by decide) (Nat.le_of_ble_eq_true rfl) ?_
  intro p e s m below meth c ls A hC hr hl hK hA hw
  have ⟨hx, hb, hml, hown, hT, hlk⟩ := hC
  have hl : lv_has ls 6 [(0, .ref (ad 0)), (1, .int x1), (2, .int x2), (3, .ref (ad 13))] := hl
  rw [f_PT_send_13] at h
  refine lv_aload_n hx hb d_PT_send_0 rfl (lv_at hl 0 rfl) ?_
  refine gf_C_0_out hC hK hw d_PT_send_1 ?_
  refine lv_bipush (v := 85) hx hb d_PT_send_4 (by decide) ?_
  refine fx_sVv (As := [.int 85]) hC hl.1 (fun q hq => c_Row_put_3 l D ad cI cZ cT v u 85 q hq) fy_Row_put fv_Row_put kw_275 ⟨Nat.le_of_ble_eq_true rfl, Nat.le_of_ble_eq_true rfl⟩ rfl hK hA hw at_C_3 rfl rfl rfl (Nat.le_of_ble_eq_true rfl) d_PT_send_6 ⟨Nat.le_refl _, Nat.le_refl _⟩ h (fun H locs q1 h hw => ?_)
  refine lv_aload_n hx hb d_PT_send_9 rfl (lv_at hl 0 rfl) ?_
  refine gf_C_0_out hC hK hw d_PT_send_10 ?_
  refine lv_sipush (v := 255) hx hb d_PT_send_13 (by decide) ?_
  refine fx_sVv (As := [.int 255]) hC hl.1 (fun q hq => c_Row_put_3 l D ad cI cZ cT v q1 255 q hq) fy_Row_put fv_Row_put kw_275 ⟨Nat.le_of_ble_eq_true rfl, Nat.le_of_ble_eq_true rfl⟩ rfl hK hA hw at_C_3 rfl rfl rfl (Nat.le_of_ble_eq_true rfl) d_PT_send_16 ⟨Nat.le_refl _, Nat.le_refl _⟩ h (fun H locs q2 h hw => ?_)
  refine lv_aload_n hx hb d_PT_send_19 rfl (lv_at hl 0 rfl) ?_
  refine gf_C_0_out hC hK hw d_PT_send_20 ?_
  refine fx_sVr (As := []) hC hl.1 (fun q hq => c_Row_size_3 l D ad cI cZ cT v q2 q hq) fy_Row_size fv_Row_size kw_276 ⟨Nat.le_of_ble_eq_true rfl, Nat.le_of_ble_eq_true rfl⟩ rfl hK hA hw at_C_3 rfl rfl rfl (Nat.le_of_ble_eq_true rfl) d_PT_send_23 ⟨Nat.le_refl _, Nat.le_refl _⟩ h (fun H locs q3 h hw => ?_)
  refine lv_istore (lv' := [(4, .int q3), (0, .ref (ad 0)), (1, .int x1), (2, .int x2), (3, .ref (ad 13))]) hx hb d_PT_send_26 hl (by decide) rfl (fun ls hl => ?_)
  refine lv_aload_n hx hb d_PT_send_28 rfl (lv_at hl 1 rfl) ?_
  refine gf_C_0_out hC hK hw d_PT_send_29 ?_
  refine lv_iload_n hx hb d_PT_send_32 rfl (lv_at hl 2 rfl) ?_
  refine fx_sVv (As := [.int x1]) hC hl.1 (fun q hq => c_Row_put_3 l D ad cI cZ cT v q2 x1 q hq) fy_Row_put fv_Row_put kw_275 ⟨Nat.le_of_ble_eq_true rfl, Nat.le_of_ble_eq_true rfl⟩ rfl hK hA hw at_C_3 rfl rfl rfl (Nat.le_of_ble_eq_true rfl) d_PT_send_33 ⟨Nat.le_refl _, Nat.le_refl _⟩ h (fun H locs q4 h hw => ?_)
  refine lv_aload_n hx hb d_PT_send_36 rfl (lv_at hl 1 rfl) ?_
  refine gf_C_0_out hC hK hw d_PT_send_37 ?_
  refine lv_iload_n hx hb d_PT_send_40 rfl (lv_at hl 3 rfl) ?_
  refine fx_sVv (As := [.int x2]) hC hl.1 (fun q hq => c_Row_put_3 l D ad cI cZ cT v q4 x2 q hq) fy_Row_put fv_Row_put kw_275 ⟨Nat.le_of_ble_eq_true rfl, Nat.le_of_ble_eq_true rfl⟩ rfl hK hA hw at_C_3 rfl rfl rfl (Nat.le_of_ble_eq_true rfl) d_PT_send_41 ⟨Nat.le_refl _, Nat.le_refl _⟩ h (fun H locs q5 h hw => ?_)
  refine lv_aload_n hx hb d_PT_send_44 rfl (lv_at hl 1 rfl) ?_
  refine gf_C_0_out hC hK hw d_PT_send_45 ?_
  refine lv_aload_n hx hb d_PT_send_48 rfl (lv_at hl 1 rfl) ?_
  refine gf_C_0_own hC hK hw d_PT_send_49 ?_
  refine fx_sVv (As := [.int (q5.1 0)]) hC hl.1 (fun q hq => c_Row_put_3 l D ad cI cZ cT v q5 (q5.1 0) q hq) fy_Row_put fv_Row_put kw_275 ⟨Nat.le_of_ble_eq_true rfl, Nat.le_of_ble_eq_true rfl⟩ rfl hK hA hw at_C_3 rfl rfl rfl (Nat.le_of_ble_eq_true rfl) d_PT_send_52 ⟨Nat.le_refl _, Nat.le_refl _⟩ h (fun H locs q6 h hw => ?_)
  refine lv_aload_n hx hb d_PT_send_55 rfl (lv_at hl 1 rfl) ?_
  refine gf_C_0_out hC hK hw d_PT_send_56 ?_
  refine lv_aload_n hx hb d_PT_send_59 rfl (lv_at hl 4 rfl) ?_
  refine fx_sVr (As := []) hC hl.1 (fun q hq => c_Row_size_13 l D ad cI cZ cT v q6 q hq) fy_Row_size fv_Row_size kw_276 ⟨Nat.le_of_ble_eq_true rfl, Nat.le_of_ble_eq_true rfl⟩ rfl hK hA hw at_C_13 rfl rfl rfl (Nat.le_of_ble_eq_true rfl) d_PT_send_60 ⟨Nat.le_refl _, Nat.le_refl _⟩ h (fun H locs q7 h hw => ?_)
  refine lv_sipush (v := 256) hx hb d_PT_send_63 (by decide) ?_
  refine lv_idiv hx hb d_PT_send_66 (by decide) ?_
  refine fx_sVv (As := [.int (q7 / 256)]) hC hl.1 (fun q hq => c_Row_put_3 l D ad cI cZ cT v q6 (q7 / 256) q hq) fy_Row_put fv_Row_put kw_275 ⟨Nat.le_of_ble_eq_true rfl, Nat.le_of_ble_eq_true rfl⟩ rfl hK hA hw at_C_3 rfl rfl rfl (Nat.le_of_ble_eq_true rfl) d_PT_send_67 ⟨Nat.le_refl _, Nat.le_refl _⟩ h (fun H locs q8 h hw => ?_)
  refine lv_aload_n hx hb d_PT_send_70 rfl (lv_at hl 1 rfl) ?_
  refine gf_C_0_out hC hK hw d_PT_send_71 ?_
  refine lv_aload_n hx hb d_PT_send_74 rfl (lv_at hl 4 rfl) ?_
  refine fx_sVr (As := []) hC hl.1 (fun q hq => c_Row_size_13 l D ad cI cZ cT v q8 q hq) fy_Row_size fv_Row_size kw_276 ⟨Nat.le_of_ble_eq_true rfl, Nat.le_of_ble_eq_true rfl⟩ rfl hK hA hw at_C_13 rfl rfl rfl (Nat.le_of_ble_eq_true rfl) d_PT_send_75 ⟨Nat.le_refl _, Nat.le_refl _⟩ h (fun H locs q9 h hw => ?_)
  refine lv_sipush (v := 256) hx hb d_PT_send_78 (by decide) ?_
  refine lv_irem hx hb d_PT_send_81 (by decide) ?_
  refine fx_sVv (As := [.int (q9 - q9 / 256 * 256)]) hC hl.1 (fun q hq => c_Row_put_3 l D ad cI cZ cT v q8 (q9 - q9 / 256 * 256) q hq) fy_Row_put fv_Row_put kw_275 ⟨Nat.le_of_ble_eq_true rfl, Nat.le_of_ble_eq_true rfl⟩ rfl hK hA hw at_C_3 rfl rfl rfl (Nat.le_of_ble_eq_true rfl) d_PT_send_82 ⟨Nat.le_refl _, Nat.le_refl _⟩ h (fun H locs q10 h hw => ?_)
  refine lv_aload_n hx hb d_PT_send_85 rfl (lv_at hl 1 rfl) ?_
  refine gf_C_0_out hC hK hw d_PT_send_86 ?_
  refine lv_aload_n hx hb d_PT_send_89 rfl (lv_at hl 1 rfl) ?_
  refine gf_C_0_out hC hK hw d_PT_send_90 ?_
  refine lv_iload hx hb d_PT_send_93 (lv_at hl 0 rfl) ?_
  refine fx_sSr (As := [.ref (ad 3), .int q3]) hC hl.1 (fun q hq => c_Chk_ofHeader_3 l D ad cI cZ cT v q10 q3 q hq) fy_Chk_ofHeader fs_Chk_ofHeader kw_277 ⟨Nat.le_of_ble_eq_true rfl, Nat.le_of_ble_eq_true rfl⟩ rfl hK hA hw rfl (Nat.le_of_ble_eq_true rfl) d_PT_send_95 ⟨Nat.le_refl _, Nat.le_refl _⟩ h (fun H locs q11 h hw => ?_)
  refine fx_sVv (As := [.int q11]) hC hl.1 (fun q hq => c_Row_put_3 l D ad cI cZ cT v q10 q11 q hq) fy_Row_put fv_Row_put kw_275 ⟨Nat.le_of_ble_eq_true rfl, Nat.le_of_ble_eq_true rfl⟩ rfl hK hA hw at_C_3 rfl rfl rfl (Nat.le_of_ble_eq_true rfl) d_PT_send_98 ⟨Nat.le_refl _, Nat.le_refl _⟩ h (fun H locs q12 h hw => ?_)
  refine lv_aload_n hx hb d_PT_send_101 rfl (lv_at hl 4 rfl) ?_
  refine fx_sVr (As := []) hC hl.1 (fun q hq => c_Row_size_13 l D ad cI cZ cT v q12 q hq) fy_Row_size fv_Row_size kw_276 ⟨Nat.le_of_ble_eq_true rfl, Nat.le_of_ble_eq_true rfl⟩ rfl hK hA hw at_C_13 rfl rfl rfl (Nat.le_of_ble_eq_true rfl) d_PT_send_102 ⟨Nat.le_refl _, Nat.le_refl _⟩ h (fun H locs q13 h hw => ?_)
  refine lv_if_le (tgt := 148) hx hb d_PT_send_105 rfl (fun c14 => ?_) (fun c14 => ?_)
  · have h := br1 c14 h
    refine lv_aload_n hx hb d_PT_send_148 rfl (lv_at hl 1 rfl) ?_
    refine lv_iconst (v := 0) hx hb d_PT_send_149 (by decide) ?_
    refine pf_C_0_stillness hC hK hw d_PT_send_150 h (fun H locs u15 h hw => ?_)
    exact fx_retv hC hr hK hw h d_PT_send_153
  · have h := br0 c14 h
    refine lv_aload_n hx hb d_PT_send_108 rfl (lv_at hl 1 rfl) ?_
    refine gf_C_0_out hC hK hw d_PT_send_109 ?_
    refine lv_aload_n hx hb d_PT_send_112 rfl (lv_at hl 4 rfl) ?_
    refine fx_sVv (As := [.ref (ad 13)]) hC hl.1 (fun q hq => c_Row_putAll_3_13 l D ad cI cZ cT v q12 q hq) fy_Row_putAll fv_Row_putAll kw_282 ⟨Nat.le_of_ble_eq_true rfl, Nat.le_of_ble_eq_true rfl⟩ rfl hK hA hw at_C_3 rfl rfl rfl (Nat.le_of_ble_eq_true rfl) d_PT_send_113 ⟨Nat.le_refl _, Nat.le_refl _⟩ h (fun H locs q16 h hw => ?_)
    refine lv_aload_n hx hb d_PT_send_116 rfl (lv_at hl 4 rfl) ?_
    refine fx_sSr (As := [.ref (ad 13)]) hC hl.1 (fun q hq => c_Chk_ofData_13 l D ad cI cZ cT v q16 q hq) fy_Chk_ofData fs_Chk_ofData kw_287 ⟨Nat.le_of_ble_eq_true rfl, Nat.le_of_ble_eq_true rfl⟩ rfl hK hA hw rfl (Nat.le_of_ble_eq_true rfl) d_PT_send_117 ⟨Nat.le_refl _, Nat.le_refl _⟩ h (fun H locs q17 h hw => ?_)
    refine lv_istore (lv' := [(5, .int q17), (4, .int q3), (0, .ref (ad 0)), (1, .int x1), (2, .int x2), (3, .ref (ad 13))]) hx hb d_PT_send_120 hl (by decide) rfl (fun ls hl => ?_)
    refine lv_aload_n hx hb d_PT_send_122 rfl (lv_at hl 2 rfl) ?_
    refine gf_C_0_out hC hK hw d_PT_send_123 ?_
    refine lv_iload hx hb d_PT_send_126 (lv_at hl 0 rfl) ?_
    refine lv_sipush (v := 256) hx hb d_PT_send_128 (by decide) ?_
    refine lv_irem hx hb d_PT_send_131 (by decide) ?_
    refine fx_sVv (As := [.int (q17 - q17 / 256 * 256)]) hC hl.1 (fun q hq => c_Row_put_3 l D ad cI cZ cT v q16 (q17 - q17 / 256 * 256) q hq) fy_Row_put fv_Row_put kw_275 ⟨Nat.le_of_ble_eq_true rfl, Nat.le_of_ble_eq_true rfl⟩ rfl hK hA hw at_C_3 rfl rfl rfl (Nat.le_of_ble_eq_true rfl) d_PT_send_132 ⟨Nat.le_refl _, Nat.le_refl _⟩ h (fun H locs q18 h hw => ?_)
    refine lv_aload_n hx hb d_PT_send_135 rfl (lv_at hl 2 rfl) ?_
    refine gf_C_0_out hC hK hw d_PT_send_136 ?_
    refine lv_iload hx hb d_PT_send_139 (lv_at hl 0 rfl) ?_
    refine lv_sipush (v := 256) hx hb d_PT_send_141 (by decide) ?_
    refine lv_idiv hx hb d_PT_send_144 (by decide) ?_
    refine fx_sVv (As := [.int (q17 / 256)]) hC hl.1 (fun q hq => c_Row_put_3 l D ad cI cZ cT v q18 (q17 / 256) q hq) fy_Row_put fv_Row_put kw_275 ⟨Nat.le_of_ble_eq_true rfl, Nat.le_of_ble_eq_true rfl⟩ rfl hK hA hw at_C_3 rfl rfl rfl (Nat.le_of_ble_eq_true rfl) d_PT_send_145 ⟨Nat.le_refl _, Nat.le_refl _⟩ h (fun H locs q19 h hw => ?_)
    refine lv_aload_n hx hb d_PT_send_148 rfl (lv_at hl 2 rfl) ?_
    refine lv_iconst (v := 0) hx hb d_PT_send_149 (by decide) ?_
    refine pf_C_0_stillness hC hK hw d_PT_send_150 h (fun H locs u20 h hw => ?_)
    exact fx_retv hC hr hK hw h d_PT_send_153
def f_Row_clear_15 (u : ST)  : Option (ST) :=
  k_let (ss u 31 0) fun u1 =>
  some u1
set_option maxHeartbeats 4000000 in
set_option maxRecDepth 100000 in
theorem c_Row_clear_15 (l : Launch) (D : va_G) (ad : Nat → Nat) (cI cZ cT : ClassId) (v u : ST) (q : ST) (h : f_Row_clear_15 u = some q) : MX l D (tyC cI cZ cT) (wC ad cI cZ cT v) y_Row_clear cd_Row_clear 0 0 [.ref (ad 15)] u none q := by
  refine MX.start (by decide) (Nat.le_of_ble_eq_true rfl) ?_
  intro p e s m below meth c ls A hC hr hl hK hA hw
  have ⟨hx, hb, hml, hown, hT, hlk⟩ := hC
  have hl : lv_has ls 1 [(0, .ref (ad 15))] := hl
  rw [f_Row_clear_15] at h
  refine lv_aload_n hx hb d_Row_clear_0 rfl (lv_at hl 0 rfl) ?_
  refine lv_iconst (v := 0) hx hb d_Row_clear_1 (by decide) ?_
  refine pf_C_15_count hC hK hw d_Row_clear_2 h (fun H locs u1 h hw => ?_)
  exact fx_retv hC hr hK hw h d_Row_clear_5
def f_Desk_isForDesk_13 (u : ST)  : Option (Int32) :=
  k_bd (f_Row_size_13 u) fun q1 =>
  if q1 < 6 then
    some 0
  else
  k_bd (f_Row_at_13 u 0) fun q3 =>
  if q3 = 1 then
    k_bd (f_Row_at_13 u 1) fun q5 =>
    if q5 = 4 then
      k_bd (f_Row_at_13 u 2) fun q7 =>
      if q7 = 0 then
        some 1
      else
      some 0
    else
    some 0
  else
  some 0
set_option maxHeartbeats 4000000 in
set_option maxRecDepth 100000 in
theorem c_Desk_isForDesk_13 (l : Launch) (D : va_G) (ad : Nat → Nat) (cI cZ cT : ClassId) (v u : ST) (q : Int32) (h : f_Desk_isForDesk_13 u = some q) : MX l D (tyC cI cZ cT) (wC ad cI cZ cT v) y_Desk_isForDesk cd_Desk_isForDesk 1 21 [.ref (ad 13)] u (some (.int q)) u := by
  refine MX.start (by decide) (Nat.le_of_ble_eq_true rfl) ?_
  intro p e s m below meth c ls A hC hr hl hK hA hw
  have ⟨hx, hb, hml, hown, hT, hlk⟩ := hC
  have hl : lv_has ls 1 [(0, .ref (ad 13))] := hl
  rw [f_Desk_isForDesk_13] at h
  refine lv_aload_n hx hb d_Desk_isForDesk_0 rfl (lv_at hl 0 rfl) ?_
  refine fx_sVr (As := []) hC hl.1 (fun q hq => c_Row_size_13 l D ad cI cZ cT v u q hq) fy_Row_size fv_Row_size kw_305 ⟨Nat.le_of_ble_eq_true rfl, Nat.le_of_ble_eq_true rfl⟩ rfl hK hA hw at_C_13 rfl rfl rfl (Nat.le_of_ble_eq_true rfl) d_Desk_isForDesk_1 ⟨Nat.le_refl _, Nat.le_refl _⟩ h (fun H locs q1 h hw => ?_)
  refine lv_bipush (v := 6) hx hb d_Desk_isForDesk_4 (by decide) ?_
  refine lv_icmp_lt (tgt := 39) hx hb d_Desk_isForDesk_6 rfl (fun c2 => ?_) (fun c2 => ?_)
  · have h := br1 c2 h
    refine lv_iconst (v := 0) hx hb d_Desk_isForDesk_39 (by decide) ?_
    exact fx_retr hC hr (by decide) hK hw h d_Desk_isForDesk_40
  · have h := br0 c2 h
    refine lv_aload_n hx hb d_Desk_isForDesk_9 rfl (lv_at hl 0 rfl) ?_
    refine lv_iconst (v := 0) hx hb d_Desk_isForDesk_10 (by decide) ?_
    refine fx_sVr (As := [.int 0]) hC hl.1 (fun q hq => c_Row_at_13 l D ad cI cZ cT v u 0 q hq) fy_Row_at fv_Row_at kw_306 ⟨Nat.le_of_ble_eq_true rfl, Nat.le_of_ble_eq_true rfl⟩ rfl hK hA hw at_C_13 rfl rfl rfl (Nat.le_of_ble_eq_true rfl) d_Desk_isForDesk_11 ⟨Nat.le_refl _, Nat.le_refl _⟩ h (fun H locs q3 h hw => ?_)
    refine lv_iconst (v := 1) hx hb d_Desk_isForDesk_14 (by decide) ?_
    refine lv_icmp_ne (tgt := 39) hx hb d_Desk_isForDesk_15 rfl (fun c4 => ?_) (fun c4 => ?_)
    · have h := br0 c4 h
      refine lv_iconst (v := 0) hx hb d_Desk_isForDesk_39 (by decide) ?_
      exact fx_retr hC hr (by decide) hK hw h d_Desk_isForDesk_40
    · have h := br1 c4 h
      refine lv_aload_n hx hb d_Desk_isForDesk_18 rfl (lv_at hl 0 rfl) ?_
      refine lv_iconst (v := 1) hx hb d_Desk_isForDesk_19 (by decide) ?_
      refine fx_sVr (As := [.int 1]) hC hl.1 (fun q hq => c_Row_at_13 l D ad cI cZ cT v u 1 q hq) fy_Row_at fv_Row_at kw_306 ⟨Nat.le_of_ble_eq_true rfl, Nat.le_of_ble_eq_true rfl⟩ rfl hK hA hw at_C_13 rfl rfl rfl (Nat.le_of_ble_eq_true rfl) d_Desk_isForDesk_20 ⟨Nat.le_refl _, Nat.le_refl _⟩ h (fun H locs q5 h hw => ?_)
      refine lv_iconst (v := 4) hx hb d_Desk_isForDesk_23 (by decide) ?_
      refine lv_icmp_ne (tgt := 39) hx hb d_Desk_isForDesk_24 rfl (fun c6 => ?_) (fun c6 => ?_)
      · have h := br0 c6 h
        refine lv_iconst (v := 0) hx hb d_Desk_isForDesk_39 (by decide) ?_
        exact fx_retr hC hr (by decide) hK hw h d_Desk_isForDesk_40
      · have h := br1 c6 h
        refine lv_aload_n hx hb d_Desk_isForDesk_27 rfl (lv_at hl 0 rfl) ?_
        refine lv_iconst (v := 2) hx hb d_Desk_isForDesk_28 (by decide) ?_
        refine fx_sVr (As := [.int 2]) hC hl.1 (fun q hq => c_Row_at_13 l D ad cI cZ cT v u 2 q hq) fy_Row_at fv_Row_at kw_306 ⟨Nat.le_of_ble_eq_true rfl, Nat.le_of_ble_eq_true rfl⟩ rfl hK hA hw at_C_13 rfl rfl rfl (Nat.le_of_ble_eq_true rfl) d_Desk_isForDesk_29 ⟨Nat.le_refl _, Nat.le_refl _⟩ h (fun H locs q7 h hw => ?_)
        refine lv_if_ne (tgt := 39) hx hb d_Desk_isForDesk_32 rfl (fun c8 => ?_) (fun c8 => ?_)
        · have h := br0 c8 h
          refine lv_iconst (v := 0) hx hb d_Desk_isForDesk_39 (by decide) ?_
          exact fx_retr hC hr (by decide) hK hw h d_Desk_isForDesk_40
        · have h := br1 c8 h
          refine lv_iconst (v := 1) hx hb d_Desk_isForDesk_35 (by decide) ?_
          refine lv_goto (tgt := 40) hx hb d_Desk_isForDesk_36 rfl ?_
          exact fx_retr hC hr (by decide) hK hw h d_Desk_isForDesk_40
def f_Desk_follows (u : ST) (x1 : Int32) : Option (Int32 × ST) :=
  k_gd ((u.1 32) = 1) (
  k_bd (f_Row_at_13 u (u.1 16)) fun q1 =>
  if q1 = x1 then
    k_let (ss u 16 ((u.1 16) + 1)) fun u3 =>
    some (1, u3)
  else
  some (0, u))
set_option maxHeartbeats 4000000 in
set_option maxRecDepth 100000 in
theorem c_Desk_follows (l : Launch) (D : va_G) (ad : Nat → Nat) (cI cZ cT : ClassId) (v u : ST) (x1 : Int32) (q : Int32 × ST) (h : f_Desk_follows u x1 = some q) : MX l D (tyC cI cZ cT) (wC ad cI cZ cT v) y_Desk_follows cd_Desk_follows 1 21 [.ref (ad 2), .int x1] u (some (.int q.1)) q.2 := by
  refine MX.start (by decide) (Nat.le_of_ble_eq_true rfl) ?_
  intro p e s m below meth c ls A hC hr hl hK hA hw
  have ⟨hx, hb, hml, hown, hT, hlk⟩ := hC
  have hl : lv_has ls 2 [(0, .ref (ad 2)), (1, .int x1)] := hl
  rw [f_Desk_follows] at h
  refine lv_aload_n hx hb d_Desk_follows_0 rfl (lv_at hl 0 rfl) ?_
  refine gf_C_2_asked hC hK hw d_Desk_follows_1 h (fun h => ?_)
  refine lv_aload_n hx hb d_Desk_follows_4 rfl (lv_at hl 0 rfl) ?_
  refine gf_C_2_at hC hK hw d_Desk_follows_5 ?_
  refine fx_sVr (As := [.int (u.1 16)]) hC hl.1 (fun q hq => c_Row_at_13 l D ad cI cZ cT v u (u.1 16) q hq) fy_Row_at fv_Row_at kw_306 ⟨Nat.le_of_ble_eq_true rfl, Nat.le_of_ble_eq_true rfl⟩ rfl hK hA hw at_C_13 rfl rfl rfl (Nat.le_of_ble_eq_true rfl) d_Desk_follows_8 ⟨Nat.le_refl _, Nat.le_refl _⟩ h (fun H locs q1 h hw => ?_)
  refine lv_iload_n hx hb d_Desk_follows_11 rfl (lv_at hl 1 rfl) ?_
  refine lv_icmp_eq (tgt := 17) hx hb d_Desk_follows_12 rfl (fun c2 => ?_) (fun c2 => ?_)
  · have h := br1 c2 h
    refine lv_aload_n hx hb d_Desk_follows_17 rfl (lv_at hl 0 rfl) ?_
    refine lv_dup hx hb d_Desk_follows_18 rfl ?_
    refine gf_C_2_at hC hK hw d_Desk_follows_19 ?_
    refine lv_iconst (v := 1) hx hb d_Desk_follows_22 (by decide) ?_
    refine lv_iadd hx hb d_Desk_follows_23 ?_
    refine pf_C_2_at hC hK hw d_Desk_follows_24 h (fun H locs u3 h hw => ?_)
    refine lv_iconst (v := 1) hx hb d_Desk_follows_27 (by decide) ?_
    exact fx_retw hC hr (by decide) hK hw h d_Desk_follows_28
  · have h := br0 c2 h
    refine lv_iconst (v := 0) hx hb d_Desk_follows_15 (by decide) ?_
    exact fx_retw hC hr (by decide) hK hw h d_Desk_follows_16
def f_Desk_nextInt_L4 : Nat → ST → Int32 → Int32 → Option (Int32 × ST)
  | 0, _, _, _ => none
  | k_ + 1, u, y1, y2 =>
    if 4 ≤ y2 then
      k_let (ss u 16 ((u.1 16) + 4)) fun u2 =>
      some (y1, u2)
    else
    k_gd ((u.1 32) = 1) (
    k_bd (f_Row_at_13 u ((u.1 16) + y2)) fun q3 =>
    f_Desk_nextInt_L4 k_ u ((y1 <<< (8 &&& 31)) ||| q3) (y2 + 1))
def f_Desk_nextInt (u : ST)  : Option (Int32 × ST) :=
  f_Desk_nextInt_L4 200 u 0 0
set_option maxHeartbeats 4000000 in
set_option maxRecDepth 100000 in
theorem c_Desk_nextInt (l : Launch) (D : va_G) (ad : Nat → Nat) (cI cZ cT : ClassId) (v u : ST) (q : Int32 × ST) (h : f_Desk_nextInt u = some q) : MX l D (tyC cI cZ cT) (wC ad cI cZ cT v) y_Desk_nextInt cd_Desk_nextInt 1 21 [.ref (ad 2)] u (some (.int q.1)) q.2 := by
  refine MX.start (by decide) (Nat.le_of_ble_eq_true rfl) ?_
  intro p e s m below meth c ls A hC hr hl hK hA hw
  have ⟨hx, hb, hml, hown, hT, hlk⟩ := hC
  have hl : lv_has ls 3 [(0, .ref (ad 2))] := hl
  have L4 : ∀ (k_ : Nat) (u : ST) (y1 y2 : Int32) (ls : Array Slot) (H : Heap) (locs : List Loc), f_Desk_nextInt_L4 k_ u y1 y2 = some q → lv_has ls 3 [(0, .ref (ad 2)), (1, .int y1), (2, .int y2)] → fw D A s.heap (wC ad cI cZ cT v u) H locs → WX (wC ad cI cZ cT v) p l e 1 21 s m [.ref (ad 2)] below meth c A D (tyC cI cZ cT) (some (.int q.1)) q.2 H locs (F0 m 4 ls []) := by
    intro k_
    induction k_ with
    | zero =>
      intro u y1 y2 ls H locs h hl hw
      cases h
    | succ k_ ih =>
      intro u y1 y2 ls H locs h hl hw
      rw [f_Desk_nextInt_L4] at h
      refine lv_iload_n hx hb d_Desk_nextInt_4 rfl (lv_at hl 2 rfl) ?_
      refine lv_iconst (v := 4) hx hb d_Desk_nextInt_5 (by decide) ?_
      refine lv_icmp_ge (tgt := 34) hx hb d_Desk_nextInt_6 rfl (fun c1 => ?_) (fun c1 => ?_)
      · have h := br1 c1 h
        refine lv_aload_n hx hb d_Desk_nextInt_34 rfl (lv_at hl 0 rfl) ?_
        refine lv_dup hx hb d_Desk_nextInt_35 rfl ?_
        refine gf_C_2_at hC hK hw d_Desk_nextInt_36 ?_
        refine lv_iconst (v := 4) hx hb d_Desk_nextInt_39 (by decide) ?_
        refine lv_iadd hx hb d_Desk_nextInt_40 ?_
        refine pf_C_2_at hC hK hw d_Desk_nextInt_41 h (fun H locs u2 h hw => ?_)
        refine lv_iload_n hx hb d_Desk_nextInt_44 rfl (lv_at hl 1 rfl) ?_
        exact fx_retw hC hr rfl hK hw h d_Desk_nextInt_45
      · have h := br0 c1 h
        refine lv_iload_n hx hb d_Desk_nextInt_9 rfl (lv_at hl 1 rfl) ?_
        refine lv_bipush (v := 8) hx hb d_Desk_nextInt_10 (by decide) ?_
        refine lv_ishl hx hb d_Desk_nextInt_12 ?_
        refine lv_aload_n hx hb d_Desk_nextInt_13 rfl (lv_at hl 0 rfl) ?_
        refine gf_C_2_asked hC hK hw d_Desk_nextInt_14 h (fun h => ?_)
        refine lv_aload_n hx hb d_Desk_nextInt_17 rfl (lv_at hl 0 rfl) ?_
        refine gf_C_2_at hC hK hw d_Desk_nextInt_18 ?_
        refine lv_iload_n hx hb d_Desk_nextInt_21 rfl (lv_at hl 2 rfl) ?_
        refine lv_iadd hx hb d_Desk_nextInt_22 ?_
        refine fx_sVr (As := [.int ((u.1 16) + y2)]) hC hl.1 (fun q hq => c_Row_at_13 l D ad cI cZ cT v u ((u.1 16) + y2) q hq) fy_Row_at fv_Row_at kw_306 ⟨Nat.le_of_ble_eq_true rfl, Nat.le_of_ble_eq_true rfl⟩ rfl hK hA hw at_C_13 rfl rfl rfl (Nat.le_of_ble_eq_true rfl) d_Desk_nextInt_23 ⟨Nat.le_refl _, Nat.le_refl _⟩ h (fun H locs q3 h hw => ?_)
        refine lv_ior hx hb d_Desk_nextInt_26 ?_
        refine lv_istore_n (lv' := [(1, .int ((y1 <<< (8 &&& 31)) ||| q3)), (0, .ref (ad 2)), (2, .int y2)]) hx hb d_Desk_nextInt_27 rfl hl (by decide) rfl (fun ls hl => ?_)
        refine lv_iinc (k := 2) (v := (y2 + 1)) (lv' := [(2, .int (y2 + 1)), (1, .int ((y1 <<< (8 &&& 31)) ||| q3)), (0, .ref (ad 2))]) hx hb d_Desk_nextInt_28 hl rfl rfl (by decide) rfl (fun ls hl => ?_)
        refine lv_goto (tgt := 4) hx hb d_Desk_nextInt_31 rfl ?_
        exact ih _ _ _ _ _ _ h (lv_sub hl [2, 1, 0] rfl) hw
  rw [f_Desk_nextInt] at h
  refine lv_iconst (v := 0) hx hb d_Desk_nextInt_0 (by decide) ?_
  refine lv_istore_n (lv' := [(1, .int 0), (0, .ref (ad 2))]) hx hb d_Desk_nextInt_1 rfl hl (by decide) rfl (fun ls hl => ?_)
  refine lv_iconst (v := 0) hx hb d_Desk_nextInt_2 (by decide) ?_
  refine lv_istore_n (lv' := [(2, .int 0), (1, .int 0), (0, .ref (ad 2))]) hx hb d_Desk_nextInt_3 rfl hl (by decide) rfl (fun ls hl => ?_)
  exact L4 _ _ _ _ _ _ _ h (lv_sub hl [2, 1, 0] rfl) hw
def f_Desk_nextByte (u : ST)  : Option (Int32 × ST) :=
  k_gd ((u.1 32) = 1) (
  k_bd (f_Row_at_13 u (u.1 16)) fun q1 =>
  k_let (ss u 16 ((u.1 16) + 1)) fun u2 =>
  some (q1, u2))
set_option maxHeartbeats 4000000 in
set_option maxRecDepth 100000 in
theorem c_Desk_nextByte (l : Launch) (D : va_G) (ad : Nat → Nat) (cI cZ cT : ClassId) (v u : ST) (q : Int32 × ST) (h : f_Desk_nextByte u = some q) : MX l D (tyC cI cZ cT) (wC ad cI cZ cT v) y_Desk_nextByte cd_Desk_nextByte 1 21 [.ref (ad 2)] u (some (.int q.1)) q.2 := by
  refine MX.start (by decide) (Nat.le_of_ble_eq_true rfl) ?_
  intro p e s m below meth c ls A hC hr hl hK hA hw
  have ⟨hx, hb, hml, hown, hT, hlk⟩ := hC
  have hl : lv_has ls 2 [(0, .ref (ad 2))] := hl
  rw [f_Desk_nextByte] at h
  refine lv_aload_n hx hb d_Desk_nextByte_0 rfl (lv_at hl 0 rfl) ?_
  refine gf_C_2_asked hC hK hw d_Desk_nextByte_1 h (fun h => ?_)
  refine lv_aload_n hx hb d_Desk_nextByte_4 rfl (lv_at hl 0 rfl) ?_
  refine gf_C_2_at hC hK hw d_Desk_nextByte_5 ?_
  refine fx_sVr (As := [.int (u.1 16)]) hC hl.1 (fun q hq => c_Row_at_13 l D ad cI cZ cT v u (u.1 16) q hq) fy_Row_at fv_Row_at kw_306 ⟨Nat.le_of_ble_eq_true rfl, Nat.le_of_ble_eq_true rfl⟩ rfl hK hA hw at_C_13 rfl rfl rfl (Nat.le_of_ble_eq_true rfl) d_Desk_nextByte_8 ⟨Nat.le_refl _, Nat.le_refl _⟩ h (fun H locs q1 h hw => ?_)
  refine lv_istore_n (lv' := [(1, .int q1), (0, .ref (ad 2))]) hx hb d_Desk_nextByte_11 rfl hl (by decide) rfl (fun ls hl => ?_)
  refine lv_aload_n hx hb d_Desk_nextByte_12 rfl (lv_at hl 1 rfl) ?_
  refine lv_dup hx hb d_Desk_nextByte_13 rfl ?_
  refine gf_C_2_at hC hK hw d_Desk_nextByte_14 ?_
  refine lv_iconst (v := 1) hx hb d_Desk_nextByte_17 (by decide) ?_
  refine lv_iadd hx hb d_Desk_nextByte_18 ?_
  refine pf_C_2_at hC hK hw d_Desk_nextByte_19 h (fun H locs u2 h hw => ?_)
  refine lv_iload_n hx hb d_Desk_nextByte_22 rfl (lv_at hl 0 rfl) ?_
  exact fx_retw hC hr rfl hK hw h d_Desk_nextByte_23
def f_Desk_takesPlace (u : ST)  : Option (Int32 × ST) :=
  k_bd (f_Desk_follows u 12) fun q1 =>
  if q1.1 = 0 then
    some (0, q1.2)
  else
  k_bd (f_Desk_nextInt q1.2) fun q3 =>
  k_let (ss q3.2 19 q3.1) fun u4 =>
  k_bd (f_Desk_follows u4 25) fun q5 =>
  if q5.1 = 0 then
    some (0, q5.2)
  else
  k_bd (f_Desk_nextByte q5.2) fun q7 =>
  k_let (ss q7.2 20 q7.1) fun u8 =>
  k_bd (f_Desk_follows u8 41) fun q9 =>
  if q9.1 = 0 then
    k_let (ss q9.2 21 (-1)) fun u11 =>
    some (1, u11)
  else
  k_bd (f_Desk_nextByte q9.2) fun q12 =>
  k_let (ss q12.2 21 q12.1) fun u13 =>
  some (1, u13)
set_option maxHeartbeats 4000000 in
set_option maxRecDepth 100000 in
theorem c_Desk_takesPlace (l : Launch) (D : va_G) (ad : Nat → Nat) (cI cZ cT : ClassId) (v u : ST) (q : Int32 × ST) (h : f_Desk_takesPlace u = some q) : MX l D (tyC cI cZ cT) (wC ad cI cZ cT v) y_Desk_takesPlace cd_Desk_takesPlace 2 43 [.ref (ad 2)] u (some (.int q.1)) q.2 := by
  refine MX.start (by decide) (Nat.le_of_ble_eq_true rfl) ?_
  intro p e s m below meth c ls A hC hr hl hK hA hw
  have ⟨hx, hb, hml, hown, hT, hlk⟩ := hC
  have hl : lv_has ls 1 [(0, .ref (ad 2))] := hl
  rw [f_Desk_takesPlace] at h
  refine lv_aload_n hx hb d_Desk_takesPlace_0 rfl (lv_at hl 0 rfl) ?_
  refine lv_bipush (v := 12) hx hb d_Desk_takesPlace_1 (by decide) ?_
  refine fx_sVi (As := [.int 12]) hC hl.1 (fun q hq => c_Desk_follows l D ad cI cZ cT v u 12 q hq) fy_Desk_follows fv_Desk_follows kw_316 ⟨Nat.le_of_ble_eq_true rfl, Nat.le_of_ble_eq_true rfl⟩ rfl hK hA hw at_C_2 rfl rfl rfl (Nat.le_of_ble_eq_true rfl) d_Desk_takesPlace_3 ⟨Nat.le_refl _, Nat.le_refl _⟩ h (fun H locs q1 h hw => ?_)
  refine lv_if_ne (tgt := 11) hx hb d_Desk_takesPlace_6 rfl (fun c2 => ?_) (fun c2 => ?_)
  · have h := br0 c2 h
    refine lv_aload_n hx hb d_Desk_takesPlace_11 rfl (lv_at hl 0 rfl) ?_
    refine lv_aload_n hx hb d_Desk_takesPlace_12 rfl (lv_at hl 0 rfl) ?_
    refine fx_sVi (As := []) hC hl.1 (fun q hq => c_Desk_nextInt l D ad cI cZ cT v q1.2 q hq) fy_Desk_nextInt fv_Desk_nextInt kw_320 ⟨Nat.le_of_ble_eq_true rfl, Nat.le_of_ble_eq_true rfl⟩ rfl hK hA hw at_C_2 rfl rfl rfl (Nat.le_of_ble_eq_true rfl) d_Desk_takesPlace_13 ⟨Nat.le_refl _, Nat.le_refl _⟩ h (fun H locs q3 h hw => ?_)
    refine pf_C_2_reference hC hK hw d_Desk_takesPlace_16 h (fun H locs u4 h hw => ?_)
    refine lv_aload_n hx hb d_Desk_takesPlace_19 rfl (lv_at hl 0 rfl) ?_
    refine lv_bipush (v := 25) hx hb d_Desk_takesPlace_20 (by decide) ?_
    refine fx_sVi (As := [.int 25]) hC hl.1 (fun q hq => c_Desk_follows l D ad cI cZ cT v u4 25 q hq) fy_Desk_follows fv_Desk_follows kw_316 ⟨Nat.le_of_ble_eq_true rfl, Nat.le_of_ble_eq_true rfl⟩ rfl hK hA hw at_C_2 rfl rfl rfl (Nat.le_of_ble_eq_true rfl) d_Desk_takesPlace_22 ⟨Nat.le_refl _, Nat.le_refl _⟩ h (fun H locs q5 h hw => ?_)
    refine lv_if_ne (tgt := 30) hx hb d_Desk_takesPlace_25 rfl (fun c6 => ?_) (fun c6 => ?_)
    · have h := br0 c6 h
      refine lv_aload_n hx hb d_Desk_takesPlace_30 rfl (lv_at hl 0 rfl) ?_
      refine lv_aload_n hx hb d_Desk_takesPlace_31 rfl (lv_at hl 0 rfl) ?_
      refine fx_sVi (As := []) hC hl.1 (fun q hq => c_Desk_nextByte l D ad cI cZ cT v q5.2 q hq) fy_Desk_nextByte fv_Desk_nextByte kw_324 ⟨Nat.le_of_ble_eq_true rfl, Nat.le_of_ble_eq_true rfl⟩ rfl hK hA hw at_C_2 rfl rfl rfl (Nat.le_of_ble_eq_true rfl) d_Desk_takesPlace_32 ⟨Nat.le_refl _, Nat.le_refl _⟩ h (fun H locs q7 h hw => ?_)
      refine pf_C_2_property hC hK hw d_Desk_takesPlace_35 h (fun H locs u8 h hw => ?_)
      refine lv_aload_n hx hb d_Desk_takesPlace_38 rfl (lv_at hl 0 rfl) ?_
      refine lv_aload_n hx hb d_Desk_takesPlace_39 rfl (lv_at hl 0 rfl) ?_
      refine lv_bipush (v := 41) hx hb d_Desk_takesPlace_40 (by decide) ?_
      refine fx_sVi (As := [.int 41]) hC hl.1 (fun q hq => c_Desk_follows l D ad cI cZ cT v u8 41 q hq) fy_Desk_follows fv_Desk_follows kw_316 ⟨Nat.le_of_ble_eq_true rfl, Nat.le_of_ble_eq_true rfl⟩ rfl hK hA hw at_C_2 rfl rfl rfl (Nat.le_of_ble_eq_true rfl) d_Desk_takesPlace_42 ⟨Nat.le_refl _, Nat.le_refl _⟩ h (fun H locs q9 h hw => ?_)
      refine lv_if_eq (tgt := 55) hx hb d_Desk_takesPlace_45 rfl (fun c10 => ?_) (fun c10 => ?_)
      · have h := br1 c10 h
        refine lv_iconst (v := (-1)) hx hb d_Desk_takesPlace_55 (by decide) ?_
        refine pf_C_2_index hC hK hw d_Desk_takesPlace_56 h (fun H locs u11 h hw => ?_)
        refine lv_iconst (v := 1) hx hb d_Desk_takesPlace_59 (by decide) ?_
        exact fx_retw hC hr (by decide) hK hw h d_Desk_takesPlace_60
      · have h := br0 c10 h
        refine lv_aload_n hx hb d_Desk_takesPlace_48 rfl (lv_at hl 0 rfl) ?_
        refine fx_sVi (As := []) hC hl.1 (fun q hq => c_Desk_nextByte l D ad cI cZ cT v q9.2 q hq) fy_Desk_nextByte fv_Desk_nextByte kw_324 ⟨Nat.le_of_ble_eq_true rfl, Nat.le_of_ble_eq_true rfl⟩ rfl hK hA hw at_C_2 rfl rfl rfl (Nat.le_of_ble_eq_true rfl) d_Desk_takesPlace_49 ⟨Nat.le_refl _, Nat.le_refl _⟩ h (fun H locs q12 h hw => ?_)
        refine lv_goto (tgt := 56) hx hb d_Desk_takesPlace_52 rfl ?_
        refine pf_C_2_index hC hK hw d_Desk_takesPlace_56 h (fun H locs u13 h hw => ?_)
        refine lv_iconst (v := 1) hx hb d_Desk_takesPlace_59 (by decide) ?_
        exact fx_retw hC hr (by decide) hK hw h d_Desk_takesPlace_60
    · have h := br1 c6 h
      refine lv_iconst (v := 0) hx hb d_Desk_takesPlace_28 (by decide) ?_
      exact fx_retw hC hr (by decide) hK hw h d_Desk_takesPlace_29
  · have h := br1 c2 h
    refine lv_iconst (v := 0) hx hb d_Desk_takesPlace_9 (by decide) ?_
    exact fx_retw hC hr (by decide) hK hw h d_Desk_takesPlace_10
def f_Row_put_15 (u : ST) (x1 : Int32) : Option (ST) :=
  if 32 ≤ (u.1 31) then
    some u
  else
  k_gd (inb (u.1 31) 32) (
  k_let (rs u 6 (u.1 31).toNatClampNeg x1) fun u2 =>
  k_let (ss u2 31 ((u2.1 31) + 1)) fun u3 =>
  some u3)
set_option maxHeartbeats 4000000 in
set_option maxRecDepth 100000 in
theorem c_Row_put_15 (l : Launch) (D : va_G) (ad : Nat → Nat) (cI cZ cT : ClassId) (v u : ST) (x1 : Int32) (q : ST) (h : f_Row_put_15 u x1 = some q) : MX l D (tyC cI cZ cT) (wC ad cI cZ cT v) y_Row_put cd_Row_put 0 0 [.ref (ad 15), .int x1] u none q := by
  refine MX.start (by decide) (Nat.le_of_ble_eq_true rfl) ?_
  intro p e s m below meth c ls A hC hr hl hK hA hw
  have ⟨hx, hb, hml, hown, hT, hlk⟩ := hC
  have hl : lv_has ls 2 [(0, .ref (ad 15)), (1, .int x1)] := hl
  rw [f_Row_put_15] at h
  refine lv_aload_n hx hb d_Row_put_0 rfl (lv_at hl 0 rfl) ?_
  refine gf_C_15_count hC hK hw d_Row_put_1 ?_
  refine lv_aload_n hx hb d_Row_put_4 rfl (lv_at hl 0 rfl) ?_
  refine gf_C_15_bytes hC hK hw d_Row_put_5 ?_
  refine ln_C_16 hC hK hw d_Row_put_8 ?_
  refine lv_icmp_ge (tgt := 32) hx hb d_Row_put_9 rfl (fun c1 => ?_) (fun c1 => ?_)
  · have h := br1 c1 h
    exact fx_retv hC hr hK hw h d_Row_put_32
  · have h := br0 c1 h
    refine lv_aload_n hx hb d_Row_put_12 rfl (lv_at hl 0 rfl) ?_
    refine gf_C_15_bytes hC hK hw d_Row_put_13 ?_
    refine lv_aload_n hx hb d_Row_put_16 rfl (lv_at hl 0 rfl) ?_
    refine gf_C_15_count hC hK hw d_Row_put_17 ?_
    refine lv_iload_n hx hb d_Row_put_20 rfl (lv_at hl 1 rfl) ?_
    refine as_C_16 hC hK hw d_Row_put_21 h (fun H locs u2 h hw => ?_)
    refine lv_aload_n hx hb d_Row_put_22 rfl (lv_at hl 0 rfl) ?_
    refine lv_dup hx hb d_Row_put_23 rfl ?_
    refine gf_C_15_count hC hK hw d_Row_put_24 ?_
    refine lv_iconst (v := 1) hx hb d_Row_put_27 (by decide) ?_
    refine lv_iadd hx hb d_Row_put_28 ?_
    refine pf_C_15_count hC hK hw d_Row_put_29 h (fun H locs u3 h hw => ?_)
    exact fx_retv hC hr hK hw h d_Row_put_32
