def f_PT_isByte (x0 : Int32) : Option (Int32) :=
  if x0 < 0 then
    some 0
  else
  if 255 < x0 then
    some 0
  else
  some 1
set_option maxHeartbeats 4000000 in
set_option maxRecDepth 100000 in
theorem c_PT_isByte (l : Launch) (D : va_G) (ad : Nat → Nat) (cI cZ cT : ClassId) (v u : ST) (x0 : Int32) (q : Int32) (h : f_PT_isByte x0 = some q) : MX l D (tyC cI cZ cT) (wC ad cI cZ cT v) y_PT_isByte cd_PT_isByte 0 0 [.int x0] u (some (.int q)) u := by
  refine MX.start (by decide) (Nat.le_of_ble_eq_true rfl) ?_
  intro p e s m below meth c ls A hC hr hl hK hA hw
  have ⟨hx, hb, hml, hown, hT, hlk⟩ := hC
  have hl : lv_has ls 1 [(0, .int x0)] := hl
  rw [f_PT_isByte] at h
  refine lv_iload_n hx hb d_PT_isByte_0 rfl (lv_at hl 0 rfl) ?_
  refine lv_if_lt (tgt := 15) hx hb d_PT_isByte_1 rfl (fun c1 => ?_) (fun c1 => ?_)
  · have h := br1 c1 h
    refine lv_iconst (v := 0) hx hb d_PT_isByte_15 (by decide) ?_
    exact fx_retr hC hr (by decide) hK hw h d_PT_isByte_16
  · have h := br0 c1 h
    refine lv_iload_n hx hb d_PT_isByte_4 rfl (lv_at hl 0 rfl) ?_
    refine lv_sipush (v := 255) hx hb d_PT_isByte_5 (by decide) ?_
    refine lv_icmp_gt (tgt := 15) hx hb d_PT_isByte_8 rfl (fun c2 => ?_) (fun c2 => ?_)
    · have h := br1 c2 h
      refine lv_iconst (v := 0) hx hb d_PT_isByte_15 (by decide) ?_
      exact fx_retr hC hr (by decide) hK hw h d_PT_isByte_16
    · have h := br0 c2 h
      refine lv_iconst (v := 1) hx hb d_PT_isByte_11 (by decide) ?_
      refine lv_goto (tgt := 16) hx hb d_PT_isByte_12 rfl ?_
      exact fx_retr hC hr (by decide) hK hw h d_PT_isByte_16
def f_Row_clear_3 (u : ST)  : Option (ST) :=
  k_let (ss u 25 0) fun u1 =>
  some u1
set_option maxHeartbeats 4000000 in
set_option maxRecDepth 100000 in
theorem c_Row_clear_3 (l : Launch) (D : va_G) (ad : Nat → Nat) (cI cZ cT : ClassId) (v u : ST) (q : ST) (h : f_Row_clear_3 u = some q) : MX l D (tyC cI cZ cT) (wC ad cI cZ cT v) y_Row_clear cd_Row_clear 0 0 [.ref (ad 3)] u none q := by
  refine MX.start (by decide) (Nat.le_of_ble_eq_true rfl) ?_
  intro p e s m below meth c ls A hC hr hl hK hA hw
  have ⟨hx, hb, hml, hown, hT, hlk⟩ := hC
  have hl : lv_has ls 1 [(0, .ref (ad 3))] := hl
  rw [f_Row_clear_3] at h
  refine lv_aload_n hx hb d_Row_clear_0 rfl (lv_at hl 0 rfl) ?_
  refine lv_iconst (v := 0) hx hb d_Row_clear_1 (by decide) ?_
  refine pf_C_3_count hC hK hw d_Row_clear_2 h (fun H locs u1 h hw => ?_)
  exact fx_retv hC hr hK hw h d_Row_clear_5
def f_Row_clear_11 (u : ST)  : Option (ST) :=
  k_let (ss u 29 0) fun u1 =>
  some u1
set_option maxHeartbeats 4000000 in
set_option maxRecDepth 100000 in
theorem c_Row_clear_11 (l : Launch) (D : va_G) (ad : Nat → Nat) (cI cZ cT : ClassId) (v u : ST) (q : ST) (h : f_Row_clear_11 u = some q) : MX l D (tyC cI cZ cT) (wC ad cI cZ cT v) y_Row_clear cd_Row_clear 0 0 [.ref (ad 11)] u none q := by
  refine MX.start (by decide) (Nat.le_of_ble_eq_true rfl) ?_
  intro p e s m below meth c ls A hC hr hl hK hA hw
  have ⟨hx, hb, hml, hown, hT, hlk⟩ := hC
  have hl : lv_has ls 1 [(0, .ref (ad 11))] := hl
  rw [f_Row_clear_11] at h
  refine lv_aload_n hx hb d_Row_clear_0 rfl (lv_at hl 0 rfl) ?_
  refine lv_iconst (v := 0) hx hb d_Row_clear_1 (by decide) ?_
  refine pf_C_11_count hC hK hw d_Row_clear_2 h (fun H locs u1 h hw => ?_)
  exact fx_retv hC hr hK hw h d_Row_clear_5
def f_Row_clear_13 (u : ST)  : Option (ST) :=
  k_let (ss u 30 0) fun u1 =>
  some u1
set_option maxHeartbeats 4000000 in
set_option maxRecDepth 100000 in
theorem c_Row_clear_13 (l : Launch) (D : va_G) (ad : Nat → Nat) (cI cZ cT : ClassId) (v u : ST) (q : ST) (h : f_Row_clear_13 u = some q) : MX l D (tyC cI cZ cT) (wC ad cI cZ cT v) y_Row_clear cd_Row_clear 0 0 [.ref (ad 13)] u none q := by
  refine MX.start (by decide) (Nat.le_of_ble_eq_true rfl) ?_
  intro p e s m below meth c ls A hC hr hl hK hA hw
  have ⟨hx, hb, hml, hown, hT, hlk⟩ := hC
  have hl : lv_has ls 1 [(0, .ref (ad 13))] := hl
  rw [f_Row_clear_13] at h
  refine lv_aload_n hx hb d_Row_clear_0 rfl (lv_at hl 0 rfl) ?_
  refine lv_iconst (v := 0) hx hb d_Row_clear_1 (by decide) ?_
  refine pf_C_13_count hC hK hw d_Row_clear_2 h (fun H locs u1 h hw => ?_)
  exact fx_retv hC hr hK hw h d_Row_clear_5
def f_Ear_takeSecond (u : ST) (x1 : Int32) : Option (ST) :=
  if x1 = 255 then
    k_let (ss u 13 2) fun u4 =>
    k_bd (f_Row_clear_11 u4) fun q5 =>
    k_bd (f_Row_clear_13 q5) fun q6 =>
    k_let (ss q6 14 255) fun u7 =>
    some u7
  else
  if x1 = 85 then
    some u
  else
  k_let (ss u 13 0) fun u3 =>
  some u3
set_option maxHeartbeats 4000000 in
set_option maxRecDepth 100000 in
theorem c_Ear_takeSecond (l : Launch) (D : va_G) (ad : Nat → Nat) (cI cZ cT : ClassId) (v u : ST) (x1 : Int32) (q : ST) (h : f_Ear_takeSecond u x1 = some q) : MX l D (tyC cI cZ cT) (wC ad cI cZ cT v) y_Ear_takeSecond cd_Ear_takeSecond 1 20 [.ref (ad 1), .int x1] u none q := by
  refine MX.start (by decide) (Nat.le_of_ble_eq_true rfl) ?_
  intro p e s m below meth c ls A hC hr hl hK hA hw
  have ⟨hx, hb, hml, hown, hT, hlk⟩ := hC
  have hl : lv_has ls 2 [(0, .ref (ad 1)), (1, .int x1)] := hl
  rw [f_Ear_takeSecond] at h
  refine lv_iload_n hx hb d_Ear_takeSecond_0 rfl (lv_at hl 1 rfl) ?_
  refine lv_sipush (v := 255) hx hb d_Ear_takeSecond_1 (by decide) ?_
  refine lv_icmp_ne (tgt := 36) hx hb d_Ear_takeSecond_4 rfl (fun c1 => ?_) (fun c1 => ?_)
  · have h := br0 c1 h
    refine lv_iload_n hx hb d_Ear_takeSecond_36 rfl (lv_at hl 1 rfl) ?_
    refine lv_bipush (v := 85) hx hb d_Ear_takeSecond_37 (by decide) ?_
    refine lv_icmp_eq (tgt := 47) hx hb d_Ear_takeSecond_39 rfl (fun c2 => ?_) (fun c2 => ?_)
    · have h := br1 c2 h
      exact fx_retv hC hr hK hw h d_Ear_takeSecond_47
    · have h := br0 c2 h
      refine lv_aload_n hx hb d_Ear_takeSecond_42 rfl (lv_at hl 0 rfl) ?_
      refine lv_iconst (v := 0) hx hb d_Ear_takeSecond_43 (by decide) ?_
      refine pf_C_1_stage hC hK hw d_Ear_takeSecond_44 h (fun H locs u3 h hw => ?_)
      exact fx_retv hC hr hK hw h d_Ear_takeSecond_47
  · have h := br1 c1 h
    refine lv_aload_n hx hb d_Ear_takeSecond_7 rfl (lv_at hl 0 rfl) ?_
    refine lv_iconst (v := 2) hx hb d_Ear_takeSecond_8 (by decide) ?_
    refine pf_C_1_stage hC hK hw d_Ear_takeSecond_9 h (fun H locs u4 h hw => ?_)
    refine lv_aload_n hx hb d_Ear_takeSecond_12 rfl (lv_at hl 0 rfl) ?_
    refine gf_C_1_header hC hK hw d_Ear_takeSecond_13 ?_
    refine fx_sVv (As := []) hC hl.1 (fun q hq => c_Row_clear_11 l D ad cI cZ cT v u4 q hq) fy_Row_clear fv_Row_clear kw_208 ⟨Nat.le_of_ble_eq_true rfl, Nat.le_of_ble_eq_true rfl⟩ rfl hK hA hw at_C_11 rfl rfl rfl (Nat.le_of_ble_eq_true rfl) d_Ear_takeSecond_16 ⟨Nat.le_refl _, Nat.le_refl _⟩ h (fun H locs q5 h hw => ?_)
    refine lv_aload_n hx hb d_Ear_takeSecond_19 rfl (lv_at hl 0 rfl) ?_
    refine gf_C_1_data hC hK hw d_Ear_takeSecond_20 ?_
    refine fx_sVv (As := []) hC hl.1 (fun q hq => c_Row_clear_13 l D ad cI cZ cT v q5 q hq) fy_Row_clear fv_Row_clear kw_208 ⟨Nat.le_of_ble_eq_true rfl, Nat.le_of_ble_eq_true rfl⟩ rfl hK hA hw at_C_13 rfl rfl rfl (Nat.le_of_ble_eq_true rfl) d_Ear_takeSecond_23 ⟨Nat.le_refl _, Nat.le_refl _⟩ h (fun H locs q6 h hw => ?_)
    refine lv_aload_n hx hb d_Ear_takeSecond_26 rfl (lv_at hl 0 rfl) ?_
    refine lv_sipush (v := 255) hx hb d_Ear_takeSecond_27 (by decide) ?_
    refine pf_C_1_check hC hK hw d_Ear_takeSecond_30 h (fun H locs u7 h hw => ?_)
    refine lv_goto (tgt := 47) hx hb d_Ear_takeSecond_33 rfl ?_
    exact fx_retv hC hr hK hw h d_Ear_takeSecond_47
def f_Row_put_11 (u : ST) (x1 : Int32) : Option (ST) :=
  if 5 ≤ (u.1 29) then
    some u
  else
  k_gd (inb (u.1 29) 5) (
  k_let (rs u 4 (u.1 29).toNatClampNeg x1) fun u2 =>
  k_let (ss u2 29 ((u2.1 29) + 1)) fun u3 =>
  some u3)
set_option maxHeartbeats 4000000 in
set_option maxRecDepth 100000 in
theorem c_Row_put_11 (l : Launch) (D : va_G) (ad : Nat → Nat) (cI cZ cT : ClassId) (v u : ST) (x1 : Int32) (q : ST) (h : f_Row_put_11 u x1 = some q) : MX l D (tyC cI cZ cT) (wC ad cI cZ cT v) y_Row_put cd_Row_put 0 0 [.ref (ad 11), .int x1] u none q := by
  refine MX.start (by decide) (Nat.le_of_ble_eq_true rfl) ?_
  intro p e s m below meth c ls A hC hr hl hK hA hw
  have ⟨hx, hb, hml, hown, hT, hlk⟩ := hC
  have hl : lv_has ls 2 [(0, .ref (ad 11)), (1, .int x1)] := hl
  rw [f_Row_put_11] at h
  refine lv_aload_n hx hb d_Row_put_0 rfl (lv_at hl 0 rfl) ?_
  refine gf_C_11_count hC hK hw d_Row_put_1 ?_
  refine lv_aload_n hx hb d_Row_put_4 rfl (lv_at hl 0 rfl) ?_
  refine gf_C_11_bytes hC hK hw d_Row_put_5 ?_
  refine ln_C_12 hC hK hw d_Row_put_8 ?_
  refine lv_icmp_ge (tgt := 32) hx hb d_Row_put_9 rfl (fun c1 => ?_) (fun c1 => ?_)
  · have h := br1 c1 h
    exact fx_retv hC hr hK hw h d_Row_put_32
  · have h := br0 c1 h
    refine lv_aload_n hx hb d_Row_put_12 rfl (lv_at hl 0 rfl) ?_
    refine gf_C_11_bytes hC hK hw d_Row_put_13 ?_
    refine lv_aload_n hx hb d_Row_put_16 rfl (lv_at hl 0 rfl) ?_
    refine gf_C_11_count hC hK hw d_Row_put_17 ?_
    refine lv_iload_n hx hb d_Row_put_20 rfl (lv_at hl 1 rfl) ?_
    refine as_C_12 hC hK hw d_Row_put_21 h (fun H locs u2 h hw => ?_)
    refine lv_aload_n hx hb d_Row_put_22 rfl (lv_at hl 0 rfl) ?_
    refine lv_dup hx hb d_Row_put_23 rfl ?_
    refine gf_C_11_count hC hK hw d_Row_put_24 ?_
    refine lv_iconst (v := 1) hx hb d_Row_put_27 (by decide) ?_
    refine lv_iadd hx hb d_Row_put_28 ?_
    refine pf_C_11_count hC hK hw d_Row_put_29 h (fun H locs u3 h hw => ?_)
    exact fx_retv hC hr hK hw h d_Row_put_32
def f_Chk_withByte_L7 : Nat → Int32 → Int32 → Int32 → Option (Int32)
  | 0, _, _, _ => none
  | k_ + 1, y2, y3, y4 =>
    if 8 ≤ y4 then
      some y3
    else
    if (y3 &&& 1) = 1 then
      f_Chk_withByte_L7 k_ y2 ((us y3 1) ^^^ y2) (y4 + 1)
    else
    f_Chk_withByte_L7 k_ y2 (us y3 1) (y4 + 1)
def f_Chk_withByte (x0 x1 x2 : Int32) : Option (Int32) :=
  f_Chk_withByte_L7 200 x2 (x0 ^^^ x1) 0
set_option maxHeartbeats 4000000 in
set_option maxRecDepth 100000 in
theorem c_Chk_withByte (l : Launch) (D : va_G) (ad : Nat → Nat) (cI cZ cT : ClassId) (v u : ST) (x0 x1 x2 : Int32) (q : Int32) (h : f_Chk_withByte x0 x1 x2 = some q) : MX l D (tyC cI cZ cT) (wC ad cI cZ cT v) y_Chk_withByte cd_Chk_withByte 0 0 [.int x0, .int x1, .int x2] u (some (.int q)) u := by
  refine MX.start (by decide) (Nat.le_of_ble_eq_true rfl) ?_
  intro p e s m below meth c ls A hC hr hl hK hA hw
  have ⟨hx, hb, hml, hown, hT, hlk⟩ := hC
  have hl : lv_has ls 5 [(0, .int x0), (1, .int x1), (2, .int x2)] := hl
  have L7 : ∀ (k_ : Nat) (y2 y3 y4 : Int32) (ls : Array Slot) (H : Heap) (locs : List Loc), f_Chk_withByte_L7 k_ y2 y3 y4 = some q → lv_has ls 5 [(2, .int y2), (3, .int y3), (4, .int y4)] → fw D A s.heap (wC ad cI cZ cT v u) H locs → WX (wC ad cI cZ cT v) p l e 0 0 s m [.int x0, .int x1, .int x2] below meth c A D (tyC cI cZ cT) (some (.int q)) u H locs (F0 m 7 ls []) := by
    intro k_
    induction k_ with
    | zero =>
      intro y2 y3 y4 ls H locs h hl hw
      cases h
    | succ k_ ih =>
      intro y2 y3 y4 ls H locs h hl hw
      rw [f_Chk_withByte_L7] at h
      refine lv_iload hx hb d_Chk_withByte_7 (lv_at hl 2 rfl) ?_
      refine lv_bipush (v := 8) hx hb d_Chk_withByte_9 (by decide) ?_
      refine lv_icmp_ge (tgt := 39) hx hb d_Chk_withByte_11 rfl (fun c1 => ?_) (fun c1 => ?_)
      · have h := br1 c1 h
        refine lv_iload_n hx hb d_Chk_withByte_39 rfl (lv_at hl 1 rfl) ?_
        exact fx_retr hC hr rfl hK hw h d_Chk_withByte_40
      · have h := br0 c1 h
        refine lv_iload_n hx hb d_Chk_withByte_14 rfl (lv_at hl 1 rfl) ?_
        refine lv_iconst (v := 1) hx hb d_Chk_withByte_15 (by decide) ?_
        refine lv_iand hx hb d_Chk_withByte_16 ?_
        refine lv_iconst (v := 1) hx hb d_Chk_withByte_17 (by decide) ?_
        refine lv_icmp_ne (tgt := 29) hx hb d_Chk_withByte_18 rfl (fun c2 => ?_) (fun c2 => ?_)
        · have h := br0 c2 h
          refine lv_iload_n hx hb d_Chk_withByte_29 rfl (lv_at hl 1 rfl) ?_
          refine lv_iconst (v := 1) hx hb d_Chk_withByte_30 (by decide) ?_
          refine lv_iushr (v := (us y3 1)) hx hb d_Chk_withByte_31 rfl ?_
          refine lv_istore_n (lv' := [(3, .int (us y3 1)), (2, .int y2), (4, .int y4)]) hx hb d_Chk_withByte_32 rfl hl (by decide) rfl (fun ls hl => ?_)
          refine lv_iinc (k := 2) (v := (y4 + 1)) (lv' := [(4, .int (y4 + 1)), (3, .int (us y3 1)), (2, .int y2)]) hx hb d_Chk_withByte_33 hl rfl rfl (by decide) rfl (fun ls hl => ?_)
          refine lv_goto (tgt := 7) hx hb d_Chk_withByte_36 rfl ?_
          exact ih _ _ _ _ _ _ h (lv_sub hl [2, 1, 0] rfl) hw
        · have h := br1 c2 h
          refine lv_iload_n hx hb d_Chk_withByte_21 rfl (lv_at hl 1 rfl) ?_
          refine lv_iconst (v := 1) hx hb d_Chk_withByte_22 (by decide) ?_
          refine lv_iushr (v := (us y3 1)) hx hb d_Chk_withByte_23 rfl ?_
          refine lv_iload_n hx hb d_Chk_withByte_24 rfl (lv_at hl 0 rfl) ?_
          refine lv_ixor hx hb d_Chk_withByte_25 ?_
          refine lv_goto (tgt := 32) hx hb d_Chk_withByte_26 rfl ?_
          refine lv_istore_n (lv' := [(3, .int ((us y3 1) ^^^ y2)), (2, .int y2), (4, .int y4)]) hx hb d_Chk_withByte_32 rfl hl (by decide) rfl (fun ls hl => ?_)
          refine lv_iinc (k := 2) (v := (y4 + 1)) (lv' := [(4, .int (y4 + 1)), (3, .int ((us y3 1) ^^^ y2)), (2, .int y2)]) hx hb d_Chk_withByte_33 hl rfl rfl (by decide) rfl (fun ls hl => ?_)
          refine lv_goto (tgt := 7) hx hb d_Chk_withByte_36 rfl ?_
          exact ih _ _ _ _ _ _ h (lv_sub hl [2, 1, 0] rfl) hw
  rw [f_Chk_withByte] at h
  refine lv_iload_n hx hb d_Chk_withByte_0 rfl (lv_at hl 0 rfl) ?_
  refine lv_iload_n hx hb d_Chk_withByte_1 rfl (lv_at hl 1 rfl) ?_
  refine lv_ixor hx hb d_Chk_withByte_2 ?_
  refine lv_istore_n (lv' := [(3, .int (x0 ^^^ x1)), (0, .int x0), (1, .int x1), (2, .int x2)]) hx hb d_Chk_withByte_3 rfl hl (by decide) rfl (fun ls hl => ?_)
  refine lv_iconst (v := 0) hx hb d_Chk_withByte_4 (by decide) ?_
  refine lv_istore (lv' := [(4, .int 0), (3, .int (x0 ^^^ x1)), (0, .int x0), (1, .int x1), (2, .int x2)]) hx hb d_Chk_withByte_5 hl (by decide) rfl (fun ls hl => ?_)
  exact L7 _ _ _ _ _ _ _ h (lv_sub hl [4, 1, 0] rfl) hw
def f_Row_size_11 (u : ST)  : Option (Int32) :=
  some (u.1 29)
set_option maxHeartbeats 4000000 in
set_option maxRecDepth 100000 in
theorem c_Row_size_11 (l : Launch) (D : va_G) (ad : Nat → Nat) (cI cZ cT : ClassId) (v u : ST) (q : Int32) (h : f_Row_size_11 u = some q) : MX l D (tyC cI cZ cT) (wC ad cI cZ cT v) y_Row_size cd_Row_size 0 0 [.ref (ad 11)] u (some (.int q)) u := by
  refine MX.start (by decide) (Nat.le_of_ble_eq_true rfl) ?_
  intro p e s m below meth c ls A hC hr hl hK hA hw
  have ⟨hx, hb, hml, hown, hT, hlk⟩ := hC
  have hl : lv_has ls 1 [(0, .ref (ad 11))] := hl
  rw [f_Row_size_11] at h
  refine lv_aload_n hx hb d_Row_size_0 rfl (lv_at hl 0 rfl) ?_
  refine gf_C_11_count hC hK hw d_Row_size_1 ?_
  exact fx_retr hC hr rfl hK hw h d_Row_size_4
def f_Ear_takeHeader (u : ST) (x1 : Int32) : Option (ST) :=
  k_bd (f_Row_put_11 u x1) fun q1 =>
  k_bd (f_Chk_withByte (q1.1 14) x1 129) fun q2 =>
  k_let (ss q1 14 q2) fun u3 =>
  k_bd (f_Row_size_11 u3) fun q4 =>
  if q4 = 5 then
    k_let (ss u3 13 3) fun u6 =>
    some u6
  else
  some u3
set_option maxHeartbeats 4000000 in
set_option maxRecDepth 100000 in
theorem c_Ear_takeHeader (l : Launch) (D : va_G) (ad : Nat → Nat) (cI cZ cT : ClassId) (v u : ST) (x1 : Int32) (q : ST) (h : f_Ear_takeHeader u x1 = some q) : MX l D (tyC cI cZ cT) (wC ad cI cZ cT v) y_Ear_takeHeader cd_Ear_takeHeader 1 24 [.ref (ad 1), .int x1] u none q := by
  refine MX.start (by decide) (Nat.le_of_ble_eq_true rfl) ?_
  intro p e s m below meth c ls A hC hr hl hK hA hw
  have ⟨hx, hb, hml, hown, hT, hlk⟩ := hC
  have hl : lv_has ls 2 [(0, .ref (ad 1)), (1, .int x1)] := hl
  rw [f_Ear_takeHeader] at h
  refine lv_aload_n hx hb d_Ear_takeHeader_0 rfl (lv_at hl 0 rfl) ?_
  refine gf_C_1_header hC hK hw d_Ear_takeHeader_1 ?_
  refine lv_iload_n hx hb d_Ear_takeHeader_4 rfl (lv_at hl 1 rfl) ?_
  refine fx_sVv (As := [.int x1]) hC hl.1 (fun q hq => c_Row_put_11 l D ad cI cZ cT v u x1 q hq) fy_Row_put fv_Row_put kw_213 ⟨Nat.le_of_ble_eq_true rfl, Nat.le_of_ble_eq_true rfl⟩ rfl hK hA hw at_C_11 rfl rfl rfl (Nat.le_of_ble_eq_true rfl) d_Ear_takeHeader_5 ⟨Nat.le_refl _, Nat.le_refl _⟩ h (fun H locs q1 h hw => ?_)
  refine lv_aload_n hx hb d_Ear_takeHeader_8 rfl (lv_at hl 0 rfl) ?_
  refine lv_aload_n hx hb d_Ear_takeHeader_9 rfl (lv_at hl 0 rfl) ?_
  refine gf_C_1_check hC hK hw d_Ear_takeHeader_10 ?_
  refine lv_iload_n hx hb d_Ear_takeHeader_13 rfl (lv_at hl 1 rfl) ?_
  refine lv_sipush (v := 129) hx hb d_Ear_takeHeader_14 (by decide) ?_
  refine fx_sSr (As := [.int (q1.1 14), .int x1, .int 129]) hC hl.1 (fun q hq => c_Chk_withByte l D ad cI cZ cT v q1 (q1.1 14) x1 129 q hq) fy_Chk_withByte fs_Chk_withByte kw_217 ⟨Nat.le_of_ble_eq_true rfl, Nat.le_of_ble_eq_true rfl⟩ rfl hK hA hw rfl (Nat.le_of_ble_eq_true rfl) d_Ear_takeHeader_17 ⟨Nat.le_refl _, Nat.le_refl _⟩ h (fun H locs q2 h hw => ?_)
  refine pf_C_1_check hC hK hw d_Ear_takeHeader_20 h (fun H locs u3 h hw => ?_)
  refine lv_aload_n hx hb d_Ear_takeHeader_23 rfl (lv_at hl 0 rfl) ?_
  refine gf_C_1_header hC hK hw d_Ear_takeHeader_24 ?_
  refine fx_sVr (As := []) hC hl.1 (fun q hq => c_Row_size_11 l D ad cI cZ cT v u3 q hq) fy_Row_size fv_Row_size kw_220 ⟨Nat.le_of_ble_eq_true rfl, Nat.le_of_ble_eq_true rfl⟩ rfl hK hA hw at_C_11 rfl rfl rfl (Nat.le_of_ble_eq_true rfl) d_Ear_takeHeader_27 ⟨Nat.le_refl _, Nat.le_refl _⟩ h (fun H locs q4 h hw => ?_)
  refine lv_iconst (v := 5) hx hb d_Ear_takeHeader_30 (by decide) ?_
  refine lv_icmp_ne (tgt := 39) hx hb d_Ear_takeHeader_31 rfl (fun c5 => ?_) (fun c5 => ?_)
  · have h := br0 c5 h
    exact fx_retv hC hr hK hw h d_Ear_takeHeader_39
  · have h := br1 c5 h
    refine lv_aload_n hx hb d_Ear_takeHeader_34 rfl (lv_at hl 0 rfl) ?_
    refine lv_iconst (v := 3) hx hb d_Ear_takeHeader_35 (by decide) ?_
    refine pf_C_1_stage hC hK hw d_Ear_takeHeader_36 h (fun H locs u6 h hw => ?_)
    exact fx_retv hC hr hK hw h d_Ear_takeHeader_39
def f_Row_at_11 (u : ST) (x1 : Int32) : Option (Int32) :=
  if x1 < 0 then
    some (-1)
  else
  if (u.1 29) ≤ x1 then
    some (-1)
  else
  k_gd (inb x1 5) (
  some (u.2 4 x1.toNatClampNeg))
set_option maxHeartbeats 4000000 in
set_option maxRecDepth 100000 in
theorem c_Row_at_11 (l : Launch) (D : va_G) (ad : Nat → Nat) (cI cZ cT : ClassId) (v u : ST) (x1 : Int32) (q : Int32) (h : f_Row_at_11 u x1 = some q) : MX l D (tyC cI cZ cT) (wC ad cI cZ cT v) y_Row_at cd_Row_at 0 0 [.ref (ad 11), .int x1] u (some (.int q)) u := by
  refine MX.start (by decide) (Nat.le_of_ble_eq_true rfl) ?_
  intro p e s m below meth c ls A hC hr hl hK hA hw
  have ⟨hx, hb, hml, hown, hT, hlk⟩ := hC
  have hl : lv_has ls 2 [(0, .ref (ad 11)), (1, .int x1)] := hl
  rw [f_Row_at_11] at h
  refine lv_iload_n hx hb d_Row_at_0 rfl (lv_at hl 1 rfl) ?_
  refine lv_if_lt (tgt := 21) hx hb d_Row_at_1 rfl (fun c1 => ?_) (fun c1 => ?_)
  · have h := br1 c1 h
    refine lv_iconst (v := (-1)) hx hb d_Row_at_21 (by decide) ?_
    exact fx_retr hC hr rfl hK hw h d_Row_at_22
  · have h := br0 c1 h
    refine lv_iload_n hx hb d_Row_at_4 rfl (lv_at hl 1 rfl) ?_
    refine lv_aload_n hx hb d_Row_at_5 rfl (lv_at hl 0 rfl) ?_
    refine gf_C_11_count hC hK hw d_Row_at_6 ?_
    refine lv_icmp_ge (tgt := 21) hx hb d_Row_at_9 rfl (fun c2 => ?_) (fun c2 => ?_)
    · have h := br1 c2 h
      refine lv_iconst (v := (-1)) hx hb d_Row_at_21 (by decide) ?_
      exact fx_retr hC hr rfl hK hw h d_Row_at_22
    · have h := br0 c2 h
      refine lv_aload_n hx hb d_Row_at_12 rfl (lv_at hl 0 rfl) ?_
      refine gf_C_11_bytes hC hK hw d_Row_at_13 ?_
      refine lv_iload_n hx hb d_Row_at_16 rfl (lv_at hl 1 rfl) ?_
      refine al_C_12 hC hK hw d_Row_at_17 h (fun h => ?_)
      refine lv_goto (tgt := 22) hx hb d_Row_at_18 rfl ?_
      exact fx_retr hC hr rfl hK hw h d_Row_at_22
def f_Ear_dataBytes (u : ST)  : Option (Int32) :=
  k_bd (f_Row_at_11 u 3) fun q1 =>
  k_bd (f_Row_at_11 u 4) fun q2 =>
  some ((256 * q1) + q2)
set_option maxHeartbeats 4000000 in
set_option maxRecDepth 100000 in
theorem c_Ear_dataBytes (l : Launch) (D : va_G) (ad : Nat → Nat) (cI cZ cT : ClassId) (v u : ST) (q : Int32) (h : f_Ear_dataBytes u = some q) : MX l D (tyC cI cZ cT) (wC ad cI cZ cT v) y_Ear_dataBytes cd_Ear_dataBytes 1 21 [.ref (ad 1)] u (some (.int q)) u := by
  refine MX.start (by decide) (Nat.le_of_ble_eq_true rfl) ?_
  intro p e s m below meth c ls A hC hr hl hK hA hw
  have ⟨hx, hb, hml, hown, hT, hlk⟩ := hC
  have hl : lv_has ls 1 [(0, .ref (ad 1))] := hl
  rw [f_Ear_dataBytes] at h
  refine lv_sipush (v := 256) hx hb d_Ear_dataBytes_0 (by decide) ?_
  refine lv_aload_n hx hb d_Ear_dataBytes_3 rfl (lv_at hl 0 rfl) ?_
  refine gf_C_1_header hC hK hw d_Ear_dataBytes_4 ?_
  refine lv_iconst (v := 3) hx hb d_Ear_dataBytes_7 (by decide) ?_
  refine fx_sVr (As := [.int 3]) hC hl.1 (fun q hq => c_Row_at_11 l D ad cI cZ cT v u 3 q hq) fy_Row_at fv_Row_at kw_232 ⟨Nat.le_of_ble_eq_true rfl, Nat.le_of_ble_eq_true rfl⟩ rfl hK hA hw at_C_11 rfl rfl rfl (Nat.le_of_ble_eq_true rfl) d_Ear_dataBytes_8 ⟨Nat.le_refl _, Nat.le_refl _⟩ h (fun H locs q1 h hw => ?_)
  refine lv_imul hx hb d_Ear_dataBytes_11 ?_
  refine lv_aload_n hx hb d_Ear_dataBytes_12 rfl (lv_at hl 0 rfl) ?_
  refine gf_C_1_header hC hK hw d_Ear_dataBytes_13 ?_
  refine lv_iconst (v := 4) hx hb d_Ear_dataBytes_16 (by decide) ?_
  refine fx_sVr (As := [.int 4]) hC hl.1 (fun q hq => c_Row_at_11 l D ad cI cZ cT v u 4 q hq) fy_Row_at fv_Row_at kw_232 ⟨Nat.le_of_ble_eq_true rfl, Nat.le_of_ble_eq_true rfl⟩ rfl hK hA hw at_C_11 rfl rfl rfl (Nat.le_of_ble_eq_true rfl) d_Ear_dataBytes_17 ⟨Nat.le_refl _, Nat.le_refl _⟩ h (fun H locs q2 h hw => ?_)
  refine lv_iadd hx hb d_Ear_dataBytes_20 ?_
  exact fx_retr hC hr rfl hK hw h d_Ear_dataBytes_21
def f_Ear_to (u : ST)  : Option (Int32) :=
  k_bd (f_Row_at_11 u 1) fun q1 =>
  some q1
set_option maxHeartbeats 4000000 in
set_option maxRecDepth 100000 in
theorem c_Ear_to (l : Launch) (D : va_G) (ad : Nat → Nat) (cI cZ cT : ClassId) (v u : ST) (q : Int32) (h : f_Ear_to u = some q) : MX l D (tyC cI cZ cT) (wC ad cI cZ cT v) y_Ear_to cd_Ear_to 1 21 [.ref (ad 1)] u (some (.int q)) u := by
  refine MX.start (by decide) (Nat.le_of_ble_eq_true rfl) ?_
  intro p e s m below meth c ls A hC hr hl hK hA hw
  have ⟨hx, hb, hml, hown, hT, hlk⟩ := hC
  have hl : lv_has ls 1 [(0, .ref (ad 1))] := hl
  rw [f_Ear_to] at h
  refine lv_aload_n hx hb d_Ear_to_0 rfl (lv_at hl 0 rfl) ?_
  refine gf_C_1_header hC hK hw d_Ear_to_1 ?_
  refine lv_iconst (v := 1) hx hb d_Ear_to_4 (by decide) ?_
  refine fx_sVr (As := [.int 1]) hC hl.1 (fun q hq => c_Row_at_11 l D ad cI cZ cT v u 1 q hq) fy_Row_at fv_Row_at kw_232 ⟨Nat.le_of_ble_eq_true rfl, Nat.le_of_ble_eq_true rfl⟩ rfl hK hA hw at_C_11 rfl rfl rfl (Nat.le_of_ble_eq_true rfl) d_Ear_to_5 ⟨Nat.le_refl _, Nat.le_refl _⟩ h (fun H locs q1 h hw => ?_)
  exact fx_retr hC hr rfl hK hw h d_Ear_to_8
def f_Ear_ended (u : ST)  : Option (Int32) :=
  k_bd (f_Ear_to u) fun q1 =>
  if q1 = (u.1 12) then
    some 1
  else
  k_bd (f_Ear_to u) fun q3 =>
  if q3 = 255 then
    some 1
  else
  some 0
set_option maxHeartbeats 4000000 in
set_option maxRecDepth 100000 in
theorem c_Ear_ended (l : Launch) (D : va_G) (ad : Nat → Nat) (cI cZ cT : ClassId) (v u : ST) (q : Int32) (h : f_Ear_ended u = some q) : MX l D (tyC cI cZ cT) (wC ad cI cZ cT v) y_Ear_ended cd_Ear_ended 2 41 [.ref (ad 1)] u (some (.int q)) u := by
  refine MX.start (by decide) (Nat.le_of_ble_eq_true rfl) ?_
  intro p e s m below meth c ls A hC hr hl hK hA hw
  have ⟨hx, hb, hml, hown, hT, hlk⟩ := hC
  have hl : lv_has ls 1 [(0, .ref (ad 1))] := hl
  rw [f_Ear_ended] at h
  refine lv_aload_n hx hb d_Ear_ended_0 rfl (lv_at hl 0 rfl) ?_
  refine fx_sVr (As := []) hC hl.1 (fun q hq => c_Ear_to l D ad cI cZ cT v u q hq) fy_Ear_to fv_Ear_to kw_240 ⟨Nat.le_of_ble_eq_true rfl, Nat.le_of_ble_eq_true rfl⟩ rfl hK hA hw at_C_1 rfl rfl rfl (Nat.le_of_ble_eq_true rfl) d_Ear_ended_1 ⟨Nat.le_refl _, Nat.le_refl _⟩ h (fun H locs q1 h hw => ?_)
  refine lv_aload_n hx hb d_Ear_ended_4 rfl (lv_at hl 0 rfl) ?_
  refine gf_C_1_own hC hK hw d_Ear_ended_5 ?_
  refine lv_icmp_eq (tgt := 21) hx hb d_Ear_ended_8 rfl (fun c2 => ?_) (fun c2 => ?_)
  · have h := br1 c2 h
    refine lv_iconst (v := 1) hx hb d_Ear_ended_21 (by decide) ?_
    refine lv_goto (tgt := 26) hx hb d_Ear_ended_22 rfl ?_
    exact fx_retr hC hr rfl hK hw h d_Ear_ended_26
  · have h := br0 c2 h
    refine lv_aload_n hx hb d_Ear_ended_11 rfl (lv_at hl 0 rfl) ?_
    refine fx_sVr (As := []) hC hl.1 (fun q hq => c_Ear_to l D ad cI cZ cT v u q hq) fy_Ear_to fv_Ear_to kw_240 ⟨Nat.le_of_ble_eq_true rfl, Nat.le_of_ble_eq_true rfl⟩ rfl hK hA hw at_C_1 rfl rfl rfl (Nat.le_of_ble_eq_true rfl) d_Ear_ended_12 ⟨Nat.le_refl _, Nat.le_refl _⟩ h (fun H locs q3 h hw => ?_)
    refine lv_sipush (v := 255) hx hb d_Ear_ended_15 (by decide) ?_
    refine lv_icmp_ne (tgt := 25) hx hb d_Ear_ended_18 rfl (fun c4 => ?_) (fun c4 => ?_)
    · have h := br0 c4 h
      refine lv_iconst (v := 0) hx hb d_Ear_ended_25 (by decide) ?_
      exact fx_retr hC hr rfl hK hw h d_Ear_ended_26
    · have h := br1 c4 h
      refine lv_iconst (v := 1) hx hb d_Ear_ended_21 (by decide) ?_
      refine lv_goto (tgt := 26) hx hb d_Ear_ended_22 rfl ?_
      exact fx_retr hC hr rfl hK hw h d_Ear_ended_26
def f_Ear_takeHeaderCheck (u : ST) (x1 : Int32) : Option (Int32 × ST) :=
  k_let (ss u 13 0) fun u1 =>
  if x1 = (255 - (u1.1 14)) then
    k_bd (f_Ear_dataBytes u1) fun q3 =>
    if q3 ≤ 40 then
      k_bd (f_Ear_dataBytes u1) fun q5 =>
      if q5 = 0 then
        k_bd (f_Ear_ended u1) fun q9 =>
        some (q9, u1)
      else
      k_let (ss u1 13 4) fun u7 =>
      k_let (ss u7 14 65535) fun u8 =>
      some (0, u8)
    else
    some (2, u1)
  else
  some (2, u1)
set_option maxHeartbeats 4000000 in
set_option maxRecDepth 100000 in
theorem c_Ear_takeHeaderCheck (l : Launch) (D : va_G) (ad : Nat → Nat) (cI cZ cT : ClassId) (v u : ST) (x1 : Int32) (q : Int32 × ST) (h : f_Ear_takeHeaderCheck u x1 = some q) : MX l D (tyC cI cZ cT) (wC ad cI cZ cT v) y_Ear_takeHeaderCheck cd_Ear_takeHeaderCheck 3 61 [.ref (ad 1), .int x1] u (some (.int q.1)) q.2 := by
  refine MX.start (by decide) (Nat.le_of_ble_eq_true rfl) ?_
  intro p e s m below meth c ls A hC hr hl hK hA hw
  have ⟨hx, hb, hml, hown, hT, hlk⟩ := hC
  have hl : lv_has ls 2 [(0, .ref (ad 1)), (1, .int x1)] := hl
  rw [f_Ear_takeHeaderCheck] at h
  refine lv_aload_n hx hb d_Ear_takeHeaderCheck_0 rfl (lv_at hl 0 rfl) ?_
  refine lv_iconst (v := 0) hx hb d_Ear_takeHeaderCheck_1 (by decide) ?_
  refine pf_C_1_stage hC hK hw d_Ear_takeHeaderCheck_2 h (fun H locs u1 h hw => ?_)
  refine lv_iload_n hx hb d_Ear_takeHeaderCheck_5 rfl (lv_at hl 1 rfl) ?_
  refine lv_sipush (v := 255) hx hb d_Ear_takeHeaderCheck_6 (by decide) ?_
  refine lv_aload_n hx hb d_Ear_takeHeaderCheck_9 rfl (lv_at hl 0 rfl) ?_
  refine gf_C_1_check hC hK hw d_Ear_takeHeaderCheck_10 ?_
  refine lv_isub hx hb d_Ear_takeHeaderCheck_13 ?_
  refine lv_icmp_ne (tgt := 26) hx hb d_Ear_takeHeaderCheck_14 rfl (fun c2 => ?_) (fun c2 => ?_)
  · have h := br0 c2 h
    refine lv_iconst (v := 2) hx hb d_Ear_takeHeaderCheck_26 (by decide) ?_
    exact fx_retw hC hr rfl hK hw h d_Ear_takeHeaderCheck_27
  · have h := br1 c2 h
    refine lv_aload_n hx hb d_Ear_takeHeaderCheck_17 rfl (lv_at hl 0 rfl) ?_
    refine fx_sVr (As := []) hC hl.1 (fun q hq => c_Ear_dataBytes l D ad cI cZ cT v u1 q hq) fy_Ear_dataBytes fv_Ear_dataBytes kw_228 ⟨Nat.le_of_ble_eq_true rfl, Nat.le_of_ble_eq_true rfl⟩ rfl hK hA hw at_C_1 rfl rfl rfl (Nat.le_of_ble_eq_true rfl) d_Ear_takeHeaderCheck_18 ⟨Nat.le_refl _, Nat.le_refl _⟩ h (fun H locs q3 h hw => ?_)
    refine lv_bipush (v := 40) hx hb d_Ear_takeHeaderCheck_21 (by decide) ?_
    refine lv_icmp_le (tgt := 28) hx hb d_Ear_takeHeaderCheck_23 rfl (fun c4 => ?_) (fun c4 => ?_)
    · have h := br1 c4 h
      refine lv_aload_n hx hb d_Ear_takeHeaderCheck_28 rfl (lv_at hl 0 rfl) ?_
      refine fx_sVr (As := []) hC hl.1 (fun q hq => c_Ear_dataBytes l D ad cI cZ cT v u1 q hq) fy_Ear_dataBytes fv_Ear_dataBytes kw_228 ⟨Nat.le_of_ble_eq_true rfl, Nat.le_of_ble_eq_true rfl⟩ rfl hK hA hw at_C_1 rfl rfl rfl (Nat.le_of_ble_eq_true rfl) d_Ear_takeHeaderCheck_29 ⟨Nat.le_refl _, Nat.le_refl _⟩ h (fun H locs q5 h hw => ?_)
      refine lv_if_ne (tgt := 40) hx hb d_Ear_takeHeaderCheck_32 rfl (fun c6 => ?_) (fun c6 => ?_)
      · have h := br0 c6 h
        refine lv_aload_n hx hb d_Ear_takeHeaderCheck_40 rfl (lv_at hl 0 rfl) ?_
        refine lv_iconst (v := 4) hx hb d_Ear_takeHeaderCheck_41 (by decide) ?_
        refine pf_C_1_stage hC hK hw d_Ear_takeHeaderCheck_42 h (fun H locs u7 h hw => ?_)
        refine lv_aload_n hx hb d_Ear_takeHeaderCheck_45 rfl (lv_at hl 0 rfl) ?_
        refine lv_ldc (v := 65535) hx hb hown (hT _ kw_244) d_Ear_takeHeaderCheck_46 ?_
        refine pf_C_1_check hC hK hw d_Ear_takeHeaderCheck_48 h (fun H locs u8 h hw => ?_)
        refine lv_iconst (v := 0) hx hb d_Ear_takeHeaderCheck_51 (by decide) ?_
        exact fx_retw hC hr rfl hK hw h d_Ear_takeHeaderCheck_52
      · have h := br1 c6 h
        refine lv_aload_n hx hb d_Ear_takeHeaderCheck_35 rfl (lv_at hl 0 rfl) ?_
        refine fx_sVr (As := []) hC hl.1 (fun q hq => c_Ear_ended l D ad cI cZ cT v u1 q hq) fy_Ear_ended fv_Ear_ended kw_236 ⟨Nat.le_of_ble_eq_true rfl, Nat.le_of_ble_eq_true rfl⟩ rfl hK hA hw at_C_1 rfl rfl rfl (Nat.le_of_ble_eq_true rfl) d_Ear_takeHeaderCheck_36 ⟨Nat.le_refl _, Nat.le_refl _⟩ h (fun H locs q9 h hw => ?_)
        exact fx_retw hC hr rfl hK hw h d_Ear_takeHeaderCheck_39
    · have h := br0 c4 h
      refine lv_iconst (v := 2) hx hb d_Ear_takeHeaderCheck_26 (by decide) ?_
      exact fx_retw hC hr rfl hK hw h d_Ear_takeHeaderCheck_27
def f_Row_put_13 (u : ST) (x1 : Int32) : Option (ST) :=
  if 40 ≤ (u.1 30) then
    some u
  else
  k_gd (inb (u.1 30) 40) (
  k_let (rs u 5 (u.1 30).toNatClampNeg x1) fun u2 =>
  k_let (ss u2 30 ((u2.1 30) + 1)) fun u3 =>
  some u3)
set_option maxHeartbeats 4000000 in
set_option maxRecDepth 100000 in
theorem c_Row_put_13 (l : Launch) (D : va_G) (ad : Nat → Nat) (cI cZ cT : ClassId) (v u : ST) (x1 : Int32) (q : ST) (h : f_Row_put_13 u x1 = some q) : MX l D (tyC cI cZ cT) (wC ad cI cZ cT v) y_Row_put cd_Row_put 0 0 [.ref (ad 13), .int x1] u none q := by
  refine MX.start (by decide) (Nat.le_of_ble_eq_true rfl) ?_
  intro p e s m below meth c ls A hC hr hl hK hA hw
  have ⟨hx, hb, hml, hown, hT, hlk⟩ := hC
  have hl : lv_has ls 2 [(0, .ref (ad 13)), (1, .int x1)] := hl
  rw [f_Row_put_13] at h
  refine lv_aload_n hx hb d_Row_put_0 rfl (lv_at hl 0 rfl) ?_
  refine gf_C_13_count hC hK hw d_Row_put_1 ?_
  refine lv_aload_n hx hb d_Row_put_4 rfl (lv_at hl 0 rfl) ?_
  refine gf_C_13_bytes hC hK hw d_Row_put_5 ?_
  refine ln_C_14 hC hK hw d_Row_put_8 ?_
  refine lv_icmp_ge (tgt := 32) hx hb d_Row_put_9 rfl (fun c1 => ?_) (fun c1 => ?_)
  · have h := br1 c1 h
    exact fx_retv hC hr hK hw h d_Row_put_32
  · have h := br0 c1 h
    refine lv_aload_n hx hb d_Row_put_12 rfl (lv_at hl 0 rfl) ?_
    refine gf_C_13_bytes hC hK hw d_Row_put_13 ?_
    refine lv_aload_n hx hb d_Row_put_16 rfl (lv_at hl 0 rfl) ?_
    refine gf_C_13_count hC hK hw d_Row_put_17 ?_
    refine lv_iload_n hx hb d_Row_put_20 rfl (lv_at hl 1 rfl) ?_
    refine as_C_14 hC hK hw d_Row_put_21 h (fun H locs u2 h hw => ?_)
    refine lv_aload_n hx hb d_Row_put_22 rfl (lv_at hl 0 rfl) ?_
    refine lv_dup hx hb d_Row_put_23 rfl ?_
    refine gf_C_13_count hC hK hw d_Row_put_24 ?_
    refine lv_iconst (v := 1) hx hb d_Row_put_27 (by decide) ?_
    refine lv_iadd hx hb d_Row_put_28 ?_
    refine pf_C_13_count hC hK hw d_Row_put_29 h (fun H locs u3 h hw => ?_)
    exact fx_retv hC hr hK hw h d_Row_put_32
def f_Row_size_13 (u : ST)  : Option (Int32) :=
  some (u.1 30)
set_option maxHeartbeats 4000000 in
set_option maxRecDepth 100000 in
theorem c_Row_size_13 (l : Launch) (D : va_G) (ad : Nat → Nat) (cI cZ cT : ClassId) (v u : ST) (q : Int32) (h : f_Row_size_13 u = some q) : MX l D (tyC cI cZ cT) (wC ad cI cZ cT v) y_Row_size cd_Row_size 0 0 [.ref (ad 13)] u (some (.int q)) u := by
  refine MX.start (by decide) (Nat.le_of_ble_eq_true rfl) ?_
  intro p e s m below meth c ls A hC hr hl hK hA hw
  have ⟨hx, hb, hml, hown, hT, hlk⟩ := hC
  have hl : lv_has ls 1 [(0, .ref (ad 13))] := hl
  rw [f_Row_size_13] at h
  refine lv_aload_n hx hb d_Row_size_0 rfl (lv_at hl 0 rfl) ?_
  refine gf_C_13_count hC hK hw d_Row_size_1 ?_
  exact fx_retr hC hr rfl hK hw h d_Row_size_4
def f_Ear_takeData (u : ST) (x1 : Int32) : Option (ST) :=
  k_bd (f_Row_put_13 u x1) fun q1 =>
  k_bd (f_Chk_withByte (q1.1 14) x1 33800) fun q2 =>
  k_let (ss q1 14 q2) fun u3 =>
  k_bd (f_Row_size_13 u3) fun q4 =>
  k_bd (f_Ear_dataBytes u3) fun q5 =>
  if q4 < q5 then
    some u3
  else
  k_let (ss u3 13 5) fun u7 =>
  some u7
set_option maxHeartbeats 4000000 in
set_option maxRecDepth 100000 in
theorem c_Ear_takeData (l : Launch) (D : va_G) (ad : Nat → Nat) (cI cZ cT : ClassId) (v u : ST) (x1 : Int32) (q : ST) (h : f_Ear_takeData u x1 = some q) : MX l D (tyC cI cZ cT) (wC ad cI cZ cT v) y_Ear_takeData cd_Ear_takeData 2 41 [.ref (ad 1), .int x1] u none q := by
  refine MX.start (by decide) (Nat.le_of_ble_eq_true rfl) ?_
  intro p e s m below meth c ls A hC hr hl hK hA hw
  have ⟨hx, hb, hml, hown, hT, hlk⟩ := hC
  have hl : lv_has ls 2 [(0, .ref (ad 1)), (1, .int x1)] := hl
  rw [f_Ear_takeData] at h
  refine lv_aload_n hx hb d_Ear_takeData_0 rfl (lv_at hl 0 rfl) ?_
  refine gf_C_1_data hC hK hw d_Ear_takeData_1 ?_
  refine lv_iload_n hx hb d_Ear_takeData_4 rfl (lv_at hl 1 rfl) ?_
  refine fx_sVv (As := [.int x1]) hC hl.1 (fun q hq => c_Row_put_13 l D ad cI cZ cT v u x1 q hq) fy_Row_put fv_Row_put kw_213 ⟨Nat.le_of_ble_eq_true rfl, Nat.le_of_ble_eq_true rfl⟩ rfl hK hA hw at_C_13 rfl rfl rfl (Nat.le_of_ble_eq_true rfl) d_Ear_takeData_5 ⟨Nat.le_refl _, Nat.le_refl _⟩ h (fun H locs q1 h hw => ?_)
  refine lv_aload_n hx hb d_Ear_takeData_8 rfl (lv_at hl 0 rfl) ?_
  refine lv_aload_n hx hb d_Ear_takeData_9 rfl (lv_at hl 0 rfl) ?_
  refine gf_C_1_check hC hK hw d_Ear_takeData_10 ?_
  refine lv_iload_n hx hb d_Ear_takeData_13 rfl (lv_at hl 1 rfl) ?_
  refine lv_ldc (v := 33800) hx hb hown (hT _ kw_249) d_Ear_takeData_14 ?_
  refine fx_sSr (As := [.int (q1.1 14), .int x1, .int 33800]) hC hl.1 (fun q hq => c_Chk_withByte l D ad cI cZ cT v q1 (q1.1 14) x1 33800 q hq) fy_Chk_withByte fs_Chk_withByte kw_217 ⟨Nat.le_of_ble_eq_true rfl, Nat.le_of_ble_eq_true rfl⟩ rfl hK hA hw rfl (Nat.le_of_ble_eq_true rfl) d_Ear_takeData_16 ⟨Nat.le_refl _, Nat.le_refl _⟩ h (fun H locs q2 h hw => ?_)
  refine pf_C_1_check hC hK hw d_Ear_takeData_19 h (fun H locs u3 h hw => ?_)
  refine lv_aload_n hx hb d_Ear_takeData_22 rfl (lv_at hl 0 rfl) ?_
  refine gf_C_1_data hC hK hw d_Ear_takeData_23 ?_
  refine fx_sVr (As := []) hC hl.1 (fun q hq => c_Row_size_13 l D ad cI cZ cT v u3 q hq) fy_Row_size fv_Row_size kw_220 ⟨Nat.le_of_ble_eq_true rfl, Nat.le_of_ble_eq_true rfl⟩ rfl hK hA hw at_C_13 rfl rfl rfl (Nat.le_of_ble_eq_true rfl) d_Ear_takeData_26 ⟨Nat.le_refl _, Nat.le_refl _⟩ h (fun H locs q4 h hw => ?_)
  refine lv_aload_n hx hb d_Ear_takeData_29 rfl (lv_at hl 0 rfl) ?_
  refine fx_sVr (As := []) hC hl.1 (fun q hq => c_Ear_dataBytes l D ad cI cZ cT v u3 q hq) fy_Ear_dataBytes fv_Ear_dataBytes kw_228 ⟨Nat.le_of_ble_eq_true rfl, Nat.le_of_ble_eq_true rfl⟩ rfl hK hA hw at_C_1 rfl rfl rfl (Nat.le_of_ble_eq_true rfl) d_Ear_takeData_30 ⟨Nat.le_refl _, Nat.le_refl _⟩ h (fun H locs q5 h hw => ?_)
  refine lv_icmp_lt (tgt := 41) hx hb d_Ear_takeData_33 rfl (fun c6 => ?_) (fun c6 => ?_)
  · have h := br1 c6 h
    exact fx_retv hC hr hK hw h d_Ear_takeData_41
  · have h := br0 c6 h
    refine lv_aload_n hx hb d_Ear_takeData_36 rfl (lv_at hl 0 rfl) ?_
    refine lv_iconst (v := 5) hx hb d_Ear_takeData_37 (by decide) ?_
    refine pf_C_1_stage hC hK hw d_Ear_takeData_38 h (fun H locs u7 h hw => ?_)
    exact fx_retv hC hr hK hw h d_Ear_takeData_41
def f_Ear_takeHighCheck (u : ST) (x1 : Int32) : Option (Int32 × ST) :=
  k_let (ss u 13 0) fun u1 =>
  if ((u1.1 15) + (256 * x1)) = (65535 - (u1.1 14)) then
    k_bd (f_Ear_ended u1) fun q3 =>
    some (q3, u1)
  else
  some (2, u1)
set_option maxHeartbeats 4000000 in
set_option maxRecDepth 100000 in
theorem c_Ear_takeHighCheck (l : Launch) (D : va_G) (ad : Nat → Nat) (cI cZ cT : ClassId) (v u : ST) (x1 : Int32) (q : Int32 × ST) (h : f_Ear_takeHighCheck u x1 = some q) : MX l D (tyC cI cZ cT) (wC ad cI cZ cT v) y_Ear_takeHighCheck cd_Ear_takeHighCheck 3 61 [.ref (ad 1), .int x1] u (some (.int q.1)) q.2 := by
  refine MX.start (by decide) (Nat.le_of_ble_eq_true rfl) ?_
  intro p e s m below meth c ls A hC hr hl hK hA hw
  have ⟨hx, hb, hml, hown, hT, hlk⟩ := hC
  have hl : lv_has ls 2 [(0, .ref (ad 1)), (1, .int x1)] := hl
  rw [f_Ear_takeHighCheck] at h
  refine lv_aload_n hx hb d_Ear_takeHighCheck_0 rfl (lv_at hl 0 rfl) ?_
  refine lv_iconst (v := 0) hx hb d_Ear_takeHighCheck_1 (by decide) ?_
  refine pf_C_1_stage hC hK hw d_Ear_takeHighCheck_2 h (fun H locs u1 h hw => ?_)
  refine lv_aload_n hx hb d_Ear_takeHighCheck_5 rfl (lv_at hl 0 rfl) ?_
  refine gf_C_1_lowCheck hC hK hw d_Ear_takeHighCheck_6 ?_
  refine lv_sipush (v := 256) hx hb d_Ear_takeHighCheck_9 (by decide) ?_
  refine lv_iload_n hx hb d_Ear_takeHighCheck_12 rfl (lv_at hl 1 rfl) ?_
  refine lv_imul hx hb d_Ear_takeHighCheck_13 ?_
  refine lv_iadd hx hb d_Ear_takeHighCheck_14 ?_
  refine lv_ldc (v := 65535) hx hb hown (hT _ kw_244) d_Ear_takeHighCheck_15 ?_
  refine lv_aload_n hx hb d_Ear_takeHighCheck_17 rfl (lv_at hl 0 rfl) ?_
  refine gf_C_1_check hC hK hw d_Ear_takeHighCheck_18 ?_
  refine lv_isub hx hb d_Ear_takeHighCheck_21 ?_
  refine lv_icmp_ne (tgt := 32) hx hb d_Ear_takeHighCheck_22 rfl (fun c2 => ?_) (fun c2 => ?_)
  · have h := br0 c2 h
    refine lv_iconst (v := 2) hx hb d_Ear_takeHighCheck_32 (by decide) ?_
    exact fx_retw hC hr rfl hK hw h d_Ear_takeHighCheck_33
  · have h := br1 c2 h
    refine lv_aload_n hx hb d_Ear_takeHighCheck_25 rfl (lv_at hl 0 rfl) ?_
    refine fx_sVr (As := []) hC hl.1 (fun q hq => c_Ear_ended l D ad cI cZ cT v u1 q hq) fy_Ear_ended fv_Ear_ended kw_236 ⟨Nat.le_of_ble_eq_true rfl, Nat.le_of_ble_eq_true rfl⟩ rfl hK hA hw at_C_1 rfl rfl rfl (Nat.le_of_ble_eq_true rfl) d_Ear_takeHighCheck_26 ⟨Nat.le_refl _, Nat.le_refl _⟩ h (fun H locs q3 h hw => ?_)
    refine lv_goto (tgt := 33) hx hb d_Ear_takeHighCheck_29 rfl ?_
    exact fx_retw hC hr rfl hK hw h d_Ear_takeHighCheck_33
def f_Ear_take (u : ST) (x1 : Int32) : Option (Int32 × ST) :=
  if (u.1 13) = 0 then
    if x1 = 85 then
      k_let (ss u 13 1) fun u4 =>
      some (0, u4)
    else
    k_let (ss u 13 0) fun u3 =>
    some (0, u3)
  else
  if (u.1 13) = 1 then
    k_bd (f_Ear_takeSecond u x1) fun q6 =>
    some (0, q6)
  else
  if (u.1 13) = 2 then
    k_bd (f_Ear_takeHeader u x1) fun q8 =>
    some (0, q8)
  else
  if (u.1 13) = 3 then
    k_bd (f_Ear_takeHeaderCheck u x1) fun q10 =>
    some (q10.1, q10.2)
  else
  if (u.1 13) = 4 then
    k_bd (f_Ear_takeData u x1) fun q12 =>
    some (0, q12)
  else
  if (u.1 13) = 5 then
    k_let (ss u 15 x1) fun u14 =>
    k_let (ss u14 13 6) fun u15 =>
    some (0, u15)
  else
  k_bd (f_Ear_takeHighCheck u x1) fun q16 =>
  some (q16.1, q16.2)
set_option maxHeartbeats 4000000 in
set_option maxRecDepth 100000 in
theorem c_Ear_take (l : Launch) (D : va_G) (ad : Nat → Nat) (cI cZ cT : ClassId) (v u : ST) (x1 : Int32) (q : Int32 × ST) (h : f_Ear_take u x1 = some q) : MX l D (tyC cI cZ cT) (wC ad cI cZ cT v) y_Ear_take cd_Ear_take 4 82 [.ref (ad 1), .int x1] u (some (.int q.1)) q.2 := by
  refine MX.start (by decide) (Nat.le_of_ble_eq_true rfl) ?_
  intro p e s m below meth c ls A hC hr hl hK hA hw
  have ⟨hx, hb, hml, hown, hT, hlk⟩ := hC
  have hl : lv_has ls 2 [(0, .ref (ad 1)), (1, .int x1)] := hl
  rw [f_Ear_take] at h
  refine lv_aload_n hx hb d_Ear_take_0 rfl (lv_at hl 0 rfl) ?_
  refine gf_C_1_stage hC hK hw d_Ear_take_1 ?_
  by_cases c1 : (u.1 13) = 0
  · have h := br1 c1 h
    refine lv_tableIn (tgt := 44) hx hb d_Ear_take_4 (by rw [c1]; decide) (by rw [c1]; decide) (off := 40) (by rw [c1]; decide) rfl ?_
    refine lv_aload_n hx hb d_Ear_take_44 rfl (lv_at hl 0 rfl) ?_
    refine lv_iload_n hx hb d_Ear_take_45 rfl (lv_at hl 1 rfl) ?_
    refine lv_bipush (v := 85) hx hb d_Ear_take_46 (by decide) ?_
    refine lv_icmp_ne (tgt := 55) hx hb d_Ear_take_48 rfl (fun c2 => ?_) (fun c2 => ?_)
    · have h := br0 c2 h
      refine lv_iconst (v := 0) hx hb d_Ear_take_55 (by decide) ?_
      refine pf_C_1_stage hC hK hw d_Ear_take_56 h (fun H locs u3 h hw => ?_)
      refine lv_iconst (v := 0) hx hb d_Ear_take_59 (by decide) ?_
      exact fx_retw hC hr rfl hK hw h d_Ear_take_60
    · have h := br1 c2 h
      refine lv_iconst (v := 1) hx hb d_Ear_take_51 (by decide) ?_
      refine lv_goto (tgt := 56) hx hb d_Ear_take_52 rfl ?_
      refine pf_C_1_stage hC hK hw d_Ear_take_56 h (fun H locs u4 h hw => ?_)
      refine lv_iconst (v := 0) hx hb d_Ear_take_59 (by decide) ?_
      exact fx_retw hC hr rfl hK hw h d_Ear_take_60
  · have h := br0 c1 h
    by_cases c5 : (u.1 13) = 1
    · have h := br1 c5 h
      refine lv_tableIn (tgt := 61) hx hb d_Ear_take_4 (by rw [c5]; decide) (by rw [c5]; decide) (off := 57) (by rw [c5]; decide) rfl ?_
      refine lv_aload_n hx hb d_Ear_take_61 rfl (lv_at hl 0 rfl) ?_
      refine lv_iload_n hx hb d_Ear_take_62 rfl (lv_at hl 1 rfl) ?_
      refine fx_sVv (As := [.int x1]) hC hl.1 (fun q hq => c_Ear_takeSecond l D ad cI cZ cT v u x1 q hq) fy_Ear_takeSecond fv_Ear_takeSecond kw_204 ⟨Nat.le_of_ble_eq_true rfl, Nat.le_of_ble_eq_true rfl⟩ rfl hK hA hw at_C_1 rfl rfl rfl (Nat.le_of_ble_eq_true rfl) d_Ear_take_63 ⟨Nat.le_refl _, Nat.le_refl _⟩ h (fun H locs q6 h hw => ?_)
      refine lv_iconst (v := 0) hx hb d_Ear_take_66 (by decide) ?_
      exact fx_retw hC hr rfl hK hw h d_Ear_take_67
    · have h := br0 c5 h
      by_cases c7 : (u.1 13) = 2
      · have h := br1 c7 h
        refine lv_tableIn (tgt := 68) hx hb d_Ear_take_4 (by rw [c7]; decide) (by rw [c7]; decide) (off := 64) (by rw [c7]; decide) rfl ?_
        refine lv_aload_n hx hb d_Ear_take_68 rfl (lv_at hl 0 rfl) ?_
        refine lv_iload_n hx hb d_Ear_take_69 rfl (lv_at hl 1 rfl) ?_
        refine fx_sVv (As := [.int x1]) hC hl.1 (fun q hq => c_Ear_takeHeader l D ad cI cZ cT v u x1 q hq) fy_Ear_takeHeader fv_Ear_takeHeader kw_209 ⟨Nat.le_of_ble_eq_true rfl, Nat.le_of_ble_eq_true rfl⟩ rfl hK hA hw at_C_1 rfl rfl rfl (Nat.le_of_ble_eq_true rfl) d_Ear_take_70 ⟨Nat.le_refl _, Nat.le_refl _⟩ h (fun H locs q8 h hw => ?_)
        refine lv_iconst (v := 0) hx hb d_Ear_take_73 (by decide) ?_
        exact fx_retw hC hr rfl hK hw h d_Ear_take_74
      · have h := br0 c7 h
        by_cases c9 : (u.1 13) = 3
        · have h := br1 c9 h
          refine lv_tableIn (tgt := 75) hx hb d_Ear_take_4 (by rw [c9]; decide) (by rw [c9]; decide) (off := 71) (by rw [c9]; decide) rfl ?_
          refine lv_aload_n hx hb d_Ear_take_75 rfl (lv_at hl 0 rfl) ?_
          refine lv_iload_n hx hb d_Ear_take_76 rfl (lv_at hl 1 rfl) ?_
          refine fx_sVi (As := [.int x1]) hC hl.1 (fun q hq => c_Ear_takeHeaderCheck l D ad cI cZ cT v u x1 q hq) fy_Ear_takeHeaderCheck fv_Ear_takeHeaderCheck kw_224 ⟨Nat.le_of_ble_eq_true rfl, Nat.le_of_ble_eq_true rfl⟩ rfl hK hA hw at_C_1 rfl rfl rfl (Nat.le_of_ble_eq_true rfl) d_Ear_take_77 ⟨Nat.le_refl _, Nat.le_refl _⟩ h (fun H locs q10 h hw => ?_)
          exact fx_retw hC hr rfl hK hw h d_Ear_take_80
        · have h := br0 c9 h
          by_cases c11 : (u.1 13) = 4
          · have h := br1 c11 h
            refine lv_tableIn (tgt := 81) hx hb d_Ear_take_4 (by rw [c11]; decide) (by rw [c11]; decide) (off := 77) (by rw [c11]; decide) rfl ?_
            refine lv_aload_n hx hb d_Ear_take_81 rfl (lv_at hl 0 rfl) ?_
            refine lv_iload_n hx hb d_Ear_take_82 rfl (lv_at hl 1 rfl) ?_
            refine fx_sVv (As := [.int x1]) hC hl.1 (fun q hq => c_Ear_takeData l D ad cI cZ cT v u x1 q hq) fy_Ear_takeData fv_Ear_takeData kw_245 ⟨Nat.le_of_ble_eq_true rfl, Nat.le_of_ble_eq_true rfl⟩ rfl hK hA hw at_C_1 rfl rfl rfl (Nat.le_of_ble_eq_true rfl) d_Ear_take_83 ⟨Nat.le_refl _, Nat.le_refl _⟩ h (fun H locs q12 h hw => ?_)
            refine lv_iconst (v := 0) hx hb d_Ear_take_86 (by decide) ?_
            exact fx_retw hC hr rfl hK hw h d_Ear_take_87
          · have h := br0 c11 h
            by_cases c13 : (u.1 13) = 5
            · have h := br1 c13 h
              refine lv_tableIn (tgt := 88) hx hb d_Ear_take_4 (by rw [c13]; decide) (by rw [c13]; decide) (off := 84) (by rw [c13]; decide) rfl ?_
              refine lv_aload_n hx hb d_Ear_take_88 rfl (lv_at hl 0 rfl) ?_
              refine lv_iload_n hx hb d_Ear_take_89 rfl (lv_at hl 1 rfl) ?_
              refine pf_C_1_lowCheck hC hK hw d_Ear_take_90 h (fun H locs u14 h hw => ?_)
              refine lv_aload_n hx hb d_Ear_take_93 rfl (lv_at hl 0 rfl) ?_
              refine lv_bipush (v := 6) hx hb d_Ear_take_94 (by decide) ?_
              refine pf_C_1_stage hC hK hw d_Ear_take_96 h (fun H locs u15 h hw => ?_)
              refine lv_iconst (v := 0) hx hb d_Ear_take_99 (by decide) ?_
              exact fx_retw hC hr rfl hK hw h d_Ear_take_100
            · have h := br0 c13 h
              refine lv_tableOut (tgt := 101) hx hb d_Ear_take_4 (sw_out5 c1 c5 c7 c9 c11 c13) rfl ?_
              refine lv_aload_n hx hb d_Ear_take_101 rfl (lv_at hl 0 rfl) ?_
              refine lv_iload_n hx hb d_Ear_take_102 rfl (lv_at hl 1 rfl) ?_
              refine fx_sVi (As := [.int x1]) hC hl.1 (fun q hq => c_Ear_takeHighCheck l D ad cI cZ cT v u x1 q hq) fy_Ear_takeHighCheck fv_Ear_takeHighCheck kw_250 ⟨Nat.le_of_ble_eq_true rfl, Nat.le_of_ble_eq_true rfl⟩ rfl hK hA hw at_C_1 rfl rfl rfl (Nat.le_of_ble_eq_true rfl) d_Ear_take_103 ⟨Nat.le_refl _, Nat.le_refl _⟩ h (fun H locs q16 h hw => ?_)
              exact fx_retw hC hr rfl hK hw h d_Ear_take_106
def f_Ear_type (u : ST)  : Option (Int32) :=
  k_bd (f_Row_at_11 u 0) fun q1 =>
  some q1
set_option maxHeartbeats 4000000 in
set_option maxRecDepth 100000 in
theorem c_Ear_type (l : Launch) (D : va_G) (ad : Nat → Nat) (cI cZ cT : ClassId) (v u : ST) (q : Int32) (h : f_Ear_type u = some q) : MX l D (tyC cI cZ cT) (wC ad cI cZ cT v) y_Ear_type cd_Ear_type 1 21 [.ref (ad 1)] u (some (.int q)) u := by
  refine MX.start (by decide) (Nat.le_of_ble_eq_true rfl) ?_
  intro p e s m below meth c ls A hC hr hl hK hA hw
  have ⟨hx, hb, hml, hown, hT, hlk⟩ := hC
  have hl : lv_has ls 1 [(0, .ref (ad 1))] := hl
  rw [f_Ear_type] at h
  refine lv_aload_n hx hb d_Ear_type_0 rfl (lv_at hl 0 rfl) ?_
  refine gf_C_1_header hC hK hw d_Ear_type_1 ?_
  refine lv_iconst (v := 0) hx hb d_Ear_type_4 (by decide) ?_
  refine fx_sVr (As := [.int 0]) hC hl.1 (fun q hq => c_Row_at_11 l D ad cI cZ cT v u 0 q hq) fy_Row_at fv_Row_at kw_232 ⟨Nat.le_of_ble_eq_true rfl, Nat.le_of_ble_eq_true rfl⟩ rfl hK hA hw at_C_11 rfl rfl rfl (Nat.le_of_ble_eq_true rfl) d_Ear_type_5 ⟨Nat.le_refl _, Nat.le_refl _⟩ h (fun H locs q1 h hw => ?_)
  exact fx_retr hC hr rfl hK hw h d_Ear_type_8
def f_Ear_from (u : ST)  : Option (Int32) :=
  k_bd (f_Row_at_11 u 2) fun q1 =>
  some q1
set_option maxHeartbeats 4000000 in
set_option maxRecDepth 100000 in
theorem c_Ear_from (l : Launch) (D : va_G) (ad : Nat → Nat) (cI cZ cT : ClassId) (v u : ST) (q : Int32) (h : f_Ear_from u = some q) : MX l D (tyC cI cZ cT) (wC ad cI cZ cT v) y_Ear_from cd_Ear_from 1 21 [.ref (ad 1)] u (some (.int q)) u := by
  refine MX.start (by decide) (Nat.le_of_ble_eq_true rfl) ?_
  intro p e s m below meth c ls A hC hr hl hK hA hw
  have ⟨hx, hb, hml, hown, hT, hlk⟩ := hC
  have hl : lv_has ls 1 [(0, .ref (ad 1))] := hl
  rw [f_Ear_from] at h
  refine lv_aload_n hx hb d_Ear_from_0 rfl (lv_at hl 0 rfl) ?_
  refine gf_C_1_header hC hK hw d_Ear_from_1 ?_
  refine lv_iconst (v := 2) hx hb d_Ear_from_4 (by decide) ?_
  refine fx_sVr (As := [.int 2]) hC hl.1 (fun q hq => c_Row_at_11 l D ad cI cZ cT v u 2 q hq) fy_Row_at fv_Row_at kw_232 ⟨Nat.le_of_ble_eq_true rfl, Nat.le_of_ble_eq_true rfl⟩ rfl hK hA hw at_C_11 rfl rfl rfl (Nat.le_of_ble_eq_true rfl) d_Ear_from_5 ⟨Nat.le_refl _, Nat.le_refl _⟩ h (fun H locs q1 h hw => ?_)
  exact fx_retr hC hr rfl hK hw h d_Ear_from_8
def f_Row_put_3 (u : ST) (x1 : Int32) : Option (ST) :=
  if 128 ≤ (u.1 25) then
    some u
  else
  k_gd (inb (u.1 25) 128) (
  k_let (rs u 0 (u.1 25).toNatClampNeg x1) fun u2 =>
  k_let (ss u2 25 ((u2.1 25) + 1)) fun u3 =>
  some u3)
set_option maxHeartbeats 4000000 in
set_option maxRecDepth 100000 in
theorem c_Row_put_3 (l : Launch) (D : va_G) (ad : Nat → Nat) (cI cZ cT : ClassId) (v u : ST) (x1 : Int32) (q : ST) (h : f_Row_put_3 u x1 = some q) : MX l D (tyC cI cZ cT) (wC ad cI cZ cT v) y_Row_put cd_Row_put 0 0 [.ref (ad 3), .int x1] u none q := by
  refine MX.start (by decide) (Nat.le_of_ble_eq_true rfl) ?_
  intro p e s m below meth c ls A hC hr hl hK hA hw
  have ⟨hx, hb, hml, hown, hT, hlk⟩ := hC
  have hl : lv_has ls 2 [(0, .ref (ad 3)), (1, .int x1)] := hl
  rw [f_Row_put_3] at h
  refine lv_aload_n hx hb d_Row_put_0 rfl (lv_at hl 0 rfl) ?_
  refine gf_C_3_count hC hK hw d_Row_put_1 ?_
  refine lv_aload_n hx hb d_Row_put_4 rfl (lv_at hl 0 rfl) ?_
  refine gf_C_3_bytes hC hK hw d_Row_put_5 ?_
  refine ln_C_4 hC hK hw d_Row_put_8 ?_
  refine lv_icmp_ge (tgt := 32) hx hb d_Row_put_9 rfl (fun c1 => ?_) (fun c1 => ?_)
  · have h := br1 c1 h
    exact fx_retv hC hr hK hw h d_Row_put_32
  · have h := br0 c1 h
    refine lv_aload_n hx hb d_Row_put_12 rfl (lv_at hl 0 rfl) ?_
    refine gf_C_3_bytes hC hK hw d_Row_put_13 ?_
    refine lv_aload_n hx hb d_Row_put_16 rfl (lv_at hl 0 rfl) ?_
    refine gf_C_3_count hC hK hw d_Row_put_17 ?_
    refine lv_iload_n hx hb d_Row_put_20 rfl (lv_at hl 1 rfl) ?_
    refine as_C_4 hC hK hw d_Row_put_21 h (fun H locs u2 h hw => ?_)
    refine lv_aload_n hx hb d_Row_put_22 rfl (lv_at hl 0 rfl) ?_
    refine lv_dup hx hb d_Row_put_23 rfl ?_
    refine gf_C_3_count hC hK hw d_Row_put_24 ?_
    refine lv_iconst (v := 1) hx hb d_Row_put_27 (by decide) ?_
    refine lv_iadd hx hb d_Row_put_28 ?_
    refine pf_C_3_count hC hK hw d_Row_put_29 h (fun H locs u3 h hw => ?_)
    exact fx_retv hC hr hK hw h d_Row_put_32
def f_Row_size_3 (u : ST)  : Option (Int32) :=
  some (u.1 25)
set_option maxHeartbeats 4000000 in
set_option maxRecDepth 100000 in
theorem c_Row_size_3 (l : Launch) (D : va_G) (ad : Nat → Nat) (cI cZ cT : ClassId) (v u : ST) (q : Int32) (h : f_Row_size_3 u = some q) : MX l D (tyC cI cZ cT) (wC ad cI cZ cT v) y_Row_size cd_Row_size 0 0 [.ref (ad 3)] u (some (.int q)) u := by
  refine MX.start (by decide) (Nat.le_of_ble_eq_true rfl) ?_
  intro p e s m below meth c ls A hC hr hl hK hA hw
  have ⟨hx, hb, hml, hown, hT, hlk⟩ := hC
  have hl : lv_has ls 1 [(0, .ref (ad 3))] := hl
  rw [f_Row_size_3] at h
  refine lv_aload_n hx hb d_Row_size_0 rfl (lv_at hl 0 rfl) ?_
  refine gf_C_3_count hC hK hw d_Row_size_1 ?_
  exact fx_retr hC hr rfl hK hw h d_Row_size_4
def f_Row_size_5 (u : ST)  : Option (Int32) :=
  some (u.1 26)
set_option maxHeartbeats 4000000 in
set_option maxRecDepth 100000 in
theorem c_Row_size_5 (l : Launch) (D : va_G) (ad : Nat → Nat) (cI cZ cT : ClassId) (v u : ST) (q : Int32) (h : f_Row_size_5 u = some q) : MX l D (tyC cI cZ cT) (wC ad cI cZ cT v) y_Row_size cd_Row_size 0 0 [.ref (ad 5)] u (some (.int q)) u := by
  refine MX.start (by decide) (Nat.le_of_ble_eq_true rfl) ?_
  intro p e s m below meth c ls A hC hr hl hK hA hw
  have ⟨hx, hb, hml, hown, hT, hlk⟩ := hC
  have hl : lv_has ls 1 [(0, .ref (ad 5))] := hl
  rw [f_Row_size_5] at h
  refine lv_aload_n hx hb d_Row_size_0 rfl (lv_at hl 0 rfl) ?_
  refine gf_C_5_count hC hK hw d_Row_size_1 ?_
  exact fx_retr hC hr rfl hK hw h d_Row_size_4
def f_Row_at_3 (u : ST) (x1 : Int32) : Option (Int32) :=
  if x1 < 0 then
    some (-1)
  else
  if (u.1 25) ≤ x1 then
    some (-1)
  else
  k_gd (inb x1 128) (
  some (u.2 0 x1.toNatClampNeg))
set_option maxHeartbeats 4000000 in
set_option maxRecDepth 100000 in
theorem c_Row_at_3 (l : Launch) (D : va_G) (ad : Nat → Nat) (cI cZ cT : ClassId) (v u : ST) (x1 : Int32) (q : Int32) (h : f_Row_at_3 u x1 = some q) : MX l D (tyC cI cZ cT) (wC ad cI cZ cT v) y_Row_at cd_Row_at 0 0 [.ref (ad 3), .int x1] u (some (.int q)) u := by
  refine MX.start (by decide) (Nat.le_of_ble_eq_true rfl) ?_
  intro p e s m below meth c ls A hC hr hl hK hA hw
  have ⟨hx, hb, hml, hown, hT, hlk⟩ := hC
  have hl : lv_has ls 2 [(0, .ref (ad 3)), (1, .int x1)] := hl
  rw [f_Row_at_3] at h
  refine lv_iload_n hx hb d_Row_at_0 rfl (lv_at hl 1 rfl) ?_
  refine lv_if_lt (tgt := 21) hx hb d_Row_at_1 rfl (fun c1 => ?_) (fun c1 => ?_)
  · have h := br1 c1 h
    refine lv_iconst (v := (-1)) hx hb d_Row_at_21 (by decide) ?_
    exact fx_retr hC hr rfl hK hw h d_Row_at_22
  · have h := br0 c1 h
    refine lv_iload_n hx hb d_Row_at_4 rfl (lv_at hl 1 rfl) ?_
    refine lv_aload_n hx hb d_Row_at_5 rfl (lv_at hl 0 rfl) ?_
    refine gf_C_3_count hC hK hw d_Row_at_6 ?_
    refine lv_icmp_ge (tgt := 21) hx hb d_Row_at_9 rfl (fun c2 => ?_) (fun c2 => ?_)
    · have h := br1 c2 h
      refine lv_iconst (v := (-1)) hx hb d_Row_at_21 (by decide) ?_
      exact fx_retr hC hr rfl hK hw h d_Row_at_22
    · have h := br0 c2 h
      refine lv_aload_n hx hb d_Row_at_12 rfl (lv_at hl 0 rfl) ?_
      refine gf_C_3_bytes hC hK hw d_Row_at_13 ?_
      refine lv_iload_n hx hb d_Row_at_16 rfl (lv_at hl 1 rfl) ?_
      refine al_C_4 hC hK hw d_Row_at_17 h (fun h => ?_)
      refine lv_goto (tgt := 22) hx hb d_Row_at_18 rfl ?_
      exact fx_retr hC hr rfl hK hw h d_Row_at_22
