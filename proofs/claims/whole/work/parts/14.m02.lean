def f_Mod_add (u : ST) (x1 : Int32) : Option (ST) :=
  k_gd (inb (u.1 18) 48) (
  k_let (rs u 3 (u.1 18).toNatClampNeg x1) fun u1 =>
  k_let (ss u1 18 ((u1.1 18) + 1)) fun u2 =>
  some u2)
set_option maxHeartbeats 4000000 in
set_option maxRecDepth 100000 in
theorem c_Mod_add (l : Launch) (D : va_G) (ad : Nat → Nat) (cI cZ cT : ClassId) (v u : ST) (x1 : Int32) (q : ST) (h : f_Mod_add u x1 = some q) : MX l D (tyC cI cZ cT) (wM ad cI cZ cT v) y_Mod_add cd_Mod_add 0 0 [.ref (ad 30), .int x1] u none q := by
  refine MX.start (by decide) (Nat.le_of_ble_eq_true rfl) ?_
  intro p e s m below meth c ls A hC hr hl hK hA hw
  have ⟨hx, hb, hml, hown, hT, hlk⟩ := hC
  have hl : lv_has ls 2 [(0, .ref (ad 30)), (1, .int x1)] := hl
  rw [f_Mod_add] at h
  refine lv_aload_n hx hb d_Mod_add_0 rfl (lv_at hl 0 rfl) ?_
  refine gf_M_30_answer hC hK hw d_Mod_add_1 ?_
  refine lv_aload_n hx hb d_Mod_add_4 rfl (lv_at hl 0 rfl) ?_
  refine gf_M_30_answered hC hK hw d_Mod_add_5 ?_
  refine lv_iload_n hx hb d_Mod_add_8 rfl (lv_at hl 1 rfl) ?_
  refine as_M_34 hC hK hw d_Mod_add_9 h (fun H locs u1 h hw => ?_)
  refine lv_aload_n hx hb d_Mod_add_10 rfl (lv_at hl 0 rfl) ?_
  refine lv_dup hx hb d_Mod_add_11 rfl ?_
  refine gf_M_30_answered hC hK hw d_Mod_add_12 ?_
  refine lv_iconst (v := 1) hx hb d_Mod_add_15 (by decide) ?_
  refine lv_iadd hx hb d_Mod_add_16 ?_
  refine pf_M_30_answered hC hK hw d_Mod_add_17 h (fun H locs u2 h hw => ?_)
  exact fx_retv hC hr hK hw h d_Mod_add_20
def f_Mod_reject (u : ST) (x1 x2 : Int32) : Option (ST) :=
  k_bd (f_Mod_add u 1) fun q1 =>
  k_bd (f_Mod_add q1 0) fun q2 =>
  k_bd (f_Mod_add q2 96) fun q3 =>
  k_bd (f_Mod_add q3 x1) fun q4 =>
  k_bd (f_Mod_add q4 x2) fun q5 =>
  some q5
set_option maxHeartbeats 4000000 in
set_option maxRecDepth 100000 in
theorem c_Mod_reject (l : Launch) (D : va_G) (ad : Nat → Nat) (cI cZ cT : ClassId) (v u : ST) (x1 x2 : Int32) (q : ST) (h : f_Mod_reject u x1 x2 = some q) : MX l D (tyC cI cZ cT) (wM ad cI cZ cT v) y_Mod_reject cd_Mod_reject 1 21 [.ref (ad 30), .int x1, .int x2] u none q := by
  refine MX.start (by decide) (Nat.le_of_ble_eq_true rfl) ?_
  intro p e s m below meth c ls A hC hr hl hK hA hw
  have ⟨hx, hb, hml, hown, hT, hlk⟩ := hC
  have hl : lv_has ls 3 [(0, .ref (ad 30)), (1, .int x1), (2, .int x2)] := hl
  rw [f_Mod_reject] at h
  refine lv_aload_n hx hb d_Mod_reject_0 rfl (lv_at hl 0 rfl) ?_
  refine lv_iconst (v := 1) hx hb d_Mod_reject_1 (by decide) ?_
  refine fx_sVv (As := [.int 1]) hC hl.1 (fun q hq => c_Mod_add l D ad cI cZ cT v u 1 q hq) fy_Mod_add fv_Mod_add kw_657 ⟨Nat.le_of_ble_eq_true rfl, Nat.le_of_ble_eq_true rfl⟩ rfl hK hA hw at_M_30 rfl rfl rfl (Nat.le_of_ble_eq_true rfl) d_Mod_reject_2 ⟨Nat.le_refl _, Nat.le_refl _⟩ h (fun H locs q1 h hw => ?_)
  refine lv_aload_n hx hb d_Mod_reject_5 rfl (lv_at hl 0 rfl) ?_
  refine lv_iconst (v := 0) hx hb d_Mod_reject_6 (by decide) ?_
  refine fx_sVv (As := [.int 0]) hC hl.1 (fun q hq => c_Mod_add l D ad cI cZ cT v q1 0 q hq) fy_Mod_add fv_Mod_add kw_657 ⟨Nat.le_of_ble_eq_true rfl, Nat.le_of_ble_eq_true rfl⟩ rfl hK hA hw at_M_30 rfl rfl rfl (Nat.le_of_ble_eq_true rfl) d_Mod_reject_7 ⟨Nat.le_refl _, Nat.le_refl _⟩ h (fun H locs q2 h hw => ?_)
  refine lv_aload_n hx hb d_Mod_reject_10 rfl (lv_at hl 0 rfl) ?_
  refine lv_bipush (v := 96) hx hb d_Mod_reject_11 (by decide) ?_
  refine fx_sVv (As := [.int 96]) hC hl.1 (fun q hq => c_Mod_add l D ad cI cZ cT v q2 96 q hq) fy_Mod_add fv_Mod_add kw_657 ⟨Nat.le_of_ble_eq_true rfl, Nat.le_of_ble_eq_true rfl⟩ rfl hK hA hw at_M_30 rfl rfl rfl (Nat.le_of_ble_eq_true rfl) d_Mod_reject_13 ⟨Nat.le_refl _, Nat.le_refl _⟩ h (fun H locs q3 h hw => ?_)
  refine lv_aload_n hx hb d_Mod_reject_16 rfl (lv_at hl 0 rfl) ?_
  refine lv_iload_n hx hb d_Mod_reject_17 rfl (lv_at hl 1 rfl) ?_
  refine fx_sVv (As := [.int x1]) hC hl.1 (fun q hq => c_Mod_add l D ad cI cZ cT v q3 x1 q hq) fy_Mod_add fv_Mod_add kw_657 ⟨Nat.le_of_ble_eq_true rfl, Nat.le_of_ble_eq_true rfl⟩ rfl hK hA hw at_M_30 rfl rfl rfl (Nat.le_of_ble_eq_true rfl) d_Mod_reject_18 ⟨Nat.le_refl _, Nat.le_refl _⟩ h (fun H locs q4 h hw => ?_)
  refine lv_aload_n hx hb d_Mod_reject_21 rfl (lv_at hl 0 rfl) ?_
  refine lv_iload_n hx hb d_Mod_reject_22 rfl (lv_at hl 2 rfl) ?_
  refine fx_sVv (As := [.int x2]) hC hl.1 (fun q hq => c_Mod_add l D ad cI cZ cT v q4 x2 q hq) fy_Mod_add fv_Mod_add kw_657 ⟨Nat.le_of_ble_eq_true rfl, Nat.le_of_ble_eq_true rfl⟩ rfl hK hA hw at_M_30 rfl rfl rfl (Nat.le_of_ble_eq_true rfl) d_Mod_reject_23 ⟨Nat.le_refl _, Nat.le_refl _⟩ h (fun H locs q5 h hw => ?_)
  exact fx_retv hC hr hK hw h d_Mod_reject_26
def f_Mod_thingOf (x0 : Int32) : Option (Int32) :=
  if (x0 &&& 4194303) ≤ 1 then
    if (us x0 22) = 2 then
      some (x0 &&& 4194303)
    else
    if (us x0 22) = 4 then
      some (2 + (x0 &&& 4194303))
    else
    some (-1)
  else
  some (-1)
set_option maxHeartbeats 4000000 in
set_option maxRecDepth 100000 in
theorem c_Mod_thingOf (l : Launch) (D : va_G) (ad : Nat → Nat) (cI cZ cT : ClassId) (v u : ST) (x0 : Int32) (q : Int32) (h : f_Mod_thingOf x0 = some q) : MX l D (tyC cI cZ cT) (wM ad cI cZ cT v) y_Mod_thingOf cd_Mod_thingOf 0 0 [.int x0] u (some (.int q)) u := by
  refine MX.start (by decide) (Nat.le_of_ble_eq_true rfl) ?_
  intro p e s m below meth c ls A hC hr hl hK hA hw
  have ⟨hx, hb, hml, hown, hT, hlk⟩ := hC
  have hl : lv_has ls 3 [(0, .int x0)] := hl
  rw [f_Mod_thingOf] at h
  refine lv_iload_n hx hb d_Mod_thingOf_0 rfl (lv_at hl 0 rfl) ?_
  refine lv_bipush (v := 22) hx hb d_Mod_thingOf_1 (by decide) ?_
  refine lv_iushr (v := (us x0 22)) hx hb d_Mod_thingOf_3 rfl ?_
  refine lv_istore_n (lv' := [(1, .int (us x0 22)), (0, .int x0)]) hx hb d_Mod_thingOf_4 rfl hl (by decide) rfl (fun ls hl => ?_)
  refine lv_iload_n hx hb d_Mod_thingOf_5 rfl (lv_at hl 1 rfl) ?_
  refine lv_ldc (v := 4194303) hx hb hown (hT _ kw_684) d_Mod_thingOf_6 ?_
  refine lv_iand hx hb d_Mod_thingOf_8 ?_
  refine lv_istore_n (lv' := [(2, .int (x0 &&& 4194303)), (1, .int (us x0 22)), (0, .int x0)]) hx hb d_Mod_thingOf_9 rfl hl (by decide) rfl (fun ls hl => ?_)
  refine lv_iload_n hx hb d_Mod_thingOf_10 rfl (lv_at hl 0 rfl) ?_
  refine lv_iconst (v := 1) hx hb d_Mod_thingOf_11 (by decide) ?_
  refine lv_icmp_le (tgt := 19) hx hb d_Mod_thingOf_12 rfl (fun c1 => ?_) (fun c1 => ?_)
  · have h := br1 c1 h
    refine lv_iload_n hx hb d_Mod_thingOf_19 rfl (lv_at hl 1 rfl) ?_
    refine lv_iconst (v := 2) hx hb d_Mod_thingOf_20 (by decide) ?_
    refine lv_icmp_ne (tgt := 28) hx hb d_Mod_thingOf_21 rfl (fun c2 => ?_) (fun c2 => ?_)
    · have h := br0 c2 h
      refine lv_iload_n hx hb d_Mod_thingOf_28 rfl (lv_at hl 1 rfl) ?_
      refine lv_iconst (v := 4) hx hb d_Mod_thingOf_29 (by decide) ?_
      refine lv_icmp_ne (tgt := 39) hx hb d_Mod_thingOf_30 rfl (fun c3 => ?_) (fun c3 => ?_)
      · have h := br0 c3 h
        refine lv_iconst (v := (-1)) hx hb d_Mod_thingOf_39 (by decide) ?_
        exact fx_retr hC hr rfl hK hw h d_Mod_thingOf_40
      · have h := br1 c3 h
        refine lv_iconst (v := 2) hx hb d_Mod_thingOf_33 (by decide) ?_
        refine lv_iload_n hx hb d_Mod_thingOf_34 rfl (lv_at hl 0 rfl) ?_
        refine lv_iadd hx hb d_Mod_thingOf_35 ?_
        refine lv_goto (tgt := 40) hx hb d_Mod_thingOf_36 rfl ?_
        exact fx_retr hC hr rfl hK hw h d_Mod_thingOf_40
    · have h := br1 c2 h
      refine lv_iload_n hx hb d_Mod_thingOf_24 rfl (lv_at hl 0 rfl) ?_
      refine lv_goto (tgt := 40) hx hb d_Mod_thingOf_25 rfl ?_
      exact fx_retr hC hr rfl hK hw h d_Mod_thingOf_40
  · have h := br0 c1 h
    refine lv_iconst (v := (-1)) hx hb d_Mod_thingOf_15 (by decide) ?_
    refine lv_goto (tgt := 40) hx hb d_Mod_thingOf_16 rfl ?_
    exact fx_retr hC hr rfl hK hw h d_Mod_thingOf_40
def f_Mod_wrong_J124 (y3 y4 s0 : Int32) : Option (Int32) :=
  if s0 = 0 then
    some 209
  else
  if y3 = 145 then
    if y4 ≤ 1 then
      some 0
    else
    some 237
  else
  some 0
def f_Mod_wrong_J119 (y3 y4 : Int32) : Option (Int32) :=
  f_Mod_wrong_J124 y3 y4 1
def f_Mod_wrong_J123 (y3 y4 : Int32) : Option (Int32) :=
  f_Mod_wrong_J124 y3 y4 0
def f_Mod_wrong_J106 (y1 y3 y4 s0 s1 : Int32) : Option (Int32) :=
  if s1 = s0 then
    f_Mod_wrong_J119 y3 y4
  else
  if y3 = 0 then
    if y1 = 85 then
      f_Mod_wrong_J119 y3 y4
    else
    f_Mod_wrong_J123 y3 y4
  else
  f_Mod_wrong_J123 y3 y4
def f_Mod_wrong_J70 (y0 y1 y3 y4 : Int32) : Option (Int32) :=
  if 0 ≤ y3 then
    if y1 = 75 then
      some 240
    else
    if y1 = 87 then
      some 240
    else
    if 2 ≤ y0 then
      f_Mod_wrong_J106 y1 y3 y4 145 y3
    else
    f_Mod_wrong_J106 y1 y3 y4 68 y3
  else
  some 0
def f_Mod_wrong_J50 (y0 y1 y2 y3 y4 : Int32) : Option (Int32) :=
  if y1 = 87 then
    if y2 < 0 then
      some 242
    else
    if y2 ≤ 16 then
      f_Mod_wrong_J70 y0 y1 y3 y4
    else
    some 242
  else
  f_Mod_wrong_J70 y0 y1 y3 y4
def f_Mod_wrong_J36 (y0 y1 y2 y3 y4 : Int32) : Option (Int32) :=
  if y2 < 0 then
    f_Mod_wrong_J50 y0 y1 y2 y3 y4
  else
  if y1 = 87 then
    f_Mod_wrong_J50 y0 y1 y2 y3 y4
  else
  some 250
def f_Mod_wrong (x0 x1 x2 x3 x4 : Int32) : Option (Int32) :=
  if 0 ≤ x0 then
    if x1 = 75 then
      f_Mod_wrong_J36 x0 x1 x2 x3 x4
    else
    if x1 = 85 then
      f_Mod_wrong_J36 x0 x1 x2 x3 x4
    else
    if x1 = 87 then
      f_Mod_wrong_J36 x0 x1 x2 x3 x4
    else
    if x1 = 104 then
      f_Mod_wrong_J36 x0 x1 x2 x3 x4
    else
    some 232
  else
  some 131
set_option maxHeartbeats 4000000 in
set_option maxRecDepth 100000 in
theorem c_Mod_wrong (l : Launch) (D : va_G) (ad : Nat → Nat) (cI cZ cT : ClassId) (v u : ST) (x0 x1 x2 x3 x4 : Int32) (q : Int32) (h : f_Mod_wrong x0 x1 x2 x3 x4 = some q) : MX l D (tyC cI cZ cT) (wM ad cI cZ cT v) y_Mod_wrong cd_Mod_wrong 0 0 [.int x0, .int x1, .int x2, .int x3, .int x4] u (some (.int q)) u := by
  refine MX.start (by decide) (Nat.le_of_ble_eq_true rfl) ?_
  intro p e s m below meth c ls A hC hr hl hK hA hw
  have ⟨hx, hb, hml, hown, hT, hlk⟩ := hC
  have hl : lv_has ls 6 [(0, .int x0), (1, .int x1), (2, .int x2), (3, .int x3), (4, .int x4)] := hl
  have J124 : ∀ (y3 y4 s0 : Int32) (ls : Array Slot) (H : Heap) (locs : List Loc), f_Mod_wrong_J124 y3 y4 s0 = some q → lv_has ls 6 [(3, .int y3), (4, .int y4)] → fw D A s.heap (wM ad cI cZ cT v u) H locs → WX (wM ad cI cZ cT v) p l e 0 0 s m [.int x0, .int x1, .int x2, .int x3, .int x4] below meth c A D (tyC cI cZ cT) (some (.int q)) u H locs (F0 m 124 ls [.int s0]) := by
    intro y3 y4 s0 ls H locs h hl hw
    rw [f_Mod_wrong_J124] at h
    refine lv_istore (lv' := [(5, .int s0), (3, .int y3), (4, .int y4)]) hx hb d_Mod_wrong_124 hl (by decide) rfl (fun ls hl => ?_)
    refine lv_iload hx hb d_Mod_wrong_126 (lv_at hl 0 rfl) ?_
    refine lv_if_ne (tgt := 135) hx hb d_Mod_wrong_128 rfl (fun c10 => ?_) (fun c10 => ?_)
    · have h := br0 c10 h
      refine lv_iload_n hx hb d_Mod_wrong_135 rfl (lv_at hl 1 rfl) ?_
      refine lv_sipush (v := 145) hx hb d_Mod_wrong_136 (by decide) ?_
      refine lv_icmp_ne (tgt := 154) hx hb d_Mod_wrong_139 rfl (fun c11 => ?_) (fun c11 => ?_)
      · have h := br0 c11 h
        refine lv_iconst (v := 0) hx hb d_Mod_wrong_154 (by decide) ?_
        exact fx_retr hC hr rfl hK hw h d_Mod_wrong_155
      · have h := br1 c11 h
        refine lv_iload hx hb d_Mod_wrong_142 (lv_at hl 2 rfl) ?_
        refine lv_iconst (v := 1) hx hb d_Mod_wrong_144 (by decide) ?_
        refine lv_icmp_le (tgt := 154) hx hb d_Mod_wrong_145 rfl (fun c12 => ?_) (fun c12 => ?_)
        · have h := br1 c12 h
          refine lv_iconst (v := 0) hx hb d_Mod_wrong_154 (by decide) ?_
          exact fx_retr hC hr rfl hK hw h d_Mod_wrong_155
        · have h := br0 c12 h
          refine lv_sipush (v := 237) hx hb d_Mod_wrong_148 (by decide) ?_
          refine lv_goto (tgt := 155) hx hb d_Mod_wrong_151 rfl ?_
          exact fx_retr hC hr rfl hK hw h d_Mod_wrong_155
    · have h := br1 c10 h
      refine lv_sipush (v := 209) hx hb d_Mod_wrong_131 (by decide) ?_
      exact fx_retr hC hr rfl hK hw h d_Mod_wrong_134
  have J119 : ∀ (y3 y4 : Int32) (ls : Array Slot) (H : Heap) (locs : List Loc), f_Mod_wrong_J119 y3 y4 = some q → lv_has ls 6 [(3, .int y3), (4, .int y4)] → fw D A s.heap (wM ad cI cZ cT v u) H locs → WX (wM ad cI cZ cT v) p l e 0 0 s m [.int x0, .int x1, .int x2, .int x3, .int x4] below meth c A D (tyC cI cZ cT) (some (.int q)) u H locs (F0 m 119 ls []) := by
    intro y3 y4 ls H locs h hl hw
    rw [f_Mod_wrong_J119] at h
    refine lv_iconst (v := 1) hx hb d_Mod_wrong_119 (by decide) ?_
    refine lv_goto (tgt := 124) hx hb d_Mod_wrong_120 rfl ?_
    exact J124 _ _ _ _ _ _ h (lv_sub hl [0, 1] rfl) hw
  have J123 : ∀ (y3 y4 : Int32) (ls : Array Slot) (H : Heap) (locs : List Loc), f_Mod_wrong_J123 y3 y4 = some q → lv_has ls 6 [(3, .int y3), (4, .int y4)] → fw D A s.heap (wM ad cI cZ cT v u) H locs → WX (wM ad cI cZ cT v) p l e 0 0 s m [.int x0, .int x1, .int x2, .int x3, .int x4] below meth c A D (tyC cI cZ cT) (some (.int q)) u H locs (F0 m 123 ls []) := by
    intro y3 y4 ls H locs h hl hw
    rw [f_Mod_wrong_J123] at h
    refine lv_iconst (v := 0) hx hb d_Mod_wrong_123 (by decide) ?_
    exact J124 _ _ _ _ _ _ h (lv_sub hl [0, 1] rfl) hw
  have J106 : ∀ (y1 y3 y4 s0 s1 : Int32) (ls : Array Slot) (H : Heap) (locs : List Loc), f_Mod_wrong_J106 y1 y3 y4 s0 s1 = some q → lv_has ls 6 [(1, .int y1), (3, .int y3), (4, .int y4)] → fw D A s.heap (wM ad cI cZ cT v u) H locs → WX (wM ad cI cZ cT v) p l e 0 0 s m [.int x0, .int x1, .int x2, .int x3, .int x4] below meth c A D (tyC cI cZ cT) (some (.int q)) u H locs (F0 m 106 ls [.int s0, .int s1]) := by
    intro y1 y3 y4 s0 s1 ls H locs h hl hw
    rw [f_Mod_wrong_J106] at h
    refine lv_icmp_eq (tgt := 119) hx hb d_Mod_wrong_106 rfl (fun c9 => ?_) (fun c9 => ?_)
    · have h := br1 c9 h
      exact J119 _ _ _ _ _ h (lv_sub hl [1, 2] rfl) hw
    · have h := br0 c9 h
      refine lv_iload_n hx hb d_Mod_wrong_109 rfl (lv_at hl 1 rfl) ?_
      refine lv_if_ne (tgt := 123) hx hb d_Mod_wrong_110 rfl (fun c13 => ?_) (fun c13 => ?_)
      · have h := br0 c13 h
        exact J123 _ _ _ _ _ h (lv_sub hl [1, 2] rfl) hw
      · have h := br1 c13 h
        refine lv_iload_n hx hb d_Mod_wrong_113 rfl (lv_at hl 0 rfl) ?_
        refine lv_bipush (v := 85) hx hb d_Mod_wrong_114 (by decide) ?_
        refine lv_icmp_ne (tgt := 123) hx hb d_Mod_wrong_116 rfl (fun c14 => ?_) (fun c14 => ?_)
        · have h := br0 c14 h
          exact J123 _ _ _ _ _ h (lv_sub hl [1, 2] rfl) hw
        · have h := br1 c14 h
          exact J119 _ _ _ _ _ h (lv_sub hl [1, 2] rfl) hw
  have J70 : ∀ (y0 y1 y3 y4 : Int32) (ls : Array Slot) (H : Heap) (locs : List Loc), f_Mod_wrong_J70 y0 y1 y3 y4 = some q → lv_has ls 6 [(0, .int y0), (1, .int y1), (3, .int y3), (4, .int y4)] → fw D A s.heap (wM ad cI cZ cT v u) H locs → WX (wM ad cI cZ cT v) p l e 0 0 s m [.int x0, .int x1, .int x2, .int x3, .int x4] below meth c A D (tyC cI cZ cT) (some (.int q)) u H locs (F0 m 70 ls []) := by
    intro y0 y1 y3 y4 ls H locs h hl hw
    rw [f_Mod_wrong_J70] at h
    refine lv_iload_n hx hb d_Mod_wrong_70 rfl (lv_at hl 2 rfl) ?_
    refine lv_if_ge (tgt := 76) hx hb d_Mod_wrong_71 rfl (fun c5 => ?_) (fun c5 => ?_)
    · have h := br1 c5 h
      refine lv_iload_n hx hb d_Mod_wrong_76 rfl (lv_at hl 1 rfl) ?_
      refine lv_bipush (v := 75) hx hb d_Mod_wrong_77 (by decide) ?_
      refine lv_icmp_eq (tgt := 88) hx hb d_Mod_wrong_79 rfl (fun c6 => ?_) (fun c6 => ?_)
      · have h := br1 c6 h
        refine lv_sipush (v := 240) hx hb d_Mod_wrong_88 (by decide) ?_
        exact fx_retr hC hr rfl hK hw h d_Mod_wrong_91
      · have h := br0 c6 h
        refine lv_iload_n hx hb d_Mod_wrong_82 rfl (lv_at hl 1 rfl) ?_
        refine lv_bipush (v := 87) hx hb d_Mod_wrong_83 (by decide) ?_
        refine lv_icmp_ne (tgt := 92) hx hb d_Mod_wrong_85 rfl (fun c7 => ?_) (fun c7 => ?_)
        · have h := br0 c7 h
          refine lv_iload_n hx hb d_Mod_wrong_92 rfl (lv_at hl 2 rfl) ?_
          refine lv_iload_n hx hb d_Mod_wrong_93 rfl (lv_at hl 0 rfl) ?_
          refine lv_iconst (v := 2) hx hb d_Mod_wrong_94 (by decide) ?_
          refine lv_icmp_ge (tgt := 103) hx hb d_Mod_wrong_95 rfl (fun c8 => ?_) (fun c8 => ?_)
          · have h := br1 c8 h
            refine lv_sipush (v := 145) hx hb d_Mod_wrong_103 (by decide) ?_
            exact J106 _ _ _ _ _ _ _ _ h (lv_sub hl [1, 2, 3] rfl) hw
          · have h := br0 c8 h
            refine lv_bipush (v := 68) hx hb d_Mod_wrong_98 (by decide) ?_
            refine lv_goto (tgt := 106) hx hb d_Mod_wrong_100 rfl ?_
            exact J106 _ _ _ _ _ _ _ _ h (lv_sub hl [1, 2, 3] rfl) hw
        · have h := br1 c7 h
          refine lv_sipush (v := 240) hx hb d_Mod_wrong_88 (by decide) ?_
          exact fx_retr hC hr rfl hK hw h d_Mod_wrong_91
    · have h := br0 c5 h
      refine lv_iconst (v := 0) hx hb d_Mod_wrong_74 (by decide) ?_
      exact fx_retr hC hr rfl hK hw h d_Mod_wrong_75
  have J50 : ∀ (y0 y1 y2 y3 y4 : Int32) (ls : Array Slot) (H : Heap) (locs : List Loc), f_Mod_wrong_J50 y0 y1 y2 y3 y4 = some q → lv_has ls 6 [(0, .int y0), (1, .int y1), (2, .int y2), (3, .int y3), (4, .int y4)] → fw D A s.heap (wM ad cI cZ cT v u) H locs → WX (wM ad cI cZ cT v) p l e 0 0 s m [.int x0, .int x1, .int x2, .int x3, .int x4] below meth c A D (tyC cI cZ cT) (some (.int q)) u H locs (F0 m 50 ls []) := by
    intro y0 y1 y2 y3 y4 ls H locs h hl hw
    rw [f_Mod_wrong_J50] at h
    refine lv_iload_n hx hb d_Mod_wrong_50 rfl (lv_at hl 1 rfl) ?_
    refine lv_bipush (v := 87) hx hb d_Mod_wrong_51 (by decide) ?_
    refine lv_icmp_ne (tgt := 70) hx hb d_Mod_wrong_53 rfl (fun c4 => ?_) (fun c4 => ?_)
    · have h := br0 c4 h
      exact J70 _ _ _ _ _ _ _ h (lv_sub hl [0, 1, 3, 4] rfl) hw
    · have h := br1 c4 h
      refine lv_iload_n hx hb d_Mod_wrong_56 rfl (lv_at hl 2 rfl) ?_
      refine lv_if_lt (tgt := 66) hx hb d_Mod_wrong_57 rfl (fun c15 => ?_) (fun c15 => ?_)
      · have h := br1 c15 h
        refine lv_sipush (v := 242) hx hb d_Mod_wrong_66 (by decide) ?_
        exact fx_retr hC hr rfl hK hw h d_Mod_wrong_69
      · have h := br0 c15 h
        refine lv_iload_n hx hb d_Mod_wrong_60 rfl (lv_at hl 2 rfl) ?_
        refine lv_bipush (v := 16) hx hb d_Mod_wrong_61 (by decide) ?_
        refine lv_icmp_le (tgt := 70) hx hb d_Mod_wrong_63 rfl (fun c16 => ?_) (fun c16 => ?_)
        · have h := br1 c16 h
          exact J70 _ _ _ _ _ _ _ h (lv_sub hl [0, 1, 3, 4] rfl) hw
        · have h := br0 c16 h
          refine lv_sipush (v := 242) hx hb d_Mod_wrong_66 (by decide) ?_
          exact fx_retr hC hr rfl hK hw h d_Mod_wrong_69
  have J36 : ∀ (y0 y1 y2 y3 y4 : Int32) (ls : Array Slot) (H : Heap) (locs : List Loc), f_Mod_wrong_J36 y0 y1 y2 y3 y4 = some q → lv_has ls 6 [(0, .int y0), (1, .int y1), (2, .int y2), (3, .int y3), (4, .int y4)] → fw D A s.heap (wM ad cI cZ cT v u) H locs → WX (wM ad cI cZ cT v) p l e 0 0 s m [.int x0, .int x1, .int x2, .int x3, .int x4] below meth c A D (tyC cI cZ cT) (some (.int q)) u H locs (F0 m 36 ls []) := by
    intro y0 y1 y2 y3 y4 ls H locs h hl hw
    rw [f_Mod_wrong_J36] at h
    refine lv_iload_n hx hb d_Mod_wrong_36 rfl (lv_at hl 2 rfl) ?_
    refine lv_if_lt (tgt := 50) hx hb d_Mod_wrong_37 rfl (fun c3 => ?_) (fun c3 => ?_)
    · have h := br1 c3 h
      exact J50 _ _ _ _ _ _ _ _ h (lv_sub hl [0, 1, 2, 3, 4] rfl) hw
    · have h := br0 c3 h
      refine lv_iload_n hx hb d_Mod_wrong_40 rfl (lv_at hl 1 rfl) ?_
      refine lv_bipush (v := 87) hx hb d_Mod_wrong_41 (by decide) ?_
      refine lv_icmp_eq (tgt := 50) hx hb d_Mod_wrong_43 rfl (fun c17 => ?_) (fun c17 => ?_)
      · have h := br1 c17 h
        exact J50 _ _ _ _ _ _ _ _ h (lv_sub hl [0, 1, 2, 3, 4] rfl) hw
      · have h := br0 c17 h
        refine lv_sipush (v := 250) hx hb d_Mod_wrong_46 (by decide) ?_
        exact fx_retr hC hr rfl hK hw h d_Mod_wrong_49
  rw [f_Mod_wrong] at h
  refine lv_iload_n hx hb d_Mod_wrong_0 rfl (lv_at hl 0 rfl) ?_
  refine lv_if_ge (tgt := 8) hx hb d_Mod_wrong_1 rfl (fun c1 => ?_) (fun c1 => ?_)
  · have h := br1 c1 h
    refine lv_iload_n hx hb d_Mod_wrong_8 rfl (lv_at hl 1 rfl) ?_
    refine lv_bipush (v := 75) hx hb d_Mod_wrong_9 (by decide) ?_
    refine lv_icmp_eq (tgt := 36) hx hb d_Mod_wrong_11 rfl (fun c2 => ?_) (fun c2 => ?_)
    · have h := br1 c2 h
      exact J36 _ _ _ _ _ _ _ _ h (lv_sub hl [0, 1, 2, 3, 4] rfl) hw
    · have h := br0 c2 h
      refine lv_iload_n hx hb d_Mod_wrong_14 rfl (lv_at hl 1 rfl) ?_
      refine lv_bipush (v := 85) hx hb d_Mod_wrong_15 (by decide) ?_
      refine lv_icmp_eq (tgt := 36) hx hb d_Mod_wrong_17 rfl (fun c18 => ?_) (fun c18 => ?_)
      · have h := br1 c18 h
        exact J36 _ _ _ _ _ _ _ _ h (lv_sub hl [0, 1, 2, 3, 4] rfl) hw
      · have h := br0 c18 h
        refine lv_iload_n hx hb d_Mod_wrong_20 rfl (lv_at hl 1 rfl) ?_
        refine lv_bipush (v := 87) hx hb d_Mod_wrong_21 (by decide) ?_
        refine lv_icmp_eq (tgt := 36) hx hb d_Mod_wrong_23 rfl (fun c19 => ?_) (fun c19 => ?_)
        · have h := br1 c19 h
          exact J36 _ _ _ _ _ _ _ _ h (lv_sub hl [0, 1, 2, 3, 4] rfl) hw
        · have h := br0 c19 h
          refine lv_iload_n hx hb d_Mod_wrong_26 rfl (lv_at hl 1 rfl) ?_
          refine lv_bipush (v := 104) hx hb d_Mod_wrong_27 (by decide) ?_
          refine lv_icmp_eq (tgt := 36) hx hb d_Mod_wrong_29 rfl (fun c20 => ?_) (fun c20 => ?_)
          · have h := br1 c20 h
            exact J36 _ _ _ _ _ _ _ _ h (lv_sub hl [0, 1, 2, 3, 4] rfl) hw
          · have h := br0 c20 h
            refine lv_sipush (v := 232) hx hb d_Mod_wrong_32 (by decide) ?_
            exact fx_retr hC hr rfl hK hw h d_Mod_wrong_35
  · have h := br0 c1 h
    refine lv_sipush (v := 131) hx hb d_Mod_wrong_4 (by decide) ?_
    exact fx_retr hC hr rfl hK hw h d_Mod_wrong_7
def f_Mod_addInt_L3 : Nat → ST → Int32 → Int32 → Option (ST)
  | 0, _, _, _ => none
  | k_ + 1, u, y1, y2 =>
    if y2 < 0 then
      some u
    else
    k_bd (f_Mod_add u ((us y1 y2) &&& 255)) fun q2 =>
    f_Mod_addInt_L3 k_ q2 y1 (y2 + (-8))
def f_Mod_addInt (u : ST) (x1 : Int32) : Option (ST) :=
  f_Mod_addInt_L3 200 u x1 24
set_option maxHeartbeats 4000000 in
set_option maxRecDepth 100000 in
theorem c_Mod_addInt (l : Launch) (D : va_G) (ad : Nat → Nat) (cI cZ cT : ClassId) (v u : ST) (x1 : Int32) (q : ST) (h : f_Mod_addInt u x1 = some q) : MX l D (tyC cI cZ cT) (wM ad cI cZ cT v) y_Mod_addInt cd_Mod_addInt 1 21 [.ref (ad 30), .int x1] u none q := by
  refine MX.start (by decide) (Nat.le_of_ble_eq_true rfl) ?_
  intro p e s m below meth c ls A hC hr hl hK hA hw
  have ⟨hx, hb, hml, hown, hT, hlk⟩ := hC
  have hl : lv_has ls 3 [(0, .ref (ad 30)), (1, .int x1)] := hl
  have L3 : ∀ (k_ : Nat) (u : ST) (y1 y2 : Int32) (ls : Array Slot) (H : Heap) (locs : List Loc), f_Mod_addInt_L3 k_ u y1 y2 = some q → lv_has ls 3 [(0, .ref (ad 30)), (1, .int y1), (2, .int y2)] → fw D A s.heap (wM ad cI cZ cT v u) H locs → WX (wM ad cI cZ cT v) p l e 1 21 s m [.ref (ad 30), .int x1] below meth c A D (tyC cI cZ cT) none q H locs (F0 m 3 ls []) := by
    intro k_
    induction k_ with
    | zero =>
      intro u y1 y2 ls H locs h hl hw
      cases h
    | succ k_ ih =>
      intro u y1 y2 ls H locs h hl hw
      rw [f_Mod_addInt_L3] at h
      refine lv_iload_n hx hb d_Mod_addInt_3 rfl (lv_at hl 2 rfl) ?_
      refine lv_if_lt (tgt := 24) hx hb d_Mod_addInt_4 rfl (fun c1 => ?_) (fun c1 => ?_)
      · have h := br1 c1 h
        exact fx_retv hC hr hK hw h d_Mod_addInt_24
      · have h := br0 c1 h
        refine lv_aload_n hx hb d_Mod_addInt_7 rfl (lv_at hl 0 rfl) ?_
        refine lv_iload_n hx hb d_Mod_addInt_8 rfl (lv_at hl 1 rfl) ?_
        refine lv_iload_n hx hb d_Mod_addInt_9 rfl (lv_at hl 2 rfl) ?_
        refine lv_iushr (v := (us y1 y2)) hx hb d_Mod_addInt_10 rfl ?_
        refine lv_sipush (v := 255) hx hb d_Mod_addInt_11 (by decide) ?_
        refine lv_iand hx hb d_Mod_addInt_14 ?_
        refine fx_sVv (As := [.int ((us y1 y2) &&& 255)]) hC hl.1 (fun q hq => c_Mod_add l D ad cI cZ cT v u ((us y1 y2) &&& 255) q hq) fy_Mod_add fv_Mod_add kw_657 ⟨Nat.le_of_ble_eq_true rfl, Nat.le_of_ble_eq_true rfl⟩ rfl hK hA hw at_M_30 rfl rfl rfl (Nat.le_of_ble_eq_true rfl) d_Mod_addInt_15 ⟨Nat.le_refl _, Nat.le_refl _⟩ h (fun H locs q2 h hw => ?_)
        refine lv_iinc (k := 2) (v := (y2 + (-8))) (lv' := [(2, .int (y2 + (-8))), (0, .ref (ad 30)), (1, .int y1)]) hx hb d_Mod_addInt_18 hl rfl rfl (by decide) rfl (fun ls hl => ?_)
        refine lv_goto (tgt := 3) hx hb d_Mod_addInt_21 rfl ?_
        exact ih _ _ _ _ _ _ h (lv_sub hl [1, 2, 0] rfl) hw
  rw [f_Mod_addInt] at h
  refine lv_bipush (v := 24) hx hb d_Mod_addInt_0 (by decide) ?_
  refine lv_istore_n (lv' := [(2, .int 24), (0, .ref (ad 30)), (1, .int x1)]) hx hb d_Mod_addInt_2 rfl hl (by decide) rfl (fun ls hl => ?_)
  exact L3 _ _ _ _ _ _ _ h (lv_sub hl [1, 2, 0] rfl) hw
def f_Mod_addValue (u : ST) (x1 x2 : Int32) : Option (ST) :=
  if 2 ≤ x1 then
    k_bd (f_Mod_add u 145) fun q2 =>
    k_bd (f_Mod_add q2 x2) fun q3 =>
    some q3
  else
  k_bd (f_Mod_add u 68) fun q4 =>
  k_bd (f_Mod_addInt q4 x2) fun q5 =>
  some q5
set_option maxHeartbeats 4000000 in
set_option maxRecDepth 100000 in
theorem c_Mod_addValue (l : Launch) (D : va_G) (ad : Nat → Nat) (cI cZ cT : ClassId) (v u : ST) (x1 x2 : Int32) (q : ST) (h : f_Mod_addValue u x1 x2 = some q) : MX l D (tyC cI cZ cT) (wM ad cI cZ cT v) y_Mod_addValue cd_Mod_addValue 2 43 [.ref (ad 30), .int x1, .int x2] u none q := by
  refine MX.start (by decide) (Nat.le_of_ble_eq_true rfl) ?_
  intro p e s m below meth c ls A hC hr hl hK hA hw
  have ⟨hx, hb, hml, hown, hT, hlk⟩ := hC
  have hl : lv_has ls 3 [(0, .ref (ad 30)), (1, .int x1), (2, .int x2)] := hl
  rw [f_Mod_addValue] at h
  refine lv_iload_n hx hb d_Mod_addValue_0 rfl (lv_at hl 1 rfl) ?_
  refine lv_iconst (v := 2) hx hb d_Mod_addValue_1 (by decide) ?_
  refine lv_icmp_ge (tgt := 19) hx hb d_Mod_addValue_2 rfl (fun c1 => ?_) (fun c1 => ?_)
  · have h := br1 c1 h
    refine lv_aload_n hx hb d_Mod_addValue_19 rfl (lv_at hl 0 rfl) ?_
    refine lv_sipush (v := 145) hx hb d_Mod_addValue_20 (by decide) ?_
    refine fx_sVv (As := [.int 145]) hC hl.1 (fun q hq => c_Mod_add l D ad cI cZ cT v u 145 q hq) fy_Mod_add fv_Mod_add kw_657 ⟨Nat.le_of_ble_eq_true rfl, Nat.le_of_ble_eq_true rfl⟩ rfl hK hA hw at_M_30 rfl rfl rfl (Nat.le_of_ble_eq_true rfl) d_Mod_addValue_23 ⟨Nat.le_refl _, Nat.le_refl _⟩ h (fun H locs q2 h hw => ?_)
    refine lv_aload_n hx hb d_Mod_addValue_26 rfl (lv_at hl 0 rfl) ?_
    refine lv_iload_n hx hb d_Mod_addValue_27 rfl (lv_at hl 2 rfl) ?_
    refine fx_sVv (As := [.int x2]) hC hl.1 (fun q hq => c_Mod_add l D ad cI cZ cT v q2 x2 q hq) fy_Mod_add fv_Mod_add kw_657 ⟨Nat.le_of_ble_eq_true rfl, Nat.le_of_ble_eq_true rfl⟩ rfl hK hA hw at_M_30 rfl rfl rfl (Nat.le_of_ble_eq_true rfl) d_Mod_addValue_28 ⟨Nat.le_refl _, Nat.le_refl _⟩ h (fun H locs q3 h hw => ?_)
    exact fx_retv hC hr hK hw h d_Mod_addValue_31
  · have h := br0 c1 h
    refine lv_aload_n hx hb d_Mod_addValue_5 rfl (lv_at hl 0 rfl) ?_
    refine lv_bipush (v := 68) hx hb d_Mod_addValue_6 (by decide) ?_
    refine fx_sVv (As := [.int 68]) hC hl.1 (fun q hq => c_Mod_add l D ad cI cZ cT v u 68 q hq) fy_Mod_add fv_Mod_add kw_657 ⟨Nat.le_of_ble_eq_true rfl, Nat.le_of_ble_eq_true rfl⟩ rfl hK hA hw at_M_30 rfl rfl rfl (Nat.le_of_ble_eq_true rfl) d_Mod_addValue_8 ⟨Nat.le_refl _, Nat.le_refl _⟩ h (fun H locs q4 h hw => ?_)
    refine lv_aload_n hx hb d_Mod_addValue_11 rfl (lv_at hl 0 rfl) ?_
    refine lv_iload_n hx hb d_Mod_addValue_12 rfl (lv_at hl 2 rfl) ?_
    refine fx_sVv (As := [.int x2]) hC hl.1 (fun q hq => c_Mod_addInt l D ad cI cZ cT v q4 x2 q hq) fy_Mod_addInt fv_Mod_addInt kw_692 ⟨Nat.le_of_ble_eq_true rfl, Nat.le_of_ble_eq_true rfl⟩ rfl hK hA hw at_M_30 rfl rfl rfl (Nat.le_of_ble_eq_true rfl) d_Mod_addValue_13 ⟨Nat.le_refl _, Nat.le_refl _⟩ h (fun H locs q5 h hw => ?_)
    refine lv_goto (tgt := 31) hx hb d_Mod_addValue_16 rfl ?_
    exact fx_retv hC hr hK hw h d_Mod_addValue_31
def f_Mod_presentOf_L13 : Nat → ST → Int32 → Int32 → Int32 → Option (Int32)
  | 0, _, _, _, _ => none
  | k_ + 1, u, y1, y2, y3 =>
    if y3 ≤ 0 then
      some y2
    else
    k_gd (inb ((17 * y1) + y3) 68) (
    if (u.2 7 ((17 * y1) + y3).toNatClampNeg) = 0 then
      f_Mod_presentOf_L13 k_ u y1 y2 (y3 + (-1))
    else
    k_gd (inb ((17 * y1) + y3) 68) (
    f_Mod_presentOf_L13 k_ u y1 (u.2 6 ((17 * y1) + y3).toNatClampNeg) (y3 + (-1))))
def f_Mod_presentOf (u : ST) (x1 : Int32) : Option (Int32) :=
  k_gd (inb (17 * x1) 68) (
  f_Mod_presentOf_L13 200 u x1 (u.2 6 (17 * x1).toNatClampNeg) 16)
set_option maxHeartbeats 4000000 in
set_option maxRecDepth 100000 in
theorem c_Mod_presentOf (l : Launch) (D : va_G) (ad : Nat → Nat) (cI cZ cT : ClassId) (v u : ST) (x1 : Int32) (q : Int32) (h : f_Mod_presentOf u x1 = some q) : MX l D (tyC cI cZ cT) (wM ad cI cZ cT v) y_Mod_presentOf cd_Mod_presentOf 0 0 [.ref (ad 30), .int x1] u (some (.int q)) u := by
  refine MX.start (by decide) (Nat.le_of_ble_eq_true rfl) ?_
  intro p e s m below meth c ls A hC hr hl hK hA hw
  have ⟨hx, hb, hml, hown, hT, hlk⟩ := hC
  have hl : lv_has ls 4 [(0, .ref (ad 30)), (1, .int x1)] := hl
  have L13 : ∀ (k_ : Nat) (y1 y2 y3 : Int32) (ls : Array Slot) (H : Heap) (locs : List Loc), f_Mod_presentOf_L13 k_ u y1 y2 y3 = some q → lv_has ls 4 [(0, .ref (ad 30)), (1, .int y1), (2, .int y2), (3, .int y3)] → fw D A s.heap (wM ad cI cZ cT v u) H locs → WX (wM ad cI cZ cT v) p l e 0 0 s m [.ref (ad 30), .int x1] below meth c A D (tyC cI cZ cT) (some (.int q)) u H locs (F0 m 13 ls []) := by
    intro k_
    induction k_ with
    | zero =>
      intro y1 y2 y3 ls H locs h hl hw
      cases h
    | succ k_ ih =>
      intro y1 y2 y3 ls H locs h hl hw
      rw [f_Mod_presentOf_L13] at h
      refine lv_iload_n hx hb d_Mod_presentOf_13 rfl (lv_at hl 3 rfl) ?_
      refine lv_if_le (tgt := 53) hx hb d_Mod_presentOf_14 rfl (fun c1 => ?_) (fun c1 => ?_)
      · have h := br1 c1 h
        refine lv_iload_n hx hb d_Mod_presentOf_53 rfl (lv_at hl 2 rfl) ?_
        exact fx_retr hC hr rfl hK hw h d_Mod_presentOf_54
      · have h := br0 c1 h
        refine lv_aload_n hx hb d_Mod_presentOf_17 rfl (lv_at hl 0 rfl) ?_
        refine gf_M_30_given hC hK hw d_Mod_presentOf_18 ?_
        refine lv_bipush (v := 17) hx hb d_Mod_presentOf_21 (by decide) ?_
        refine lv_iload_n hx hb d_Mod_presentOf_23 rfl (lv_at hl 1 rfl) ?_
        refine lv_imul hx hb d_Mod_presentOf_24 ?_
        refine lv_iload_n hx hb d_Mod_presentOf_25 rfl (lv_at hl 3 rfl) ?_
        refine lv_iadd hx hb d_Mod_presentOf_26 ?_
        refine al_M_38 hC hK hw d_Mod_presentOf_27 h (fun h => ?_)
        refine lv_if_eq (tgt := 45) hx hb d_Mod_presentOf_28 rfl (fun c2 => ?_) (fun c2 => ?_)
        · have h := br1 c2 h
          refine lv_iload_n hx hb d_Mod_presentOf_45 rfl (lv_at hl 2 rfl) ?_
          refine lv_istore_n (lv' := [(2, .int y2), (0, .ref (ad 30)), (1, .int y1), (3, .int y3)]) hx hb d_Mod_presentOf_46 rfl hl (by decide) rfl (fun ls hl => ?_)
          refine lv_iinc (k := 3) (v := (y3 + (-1))) (lv' := [(3, .int (y3 + (-1))), (2, .int y2), (0, .ref (ad 30)), (1, .int y1)]) hx hb d_Mod_presentOf_47 hl rfl rfl (by decide) rfl (fun ls hl => ?_)
          refine lv_goto (tgt := 13) hx hb d_Mod_presentOf_50 rfl ?_
          exact ih _ _ _ _ _ _ h (lv_sub hl [2, 3, 1, 0] rfl) hw
        · have h := br0 c2 h
          refine lv_aload_n hx hb d_Mod_presentOf_31 rfl (lv_at hl 0 rfl) ?_
          refine gf_M_30_values hC hK hw d_Mod_presentOf_32 ?_
          refine lv_bipush (v := 17) hx hb d_Mod_presentOf_35 (by decide) ?_
          refine lv_iload_n hx hb d_Mod_presentOf_37 rfl (lv_at hl 1 rfl) ?_
          refine lv_imul hx hb d_Mod_presentOf_38 ?_
          refine lv_iload_n hx hb d_Mod_presentOf_39 rfl (lv_at hl 3 rfl) ?_
          refine lv_iadd hx hb d_Mod_presentOf_40 ?_
          refine al_M_37 hC hK hw d_Mod_presentOf_41 h (fun h => ?_)
          refine lv_goto (tgt := 46) hx hb d_Mod_presentOf_42 rfl ?_
          refine lv_istore_n (lv' := [(2, .int (u.2 6 ((17 * y1) + y3).toNatClampNeg)), (0, .ref (ad 30)), (1, .int y1), (3, .int y3)]) hx hb d_Mod_presentOf_46 rfl hl (by decide) rfl (fun ls hl => ?_)
          refine lv_iinc (k := 3) (v := (y3 + (-1))) (lv' := [(3, .int (y3 + (-1))), (2, .int (u.2 6 ((17 * y1) + y3).toNatClampNeg)), (0, .ref (ad 30)), (1, .int y1)]) hx hb d_Mod_presentOf_47 hl rfl rfl (by decide) rfl (fun ls hl => ?_)
          refine lv_goto (tgt := 13) hx hb d_Mod_presentOf_50 rfl ?_
          exact ih _ _ _ _ _ _ h (lv_sub hl [2, 3, 1, 0] rfl) hw
  rw [f_Mod_presentOf] at h
  refine lv_aload_n hx hb d_Mod_presentOf_0 rfl (lv_at hl 0 rfl) ?_
  refine gf_M_30_values hC hK hw d_Mod_presentOf_1 ?_
  refine lv_bipush (v := 17) hx hb d_Mod_presentOf_4 (by decide) ?_
  refine lv_iload_n hx hb d_Mod_presentOf_6 rfl (lv_at hl 1 rfl) ?_
  refine lv_imul hx hb d_Mod_presentOf_7 ?_
  refine al_M_37 hC hK hw d_Mod_presentOf_8 h (fun h => ?_)
  refine lv_istore_n (lv' := [(2, .int (u.2 6 (17 * x1).toNatClampNeg)), (0, .ref (ad 30)), (1, .int x1)]) hx hb d_Mod_presentOf_9 rfl hl (by decide) rfl (fun ls hl => ?_)
  refine lv_bipush (v := 16) hx hb d_Mod_presentOf_10 (by decide) ?_
  refine lv_istore_n (lv' := [(3, .int 16), (2, .int (u.2 6 (17 * x1).toNatClampNeg)), (0, .ref (ad 30)), (1, .int x1)]) hx hb d_Mod_presentOf_12 rfl hl (by decide) rfl (fun ls hl => ?_)
  exact L13 _ _ _ _ _ _ _ h (lv_sub hl [2, 3, 1, 0] rfl) hw
def f_Mod_tell_J143 (u : ST) (y2 y4 y5 : Int32) : Option (ST) :=
  if y4 = 85 then
    k_bd (f_Mod_presentOf u y2) fun q21 =>
    k_bd (f_Mod_addValue u y2 q21) fun q22 =>
    k_bd (f_Mod_add q22 63) fun q23 =>
    some q23
  else
  if y4 = 104 then
    k_gd (inb (17 * y2) 68) (
    k_bd (f_Mod_addValue u y2 (u.2 6 (17 * y2).toNatClampNeg)) fun q19 =>
    k_bd (f_Mod_add q19 63) fun q20 =>
    some q20)
  else
  k_gd (inb ((17 * y2) + y5) 68) (
  k_bd (f_Mod_addValue u y2 (u.2 6 ((17 * y2) + y5).toNatClampNeg)) fun q17 =>
  k_bd (f_Mod_add q17 63) fun q18 =>
  some q18)
def f_Mod_tell_J67 (u : ST) (y2 y3 y4 y5 : Int32) : Option (ST) :=
  k_bd (f_Mod_add u 62) fun q11 =>
  if y4 = 75 then
    k_bd (f_Mod_add q11 196) fun q30 =>
    k_bd (f_Mod_addInt q30 y3) fun q31 =>
    k_bd (f_Mod_add q31 63) fun q32 =>
    some q32
  else
  if y5 = 0 then
    k_bd (f_Mod_add q11 33) fun q27 =>
    k_bd (f_Mod_add q27 16) fun q28 =>
    k_bd (f_Mod_add q28 63) fun q29 =>
    some q29
  else
  if y5 ≤ 0 then
    f_Mod_tell_J143 q11 y2 y4 y5
  else
  k_gd (inb ((17 * y2) + y5) 68) (
  if (q11.2 7 ((17 * y2) + y5).toNatClampNeg) = 0 then
    k_bd (f_Mod_add q11 0) fun q25 =>
    k_bd (f_Mod_add q25 63) fun q26 =>
    some q26
  else
  f_Mod_tell_J143 q11 y2 y4 y5)
def f_Mod_tell (u : ST) (x1 x2 x3 x4 x5 : Int32) : Option (ST) :=
  k_bd (f_Mod_add u 1) fun q1 =>
  k_bd (f_Mod_add q1 0) fun q2 =>
  k_bd (f_Mod_add q2 48) fun q3 =>
  k_bd (f_Mod_add q3 x1) fun q4 =>
  k_bd (f_Mod_add q4 12) fun q5 =>
  k_bd (f_Mod_add q5 12) fun q6 =>
  k_bd (f_Mod_addInt q6 x3) fun q7 =>
  k_bd (f_Mod_add q7 25) fun q8 =>
  k_bd (f_Mod_add q8 x4) fun q9 =>
  if x5 < 0 then
    f_Mod_tell_J67 q9 x2 x3 x4 x5
  else
  k_bd (f_Mod_add q9 41) fun q33 =>
  k_bd (f_Mod_add q33 x5) fun q34 =>
  f_Mod_tell_J67 q34 x2 x3 x4 x5
set_option maxHeartbeats 4000000 in
set_option maxRecDepth 100000 in
theorem c_Mod_tell (l : Launch) (D : va_G) (ad : Nat → Nat) (cI cZ cT : ClassId) (v u : ST) (x1 x2 x3 x4 x5 : Int32) (q : ST) (h : f_Mod_tell u x1 x2 x3 x4 x5 = some q) : MX l D (tyC cI cZ cT) (wM ad cI cZ cT v) y_Mod_tell cd_Mod_tell 3 65 [.ref (ad 30), .int x1, .int x2, .int x3, .int x4, .int x5] u none q := by
  refine MX.start (by decide) (Nat.le_of_ble_eq_true rfl) ?_
  intro p e s m below meth c ls A hC hr hl hK hA hw
  have ⟨hx, hb, hml, hown, hT, hlk⟩ := hC
  have hl : lv_has ls 6 [(0, .ref (ad 30)), (1, .int x1), (2, .int x2), (3, .int x3), (4, .int x4), (5, .int x5)] := hl
  have J143 : ∀ (u : ST) (y2 y4 y5 : Int32) (ls : Array Slot) (H : Heap) (locs : List Loc), f_Mod_tell_J143 u y2 y4 y5 = some q → lv_has ls 6 [(0, .ref (ad 30)), (2, .int y2), (4, .int y4), (5, .int y5)] → fw D A s.heap (wM ad cI cZ cT v u) H locs → WX (wM ad cI cZ cT v) p l e 3 65 s m [.ref (ad 30), .int x1, .int x2, .int x3, .int x4, .int x5] below meth c A D (tyC cI cZ cT) none q H locs (F0 m 143 ls []) := by
    intro u y2 y4 y5 ls H locs h hl hw
    rw [f_Mod_tell_J143] at h
    refine lv_aload_n hx hb d_Mod_tell_143 rfl (lv_at hl 0 rfl) ?_
    refine lv_iload_n hx hb d_Mod_tell_144 rfl (lv_at hl 1 rfl) ?_
    refine lv_iload hx hb d_Mod_tell_145 (lv_at hl 2 rfl) ?_
    refine lv_bipush (v := 85) hx hb d_Mod_tell_147 (by decide) ?_
    refine lv_icmp_ne (tgt := 160) hx hb d_Mod_tell_149 rfl (fun c15 => ?_) (fun c15 => ?_)
    · have h := br0 c15 h
      refine lv_iload hx hb d_Mod_tell_160 (lv_at hl 2 rfl) ?_
      refine lv_bipush (v := 104) hx hb d_Mod_tell_162 (by decide) ?_
      refine lv_icmp_ne (tgt := 179) hx hb d_Mod_tell_164 rfl (fun c16 => ?_) (fun c16 => ?_)
      · have h := br0 c16 h
        refine lv_aload_n hx hb d_Mod_tell_179 rfl (lv_at hl 0 rfl) ?_
        refine gf_M_30_values hC hK hw d_Mod_tell_180 ?_
        refine lv_bipush (v := 17) hx hb d_Mod_tell_183 (by decide) ?_
        refine lv_iload_n hx hb d_Mod_tell_185 rfl (lv_at hl 1 rfl) ?_
        refine lv_imul hx hb d_Mod_tell_186 ?_
        refine lv_iload hx hb d_Mod_tell_187 (lv_at hl 3 rfl) ?_
        refine lv_iadd hx hb d_Mod_tell_189 ?_
        refine al_M_37 hC hK hw d_Mod_tell_190 h (fun h => ?_)
        refine fx_sVv (As := [.int y2, .int (u.2 6 ((17 * y2) + y5).toNatClampNeg)]) hC hl.1 (fun q hq => c_Mod_addValue l D ad cI cZ cT v u y2 (u.2 6 ((17 * y2) + y5).toNatClampNeg) q hq) fy_Mod_addValue fv_Mod_addValue kw_700 ⟨Nat.le_of_ble_eq_true rfl, Nat.le_of_ble_eq_true rfl⟩ rfl hK hA hw at_M_30 rfl rfl rfl (Nat.le_of_ble_eq_true rfl) d_Mod_tell_191 ⟨Nat.le_refl _, Nat.le_refl _⟩ h (fun H locs q17 h hw => ?_)
        refine lv_aload_n hx hb d_Mod_tell_194 rfl (lv_at hl 0 rfl) ?_
        refine lv_bipush (v := 63) hx hb d_Mod_tell_195 (by decide) ?_
        refine fx_sVv (As := [.int 63]) hC hl.1 (fun q hq => c_Mod_add l D ad cI cZ cT v q17 63 q hq) fy_Mod_add fv_Mod_add kw_657 ⟨Nat.le_of_ble_eq_true rfl, Nat.le_of_ble_eq_true rfl⟩ rfl hK hA hw at_M_30 rfl rfl rfl (Nat.le_of_ble_eq_true rfl) d_Mod_tell_197 ⟨Nat.le_refl _, Nat.le_refl _⟩ h (fun H locs q18 h hw => ?_)
        exact fx_retv hC hr hK hw h d_Mod_tell_200
      · have h := br1 c16 h
        refine lv_aload_n hx hb d_Mod_tell_167 rfl (lv_at hl 0 rfl) ?_
        refine gf_M_30_values hC hK hw d_Mod_tell_168 ?_
        refine lv_bipush (v := 17) hx hb d_Mod_tell_171 (by decide) ?_
        refine lv_iload_n hx hb d_Mod_tell_173 rfl (lv_at hl 1 rfl) ?_
        refine lv_imul hx hb d_Mod_tell_174 ?_
        refine al_M_37 hC hK hw d_Mod_tell_175 h (fun h => ?_)
        refine lv_goto (tgt := 191) hx hb d_Mod_tell_176 rfl ?_
        refine fx_sVv (As := [.int y2, .int (u.2 6 (17 * y2).toNatClampNeg)]) hC hl.1 (fun q hq => c_Mod_addValue l D ad cI cZ cT v u y2 (u.2 6 (17 * y2).toNatClampNeg) q hq) fy_Mod_addValue fv_Mod_addValue kw_700 ⟨Nat.le_of_ble_eq_true rfl, Nat.le_of_ble_eq_true rfl⟩ rfl hK hA hw at_M_30 rfl rfl rfl (Nat.le_of_ble_eq_true rfl) d_Mod_tell_191 ⟨Nat.le_refl _, Nat.le_refl _⟩ h (fun H locs q19 h hw => ?_)
        refine lv_aload_n hx hb d_Mod_tell_194 rfl (lv_at hl 0 rfl) ?_
        refine lv_bipush (v := 63) hx hb d_Mod_tell_195 (by decide) ?_
        refine fx_sVv (As := [.int 63]) hC hl.1 (fun q hq => c_Mod_add l D ad cI cZ cT v q19 63 q hq) fy_Mod_add fv_Mod_add kw_657 ⟨Nat.le_of_ble_eq_true rfl, Nat.le_of_ble_eq_true rfl⟩ rfl hK hA hw at_M_30 rfl rfl rfl (Nat.le_of_ble_eq_true rfl) d_Mod_tell_197 ⟨Nat.le_refl _, Nat.le_refl _⟩ h (fun H locs q20 h hw => ?_)
        exact fx_retv hC hr hK hw h d_Mod_tell_200
    · have h := br1 c15 h
      refine lv_aload_n hx hb d_Mod_tell_152 rfl (lv_at hl 0 rfl) ?_
      refine lv_iload_n hx hb d_Mod_tell_153 rfl (lv_at hl 1 rfl) ?_
      refine fx_sVr (As := [.int y2]) hC hl.1 (fun q hq => c_Mod_presentOf l D ad cI cZ cT v u y2 q hq) fy_Mod_presentOf fv_Mod_presentOf kw_696 ⟨Nat.le_of_ble_eq_true rfl, Nat.le_of_ble_eq_true rfl⟩ rfl hK hA hw at_M_30 rfl rfl rfl (Nat.le_of_ble_eq_true rfl) d_Mod_tell_154 ⟨Nat.le_refl _, Nat.le_refl _⟩ h (fun H locs q21 h hw => ?_)
      refine lv_goto (tgt := 191) hx hb d_Mod_tell_157 rfl ?_
      refine fx_sVv (As := [.int y2, .int q21]) hC hl.1 (fun q hq => c_Mod_addValue l D ad cI cZ cT v u y2 q21 q hq) fy_Mod_addValue fv_Mod_addValue kw_700 ⟨Nat.le_of_ble_eq_true rfl, Nat.le_of_ble_eq_true rfl⟩ rfl hK hA hw at_M_30 rfl rfl rfl (Nat.le_of_ble_eq_true rfl) d_Mod_tell_191 ⟨Nat.le_refl _, Nat.le_refl _⟩ h (fun H locs q22 h hw => ?_)
      refine lv_aload_n hx hb d_Mod_tell_194 rfl (lv_at hl 0 rfl) ?_
      refine lv_bipush (v := 63) hx hb d_Mod_tell_195 (by decide) ?_
      refine fx_sVv (As := [.int 63]) hC hl.1 (fun q hq => c_Mod_add l D ad cI cZ cT v q22 63 q hq) fy_Mod_add fv_Mod_add kw_657 ⟨Nat.le_of_ble_eq_true rfl, Nat.le_of_ble_eq_true rfl⟩ rfl hK hA hw at_M_30 rfl rfl rfl (Nat.le_of_ble_eq_true rfl) d_Mod_tell_197 ⟨Nat.le_refl _, Nat.le_refl _⟩ h (fun H locs q23 h hw => ?_)
      exact fx_retv hC hr hK hw h d_Mod_tell_200
  have J67 : ∀ (u : ST) (y2 y3 y4 y5 : Int32) (ls : Array Slot) (H : Heap) (locs : List Loc), f_Mod_tell_J67 u y2 y3 y4 y5 = some q → lv_has ls 6 [(0, .ref (ad 30)), (2, .int y2), (3, .int y3), (4, .int y4), (5, .int y5)] → fw D A s.heap (wM ad cI cZ cT v u) H locs → WX (wM ad cI cZ cT v) p l e 3 65 s m [.ref (ad 30), .int x1, .int x2, .int x3, .int x4, .int x5] below meth c A D (tyC cI cZ cT) none q H locs (F0 m 67 ls []) := by
    intro u y2 y3 y4 y5 ls H locs h hl hw
    rw [f_Mod_tell_J67] at h
    refine lv_aload_n hx hb d_Mod_tell_67 rfl (lv_at hl 0 rfl) ?_
    refine lv_bipush (v := 62) hx hb d_Mod_tell_68 (by decide) ?_
    refine fx_sVv (As := [.int 62]) hC hl.1 (fun q hq => c_Mod_add l D ad cI cZ cT v u 62 q hq) fy_Mod_add fv_Mod_add kw_657 ⟨Nat.le_of_ble_eq_true rfl, Nat.le_of_ble_eq_true rfl⟩ rfl hK hA hw at_M_30 rfl rfl rfl (Nat.le_of_ble_eq_true rfl) d_Mod_tell_70 ⟨Nat.le_refl _, Nat.le_refl _⟩ h (fun H locs q11 h hw => ?_)
    refine lv_iload hx hb d_Mod_tell_73 (lv_at hl 3 rfl) ?_
    refine lv_bipush (v := 75) hx hb d_Mod_tell_75 (by decide) ?_
    refine lv_icmp_ne (tgt := 95) hx hb d_Mod_tell_77 rfl (fun c12 => ?_) (fun c12 => ?_)
    · have h := br0 c12 h
      refine lv_iload hx hb d_Mod_tell_95 (lv_at hl 4 rfl) ?_
      refine lv_if_ne (tgt := 115) hx hb d_Mod_tell_97 rfl (fun c13 => ?_) (fun c13 => ?_)
      · have h := br0 c13 h
        refine lv_iload hx hb d_Mod_tell_115 (lv_at hl 4 rfl) ?_
        refine lv_if_le (tgt := 143) hx hb d_Mod_tell_117 rfl (fun c14 => ?_) (fun c14 => ?_)
        · have h := br1 c14 h
          exact J143 _ _ _ _ _ _ _ h (lv_sub hl [0, 1, 3, 4] rfl) hw
        · have h := br0 c14 h
          refine lv_aload_n hx hb d_Mod_tell_120 rfl (lv_at hl 0 rfl) ?_
          refine gf_M_30_given hC hK hw d_Mod_tell_121 ?_
          refine lv_bipush (v := 17) hx hb d_Mod_tell_124 (by decide) ?_
          refine lv_iload_n hx hb d_Mod_tell_126 rfl (lv_at hl 1 rfl) ?_
          refine lv_imul hx hb d_Mod_tell_127 ?_
          refine lv_iload hx hb d_Mod_tell_128 (lv_at hl 4 rfl) ?_
          refine lv_iadd hx hb d_Mod_tell_130 ?_
          refine al_M_38 hC hK hw d_Mod_tell_131 h (fun h => ?_)
          refine lv_if_ne (tgt := 143) hx hb d_Mod_tell_132 rfl (fun c24 => ?_) (fun c24 => ?_)
          · have h := br0 c24 h
            exact J143 _ _ _ _ _ _ _ h (lv_sub hl [0, 1, 3, 4] rfl) hw
          · have h := br1 c24 h
            refine lv_aload_n hx hb d_Mod_tell_135 rfl (lv_at hl 0 rfl) ?_
            refine lv_iconst (v := 0) hx hb d_Mod_tell_136 (by decide) ?_
            refine fx_sVv (As := [.int 0]) hC hl.1 (fun q hq => c_Mod_add l D ad cI cZ cT v q11 0 q hq) fy_Mod_add fv_Mod_add kw_657 ⟨Nat.le_of_ble_eq_true rfl, Nat.le_of_ble_eq_true rfl⟩ rfl hK hA hw at_M_30 rfl rfl rfl (Nat.le_of_ble_eq_true rfl) d_Mod_tell_137 ⟨Nat.le_refl _, Nat.le_refl _⟩ h (fun H locs q25 h hw => ?_)
            refine lv_goto (tgt := 194) hx hb d_Mod_tell_140 rfl ?_
            refine lv_aload_n hx hb d_Mod_tell_194 rfl (lv_at hl 0 rfl) ?_
            refine lv_bipush (v := 63) hx hb d_Mod_tell_195 (by decide) ?_
            refine fx_sVv (As := [.int 63]) hC hl.1 (fun q hq => c_Mod_add l D ad cI cZ cT v q25 63 q hq) fy_Mod_add fv_Mod_add kw_657 ⟨Nat.le_of_ble_eq_true rfl, Nat.le_of_ble_eq_true rfl⟩ rfl hK hA hw at_M_30 rfl rfl rfl (Nat.le_of_ble_eq_true rfl) d_Mod_tell_197 ⟨Nat.le_refl _, Nat.le_refl _⟩ h (fun H locs q26 h hw => ?_)
            exact fx_retv hC hr hK hw h d_Mod_tell_200
      · have h := br1 c13 h
        refine lv_aload_n hx hb d_Mod_tell_100 rfl (lv_at hl 0 rfl) ?_
        refine lv_bipush (v := 33) hx hb d_Mod_tell_101 (by decide) ?_
        refine fx_sVv (As := [.int 33]) hC hl.1 (fun q hq => c_Mod_add l D ad cI cZ cT v q11 33 q hq) fy_Mod_add fv_Mod_add kw_657 ⟨Nat.le_of_ble_eq_true rfl, Nat.le_of_ble_eq_true rfl⟩ rfl hK hA hw at_M_30 rfl rfl rfl (Nat.le_of_ble_eq_true rfl) d_Mod_tell_103 ⟨Nat.le_refl _, Nat.le_refl _⟩ h (fun H locs q27 h hw => ?_)
        refine lv_aload_n hx hb d_Mod_tell_106 rfl (lv_at hl 0 rfl) ?_
        refine lv_bipush (v := 16) hx hb d_Mod_tell_107 (by decide) ?_
        refine fx_sVv (As := [.int 16]) hC hl.1 (fun q hq => c_Mod_add l D ad cI cZ cT v q27 16 q hq) fy_Mod_add fv_Mod_add kw_657 ⟨Nat.le_of_ble_eq_true rfl, Nat.le_of_ble_eq_true rfl⟩ rfl hK hA hw at_M_30 rfl rfl rfl (Nat.le_of_ble_eq_true rfl) d_Mod_tell_109 ⟨Nat.le_refl _, Nat.le_refl _⟩ h (fun H locs q28 h hw => ?_)
        refine lv_goto (tgt := 194) hx hb d_Mod_tell_112 rfl ?_
        refine lv_aload_n hx hb d_Mod_tell_194 rfl (lv_at hl 0 rfl) ?_
        refine lv_bipush (v := 63) hx hb d_Mod_tell_195 (by decide) ?_
        refine fx_sVv (As := [.int 63]) hC hl.1 (fun q hq => c_Mod_add l D ad cI cZ cT v q28 63 q hq) fy_Mod_add fv_Mod_add kw_657 ⟨Nat.le_of_ble_eq_true rfl, Nat.le_of_ble_eq_true rfl⟩ rfl hK hA hw at_M_30 rfl rfl rfl (Nat.le_of_ble_eq_true rfl) d_Mod_tell_197 ⟨Nat.le_refl _, Nat.le_refl _⟩ h (fun H locs q29 h hw => ?_)
        exact fx_retv hC hr hK hw h d_Mod_tell_200
    · have h := br1 c12 h
      refine lv_aload_n hx hb d_Mod_tell_80 rfl (lv_at hl 0 rfl) ?_
      refine lv_sipush (v := 196) hx hb d_Mod_tell_81 (by decide) ?_
      refine fx_sVv (As := [.int 196]) hC hl.1 (fun q hq => c_Mod_add l D ad cI cZ cT v q11 196 q hq) fy_Mod_add fv_Mod_add kw_657 ⟨Nat.le_of_ble_eq_true rfl, Nat.le_of_ble_eq_true rfl⟩ rfl hK hA hw at_M_30 rfl rfl rfl (Nat.le_of_ble_eq_true rfl) d_Mod_tell_84 ⟨Nat.le_refl _, Nat.le_refl _⟩ h (fun H locs q30 h hw => ?_)
      refine lv_aload_n hx hb d_Mod_tell_87 rfl (lv_at hl 0 rfl) ?_
      refine lv_iload_n hx hb d_Mod_tell_88 rfl (lv_at hl 2 rfl) ?_
      refine fx_sVv (As := [.int y3]) hC hl.1 (fun q hq => c_Mod_addInt l D ad cI cZ cT v q30 y3 q hq) fy_Mod_addInt fv_Mod_addInt kw_692 ⟨Nat.le_of_ble_eq_true rfl, Nat.le_of_ble_eq_true rfl⟩ rfl hK hA hw at_M_30 rfl rfl rfl (Nat.le_of_ble_eq_true rfl) d_Mod_tell_89 ⟨Nat.le_refl _, Nat.le_refl _⟩ h (fun H locs q31 h hw => ?_)
      refine lv_goto (tgt := 194) hx hb d_Mod_tell_92 rfl ?_
      refine lv_aload_n hx hb d_Mod_tell_194 rfl (lv_at hl 0 rfl) ?_
      refine lv_bipush (v := 63) hx hb d_Mod_tell_195 (by decide) ?_
      refine fx_sVv (As := [.int 63]) hC hl.1 (fun q hq => c_Mod_add l D ad cI cZ cT v q31 63 q hq) fy_Mod_add fv_Mod_add kw_657 ⟨Nat.le_of_ble_eq_true rfl, Nat.le_of_ble_eq_true rfl⟩ rfl hK hA hw at_M_30 rfl rfl rfl (Nat.le_of_ble_eq_true rfl) d_Mod_tell_197 ⟨Nat.le_refl _, Nat.le_refl _⟩ h (fun H locs q32 h hw => ?_)
      exact fx_retv hC hr hK hw h d_Mod_tell_200
  rw [f_Mod_tell] at h
  refine lv_aload_n hx hb d_Mod_tell_0 rfl (lv_at hl 0 rfl) ?_
  refine lv_iconst (v := 1) hx hb d_Mod_tell_1 (by decide) ?_
  refine fx_sVv (As := [.int 1]) hC hl.1 (fun q hq => c_Mod_add l D ad cI cZ cT v u 1 q hq) fy_Mod_add fv_Mod_add kw_657 ⟨Nat.le_of_ble_eq_true rfl, Nat.le_of_ble_eq_true rfl⟩ rfl hK hA hw at_M_30 rfl rfl rfl (Nat.le_of_ble_eq_true rfl) d_Mod_tell_2 ⟨Nat.le_refl _, Nat.le_refl _⟩ h (fun H locs q1 h hw => ?_)
  refine lv_aload_n hx hb d_Mod_tell_5 rfl (lv_at hl 0 rfl) ?_
  refine lv_iconst (v := 0) hx hb d_Mod_tell_6 (by decide) ?_
  refine fx_sVv (As := [.int 0]) hC hl.1 (fun q hq => c_Mod_add l D ad cI cZ cT v q1 0 q hq) fy_Mod_add fv_Mod_add kw_657 ⟨Nat.le_of_ble_eq_true rfl, Nat.le_of_ble_eq_true rfl⟩ rfl hK hA hw at_M_30 rfl rfl rfl (Nat.le_of_ble_eq_true rfl) d_Mod_tell_7 ⟨Nat.le_refl _, Nat.le_refl _⟩ h (fun H locs q2 h hw => ?_)
  refine lv_aload_n hx hb d_Mod_tell_10 rfl (lv_at hl 0 rfl) ?_
  refine lv_bipush (v := 48) hx hb d_Mod_tell_11 (by decide) ?_
  refine fx_sVv (As := [.int 48]) hC hl.1 (fun q hq => c_Mod_add l D ad cI cZ cT v q2 48 q hq) fy_Mod_add fv_Mod_add kw_657 ⟨Nat.le_of_ble_eq_true rfl, Nat.le_of_ble_eq_true rfl⟩ rfl hK hA hw at_M_30 rfl rfl rfl (Nat.le_of_ble_eq_true rfl) d_Mod_tell_13 ⟨Nat.le_refl _, Nat.le_refl _⟩ h (fun H locs q3 h hw => ?_)
  refine lv_aload_n hx hb d_Mod_tell_16 rfl (lv_at hl 0 rfl) ?_
  refine lv_iload_n hx hb d_Mod_tell_17 rfl (lv_at hl 1 rfl) ?_
  refine fx_sVv (As := [.int x1]) hC hl.1 (fun q hq => c_Mod_add l D ad cI cZ cT v q3 x1 q hq) fy_Mod_add fv_Mod_add kw_657 ⟨Nat.le_of_ble_eq_true rfl, Nat.le_of_ble_eq_true rfl⟩ rfl hK hA hw at_M_30 rfl rfl rfl (Nat.le_of_ble_eq_true rfl) d_Mod_tell_18 ⟨Nat.le_refl _, Nat.le_refl _⟩ h (fun H locs q4 h hw => ?_)
  refine lv_aload_n hx hb d_Mod_tell_21 rfl (lv_at hl 0 rfl) ?_
  refine lv_bipush (v := 12) hx hb d_Mod_tell_22 (by decide) ?_
  refine fx_sVv (As := [.int 12]) hC hl.1 (fun q hq => c_Mod_add l D ad cI cZ cT v q4 12 q hq) fy_Mod_add fv_Mod_add kw_657 ⟨Nat.le_of_ble_eq_true rfl, Nat.le_of_ble_eq_true rfl⟩ rfl hK hA hw at_M_30 rfl rfl rfl (Nat.le_of_ble_eq_true rfl) d_Mod_tell_24 ⟨Nat.le_refl _, Nat.le_refl _⟩ h (fun H locs q5 h hw => ?_)
  refine lv_aload_n hx hb d_Mod_tell_27 rfl (lv_at hl 0 rfl) ?_
  refine lv_bipush (v := 12) hx hb d_Mod_tell_28 (by decide) ?_
  refine fx_sVv (As := [.int 12]) hC hl.1 (fun q hq => c_Mod_add l D ad cI cZ cT v q5 12 q hq) fy_Mod_add fv_Mod_add kw_657 ⟨Nat.le_of_ble_eq_true rfl, Nat.le_of_ble_eq_true rfl⟩ rfl hK hA hw at_M_30 rfl rfl rfl (Nat.le_of_ble_eq_true rfl) d_Mod_tell_30 ⟨Nat.le_refl _, Nat.le_refl _⟩ h (fun H locs q6 h hw => ?_)
  refine lv_aload_n hx hb d_Mod_tell_33 rfl (lv_at hl 0 rfl) ?_
  refine lv_iload_n hx hb d_Mod_tell_34 rfl (lv_at hl 3 rfl) ?_
  refine fx_sVv (As := [.int x3]) hC hl.1 (fun q hq => c_Mod_addInt l D ad cI cZ cT v q6 x3 q hq) fy_Mod_addInt fv_Mod_addInt kw_692 ⟨Nat.le_of_ble_eq_true rfl, Nat.le_of_ble_eq_true rfl⟩ rfl hK hA hw at_M_30 rfl rfl rfl (Nat.le_of_ble_eq_true rfl) d_Mod_tell_35 ⟨Nat.le_refl _, Nat.le_refl _⟩ h (fun H locs q7 h hw => ?_)
  refine lv_aload_n hx hb d_Mod_tell_38 rfl (lv_at hl 0 rfl) ?_
  refine lv_bipush (v := 25) hx hb d_Mod_tell_39 (by decide) ?_
  refine fx_sVv (As := [.int 25]) hC hl.1 (fun q hq => c_Mod_add l D ad cI cZ cT v q7 25 q hq) fy_Mod_add fv_Mod_add kw_657 ⟨Nat.le_of_ble_eq_true rfl, Nat.le_of_ble_eq_true rfl⟩ rfl hK hA hw at_M_30 rfl rfl rfl (Nat.le_of_ble_eq_true rfl) d_Mod_tell_41 ⟨Nat.le_refl _, Nat.le_refl _⟩ h (fun H locs q8 h hw => ?_)
  refine lv_aload_n hx hb d_Mod_tell_44 rfl (lv_at hl 0 rfl) ?_
  refine lv_iload hx hb d_Mod_tell_45 (lv_at hl 4 rfl) ?_
  refine fx_sVv (As := [.int x4]) hC hl.1 (fun q hq => c_Mod_add l D ad cI cZ cT v q8 x4 q hq) fy_Mod_add fv_Mod_add kw_657 ⟨Nat.le_of_ble_eq_true rfl, Nat.le_of_ble_eq_true rfl⟩ rfl hK hA hw at_M_30 rfl rfl rfl (Nat.le_of_ble_eq_true rfl) d_Mod_tell_47 ⟨Nat.le_refl _, Nat.le_refl _⟩ h (fun H locs q9 h hw => ?_)
  refine lv_iload hx hb d_Mod_tell_50 (lv_at hl 5 rfl) ?_
  refine lv_if_lt (tgt := 67) hx hb d_Mod_tell_52 rfl (fun c10 => ?_) (fun c10 => ?_)
  · have h := br1 c10 h
    exact J67 _ _ _ _ _ _ _ _ h (lv_sub hl [0, 2, 3, 4, 5] rfl) hw
  · have h := br0 c10 h
    refine lv_aload_n hx hb d_Mod_tell_55 rfl (lv_at hl 0 rfl) ?_
    refine lv_bipush (v := 41) hx hb d_Mod_tell_56 (by decide) ?_
    refine fx_sVv (As := [.int 41]) hC hl.1 (fun q hq => c_Mod_add l D ad cI cZ cT v q9 41 q hq) fy_Mod_add fv_Mod_add kw_657 ⟨Nat.le_of_ble_eq_true rfl, Nat.le_of_ble_eq_true rfl⟩ rfl hK hA hw at_M_30 rfl rfl rfl (Nat.le_of_ble_eq_true rfl) d_Mod_tell_58 ⟨Nat.le_refl _, Nat.le_refl _⟩ h (fun H locs q33 h hw => ?_)
    refine lv_aload_n hx hb d_Mod_tell_61 rfl (lv_at hl 0 rfl) ?_
    refine lv_iload hx hb d_Mod_tell_62 (lv_at hl 5 rfl) ?_
    refine fx_sVv (As := [.int x5]) hC hl.1 (fun q hq => c_Mod_add l D ad cI cZ cT v q33 x5 q hq) fy_Mod_add fv_Mod_add kw_657 ⟨Nat.le_of_ble_eq_true rfl, Nat.le_of_ble_eq_true rfl⟩ rfl hK hA hw at_M_30 rfl rfl rfl (Nat.le_of_ble_eq_true rfl) d_Mod_tell_64 ⟨Nat.le_refl _, Nat.le_refl _⟩ h (fun H locs q34 h hw => ?_)
    exact J67 _ _ _ _ _ _ _ _ h (lv_sub hl [0, 2, 3, 4, 5] rfl) hw
def f_Mod_answerTo_J147 (u : ST) (y1 s0 s1 : Int32) : Option (ST) :=
  k_gd (isz s0) (
  k_gd (inb s1 68) (
  k_let (rs u 7 s1.toNatClampNeg s0) fun u10 =>
  k_bd (f_Mod_add u10 1) fun q11 =>
  k_bd (f_Mod_add q11 0) fun q12 =>
  k_bd (f_Mod_add q12 32) fun q13 =>
  k_bd (f_Mod_add q13 y1) fun q14 =>
  k_bd (f_Mod_add q14 15) fun q15 =>
  some q15))
def f_Mod_answerTo_J119 (u : ST) (y1 y5 y6 s0 s1 : Int32) : Option (ST) :=
  k_gd (inb (s1 + s0) 68) (
  k_let (rs u 6 (s1 + s0).toNatClampNeg y6) fun u7 =>
  if y5 ≤ 0 then
    f_Mod_answerTo_J147 u7 y1 0 (s1 + s0)
  else
  f_Mod_answerTo_J147 u7 y1 1 (s1 + s0))
def f_Mod_answerTo_J59 (u : ST) (y9 s0 : Int32) : Option (ST) :=
  k_bd (f_Mod_add u s0) fun q21 =>
  k_bd (f_Mod_add q21 145) fun q22 =>
  k_bd (f_Mod_add q22 (y9 / 100)) fun q23 =>
  k_bd (f_Mod_add q23 145) fun q24 =>
  k_bd (f_Mod_add q24 (y9 - y9 / 100 * 100)) fun q25 =>
  some q25
def f_Mod_answerTo (u : ST) (x1 x2 x3 x4 x5 x6 x7 : Int32) : Option (ST) :=
  k_bd (f_Mod_thingOf x2) fun q1 =>
  k_bd (f_Mod_wrong q1 x3 x4 x5 x6) fun q2 =>
  if q2 ≤ 0 then
    if x5 < 0 then
      k_bd (f_Mod_tell u x1 q1 x2 x3 x4) fun q5 =>
      some q5
    else
    if x3 = 85 then
      f_Mod_answerTo_J119 u x1 x5 x6 x7 (17 * q1)
    else
    f_Mod_answerTo_J119 u x1 x5 x6 0 (17 * q1)
  else
  k_bd (f_Mod_add u 1) fun q16 =>
  k_bd (f_Mod_add q16 0) fun q17 =>
  k_bd (f_Mod_add q17 80) fun q18 =>
  k_bd (f_Mod_add q18 x1) fun q19 =>
  if 0 ≤ x5 then
    f_Mod_answerTo_J59 q19 q2 15
  else
  f_Mod_answerTo_J59 q19 q2 12
set_option maxHeartbeats 4000000 in
set_option maxRecDepth 100000 in
theorem c_Mod_answerTo (l : Launch) (D : va_G) (ad : Nat → Nat) (cI cZ cT : ClassId) (v u : ST) (x1 x2 x3 x4 x5 x6 x7 : Int32) (q : ST) (h : f_Mod_answerTo u x1 x2 x3 x4 x5 x6 x7 = some q) : MX l D (tyC cI cZ cT) (wM ad cI cZ cT v) y_Mod_answerTo cd_Mod_answerTo 4 90 [.ref (ad 30), .int x1, .int x2, .int x3, .int x4, .int x5, .int x6, .int x7] u none q := by
  refine MX.start (by decide) (Nat.le_of_ble_eq_true rfl) ?_
  intro p e s m below meth c ls A hC hr hl hK hA hw
  have ⟨hx, hb, hml, hown, hT, hlk⟩ := hC
  have hl : lv_has ls 11 [(0, .ref (ad 30)), (1, .int x1), (2, .int x2), (3, .int x3), (4, .int x4), (5, .int x5), (6, .int x6), (7, .int x7)] := hl
  have J147 : ∀ (u : ST) (y1 s0 s1 : Int32) (ls : Array Slot) (H : Heap) (locs : List Loc), f_Mod_answerTo_J147 u y1 s0 s1 = some q → lv_has ls 11 [(0, .ref (ad 30)), (1, .int y1)] → fw D A s.heap (wM ad cI cZ cT v u) H locs → WX (wM ad cI cZ cT v) p l e 4 90 s m [.ref (ad 30), .int x1, .int x2, .int x3, .int x4, .int x5, .int x6, .int x7] below meth c A D (tyC cI cZ cT) none q H locs (F0 m 147 ls [.int s0, .int s1, .ref (ad 38)]) := by
    intro u y1 s0 s1 ls H locs h hl hw
    rw [f_Mod_answerTo_J147] at h
    obtain ⟨g9, h⟩ := k_gd_some h
    refine as_M_38 hC hK hw g9 d_Mod_answerTo_147 h (fun H locs u10 h hw => ?_)
    refine lv_aload_n hx hb d_Mod_answerTo_148 rfl (lv_at hl 0 rfl) ?_
    refine lv_iconst (v := 1) hx hb d_Mod_answerTo_149 (by decide) ?_
    refine fx_sVv (As := [.int 1]) hC hl.1 (fun q hq => c_Mod_add l D ad cI cZ cT v u10 1 q hq) fy_Mod_add fv_Mod_add kw_657 ⟨Nat.le_of_ble_eq_true rfl, Nat.le_of_ble_eq_true rfl⟩ rfl hK hA hw at_M_30 rfl rfl rfl (Nat.le_of_ble_eq_true rfl) d_Mod_answerTo_150 ⟨Nat.le_refl _, Nat.le_refl _⟩ h (fun H locs q11 h hw => ?_)
    refine lv_aload_n hx hb d_Mod_answerTo_153 rfl (lv_at hl 0 rfl) ?_
    refine lv_iconst (v := 0) hx hb d_Mod_answerTo_154 (by decide) ?_
    refine fx_sVv (As := [.int 0]) hC hl.1 (fun q hq => c_Mod_add l D ad cI cZ cT v q11 0 q hq) fy_Mod_add fv_Mod_add kw_657 ⟨Nat.le_of_ble_eq_true rfl, Nat.le_of_ble_eq_true rfl⟩ rfl hK hA hw at_M_30 rfl rfl rfl (Nat.le_of_ble_eq_true rfl) d_Mod_answerTo_155 ⟨Nat.le_refl _, Nat.le_refl _⟩ h (fun H locs q12 h hw => ?_)
    refine lv_aload_n hx hb d_Mod_answerTo_158 rfl (lv_at hl 0 rfl) ?_
    refine lv_bipush (v := 32) hx hb d_Mod_answerTo_159 (by decide) ?_
    refine fx_sVv (As := [.int 32]) hC hl.1 (fun q hq => c_Mod_add l D ad cI cZ cT v q12 32 q hq) fy_Mod_add fv_Mod_add kw_657 ⟨Nat.le_of_ble_eq_true rfl, Nat.le_of_ble_eq_true rfl⟩ rfl hK hA hw at_M_30 rfl rfl rfl (Nat.le_of_ble_eq_true rfl) d_Mod_answerTo_161 ⟨Nat.le_refl _, Nat.le_refl _⟩ h (fun H locs q13 h hw => ?_)
    refine lv_aload_n hx hb d_Mod_answerTo_164 rfl (lv_at hl 0 rfl) ?_
    refine lv_iload_n hx hb d_Mod_answerTo_165 rfl (lv_at hl 1 rfl) ?_
    refine fx_sVv (As := [.int y1]) hC hl.1 (fun q hq => c_Mod_add l D ad cI cZ cT v q13 y1 q hq) fy_Mod_add fv_Mod_add kw_657 ⟨Nat.le_of_ble_eq_true rfl, Nat.le_of_ble_eq_true rfl⟩ rfl hK hA hw at_M_30 rfl rfl rfl (Nat.le_of_ble_eq_true rfl) d_Mod_answerTo_166 ⟨Nat.le_refl _, Nat.le_refl _⟩ h (fun H locs q14 h hw => ?_)
    refine lv_aload_n hx hb d_Mod_answerTo_169 rfl (lv_at hl 0 rfl) ?_
    refine lv_bipush (v := 15) hx hb d_Mod_answerTo_170 (by decide) ?_
    refine fx_sVv (As := [.int 15]) hC hl.1 (fun q hq => c_Mod_add l D ad cI cZ cT v q14 15 q hq) fy_Mod_add fv_Mod_add kw_657 ⟨Nat.le_of_ble_eq_true rfl, Nat.le_of_ble_eq_true rfl⟩ rfl hK hA hw at_M_30 rfl rfl rfl (Nat.le_of_ble_eq_true rfl) d_Mod_answerTo_172 ⟨Nat.le_refl _, Nat.le_refl _⟩ h (fun H locs q15 h hw => ?_)
    refine lv_goto (tgt := 189) hx hb d_Mod_answerTo_175 rfl ?_
    exact fx_retv hC hr hK hw h d_Mod_answerTo_189
  have J119 : ∀ (u : ST) (y1 y5 y6 s0 s1 : Int32) (ls : Array Slot) (H : Heap) (locs : List Loc), f_Mod_answerTo_J119 u y1 y5 y6 s0 s1 = some q → lv_has ls 11 [(0, .ref (ad 30)), (1, .int y1), (5, .int y5), (6, .int y6)] → fw D A s.heap (wM ad cI cZ cT v u) H locs → WX (wM ad cI cZ cT v) p l e 4 90 s m [.ref (ad 30), .int x1, .int x2, .int x3, .int x4, .int x5, .int x6, .int x7] below meth c A D (tyC cI cZ cT) none q H locs (F0 m 119 ls [.int s0, .int s1]) := by
    intro u y1 y5 y6 s0 s1 ls H locs h hl hw
    rw [f_Mod_answerTo_J119] at h
    refine lv_iadd hx hb d_Mod_answerTo_119 ?_
    refine lv_istore (lv' := [(10, .int (s1 + s0)), (0, .ref (ad 30)), (1, .int y1), (5, .int y5), (6, .int y6)]) hx hb d_Mod_answerTo_120 hl (by decide) rfl (fun ls hl => ?_)
    refine lv_aload_n hx hb d_Mod_answerTo_122 rfl (lv_at hl 1 rfl) ?_
    refine gf_M_30_values hC hK hw d_Mod_answerTo_123 ?_
    refine lv_iload hx hb d_Mod_answerTo_126 (lv_at hl 0 rfl) ?_
    refine lv_iload hx hb d_Mod_answerTo_128 (lv_at hl 4 rfl) ?_
    refine as_M_37 hC hK hw d_Mod_answerTo_130 h (fun H locs u7 h hw => ?_)
    refine lv_aload_n hx hb d_Mod_answerTo_131 rfl (lv_at hl 1 rfl) ?_
    refine gf_M_30_given hC hK hw d_Mod_answerTo_132 ?_
    refine lv_iload hx hb d_Mod_answerTo_135 (lv_at hl 0 rfl) ?_
    refine lv_iload hx hb d_Mod_answerTo_137 (lv_at hl 3 rfl) ?_
    refine lv_if_le (tgt := 146) hx hb d_Mod_answerTo_139 rfl (fun c8 => ?_) (fun c8 => ?_)
    · have h := br1 c8 h
      refine lv_iconst (v := 0) hx hb d_Mod_answerTo_146 (by decide) ?_
      exact J147 _ _ _ _ _ _ _ h (lv_sub hl [1, 2] rfl) hw
    · have h := br0 c8 h
      refine lv_iconst (v := 1) hx hb d_Mod_answerTo_142 (by decide) ?_
      refine lv_goto (tgt := 147) hx hb d_Mod_answerTo_143 rfl ?_
      exact J147 _ _ _ _ _ _ _ h (lv_sub hl [1, 2] rfl) hw
  have J59 : ∀ (u : ST) (y9 s0 : Int32) (ls : Array Slot) (H : Heap) (locs : List Loc), f_Mod_answerTo_J59 u y9 s0 = some q → lv_has ls 11 [(0, .ref (ad 30)), (9, .int y9)] → fw D A s.heap (wM ad cI cZ cT v u) H locs → WX (wM ad cI cZ cT v) p l e 4 90 s m [.ref (ad 30), .int x1, .int x2, .int x3, .int x4, .int x5, .int x6, .int x7] below meth c A D (tyC cI cZ cT) none q H locs (F0 m 59 ls [.int s0, .ref (ad 30)]) := by
    intro u y9 s0 ls H locs h hl hw
    rw [f_Mod_answerTo_J59] at h
    refine fx_sVv (As := [.int s0]) hC hl.1 (fun q hq => c_Mod_add l D ad cI cZ cT v u s0 q hq) fy_Mod_add fv_Mod_add kw_657 ⟨Nat.le_of_ble_eq_true rfl, Nat.le_of_ble_eq_true rfl⟩ rfl hK hA hw at_M_30 rfl rfl rfl (Nat.le_of_ble_eq_true rfl) d_Mod_answerTo_59 ⟨Nat.le_refl _, Nat.le_refl _⟩ h (fun H locs q21 h hw => ?_)
    refine lv_aload_n hx hb d_Mod_answerTo_62 rfl (lv_at hl 0 rfl) ?_
    refine lv_sipush (v := 145) hx hb d_Mod_answerTo_63 (by decide) ?_
    refine fx_sVv (As := [.int 145]) hC hl.1 (fun q hq => c_Mod_add l D ad cI cZ cT v q21 145 q hq) fy_Mod_add fv_Mod_add kw_657 ⟨Nat.le_of_ble_eq_true rfl, Nat.le_of_ble_eq_true rfl⟩ rfl hK hA hw at_M_30 rfl rfl rfl (Nat.le_of_ble_eq_true rfl) d_Mod_answerTo_66 ⟨Nat.le_refl _, Nat.le_refl _⟩ h (fun H locs q22 h hw => ?_)
    refine lv_aload_n hx hb d_Mod_answerTo_69 rfl (lv_at hl 0 rfl) ?_
    refine lv_iload hx hb d_Mod_answerTo_70 (lv_at hl 1 rfl) ?_
    refine lv_bipush (v := 100) hx hb d_Mod_answerTo_72 (by decide) ?_
    refine lv_idiv hx hb d_Mod_answerTo_74 (by decide) ?_
    refine fx_sVv (As := [.int (y9 / 100)]) hC hl.1 (fun q hq => c_Mod_add l D ad cI cZ cT v q22 (y9 / 100) q hq) fy_Mod_add fv_Mod_add kw_657 ⟨Nat.le_of_ble_eq_true rfl, Nat.le_of_ble_eq_true rfl⟩ rfl hK hA hw at_M_30 rfl rfl rfl (Nat.le_of_ble_eq_true rfl) d_Mod_answerTo_75 ⟨Nat.le_refl _, Nat.le_refl _⟩ h (fun H locs q23 h hw => ?_)
    refine lv_aload_n hx hb d_Mod_answerTo_78 rfl (lv_at hl 0 rfl) ?_
    refine lv_sipush (v := 145) hx hb d_Mod_answerTo_79 (by decide) ?_
    refine fx_sVv (As := [.int 145]) hC hl.1 (fun q hq => c_Mod_add l D ad cI cZ cT v q23 145 q hq) fy_Mod_add fv_Mod_add kw_657 ⟨Nat.le_of_ble_eq_true rfl, Nat.le_of_ble_eq_true rfl⟩ rfl hK hA hw at_M_30 rfl rfl rfl (Nat.le_of_ble_eq_true rfl) d_Mod_answerTo_82 ⟨Nat.le_refl _, Nat.le_refl _⟩ h (fun H locs q24 h hw => ?_)
    refine lv_aload_n hx hb d_Mod_answerTo_85 rfl (lv_at hl 0 rfl) ?_
    refine lv_iload hx hb d_Mod_answerTo_86 (lv_at hl 1 rfl) ?_
    refine lv_bipush (v := 100) hx hb d_Mod_answerTo_88 (by decide) ?_
    refine lv_irem hx hb d_Mod_answerTo_90 (by decide) ?_
    refine fx_sVv (As := [.int (y9 - y9 / 100 * 100)]) hC hl.1 (fun q hq => c_Mod_add l D ad cI cZ cT v q24 (y9 - y9 / 100 * 100) q hq) fy_Mod_add fv_Mod_add kw_657 ⟨Nat.le_of_ble_eq_true rfl, Nat.le_of_ble_eq_true rfl⟩ rfl hK hA hw at_M_30 rfl rfl rfl (Nat.le_of_ble_eq_true rfl) d_Mod_answerTo_91 ⟨Nat.le_refl _, Nat.le_refl _⟩ h (fun H locs q25 h hw => ?_)
    refine lv_goto (tgt := 189) hx hb d_Mod_answerTo_94 rfl ?_
    exact fx_retv hC hr hK hw h d_Mod_answerTo_189
  rw [f_Mod_answerTo] at h
  refine lv_iload_n hx hb d_Mod_answerTo_0 rfl (lv_at hl 2 rfl) ?_
  refine fx_sSr (As := [.int x2]) hC hl.1 (fun q hq => c_Mod_thingOf l D ad cI cZ cT v u x2 q hq) fy_Mod_thingOf fs_Mod_thingOf kw_681 ⟨Nat.le_of_ble_eq_true rfl, Nat.le_of_ble_eq_true rfl⟩ rfl hK hA hw rfl (Nat.le_of_ble_eq_true rfl) d_Mod_answerTo_1 ⟨Nat.le_refl _, Nat.le_refl _⟩ h (fun H locs q1 h hw => ?_)
  refine lv_istore (lv' := [(8, .int q1), (0, .ref (ad 30)), (1, .int x1), (2, .int x2), (3, .int x3), (4, .int x4), (5, .int x5), (6, .int x6), (7, .int x7)]) hx hb d_Mod_answerTo_4 hl (by decide) rfl (fun ls hl => ?_)
  refine lv_iload hx hb d_Mod_answerTo_6 (lv_at hl 0 rfl) ?_
  refine lv_iload_n hx hb d_Mod_answerTo_8 rfl (lv_at hl 4 rfl) ?_
  refine lv_iload hx hb d_Mod_answerTo_9 (lv_at hl 5 rfl) ?_
  refine lv_iload hx hb d_Mod_answerTo_11 (lv_at hl 6 rfl) ?_
  refine lv_iload hx hb d_Mod_answerTo_13 (lv_at hl 7 rfl) ?_
  refine fx_sSr (As := [.int q1, .int x3, .int x4, .int x5, .int x6]) hC hl.1 (fun q hq => c_Mod_wrong l D ad cI cZ cT v u q1 x3 x4 x5 x6 q hq) fy_Mod_wrong fs_Mod_wrong kw_685 ⟨Nat.le_of_ble_eq_true rfl, Nat.le_of_ble_eq_true rfl⟩ rfl hK hA hw rfl (Nat.le_of_ble_eq_true rfl) d_Mod_answerTo_15 ⟨Nat.le_refl _, Nat.le_refl _⟩ h (fun H locs q2 h hw => ?_)
  refine lv_istore (lv' := [(9, .int q2), (8, .int q1), (0, .ref (ad 30)), (1, .int x1), (2, .int x2), (3, .int x3), (4, .int x4), (5, .int x5), (6, .int x6), (7, .int x7)]) hx hb d_Mod_answerTo_18 hl (by decide) rfl (fun ls hl => ?_)
  refine lv_iload hx hb d_Mod_answerTo_20 (lv_at hl 0 rfl) ?_
  refine lv_if_le (tgt := 97) hx hb d_Mod_answerTo_22 rfl (fun c3 => ?_) (fun c3 => ?_)
  · have h := br1 c3 h
    refine lv_iload hx hb d_Mod_answerTo_97 (lv_at hl 7 rfl) ?_
    refine lv_if_lt (tgt := 178) hx hb d_Mod_answerTo_99 rfl (fun c4 => ?_) (fun c4 => ?_)
    · have h := br1 c4 h
      refine lv_aload_n hx hb d_Mod_answerTo_178 rfl (lv_at hl 2 rfl) ?_
      refine lv_iload_n hx hb d_Mod_answerTo_179 rfl (lv_at hl 3 rfl) ?_
      refine lv_iload hx hb d_Mod_answerTo_180 (lv_at hl 1 rfl) ?_
      refine lv_iload_n hx hb d_Mod_answerTo_182 rfl (lv_at hl 4 rfl) ?_
      refine lv_iload_n hx hb d_Mod_answerTo_183 rfl (lv_at hl 5 rfl) ?_
      refine lv_iload hx hb d_Mod_answerTo_184 (lv_at hl 6 rfl) ?_
      refine fx_sVv (As := [.int x1, .int q1, .int x2, .int x3, .int x4]) hC hl.1 (fun q hq => c_Mod_tell l D ad cI cZ cT v u x1 q1 x2 x3 x4 q hq) fy_Mod_tell fv_Mod_tell kw_688 ⟨Nat.le_of_ble_eq_true rfl, Nat.le_of_ble_eq_true rfl⟩ rfl hK hA hw at_M_30 rfl rfl rfl (Nat.le_of_ble_eq_true rfl) d_Mod_answerTo_186 ⟨Nat.le_refl _, Nat.le_refl _⟩ h (fun H locs q5 h hw => ?_)
      exact fx_retv hC hr hK hw h d_Mod_answerTo_189
    · have h := br0 c4 h
      refine lv_bipush (v := 17) hx hb d_Mod_answerTo_102 (by decide) ?_
      refine lv_iload hx hb d_Mod_answerTo_104 (lv_at hl 1 rfl) ?_
      refine lv_imul hx hb d_Mod_answerTo_106 ?_
      refine lv_iload_n hx hb d_Mod_answerTo_107 rfl (lv_at hl 5 rfl) ?_
      refine lv_bipush (v := 85) hx hb d_Mod_answerTo_108 (by decide) ?_
      refine lv_icmp_ne (tgt := 118) hx hb d_Mod_answerTo_110 rfl (fun c6 => ?_) (fun c6 => ?_)
      · have h := br0 c6 h
        refine lv_iconst (v := 0) hx hb d_Mod_answerTo_118 (by decide) ?_
        exact J119 _ _ _ _ _ _ _ _ _ h (lv_sub hl [2, 3, 7, 8] rfl) hw
      · have h := br1 c6 h
        refine lv_iload hx hb d_Mod_answerTo_113 (lv_at hl 9 rfl) ?_
        refine lv_goto (tgt := 119) hx hb d_Mod_answerTo_115 rfl ?_
        exact J119 _ _ _ _ _ _ _ _ _ h (lv_sub hl [2, 3, 7, 8] rfl) hw
  · have h := br0 c3 h
    refine lv_aload_n hx hb d_Mod_answerTo_25 rfl (lv_at hl 2 rfl) ?_
    refine lv_iconst (v := 1) hx hb d_Mod_answerTo_26 (by decide) ?_
    refine fx_sVv (As := [.int 1]) hC hl.1 (fun q hq => c_Mod_add l D ad cI cZ cT v u 1 q hq) fy_Mod_add fv_Mod_add kw_657 ⟨Nat.le_of_ble_eq_true rfl, Nat.le_of_ble_eq_true rfl⟩ rfl hK hA hw at_M_30 rfl rfl rfl (Nat.le_of_ble_eq_true rfl) d_Mod_answerTo_27 ⟨Nat.le_refl _, Nat.le_refl _⟩ h (fun H locs q16 h hw => ?_)
    refine lv_aload_n hx hb d_Mod_answerTo_30 rfl (lv_at hl 2 rfl) ?_
    refine lv_iconst (v := 0) hx hb d_Mod_answerTo_31 (by decide) ?_
    refine fx_sVv (As := [.int 0]) hC hl.1 (fun q hq => c_Mod_add l D ad cI cZ cT v q16 0 q hq) fy_Mod_add fv_Mod_add kw_657 ⟨Nat.le_of_ble_eq_true rfl, Nat.le_of_ble_eq_true rfl⟩ rfl hK hA hw at_M_30 rfl rfl rfl (Nat.le_of_ble_eq_true rfl) d_Mod_answerTo_32 ⟨Nat.le_refl _, Nat.le_refl _⟩ h (fun H locs q17 h hw => ?_)
    refine lv_aload_n hx hb d_Mod_answerTo_35 rfl (lv_at hl 2 rfl) ?_
    refine lv_bipush (v := 80) hx hb d_Mod_answerTo_36 (by decide) ?_
    refine fx_sVv (As := [.int 80]) hC hl.1 (fun q hq => c_Mod_add l D ad cI cZ cT v q17 80 q hq) fy_Mod_add fv_Mod_add kw_657 ⟨Nat.le_of_ble_eq_true rfl, Nat.le_of_ble_eq_true rfl⟩ rfl hK hA hw at_M_30 rfl rfl rfl (Nat.le_of_ble_eq_true rfl) d_Mod_answerTo_38 ⟨Nat.le_refl _, Nat.le_refl _⟩ h (fun H locs q18 h hw => ?_)
    refine lv_aload_n hx hb d_Mod_answerTo_41 rfl (lv_at hl 2 rfl) ?_
    refine lv_iload_n hx hb d_Mod_answerTo_42 rfl (lv_at hl 3 rfl) ?_
    refine fx_sVv (As := [.int x1]) hC hl.1 (fun q hq => c_Mod_add l D ad cI cZ cT v q18 x1 q hq) fy_Mod_add fv_Mod_add kw_657 ⟨Nat.le_of_ble_eq_true rfl, Nat.le_of_ble_eq_true rfl⟩ rfl hK hA hw at_M_30 rfl rfl rfl (Nat.le_of_ble_eq_true rfl) d_Mod_answerTo_43 ⟨Nat.le_refl _, Nat.le_refl _⟩ h (fun H locs q19 h hw => ?_)
    refine lv_aload_n hx hb d_Mod_answerTo_46 rfl (lv_at hl 2 rfl) ?_
    refine lv_iload hx hb d_Mod_answerTo_47 (lv_at hl 7 rfl) ?_
    refine lv_if_ge (tgt := 57) hx hb d_Mod_answerTo_49 rfl (fun c20 => ?_) (fun c20 => ?_)
    · have h := br1 c20 h
      refine lv_bipush (v := 15) hx hb d_Mod_answerTo_57 (by decide) ?_
      exact J59 _ _ _ _ _ _ h (lv_sub hl [2, 0] rfl) hw
    · have h := br0 c20 h
      refine lv_bipush (v := 12) hx hb d_Mod_answerTo_52 (by decide) ?_
      refine lv_goto (tgt := 59) hx hb d_Mod_answerTo_54 rfl ?_
      exact J59 _ _ _ _ _ _ h (lv_sub hl [2, 0] rfl) hw
