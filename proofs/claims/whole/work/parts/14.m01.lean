def f_Mod_isForMe (u : ST)  : Option (Int32) :=
  k_gd (inb 1 6) (
  if (u.2 0 (1 : Int32).toNatClampNeg) = (u.1 0) then
    some 1
  else
  k_gd (inb 1 6) (
  if (u.2 0 (1 : Int32).toNatClampNeg) = 255 then
    some 1
  else
  some 0))
set_option maxHeartbeats 4000000 in
set_option maxRecDepth 100000 in
theorem c_Mod_isForMe (l : Launch) (D : va_G) (ad : Nat → Nat) (cI cZ cT : ClassId) (v u : ST) (q : Int32) (h : f_Mod_isForMe u = some q) : MX l D (tyC cI cZ cT) (wM ad cI cZ cT v) y_Mod_isForMe cd_Mod_isForMe 0 0 [.ref (ad 30)] u (some (.int q)) u := by
  refine MX.start (by decide) (Nat.le_of_ble_eq_true rfl) ?_
  intro p e s m below meth c ls A hC hr hl hK hA hw
  have ⟨hx, hb, hml, hown, hT, hlk⟩ := hC
  have hl : lv_has ls 1 [(0, .ref (ad 30))] := hl
  rw [f_Mod_isForMe] at h
  refine lv_aload_n hx hb d_Mod_isForMe_0 rfl (lv_at hl 0 rfl) ?_
  refine gf_M_30_header hC hK hw d_Mod_isForMe_1 ?_
  refine lv_iconst (v := 1) hx hb d_Mod_isForMe_4 (by decide) ?_
  refine al_M_31 hC hK hw d_Mod_isForMe_5 h (fun h => ?_)
  refine lv_aload_n hx hb d_Mod_isForMe_6 rfl (lv_at hl 0 rfl) ?_
  refine gf_M_30_own hC hK hw d_Mod_isForMe_7 ?_
  refine lv_icmp_eq (tgt := 25) hx hb d_Mod_isForMe_10 rfl (fun c1 => ?_) (fun c1 => ?_)
  · have h := br1 c1 h
    refine lv_iconst (v := 1) hx hb d_Mod_isForMe_25 (by decide) ?_
    refine lv_goto (tgt := 30) hx hb d_Mod_isForMe_26 rfl ?_
    exact fx_retr hC hr (by decide) hK hw h d_Mod_isForMe_30
  · have h := br0 c1 h
    refine lv_aload_n hx hb d_Mod_isForMe_13 rfl (lv_at hl 0 rfl) ?_
    refine gf_M_30_header hC hK hw d_Mod_isForMe_14 ?_
    refine lv_iconst (v := 1) hx hb d_Mod_isForMe_17 (by decide) ?_
    refine al_M_31 hC hK hw d_Mod_isForMe_18 h (fun h => ?_)
    refine lv_sipush (v := 255) hx hb d_Mod_isForMe_19 (by decide) ?_
    refine lv_icmp_ne (tgt := 29) hx hb d_Mod_isForMe_22 rfl (fun c2 => ?_) (fun c2 => ?_)
    · have h := br0 c2 h
      refine lv_iconst (v := 0) hx hb d_Mod_isForMe_29 (by decide) ?_
      exact fx_retr hC hr (by decide) hK hw h d_Mod_isForMe_30
    · have h := br1 c2 h
      refine lv_iconst (v := 1) hx hb d_Mod_isForMe_25 (by decide) ?_
      refine lv_goto (tgt := 30) hx hb d_Mod_isForMe_26 rfl ?_
      exact fx_retr hC hr (by decide) hK hw h d_Mod_isForMe_30
def f_Mod_dataStep_L6 : Nat → Int32 → Int32 → Option (Int32)
  | 0, _, _ => none
  | k_ + 1, y2, y3 =>
    if 8 ≤ y3 then
      some y2
    else
    if (y2 - y2 / 2 * 2) = 1 then
      f_Mod_dataStep_L6 k_ ((y2 / 2) ^^^ 33800) (y3 + 1)
    else
    f_Mod_dataStep_L6 k_ (y2 / 2) (y3 + 1)
def f_Mod_dataStep (x0 x1 : Int32) : Option (Int32) :=
  f_Mod_dataStep_L6 200 (x0 ^^^ x1) 0
set_option maxHeartbeats 4000000 in
set_option maxRecDepth 100000 in
theorem c_Mod_dataStep (l : Launch) (D : va_G) (ad : Nat → Nat) (cI cZ cT : ClassId) (v u : ST) (x0 x1 : Int32) (q : Int32) (h : f_Mod_dataStep x0 x1 = some q) : MX l D (tyC cI cZ cT) (wM ad cI cZ cT v) y_Mod_dataStep cd_Mod_dataStep 0 0 [.int x0, .int x1] u (some (.int q)) u := by
  refine MX.start (by decide) (Nat.le_of_ble_eq_true rfl) ?_
  intro p e s m below meth c ls A hC hr hl hK hA hw
  have ⟨hx, hb, hml, hown, hT, hlk⟩ := hC
  have hl : lv_has ls 4 [(0, .int x0), (1, .int x1)] := hl
  have L6 : ∀ (k_ : Nat) (y2 y3 : Int32) (ls : Array Slot) (H : Heap) (locs : List Loc), f_Mod_dataStep_L6 k_ y2 y3 = some q → lv_has ls 4 [(2, .int y2), (3, .int y3)] → fw D A s.heap (wM ad cI cZ cT v u) H locs → WX (wM ad cI cZ cT v) p l e 0 0 s m [.int x0, .int x1] below meth c A D (tyC cI cZ cT) (some (.int q)) u H locs (F0 m 6 ls []) := by
    intro k_
    induction k_ with
    | zero =>
      intro y2 y3 ls H locs h hl hw
      cases h
    | succ k_ ih =>
      intro y2 y3 ls H locs h hl hw
      rw [f_Mod_dataStep_L6] at h
      refine lv_iload_n hx hb d_Mod_dataStep_6 rfl (lv_at hl 1 rfl) ?_
      refine lv_bipush (v := 8) hx hb d_Mod_dataStep_7 (by decide) ?_
      refine lv_icmp_ge (tgt := 38) hx hb d_Mod_dataStep_9 rfl (fun c1 => ?_) (fun c1 => ?_)
      · have h := br1 c1 h
        refine lv_iload_n hx hb d_Mod_dataStep_38 rfl (lv_at hl 0 rfl) ?_
        exact fx_retr hC hr rfl hK hw h d_Mod_dataStep_39
      · have h := br0 c1 h
        refine lv_iload_n hx hb d_Mod_dataStep_12 rfl (lv_at hl 0 rfl) ?_
        refine lv_iconst (v := 2) hx hb d_Mod_dataStep_13 (by decide) ?_
        refine lv_irem hx hb d_Mod_dataStep_14 (by decide) ?_
        refine lv_iconst (v := 1) hx hb d_Mod_dataStep_15 (by decide) ?_
        refine lv_icmp_ne (tgt := 28) hx hb d_Mod_dataStep_16 rfl (fun c2 => ?_) (fun c2 => ?_)
        · have h := br0 c2 h
          refine lv_iload_n hx hb d_Mod_dataStep_28 rfl (lv_at hl 0 rfl) ?_
          refine lv_iconst (v := 2) hx hb d_Mod_dataStep_29 (by decide) ?_
          refine lv_idiv hx hb d_Mod_dataStep_30 (by decide) ?_
          refine lv_istore_n (lv' := [(2, .int (y2 / 2)), (3, .int y3)]) hx hb d_Mod_dataStep_31 rfl hl (by decide) rfl (fun ls hl => ?_)
          refine lv_iinc (k := 1) (v := (y3 + 1)) (lv' := [(3, .int (y3 + 1)), (2, .int (y2 / 2))]) hx hb d_Mod_dataStep_32 hl rfl rfl (by decide) rfl (fun ls hl => ?_)
          refine lv_goto (tgt := 6) hx hb d_Mod_dataStep_35 rfl ?_
          exact ih _ _ _ _ _ h (lv_sub hl [1, 0] rfl) hw
        · have h := br1 c2 h
          refine lv_iload_n hx hb d_Mod_dataStep_19 rfl (lv_at hl 0 rfl) ?_
          refine lv_iconst (v := 2) hx hb d_Mod_dataStep_20 (by decide) ?_
          refine lv_idiv hx hb d_Mod_dataStep_21 (by decide) ?_
          refine lv_ldc (v := 33800) hx hb hown (hT _ kw_628) d_Mod_dataStep_22 ?_
          refine lv_ixor hx hb d_Mod_dataStep_24 ?_
          refine lv_goto (tgt := 31) hx hb d_Mod_dataStep_25 rfl ?_
          refine lv_istore_n (lv' := [(2, .int ((y2 / 2) ^^^ 33800)), (3, .int y3)]) hx hb d_Mod_dataStep_31 rfl hl (by decide) rfl (fun ls hl => ?_)
          refine lv_iinc (k := 1) (v := (y3 + 1)) (lv' := [(3, .int (y3 + 1)), (2, .int ((y2 / 2) ^^^ 33800))]) hx hb d_Mod_dataStep_32 hl rfl rfl (by decide) rfl (fun ls hl => ?_)
          refine lv_goto (tgt := 6) hx hb d_Mod_dataStep_35 rfl ?_
          exact ih _ _ _ _ _ h (lv_sub hl [1, 0] rfl) hw
  rw [f_Mod_dataStep] at h
  refine lv_iload_n hx hb d_Mod_dataStep_0 rfl (lv_at hl 0 rfl) ?_
  refine lv_iload_n hx hb d_Mod_dataStep_1 rfl (lv_at hl 1 rfl) ?_
  refine lv_ixor hx hb d_Mod_dataStep_2 ?_
  refine lv_istore_n (lv' := [(2, .int (x0 ^^^ x1)), (0, .int x0), (1, .int x1)]) hx hb d_Mod_dataStep_3 rfl hl (by decide) rfl (fun ls hl => ?_)
  refine lv_iconst (v := 0) hx hb d_Mod_dataStep_4 (by decide) ?_
  refine lv_istore_n (lv' := [(3, .int 0), (2, .int (x0 ^^^ x1)), (0, .int x0), (1, .int x1)]) hx hb d_Mod_dataStep_5 rfl hl (by decide) rfl (fun ls hl => ?_)
  exact L6 _ _ _ _ _ _ h (lv_sub hl [1, 0] rfl) hw
def f_Mod_endData_J78 (u : ST) (s0 : Int32) : Option (ST) :=
  k_gd (isz s0) (
  k_let (ss u 15 s0) fun u4 =>
  if (u4.1 15) = 0 then
    k_bd (f_Mod_isForMe u4) fun q8 =>
    if q8 = 0 then
      k_let (ss u4 14 0) fun u10 =>
      k_let (ss u10 10 0) fun u11 =>
      some u11
    else
    k_let (ss u4 14 1) fun u12 =>
    k_let (ss u12 10 0) fun u13 =>
    some u13
  else
  k_let (ss u4 14 0) fun u6 =>
  k_let (ss u6 10 0) fun u7 =>
  some u7)
def f_Mod_endData_J73 (u : ST)  : Option (ST) :=
  f_Mod_endData_J78 u 1
def f_Mod_endData_L5 : Nat → ST → Int32 → Int32 → Option (ST)
  | 0, _, _, _ => none
  | k_ + 1, u, y1, y2 =>
    if (u.1 13) ≤ y2 then
      k_gd (inb (u.1 13) 42) (
      if (u.2 1 (u.1 13).toNatClampNeg) = ((65535 - y1) - (65535 - y1) / 256 * 256) then
        k_gd (inb ((u.1 13) + 1) 42) (
        if (u.2 1 ((u.1 13) + 1).toNatClampNeg) = ((65535 - y1) / 256) then
          f_Mod_endData_J78 u 0
        else
        f_Mod_endData_J73 u)
      else
      f_Mod_endData_J73 u)
    else
    k_gd (inb y2 42) (
    k_bd (f_Mod_dataStep y1 (u.2 1 y2.toNatClampNeg)) fun q15 =>
    f_Mod_endData_L5 k_ u q15 (y2 + 1))
def f_Mod_endData (u : ST)  : Option (ST) :=
  f_Mod_endData_L5 200 u 65535 0
set_option maxHeartbeats 4000000 in
set_option maxRecDepth 100000 in
theorem c_Mod_endData (l : Launch) (D : va_G) (ad : Nat → Nat) (cI cZ cT : ClassId) (v u : ST) (q : ST) (h : f_Mod_endData u = some q) : MX l D (tyC cI cZ cT) (wM ad cI cZ cT v) y_Mod_endData cd_Mod_endData 1 23 [.ref (ad 30)] u none q := by
  refine MX.start (by decide) (Nat.le_of_ble_eq_true rfl) ?_
  intro p e s m below meth c ls A hC hr hl hK hA hw
  have ⟨hx, hb, hml, hown, hT, hlk⟩ := hC
  have hl : lv_has ls 3 [(0, .ref (ad 30))] := hl
  have J78 : ∀ (u : ST) (s0 : Int32) (ls : Array Slot) (H : Heap) (locs : List Loc), f_Mod_endData_J78 u s0 = some q → lv_has ls 3 [(0, .ref (ad 30))] → fw D A s.heap (wM ad cI cZ cT v u) H locs → WX (wM ad cI cZ cT v) p l e 1 23 s m [.ref (ad 30)] below meth c A D (tyC cI cZ cT) none q H locs (F0 m 78 ls [.int s0, .ref (ad 30)]) := by
    intro u s0 ls H locs h hl hw
    rw [f_Mod_endData_J78] at h
    obtain ⟨g3, h⟩ := k_gd_some h
    refine pf_M_30_invalid hC hK hw g3 d_Mod_endData_78 h (fun H locs u4 h hw => ?_)
    refine lv_aload_n hx hb d_Mod_endData_81 rfl (lv_at hl 0 rfl) ?_
    refine lv_aload_n hx hb d_Mod_endData_82 rfl (lv_at hl 0 rfl) ?_
    refine gf_M_30_invalid hC hK hw d_Mod_endData_83 ?_
    refine lv_if_ne (tgt := 100) hx hb d_Mod_endData_86 rfl (fun c5 => ?_) (fun c5 => ?_)
    · have h := br0 c5 h
      refine lv_iconst (v := 0) hx hb d_Mod_endData_100 (by decide) ?_
      refine pf_M_30_heard hC hK hw (by decide) d_Mod_endData_101 h (fun H locs u6 h hw => ?_)
      refine lv_aload_n hx hb d_Mod_endData_104 rfl (lv_at hl 0 rfl) ?_
      refine lv_iconst (v := 0) hx hb d_Mod_endData_105 (by decide) ?_
      refine pf_M_30_come hC hK hw d_Mod_endData_106 h (fun H locs u7 h hw => ?_)
      exact fx_retv hC hr hK hw h d_Mod_endData_109
    · have h := br1 c5 h
      refine lv_aload_n hx hb d_Mod_endData_89 rfl (lv_at hl 0 rfl) ?_
      refine fx_sVr (As := []) hC hl.1 (fun q hq => c_Mod_isForMe l D ad cI cZ cT v u4 q hq) fy_Mod_isForMe fv_Mod_isForMe kw_616 ⟨Nat.le_of_ble_eq_true rfl, Nat.le_of_ble_eq_true rfl⟩ rfl hK hA hw at_M_30 rfl rfl rfl (Nat.le_of_ble_eq_true rfl) d_Mod_endData_90 ⟨Nat.le_refl _, Nat.le_refl _⟩ h (fun H locs q8 h hw => ?_)
      refine lv_if_eq (tgt := 100) hx hb d_Mod_endData_93 rfl (fun c9 => ?_) (fun c9 => ?_)
      · have h := br1 c9 h
        refine lv_iconst (v := 0) hx hb d_Mod_endData_100 (by decide) ?_
        refine pf_M_30_heard hC hK hw (by decide) d_Mod_endData_101 h (fun H locs u10 h hw => ?_)
        refine lv_aload_n hx hb d_Mod_endData_104 rfl (lv_at hl 0 rfl) ?_
        refine lv_iconst (v := 0) hx hb d_Mod_endData_105 (by decide) ?_
        refine pf_M_30_come hC hK hw d_Mod_endData_106 h (fun H locs u11 h hw => ?_)
        exact fx_retv hC hr hK hw h d_Mod_endData_109
      · have h := br0 c9 h
        refine lv_iconst (v := 1) hx hb d_Mod_endData_96 (by decide) ?_
        refine lv_goto (tgt := 101) hx hb d_Mod_endData_97 rfl ?_
        refine pf_M_30_heard hC hK hw (by decide) d_Mod_endData_101 h (fun H locs u12 h hw => ?_)
        refine lv_aload_n hx hb d_Mod_endData_104 rfl (lv_at hl 0 rfl) ?_
        refine lv_iconst (v := 0) hx hb d_Mod_endData_105 (by decide) ?_
        refine pf_M_30_come hC hK hw d_Mod_endData_106 h (fun H locs u13 h hw => ?_)
        exact fx_retv hC hr hK hw h d_Mod_endData_109
  have J73 : ∀ (u : ST) (ls : Array Slot) (H : Heap) (locs : List Loc), f_Mod_endData_J73 u = some q → lv_has ls 3 [(0, .ref (ad 30))] → fw D A s.heap (wM ad cI cZ cT v u) H locs → WX (wM ad cI cZ cT v) p l e 1 23 s m [.ref (ad 30)] below meth c A D (tyC cI cZ cT) none q H locs (F0 m 73 ls [.ref (ad 30)]) := by
    intro u ls H locs h hl hw
    rw [f_Mod_endData_J73] at h
    refine lv_iconst (v := 1) hx hb d_Mod_endData_73 (by decide) ?_
    refine lv_goto (tgt := 78) hx hb d_Mod_endData_74 rfl ?_
    exact J78 _ _ _ _ _ h (lv_sub hl [0] rfl) hw
  have L5 : ∀ (k_ : Nat) (u : ST) (y1 y2 : Int32) (ls : Array Slot) (H : Heap) (locs : List Loc), f_Mod_endData_L5 k_ u y1 y2 = some q → lv_has ls 3 [(0, .ref (ad 30)), (1, .int y1), (2, .int y2)] → fw D A s.heap (wM ad cI cZ cT v u) H locs → WX (wM ad cI cZ cT v) p l e 1 23 s m [.ref (ad 30)] below meth c A D (tyC cI cZ cT) none q H locs (F0 m 5 ls []) := by
    intro k_
    induction k_ with
    | zero =>
      intro u y1 y2 ls H locs h hl hw
      cases h
    | succ k_ ih =>
      intro u y1 y2 ls H locs h hl hw
      rw [f_Mod_endData_L5] at h
      refine lv_iload_n hx hb d_Mod_endData_5 rfl (lv_at hl 2 rfl) ?_
      refine lv_aload_n hx hb d_Mod_endData_6 rfl (lv_at hl 0 rfl) ?_
      refine gf_M_30_size hC hK hw d_Mod_endData_7 ?_
      refine lv_icmp_ge (tgt := 30) hx hb d_Mod_endData_10 rfl (fun c1 => ?_) (fun c1 => ?_)
      · have h := br1 c1 h
        refine lv_aload_n hx hb d_Mod_endData_30 rfl (lv_at hl 0 rfl) ?_
        refine lv_aload_n hx hb d_Mod_endData_31 rfl (lv_at hl 0 rfl) ?_
        refine gf_M_30_data hC hK hw d_Mod_endData_32 ?_
        refine lv_aload_n hx hb d_Mod_endData_35 rfl (lv_at hl 0 rfl) ?_
        refine gf_M_30_size hC hK hw d_Mod_endData_36 ?_
        refine al_M_32 hC hK hw d_Mod_endData_39 h (fun h => ?_)
        refine lv_ldc (v := 65535) hx hb hown (hT _ kw_624) d_Mod_endData_40 ?_
        refine lv_iload_n hx hb d_Mod_endData_42 rfl (lv_at hl 1 rfl) ?_
        refine lv_isub hx hb d_Mod_endData_43 ?_
        refine lv_sipush (v := 256) hx hb d_Mod_endData_44 (by decide) ?_
        refine lv_irem hx hb d_Mod_endData_47 (by decide) ?_
        refine lv_icmp_ne (tgt := 73) hx hb d_Mod_endData_48 rfl (fun c2 => ?_) (fun c2 => ?_)
        · have h := br0 c2 h
          exact J73 _ _ _ _ h (lv_sub hl [0] rfl) hw
        · have h := br1 c2 h
          refine lv_aload_n hx hb d_Mod_endData_51 rfl (lv_at hl 0 rfl) ?_
          refine gf_M_30_data hC hK hw d_Mod_endData_52 ?_
          refine lv_aload_n hx hb d_Mod_endData_55 rfl (lv_at hl 0 rfl) ?_
          refine gf_M_30_size hC hK hw d_Mod_endData_56 ?_
          refine lv_iconst (v := 1) hx hb d_Mod_endData_59 (by decide) ?_
          refine lv_iadd hx hb d_Mod_endData_60 ?_
          refine al_M_32 hC hK hw d_Mod_endData_61 h (fun h => ?_)
          refine lv_ldc (v := 65535) hx hb hown (hT _ kw_624) d_Mod_endData_62 ?_
          refine lv_iload_n hx hb d_Mod_endData_64 rfl (lv_at hl 1 rfl) ?_
          refine lv_isub hx hb d_Mod_endData_65 ?_
          refine lv_sipush (v := 256) hx hb d_Mod_endData_66 (by decide) ?_
          refine lv_idiv hx hb d_Mod_endData_69 (by decide) ?_
          refine lv_icmp_eq (tgt := 77) hx hb d_Mod_endData_70 rfl (fun c14 => ?_) (fun c14 => ?_)
          · have h := br1 c14 h
            refine lv_iconst (v := 0) hx hb d_Mod_endData_77 (by decide) ?_
            exact J78 _ _ _ _ _ h (lv_sub hl [0] rfl) hw
          · have h := br0 c14 h
            exact J73 _ _ _ _ h (lv_sub hl [0] rfl) hw
      · have h := br0 c1 h
        refine lv_iload_n hx hb d_Mod_endData_13 rfl (lv_at hl 1 rfl) ?_
        refine lv_aload_n hx hb d_Mod_endData_14 rfl (lv_at hl 0 rfl) ?_
        refine gf_M_30_data hC hK hw d_Mod_endData_15 ?_
        refine lv_iload_n hx hb d_Mod_endData_18 rfl (lv_at hl 2 rfl) ?_
        refine al_M_32 hC hK hw d_Mod_endData_19 h (fun h => ?_)
        refine fx_sSr (As := [.int y1, .int (u.2 1 y2.toNatClampNeg)]) hC hl.1 (fun q hq => c_Mod_dataStep l D ad cI cZ cT v u y1 (u.2 1 y2.toNatClampNeg) q hq) fy_Mod_dataStep fs_Mod_dataStep kw_625 ⟨Nat.le_of_ble_eq_true rfl, Nat.le_of_ble_eq_true rfl⟩ rfl hK hA hw rfl (Nat.le_of_ble_eq_true rfl) d_Mod_endData_20 ⟨Nat.le_refl _, Nat.le_refl _⟩ h (fun H locs q15 h hw => ?_)
        refine lv_istore_n (lv' := [(1, .int q15), (0, .ref (ad 30)), (2, .int y2)]) hx hb d_Mod_endData_23 rfl hl (by decide) rfl (fun ls hl => ?_)
        refine lv_iinc (k := 2) (v := (y2 + 1)) (lv' := [(2, .int (y2 + 1)), (1, .int q15), (0, .ref (ad 30))]) hx hb d_Mod_endData_24 hl rfl rfl (by decide) rfl (fun ls hl => ?_)
        refine lv_goto (tgt := 5) hx hb d_Mod_endData_27 rfl ?_
        exact ih _ _ _ _ _ _ h (lv_sub hl [2, 1, 0] rfl) hw
  rw [f_Mod_endData] at h
  refine lv_ldc (v := 65535) hx hb hown (hT _ kw_624) d_Mod_endData_0 ?_
  refine lv_istore_n (lv' := [(1, .int 65535), (0, .ref (ad 30))]) hx hb d_Mod_endData_2 rfl hl (by decide) rfl (fun ls hl => ?_)
  refine lv_iconst (v := 0) hx hb d_Mod_endData_3 (by decide) ?_
  refine lv_istore_n (lv' := [(2, .int 0), (1, .int 65535), (0, .ref (ad 30))]) hx hb d_Mod_endData_4 rfl hl (by decide) rfl (fun ls hl => ?_)
  exact L5 _ _ _ _ _ _ _ h (lv_sub hl [2, 1, 0] rfl) hw
def f_Mod_headerStep_L6 : Nat → Int32 → Int32 → Option (Int32)
  | 0, _, _ => none
  | k_ + 1, y2, y3 =>
    if 8 ≤ y3 then
      some y2
    else
    if (y2 - y2 / 2 * 2) = 1 then
      f_Mod_headerStep_L6 k_ ((y2 / 2) ^^^ 129) (y3 + 1)
    else
    f_Mod_headerStep_L6 k_ (y2 / 2) (y3 + 1)
def f_Mod_headerStep (x0 x1 : Int32) : Option (Int32) :=
  f_Mod_headerStep_L6 200 (x0 ^^^ x1) 0
set_option maxHeartbeats 4000000 in
set_option maxRecDepth 100000 in
theorem c_Mod_headerStep (l : Launch) (D : va_G) (ad : Nat → Nat) (cI cZ cT : ClassId) (v u : ST) (x0 x1 : Int32) (q : Int32) (h : f_Mod_headerStep x0 x1 = some q) : MX l D (tyC cI cZ cT) (wM ad cI cZ cT v) y_Mod_headerStep cd_Mod_headerStep 0 0 [.int x0, .int x1] u (some (.int q)) u := by
  refine MX.start (by decide) (Nat.le_of_ble_eq_true rfl) ?_
  intro p e s m below meth c ls A hC hr hl hK hA hw
  have ⟨hx, hb, hml, hown, hT, hlk⟩ := hC
  have hl : lv_has ls 4 [(0, .int x0), (1, .int x1)] := hl
  have L6 : ∀ (k_ : Nat) (y2 y3 : Int32) (ls : Array Slot) (H : Heap) (locs : List Loc), f_Mod_headerStep_L6 k_ y2 y3 = some q → lv_has ls 4 [(2, .int y2), (3, .int y3)] → fw D A s.heap (wM ad cI cZ cT v u) H locs → WX (wM ad cI cZ cT v) p l e 0 0 s m [.int x0, .int x1] below meth c A D (tyC cI cZ cT) (some (.int q)) u H locs (F0 m 6 ls []) := by
    intro k_
    induction k_ with
    | zero =>
      intro y2 y3 ls H locs h hl hw
      cases h
    | succ k_ ih =>
      intro y2 y3 ls H locs h hl hw
      rw [f_Mod_headerStep_L6] at h
      refine lv_iload_n hx hb d_Mod_headerStep_6 rfl (lv_at hl 1 rfl) ?_
      refine lv_bipush (v := 8) hx hb d_Mod_headerStep_7 (by decide) ?_
      refine lv_icmp_ge (tgt := 39) hx hb d_Mod_headerStep_9 rfl (fun c1 => ?_) (fun c1 => ?_)
      · have h := br1 c1 h
        refine lv_iload_n hx hb d_Mod_headerStep_39 rfl (lv_at hl 0 rfl) ?_
        exact fx_retr hC hr rfl hK hw h d_Mod_headerStep_40
      · have h := br0 c1 h
        refine lv_iload_n hx hb d_Mod_headerStep_12 rfl (lv_at hl 0 rfl) ?_
        refine lv_iconst (v := 2) hx hb d_Mod_headerStep_13 (by decide) ?_
        refine lv_irem hx hb d_Mod_headerStep_14 (by decide) ?_
        refine lv_iconst (v := 1) hx hb d_Mod_headerStep_15 (by decide) ?_
        refine lv_icmp_ne (tgt := 29) hx hb d_Mod_headerStep_16 rfl (fun c2 => ?_) (fun c2 => ?_)
        · have h := br0 c2 h
          refine lv_iload_n hx hb d_Mod_headerStep_29 rfl (lv_at hl 0 rfl) ?_
          refine lv_iconst (v := 2) hx hb d_Mod_headerStep_30 (by decide) ?_
          refine lv_idiv hx hb d_Mod_headerStep_31 (by decide) ?_
          refine lv_istore_n (lv' := [(2, .int (y2 / 2)), (3, .int y3)]) hx hb d_Mod_headerStep_32 rfl hl (by decide) rfl (fun ls hl => ?_)
          refine lv_iinc (k := 1) (v := (y3 + 1)) (lv' := [(3, .int (y3 + 1)), (2, .int (y2 / 2))]) hx hb d_Mod_headerStep_33 hl rfl rfl (by decide) rfl (fun ls hl => ?_)
          refine lv_goto (tgt := 6) hx hb d_Mod_headerStep_36 rfl ?_
          exact ih _ _ _ _ _ h (lv_sub hl [1, 0] rfl) hw
        · have h := br1 c2 h
          refine lv_iload_n hx hb d_Mod_headerStep_19 rfl (lv_at hl 0 rfl) ?_
          refine lv_iconst (v := 2) hx hb d_Mod_headerStep_20 (by decide) ?_
          refine lv_idiv hx hb d_Mod_headerStep_21 (by decide) ?_
          refine lv_sipush (v := 129) hx hb d_Mod_headerStep_22 (by decide) ?_
          refine lv_ixor hx hb d_Mod_headerStep_25 ?_
          refine lv_goto (tgt := 32) hx hb d_Mod_headerStep_26 rfl ?_
          refine lv_istore_n (lv' := [(2, .int ((y2 / 2) ^^^ 129)), (3, .int y3)]) hx hb d_Mod_headerStep_32 rfl hl (by decide) rfl (fun ls hl => ?_)
          refine lv_iinc (k := 1) (v := (y3 + 1)) (lv' := [(3, .int (y3 + 1)), (2, .int ((y2 / 2) ^^^ 129))]) hx hb d_Mod_headerStep_33 hl rfl rfl (by decide) rfl (fun ls hl => ?_)
          refine lv_goto (tgt := 6) hx hb d_Mod_headerStep_36 rfl ?_
          exact ih _ _ _ _ _ h (lv_sub hl [1, 0] rfl) hw
  rw [f_Mod_headerStep] at h
  refine lv_iload_n hx hb d_Mod_headerStep_0 rfl (lv_at hl 0 rfl) ?_
  refine lv_iload_n hx hb d_Mod_headerStep_1 rfl (lv_at hl 1 rfl) ?_
  refine lv_ixor hx hb d_Mod_headerStep_2 ?_
  refine lv_istore_n (lv' := [(2, .int (x0 ^^^ x1)), (0, .int x0), (1, .int x1)]) hx hb d_Mod_headerStep_3 rfl hl (by decide) rfl (fun ls hl => ?_)
  refine lv_iconst (v := 0) hx hb d_Mod_headerStep_4 (by decide) ?_
  refine lv_istore_n (lv' := [(3, .int 0), (2, .int (x0 ^^^ x1)), (0, .int x0), (1, .int x1)]) hx hb d_Mod_headerStep_5 rfl hl (by decide) rfl (fun ls hl => ?_)
  exact L6 _ _ _ _ _ _ h (lv_sub hl [1, 0] rfl) hw
def f_Mod_endHeader_J108 (u : ST) (s0 : Int32) : Option (ST) :=
  k_gd (isz s0) (
  k_let (ss u 14 s0) fun u8 =>
  if (u8.1 15) = 0 then
    if (u8.1 13) = 0 then
      k_let (ss u8 10 0) fun u13 =>
      some u13
    else
    k_let (ss u8 10 (u8.1 10)) fun u12 =>
    some u12
  else
  k_let (ss u8 10 0) fun u10 =>
  some u10)
def f_Mod_endHeader_J107 (u : ST)  : Option (ST) :=
  f_Mod_endHeader_J108 u 0
def f_Mod_endHeader_J78 (u : ST) (s0 : Int32) : Option (ST) :=
  k_gd (isz s0) (
  k_let (ss u 15 s0) fun u5 =>
  if (u5.1 15) = 0 then
    if (u5.1 13) = 0 then
      k_bd (f_Mod_isForMe u5) fun q15 =>
      if q15 = 0 then
        f_Mod_endHeader_J107 u5
      else
      f_Mod_endHeader_J108 u5 1
    else
    f_Mod_endHeader_J107 u5
  else
  f_Mod_endHeader_J107 u5)
def f_Mod_endHeader_J73 (u : ST)  : Option (ST) :=
  f_Mod_endHeader_J78 u 1
def f_Mod_endHeader_L6 : Nat → ST → Int32 → Int32 → Option (ST)
  | 0, _, _, _ => none
  | k_ + 1, u, y1, y2 =>
    if 5 ≤ y2 then
      k_gd (inb 3 6) (
      k_gd (inb 4 6) (
      k_let (ss u 13 ((256 * (u.2 0 (3 : Int32).toNatClampNeg)) + (u.2 0 (4 : Int32).toNatClampNeg))) fun u2 =>
      k_gd (inb 5 6) (
      if (u2.2 0 (5 : Int32).toNatClampNeg) = (255 - y1) then
        if (u2.1 13) ≤ 40 then
          f_Mod_endHeader_J78 u2 0
        else
        f_Mod_endHeader_J73 u2
      else
      f_Mod_endHeader_J73 u2)))
    else
    k_gd (inb y2 6) (
    k_bd (f_Mod_headerStep y1 (u.2 0 y2.toNatClampNeg)) fun q18 =>
    f_Mod_endHeader_L6 k_ u q18 (y2 + 1))
def f_Mod_endHeader (u : ST)  : Option (ST) :=
  f_Mod_endHeader_L6 200 u 255 0
set_option maxHeartbeats 4000000 in
set_option maxRecDepth 100000 in
theorem c_Mod_endHeader (l : Launch) (D : va_G) (ad : Nat → Nat) (cI cZ cT : ClassId) (v u : ST) (q : ST) (h : f_Mod_endHeader u = some q) : MX l D (tyC cI cZ cT) (wM ad cI cZ cT v) y_Mod_endHeader cd_Mod_endHeader 1 23 [.ref (ad 30)] u none q := by
  refine MX.start (by decide) (Nat.le_of_ble_eq_true rfl) ?_
  intro p e s m below meth c ls A hC hr hl hK hA hw
  have ⟨hx, hb, hml, hown, hT, hlk⟩ := hC
  have hl : lv_has ls 3 [(0, .ref (ad 30))] := hl
  have J108 : ∀ (u : ST) (s0 : Int32) (ls : Array Slot) (H : Heap) (locs : List Loc), f_Mod_endHeader_J108 u s0 = some q → lv_has ls 3 [(0, .ref (ad 30))] → fw D A s.heap (wM ad cI cZ cT v u) H locs → WX (wM ad cI cZ cT v) p l e 1 23 s m [.ref (ad 30)] below meth c A D (tyC cI cZ cT) none q H locs (F0 m 108 ls [.int s0, .ref (ad 30)]) := by
    intro u s0 ls H locs h hl hw
    rw [f_Mod_endHeader_J108] at h
    obtain ⟨g7, h⟩ := k_gd_some h
    refine pf_M_30_heard hC hK hw g7 d_Mod_endHeader_108 h (fun H locs u8 h hw => ?_)
    refine lv_aload_n hx hb d_Mod_endHeader_111 rfl (lv_at hl 0 rfl) ?_
    refine lv_aload_n hx hb d_Mod_endHeader_112 rfl (lv_at hl 0 rfl) ?_
    refine gf_M_30_invalid hC hK hw d_Mod_endHeader_113 ?_
    refine lv_if_ne (tgt := 126) hx hb d_Mod_endHeader_116 rfl (fun c9 => ?_) (fun c9 => ?_)
    · have h := br0 c9 h
      refine lv_iconst (v := 0) hx hb d_Mod_endHeader_126 (by decide) ?_
      refine lv_goto (tgt := 134) hx hb d_Mod_endHeader_127 rfl ?_
      refine pf_M_30_come hC hK hw d_Mod_endHeader_134 h (fun H locs u10 h hw => ?_)
      exact fx_retv hC hr hK hw h d_Mod_endHeader_137
    · have h := br1 c9 h
      refine lv_aload_n hx hb d_Mod_endHeader_119 rfl (lv_at hl 0 rfl) ?_
      refine gf_M_30_size hC hK hw d_Mod_endHeader_120 ?_
      refine lv_if_ne (tgt := 130) hx hb d_Mod_endHeader_123 rfl (fun c11 => ?_) (fun c11 => ?_)
      · have h := br0 c11 h
        refine lv_aload_n hx hb d_Mod_endHeader_130 rfl (lv_at hl 0 rfl) ?_
        refine gf_M_30_come hC hK hw d_Mod_endHeader_131 ?_
        refine pf_M_30_come hC hK hw d_Mod_endHeader_134 h (fun H locs u12 h hw => ?_)
        exact fx_retv hC hr hK hw h d_Mod_endHeader_137
      · have h := br1 c11 h
        refine lv_iconst (v := 0) hx hb d_Mod_endHeader_126 (by decide) ?_
        refine lv_goto (tgt := 134) hx hb d_Mod_endHeader_127 rfl ?_
        refine pf_M_30_come hC hK hw d_Mod_endHeader_134 h (fun H locs u13 h hw => ?_)
        exact fx_retv hC hr hK hw h d_Mod_endHeader_137
  have J107 : ∀ (u : ST) (ls : Array Slot) (H : Heap) (locs : List Loc), f_Mod_endHeader_J107 u = some q → lv_has ls 3 [(0, .ref (ad 30))] → fw D A s.heap (wM ad cI cZ cT v u) H locs → WX (wM ad cI cZ cT v) p l e 1 23 s m [.ref (ad 30)] below meth c A D (tyC cI cZ cT) none q H locs (F0 m 107 ls [.ref (ad 30)]) := by
    intro u ls H locs h hl hw
    rw [f_Mod_endHeader_J107] at h
    refine lv_iconst (v := 0) hx hb d_Mod_endHeader_107 (by decide) ?_
    exact J108 _ _ _ _ _ h (lv_sub hl [0] rfl) hw
  have J78 : ∀ (u : ST) (s0 : Int32) (ls : Array Slot) (H : Heap) (locs : List Loc), f_Mod_endHeader_J78 u s0 = some q → lv_has ls 3 [(0, .ref (ad 30))] → fw D A s.heap (wM ad cI cZ cT v u) H locs → WX (wM ad cI cZ cT v) p l e 1 23 s m [.ref (ad 30)] below meth c A D (tyC cI cZ cT) none q H locs (F0 m 78 ls [.int s0, .ref (ad 30)]) := by
    intro u s0 ls H locs h hl hw
    rw [f_Mod_endHeader_J78] at h
    obtain ⟨g4, h⟩ := k_gd_some h
    refine pf_M_30_invalid hC hK hw g4 d_Mod_endHeader_78 h (fun H locs u5 h hw => ?_)
    refine lv_aload_n hx hb d_Mod_endHeader_81 rfl (lv_at hl 0 rfl) ?_
    refine lv_aload_n hx hb d_Mod_endHeader_82 rfl (lv_at hl 0 rfl) ?_
    refine gf_M_30_invalid hC hK hw d_Mod_endHeader_83 ?_
    refine lv_if_ne (tgt := 107) hx hb d_Mod_endHeader_86 rfl (fun c6 => ?_) (fun c6 => ?_)
    · have h := br0 c6 h
      exact J107 _ _ _ _ h (lv_sub hl [0] rfl) hw
    · have h := br1 c6 h
      refine lv_aload_n hx hb d_Mod_endHeader_89 rfl (lv_at hl 0 rfl) ?_
      refine gf_M_30_size hC hK hw d_Mod_endHeader_90 ?_
      refine lv_if_ne (tgt := 107) hx hb d_Mod_endHeader_93 rfl (fun c14 => ?_) (fun c14 => ?_)
      · have h := br0 c14 h
        exact J107 _ _ _ _ h (lv_sub hl [0] rfl) hw
      · have h := br1 c14 h
        refine lv_aload_n hx hb d_Mod_endHeader_96 rfl (lv_at hl 0 rfl) ?_
        refine fx_sVr (As := []) hC hl.1 (fun q hq => c_Mod_isForMe l D ad cI cZ cT v u5 q hq) fy_Mod_isForMe fv_Mod_isForMe kw_616 ⟨Nat.le_of_ble_eq_true rfl, Nat.le_of_ble_eq_true rfl⟩ rfl hK hA hw at_M_30 rfl rfl rfl (Nat.le_of_ble_eq_true rfl) d_Mod_endHeader_97 ⟨Nat.le_refl _, Nat.le_refl _⟩ h (fun H locs q15 h hw => ?_)
        refine lv_if_eq (tgt := 107) hx hb d_Mod_endHeader_100 rfl (fun c16 => ?_) (fun c16 => ?_)
        · have h := br1 c16 h
          exact J107 _ _ _ _ h (lv_sub hl [0] rfl) hw
        · have h := br0 c16 h
          refine lv_iconst (v := 1) hx hb d_Mod_endHeader_103 (by decide) ?_
          refine lv_goto (tgt := 108) hx hb d_Mod_endHeader_104 rfl ?_
          exact J108 _ _ _ _ _ h (lv_sub hl [0] rfl) hw
  have J73 : ∀ (u : ST) (ls : Array Slot) (H : Heap) (locs : List Loc), f_Mod_endHeader_J73 u = some q → lv_has ls 3 [(0, .ref (ad 30))] → fw D A s.heap (wM ad cI cZ cT v u) H locs → WX (wM ad cI cZ cT v) p l e 1 23 s m [.ref (ad 30)] below meth c A D (tyC cI cZ cT) none q H locs (F0 m 73 ls [.ref (ad 30)]) := by
    intro u ls H locs h hl hw
    rw [f_Mod_endHeader_J73] at h
    refine lv_iconst (v := 1) hx hb d_Mod_endHeader_73 (by decide) ?_
    refine lv_goto (tgt := 78) hx hb d_Mod_endHeader_74 rfl ?_
    exact J78 _ _ _ _ _ h (lv_sub hl [0] rfl) hw
  have L6 : ∀ (k_ : Nat) (u : ST) (y1 y2 : Int32) (ls : Array Slot) (H : Heap) (locs : List Loc), f_Mod_endHeader_L6 k_ u y1 y2 = some q → lv_has ls 3 [(0, .ref (ad 30)), (1, .int y1), (2, .int y2)] → fw D A s.heap (wM ad cI cZ cT v u) H locs → WX (wM ad cI cZ cT v) p l e 1 23 s m [.ref (ad 30)] below meth c A D (tyC cI cZ cT) none q H locs (F0 m 6 ls []) := by
    intro k_
    induction k_ with
    | zero =>
      intro u y1 y2 ls H locs h hl hw
      cases h
    | succ k_ ih =>
      intro u y1 y2 ls H locs h hl hw
      rw [f_Mod_endHeader_L6] at h
      refine lv_iload_n hx hb d_Mod_endHeader_6 rfl (lv_at hl 2 rfl) ?_
      refine lv_iconst (v := 5) hx hb d_Mod_endHeader_7 (by decide) ?_
      refine lv_icmp_ge (tgt := 28) hx hb d_Mod_endHeader_8 rfl (fun c1 => ?_) (fun c1 => ?_)
      · have h := br1 c1 h
        refine lv_aload_n hx hb d_Mod_endHeader_28 rfl (lv_at hl 0 rfl) ?_
        refine lv_sipush (v := 256) hx hb d_Mod_endHeader_29 (by decide) ?_
        refine lv_aload_n hx hb d_Mod_endHeader_32 rfl (lv_at hl 0 rfl) ?_
        refine gf_M_30_header hC hK hw d_Mod_endHeader_33 ?_
        refine lv_iconst (v := 3) hx hb d_Mod_endHeader_36 (by decide) ?_
        refine al_M_31 hC hK hw d_Mod_endHeader_37 h (fun h => ?_)
        refine lv_imul hx hb d_Mod_endHeader_38 ?_
        refine lv_aload_n hx hb d_Mod_endHeader_39 rfl (lv_at hl 0 rfl) ?_
        refine gf_M_30_header hC hK hw d_Mod_endHeader_40 ?_
        refine lv_iconst (v := 4) hx hb d_Mod_endHeader_43 (by decide) ?_
        refine al_M_31 hC hK hw d_Mod_endHeader_44 h (fun h => ?_)
        refine lv_iadd hx hb d_Mod_endHeader_45 ?_
        refine pf_M_30_size hC hK hw d_Mod_endHeader_46 h (fun H locs u2 h hw => ?_)
        refine lv_aload_n hx hb d_Mod_endHeader_49 rfl (lv_at hl 0 rfl) ?_
        refine lv_aload_n hx hb d_Mod_endHeader_50 rfl (lv_at hl 0 rfl) ?_
        refine gf_M_30_header hC hK hw d_Mod_endHeader_51 ?_
        refine lv_iconst (v := 5) hx hb d_Mod_endHeader_54 (by decide) ?_
        refine al_M_31 hC hK hw d_Mod_endHeader_55 h (fun h => ?_)
        refine lv_sipush (v := 255) hx hb d_Mod_endHeader_56 (by decide) ?_
        refine lv_iload_n hx hb d_Mod_endHeader_59 rfl (lv_at hl 1 rfl) ?_
        refine lv_isub hx hb d_Mod_endHeader_60 ?_
        refine lv_icmp_ne (tgt := 73) hx hb d_Mod_endHeader_61 rfl (fun c3 => ?_) (fun c3 => ?_)
        · have h := br0 c3 h
          exact J73 _ _ _ _ h (lv_sub hl [0] rfl) hw
        · have h := br1 c3 h
          refine lv_aload_n hx hb d_Mod_endHeader_64 rfl (lv_at hl 0 rfl) ?_
          refine gf_M_30_size hC hK hw d_Mod_endHeader_65 ?_
          refine lv_bipush (v := 40) hx hb d_Mod_endHeader_68 (by decide) ?_
          refine lv_icmp_le (tgt := 77) hx hb d_Mod_endHeader_70 rfl (fun c17 => ?_) (fun c17 => ?_)
          · have h := br1 c17 h
            refine lv_iconst (v := 0) hx hb d_Mod_endHeader_77 (by decide) ?_
            exact J78 _ _ _ _ _ h (lv_sub hl [0] rfl) hw
          · have h := br0 c17 h
            exact J73 _ _ _ _ h (lv_sub hl [0] rfl) hw
      · have h := br0 c1 h
        refine lv_iload_n hx hb d_Mod_endHeader_11 rfl (lv_at hl 1 rfl) ?_
        refine lv_aload_n hx hb d_Mod_endHeader_12 rfl (lv_at hl 0 rfl) ?_
        refine gf_M_30_header hC hK hw d_Mod_endHeader_13 ?_
        refine lv_iload_n hx hb d_Mod_endHeader_16 rfl (lv_at hl 2 rfl) ?_
        refine al_M_31 hC hK hw d_Mod_endHeader_17 h (fun h => ?_)
        refine fx_sSr (As := [.int y1, .int (u.2 0 y2.toNatClampNeg)]) hC hl.1 (fun q hq => c_Mod_headerStep l D ad cI cZ cT v u y1 (u.2 0 y2.toNatClampNeg) q hq) fy_Mod_headerStep fs_Mod_headerStep kw_613 ⟨Nat.le_of_ble_eq_true rfl, Nat.le_of_ble_eq_true rfl⟩ rfl hK hA hw rfl (Nat.le_of_ble_eq_true rfl) d_Mod_endHeader_18 ⟨Nat.le_refl _, Nat.le_refl _⟩ h (fun H locs q18 h hw => ?_)
        refine lv_istore_n (lv' := [(1, .int q18), (0, .ref (ad 30)), (2, .int y2)]) hx hb d_Mod_endHeader_21 rfl hl (by decide) rfl (fun ls hl => ?_)
        refine lv_iinc (k := 2) (v := (y2 + 1)) (lv' := [(2, .int (y2 + 1)), (1, .int q18), (0, .ref (ad 30))]) hx hb d_Mod_endHeader_22 hl rfl rfl (by decide) rfl (fun ls hl => ?_)
        refine lv_goto (tgt := 6) hx hb d_Mod_endHeader_25 rfl ?_
        exact ih _ _ _ _ _ _ h (lv_sub hl [2, 1, 0] rfl) hw
  rw [f_Mod_endHeader] at h
  refine lv_sipush (v := 255) hx hb d_Mod_endHeader_0 (by decide) ?_
  refine lv_istore_n (lv' := [(1, .int 255), (0, .ref (ad 30))]) hx hb d_Mod_endHeader_3 rfl hl (by decide) rfl (fun ls hl => ?_)
  refine lv_iconst (v := 0) hx hb d_Mod_endHeader_4 (by decide) ?_
  refine lv_istore_n (lv' := [(2, .int 0), (1, .int 255), (0, .ref (ad 30))]) hx hb d_Mod_endHeader_5 rfl hl (by decide) rfl (fun ls hl => ?_)
  exact L6 _ _ _ _ _ _ _ h (lv_sub hl [2, 1, 0] rfl) hw
def f_Mod_listen (u : ST) (x1 : Int32) : Option (ST) :=
  if (u.1 10) = 0 then
    if x1 = 85 then
      k_let (ss u 10 1) fun u19 =>
      some u19
    else
    k_let (ss u 10 0) fun u18 =>
    some u18
  else
  if (u.1 10) = 1 then
    if x1 = 255 then
      k_let (ss u 10 2) fun u16 =>
      some u16
    else
    if x1 = 85 then
      k_let (ss u 10 1) fun u15 =>
      some u15
    else
    k_let (ss u 10 0) fun u14 =>
    some u14
  else
  if 8 ≤ (u.1 10) then
    k_gd (inb ((u.1 10) - 8) 42) (
    k_let (rs u 1 ((u.1 10) - 8).toNatClampNeg x1) fun u4 =>
    k_let (ss u4 10 ((u4.1 10) + 1)) fun u5 =>
    if (u5.1 10) = (10 + (u5.1 13)) then
      k_bd (f_Mod_endData u5) fun q7 =>
      some q7
    else
    some u5)
  else
  k_gd (inb ((u.1 10) - 2) 6) (
  k_let (rs u 0 ((u.1 10) - 2).toNatClampNeg x1) fun u8 =>
  k_let (ss u8 10 ((u8.1 10) + 1)) fun u9 =>
  if (u9.1 10) = 8 then
    k_bd (f_Mod_endHeader u9) fun q11 =>
    some q11
  else
  some u9)
set_option maxHeartbeats 4000000 in
set_option maxRecDepth 100000 in
theorem c_Mod_listen (l : Launch) (D : va_G) (ad : Nat → Nat) (cI cZ cT : ClassId) (v u : ST) (x1 : Int32) (q : ST) (h : f_Mod_listen u x1 = some q) : MX l D (tyC cI cZ cT) (wM ad cI cZ cT v) y_Mod_listen cd_Mod_listen 2 45 [.ref (ad 30), .int x1] u none q := by
  refine MX.start (by decide) (Nat.le_of_ble_eq_true rfl) ?_
  intro p e s m below meth c ls A hC hr hl hK hA hw
  have ⟨hx, hb, hml, hown, hT, hlk⟩ := hC
  have hl : lv_has ls 2 [(0, .ref (ad 30)), (1, .int x1)] := hl
  rw [f_Mod_listen] at h
  refine lv_aload_n hx hb d_Mod_listen_0 rfl (lv_at hl 0 rfl) ?_
  refine gf_M_30_come hC hK hw d_Mod_listen_1 ?_
  refine lv_if_ne (tgt := 25) hx hb d_Mod_listen_4 rfl (fun c1 => ?_) (fun c1 => ?_)
  · have h := br0 c1 h
    refine lv_aload_n hx hb d_Mod_listen_25 rfl (lv_at hl 0 rfl) ?_
    refine gf_M_30_come hC hK hw d_Mod_listen_26 ?_
    refine lv_iconst (v := 1) hx hb d_Mod_listen_29 (by decide) ?_
    refine lv_icmp_ne (tgt := 62) hx hb d_Mod_listen_30 rfl (fun c2 => ?_) (fun c2 => ?_)
    · have h := br0 c2 h
      refine lv_aload_n hx hb d_Mod_listen_62 rfl (lv_at hl 0 rfl) ?_
      refine gf_M_30_come hC hK hw d_Mod_listen_63 ?_
      refine lv_bipush (v := 8) hx hb d_Mod_listen_66 (by decide) ?_
      refine lv_icmp_ge (tgt := 109) hx hb d_Mod_listen_68 rfl (fun c3 => ?_) (fun c3 => ?_)
      · have h := br1 c3 h
        refine lv_aload_n hx hb d_Mod_listen_109 rfl (lv_at hl 0 rfl) ?_
        refine gf_M_30_data hC hK hw d_Mod_listen_110 ?_
        refine lv_aload_n hx hb d_Mod_listen_113 rfl (lv_at hl 0 rfl) ?_
        refine gf_M_30_come hC hK hw d_Mod_listen_114 ?_
        refine lv_bipush (v := 8) hx hb d_Mod_listen_117 (by decide) ?_
        refine lv_isub hx hb d_Mod_listen_119 ?_
        refine lv_iload_n hx hb d_Mod_listen_120 rfl (lv_at hl 1 rfl) ?_
        refine as_M_32 hC hK hw d_Mod_listen_121 h (fun H locs u4 h hw => ?_)
        refine lv_aload_n hx hb d_Mod_listen_122 rfl (lv_at hl 0 rfl) ?_
        refine lv_dup hx hb d_Mod_listen_123 rfl ?_
        refine gf_M_30_come hC hK hw d_Mod_listen_124 ?_
        refine lv_iconst (v := 1) hx hb d_Mod_listen_127 (by decide) ?_
        refine lv_iadd hx hb d_Mod_listen_128 ?_
        refine pf_M_30_come hC hK hw d_Mod_listen_129 h (fun H locs u5 h hw => ?_)
        refine lv_aload_n hx hb d_Mod_listen_132 rfl (lv_at hl 0 rfl) ?_
        refine gf_M_30_come hC hK hw d_Mod_listen_133 ?_
        refine lv_bipush (v := 10) hx hb d_Mod_listen_136 (by decide) ?_
        refine lv_aload_n hx hb d_Mod_listen_138 rfl (lv_at hl 0 rfl) ?_
        refine gf_M_30_size hC hK hw d_Mod_listen_139 ?_
        refine lv_iadd hx hb d_Mod_listen_142 ?_
        refine lv_icmp_ne (tgt := 150) hx hb d_Mod_listen_143 rfl (fun c6 => ?_) (fun c6 => ?_)
        · have h := br0 c6 h
          exact fx_retv hC hr hK hw h d_Mod_listen_150
        · have h := br1 c6 h
          refine lv_aload_n hx hb d_Mod_listen_146 rfl (lv_at hl 0 rfl) ?_
          refine fx_sVv (As := []) hC hl.1 (fun q hq => c_Mod_endData l D ad cI cZ cT v u5 q hq) fy_Mod_endData fv_Mod_endData kw_620 ⟨Nat.le_of_ble_eq_true rfl, Nat.le_of_ble_eq_true rfl⟩ rfl hK hA hw at_M_30 rfl rfl rfl (Nat.le_of_ble_eq_true rfl) d_Mod_listen_147 ⟨Nat.le_refl _, Nat.le_refl _⟩ h (fun H locs q7 h hw => ?_)
          exact fx_retv hC hr hK hw h d_Mod_listen_150
      · have h := br0 c3 h
        refine lv_aload_n hx hb d_Mod_listen_71 rfl (lv_at hl 0 rfl) ?_
        refine gf_M_30_header hC hK hw d_Mod_listen_72 ?_
        refine lv_aload_n hx hb d_Mod_listen_75 rfl (lv_at hl 0 rfl) ?_
        refine gf_M_30_come hC hK hw d_Mod_listen_76 ?_
        refine lv_iconst (v := 2) hx hb d_Mod_listen_79 (by decide) ?_
        refine lv_isub hx hb d_Mod_listen_80 ?_
        refine lv_iload_n hx hb d_Mod_listen_81 rfl (lv_at hl 1 rfl) ?_
        refine as_M_31 hC hK hw d_Mod_listen_82 h (fun H locs u8 h hw => ?_)
        refine lv_aload_n hx hb d_Mod_listen_83 rfl (lv_at hl 0 rfl) ?_
        refine lv_dup hx hb d_Mod_listen_84 rfl ?_
        refine gf_M_30_come hC hK hw d_Mod_listen_85 ?_
        refine lv_iconst (v := 1) hx hb d_Mod_listen_88 (by decide) ?_
        refine lv_iadd hx hb d_Mod_listen_89 ?_
        refine pf_M_30_come hC hK hw d_Mod_listen_90 h (fun H locs u9 h hw => ?_)
        refine lv_aload_n hx hb d_Mod_listen_93 rfl (lv_at hl 0 rfl) ?_
        refine gf_M_30_come hC hK hw d_Mod_listen_94 ?_
        refine lv_bipush (v := 8) hx hb d_Mod_listen_97 (by decide) ?_
        refine lv_icmp_ne (tgt := 150) hx hb d_Mod_listen_99 rfl (fun c10 => ?_) (fun c10 => ?_)
        · have h := br0 c10 h
          exact fx_retv hC hr hK hw h d_Mod_listen_150
        · have h := br1 c10 h
          refine lv_aload_n hx hb d_Mod_listen_102 rfl (lv_at hl 0 rfl) ?_
          refine fx_sVv (As := []) hC hl.1 (fun q hq => c_Mod_endHeader l D ad cI cZ cT v u9 q hq) fy_Mod_endHeader fv_Mod_endHeader kw_609 ⟨Nat.le_of_ble_eq_true rfl, Nat.le_of_ble_eq_true rfl⟩ rfl hK hA hw at_M_30 rfl rfl rfl (Nat.le_of_ble_eq_true rfl) d_Mod_listen_103 ⟨Nat.le_refl _, Nat.le_refl _⟩ h (fun H locs q11 h hw => ?_)
          refine lv_goto (tgt := 150) hx hb d_Mod_listen_106 rfl ?_
          exact fx_retv hC hr hK hw h d_Mod_listen_150
    · have h := br1 c2 h
      refine lv_aload_n hx hb d_Mod_listen_33 rfl (lv_at hl 0 rfl) ?_
      refine lv_iload_n hx hb d_Mod_listen_34 rfl (lv_at hl 1 rfl) ?_
      refine lv_sipush (v := 255) hx hb d_Mod_listen_35 (by decide) ?_
      refine lv_icmp_ne (tgt := 45) hx hb d_Mod_listen_38 rfl (fun c12 => ?_) (fun c12 => ?_)
      · have h := br0 c12 h
        refine lv_iload_n hx hb d_Mod_listen_45 rfl (lv_at hl 1 rfl) ?_
        refine lv_bipush (v := 85) hx hb d_Mod_listen_46 (by decide) ?_
        refine lv_icmp_ne (tgt := 55) hx hb d_Mod_listen_48 rfl (fun c13 => ?_) (fun c13 => ?_)
        · have h := br0 c13 h
          refine lv_iconst (v := 0) hx hb d_Mod_listen_55 (by decide) ?_
          refine pf_M_30_come hC hK hw d_Mod_listen_56 h (fun H locs u14 h hw => ?_)
          refine lv_goto (tgt := 150) hx hb d_Mod_listen_59 rfl ?_
          exact fx_retv hC hr hK hw h d_Mod_listen_150
        · have h := br1 c13 h
          refine lv_iconst (v := 1) hx hb d_Mod_listen_51 (by decide) ?_
          refine lv_goto (tgt := 56) hx hb d_Mod_listen_52 rfl ?_
          refine pf_M_30_come hC hK hw d_Mod_listen_56 h (fun H locs u15 h hw => ?_)
          refine lv_goto (tgt := 150) hx hb d_Mod_listen_59 rfl ?_
          exact fx_retv hC hr hK hw h d_Mod_listen_150
      · have h := br1 c12 h
        refine lv_iconst (v := 2) hx hb d_Mod_listen_41 (by decide) ?_
        refine lv_goto (tgt := 56) hx hb d_Mod_listen_42 rfl ?_
        refine pf_M_30_come hC hK hw d_Mod_listen_56 h (fun H locs u16 h hw => ?_)
        refine lv_goto (tgt := 150) hx hb d_Mod_listen_59 rfl ?_
        exact fx_retv hC hr hK hw h d_Mod_listen_150
  · have h := br1 c1 h
    refine lv_aload_n hx hb d_Mod_listen_7 rfl (lv_at hl 0 rfl) ?_
    refine lv_iload_n hx hb d_Mod_listen_8 rfl (lv_at hl 1 rfl) ?_
    refine lv_bipush (v := 85) hx hb d_Mod_listen_9 (by decide) ?_
    refine lv_icmp_ne (tgt := 18) hx hb d_Mod_listen_11 rfl (fun c17 => ?_) (fun c17 => ?_)
    · have h := br0 c17 h
      refine lv_iconst (v := 0) hx hb d_Mod_listen_18 (by decide) ?_
      refine pf_M_30_come hC hK hw d_Mod_listen_19 h (fun H locs u18 h hw => ?_)
      refine lv_goto (tgt := 150) hx hb d_Mod_listen_22 rfl ?_
      exact fx_retv hC hr hK hw h d_Mod_listen_150
    · have h := br1 c17 h
      refine lv_iconst (v := 1) hx hb d_Mod_listen_14 (by decide) ?_
      refine lv_goto (tgt := 19) hx hb d_Mod_listen_15 rfl ?_
      refine pf_M_30_come hC hK hw d_Mod_listen_19 h (fun H locs u19 h hw => ?_)
      refine lv_goto (tgt := 150) hx hb d_Mod_listen_22 rfl ?_
      exact fx_retv hC hr hK hw h d_Mod_listen_150
def f_Mod_take_J24 (u : ST) (s0 : Int32) : Option (Int32 × ST) :=
  k_gd (isz s0) (
  k_let (ss u 28 s0) fun u3 =>
  k_let (ss u3 27 ((u3.1 27) + 1)) fun u4 =>
  if (u4.1 28) = 0 then
    some (0, u4)
  else
  k_gd (inb ((u4.1 27) - 1) 42) (
  some ((u4.2 1 ((u4.1 27) - 1).toNatClampNeg), u4)))
def f_Mod_take_J23 (u : ST)  : Option (Int32 × ST) :=
  f_Mod_take_J24 u 0
def f_Mod_take (u : ST)  : Option (Int32 × ST) :=
  if (u.1 28) = 0 then
    f_Mod_take_J23 u
  else
  if (u.1 13) ≤ (u.1 27) then
    f_Mod_take_J23 u
  else
  f_Mod_take_J24 u 1
set_option maxHeartbeats 4000000 in
set_option maxRecDepth 100000 in
theorem c_Mod_take (l : Launch) (D : va_G) (ad : Nat → Nat) (cI cZ cT : ClassId) (v u : ST) (q : Int32 × ST) (h : f_Mod_take u = some q) : MX l D (tyC cI cZ cT) (wM ad cI cZ cT v) y_Mod_take cd_Mod_take 0 0 [.ref (ad 30)] u (some (.int q.1)) q.2 := by
  refine MX.start (by decide) (Nat.le_of_ble_eq_true rfl) ?_
  intro p e s m below meth c ls A hC hr hl hK hA hw
  have ⟨hx, hb, hml, hown, hT, hlk⟩ := hC
  have hl : lv_has ls 1 [(0, .ref (ad 30))] := hl
  have J24 : ∀ (u : ST) (s0 : Int32) (ls : Array Slot) (H : Heap) (locs : List Loc), f_Mod_take_J24 u s0 = some q → lv_has ls 1 [(0, .ref (ad 30))] → fw D A s.heap (wM ad cI cZ cT v u) H locs → WX (wM ad cI cZ cT v) p l e 0 0 s m [.ref (ad 30)] below meth c A D (tyC cI cZ cT) (some (.int q.1)) q.2 H locs (F0 m 24 ls [.int s0, .ref (ad 30)]) := by
    intro u s0 ls H locs h hl hw
    rw [f_Mod_take_J24] at h
    obtain ⟨g2, h⟩ := k_gd_some h
    refine pf_M_30_fine hC hK hw g2 d_Mod_take_24 h (fun H locs u3 h hw => ?_)
    refine lv_aload_n hx hb d_Mod_take_27 rfl (lv_at hl 0 rfl) ?_
    refine lv_dup hx hb d_Mod_take_28 rfl ?_
    refine gf_M_30_at hC hK hw d_Mod_take_29 ?_
    refine lv_iconst (v := 1) hx hb d_Mod_take_32 (by decide) ?_
    refine lv_iadd hx hb d_Mod_take_33 ?_
    refine pf_M_30_at hC hK hw d_Mod_take_34 h (fun H locs u4 h hw => ?_)
    refine lv_aload_n hx hb d_Mod_take_37 rfl (lv_at hl 0 rfl) ?_
    refine gf_M_30_fine hC hK hw d_Mod_take_38 ?_
    refine lv_if_eq (tgt := 58) hx hb d_Mod_take_41 rfl (fun c5 => ?_) (fun c5 => ?_)
    · have h := br1 c5 h
      refine lv_iconst (v := 0) hx hb d_Mod_take_58 (by decide) ?_
      exact fx_retw hC hr rfl hK hw h d_Mod_take_59
    · have h := br0 c5 h
      refine lv_aload_n hx hb d_Mod_take_44 rfl (lv_at hl 0 rfl) ?_
      refine gf_M_30_data hC hK hw d_Mod_take_45 ?_
      refine lv_aload_n hx hb d_Mod_take_48 rfl (lv_at hl 0 rfl) ?_
      refine gf_M_30_at hC hK hw d_Mod_take_49 ?_
      refine lv_iconst (v := 1) hx hb d_Mod_take_52 (by decide) ?_
      refine lv_isub hx hb d_Mod_take_53 ?_
      refine al_M_32 hC hK hw d_Mod_take_54 h (fun h => ?_)
      refine lv_goto (tgt := 59) hx hb d_Mod_take_55 rfl ?_
      exact fx_retw hC hr rfl hK hw h d_Mod_take_59
  have J23 : ∀ (u : ST) (ls : Array Slot) (H : Heap) (locs : List Loc), f_Mod_take_J23 u = some q → lv_has ls 1 [(0, .ref (ad 30))] → fw D A s.heap (wM ad cI cZ cT v u) H locs → WX (wM ad cI cZ cT v) p l e 0 0 s m [.ref (ad 30)] below meth c A D (tyC cI cZ cT) (some (.int q.1)) q.2 H locs (F0 m 23 ls [.ref (ad 30)]) := by
    intro u ls H locs h hl hw
    rw [f_Mod_take_J23] at h
    refine lv_iconst (v := 0) hx hb d_Mod_take_23 (by decide) ?_
    exact J24 _ _ _ _ _ h (lv_sub hl [0] rfl) hw
  rw [f_Mod_take] at h
  refine lv_aload_n hx hb d_Mod_take_0 rfl (lv_at hl 0 rfl) ?_
  refine lv_aload_n hx hb d_Mod_take_1 rfl (lv_at hl 0 rfl) ?_
  refine gf_M_30_fine hC hK hw d_Mod_take_2 ?_
  refine lv_if_eq (tgt := 23) hx hb d_Mod_take_5 rfl (fun c1 => ?_) (fun c1 => ?_)
  · have h := br1 c1 h
    exact J23 _ _ _ _ h (lv_sub hl [0] rfl) hw
  · have h := br0 c1 h
    refine lv_aload_n hx hb d_Mod_take_8 rfl (lv_at hl 0 rfl) ?_
    refine gf_M_30_at hC hK hw d_Mod_take_9 ?_
    refine lv_aload_n hx hb d_Mod_take_12 rfl (lv_at hl 0 rfl) ?_
    refine gf_M_30_size hC hK hw d_Mod_take_13 ?_
    refine lv_icmp_ge (tgt := 23) hx hb d_Mod_take_16 rfl (fun c6 => ?_) (fun c6 => ?_)
    · have h := br1 c6 h
      exact J23 _ _ _ _ h (lv_sub hl [0] rfl) hw
    · have h := br0 c6 h
      refine lv_iconst (v := 1) hx hb d_Mod_take_19 (by decide) ?_
      refine lv_goto (tgt := 24) hx hb d_Mod_take_20 rfl ?_
      exact J24 _ _ _ _ _ h (lv_sub hl [0] rfl) hw
def f_Mod_expect (u : ST) (x1 : Int32) : Option (ST) :=
  k_bd (f_Mod_take u) fun q1 =>
  if (q1.2.1 28) = 0 then
    k_let (ss q1.2 28 0) fun u3 =>
    some u3
  else
  if q1.1 = x1 then
    k_let (ss q1.2 28 1) fun u6 =>
    some u6
  else
  k_let (ss q1.2 28 0) fun u5 =>
  some u5
set_option maxHeartbeats 4000000 in
set_option maxRecDepth 100000 in
theorem c_Mod_expect (l : Launch) (D : va_G) (ad : Nat → Nat) (cI cZ cT : ClassId) (v u : ST) (x1 : Int32) (q : ST) (h : f_Mod_expect u x1 = some q) : MX l D (tyC cI cZ cT) (wM ad cI cZ cT v) y_Mod_expect cd_Mod_expect 1 20 [.ref (ad 30), .int x1] u none q := by
  refine MX.start (by decide) (Nat.le_of_ble_eq_true rfl) ?_
  intro p e s m below meth c ls A hC hr hl hK hA hw
  have ⟨hx, hb, hml, hown, hT, hlk⟩ := hC
  have hl : lv_has ls 3 [(0, .ref (ad 30)), (1, .int x1)] := hl
  rw [f_Mod_expect] at h
  refine lv_aload_n hx hb d_Mod_expect_0 rfl (lv_at hl 0 rfl) ?_
  refine fx_sVi (As := []) hC hl.1 (fun q hq => c_Mod_take l D ad cI cZ cT v u q hq) fy_Mod_take fv_Mod_take kw_665 ⟨Nat.le_of_ble_eq_true rfl, Nat.le_of_ble_eq_true rfl⟩ rfl hK hA hw at_M_30 rfl rfl rfl (Nat.le_of_ble_eq_true rfl) d_Mod_expect_1 ⟨Nat.le_refl _, Nat.le_refl _⟩ h (fun H locs q1 h hw => ?_)
  refine lv_istore_n (lv' := [(2, .int q1.1), (0, .ref (ad 30)), (1, .int x1)]) hx hb d_Mod_expect_4 rfl hl (by decide) rfl (fun ls hl => ?_)
  refine lv_aload_n hx hb d_Mod_expect_5 rfl (lv_at hl 1 rfl) ?_
  refine lv_aload_n hx hb d_Mod_expect_6 rfl (lv_at hl 1 rfl) ?_
  refine gf_M_30_fine hC hK hw d_Mod_expect_7 ?_
  refine lv_if_eq (tgt := 22) hx hb d_Mod_expect_10 rfl (fun c2 => ?_) (fun c2 => ?_)
  · have h := br1 c2 h
    refine lv_iconst (v := 0) hx hb d_Mod_expect_22 (by decide) ?_
    refine pf_M_30_fine hC hK hw (by decide) d_Mod_expect_23 h (fun H locs u3 h hw => ?_)
    exact fx_retv hC hr hK hw h d_Mod_expect_26
  · have h := br0 c2 h
    refine lv_iload_n hx hb d_Mod_expect_13 rfl (lv_at hl 0 rfl) ?_
    refine lv_iload_n hx hb d_Mod_expect_14 rfl (lv_at hl 2 rfl) ?_
    refine lv_icmp_ne (tgt := 22) hx hb d_Mod_expect_15 rfl (fun c4 => ?_) (fun c4 => ?_)
    · have h := br0 c4 h
      refine lv_iconst (v := 0) hx hb d_Mod_expect_22 (by decide) ?_
      refine pf_M_30_fine hC hK hw (by decide) d_Mod_expect_23 h (fun H locs u5 h hw => ?_)
      exact fx_retv hC hr hK hw h d_Mod_expect_26
    · have h := br1 c4 h
      refine lv_iconst (v := 1) hx hb d_Mod_expect_18 (by decide) ?_
      refine lv_goto (tgt := 23) hx hb d_Mod_expect_19 rfl ?_
      refine pf_M_30_fine hC hK hw (by decide) d_Mod_expect_23 h (fun H locs u6 h hw => ?_)
      exact fx_retv hC hr hK hw h d_Mod_expect_26
def f_Mod_takeInt_L4 : Nat → ST → Int32 → Int32 → Option (Int32 × ST)
  | 0, _, _, _ => none
  | k_ + 1, u, y1, y2 =>
    if 4 ≤ y2 then
      some (y1, u)
    else
    k_bd (f_Mod_take u) fun q2 =>
    f_Mod_takeInt_L4 k_ q2.2 ((y1 <<< (8 &&& 31)) ||| q2.1) (y2 + 1)
def f_Mod_takeInt (u : ST)  : Option (Int32 × ST) :=
  f_Mod_takeInt_L4 200 u 0 0
set_option maxHeartbeats 4000000 in
set_option maxRecDepth 100000 in
theorem c_Mod_takeInt (l : Launch) (D : va_G) (ad : Nat → Nat) (cI cZ cT : ClassId) (v u : ST) (q : Int32 × ST) (h : f_Mod_takeInt u = some q) : MX l D (tyC cI cZ cT) (wM ad cI cZ cT v) y_Mod_takeInt cd_Mod_takeInt 1 20 [.ref (ad 30)] u (some (.int q.1)) q.2 := by
  refine MX.start (by decide) (Nat.le_of_ble_eq_true rfl) ?_
  intro p e s m below meth c ls A hC hr hl hK hA hw
  have ⟨hx, hb, hml, hown, hT, hlk⟩ := hC
  have hl : lv_has ls 3 [(0, .ref (ad 30))] := hl
  have L4 : ∀ (k_ : Nat) (u : ST) (y1 y2 : Int32) (ls : Array Slot) (H : Heap) (locs : List Loc), f_Mod_takeInt_L4 k_ u y1 y2 = some q → lv_has ls 3 [(0, .ref (ad 30)), (1, .int y1), (2, .int y2)] → fw D A s.heap (wM ad cI cZ cT v u) H locs → WX (wM ad cI cZ cT v) p l e 1 20 s m [.ref (ad 30)] below meth c A D (tyC cI cZ cT) (some (.int q.1)) q.2 H locs (F0 m 4 ls []) := by
    intro k_
    induction k_ with
    | zero =>
      intro u y1 y2 ls H locs h hl hw
      cases h
    | succ k_ ih =>
      intro u y1 y2 ls H locs h hl hw
      rw [f_Mod_takeInt_L4] at h
      refine lv_iload_n hx hb d_Mod_takeInt_4 rfl (lv_at hl 2 rfl) ?_
      refine lv_iconst (v := 4) hx hb d_Mod_takeInt_5 (by decide) ?_
      refine lv_icmp_ge (tgt := 25) hx hb d_Mod_takeInt_6 rfl (fun c1 => ?_) (fun c1 => ?_)
      · have h := br1 c1 h
        refine lv_iload_n hx hb d_Mod_takeInt_25 rfl (lv_at hl 1 rfl) ?_
        exact fx_retw hC hr rfl hK hw h d_Mod_takeInt_26
      · have h := br0 c1 h
        refine lv_iload_n hx hb d_Mod_takeInt_9 rfl (lv_at hl 1 rfl) ?_
        refine lv_bipush (v := 8) hx hb d_Mod_takeInt_10 (by decide) ?_
        refine lv_ishl hx hb d_Mod_takeInt_12 ?_
        refine lv_aload_n hx hb d_Mod_takeInt_13 rfl (lv_at hl 0 rfl) ?_
        refine fx_sVi (As := []) hC hl.1 (fun q hq => c_Mod_take l D ad cI cZ cT v u q hq) fy_Mod_take fv_Mod_take kw_665 ⟨Nat.le_of_ble_eq_true rfl, Nat.le_of_ble_eq_true rfl⟩ rfl hK hA hw at_M_30 rfl rfl rfl (Nat.le_of_ble_eq_true rfl) d_Mod_takeInt_14 ⟨Nat.le_refl _, Nat.le_refl _⟩ h (fun H locs q2 h hw => ?_)
        refine lv_ior hx hb d_Mod_takeInt_17 ?_
        refine lv_istore_n (lv' := [(1, .int ((y1 <<< (8 &&& 31)) ||| q2.1)), (0, .ref (ad 30)), (2, .int y2)]) hx hb d_Mod_takeInt_18 rfl hl (by decide) rfl (fun ls hl => ?_)
        refine lv_iinc (k := 2) (v := (y2 + 1)) (lv' := [(2, .int (y2 + 1)), (1, .int ((y1 <<< (8 &&& 31)) ||| q2.1)), (0, .ref (ad 30))]) hx hb d_Mod_takeInt_19 hl rfl rfl (by decide) rfl (fun ls hl => ?_)
        refine lv_goto (tgt := 4) hx hb d_Mod_takeInt_22 rfl ?_
        exact ih _ _ _ _ _ _ h (lv_sub hl [2, 1, 0] rfl) hw
  rw [f_Mod_takeInt] at h
  refine lv_iconst (v := 0) hx hb d_Mod_takeInt_0 (by decide) ?_
  refine lv_istore_n (lv' := [(1, .int 0), (0, .ref (ad 30))]) hx hb d_Mod_takeInt_1 rfl hl (by decide) rfl (fun ls hl => ?_)
  refine lv_iconst (v := 0) hx hb d_Mod_takeInt_2 (by decide) ?_
  refine lv_istore_n (lv' := [(2, .int 0), (1, .int 0), (0, .ref (ad 30))]) hx hb d_Mod_takeInt_3 rfl hl (by decide) rfl (fun ls hl => ?_)
  exact L4 _ _ _ _ _ _ _ h (lv_sub hl [2, 1, 0] rfl) hw
def f_Mod_isNext (u : ST) (x1 : Int32) : Option (Int32) :=
  if (u.1 28) = 0 then
    some 0
  else
  if (u.1 13) ≤ (u.1 27) then
    some 0
  else
  k_gd (inb (u.1 27) 42) (
  if (u.2 1 (u.1 27).toNatClampNeg) = x1 then
    some 1
  else
  some 0)
set_option maxHeartbeats 4000000 in
set_option maxRecDepth 100000 in
theorem c_Mod_isNext (l : Launch) (D : va_G) (ad : Nat → Nat) (cI cZ cT : ClassId) (v u : ST) (x1 : Int32) (q : Int32) (h : f_Mod_isNext u x1 = some q) : MX l D (tyC cI cZ cT) (wM ad cI cZ cT v) y_Mod_isNext cd_Mod_isNext 0 0 [.ref (ad 30), .int x1] u (some (.int q)) u := by
  refine MX.start (by decide) (Nat.le_of_ble_eq_true rfl) ?_
  intro p e s m below meth c ls A hC hr hl hK hA hw
  have ⟨hx, hb, hml, hown, hT, hlk⟩ := hC
  have hl : lv_has ls 2 [(0, .ref (ad 30)), (1, .int x1)] := hl
  rw [f_Mod_isNext] at h
  refine lv_aload_n hx hb d_Mod_isNext_0 rfl (lv_at hl 0 rfl) ?_
  refine gf_M_30_fine hC hK hw d_Mod_isNext_1 ?_
  refine lv_if_eq (tgt := 35) hx hb d_Mod_isNext_4 rfl (fun c1 => ?_) (fun c1 => ?_)
  · have h := br1 c1 h
    refine lv_iconst (v := 0) hx hb d_Mod_isNext_35 (by decide) ?_
    exact fx_retr hC hr (by decide) hK hw h d_Mod_isNext_36
  · have h := br0 c1 h
    refine lv_aload_n hx hb d_Mod_isNext_7 rfl (lv_at hl 0 rfl) ?_
    refine gf_M_30_at hC hK hw d_Mod_isNext_8 ?_
    refine lv_aload_n hx hb d_Mod_isNext_11 rfl (lv_at hl 0 rfl) ?_
    refine gf_M_30_size hC hK hw d_Mod_isNext_12 ?_
    refine lv_icmp_ge (tgt := 35) hx hb d_Mod_isNext_15 rfl (fun c2 => ?_) (fun c2 => ?_)
    · have h := br1 c2 h
      refine lv_iconst (v := 0) hx hb d_Mod_isNext_35 (by decide) ?_
      exact fx_retr hC hr (by decide) hK hw h d_Mod_isNext_36
    · have h := br0 c2 h
      refine lv_aload_n hx hb d_Mod_isNext_18 rfl (lv_at hl 0 rfl) ?_
      refine gf_M_30_data hC hK hw d_Mod_isNext_19 ?_
      refine lv_aload_n hx hb d_Mod_isNext_22 rfl (lv_at hl 0 rfl) ?_
      refine gf_M_30_at hC hK hw d_Mod_isNext_23 ?_
      refine al_M_32 hC hK hw d_Mod_isNext_26 h (fun h => ?_)
      refine lv_iload_n hx hb d_Mod_isNext_27 rfl (lv_at hl 1 rfl) ?_
      refine lv_icmp_ne (tgt := 35) hx hb d_Mod_isNext_28 rfl (fun c3 => ?_) (fun c3 => ?_)
      · have h := br0 c3 h
        refine lv_iconst (v := 0) hx hb d_Mod_isNext_35 (by decide) ?_
        exact fx_retr hC hr (by decide) hK hw h d_Mod_isNext_36
      · have h := br1 c3 h
        refine lv_iconst (v := 1) hx hb d_Mod_isNext_31 (by decide) ?_
        refine lv_goto (tgt := 36) hx hb d_Mod_isNext_32 rfl ?_
        exact fx_retr hC hr (by decide) hK hw h d_Mod_isNext_36
