def f_Mod_settle_L2 : Nat → ST → Int32 → Option (ST)
  | 0, _, _ => none
  | k_ + 1, u, y1 =>
    if y1 = 0 then
      some u
    else
    k_bd (f_Mod_step u) fun q2 =>
    k_let (ss q2.2 14 0) fun u3 =>
    k_let (ss u3 15 0) fun u4 =>
    f_Mod_settle_L2 k_ u4 q2.1
def f_Mod_settle (u : ST)  : Option (ST) :=
  f_Mod_settle_L2 200 u 1
set_option maxHeartbeats 4000000 in
set_option maxRecDepth 100000 in
theorem c_Mod_settle (l : Launch) (D : va_G) (ad : Nat → Nat) (cI cZ cT : ClassId) (v u : ST) (q : ST) (h : f_Mod_settle u = some q) : MX l D (tyC cI cZ cT) (wM ad cI cZ cT v) y_Mod_settle cd_Mod_settle 8 190 [.ref (ad 30)] u none q := by
  refine MX.start (by decide) (Nat.le_of_ble_eq_true rfl) ?_
  intro p e s m below meth c ls A hC hr hl hK hA hw
  have ⟨hx, hb, hml, hown, hT, hlk⟩ := hC
  have hl : lv_has ls 2 [(0, .ref (ad 30))] := hl
  have L2 : ∀ (k_ : Nat) (u : ST) (y1 : Int32) (ls : Array Slot) (H : Heap) (locs : List Loc), f_Mod_settle_L2 k_ u y1 = some q → lv_has ls 2 [(0, .ref (ad 30)), (1, .int y1)] → fw D A s.heap (wM ad cI cZ cT v u) H locs → WX (wM ad cI cZ cT v) p l e 8 190 s m [.ref (ad 30)] below meth c A D (tyC cI cZ cT) none q H locs (F0 m 2 ls []) := by
    intro k_
    induction k_ with
    | zero =>
      intro u y1 ls H locs h hl hw
      cases h
    | succ k_ ih =>
      intro u y1 ls H locs h hl hw
      rw [f_Mod_settle_L2] at h
      refine lv_iload_n hx hb d_Mod_settle_2 rfl (lv_at hl 1 rfl) ?_
      refine lv_if_eq (tgt := 24) hx hb d_Mod_settle_3 rfl (fun c1 => ?_) (fun c1 => ?_)
      · have h := br1 c1 h
        exact fx_retv hC hr hK hw h d_Mod_settle_24
      · have h := br0 c1 h
        refine lv_aload_n hx hb d_Mod_settle_6 rfl (lv_at hl 0 rfl) ?_
        refine fx_sVi (As := []) hC hl.1 (fun q hq => c_Mod_step l D ad cI cZ cT v u q hq) fy_Mod_step fv_Mod_step kw_633 ⟨Nat.le_of_ble_eq_true rfl, Nat.le_of_ble_eq_true rfl⟩ rfl hK hA hw at_M_30 rfl rfl rfl (Nat.le_of_ble_eq_true rfl) d_Mod_settle_7 ⟨Nat.le_refl _, Nat.le_refl _⟩ h (fun H locs q2 h hw => ?_)
        refine lv_istore_n (lv' := [(1, .int q2.1), (0, .ref (ad 30))]) hx hb d_Mod_settle_10 rfl hl (by decide) rfl (fun ls hl => ?_)
        refine lv_aload_n hx hb d_Mod_settle_11 rfl (lv_at hl 1 rfl) ?_
        refine lv_iconst (v := 0) hx hb d_Mod_settle_12 (by decide) ?_
        refine pf_M_30_heard hC hK hw (by decide) d_Mod_settle_13 h (fun H locs u3 h hw => ?_)
        refine lv_aload_n hx hb d_Mod_settle_16 rfl (lv_at hl 1 rfl) ?_
        refine lv_iconst (v := 0) hx hb d_Mod_settle_17 (by decide) ?_
        refine pf_M_30_invalid hC hK hw (by decide) d_Mod_settle_18 h (fun H locs u4 h hw => ?_)
        refine lv_goto (tgt := 2) hx hb d_Mod_settle_21 rfl ?_
        exact ih _ _ _ _ _ h (lv_sub hl [1, 0] rfl) hw
  rw [f_Mod_settle] at h
  refine lv_iconst (v := 1) hx hb d_Mod_settle_0 (by decide) ?_
  refine lv_istore_n (lv' := [(1, .int 1), (0, .ref (ad 30))]) hx hb d_Mod_settle_1 rfl hl (by decide) rfl (fun ls hl => ?_)
  exact L2 _ _ _ _ _ _ h (lv_sub hl [1, 0] rfl) hw
def f_Mod_hear (u : ST) (x1 : Int32) : Option (Int32 × ST) :=
  if x1 < 0 then
    some ((-1), u)
  else
  if x1 ≤ 255 then
    k_let (ss u 16 0) fun u3 =>
    k_let (ss u3 2 0) fun u4 =>
    k_let (ss u4 3 ((u4.1 3) + 1)) fun u5 =>
    k_let (ss u5 14 0) fun u6 =>
    k_let (ss u6 15 0) fun u7 =>
    k_bd (f_Mod_listen u7 x1) fun q8 =>
    k_bd (f_Mod_settle q8) fun q9 =>
    some ((q9.1 16), q9)
  else
  some ((-1), u)
set_option maxHeartbeats 4000000 in
set_option maxRecDepth 100000 in
theorem c_Mod_hear (l : Launch) (D : va_G) (ad : Nat → Nat) (cI cZ cT : ClassId) (v u : ST) (x1 : Int32) (q : Int32 × ST) (h : f_Mod_hear u x1 = some q) : MX l D (tyC cI cZ cT) (wM ad cI cZ cT v) y_Mod_hear cd_Mod_hear 9 211 [.ref (ad 30), .int x1] u (some (.int q.1)) q.2 := by
  refine MX.start (by decide) (Nat.le_of_ble_eq_true rfl) ?_
  intro p e s m below meth c ls A hC hr hl hK hA hw
  have ⟨hx, hb, hml, hown, hT, hlk⟩ := hC
  have hl : lv_has ls 2 [(0, .ref (ad 30)), (1, .int x1)] := hl
  rw [f_Mod_hear] at h
  refine lv_iload_n hx hb d_Mod_hear_0 rfl (lv_at hl 1 rfl) ?_
  refine lv_if_lt (tgt := 11) hx hb d_Mod_hear_1 rfl (fun c1 => ?_) (fun c1 => ?_)
  · have h := br1 c1 h
    refine lv_iconst (v := (-1)) hx hb d_Mod_hear_11 (by decide) ?_
    exact fx_retw hC hr rfl hK hw h d_Mod_hear_12
  · have h := br0 c1 h
    refine lv_iload_n hx hb d_Mod_hear_4 rfl (lv_at hl 1 rfl) ?_
    refine lv_sipush (v := 255) hx hb d_Mod_hear_5 (by decide) ?_
    refine lv_icmp_le (tgt := 13) hx hb d_Mod_hear_8 rfl (fun c2 => ?_) (fun c2 => ?_)
    · have h := br1 c2 h
      refine lv_aload_n hx hb d_Mod_hear_13 rfl (lv_at hl 0 rfl) ?_
      refine lv_iconst (v := 0) hx hb d_Mod_hear_14 (by decide) ?_
      refine pf_M_30_out hC hK hw d_Mod_hear_15 h (fun H locs u3 h hw => ?_)
      refine lv_aload_n hx hb d_Mod_hear_18 rfl (lv_at hl 0 rfl) ?_
      refine lv_iconst (v := 0) hx hb d_Mod_hear_19 (by decide) ?_
      refine pf_M_30_silence hC hK hw d_Mod_hear_20 h (fun H locs u4 h hw => ?_)
      refine lv_aload_n hx hb d_Mod_hear_23 rfl (lv_at hl 0 rfl) ?_
      refine lv_dup hx hb d_Mod_hear_24 rfl ?_
      refine gf_M_30_events hC hK hw d_Mod_hear_25 ?_
      refine lv_iconst (v := 1) hx hb d_Mod_hear_28 (by decide) ?_
      refine lv_iadd hx hb d_Mod_hear_29 ?_
      refine pf_M_30_events hC hK hw d_Mod_hear_30 h (fun H locs u5 h hw => ?_)
      refine lv_aload_n hx hb d_Mod_hear_33 rfl (lv_at hl 0 rfl) ?_
      refine lv_iconst (v := 0) hx hb d_Mod_hear_34 (by decide) ?_
      refine pf_M_30_heard hC hK hw (by decide) d_Mod_hear_35 h (fun H locs u6 h hw => ?_)
      refine lv_aload_n hx hb d_Mod_hear_38 rfl (lv_at hl 0 rfl) ?_
      refine lv_iconst (v := 0) hx hb d_Mod_hear_39 (by decide) ?_
      refine pf_M_30_invalid hC hK hw (by decide) d_Mod_hear_40 h (fun H locs u7 h hw => ?_)
      refine lv_aload_n hx hb d_Mod_hear_43 rfl (lv_at hl 0 rfl) ?_
      refine lv_iload_n hx hb d_Mod_hear_44 rfl (lv_at hl 1 rfl) ?_
      refine fx_sVv (As := [.int x1]) hC hl.1 (fun q hq => c_Mod_listen l D ad cI cZ cT v u7 x1 q hq) fy_Mod_listen fv_Mod_listen kw_605 ⟨Nat.le_of_ble_eq_true rfl, Nat.le_of_ble_eq_true rfl⟩ rfl hK hA hw at_M_30 rfl rfl rfl (Nat.le_of_ble_eq_true rfl) d_Mod_hear_45 ⟨Nat.le_refl _, Nat.le_refl _⟩ h (fun H locs q8 h hw => ?_)
      refine lv_aload_n hx hb d_Mod_hear_48 rfl (lv_at hl 0 rfl) ?_
      refine fx_sVv (As := []) hC hl.1 (fun q hq => c_Mod_settle l D ad cI cZ cT v q8 q hq) fy_Mod_settle fv_Mod_settle kw_629 ⟨Nat.le_of_ble_eq_true rfl, Nat.le_of_ble_eq_true rfl⟩ rfl hK hA hw at_M_30 rfl rfl rfl (Nat.le_of_ble_eq_true rfl) d_Mod_hear_49 ⟨Nat.le_refl _, Nat.le_refl _⟩ h (fun H locs q9 h hw => ?_)
      refine lv_aload_n hx hb d_Mod_hear_52 rfl (lv_at hl 0 rfl) ?_
      refine gf_M_30_out hC hK hw d_Mod_hear_53 ?_
      exact fx_retw hC hr rfl hK hw h d_Mod_hear_56
    · have h := br0 c2 h
      refine lv_iconst (v := (-1)) hx hb d_Mod_hear_11 (by decide) ?_
      exact fx_retw hC hr rfl hK hw h d_Mod_hear_12
def f_Mod_quiet_L20 : Nat → ST → Int32 → Int32 → Option (Int32 × ST)
  | 0, _, _, _ => none
  | k_ + 1, u, y1, y2 =>
    if y1 ≤ y2 then
      some ((u.1 16), u)
    else
    k_let (ss u 2 ((u.1 2) + 1)) fun u5 =>
    k_let (ss u5 14 0) fun u6 =>
    if (u6.1 2) = 4 then
      if (u6.1 10) ≤ 1 then
        k_let (ss u6 15 0) fun u15 =>
        if (u15.1 15) = 0 then
          k_let (ss u15 10 (u15.1 10)) fun u17 =>
          k_bd (f_Mod_settle u17) fun q18 =>
          f_Mod_quiet_L20 k_ q18 y1 (y2 + 1)
        else
        k_let (ss u15 10 0) fun u19 =>
        k_bd (f_Mod_settle u19) fun q20 =>
        f_Mod_quiet_L20 k_ q20 y1 (y2 + 1)
      else
      k_let (ss u6 15 1) fun u21 =>
      if (u21.1 15) = 0 then
        k_let (ss u21 10 (u21.1 10)) fun u23 =>
        k_bd (f_Mod_settle u23) fun q24 =>
        f_Mod_quiet_L20 k_ q24 y1 (y2 + 1)
      else
      k_let (ss u21 10 0) fun u25 =>
      k_bd (f_Mod_settle u25) fun q26 =>
      f_Mod_quiet_L20 k_ q26 y1 (y2 + 1)
    else
    k_let (ss u6 15 0) fun u8 =>
    if (u8.1 15) = 0 then
      k_let (ss u8 10 (u8.1 10)) fun u10 =>
      k_bd (f_Mod_settle u10) fun q11 =>
      f_Mod_quiet_L20 k_ q11 y1 (y2 + 1)
    else
    k_let (ss u8 10 0) fun u12 =>
    k_bd (f_Mod_settle u12) fun q13 =>
    f_Mod_quiet_L20 k_ q13 y1 (y2 + 1)
def f_Mod_quiet (u : ST) (x1 : Int32) : Option (Int32 × ST) :=
  if x1 < 1 then
    some ((-1), u)
  else
  if x1 ≤ 100 then
    k_let (ss u 16 0) fun u3 =>
    f_Mod_quiet_L20 200 u3 x1 0
  else
  some ((-1), u)
set_option maxHeartbeats 4000000 in
set_option maxRecDepth 100000 in
theorem c_Mod_quiet (l : Launch) (D : va_G) (ad : Nat → Nat) (cI cZ cT : ClassId) (v u : ST) (x1 : Int32) (q : Int32 × ST) (h : f_Mod_quiet u x1 = some q) : MX l D (tyC cI cZ cT) (wM ad cI cZ cT v) y_Mod_quiet cd_Mod_quiet 9 211 [.ref (ad 30), .int x1] u (some (.int q.1)) q.2 := by
  refine MX.start (by decide) (Nat.le_of_ble_eq_true rfl) ?_
  intro p e s m below meth c ls A hC hr hl hK hA hw
  have ⟨hx, hb, hml, hown, hT, hlk⟩ := hC
  have hl : lv_has ls 3 [(0, .ref (ad 30)), (1, .int x1)] := hl
  have L20 : ∀ (k_ : Nat) (u : ST) (y1 y2 : Int32) (ls : Array Slot) (H : Heap) (locs : List Loc), f_Mod_quiet_L20 k_ u y1 y2 = some q → lv_has ls 3 [(0, .ref (ad 30)), (1, .int y1), (2, .int y2)] → fw D A s.heap (wM ad cI cZ cT v u) H locs → WX (wM ad cI cZ cT v) p l e 9 211 s m [.ref (ad 30), .int x1] below meth c A D (tyC cI cZ cT) (some (.int q.1)) q.2 H locs (F0 m 20 ls []) := by
    intro k_
    induction k_ with
    | zero =>
      intro u y1 y2 ls H locs h hl hw
      cases h
    | succ k_ ih =>
      intro u y1 y2 ls H locs h hl hw
      rw [f_Mod_quiet_L20] at h
      refine lv_iload_n hx hb d_Mod_quiet_20 rfl (lv_at hl 2 rfl) ?_
      refine lv_iload_n hx hb d_Mod_quiet_21 rfl (lv_at hl 1 rfl) ?_
      refine lv_icmp_ge (tgt := 94) hx hb d_Mod_quiet_22 rfl (fun c4 => ?_) (fun c4 => ?_)
      · have h := br1 c4 h
        refine lv_aload_n hx hb d_Mod_quiet_94 rfl (lv_at hl 0 rfl) ?_
        refine gf_M_30_out hC hK hw d_Mod_quiet_95 ?_
        exact fx_retw hC hr rfl hK hw h d_Mod_quiet_98
      · have h := br0 c4 h
        refine lv_aload_n hx hb d_Mod_quiet_25 rfl (lv_at hl 0 rfl) ?_
        refine lv_dup hx hb d_Mod_quiet_26 rfl ?_
        refine gf_M_30_silence hC hK hw d_Mod_quiet_27 ?_
        refine lv_iconst (v := 1) hx hb d_Mod_quiet_30 (by decide) ?_
        refine lv_iadd hx hb d_Mod_quiet_31 ?_
        refine pf_M_30_silence hC hK hw d_Mod_quiet_32 h (fun H locs u5 h hw => ?_)
        refine lv_aload_n hx hb d_Mod_quiet_35 rfl (lv_at hl 0 rfl) ?_
        refine lv_iconst (v := 0) hx hb d_Mod_quiet_36 (by decide) ?_
        refine pf_M_30_heard hC hK hw (by decide) d_Mod_quiet_37 h (fun H locs u6 h hw => ?_)
        refine lv_aload_n hx hb d_Mod_quiet_40 rfl (lv_at hl 0 rfl) ?_
        refine lv_aload_n hx hb d_Mod_quiet_41 rfl (lv_at hl 0 rfl) ?_
        refine gf_M_30_silence hC hK hw d_Mod_quiet_42 ?_
        refine lv_iconst (v := 4) hx hb d_Mod_quiet_45 (by decide) ?_
        refine lv_icmp_ne (tgt := 61) hx hb d_Mod_quiet_46 rfl (fun c7 => ?_) (fun c7 => ?_)
        · have h := br0 c7 h
          refine lv_iconst (v := 0) hx hb d_Mod_quiet_61 (by decide) ?_
          refine pf_M_30_invalid hC hK hw (by decide) d_Mod_quiet_62 h (fun H locs u8 h hw => ?_)
          refine lv_aload_n hx hb d_Mod_quiet_65 rfl (lv_at hl 0 rfl) ?_
          refine lv_aload_n hx hb d_Mod_quiet_66 rfl (lv_at hl 0 rfl) ?_
          refine gf_M_30_invalid hC hK hw d_Mod_quiet_67 ?_
          refine lv_if_eq (tgt := 77) hx hb d_Mod_quiet_70 rfl (fun c9 => ?_) (fun c9 => ?_)
          · have h := br1 c9 h
            refine lv_aload_n hx hb d_Mod_quiet_77 rfl (lv_at hl 0 rfl) ?_
            refine gf_M_30_come hC hK hw d_Mod_quiet_78 ?_
            refine pf_M_30_come hC hK hw d_Mod_quiet_81 h (fun H locs u10 h hw => ?_)
            refine lv_aload_n hx hb d_Mod_quiet_84 rfl (lv_at hl 0 rfl) ?_
            refine fx_sVv (As := []) hC hl.1 (fun q hq => c_Mod_settle l D ad cI cZ cT v u10 q hq) fy_Mod_settle fv_Mod_settle kw_629 ⟨Nat.le_of_ble_eq_true rfl, Nat.le_of_ble_eq_true rfl⟩ rfl hK hA hw at_M_30 rfl rfl rfl (Nat.le_of_ble_eq_true rfl) d_Mod_quiet_85 ⟨Nat.le_refl _, Nat.le_refl _⟩ h (fun H locs q11 h hw => ?_)
            refine lv_iinc (k := 2) (v := (y2 + 1)) (lv' := [(2, .int (y2 + 1)), (0, .ref (ad 30)), (1, .int y1)]) hx hb d_Mod_quiet_88 hl rfl rfl (by decide) rfl (fun ls hl => ?_)
            refine lv_goto (tgt := 20) hx hb d_Mod_quiet_91 rfl ?_
            exact ih _ _ _ _ _ _ h (lv_sub hl [1, 2, 0] rfl) hw
          · have h := br0 c9 h
            refine lv_iconst (v := 0) hx hb d_Mod_quiet_73 (by decide) ?_
            refine lv_goto (tgt := 81) hx hb d_Mod_quiet_74 rfl ?_
            refine pf_M_30_come hC hK hw d_Mod_quiet_81 h (fun H locs u12 h hw => ?_)
            refine lv_aload_n hx hb d_Mod_quiet_84 rfl (lv_at hl 0 rfl) ?_
            refine fx_sVv (As := []) hC hl.1 (fun q hq => c_Mod_settle l D ad cI cZ cT v u12 q hq) fy_Mod_settle fv_Mod_settle kw_629 ⟨Nat.le_of_ble_eq_true rfl, Nat.le_of_ble_eq_true rfl⟩ rfl hK hA hw at_M_30 rfl rfl rfl (Nat.le_of_ble_eq_true rfl) d_Mod_quiet_85 ⟨Nat.le_refl _, Nat.le_refl _⟩ h (fun H locs q13 h hw => ?_)
            refine lv_iinc (k := 2) (v := (y2 + 1)) (lv' := [(2, .int (y2 + 1)), (0, .ref (ad 30)), (1, .int y1)]) hx hb d_Mod_quiet_88 hl rfl rfl (by decide) rfl (fun ls hl => ?_)
            refine lv_goto (tgt := 20) hx hb d_Mod_quiet_91 rfl ?_
            exact ih _ _ _ _ _ _ h (lv_sub hl [1, 2, 0] rfl) hw
        · have h := br1 c7 h
          refine lv_aload_n hx hb d_Mod_quiet_49 rfl (lv_at hl 0 rfl) ?_
          refine gf_M_30_come hC hK hw d_Mod_quiet_50 ?_
          refine lv_iconst (v := 1) hx hb d_Mod_quiet_53 (by decide) ?_
          refine lv_icmp_le (tgt := 61) hx hb d_Mod_quiet_54 rfl (fun c14 => ?_) (fun c14 => ?_)
          · have h := br1 c14 h
            refine lv_iconst (v := 0) hx hb d_Mod_quiet_61 (by decide) ?_
            refine pf_M_30_invalid hC hK hw (by decide) d_Mod_quiet_62 h (fun H locs u15 h hw => ?_)
            refine lv_aload_n hx hb d_Mod_quiet_65 rfl (lv_at hl 0 rfl) ?_
            refine lv_aload_n hx hb d_Mod_quiet_66 rfl (lv_at hl 0 rfl) ?_
            refine gf_M_30_invalid hC hK hw d_Mod_quiet_67 ?_
            refine lv_if_eq (tgt := 77) hx hb d_Mod_quiet_70 rfl (fun c16 => ?_) (fun c16 => ?_)
            · have h := br1 c16 h
              refine lv_aload_n hx hb d_Mod_quiet_77 rfl (lv_at hl 0 rfl) ?_
              refine gf_M_30_come hC hK hw d_Mod_quiet_78 ?_
              refine pf_M_30_come hC hK hw d_Mod_quiet_81 h (fun H locs u17 h hw => ?_)
              refine lv_aload_n hx hb d_Mod_quiet_84 rfl (lv_at hl 0 rfl) ?_
              refine fx_sVv (As := []) hC hl.1 (fun q hq => c_Mod_settle l D ad cI cZ cT v u17 q hq) fy_Mod_settle fv_Mod_settle kw_629 ⟨Nat.le_of_ble_eq_true rfl, Nat.le_of_ble_eq_true rfl⟩ rfl hK hA hw at_M_30 rfl rfl rfl (Nat.le_of_ble_eq_true rfl) d_Mod_quiet_85 ⟨Nat.le_refl _, Nat.le_refl _⟩ h (fun H locs q18 h hw => ?_)
              refine lv_iinc (k := 2) (v := (y2 + 1)) (lv' := [(2, .int (y2 + 1)), (0, .ref (ad 30)), (1, .int y1)]) hx hb d_Mod_quiet_88 hl rfl rfl (by decide) rfl (fun ls hl => ?_)
              refine lv_goto (tgt := 20) hx hb d_Mod_quiet_91 rfl ?_
              exact ih _ _ _ _ _ _ h (lv_sub hl [1, 2, 0] rfl) hw
            · have h := br0 c16 h
              refine lv_iconst (v := 0) hx hb d_Mod_quiet_73 (by decide) ?_
              refine lv_goto (tgt := 81) hx hb d_Mod_quiet_74 rfl ?_
              refine pf_M_30_come hC hK hw d_Mod_quiet_81 h (fun H locs u19 h hw => ?_)
              refine lv_aload_n hx hb d_Mod_quiet_84 rfl (lv_at hl 0 rfl) ?_
              refine fx_sVv (As := []) hC hl.1 (fun q hq => c_Mod_settle l D ad cI cZ cT v u19 q hq) fy_Mod_settle fv_Mod_settle kw_629 ⟨Nat.le_of_ble_eq_true rfl, Nat.le_of_ble_eq_true rfl⟩ rfl hK hA hw at_M_30 rfl rfl rfl (Nat.le_of_ble_eq_true rfl) d_Mod_quiet_85 ⟨Nat.le_refl _, Nat.le_refl _⟩ h (fun H locs q20 h hw => ?_)
              refine lv_iinc (k := 2) (v := (y2 + 1)) (lv' := [(2, .int (y2 + 1)), (0, .ref (ad 30)), (1, .int y1)]) hx hb d_Mod_quiet_88 hl rfl rfl (by decide) rfl (fun ls hl => ?_)
              refine lv_goto (tgt := 20) hx hb d_Mod_quiet_91 rfl ?_
              exact ih _ _ _ _ _ _ h (lv_sub hl [1, 2, 0] rfl) hw
          · have h := br0 c14 h
            refine lv_iconst (v := 1) hx hb d_Mod_quiet_57 (by decide) ?_
            refine lv_goto (tgt := 62) hx hb d_Mod_quiet_58 rfl ?_
            refine pf_M_30_invalid hC hK hw (by decide) d_Mod_quiet_62 h (fun H locs u21 h hw => ?_)
            refine lv_aload_n hx hb d_Mod_quiet_65 rfl (lv_at hl 0 rfl) ?_
            refine lv_aload_n hx hb d_Mod_quiet_66 rfl (lv_at hl 0 rfl) ?_
            refine gf_M_30_invalid hC hK hw d_Mod_quiet_67 ?_
            refine lv_if_eq (tgt := 77) hx hb d_Mod_quiet_70 rfl (fun c22 => ?_) (fun c22 => ?_)
            · have h := br1 c22 h
              refine lv_aload_n hx hb d_Mod_quiet_77 rfl (lv_at hl 0 rfl) ?_
              refine gf_M_30_come hC hK hw d_Mod_quiet_78 ?_
              refine pf_M_30_come hC hK hw d_Mod_quiet_81 h (fun H locs u23 h hw => ?_)
              refine lv_aload_n hx hb d_Mod_quiet_84 rfl (lv_at hl 0 rfl) ?_
              refine fx_sVv (As := []) hC hl.1 (fun q hq => c_Mod_settle l D ad cI cZ cT v u23 q hq) fy_Mod_settle fv_Mod_settle kw_629 ⟨Nat.le_of_ble_eq_true rfl, Nat.le_of_ble_eq_true rfl⟩ rfl hK hA hw at_M_30 rfl rfl rfl (Nat.le_of_ble_eq_true rfl) d_Mod_quiet_85 ⟨Nat.le_refl _, Nat.le_refl _⟩ h (fun H locs q24 h hw => ?_)
              refine lv_iinc (k := 2) (v := (y2 + 1)) (lv' := [(2, .int (y2 + 1)), (0, .ref (ad 30)), (1, .int y1)]) hx hb d_Mod_quiet_88 hl rfl rfl (by decide) rfl (fun ls hl => ?_)
              refine lv_goto (tgt := 20) hx hb d_Mod_quiet_91 rfl ?_
              exact ih _ _ _ _ _ _ h (lv_sub hl [1, 2, 0] rfl) hw
            · have h := br0 c22 h
              refine lv_iconst (v := 0) hx hb d_Mod_quiet_73 (by decide) ?_
              refine lv_goto (tgt := 81) hx hb d_Mod_quiet_74 rfl ?_
              refine pf_M_30_come hC hK hw d_Mod_quiet_81 h (fun H locs u25 h hw => ?_)
              refine lv_aload_n hx hb d_Mod_quiet_84 rfl (lv_at hl 0 rfl) ?_
              refine fx_sVv (As := []) hC hl.1 (fun q hq => c_Mod_settle l D ad cI cZ cT v u25 q hq) fy_Mod_settle fv_Mod_settle kw_629 ⟨Nat.le_of_ble_eq_true rfl, Nat.le_of_ble_eq_true rfl⟩ rfl hK hA hw at_M_30 rfl rfl rfl (Nat.le_of_ble_eq_true rfl) d_Mod_quiet_85 ⟨Nat.le_refl _, Nat.le_refl _⟩ h (fun H locs q26 h hw => ?_)
              refine lv_iinc (k := 2) (v := (y2 + 1)) (lv' := [(2, .int (y2 + 1)), (0, .ref (ad 30)), (1, .int y1)]) hx hb d_Mod_quiet_88 hl rfl rfl (by decide) rfl (fun ls hl => ?_)
              refine lv_goto (tgt := 20) hx hb d_Mod_quiet_91 rfl ?_
              exact ih _ _ _ _ _ _ h (lv_sub hl [1, 2, 0] rfl) hw
  rw [f_Mod_quiet] at h
  refine lv_iload_n hx hb d_Mod_quiet_0 rfl (lv_at hl 1 rfl) ?_
  refine lv_iconst (v := 1) hx hb d_Mod_quiet_1 (by decide) ?_
  refine lv_icmp_lt (tgt := 11) hx hb d_Mod_quiet_2 rfl (fun c1 => ?_) (fun c1 => ?_)
  · have h := br1 c1 h
    refine lv_iconst (v := (-1)) hx hb d_Mod_quiet_11 (by decide) ?_
    exact fx_retw hC hr rfl hK hw h d_Mod_quiet_12
  · have h := br0 c1 h
    refine lv_iload_n hx hb d_Mod_quiet_5 rfl (lv_at hl 1 rfl) ?_
    refine lv_bipush (v := 100) hx hb d_Mod_quiet_6 (by decide) ?_
    refine lv_icmp_le (tgt := 13) hx hb d_Mod_quiet_8 rfl (fun c2 => ?_) (fun c2 => ?_)
    · have h := br1 c2 h
      refine lv_aload_n hx hb d_Mod_quiet_13 rfl (lv_at hl 0 rfl) ?_
      refine lv_iconst (v := 0) hx hb d_Mod_quiet_14 (by decide) ?_
      refine pf_M_30_out hC hK hw d_Mod_quiet_15 h (fun H locs u3 h hw => ?_)
      refine lv_iconst (v := 0) hx hb d_Mod_quiet_18 (by decide) ?_
      refine lv_istore_n (lv' := [(2, .int 0), (0, .ref (ad 30)), (1, .int x1)]) hx hb d_Mod_quiet_19 rfl hl (by decide) rfl (fun ls hl => ?_)
      exact L20 _ _ _ _ _ _ _ h (lv_sub hl [1, 2, 0] rfl) hw
    · have h := br0 c2 h
      refine lv_iconst (v := (-1)) hx hb d_Mod_quiet_11 (by decide) ?_
      exact fx_retw hC hr rfl hK hw h d_Mod_quiet_12
def f_Mod_sent (u : ST) (x1 : Int32) : Option (Int32) :=
  if x1 < 0 then
    some (-1)
  else
  if (u.1 16) ≤ x1 then
    some (-1)
  else
  k_gd (inb x1 1024) (
  some (u.2 2 x1.toNatClampNeg))
set_option maxHeartbeats 4000000 in
set_option maxRecDepth 100000 in
theorem c_Mod_sent (l : Launch) (D : va_G) (ad : Nat → Nat) (cI cZ cT : ClassId) (v u : ST) (x1 : Int32) (q : Int32) (h : f_Mod_sent u x1 = some q) : MX l D (tyC cI cZ cT) (wM ad cI cZ cT v) y_Mod_sent cd_Mod_sent 0 0 [.ref (ad 30), .int x1] u (some (.int q)) u := by
  refine MX.start (by decide) (Nat.le_of_ble_eq_true rfl) ?_
  intro p e s m below meth c ls A hC hr hl hK hA hw
  have ⟨hx, hb, hml, hown, hT, hlk⟩ := hC
  have hl : lv_has ls 2 [(0, .ref (ad 30)), (1, .int x1)] := hl
  rw [f_Mod_sent] at h
  refine lv_iload_n hx hb d_Mod_sent_0 rfl (lv_at hl 1 rfl) ?_
  refine lv_if_lt (tgt := 21) hx hb d_Mod_sent_1 rfl (fun c1 => ?_) (fun c1 => ?_)
  · have h := br1 c1 h
    refine lv_iconst (v := (-1)) hx hb d_Mod_sent_21 (by decide) ?_
    exact fx_retr hC hr rfl hK hw h d_Mod_sent_22
  · have h := br0 c1 h
    refine lv_iload_n hx hb d_Mod_sent_4 rfl (lv_at hl 1 rfl) ?_
    refine lv_aload_n hx hb d_Mod_sent_5 rfl (lv_at hl 0 rfl) ?_
    refine gf_M_30_out hC hK hw d_Mod_sent_6 ?_
    refine lv_icmp_ge (tgt := 21) hx hb d_Mod_sent_9 rfl (fun c2 => ?_) (fun c2 => ?_)
    · have h := br1 c2 h
      refine lv_iconst (v := (-1)) hx hb d_Mod_sent_21 (by decide) ?_
      exact fx_retr hC hr rfl hK hw h d_Mod_sent_22
    · have h := br0 c2 h
      refine lv_aload_n hx hb d_Mod_sent_12 rfl (lv_at hl 0 rfl) ?_
      refine gf_M_30_sent hC hK hw d_Mod_sent_13 ?_
      refine lv_iload_n hx hb d_Mod_sent_16 rfl (lv_at hl 1 rfl) ?_
      refine al_M_33 hC hK hw d_Mod_sent_17 h (fun h => ?_)
      refine lv_goto (tgt := 22) hx hb d_Mod_sent_18 rfl ?_
      exact fx_retr hC hr rfl hK hw h d_Mod_sent_22
def f_Mod_ask_L143 : Nat → ST → Int32 → Int32 → Int32 → Option (Int32 × ST)
  | 0, _, _, _, _ => none
  | k_ + 1, u, y5, y6, y7 =>
    if 4 ≤ y7 then
      k_gd (inb 11 13) (
      k_let (rs u 5 (11 : Int32).toNatClampNeg 25) fun u22 =>
      k_gd (inb 12 13) (
      k_let (rs u22 5 (12 : Int32).toNatClampNeg y5) fun u23 =>
      some (1, u23)))
    else
    k_gd (inb (7 + y7) 13) (
    k_let (rs u 5 (7 + y7).toNatClampNeg ((us y6 (24 - (8 * y7))) &&& 255)) fun u24 =>
    f_Mod_ask_L143 k_ u24 y5 y6 (y7 + 1))
def f_Mod_ask (u : ST) (x1 x2 x3 x4 x5 : Int32) : Option (Int32 × ST) :=
  if x1 < 0 then
    some (0, u)
  else
  if (u.1 1) < x1 then
    some (0, u)
  else
  if x1 = (u.1 0) then
    some (0, u)
  else
  if x2 < 0 then
    some (0, u)
  else
  if 255 < x2 then
    some (0, u)
  else
  if x5 < 0 then
    some (0, u)
  else
  if 255 < x5 then
    some (0, u)
  else
  if x3 < 0 then
    some (0, u)
  else
  if 1023 < x3 then
    some (0, u)
  else
  if x4 < 0 then
    some (0, u)
  else
  if x4 ≤ 4194303 then
    k_let (ss u 22 1) fun u12 =>
    k_let (ss u12 23 x1) fun u13 =>
    k_gd (inb 0 13) (
    k_let (rs u13 5 (0 : Int32).toNatClampNeg 1) fun u14 =>
    k_gd (inb 1 13) (
    k_let (rs u14 5 (1 : Int32).toNatClampNeg 4) fun u15 =>
    k_gd (inb 2 13) (
    k_let (rs u15 5 (2 : Int32).toNatClampNeg 0) fun u16 =>
    k_gd (inb 3 13) (
    k_let (rs u16 5 (3 : Int32).toNatClampNeg 4) fun u17 =>
    k_gd (inb 4 13) (
    k_let (rs u17 5 (4 : Int32).toNatClampNeg x2) fun u18 =>
    k_gd (inb 5 13) (
    k_let (rs u18 5 (5 : Int32).toNatClampNeg 12) fun u19 =>
    k_gd (inb 6 13) (
    k_let (rs u19 5 (6 : Int32).toNatClampNeg 12) fun u20 =>
    f_Mod_ask_L143 200 u20 x5 ((x3 <<< (22 &&& 31)) ||| x4) 0)))))))
  else
  some (0, u)
set_option maxHeartbeats 4000000 in
set_option maxRecDepth 100000 in
theorem c_Mod_ask (l : Launch) (D : va_G) (ad : Nat → Nat) (cI cZ cT : ClassId) (v u : ST) (x1 x2 x3 x4 x5 : Int32) (q : Int32 × ST) (h : f_Mod_ask u x1 x2 x3 x4 x5 = some q) : MX l D (tyC cI cZ cT) (wM ad cI cZ cT v) y_Mod_ask cd_Mod_ask 0 0 [.ref (ad 30), .int x1, .int x2, .int x3, .int x4, .int x5] u (some (.int q.1)) q.2 := by
  refine MX.start (by decide) (Nat.le_of_ble_eq_true rfl) ?_
  intro p e s m below meth c ls A hC hr hl hK hA hw
  have ⟨hx, hb, hml, hown, hT, hlk⟩ := hC
  have hl : lv_has ls 8 [(0, .ref (ad 30)), (1, .int x1), (2, .int x2), (3, .int x3), (4, .int x4), (5, .int x5)] := hl
  have L143 : ∀ (k_ : Nat) (u : ST) (y5 y6 y7 : Int32) (ls : Array Slot) (H : Heap) (locs : List Loc), f_Mod_ask_L143 k_ u y5 y6 y7 = some q → lv_has ls 8 [(0, .ref (ad 30)), (5, .int y5), (6, .int y6), (7, .int y7)] → fw D A s.heap (wM ad cI cZ cT v u) H locs → WX (wM ad cI cZ cT v) p l e 0 0 s m [.ref (ad 30), .int x1, .int x2, .int x3, .int x4, .int x5] below meth c A D (tyC cI cZ cT) (some (.int q.1)) q.2 H locs (F0 m 143 ls []) := by
    intro k_
    induction k_ with
    | zero =>
      intro u y5 y6 y7 ls H locs h hl hw
      cases h
    | succ k_ ih =>
      intro u y5 y6 y7 ls H locs h hl hw
      rw [f_Mod_ask_L143] at h
      refine lv_iload hx hb d_Mod_ask_143 (lv_at hl 3 rfl) ?_
      refine lv_iconst (v := 4) hx hb d_Mod_ask_145 (by decide) ?_
      refine lv_icmp_ge (tgt := 180) hx hb d_Mod_ask_146 rfl (fun c21 => ?_) (fun c21 => ?_)
      · have h := br1 c21 h
        refine lv_aload_n hx hb d_Mod_ask_180 rfl (lv_at hl 0 rfl) ?_
        refine gf_M_30_request hC hK hw d_Mod_ask_181 ?_
        refine lv_bipush (v := 11) hx hb d_Mod_ask_184 (by decide) ?_
        refine lv_bipush (v := 25) hx hb d_Mod_ask_186 (by decide) ?_
        refine as_M_36 hC hK hw d_Mod_ask_188 h (fun H locs u22 h hw => ?_)
        refine lv_aload_n hx hb d_Mod_ask_189 rfl (lv_at hl 0 rfl) ?_
        refine gf_M_30_request hC hK hw d_Mod_ask_190 ?_
        refine lv_bipush (v := 12) hx hb d_Mod_ask_193 (by decide) ?_
        refine lv_iload hx hb d_Mod_ask_195 (lv_at hl 1 rfl) ?_
        refine as_M_36 hC hK hw d_Mod_ask_197 h (fun H locs u23 h hw => ?_)
        refine lv_iconst (v := 1) hx hb d_Mod_ask_198 (by decide) ?_
        exact fx_retw hC hr (by decide) hK hw h d_Mod_ask_199
      · have h := br0 c21 h
        refine lv_aload_n hx hb d_Mod_ask_149 rfl (lv_at hl 0 rfl) ?_
        refine gf_M_30_request hC hK hw d_Mod_ask_150 ?_
        refine lv_bipush (v := 7) hx hb d_Mod_ask_153 (by decide) ?_
        refine lv_iload hx hb d_Mod_ask_155 (lv_at hl 3 rfl) ?_
        refine lv_iadd hx hb d_Mod_ask_157 ?_
        refine lv_iload hx hb d_Mod_ask_158 (lv_at hl 2 rfl) ?_
        refine lv_bipush (v := 24) hx hb d_Mod_ask_160 (by decide) ?_
        refine lv_bipush (v := 8) hx hb d_Mod_ask_162 (by decide) ?_
        refine lv_iload hx hb d_Mod_ask_164 (lv_at hl 3 rfl) ?_
        refine lv_imul hx hb d_Mod_ask_166 ?_
        refine lv_isub hx hb d_Mod_ask_167 ?_
        refine lv_iushr (v := (us y6 (24 - (8 * y7)))) hx hb d_Mod_ask_168 rfl ?_
        refine lv_sipush (v := 255) hx hb d_Mod_ask_169 (by decide) ?_
        refine lv_iand hx hb d_Mod_ask_172 ?_
        refine as_M_36 hC hK hw d_Mod_ask_173 h (fun H locs u24 h hw => ?_)
        refine lv_iinc (k := 3) (v := (y7 + 1)) (lv' := [(7, .int (y7 + 1)), (0, .ref (ad 30)), (5, .int y5), (6, .int y6)]) hx hb d_Mod_ask_174 hl rfl rfl (by decide) rfl (fun ls hl => ?_)
        refine lv_goto (tgt := 143) hx hb d_Mod_ask_177 rfl ?_
        exact ih _ _ _ _ _ _ _ h (lv_sub hl [1, 2, 3, 0] rfl) hw
  rw [f_Mod_ask] at h
  refine lv_iload_n hx hb d_Mod_ask_0 rfl (lv_at hl 1 rfl) ?_
  refine lv_if_lt (tgt := 67) hx hb d_Mod_ask_1 rfl (fun c1 => ?_) (fun c1 => ?_)
  · have h := br1 c1 h
    refine lv_iconst (v := 0) hx hb d_Mod_ask_67 (by decide) ?_
    exact fx_retw hC hr (by decide) hK hw h d_Mod_ask_68
  · have h := br0 c1 h
    refine lv_iload_n hx hb d_Mod_ask_4 rfl (lv_at hl 1 rfl) ?_
    refine lv_aload_n hx hb d_Mod_ask_5 rfl (lv_at hl 0 rfl) ?_
    refine gf_M_30_most hC hK hw d_Mod_ask_6 ?_
    refine lv_icmp_gt (tgt := 67) hx hb d_Mod_ask_9 rfl (fun c2 => ?_) (fun c2 => ?_)
    · have h := br1 c2 h
      refine lv_iconst (v := 0) hx hb d_Mod_ask_67 (by decide) ?_
      exact fx_retw hC hr (by decide) hK hw h d_Mod_ask_68
    · have h := br0 c2 h
      refine lv_iload_n hx hb d_Mod_ask_12 rfl (lv_at hl 1 rfl) ?_
      refine lv_aload_n hx hb d_Mod_ask_13 rfl (lv_at hl 0 rfl) ?_
      refine gf_M_30_own hC hK hw d_Mod_ask_14 ?_
      refine lv_icmp_eq (tgt := 67) hx hb d_Mod_ask_17 rfl (fun c3 => ?_) (fun c3 => ?_)
      · have h := br1 c3 h
        refine lv_iconst (v := 0) hx hb d_Mod_ask_67 (by decide) ?_
        exact fx_retw hC hr (by decide) hK hw h d_Mod_ask_68
      · have h := br0 c3 h
        refine lv_iload_n hx hb d_Mod_ask_20 rfl (lv_at hl 2 rfl) ?_
        refine lv_if_lt (tgt := 67) hx hb d_Mod_ask_21 rfl (fun c4 => ?_) (fun c4 => ?_)
        · have h := br1 c4 h
          refine lv_iconst (v := 0) hx hb d_Mod_ask_67 (by decide) ?_
          exact fx_retw hC hr (by decide) hK hw h d_Mod_ask_68
        · have h := br0 c4 h
          refine lv_iload_n hx hb d_Mod_ask_24 rfl (lv_at hl 2 rfl) ?_
          refine lv_sipush (v := 255) hx hb d_Mod_ask_25 (by decide) ?_
          refine lv_icmp_gt (tgt := 67) hx hb d_Mod_ask_28 rfl (fun c5 => ?_) (fun c5 => ?_)
          · have h := br1 c5 h
            refine lv_iconst (v := 0) hx hb d_Mod_ask_67 (by decide) ?_
            exact fx_retw hC hr (by decide) hK hw h d_Mod_ask_68
          · have h := br0 c5 h
            refine lv_iload hx hb d_Mod_ask_31 (lv_at hl 5 rfl) ?_
            refine lv_if_lt (tgt := 67) hx hb d_Mod_ask_33 rfl (fun c6 => ?_) (fun c6 => ?_)
            · have h := br1 c6 h
              refine lv_iconst (v := 0) hx hb d_Mod_ask_67 (by decide) ?_
              exact fx_retw hC hr (by decide) hK hw h d_Mod_ask_68
            · have h := br0 c6 h
              refine lv_iload hx hb d_Mod_ask_36 (lv_at hl 5 rfl) ?_
              refine lv_sipush (v := 255) hx hb d_Mod_ask_38 (by decide) ?_
              refine lv_icmp_gt (tgt := 67) hx hb d_Mod_ask_41 rfl (fun c7 => ?_) (fun c7 => ?_)
              · have h := br1 c7 h
                refine lv_iconst (v := 0) hx hb d_Mod_ask_67 (by decide) ?_
                exact fx_retw hC hr (by decide) hK hw h d_Mod_ask_68
              · have h := br0 c7 h
                refine lv_iload_n hx hb d_Mod_ask_44 rfl (lv_at hl 3 rfl) ?_
                refine lv_if_lt (tgt := 67) hx hb d_Mod_ask_45 rfl (fun c8 => ?_) (fun c8 => ?_)
                · have h := br1 c8 h
                  refine lv_iconst (v := 0) hx hb d_Mod_ask_67 (by decide) ?_
                  exact fx_retw hC hr (by decide) hK hw h d_Mod_ask_68
                · have h := br0 c8 h
                  refine lv_iload_n hx hb d_Mod_ask_48 rfl (lv_at hl 3 rfl) ?_
                  refine lv_sipush (v := 1023) hx hb d_Mod_ask_49 (by decide) ?_
                  refine lv_icmp_gt (tgt := 67) hx hb d_Mod_ask_52 rfl (fun c9 => ?_) (fun c9 => ?_)
                  · have h := br1 c9 h
                    refine lv_iconst (v := 0) hx hb d_Mod_ask_67 (by decide) ?_
                    exact fx_retw hC hr (by decide) hK hw h d_Mod_ask_68
                  · have h := br0 c9 h
                    refine lv_iload hx hb d_Mod_ask_55 (lv_at hl 4 rfl) ?_
                    refine lv_if_lt (tgt := 67) hx hb d_Mod_ask_57 rfl (fun c10 => ?_) (fun c10 => ?_)
                    · have h := br1 c10 h
                      refine lv_iconst (v := 0) hx hb d_Mod_ask_67 (by decide) ?_
                      exact fx_retw hC hr (by decide) hK hw h d_Mod_ask_68
                    · have h := br0 c10 h
                      refine lv_iload hx hb d_Mod_ask_60 (lv_at hl 4 rfl) ?_
                      refine lv_ldc (v := 4194303) hx hb hown (hT _ kw_684) d_Mod_ask_62 ?_
                      refine lv_icmp_le (tgt := 69) hx hb d_Mod_ask_64 rfl (fun c11 => ?_) (fun c11 => ?_)
                      · have h := br1 c11 h
                        refine lv_aload_n hx hb d_Mod_ask_69 rfl (lv_at hl 0 rfl) ?_
                        refine lv_iconst (v := 1) hx hb d_Mod_ask_70 (by decide) ?_
                        refine pf_M_30_asks hC hK hw (by decide) d_Mod_ask_71 h (fun H locs u12 h hw => ?_)
                        refine lv_aload_n hx hb d_Mod_ask_74 rfl (lv_at hl 0 rfl) ?_
                        refine lv_iload_n hx hb d_Mod_ask_75 rfl (lv_at hl 1 rfl) ?_
                        refine pf_M_30_askTo hC hK hw d_Mod_ask_76 h (fun H locs u13 h hw => ?_)
                        refine lv_aload_n hx hb d_Mod_ask_79 rfl (lv_at hl 0 rfl) ?_
                        refine gf_M_30_request hC hK hw d_Mod_ask_80 ?_
                        refine lv_iconst (v := 0) hx hb d_Mod_ask_83 (by decide) ?_
                        refine lv_iconst (v := 1) hx hb d_Mod_ask_84 (by decide) ?_
                        refine as_M_36 hC hK hw d_Mod_ask_85 h (fun H locs u14 h hw => ?_)
                        refine lv_aload_n hx hb d_Mod_ask_86 rfl (lv_at hl 0 rfl) ?_
                        refine gf_M_30_request hC hK hw d_Mod_ask_87 ?_
                        refine lv_iconst (v := 1) hx hb d_Mod_ask_90 (by decide) ?_
                        refine lv_iconst (v := 4) hx hb d_Mod_ask_91 (by decide) ?_
                        refine as_M_36 hC hK hw d_Mod_ask_92 h (fun H locs u15 h hw => ?_)
                        refine lv_aload_n hx hb d_Mod_ask_93 rfl (lv_at hl 0 rfl) ?_
                        refine gf_M_30_request hC hK hw d_Mod_ask_94 ?_
                        refine lv_iconst (v := 2) hx hb d_Mod_ask_97 (by decide) ?_
                        refine lv_iconst (v := 0) hx hb d_Mod_ask_98 (by decide) ?_
                        refine as_M_36 hC hK hw d_Mod_ask_99 h (fun H locs u16 h hw => ?_)
                        refine lv_aload_n hx hb d_Mod_ask_100 rfl (lv_at hl 0 rfl) ?_
                        refine gf_M_30_request hC hK hw d_Mod_ask_101 ?_
                        refine lv_iconst (v := 3) hx hb d_Mod_ask_104 (by decide) ?_
                        refine lv_iconst (v := 4) hx hb d_Mod_ask_105 (by decide) ?_
                        refine as_M_36 hC hK hw d_Mod_ask_106 h (fun H locs u17 h hw => ?_)
                        refine lv_aload_n hx hb d_Mod_ask_107 rfl (lv_at hl 0 rfl) ?_
                        refine gf_M_30_request hC hK hw d_Mod_ask_108 ?_
                        refine lv_iconst (v := 4) hx hb d_Mod_ask_111 (by decide) ?_
                        refine lv_iload_n hx hb d_Mod_ask_112 rfl (lv_at hl 2 rfl) ?_
                        refine as_M_36 hC hK hw d_Mod_ask_113 h (fun H locs u18 h hw => ?_)
                        refine lv_aload_n hx hb d_Mod_ask_114 rfl (lv_at hl 0 rfl) ?_
                        refine gf_M_30_request hC hK hw d_Mod_ask_115 ?_
                        refine lv_iconst (v := 5) hx hb d_Mod_ask_118 (by decide) ?_
                        refine lv_bipush (v := 12) hx hb d_Mod_ask_119 (by decide) ?_
                        refine as_M_36 hC hK hw d_Mod_ask_121 h (fun H locs u19 h hw => ?_)
                        refine lv_aload_n hx hb d_Mod_ask_122 rfl (lv_at hl 0 rfl) ?_
                        refine gf_M_30_request hC hK hw d_Mod_ask_123 ?_
                        refine lv_bipush (v := 6) hx hb d_Mod_ask_126 (by decide) ?_
                        refine lv_bipush (v := 12) hx hb d_Mod_ask_128 (by decide) ?_
                        refine as_M_36 hC hK hw d_Mod_ask_130 h (fun H locs u20 h hw => ?_)
                        refine lv_iload_n hx hb d_Mod_ask_131 rfl (lv_at hl 3 rfl) ?_
                        refine lv_bipush (v := 22) hx hb d_Mod_ask_132 (by decide) ?_
                        refine lv_ishl hx hb d_Mod_ask_134 ?_
                        refine lv_iload hx hb d_Mod_ask_135 (lv_at hl 4 rfl) ?_
                        refine lv_ior hx hb d_Mod_ask_137 ?_
                        refine lv_istore (lv' := [(6, .int ((x3 <<< (22 &&& 31)) ||| x4)), (0, .ref (ad 30)), (1, .int x1), (2, .int x2), (3, .int x3), (4, .int x4), (5, .int x5)]) hx hb d_Mod_ask_138 hl (by decide) rfl (fun ls hl => ?_)
                        refine lv_iconst (v := 0) hx hb d_Mod_ask_140 (by decide) ?_
                        refine lv_istore (lv' := [(7, .int 0), (6, .int ((x3 <<< (22 &&& 31)) ||| x4)), (0, .ref (ad 30)), (1, .int x1), (2, .int x2), (3, .int x3), (4, .int x4), (5, .int x5)]) hx hb d_Mod_ask_141 hl (by decide) rfl (fun ls hl => ?_)
                        exact L143 _ _ _ _ _ _ _ _ h (lv_sub hl [2, 7, 1, 0] rfl) hw
                      · have h := br0 c11 h
                        refine lv_iconst (v := 0) hx hb d_Mod_ask_67 (by decide) ?_
                        exact fx_retw hC hr (by decide) hK hw h d_Mod_ask_68
def f_Mod_replied (u : ST)  : Option (Int32) :=
  some (u.1 20)
set_option maxHeartbeats 4000000 in
set_option maxRecDepth 100000 in
theorem c_Mod_replied (l : Launch) (D : va_G) (ad : Nat → Nat) (cI cZ cT : ClassId) (v u : ST) (q : Int32) (h : f_Mod_replied u = some q) : MX l D (tyC cI cZ cT) (wM ad cI cZ cT v) y_Mod_replied cd_Mod_replied 0 0 [.ref (ad 30)] u (some (.int q)) u := by
  refine MX.start (by decide) (Nat.le_of_ble_eq_true rfl) ?_
  intro p e s m below meth c ls A hC hr hl hK hA hw
  have ⟨hx, hb, hml, hown, hT, hlk⟩ := hC
  have hl : lv_has ls 1 [(0, .ref (ad 30))] := hl
  rw [f_Mod_replied] at h
  refine lv_aload_n hx hb d_Mod_replied_0 rfl (lv_at hl 0 rfl) ?_
  refine gf_M_30_replied hC hK hw d_Mod_replied_1 ?_
  exact fx_retr hC hr rfl hK hw h d_Mod_replied_4
def f_Mod_reply (u : ST) (x1 : Int32) : Option (Int32) :=
  if x1 < 0 then
    some (-1)
  else
  if (u.1 20) ≤ x1 then
    some (-1)
  else
  k_gd (inb x1 40) (
  some (u.2 4 x1.toNatClampNeg))
set_option maxHeartbeats 4000000 in
set_option maxRecDepth 100000 in
theorem c_Mod_reply (l : Launch) (D : va_G) (ad : Nat → Nat) (cI cZ cT : ClassId) (v u : ST) (x1 : Int32) (q : Int32) (h : f_Mod_reply u x1 = some q) : MX l D (tyC cI cZ cT) (wM ad cI cZ cT v) y_Mod_reply cd_Mod_reply 0 0 [.ref (ad 30), .int x1] u (some (.int q)) u := by
  refine MX.start (by decide) (Nat.le_of_ble_eq_true rfl) ?_
  intro p e s m below meth c ls A hC hr hl hK hA hw
  have ⟨hx, hb, hml, hown, hT, hlk⟩ := hC
  have hl : lv_has ls 2 [(0, .ref (ad 30)), (1, .int x1)] := hl
  rw [f_Mod_reply] at h
  refine lv_iload_n hx hb d_Mod_reply_0 rfl (lv_at hl 1 rfl) ?_
  refine lv_if_lt (tgt := 21) hx hb d_Mod_reply_1 rfl (fun c1 => ?_) (fun c1 => ?_)
  · have h := br1 c1 h
    refine lv_iconst (v := (-1)) hx hb d_Mod_reply_21 (by decide) ?_
    exact fx_retr hC hr rfl hK hw h d_Mod_reply_22
  · have h := br0 c1 h
    refine lv_iload_n hx hb d_Mod_reply_4 rfl (lv_at hl 1 rfl) ?_
    refine lv_aload_n hx hb d_Mod_reply_5 rfl (lv_at hl 0 rfl) ?_
    refine gf_M_30_replied hC hK hw d_Mod_reply_6 ?_
    refine lv_icmp_ge (tgt := 21) hx hb d_Mod_reply_9 rfl (fun c2 => ?_) (fun c2 => ?_)
    · have h := br1 c2 h
      refine lv_iconst (v := (-1)) hx hb d_Mod_reply_21 (by decide) ?_
      exact fx_retr hC hr rfl hK hw h d_Mod_reply_22
    · have h := br0 c2 h
      refine lv_aload_n hx hb d_Mod_reply_12 rfl (lv_at hl 0 rfl) ?_
      refine gf_M_30_reply hC hK hw d_Mod_reply_13 ?_
      refine lv_iload_n hx hb d_Mod_reply_16 rfl (lv_at hl 1 rfl) ?_
      refine al_M_35 hC hK hw d_Mod_reply_17 h (fun h => ?_)
      refine lv_goto (tgt := 22) hx hb d_Mod_reply_18 rfl ?_
      exact fx_retr hC hr rfl hK hw h d_Mod_reply_22
def f_Mod_state (u : ST)  : Option (Int32) :=
  if (u.1 9) = 0 then
    if (u.1 22) = 0 then
      some (((((u.1 4) + (8 * (u.1 5))) + (128 * (u.1 6))) + 0) + 0)
    else
    some (((((u.1 4) + (8 * (u.1 5))) + (128 * (u.1 6))) + 0) + 4096)
  else
  if (u.1 22) = 0 then
    some (((((u.1 4) + (8 * (u.1 5))) + (128 * (u.1 6))) + 2048) + 0)
  else
  some (((((u.1 4) + (8 * (u.1 5))) + (128 * (u.1 6))) + 2048) + 4096)
set_option maxHeartbeats 4000000 in
set_option maxRecDepth 100000 in
theorem c_Mod_state (l : Launch) (D : va_G) (ad : Nat → Nat) (cI cZ cT : ClassId) (v u : ST) (q : Int32) (h : f_Mod_state u = some q) : MX l D (tyC cI cZ cT) (wM ad cI cZ cT v) y_Mod_state cd_Mod_state 0 0 [.ref (ad 30)] u (some (.int q)) u := by
  refine MX.start (by decide) (Nat.le_of_ble_eq_true rfl) ?_
  intro p e s m below meth c ls A hC hr hl hK hA hw
  have ⟨hx, hb, hml, hown, hT, hlk⟩ := hC
  have hl : lv_has ls 1 [(0, .ref (ad 30))] := hl
  rw [f_Mod_state] at h
  refine lv_aload_n hx hb d_Mod_state_0 rfl (lv_at hl 0 rfl) ?_
  refine gf_M_30_state hC hK hw d_Mod_state_1 ?_
  refine lv_bipush (v := 8) hx hb d_Mod_state_4 (by decide) ?_
  refine lv_aload_n hx hb d_Mod_state_6 rfl (lv_at hl 0 rfl) ?_
  refine gf_M_30_next hC hK hw d_Mod_state_7 ?_
  refine lv_imul hx hb d_Mod_state_10 ?_
  refine lv_iadd hx hb d_Mod_state_11 ?_
  refine lv_sipush (v := 128) hx hb d_Mod_state_12 (by decide) ?_
  refine lv_aload_n hx hb d_Mod_state_15 rfl (lv_at hl 0 rfl) ?_
  refine gf_M_30_polled hC hK hw d_Mod_state_16 ?_
  refine lv_imul hx hb d_Mod_state_19 ?_
  refine lv_iadd hx hb d_Mod_state_20 ?_
  refine lv_aload_n hx hb d_Mod_state_21 rfl (lv_at hl 0 rfl) ?_
  refine gf_M_30_sole hC hK hw d_Mod_state_22 ?_
  refine lv_if_eq (tgt := 34) hx hb d_Mod_state_25 rfl (fun c1 => ?_) (fun c1 => ?_)
  · have h := br1 c1 h
    refine lv_iconst (v := 0) hx hb d_Mod_state_34 (by decide) ?_
    refine lv_iadd hx hb d_Mod_state_35 ?_
    refine lv_aload_n hx hb d_Mod_state_36 rfl (lv_at hl 0 rfl) ?_
    refine gf_M_30_asks hC hK hw d_Mod_state_37 ?_
    refine lv_if_eq (tgt := 49) hx hb d_Mod_state_40 rfl (fun c2 => ?_) (fun c2 => ?_)
    · have h := br1 c2 h
      refine lv_iconst (v := 0) hx hb d_Mod_state_49 (by decide) ?_
      refine lv_iadd hx hb d_Mod_state_50 ?_
      exact fx_retr hC hr rfl hK hw h d_Mod_state_51
    · have h := br0 c2 h
      refine lv_sipush (v := 4096) hx hb d_Mod_state_43 (by decide) ?_
      refine lv_goto (tgt := 50) hx hb d_Mod_state_46 rfl ?_
      refine lv_iadd hx hb d_Mod_state_50 ?_
      exact fx_retr hC hr rfl hK hw h d_Mod_state_51
  · have h := br0 c1 h
    refine lv_sipush (v := 2048) hx hb d_Mod_state_28 (by decide) ?_
    refine lv_goto (tgt := 35) hx hb d_Mod_state_31 rfl ?_
    refine lv_iadd hx hb d_Mod_state_35 ?_
    refine lv_aload_n hx hb d_Mod_state_36 rfl (lv_at hl 0 rfl) ?_
    refine gf_M_30_asks hC hK hw d_Mod_state_37 ?_
    refine lv_if_eq (tgt := 49) hx hb d_Mod_state_40 rfl (fun c3 => ?_) (fun c3 => ?_)
    · have h := br1 c3 h
      refine lv_iconst (v := 0) hx hb d_Mod_state_49 (by decide) ?_
      refine lv_iadd hx hb d_Mod_state_50 ?_
      exact fx_retr hC hr rfl hK hw h d_Mod_state_51
    · have h := br0 c3 h
      refine lv_sipush (v := 4096) hx hb d_Mod_state_43 (by decide) ?_
      refine lv_goto (tgt := 50) hx hb d_Mod_state_46 rfl ?_
      refine lv_iadd hx hb d_Mod_state_50 ?_
      exact fx_retr hC hr rfl hK hw h d_Mod_state_51
def f_Mod_silence (u : ST)  : Option (Int32) :=
  if (u.1 2) ≤ 1000 then
    some (u.1 2)
  else
  some 1000
set_option maxHeartbeats 4000000 in
set_option maxRecDepth 100000 in
theorem c_Mod_silence (l : Launch) (D : va_G) (ad : Nat → Nat) (cI cZ cT : ClassId) (v u : ST) (q : Int32) (h : f_Mod_silence u = some q) : MX l D (tyC cI cZ cT) (wM ad cI cZ cT v) y_Mod_silence cd_Mod_silence 0 0 [.ref (ad 30)] u (some (.int q)) u := by
  refine MX.start (by decide) (Nat.le_of_ble_eq_true rfl) ?_
  intro p e s m below meth c ls A hC hr hl hK hA hw
  have ⟨hx, hb, hml, hown, hT, hlk⟩ := hC
  have hl : lv_has ls 1 [(0, .ref (ad 30))] := hl
  rw [f_Mod_silence] at h
  refine lv_aload_n hx hb d_Mod_silence_0 rfl (lv_at hl 0 rfl) ?_
  refine gf_M_30_silence hC hK hw d_Mod_silence_1 ?_
  refine lv_sipush (v := 1000) hx hb d_Mod_silence_4 (by decide) ?_
  refine lv_icmp_le (tgt := 16) hx hb d_Mod_silence_7 rfl (fun c1 => ?_) (fun c1 => ?_)
  · have h := br1 c1 h
    refine lv_aload_n hx hb d_Mod_silence_16 rfl (lv_at hl 0 rfl) ?_
    refine gf_M_30_silence hC hK hw d_Mod_silence_17 ?_
    exact fx_retr hC hr rfl hK hw h d_Mod_silence_20
  · have h := br0 c1 h
    refine lv_sipush (v := 1000) hx hb d_Mod_silence_10 (by decide) ?_
    refine lv_goto (tgt := 20) hx hb d_Mod_silence_13 rfl ?_
    exact fx_retr hC hr rfl hK hw h d_Mod_silence_20
def f_Mod_set_J49 (u : ST) (y1 y2 y3 y4 : Int32) : Option (Int32 × ST) :=
  k_gd (inb ((17 * y1) + y2) 68) (
  k_let (rs u 6 ((17 * y1) + y2).toNatClampNeg y3) fun u7 =>
  if y4 = 0 then
    k_gd (inb ((17 * y1) + y2) 68) (
    k_let (rs u7 7 ((17 * y1) + y2).toNatClampNeg 1) fun u10 =>
    some (1, u10))
  else
  k_gd (inb ((17 * y1) + y2) 68) (
  k_let (rs u7 7 ((17 * y1) + y2).toNatClampNeg 0) fun u9 =>
  some (1, u9)))
def f_Mod_set_J28 (u : ST) (y1 y2 y3 y4 : Int32) : Option (Int32 × ST) :=
  if y4 = 0 then
    if y1 ≤ 1 then
      f_Mod_set_J49 u y1 y2 y3 y4
    else
    if y3 = 0 then
      f_Mod_set_J49 u y1 y2 y3 y4
    else
    if y3 = 1 then
      f_Mod_set_J49 u y1 y2 y3 y4
    else
    some (0, u)
  else
  f_Mod_set_J49 u y1 y2 y3 y4
def f_Mod_set (u : ST) (x1 x2 x3 x4 : Int32) : Option (Int32 × ST) :=
  if x1 < 0 then
    some (0, u)
  else
  if 3 < x1 then
    some (0, u)
  else
  if x2 < 0 then
    some (0, u)
  else
  if 16 < x2 then
    some (0, u)
  else
  if x2 = 0 then
    if x4 = 0 then
      f_Mod_set_J28 u x1 x2 x3 x4
    else
    some (0, u)
  else
  f_Mod_set_J28 u x1 x2 x3 x4
set_option maxHeartbeats 4000000 in
set_option maxRecDepth 100000 in
theorem c_Mod_set (l : Launch) (D : va_G) (ad : Nat → Nat) (cI cZ cT : ClassId) (v u : ST) (x1 x2 x3 x4 : Int32) (q : Int32 × ST) (h : f_Mod_set u x1 x2 x3 x4 = some q) : MX l D (tyC cI cZ cT) (wM ad cI cZ cT v) y_Mod_set cd_Mod_set 0 0 [.ref (ad 30), .int x1, .int x2, .int x3, .int x4] u (some (.int q.1)) q.2 := by
  refine MX.start (by decide) (Nat.le_of_ble_eq_true rfl) ?_
  intro p e s m below meth c ls A hC hr hl hK hA hw
  have ⟨hx, hb, hml, hown, hT, hlk⟩ := hC
  have hl : lv_has ls 5 [(0, .ref (ad 30)), (1, .int x1), (2, .int x2), (3, .int x3), (4, .int x4)] := hl
  have J49 : ∀ (u : ST) (y1 y2 y3 y4 : Int32) (ls : Array Slot) (H : Heap) (locs : List Loc), f_Mod_set_J49 u y1 y2 y3 y4 = some q → lv_has ls 5 [(0, .ref (ad 30)), (1, .int y1), (2, .int y2), (3, .int y3), (4, .int y4)] → fw D A s.heap (wM ad cI cZ cT v u) H locs → WX (wM ad cI cZ cT v) p l e 0 0 s m [.ref (ad 30), .int x1, .int x2, .int x3, .int x4] below meth c A D (tyC cI cZ cT) (some (.int q.1)) q.2 H locs (F0 m 49 ls []) := by
    intro u y1 y2 y3 y4 ls H locs h hl hw
    rw [f_Mod_set_J49] at h
    refine lv_aload_n hx hb d_Mod_set_49 rfl (lv_at hl 0 rfl) ?_
    refine gf_M_30_values hC hK hw d_Mod_set_50 ?_
    refine lv_bipush (v := 17) hx hb d_Mod_set_53 (by decide) ?_
    refine lv_iload_n hx hb d_Mod_set_55 rfl (lv_at hl 1 rfl) ?_
    refine lv_imul hx hb d_Mod_set_56 ?_
    refine lv_iload_n hx hb d_Mod_set_57 rfl (lv_at hl 2 rfl) ?_
    refine lv_iadd hx hb d_Mod_set_58 ?_
    refine lv_iload_n hx hb d_Mod_set_59 rfl (lv_at hl 3 rfl) ?_
    refine as_M_37 hC hK hw d_Mod_set_60 h (fun H locs u7 h hw => ?_)
    refine lv_aload_n hx hb d_Mod_set_61 rfl (lv_at hl 0 rfl) ?_
    refine gf_M_30_given hC hK hw d_Mod_set_62 ?_
    refine lv_bipush (v := 17) hx hb d_Mod_set_65 (by decide) ?_
    refine lv_iload_n hx hb d_Mod_set_67 rfl (lv_at hl 1 rfl) ?_
    refine lv_imul hx hb d_Mod_set_68 ?_
    refine lv_iload_n hx hb d_Mod_set_69 rfl (lv_at hl 2 rfl) ?_
    refine lv_iadd hx hb d_Mod_set_70 ?_
    refine lv_iload hx hb d_Mod_set_71 (lv_at hl 4 rfl) ?_
    refine lv_if_ne (tgt := 80) hx hb d_Mod_set_73 rfl (fun c8 => ?_) (fun c8 => ?_)
    · have h := br0 c8 h
      refine lv_iconst (v := 0) hx hb d_Mod_set_80 (by decide) ?_
      refine as_M_38 hC hK hw (by decide) d_Mod_set_81 h (fun H locs u9 h hw => ?_)
      refine lv_iconst (v := 1) hx hb d_Mod_set_82 (by decide) ?_
      exact fx_retw hC hr (by decide) hK hw h d_Mod_set_83
    · have h := br1 c8 h
      refine lv_iconst (v := 1) hx hb d_Mod_set_76 (by decide) ?_
      refine lv_goto (tgt := 81) hx hb d_Mod_set_77 rfl ?_
      refine as_M_38 hC hK hw (by decide) d_Mod_set_81 h (fun H locs u10 h hw => ?_)
      refine lv_iconst (v := 1) hx hb d_Mod_set_82 (by decide) ?_
      exact fx_retw hC hr (by decide) hK hw h d_Mod_set_83
  have J28 : ∀ (u : ST) (y1 y2 y3 y4 : Int32) (ls : Array Slot) (H : Heap) (locs : List Loc), f_Mod_set_J28 u y1 y2 y3 y4 = some q → lv_has ls 5 [(0, .ref (ad 30)), (1, .int y1), (2, .int y2), (3, .int y3), (4, .int y4)] → fw D A s.heap (wM ad cI cZ cT v u) H locs → WX (wM ad cI cZ cT v) p l e 0 0 s m [.ref (ad 30), .int x1, .int x2, .int x3, .int x4] below meth c A D (tyC cI cZ cT) (some (.int q.1)) q.2 H locs (F0 m 28 ls []) := by
    intro u y1 y2 y3 y4 ls H locs h hl hw
    rw [f_Mod_set_J28] at h
    refine lv_iload hx hb d_Mod_set_28 (lv_at hl 4 rfl) ?_
    refine lv_if_ne (tgt := 49) hx hb d_Mod_set_30 rfl (fun c6 => ?_) (fun c6 => ?_)
    · have h := br0 c6 h
      exact J49 _ _ _ _ _ _ _ _ h (lv_sub hl [0, 1, 2, 3, 4] rfl) hw
    · have h := br1 c6 h
      refine lv_iload_n hx hb d_Mod_set_33 rfl (lv_at hl 1 rfl) ?_
      refine lv_iconst (v := 1) hx hb d_Mod_set_34 (by decide) ?_
      refine lv_icmp_le (tgt := 49) hx hb d_Mod_set_35 rfl (fun c11 => ?_) (fun c11 => ?_)
      · have h := br1 c11 h
        exact J49 _ _ _ _ _ _ _ _ h (lv_sub hl [0, 1, 2, 3, 4] rfl) hw
      · have h := br0 c11 h
        refine lv_iload_n hx hb d_Mod_set_38 rfl (lv_at hl 3 rfl) ?_
        refine lv_if_eq (tgt := 49) hx hb d_Mod_set_39 rfl (fun c12 => ?_) (fun c12 => ?_)
        · have h := br1 c12 h
          exact J49 _ _ _ _ _ _ _ _ h (lv_sub hl [0, 1, 2, 3, 4] rfl) hw
        · have h := br0 c12 h
          refine lv_iload_n hx hb d_Mod_set_42 rfl (lv_at hl 3 rfl) ?_
          refine lv_iconst (v := 1) hx hb d_Mod_set_43 (by decide) ?_
          refine lv_icmp_eq (tgt := 49) hx hb d_Mod_set_44 rfl (fun c13 => ?_) (fun c13 => ?_)
          · have h := br1 c13 h
            exact J49 _ _ _ _ _ _ _ _ h (lv_sub hl [0, 1, 2, 3, 4] rfl) hw
          · have h := br0 c13 h
            refine lv_iconst (v := 0) hx hb d_Mod_set_47 (by decide) ?_
            exact fx_retw hC hr (by decide) hK hw h d_Mod_set_48
  rw [f_Mod_set] at h
  refine lv_iload_n hx hb d_Mod_set_0 rfl (lv_at hl 1 rfl) ?_
  refine lv_if_lt (tgt := 47) hx hb d_Mod_set_1 rfl (fun c1 => ?_) (fun c1 => ?_)
  · have h := br1 c1 h
    refine lv_iconst (v := 0) hx hb d_Mod_set_47 (by decide) ?_
    exact fx_retw hC hr (by decide) hK hw h d_Mod_set_48
  · have h := br0 c1 h
    refine lv_iload_n hx hb d_Mod_set_4 rfl (lv_at hl 1 rfl) ?_
    refine lv_iconst (v := 3) hx hb d_Mod_set_5 (by decide) ?_
    refine lv_icmp_gt (tgt := 47) hx hb d_Mod_set_6 rfl (fun c2 => ?_) (fun c2 => ?_)
    · have h := br1 c2 h
      refine lv_iconst (v := 0) hx hb d_Mod_set_47 (by decide) ?_
      exact fx_retw hC hr (by decide) hK hw h d_Mod_set_48
    · have h := br0 c2 h
      refine lv_iload_n hx hb d_Mod_set_9 rfl (lv_at hl 2 rfl) ?_
      refine lv_if_lt (tgt := 47) hx hb d_Mod_set_10 rfl (fun c3 => ?_) (fun c3 => ?_)
      · have h := br1 c3 h
        refine lv_iconst (v := 0) hx hb d_Mod_set_47 (by decide) ?_
        exact fx_retw hC hr (by decide) hK hw h d_Mod_set_48
      · have h := br0 c3 h
        refine lv_iload_n hx hb d_Mod_set_13 rfl (lv_at hl 2 rfl) ?_
        refine lv_bipush (v := 16) hx hb d_Mod_set_14 (by decide) ?_
        refine lv_icmp_gt (tgt := 47) hx hb d_Mod_set_16 rfl (fun c4 => ?_) (fun c4 => ?_)
        · have h := br1 c4 h
          refine lv_iconst (v := 0) hx hb d_Mod_set_47 (by decide) ?_
          exact fx_retw hC hr (by decide) hK hw h d_Mod_set_48
        · have h := br0 c4 h
          refine lv_iload_n hx hb d_Mod_set_19 rfl (lv_at hl 2 rfl) ?_
          refine lv_if_ne (tgt := 28) hx hb d_Mod_set_20 rfl (fun c5 => ?_) (fun c5 => ?_)
          · have h := br0 c5 h
            exact J28 _ _ _ _ _ _ _ _ h (lv_sub hl [0, 1, 2, 3, 4] rfl) hw
          · have h := br1 c5 h
            refine lv_iload hx hb d_Mod_set_23 (lv_at hl 4 rfl) ?_
            refine lv_if_ne (tgt := 47) hx hb d_Mod_set_25 rfl (fun c14 => ?_) (fun c14 => ?_)
            · have h := br0 c14 h
              refine lv_iconst (v := 0) hx hb d_Mod_set_47 (by decide) ?_
              exact fx_retw hC hr (by decide) hK hw h d_Mod_set_48
            · have h := br1 c14 h
              exact J28 _ _ _ _ _ _ _ _ h (lv_sub hl [0, 1, 2, 3, 4] rfl) hw
def f_Mod_present (u : ST) (x1 : Int32) : Option (Int32) :=
  if x1 < 0 then
    some 0
  else
  if 4 ≤ x1 then
    some 0
  else
  k_bd (f_Mod_presentOf u x1) fun q3 =>
  some q3
set_option maxHeartbeats 4000000 in
set_option maxRecDepth 100000 in
theorem c_Mod_present (l : Launch) (D : va_G) (ad : Nat → Nat) (cI cZ cT : ClassId) (v u : ST) (x1 : Int32) (q : Int32) (h : f_Mod_present u x1 = some q) : MX l D (tyC cI cZ cT) (wM ad cI cZ cT v) y_Mod_present cd_Mod_present 1 23 [.ref (ad 30), .int x1] u (some (.int q)) u := by
  refine MX.start (by decide) (Nat.le_of_ble_eq_true rfl) ?_
  intro p e s m below meth c ls A hC hr hl hK hA hw
  have ⟨hx, hb, hml, hown, hT, hlk⟩ := hC
  have hl : lv_has ls 2 [(0, .ref (ad 30)), (1, .int x1)] := hl
  rw [f_Mod_present] at h
  refine lv_iload_n hx hb d_Mod_present_0 rfl (lv_at hl 1 rfl) ?_
  refine lv_if_lt (tgt := 17) hx hb d_Mod_present_1 rfl (fun c1 => ?_) (fun c1 => ?_)
  · have h := br1 c1 h
    refine lv_iconst (v := 0) hx hb d_Mod_present_17 (by decide) ?_
    exact fx_retr hC hr rfl hK hw h d_Mod_present_18
  · have h := br0 c1 h
    refine lv_iload_n hx hb d_Mod_present_4 rfl (lv_at hl 1 rfl) ?_
    refine lv_iconst (v := 4) hx hb d_Mod_present_5 (by decide) ?_
    refine lv_icmp_ge (tgt := 17) hx hb d_Mod_present_6 rfl (fun c2 => ?_) (fun c2 => ?_)
    · have h := br1 c2 h
      refine lv_iconst (v := 0) hx hb d_Mod_present_17 (by decide) ?_
      exact fx_retr hC hr rfl hK hw h d_Mod_present_18
    · have h := br0 c2 h
      refine lv_aload_n hx hb d_Mod_present_9 rfl (lv_at hl 0 rfl) ?_
      refine lv_iload_n hx hb d_Mod_present_10 rfl (lv_at hl 1 rfl) ?_
      refine fx_sVr (As := [.int x1]) hC hl.1 (fun q hq => c_Mod_presentOf l D ad cI cZ cT v u x1 q hq) fy_Mod_presentOf fv_Mod_presentOf kw_696 ⟨Nat.le_of_ble_eq_true rfl, Nat.le_of_ble_eq_true rfl⟩ rfl hK hA hw at_M_30 rfl rfl rfl (Nat.le_of_ble_eq_true rfl) d_Mod_present_11 ⟨Nat.le_refl _, Nat.le_refl _⟩ h (fun H locs q3 h hw => ?_)
      refine lv_goto (tgt := 18) hx hb d_Mod_present_14 rfl ?_
      exact fx_retr hC hr rfl hK hw h d_Mod_present_18
