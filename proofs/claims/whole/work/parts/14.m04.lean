def f_Mod_awaits_J77 (u : ST) (y1 : Int32) : Option (Int32 × ST) :=
  if y1 = 0 then
    k_let (ss u 4 0) fun u9 =>
    some (1, u9)
  else
  k_gd (inb 0 6) (
  if (u.2 0 (0 : Int32).toNatClampNeg) = 6 then
    k_let (ss u 4 3) fun u11 =>
    some (1, u11)
  else
  k_gd (inb 0 6) (
  if (u.2 0 (0 : Int32).toNatClampNeg) = 4 then
    k_let (ss u 4 3) fun u13 =>
    some (1, u13)
  else
  k_gd (inb 0 6) (
  if (u.2 0 (0 : Int32).toNatClampNeg) = 7 then
    k_let (ss u 4 3) fun u16 =>
    some (1, u16)
  else
  k_let (ss u 4 0) fun u15 =>
  some (1, u15))))
def f_Mod_awaits_L43 : Nat → ST → Int32 → Int32 → Option (Int32 × ST)
  | 0, _, _, _ => none
  | k_ + 1, u, y1, y2 =>
    if (u.1 13) ≤ y2 then
      k_let (ss u 20 (u.1 13)) fun u19 =>
      f_Mod_awaits_J77 u19 y1
    else
    k_gd (inb y2 42) (
    k_gd (inb y2 40) (
    k_let (rs u 4 y2.toNatClampNeg (u.2 1 y2.toNatClampNeg)) fun u20 =>
    f_Mod_awaits_L43 k_ u20 y1 (y2 + 1)))
def f_Mod_awaits_J25 (u : ST) (s0 : Int32) : Option (Int32 × ST) :=
  if s0 = 0 then
    f_Mod_awaits_J77 u s0
  else
  k_gd (inb 0 6) (
  if (u.2 0 (0 : Int32).toNatClampNeg) = 6 then
    f_Mod_awaits_L43 200 u s0 0
  else
  f_Mod_awaits_J77 u s0)
def f_Mod_awaits (u : ST)  : Option (Int32 × ST) :=
  if (u.1 14) = 0 then
    if (u.1 15) = 0 then
      if 255 ≤ (u.1 2) then
        k_let (ss u 4 3) fun u5 =>
        some (1, u5)
      else
      some (0, u)
    else
    k_let (ss u 4 3) fun u3 =>
    some (1, u3)
  else
  k_gd (inb 1 6) (
  if (u.2 0 (1 : Int32).toNatClampNeg) = (u.1 0) then
    f_Mod_awaits_J25 u 1
  else
  f_Mod_awaits_J25 u 0)
set_option maxHeartbeats 4000000 in
set_option maxRecDepth 100000 in
theorem c_Mod_awaits (l : Launch) (D : va_G) (ad : Nat → Nat) (cI cZ cT : ClassId) (v u : ST) (q : Int32 × ST) (h : f_Mod_awaits u = some q) : MX l D (tyC cI cZ cT) (wM ad cI cZ cT v) y_Mod_awaits cd_Mod_awaits 0 0 [.ref (ad 30)] u (some (.int q.1)) q.2 := by
  refine MX.start (by decide) (Nat.le_of_ble_eq_true rfl) ?_
  intro p e s m below meth c ls A hC hr hl hK hA hw
  have ⟨hx, hb, hml, hown, hT, hlk⟩ := hC
  have hl : lv_has ls 3 [(0, .ref (ad 30))] := hl
  have J77 : ∀ (u : ST) (y1 : Int32) (ls : Array Slot) (H : Heap) (locs : List Loc), f_Mod_awaits_J77 u y1 = some q → lv_has ls 3 [(0, .ref (ad 30)), (1, .int y1)] → fw D A s.heap (wM ad cI cZ cT v u) H locs → WX (wM ad cI cZ cT v) p l e 0 0 s m [.ref (ad 30)] below meth c A D (tyC cI cZ cT) (some (.int q.1)) q.2 H locs (F0 m 77 ls []) := by
    intro u y1 ls H locs h hl hw
    rw [f_Mod_awaits_J77] at h
    refine lv_aload_n hx hb d_Mod_awaits_77 rfl (lv_at hl 0 rfl) ?_
    refine lv_iload_n hx hb d_Mod_awaits_78 rfl (lv_at hl 1 rfl) ?_
    refine lv_if_eq (tgt := 118) hx hb d_Mod_awaits_79 rfl (fun c8 => ?_) (fun c8 => ?_)
    · have h := br1 c8 h
      refine lv_iconst (v := 0) hx hb d_Mod_awaits_118 (by decide) ?_
      refine pf_M_30_state hC hK hw d_Mod_awaits_119 h (fun H locs u9 h hw => ?_)
      refine lv_iconst (v := 1) hx hb d_Mod_awaits_122 (by decide) ?_
      exact fx_retw hC hr (by decide) hK hw h d_Mod_awaits_123
    · have h := br0 c8 h
      refine lv_aload_n hx hb d_Mod_awaits_82 rfl (lv_at hl 0 rfl) ?_
      refine gf_M_30_header hC hK hw d_Mod_awaits_83 ?_
      refine lv_iconst (v := 0) hx hb d_Mod_awaits_86 (by decide) ?_
      refine al_M_31 hC hK hw d_Mod_awaits_87 h (fun h => ?_)
      refine lv_bipush (v := 6) hx hb d_Mod_awaits_88 (by decide) ?_
      refine lv_icmp_eq (tgt := 114) hx hb d_Mod_awaits_90 rfl (fun c10 => ?_) (fun c10 => ?_)
      · have h := br1 c10 h
        refine lv_iconst (v := 3) hx hb d_Mod_awaits_114 (by decide) ?_
        refine lv_goto (tgt := 119) hx hb d_Mod_awaits_115 rfl ?_
        refine pf_M_30_state hC hK hw d_Mod_awaits_119 h (fun H locs u11 h hw => ?_)
        refine lv_iconst (v := 1) hx hb d_Mod_awaits_122 (by decide) ?_
        exact fx_retw hC hr (by decide) hK hw h d_Mod_awaits_123
      · have h := br0 c10 h
        refine lv_aload_n hx hb d_Mod_awaits_93 rfl (lv_at hl 0 rfl) ?_
        refine gf_M_30_header hC hK hw d_Mod_awaits_94 ?_
        refine lv_iconst (v := 0) hx hb d_Mod_awaits_97 (by decide) ?_
        refine al_M_31 hC hK hw d_Mod_awaits_98 h (fun h => ?_)
        refine lv_iconst (v := 4) hx hb d_Mod_awaits_99 (by decide) ?_
        refine lv_icmp_eq (tgt := 114) hx hb d_Mod_awaits_100 rfl (fun c12 => ?_) (fun c12 => ?_)
        · have h := br1 c12 h
          refine lv_iconst (v := 3) hx hb d_Mod_awaits_114 (by decide) ?_
          refine lv_goto (tgt := 119) hx hb d_Mod_awaits_115 rfl ?_
          refine pf_M_30_state hC hK hw d_Mod_awaits_119 h (fun H locs u13 h hw => ?_)
          refine lv_iconst (v := 1) hx hb d_Mod_awaits_122 (by decide) ?_
          exact fx_retw hC hr (by decide) hK hw h d_Mod_awaits_123
        · have h := br0 c12 h
          refine lv_aload_n hx hb d_Mod_awaits_103 rfl (lv_at hl 0 rfl) ?_
          refine gf_M_30_header hC hK hw d_Mod_awaits_104 ?_
          refine lv_iconst (v := 0) hx hb d_Mod_awaits_107 (by decide) ?_
          refine al_M_31 hC hK hw d_Mod_awaits_108 h (fun h => ?_)
          refine lv_bipush (v := 7) hx hb d_Mod_awaits_109 (by decide) ?_
          refine lv_icmp_ne (tgt := 118) hx hb d_Mod_awaits_111 rfl (fun c14 => ?_) (fun c14 => ?_)
          · have h := br0 c14 h
            refine lv_iconst (v := 0) hx hb d_Mod_awaits_118 (by decide) ?_
            refine pf_M_30_state hC hK hw d_Mod_awaits_119 h (fun H locs u15 h hw => ?_)
            refine lv_iconst (v := 1) hx hb d_Mod_awaits_122 (by decide) ?_
            exact fx_retw hC hr (by decide) hK hw h d_Mod_awaits_123
          · have h := br1 c14 h
            refine lv_iconst (v := 3) hx hb d_Mod_awaits_114 (by decide) ?_
            refine lv_goto (tgt := 119) hx hb d_Mod_awaits_115 rfl ?_
            refine pf_M_30_state hC hK hw d_Mod_awaits_119 h (fun H locs u16 h hw => ?_)
            refine lv_iconst (v := 1) hx hb d_Mod_awaits_122 (by decide) ?_
            exact fx_retw hC hr (by decide) hK hw h d_Mod_awaits_123
  have L43 : ∀ (k_ : Nat) (u : ST) (y1 y2 : Int32) (ls : Array Slot) (H : Heap) (locs : List Loc), f_Mod_awaits_L43 k_ u y1 y2 = some q → lv_has ls 3 [(0, .ref (ad 30)), (1, .int y1), (2, .int y2)] → fw D A s.heap (wM ad cI cZ cT v u) H locs → WX (wM ad cI cZ cT v) p l e 0 0 s m [.ref (ad 30)] below meth c A D (tyC cI cZ cT) (some (.int q.1)) q.2 H locs (F0 m 43 ls []) := by
    intro k_
    induction k_ with
    | zero =>
      intro u y1 y2 ls H locs h hl hw
      cases h
    | succ k_ ih =>
      intro u y1 y2 ls H locs h hl hw
      rw [f_Mod_awaits_L43] at h
      refine lv_iload_n hx hb d_Mod_awaits_43 rfl (lv_at hl 2 rfl) ?_
      refine lv_aload_n hx hb d_Mod_awaits_44 rfl (lv_at hl 0 rfl) ?_
      refine gf_M_30_size hC hK hw d_Mod_awaits_45 ?_
      refine lv_icmp_ge (tgt := 69) hx hb d_Mod_awaits_48 rfl (fun c18 => ?_) (fun c18 => ?_)
      · have h := br1 c18 h
        refine lv_aload_n hx hb d_Mod_awaits_69 rfl (lv_at hl 0 rfl) ?_
        refine lv_aload_n hx hb d_Mod_awaits_70 rfl (lv_at hl 0 rfl) ?_
        refine gf_M_30_size hC hK hw d_Mod_awaits_71 ?_
        refine pf_M_30_replied hC hK hw d_Mod_awaits_74 h (fun H locs u19 h hw => ?_)
        exact J77 _ _ _ _ _ h (lv_sub hl [0, 1] rfl) hw
      · have h := br0 c18 h
        refine lv_aload_n hx hb d_Mod_awaits_51 rfl (lv_at hl 0 rfl) ?_
        refine gf_M_30_reply hC hK hw d_Mod_awaits_52 ?_
        refine lv_iload_n hx hb d_Mod_awaits_55 rfl (lv_at hl 2 rfl) ?_
        refine lv_aload_n hx hb d_Mod_awaits_56 rfl (lv_at hl 0 rfl) ?_
        refine gf_M_30_data hC hK hw d_Mod_awaits_57 ?_
        refine lv_iload_n hx hb d_Mod_awaits_60 rfl (lv_at hl 2 rfl) ?_
        refine al_M_32 hC hK hw d_Mod_awaits_61 h (fun h => ?_)
        refine as_M_35 hC hK hw d_Mod_awaits_62 h (fun H locs u20 h hw => ?_)
        refine lv_iinc (k := 2) (v := (y2 + 1)) (lv' := [(2, .int (y2 + 1)), (0, .ref (ad 30)), (1, .int y1)]) hx hb d_Mod_awaits_63 hl rfl rfl (by decide) rfl (fun ls hl => ?_)
        refine lv_goto (tgt := 43) hx hb d_Mod_awaits_66 rfl ?_
        exact ih _ _ _ _ _ _ h (lv_sub hl [1, 2, 0] rfl) hw
  have J25 : ∀ (u : ST) (s0 : Int32) (ls : Array Slot) (H : Heap) (locs : List Loc), f_Mod_awaits_J25 u s0 = some q → lv_has ls 3 [(0, .ref (ad 30))] → fw D A s.heap (wM ad cI cZ cT v u) H locs → WX (wM ad cI cZ cT v) p l e 0 0 s m [.ref (ad 30)] below meth c A D (tyC cI cZ cT) (some (.int q.1)) q.2 H locs (F0 m 25 ls [.int s0]) := by
    intro u s0 ls H locs h hl hw
    rw [f_Mod_awaits_J25] at h
    refine lv_istore_n (lv' := [(1, .int s0), (0, .ref (ad 30))]) hx hb d_Mod_awaits_25 rfl hl (by decide) rfl (fun ls hl => ?_)
    refine lv_iload_n hx hb d_Mod_awaits_26 rfl (lv_at hl 0 rfl) ?_
    refine lv_if_eq (tgt := 77) hx hb d_Mod_awaits_27 rfl (fun c7 => ?_) (fun c7 => ?_)
    · have h := br1 c7 h
      exact J77 _ _ _ _ _ h (lv_sub hl [1, 0] rfl) hw
    · have h := br0 c7 h
      refine lv_aload_n hx hb d_Mod_awaits_30 rfl (lv_at hl 1 rfl) ?_
      refine gf_M_30_header hC hK hw d_Mod_awaits_31 ?_
      refine lv_iconst (v := 0) hx hb d_Mod_awaits_34 (by decide) ?_
      refine al_M_31 hC hK hw d_Mod_awaits_35 h (fun h => ?_)
      refine lv_bipush (v := 6) hx hb d_Mod_awaits_36 (by decide) ?_
      refine lv_icmp_ne (tgt := 77) hx hb d_Mod_awaits_38 rfl (fun c17 => ?_) (fun c17 => ?_)
      · have h := br0 c17 h
        exact J77 _ _ _ _ _ h (lv_sub hl [1, 0] rfl) hw
      · have h := br1 c17 h
        refine lv_iconst (v := 0) hx hb d_Mod_awaits_41 (by decide) ?_
        refine lv_istore_n (lv' := [(2, .int 0), (1, .int s0), (0, .ref (ad 30))]) hx hb d_Mod_awaits_42 rfl hl (by decide) rfl (fun ls hl => ?_)
        exact L43 _ _ _ _ _ _ _ h (lv_sub hl [2, 1, 0] rfl) hw
  rw [f_Mod_awaits] at h
  refine lv_aload_n hx hb d_Mod_awaits_0 rfl (lv_at hl 0 rfl) ?_
  refine gf_M_30_heard hC hK hw d_Mod_awaits_1 ?_
  refine lv_if_eq (tgt := 124) hx hb d_Mod_awaits_4 rfl (fun c1 => ?_) (fun c1 => ?_)
  · have h := br1 c1 h
    refine lv_aload_n hx hb d_Mod_awaits_124 rfl (lv_at hl 0 rfl) ?_
    refine gf_M_30_invalid hC hK hw d_Mod_awaits_125 ?_
    refine lv_if_ne (tgt := 143) hx hb d_Mod_awaits_128 rfl (fun c2 => ?_) (fun c2 => ?_)
    · have h := br0 c2 h
      refine lv_aload_n hx hb d_Mod_awaits_143 rfl (lv_at hl 0 rfl) ?_
      refine lv_iconst (v := 3) hx hb d_Mod_awaits_144 (by decide) ?_
      refine pf_M_30_state hC hK hw d_Mod_awaits_145 h (fun H locs u3 h hw => ?_)
      refine lv_iconst (v := 1) hx hb d_Mod_awaits_148 (by decide) ?_
      exact fx_retw hC hr (by decide) hK hw h d_Mod_awaits_149
    · have h := br1 c2 h
      refine lv_aload_n hx hb d_Mod_awaits_131 rfl (lv_at hl 0 rfl) ?_
      refine gf_M_30_silence hC hK hw d_Mod_awaits_132 ?_
      refine lv_sipush (v := 255) hx hb d_Mod_awaits_135 (by decide) ?_
      refine lv_icmp_ge (tgt := 143) hx hb d_Mod_awaits_138 rfl (fun c4 => ?_) (fun c4 => ?_)
      · have h := br1 c4 h
        refine lv_aload_n hx hb d_Mod_awaits_143 rfl (lv_at hl 0 rfl) ?_
        refine lv_iconst (v := 3) hx hb d_Mod_awaits_144 (by decide) ?_
        refine pf_M_30_state hC hK hw d_Mod_awaits_145 h (fun H locs u5 h hw => ?_)
        refine lv_iconst (v := 1) hx hb d_Mod_awaits_148 (by decide) ?_
        exact fx_retw hC hr (by decide) hK hw h d_Mod_awaits_149
      · have h := br0 c4 h
        refine lv_iconst (v := 0) hx hb d_Mod_awaits_141 (by decide) ?_
        exact fx_retw hC hr (by decide) hK hw h d_Mod_awaits_142
  · have h := br0 c1 h
    refine lv_aload_n hx hb d_Mod_awaits_7 rfl (lv_at hl 0 rfl) ?_
    refine gf_M_30_header hC hK hw d_Mod_awaits_8 ?_
    refine lv_iconst (v := 1) hx hb d_Mod_awaits_11 (by decide) ?_
    refine al_M_31 hC hK hw d_Mod_awaits_12 h (fun h => ?_)
    refine lv_aload_n hx hb d_Mod_awaits_13 rfl (lv_at hl 0 rfl) ?_
    refine gf_M_30_own hC hK hw d_Mod_awaits_14 ?_
    refine lv_icmp_ne (tgt := 24) hx hb d_Mod_awaits_17 rfl (fun c6 => ?_) (fun c6 => ?_)
    · have h := br0 c6 h
      refine lv_iconst (v := 0) hx hb d_Mod_awaits_24 (by decide) ?_
      exact J25 _ _ _ _ _ h (lv_sub hl [0] rfl) hw
    · have h := br1 c6 h
      refine lv_iconst (v := 1) hx hb d_Mod_awaits_20 (by decide) ?_
      refine lv_goto (tgt := 25) hx hb d_Mod_awaits_21 rfl ?_
      exact J25 _ _ _ _ _ h (lv_sub hl [0] rfl) hw
def f_Mod_behind (u : ST) (x1 : Int32) : Option (Int32) :=
  if x1 = (u.1 1) then
    some 0
  else
  some (x1 + 1)
set_option maxHeartbeats 4000000 in
set_option maxRecDepth 100000 in
theorem c_Mod_behind (l : Launch) (D : va_G) (ad : Nat → Nat) (cI cZ cT : ClassId) (v u : ST) (x1 : Int32) (q : Int32) (h : f_Mod_behind u x1 = some q) : MX l D (tyC cI cZ cT) (wM ad cI cZ cT v) y_Mod_behind cd_Mod_behind 0 0 [.ref (ad 30), .int x1] u (some (.int q)) u := by
  refine MX.start (by decide) (Nat.le_of_ble_eq_true rfl) ?_
  intro p e s m below meth c ls A hC hr hl hK hA hw
  have ⟨hx, hb, hml, hown, hT, hlk⟩ := hC
  have hl : lv_has ls 2 [(0, .ref (ad 30)), (1, .int x1)] := hl
  rw [f_Mod_behind] at h
  refine lv_iload_n hx hb d_Mod_behind_0 rfl (lv_at hl 1 rfl) ?_
  refine lv_aload_n hx hb d_Mod_behind_1 rfl (lv_at hl 0 rfl) ?_
  refine gf_M_30_most hC hK hw d_Mod_behind_2 ?_
  refine lv_icmp_ne (tgt := 12) hx hb d_Mod_behind_5 rfl (fun c1 => ?_) (fun c1 => ?_)
  · have h := br0 c1 h
    refine lv_iload_n hx hb d_Mod_behind_12 rfl (lv_at hl 1 rfl) ?_
    refine lv_iconst (v := 1) hx hb d_Mod_behind_13 (by decide) ?_
    refine lv_iadd hx hb d_Mod_behind_14 ?_
    exact fx_retr hC hr rfl hK hw h d_Mod_behind_15
  · have h := br1 c1 h
    refine lv_iconst (v := 0) hx hb d_Mod_behind_8 (by decide) ?_
    refine lv_goto (tgt := 15) hx hb d_Mod_behind_9 rfl ?_
    exact fx_retr hC hr rfl hK hw h d_Mod_behind_15
def f_Mod_pass (u : ST)  : Option (ST) :=
  k_bd (f_Mod_send u 0 (u.1 5) 0) fun q1 =>
  k_let (ss q1 3 0) fun u2 =>
  some u2
set_option maxHeartbeats 4000000 in
set_option maxRecDepth 100000 in
theorem c_Mod_pass (l : Launch) (D : va_G) (ad : Nat → Nat) (cI cZ cT : ClassId) (v u : ST) (q : ST) (h : f_Mod_pass u = some q) : MX l D (tyC cI cZ cT) (wM ad cI cZ cT v) y_Mod_pass cd_Mod_pass 2 49 [.ref (ad 30)] u none q := by
  refine MX.start (by decide) (Nat.le_of_ble_eq_true rfl) ?_
  intro p e s m below meth c ls A hC hr hl hK hA hw
  have ⟨hx, hb, hml, hown, hT, hlk⟩ := hC
  have hl : lv_has ls 1 [(0, .ref (ad 30))] := hl
  rw [f_Mod_pass] at h
  refine lv_aload_n hx hb d_Mod_pass_0 rfl (lv_at hl 0 rfl) ?_
  refine lv_iconst (v := 0) hx hb d_Mod_pass_1 (by decide) ?_
  refine lv_aload_n hx hb d_Mod_pass_2 rfl (lv_at hl 0 rfl) ?_
  refine gf_M_30_next hC hK hw d_Mod_pass_3 ?_
  refine lv_iconst (v := 0) hx hb d_Mod_pass_6 (by decide) ?_
  refine fx_sVv (As := [.int 0, .int (u.1 5), .int 0]) hC hl.1 (fun q hq => c_Mod_send l D ad cI cZ cT v u 0 (u.1 5) 0 q hq) fy_Mod_send fv_Mod_send kw_641 ⟨Nat.le_of_ble_eq_true rfl, Nat.le_of_ble_eq_true rfl⟩ rfl hK hA hw at_M_30 rfl rfl rfl (Nat.le_of_ble_eq_true rfl) d_Mod_pass_7 ⟨Nat.le_refl _, Nat.le_refl _⟩ h (fun H locs q1 h hw => ?_)
  refine lv_aload_n hx hb d_Mod_pass_10 rfl (lv_at hl 0 rfl) ?_
  refine lv_iconst (v := 0) hx hb d_Mod_pass_11 (by decide) ?_
  refine pf_M_30_events hC hK hw d_Mod_pass_12 h (fun H locs u2 h hw => ?_)
  exact fx_retv hC hr hK hw h d_Mod_pass_15
def f_Mod_poll (u : ST) (x1 : Int32) : Option (ST) :=
  k_let (ss u 6 x1) fun u1 =>
  k_bd (f_Mod_send u1 1 x1 0) fun q2 =>
  some q2
set_option maxHeartbeats 4000000 in
set_option maxRecDepth 100000 in
theorem c_Mod_poll (l : Launch) (D : va_G) (ad : Nat → Nat) (cI cZ cT : ClassId) (v u : ST) (x1 : Int32) (q : ST) (h : f_Mod_poll u x1 = some q) : MX l D (tyC cI cZ cT) (wM ad cI cZ cT v) y_Mod_poll cd_Mod_poll 2 49 [.ref (ad 30), .int x1] u none q := by
  refine MX.start (by decide) (Nat.le_of_ble_eq_true rfl) ?_
  intro p e s m below meth c ls A hC hr hl hK hA hw
  have ⟨hx, hb, hml, hown, hT, hlk⟩ := hC
  have hl : lv_has ls 2 [(0, .ref (ad 30)), (1, .int x1)] := hl
  rw [f_Mod_poll] at h
  refine lv_aload_n hx hb d_Mod_poll_0 rfl (lv_at hl 0 rfl) ?_
  refine lv_iload_n hx hb d_Mod_poll_1 rfl (lv_at hl 1 rfl) ?_
  refine pf_M_30_polled hC hK hw d_Mod_poll_2 h (fun H locs u1 h hw => ?_)
  refine lv_aload_n hx hb d_Mod_poll_5 rfl (lv_at hl 0 rfl) ?_
  refine lv_iconst (v := 1) hx hb d_Mod_poll_6 (by decide) ?_
  refine lv_iload_n hx hb d_Mod_poll_7 rfl (lv_at hl 1 rfl) ?_
  refine lv_iconst (v := 0) hx hb d_Mod_poll_8 (by decide) ?_
  refine fx_sVv (As := [.int 1, .int x1, .int 0]) hC hl.1 (fun q hq => c_Mod_send l D ad cI cZ cT v u1 1 x1 0 q hq) fy_Mod_send fv_Mod_send kw_641 ⟨Nat.le_of_ble_eq_true rfl, Nat.le_of_ble_eq_true rfl⟩ rfl hK hA hw at_M_30 rfl rfl rfl (Nat.le_of_ble_eq_true rfl) d_Mod_poll_9 ⟨Nat.le_refl _, Nat.le_refl _⟩ h (fun H locs q2 h hw => ?_)
  exact fx_retv hC hr hK hw h d_Mod_poll_12
def f_Mod_done_J39 (u : ST)  : Option (Int32 × ST) :=
  if 3 ≤ (u.1 7) then
    k_bd (f_Mod_behind u (u.1 6)) fun q3 =>
    if q3 = (u.1 5) then
      if (u.1 9) = 0 then
        k_let (ss u 6 (u.1 0)) fun u6 =>
        k_let (ss u6 8 0) fun u7 =>
        k_let (ss u7 7 1) fun u8 =>
        k_bd (f_Mod_pass u8) fun q9 =>
        k_let (ss q9 4 4) fun u10 =>
        some (1, u10)
      else
      k_bd (f_Mod_behind u (u.1 5)) fun q11 =>
      k_bd (f_Mod_poll u q11) fun q12 =>
      k_let (ss q12 5 (q12.1 0)) fun u13 =>
      k_let (ss u13 7 1) fun u14 =>
      k_let (ss u14 4 6) fun u15 =>
      some (1, u15)
    else
    k_bd (f_Mod_behind u (u.1 6)) fun q16 =>
    k_bd (f_Mod_poll u q16) fun q17 =>
    k_let (ss q17 4 6) fun u18 =>
    some (1, u18)
  else
  k_let (ss u 7 ((u.1 7) + 1)) fun u19 =>
  if (u19.1 9) = 0 then
    k_let (ss u19 8 0) fun u21 =>
    k_bd (f_Mod_pass u21) fun q22 =>
    k_let (ss q22 4 4) fun u23 =>
    some (1, u23)
  else
  k_let (ss u19 4 1) fun u24 =>
  some (1, u24)
def f_Mod_done (u : ST)  : Option (Int32 × ST) :=
  if (u.1 9) = 0 then
    if (u.1 5) = (u.1 0) then
      k_bd (f_Mod_behind u (u.1 0)) fun q26 =>
      k_bd (f_Mod_poll u q26) fun q27 =>
      k_let (ss q27 4 6) fun u28 =>
      some (1, u28)
    else
    f_Mod_done_J39 u
  else
  f_Mod_done_J39 u
set_option maxHeartbeats 4000000 in
set_option maxRecDepth 100000 in
theorem c_Mod_done (l : Launch) (D : va_G) (ad : Nat → Nat) (cI cZ cT : ClassId) (v u : ST) (q : Int32 × ST) (h : f_Mod_done u = some q) : MX l D (tyC cI cZ cT) (wM ad cI cZ cT v) y_Mod_done cd_Mod_done 3 70 [.ref (ad 30)] u (some (.int q.1)) q.2 := by
  refine MX.start (by decide) (Nat.le_of_ble_eq_true rfl) ?_
  intro p e s m below meth c ls A hC hr hl hK hA hw
  have ⟨hx, hb, hml, hown, hT, hlk⟩ := hC
  have hl : lv_has ls 1 [(0, .ref (ad 30))] := hl
  have J39 : ∀ (u : ST) (ls : Array Slot) (H : Heap) (locs : List Loc), f_Mod_done_J39 u = some q → lv_has ls 1 [(0, .ref (ad 30))] → fw D A s.heap (wM ad cI cZ cT v u) H locs → WX (wM ad cI cZ cT v) p l e 3 70 s m [.ref (ad 30)] below meth c A D (tyC cI cZ cT) (some (.int q.1)) q.2 H locs (F0 m 39 ls []) := by
    intro u ls H locs h hl hw
    rw [f_Mod_done_J39] at h
    refine lv_aload_n hx hb d_Mod_done_39 rfl (lv_at hl 0 rfl) ?_
    refine gf_M_30_tokens hC hK hw d_Mod_done_40 ?_
    refine lv_iconst (v := 3) hx hb d_Mod_done_43 (by decide) ?_
    refine lv_icmp_ge (tgt := 89) hx hb d_Mod_done_44 rfl (fun c2 => ?_) (fun c2 => ?_)
    · have h := br1 c2 h
      refine lv_aload_n hx hb d_Mod_done_89 rfl (lv_at hl 0 rfl) ?_
      refine lv_aload_n hx hb d_Mod_done_90 rfl (lv_at hl 0 rfl) ?_
      refine gf_M_30_polled hC hK hw d_Mod_done_91 ?_
      refine fx_sVr (As := [.int (u.1 6)]) hC hl.1 (fun q hq => c_Mod_behind l D ad cI cZ cT v u (u.1 6) q hq) fy_Mod_behind fv_Mod_behind kw_716 ⟨Nat.le_of_ble_eq_true rfl, Nat.le_of_ble_eq_true rfl⟩ rfl hK hA hw at_M_30 rfl rfl rfl (Nat.le_of_ble_eq_true rfl) d_Mod_done_94 ⟨Nat.le_refl _, Nat.le_refl _⟩ h (fun H locs q3 h hw => ?_)
      refine lv_aload_n hx hb d_Mod_done_97 rfl (lv_at hl 0 rfl) ?_
      refine gf_M_30_next hC hK hw d_Mod_done_98 ?_
      refine lv_icmp_eq (tgt := 125) hx hb d_Mod_done_101 rfl (fun c4 => ?_) (fun c4 => ?_)
      · have h := br1 c4 h
        refine lv_aload_n hx hb d_Mod_done_125 rfl (lv_at hl 0 rfl) ?_
        refine gf_M_30_sole hC hK hw d_Mod_done_126 ?_
        refine lv_if_eq (tgt := 166) hx hb d_Mod_done_129 rfl (fun c5 => ?_) (fun c5 => ?_)
        · have h := br1 c5 h
          refine lv_aload_n hx hb d_Mod_done_166 rfl (lv_at hl 0 rfl) ?_
          refine lv_aload_n hx hb d_Mod_done_167 rfl (lv_at hl 0 rfl) ?_
          refine gf_M_30_own hC hK hw d_Mod_done_168 ?_
          refine pf_M_30_polled hC hK hw d_Mod_done_171 h (fun H locs u6 h hw => ?_)
          refine lv_aload_n hx hb d_Mod_done_174 rfl (lv_at hl 0 rfl) ?_
          refine lv_iconst (v := 0) hx hb d_Mod_done_175 (by decide) ?_
          refine pf_M_30_tries hC hK hw d_Mod_done_176 h (fun H locs u7 h hw => ?_)
          refine lv_aload_n hx hb d_Mod_done_179 rfl (lv_at hl 0 rfl) ?_
          refine lv_iconst (v := 1) hx hb d_Mod_done_180 (by decide) ?_
          refine pf_M_30_tokens hC hK hw d_Mod_done_181 h (fun H locs u8 h hw => ?_)
          refine lv_aload_n hx hb d_Mod_done_184 rfl (lv_at hl 0 rfl) ?_
          refine fx_sVv (As := []) hC hl.1 (fun q hq => c_Mod_pass l D ad cI cZ cT v u8 q hq) fy_Mod_pass fv_Mod_pass kw_724 ⟨Nat.le_of_ble_eq_true rfl, Nat.le_of_ble_eq_true rfl⟩ rfl hK hA hw at_M_30 rfl rfl rfl (Nat.le_of_ble_eq_true rfl) d_Mod_done_185 ⟨Nat.le_refl _, Nat.le_refl _⟩ h (fun H locs q9 h hw => ?_)
          refine lv_aload_n hx hb d_Mod_done_188 rfl (lv_at hl 0 rfl) ?_
          refine lv_iconst (v := 4) hx hb d_Mod_done_189 (by decide) ?_
          refine pf_M_30_state hC hK hw d_Mod_done_190 h (fun H locs u10 h hw => ?_)
          refine lv_iconst (v := 1) hx hb d_Mod_done_193 (by decide) ?_
          exact fx_retw hC hr (by decide) hK hw h d_Mod_done_194
        · have h := br0 c5 h
          refine lv_aload_n hx hb d_Mod_done_132 rfl (lv_at hl 0 rfl) ?_
          refine lv_aload_n hx hb d_Mod_done_133 rfl (lv_at hl 0 rfl) ?_
          refine lv_aload_n hx hb d_Mod_done_134 rfl (lv_at hl 0 rfl) ?_
          refine gf_M_30_next hC hK hw d_Mod_done_135 ?_
          refine fx_sVr (As := [.int (u.1 5)]) hC hl.1 (fun q hq => c_Mod_behind l D ad cI cZ cT v u (u.1 5) q hq) fy_Mod_behind fv_Mod_behind kw_716 ⟨Nat.le_of_ble_eq_true rfl, Nat.le_of_ble_eq_true rfl⟩ rfl hK hA hw at_M_30 rfl rfl rfl (Nat.le_of_ble_eq_true rfl) d_Mod_done_138 ⟨Nat.le_refl _, Nat.le_refl _⟩ h (fun H locs q11 h hw => ?_)
          refine fx_sVv (As := [.int q11]) hC hl.1 (fun q hq => c_Mod_poll l D ad cI cZ cT v u q11 q hq) fy_Mod_poll fv_Mod_poll kw_720 ⟨Nat.le_of_ble_eq_true rfl, Nat.le_of_ble_eq_true rfl⟩ rfl hK hA hw at_M_30 rfl rfl rfl (Nat.le_of_ble_eq_true rfl) d_Mod_done_141 ⟨Nat.le_refl _, Nat.le_refl _⟩ h (fun H locs q12 h hw => ?_)
          refine lv_aload_n hx hb d_Mod_done_144 rfl (lv_at hl 0 rfl) ?_
          refine lv_aload_n hx hb d_Mod_done_145 rfl (lv_at hl 0 rfl) ?_
          refine gf_M_30_own hC hK hw d_Mod_done_146 ?_
          refine pf_M_30_next hC hK hw d_Mod_done_149 h (fun H locs u13 h hw => ?_)
          refine lv_aload_n hx hb d_Mod_done_152 rfl (lv_at hl 0 rfl) ?_
          refine lv_iconst (v := 1) hx hb d_Mod_done_153 (by decide) ?_
          refine pf_M_30_tokens hC hK hw d_Mod_done_154 h (fun H locs u14 h hw => ?_)
          refine lv_aload_n hx hb d_Mod_done_157 rfl (lv_at hl 0 rfl) ?_
          refine lv_bipush (v := 6) hx hb d_Mod_done_158 (by decide) ?_
          refine pf_M_30_state hC hK hw d_Mod_done_160 h (fun H locs u15 h hw => ?_)
          refine lv_goto (tgt := 193) hx hb d_Mod_done_163 rfl ?_
          refine lv_iconst (v := 1) hx hb d_Mod_done_193 (by decide) ?_
          exact fx_retw hC hr (by decide) hK hw h d_Mod_done_194
      · have h := br0 c4 h
        refine lv_aload_n hx hb d_Mod_done_104 rfl (lv_at hl 0 rfl) ?_
        refine lv_aload_n hx hb d_Mod_done_105 rfl (lv_at hl 0 rfl) ?_
        refine lv_aload_n hx hb d_Mod_done_106 rfl (lv_at hl 0 rfl) ?_
        refine gf_M_30_polled hC hK hw d_Mod_done_107 ?_
        refine fx_sVr (As := [.int (u.1 6)]) hC hl.1 (fun q hq => c_Mod_behind l D ad cI cZ cT v u (u.1 6) q hq) fy_Mod_behind fv_Mod_behind kw_716 ⟨Nat.le_of_ble_eq_true rfl, Nat.le_of_ble_eq_true rfl⟩ rfl hK hA hw at_M_30 rfl rfl rfl (Nat.le_of_ble_eq_true rfl) d_Mod_done_110 ⟨Nat.le_refl _, Nat.le_refl _⟩ h (fun H locs q16 h hw => ?_)
        refine fx_sVv (As := [.int q16]) hC hl.1 (fun q hq => c_Mod_poll l D ad cI cZ cT v u q16 q hq) fy_Mod_poll fv_Mod_poll kw_720 ⟨Nat.le_of_ble_eq_true rfl, Nat.le_of_ble_eq_true rfl⟩ rfl hK hA hw at_M_30 rfl rfl rfl (Nat.le_of_ble_eq_true rfl) d_Mod_done_113 ⟨Nat.le_refl _, Nat.le_refl _⟩ h (fun H locs q17 h hw => ?_)
        refine lv_aload_n hx hb d_Mod_done_116 rfl (lv_at hl 0 rfl) ?_
        refine lv_bipush (v := 6) hx hb d_Mod_done_117 (by decide) ?_
        refine pf_M_30_state hC hK hw d_Mod_done_119 h (fun H locs u18 h hw => ?_)
        refine lv_goto (tgt := 193) hx hb d_Mod_done_122 rfl ?_
        refine lv_iconst (v := 1) hx hb d_Mod_done_193 (by decide) ?_
        exact fx_retw hC hr (by decide) hK hw h d_Mod_done_194
    · have h := br0 c2 h
      refine lv_aload_n hx hb d_Mod_done_47 rfl (lv_at hl 0 rfl) ?_
      refine lv_dup hx hb d_Mod_done_48 rfl ?_
      refine gf_M_30_tokens hC hK hw d_Mod_done_49 ?_
      refine lv_iconst (v := 1) hx hb d_Mod_done_52 (by decide) ?_
      refine lv_iadd hx hb d_Mod_done_53 ?_
      refine pf_M_30_tokens hC hK hw d_Mod_done_54 h (fun H locs u19 h hw => ?_)
      refine lv_aload_n hx hb d_Mod_done_57 rfl (lv_at hl 0 rfl) ?_
      refine gf_M_30_sole hC hK hw d_Mod_done_58 ?_
      refine lv_if_eq (tgt := 72) hx hb d_Mod_done_61 rfl (fun c20 => ?_) (fun c20 => ?_)
      · have h := br1 c20 h
        refine lv_aload_n hx hb d_Mod_done_72 rfl (lv_at hl 0 rfl) ?_
        refine lv_iconst (v := 0) hx hb d_Mod_done_73 (by decide) ?_
        refine pf_M_30_tries hC hK hw d_Mod_done_74 h (fun H locs u21 h hw => ?_)
        refine lv_aload_n hx hb d_Mod_done_77 rfl (lv_at hl 0 rfl) ?_
        refine fx_sVv (As := []) hC hl.1 (fun q hq => c_Mod_pass l D ad cI cZ cT v u21 q hq) fy_Mod_pass fv_Mod_pass kw_724 ⟨Nat.le_of_ble_eq_true rfl, Nat.le_of_ble_eq_true rfl⟩ rfl hK hA hw at_M_30 rfl rfl rfl (Nat.le_of_ble_eq_true rfl) d_Mod_done_78 ⟨Nat.le_refl _, Nat.le_refl _⟩ h (fun H locs q22 h hw => ?_)
        refine lv_aload_n hx hb d_Mod_done_81 rfl (lv_at hl 0 rfl) ?_
        refine lv_iconst (v := 4) hx hb d_Mod_done_82 (by decide) ?_
        refine pf_M_30_state hC hK hw d_Mod_done_83 h (fun H locs u23 h hw => ?_)
        refine lv_goto (tgt := 193) hx hb d_Mod_done_86 rfl ?_
        refine lv_iconst (v := 1) hx hb d_Mod_done_193 (by decide) ?_
        exact fx_retw hC hr (by decide) hK hw h d_Mod_done_194
      · have h := br0 c20 h
        refine lv_aload_n hx hb d_Mod_done_64 rfl (lv_at hl 0 rfl) ?_
        refine lv_iconst (v := 1) hx hb d_Mod_done_65 (by decide) ?_
        refine pf_M_30_state hC hK hw d_Mod_done_66 h (fun H locs u24 h hw => ?_)
        refine lv_goto (tgt := 193) hx hb d_Mod_done_69 rfl ?_
        refine lv_iconst (v := 1) hx hb d_Mod_done_193 (by decide) ?_
        exact fx_retw hC hr (by decide) hK hw h d_Mod_done_194
  rw [f_Mod_done] at h
  refine lv_aload_n hx hb d_Mod_done_0 rfl (lv_at hl 0 rfl) ?_
  refine gf_M_30_sole hC hK hw d_Mod_done_1 ?_
  refine lv_if_ne (tgt := 39) hx hb d_Mod_done_4 rfl (fun c1 => ?_) (fun c1 => ?_)
  · have h := br0 c1 h
    exact J39 _ _ _ _ h (lv_sub hl [0] rfl) hw
  · have h := br1 c1 h
    refine lv_aload_n hx hb d_Mod_done_7 rfl (lv_at hl 0 rfl) ?_
    refine gf_M_30_next hC hK hw d_Mod_done_8 ?_
    refine lv_aload_n hx hb d_Mod_done_11 rfl (lv_at hl 0 rfl) ?_
    refine gf_M_30_own hC hK hw d_Mod_done_12 ?_
    refine lv_icmp_ne (tgt := 39) hx hb d_Mod_done_15 rfl (fun c25 => ?_) (fun c25 => ?_)
    · have h := br0 c25 h
      exact J39 _ _ _ _ h (lv_sub hl [0] rfl) hw
    · have h := br1 c25 h
      refine lv_aload_n hx hb d_Mod_done_18 rfl (lv_at hl 0 rfl) ?_
      refine lv_aload_n hx hb d_Mod_done_19 rfl (lv_at hl 0 rfl) ?_
      refine lv_aload_n hx hb d_Mod_done_20 rfl (lv_at hl 0 rfl) ?_
      refine gf_M_30_own hC hK hw d_Mod_done_21 ?_
      refine fx_sVr (As := [.int (u.1 0)]) hC hl.1 (fun q hq => c_Mod_behind l D ad cI cZ cT v u (u.1 0) q hq) fy_Mod_behind fv_Mod_behind kw_716 ⟨Nat.le_of_ble_eq_true rfl, Nat.le_of_ble_eq_true rfl⟩ rfl hK hA hw at_M_30 rfl rfl rfl (Nat.le_of_ble_eq_true rfl) d_Mod_done_24 ⟨Nat.le_refl _, Nat.le_refl _⟩ h (fun H locs q26 h hw => ?_)
      refine fx_sVv (As := [.int q26]) hC hl.1 (fun q hq => c_Mod_poll l D ad cI cZ cT v u q26 q hq) fy_Mod_poll fv_Mod_poll kw_720 ⟨Nat.le_of_ble_eq_true rfl, Nat.le_of_ble_eq_true rfl⟩ rfl hK hA hw at_M_30 rfl rfl rfl (Nat.le_of_ble_eq_true rfl) d_Mod_done_27 ⟨Nat.le_refl _, Nat.le_refl _⟩ h (fun H locs q27 h hw => ?_)
      refine lv_aload_n hx hb d_Mod_done_30 rfl (lv_at hl 0 rfl) ?_
      refine lv_bipush (v := 6) hx hb d_Mod_done_31 (by decide) ?_
      refine pf_M_30_state hC hK hw d_Mod_done_33 h (fun H locs u28 h hw => ?_)
      refine lv_goto (tgt := 193) hx hb d_Mod_done_36 rfl ?_
      refine lv_iconst (v := 1) hx hb d_Mod_done_193 (by decide) ?_
      exact fx_retw hC hr (by decide) hK hw h d_Mod_done_194
def f_Mod_passing (u : ST)  : Option (Int32 × ST) :=
  if 20 ≤ (u.1 2) then
    if (u.1 8) = 0 then
      k_let (ss u 8 1) fun u8 =>
      k_bd (f_Mod_pass u8) fun q9 =>
      some (1, q9)
    else
    k_bd (f_Mod_behind u (u.1 5)) fun q3 =>
    k_bd (f_Mod_poll u q3) fun q4 =>
    k_let (ss q4 5 (q4.1 0)) fun u5 =>
    k_let (ss u5 7 0) fun u6 =>
    k_let (ss u6 4 6) fun u7 =>
    some (1, u7)
  else
  if 4 < (u.1 3) then
    k_let (ss u 4 0) fun u11 =>
    some (1, u11)
  else
  some (0, u)
set_option maxHeartbeats 4000000 in
set_option maxRecDepth 100000 in
theorem c_Mod_passing (l : Launch) (D : va_G) (ad : Nat → Nat) (cI cZ cT : ClassId) (v u : ST) (q : Int32 × ST) (h : f_Mod_passing u = some q) : MX l D (tyC cI cZ cT) (wM ad cI cZ cT v) y_Mod_passing cd_Mod_passing 3 70 [.ref (ad 30)] u (some (.int q.1)) q.2 := by
  refine MX.start (by decide) (Nat.le_of_ble_eq_true rfl) ?_
  intro p e s m below meth c ls A hC hr hl hK hA hw
  have ⟨hx, hb, hml, hown, hT, hlk⟩ := hC
  have hl : lv_has ls 1 [(0, .ref (ad 30))] := hl
  rw [f_Mod_passing] at h
  refine lv_aload_n hx hb d_Mod_passing_0 rfl (lv_at hl 0 rfl) ?_
  refine gf_M_30_silence hC hK hw d_Mod_passing_1 ?_
  refine lv_bipush (v := 20) hx hb d_Mod_passing_4 (by decide) ?_
  refine lv_icmp_ge (tgt := 26) hx hb d_Mod_passing_6 rfl (fun c1 => ?_) (fun c1 => ?_)
  · have h := br1 c1 h
    refine lv_aload_n hx hb d_Mod_passing_26 rfl (lv_at hl 0 rfl) ?_
    refine gf_M_30_tries hC hK hw d_Mod_passing_27 ?_
    refine lv_if_ne (tgt := 45) hx hb d_Mod_passing_30 rfl (fun c2 => ?_) (fun c2 => ?_)
    · have h := br0 c2 h
      refine lv_aload_n hx hb d_Mod_passing_45 rfl (lv_at hl 0 rfl) ?_
      refine lv_aload_n hx hb d_Mod_passing_46 rfl (lv_at hl 0 rfl) ?_
      refine lv_aload_n hx hb d_Mod_passing_47 rfl (lv_at hl 0 rfl) ?_
      refine gf_M_30_next hC hK hw d_Mod_passing_48 ?_
      refine fx_sVr (As := [.int (u.1 5)]) hC hl.1 (fun q hq => c_Mod_behind l D ad cI cZ cT v u (u.1 5) q hq) fy_Mod_behind fv_Mod_behind kw_716 ⟨Nat.le_of_ble_eq_true rfl, Nat.le_of_ble_eq_true rfl⟩ rfl hK hA hw at_M_30 rfl rfl rfl (Nat.le_of_ble_eq_true rfl) d_Mod_passing_51 ⟨Nat.le_refl _, Nat.le_refl _⟩ h (fun H locs q3 h hw => ?_)
      refine fx_sVv (As := [.int q3]) hC hl.1 (fun q hq => c_Mod_poll l D ad cI cZ cT v u q3 q hq) fy_Mod_poll fv_Mod_poll kw_720 ⟨Nat.le_of_ble_eq_true rfl, Nat.le_of_ble_eq_true rfl⟩ rfl hK hA hw at_M_30 rfl rfl rfl (Nat.le_of_ble_eq_true rfl) d_Mod_passing_54 ⟨Nat.le_refl _, Nat.le_refl _⟩ h (fun H locs q4 h hw => ?_)
      refine lv_aload_n hx hb d_Mod_passing_57 rfl (lv_at hl 0 rfl) ?_
      refine lv_aload_n hx hb d_Mod_passing_58 rfl (lv_at hl 0 rfl) ?_
      refine gf_M_30_own hC hK hw d_Mod_passing_59 ?_
      refine pf_M_30_next hC hK hw d_Mod_passing_62 h (fun H locs u5 h hw => ?_)
      refine lv_aload_n hx hb d_Mod_passing_65 rfl (lv_at hl 0 rfl) ?_
      refine lv_iconst (v := 0) hx hb d_Mod_passing_66 (by decide) ?_
      refine pf_M_30_tokens hC hK hw d_Mod_passing_67 h (fun H locs u6 h hw => ?_)
      refine lv_aload_n hx hb d_Mod_passing_70 rfl (lv_at hl 0 rfl) ?_
      refine lv_bipush (v := 6) hx hb d_Mod_passing_71 (by decide) ?_
      refine pf_M_30_state hC hK hw d_Mod_passing_73 h (fun H locs u7 h hw => ?_)
      refine lv_iconst (v := 1) hx hb d_Mod_passing_76 (by decide) ?_
      exact fx_retw hC hr (by decide) hK hw h d_Mod_passing_77
    · have h := br1 c2 h
      refine lv_aload_n hx hb d_Mod_passing_33 rfl (lv_at hl 0 rfl) ?_
      refine lv_iconst (v := 1) hx hb d_Mod_passing_34 (by decide) ?_
      refine pf_M_30_tries hC hK hw d_Mod_passing_35 h (fun H locs u8 h hw => ?_)
      refine lv_aload_n hx hb d_Mod_passing_38 rfl (lv_at hl 0 rfl) ?_
      refine fx_sVv (As := []) hC hl.1 (fun q hq => c_Mod_pass l D ad cI cZ cT v u8 q hq) fy_Mod_pass fv_Mod_pass kw_724 ⟨Nat.le_of_ble_eq_true rfl, Nat.le_of_ble_eq_true rfl⟩ rfl hK hA hw at_M_30 rfl rfl rfl (Nat.le_of_ble_eq_true rfl) d_Mod_passing_39 ⟨Nat.le_refl _, Nat.le_refl _⟩ h (fun H locs q9 h hw => ?_)
      refine lv_goto (tgt := 76) hx hb d_Mod_passing_42 rfl ?_
      refine lv_iconst (v := 1) hx hb d_Mod_passing_76 (by decide) ?_
      exact fx_retw hC hr (by decide) hK hw h d_Mod_passing_77
  · have h := br0 c1 h
    refine lv_aload_n hx hb d_Mod_passing_9 rfl (lv_at hl 0 rfl) ?_
    refine gf_M_30_events hC hK hw d_Mod_passing_10 ?_
    refine lv_iconst (v := 4) hx hb d_Mod_passing_13 (by decide) ?_
    refine lv_icmp_gt (tgt := 19) hx hb d_Mod_passing_14 rfl (fun c10 => ?_) (fun c10 => ?_)
    · have h := br1 c10 h
      refine lv_aload_n hx hb d_Mod_passing_19 rfl (lv_at hl 0 rfl) ?_
      refine lv_iconst (v := 0) hx hb d_Mod_passing_20 (by decide) ?_
      refine pf_M_30_state hC hK hw d_Mod_passing_21 h (fun H locs u11 h hw => ?_)
      refine lv_iconst (v := 1) hx hb d_Mod_passing_24 (by decide) ?_
      exact fx_retw hC hr (by decide) hK hw h d_Mod_passing_25
    · have h := br0 c10 h
      refine lv_iconst (v := 0) hx hb d_Mod_passing_17 (by decide) ?_
      exact fx_retw hC hr (by decide) hK hw h d_Mod_passing_18
def f_Mod_lost (u : ST)  : Option (Int32 × ST) :=
  if (u.1 3) ≤ 4 then
    if (500 + (10 * (u.1 0))) ≤ (u.1 2) then
      k_bd (f_Mod_behind u (u.1 0)) fun q3 =>
      k_bd (f_Mod_poll u q3) fun q4 =>
      k_let (ss q4 5 (q4.1 0)) fun u5 =>
      k_let (ss u5 7 0) fun u6 =>
      k_let (ss u6 4 6) fun u7 =>
      some (1, u7)
    else
    some (0, u)
  else
  k_let (ss u 4 0) fun u8 =>
  some (1, u8)
set_option maxHeartbeats 4000000 in
set_option maxRecDepth 100000 in
theorem c_Mod_lost (l : Launch) (D : va_G) (ad : Nat → Nat) (cI cZ cT : ClassId) (v u : ST) (q : Int32 × ST) (h : f_Mod_lost u = some q) : MX l D (tyC cI cZ cT) (wM ad cI cZ cT v) y_Mod_lost cd_Mod_lost 3 70 [.ref (ad 30)] u (some (.int q.1)) q.2 := by
  refine MX.start (by decide) (Nat.le_of_ble_eq_true rfl) ?_
  intro p e s m below meth c ls A hC hr hl hK hA hw
  have ⟨hx, hb, hml, hown, hT, hlk⟩ := hC
  have hl : lv_has ls 1 [(0, .ref (ad 30))] := hl
  rw [f_Mod_lost] at h
  refine lv_aload_n hx hb d_Mod_lost_0 rfl (lv_at hl 0 rfl) ?_
  refine gf_M_30_events hC hK hw d_Mod_lost_1 ?_
  refine lv_iconst (v := 4) hx hb d_Mod_lost_4 (by decide) ?_
  refine lv_icmp_le (tgt := 15) hx hb d_Mod_lost_5 rfl (fun c1 => ?_) (fun c1 => ?_)
  · have h := br1 c1 h
    refine lv_aload_n hx hb d_Mod_lost_15 rfl (lv_at hl 0 rfl) ?_
    refine gf_M_30_silence hC hK hw d_Mod_lost_16 ?_
    refine lv_sipush (v := 500) hx hb d_Mod_lost_19 (by decide) ?_
    refine lv_bipush (v := 10) hx hb d_Mod_lost_22 (by decide) ?_
    refine lv_aload_n hx hb d_Mod_lost_24 rfl (lv_at hl 0 rfl) ?_
    refine gf_M_30_own hC hK hw d_Mod_lost_25 ?_
    refine lv_imul hx hb d_Mod_lost_28 ?_
    refine lv_iadd hx hb d_Mod_lost_29 ?_
    refine lv_icmp_ge (tgt := 35) hx hb d_Mod_lost_30 rfl (fun c2 => ?_) (fun c2 => ?_)
    · have h := br1 c2 h
      refine lv_aload_n hx hb d_Mod_lost_35 rfl (lv_at hl 0 rfl) ?_
      refine lv_aload_n hx hb d_Mod_lost_36 rfl (lv_at hl 0 rfl) ?_
      refine lv_aload_n hx hb d_Mod_lost_37 rfl (lv_at hl 0 rfl) ?_
      refine gf_M_30_own hC hK hw d_Mod_lost_38 ?_
      refine fx_sVr (As := [.int (u.1 0)]) hC hl.1 (fun q hq => c_Mod_behind l D ad cI cZ cT v u (u.1 0) q hq) fy_Mod_behind fv_Mod_behind kw_716 ⟨Nat.le_of_ble_eq_true rfl, Nat.le_of_ble_eq_true rfl⟩ rfl hK hA hw at_M_30 rfl rfl rfl (Nat.le_of_ble_eq_true rfl) d_Mod_lost_41 ⟨Nat.le_refl _, Nat.le_refl _⟩ h (fun H locs q3 h hw => ?_)
      refine fx_sVv (As := [.int q3]) hC hl.1 (fun q hq => c_Mod_poll l D ad cI cZ cT v u q3 q hq) fy_Mod_poll fv_Mod_poll kw_720 ⟨Nat.le_of_ble_eq_true rfl, Nat.le_of_ble_eq_true rfl⟩ rfl hK hA hw at_M_30 rfl rfl rfl (Nat.le_of_ble_eq_true rfl) d_Mod_lost_44 ⟨Nat.le_refl _, Nat.le_refl _⟩ h (fun H locs q4 h hw => ?_)
      refine lv_aload_n hx hb d_Mod_lost_47 rfl (lv_at hl 0 rfl) ?_
      refine lv_aload_n hx hb d_Mod_lost_48 rfl (lv_at hl 0 rfl) ?_
      refine gf_M_30_own hC hK hw d_Mod_lost_49 ?_
      refine pf_M_30_next hC hK hw d_Mod_lost_52 h (fun H locs u5 h hw => ?_)
      refine lv_aload_n hx hb d_Mod_lost_55 rfl (lv_at hl 0 rfl) ?_
      refine lv_iconst (v := 0) hx hb d_Mod_lost_56 (by decide) ?_
      refine pf_M_30_tokens hC hK hw d_Mod_lost_57 h (fun H locs u6 h hw => ?_)
      refine lv_aload_n hx hb d_Mod_lost_60 rfl (lv_at hl 0 rfl) ?_
      refine lv_bipush (v := 6) hx hb d_Mod_lost_61 (by decide) ?_
      refine pf_M_30_state hC hK hw d_Mod_lost_63 h (fun H locs u7 h hw => ?_)
      refine lv_iconst (v := 1) hx hb d_Mod_lost_66 (by decide) ?_
      exact fx_retw hC hr (by decide) hK hw h d_Mod_lost_67
    · have h := br0 c2 h
      refine lv_iconst (v := 0) hx hb d_Mod_lost_33 (by decide) ?_
      exact fx_retw hC hr (by decide) hK hw h d_Mod_lost_34
  · have h := br0 c1 h
    refine lv_aload_n hx hb d_Mod_lost_8 rfl (lv_at hl 0 rfl) ?_
    refine lv_iconst (v := 0) hx hb d_Mod_lost_9 (by decide) ?_
    refine pf_M_30_state hC hK hw d_Mod_lost_10 h (fun H locs u8 h hw => ?_)
    refine lv_iconst (v := 1) hx hb d_Mod_lost_13 (by decide) ?_
    exact fx_retw hC hr (by decide) hK hw h d_Mod_lost_14
def f_Mod_polling_J128 (u : ST)  : Option (Int32 × ST) :=
  if (u.1 9) = 0 then
    if (u.1 5) = (u.1 0) then
      k_bd (f_Mod_behind u (u.1 6)) fun q5 =>
      if q5 = (u.1 0) then
        k_let (ss u 9 1) fun u7 =>
        k_let (ss u7 4 1) fun u8 =>
        some (1, u8)
      else
      k_bd (f_Mod_behind u (u.1 6)) fun q9 =>
      k_bd (f_Mod_poll u q9) fun q10 =>
      some (1, q10)
    else
    k_let (ss u 8 0) fun u11 =>
    k_bd (f_Mod_pass u11) fun q12 =>
    k_let (ss q12 4 4) fun u13 =>
    some (1, u13)
  else
  k_let (ss u 4 1) fun u14 =>
  some (1, u14)
def f_Mod_polling_J69 (u : ST) (y1 y2 s0 : Int32) : Option (Int32 × ST) :=
  k_let (ss u 4 s0) fun u18 =>
  if y2 = 0 then
    some (1, u18)
  else
  k_let (ss u18 9 0) fun u20 =>
  k_let (ss u20 5 y1) fun u21 =>
  k_let (ss u21 6 (u21.1 0)) fun u22 =>
  k_let (ss u22 7 0) fun u23 =>
  k_let (ss u23 8 0) fun u24 =>
  k_bd (f_Mod_pass u24) fun q25 =>
  some (1, q25)
def f_Mod_polling_J58 (u : ST) (y1 s0 : Int32) : Option (Int32 × ST) :=
  if s0 = 0 then
    f_Mod_polling_J69 u y1 s0 0
  else
  f_Mod_polling_J69 u y1 s0 4
def f_Mod_polling_J57 (u : ST) (y1 : Int32) : Option (Int32 × ST) :=
  f_Mod_polling_J58 u y1 0
def f_Mod_polling (u : ST)  : Option (Int32 × ST) :=
  if (u.1 14) = 0 then
    if (u.1 15) = 0 then
      if 20 ≤ (u.1 2) then
        f_Mod_polling_J128 u
      else
      some (0, u)
    else
    f_Mod_polling_J128 u
  else
  k_gd (inb 2 6) (
  k_gd (inb 1 6) (
  if (u.2 0 (1 : Int32).toNatClampNeg) = (u.1 0) then
    k_gd (inb 0 6) (
    if (u.2 0 (0 : Int32).toNatClampNeg) = 2 then
      if (u.1 1) < (u.2 0 (2 : Int32).toNatClampNeg) then
        f_Mod_polling_J57 u (u.2 0 (2 : Int32).toNatClampNeg)
      else
      if (u.2 0 (2 : Int32).toNatClampNeg) = (u.1 0) then
        f_Mod_polling_J57 u (u.2 0 (2 : Int32).toNatClampNeg)
      else
      f_Mod_polling_J58 u (u.2 0 (2 : Int32).toNatClampNeg) 1
    else
    f_Mod_polling_J57 u (u.2 0 (2 : Int32).toNatClampNeg))
  else
  f_Mod_polling_J57 u (u.2 0 (2 : Int32).toNatClampNeg)))
set_option maxHeartbeats 4000000 in
set_option maxRecDepth 100000 in
theorem c_Mod_polling (l : Launch) (D : va_G) (ad : Nat → Nat) (cI cZ cT : ClassId) (v u : ST) (q : Int32 × ST) (h : f_Mod_polling u = some q) : MX l D (tyC cI cZ cT) (wM ad cI cZ cT v) y_Mod_polling cd_Mod_polling 3 70 [.ref (ad 30)] u (some (.int q.1)) q.2 := by
  refine MX.start (by decide) (Nat.le_of_ble_eq_true rfl) ?_
  intro p e s m below meth c ls A hC hr hl hK hA hw
  have ⟨hx, hb, hml, hown, hT, hlk⟩ := hC
  have hl : lv_has ls 3 [(0, .ref (ad 30))] := hl
  have J128 : ∀ (u : ST) (ls : Array Slot) (H : Heap) (locs : List Loc), f_Mod_polling_J128 u = some q → lv_has ls 3 [(0, .ref (ad 30))] → fw D A s.heap (wM ad cI cZ cT v u) H locs → WX (wM ad cI cZ cT v) p l e 3 70 s m [.ref (ad 30)] below meth c A D (tyC cI cZ cT) (some (.int q.1)) q.2 H locs (F0 m 128 ls []) := by
    intro u ls H locs h hl hw
    rw [f_Mod_polling_J128] at h
    refine lv_aload_n hx hb d_Mod_polling_128 rfl (lv_at hl 0 rfl) ?_
    refine gf_M_30_sole hC hK hw d_Mod_polling_129 ?_
    refine lv_if_eq (tgt := 143) hx hb d_Mod_polling_132 rfl (fun c3 => ?_) (fun c3 => ?_)
    · have h := br1 c3 h
      refine lv_aload_n hx hb d_Mod_polling_143 rfl (lv_at hl 0 rfl) ?_
      refine gf_M_30_next hC hK hw d_Mod_polling_144 ?_
      refine lv_aload_n hx hb d_Mod_polling_147 rfl (lv_at hl 0 rfl) ?_
      refine gf_M_30_own hC hK hw d_Mod_polling_148 ?_
      refine lv_icmp_eq (tgt := 171) hx hb d_Mod_polling_151 rfl (fun c4 => ?_) (fun c4 => ?_)
      · have h := br1 c4 h
        refine lv_aload_n hx hb d_Mod_polling_171 rfl (lv_at hl 0 rfl) ?_
        refine lv_aload_n hx hb d_Mod_polling_172 rfl (lv_at hl 0 rfl) ?_
        refine gf_M_30_polled hC hK hw d_Mod_polling_173 ?_
        refine fx_sVr (As := [.int (u.1 6)]) hC hl.1 (fun q hq => c_Mod_behind l D ad cI cZ cT v u (u.1 6) q hq) fy_Mod_behind fv_Mod_behind kw_716 ⟨Nat.le_of_ble_eq_true rfl, Nat.le_of_ble_eq_true rfl⟩ rfl hK hA hw at_M_30 rfl rfl rfl (Nat.le_of_ble_eq_true rfl) d_Mod_polling_176 ⟨Nat.le_refl _, Nat.le_refl _⟩ h (fun H locs q5 h hw => ?_)
        refine lv_aload_n hx hb d_Mod_polling_179 rfl (lv_at hl 0 rfl) ?_
        refine gf_M_30_own hC hK hw d_Mod_polling_180 ?_
        refine lv_icmp_eq (tgt := 201) hx hb d_Mod_polling_183 rfl (fun c6 => ?_) (fun c6 => ?_)
        · have h := br1 c6 h
          refine lv_aload_n hx hb d_Mod_polling_201 rfl (lv_at hl 0 rfl) ?_
          refine lv_iconst (v := 1) hx hb d_Mod_polling_202 (by decide) ?_
          refine pf_M_30_sole hC hK hw (by decide) d_Mod_polling_203 h (fun H locs u7 h hw => ?_)
          refine lv_aload_n hx hb d_Mod_polling_206 rfl (lv_at hl 0 rfl) ?_
          refine lv_iconst (v := 1) hx hb d_Mod_polling_207 (by decide) ?_
          refine pf_M_30_state hC hK hw d_Mod_polling_208 h (fun H locs u8 h hw => ?_)
          refine lv_iconst (v := 1) hx hb d_Mod_polling_211 (by decide) ?_
          exact fx_retw hC hr (by decide) hK hw h d_Mod_polling_212
        · have h := br0 c6 h
          refine lv_aload_n hx hb d_Mod_polling_186 rfl (lv_at hl 0 rfl) ?_
          refine lv_aload_n hx hb d_Mod_polling_187 rfl (lv_at hl 0 rfl) ?_
          refine lv_aload_n hx hb d_Mod_polling_188 rfl (lv_at hl 0 rfl) ?_
          refine gf_M_30_polled hC hK hw d_Mod_polling_189 ?_
          refine fx_sVr (As := [.int (u.1 6)]) hC hl.1 (fun q hq => c_Mod_behind l D ad cI cZ cT v u (u.1 6) q hq) fy_Mod_behind fv_Mod_behind kw_716 ⟨Nat.le_of_ble_eq_true rfl, Nat.le_of_ble_eq_true rfl⟩ rfl hK hA hw at_M_30 rfl rfl rfl (Nat.le_of_ble_eq_true rfl) d_Mod_polling_192 ⟨Nat.le_refl _, Nat.le_refl _⟩ h (fun H locs q9 h hw => ?_)
          refine fx_sVv (As := [.int q9]) hC hl.1 (fun q hq => c_Mod_poll l D ad cI cZ cT v u q9 q hq) fy_Mod_poll fv_Mod_poll kw_720 ⟨Nat.le_of_ble_eq_true rfl, Nat.le_of_ble_eq_true rfl⟩ rfl hK hA hw at_M_30 rfl rfl rfl (Nat.le_of_ble_eq_true rfl) d_Mod_polling_195 ⟨Nat.le_refl _, Nat.le_refl _⟩ h (fun H locs q10 h hw => ?_)
          refine lv_goto (tgt := 211) hx hb d_Mod_polling_198 rfl ?_
          refine lv_iconst (v := 1) hx hb d_Mod_polling_211 (by decide) ?_
          exact fx_retw hC hr (by decide) hK hw h d_Mod_polling_212
      · have h := br0 c4 h
        refine lv_aload_n hx hb d_Mod_polling_154 rfl (lv_at hl 0 rfl) ?_
        refine lv_iconst (v := 0) hx hb d_Mod_polling_155 (by decide) ?_
        refine pf_M_30_tries hC hK hw d_Mod_polling_156 h (fun H locs u11 h hw => ?_)
        refine lv_aload_n hx hb d_Mod_polling_159 rfl (lv_at hl 0 rfl) ?_
        refine fx_sVv (As := []) hC hl.1 (fun q hq => c_Mod_pass l D ad cI cZ cT v u11 q hq) fy_Mod_pass fv_Mod_pass kw_724 ⟨Nat.le_of_ble_eq_true rfl, Nat.le_of_ble_eq_true rfl⟩ rfl hK hA hw at_M_30 rfl rfl rfl (Nat.le_of_ble_eq_true rfl) d_Mod_polling_160 ⟨Nat.le_refl _, Nat.le_refl _⟩ h (fun H locs q12 h hw => ?_)
        refine lv_aload_n hx hb d_Mod_polling_163 rfl (lv_at hl 0 rfl) ?_
        refine lv_iconst (v := 4) hx hb d_Mod_polling_164 (by decide) ?_
        refine pf_M_30_state hC hK hw d_Mod_polling_165 h (fun H locs u13 h hw => ?_)
        refine lv_goto (tgt := 211) hx hb d_Mod_polling_168 rfl ?_
        refine lv_iconst (v := 1) hx hb d_Mod_polling_211 (by decide) ?_
        exact fx_retw hC hr (by decide) hK hw h d_Mod_polling_212
    · have h := br0 c3 h
      refine lv_aload_n hx hb d_Mod_polling_135 rfl (lv_at hl 0 rfl) ?_
      refine lv_iconst (v := 1) hx hb d_Mod_polling_136 (by decide) ?_
      refine pf_M_30_state hC hK hw d_Mod_polling_137 h (fun H locs u14 h hw => ?_)
      refine lv_goto (tgt := 211) hx hb d_Mod_polling_140 rfl ?_
      refine lv_iconst (v := 1) hx hb d_Mod_polling_211 (by decide) ?_
      exact fx_retw hC hr (by decide) hK hw h d_Mod_polling_212
  have J69 : ∀ (u : ST) (y1 y2 s0 : Int32) (ls : Array Slot) (H : Heap) (locs : List Loc), f_Mod_polling_J69 u y1 y2 s0 = some q → lv_has ls 3 [(0, .ref (ad 30)), (1, .int y1), (2, .int y2)] → fw D A s.heap (wM ad cI cZ cT v u) H locs → WX (wM ad cI cZ cT v) p l e 3 70 s m [.ref (ad 30)] below meth c A D (tyC cI cZ cT) (some (.int q.1)) q.2 H locs (F0 m 69 ls [.int s0, .ref (ad 30)]) := by
    intro u y1 y2 s0 ls H locs h hl hw
    rw [f_Mod_polling_J69] at h
    refine pf_M_30_state hC hK hw d_Mod_polling_69 h (fun H locs u18 h hw => ?_)
    refine lv_iload_n hx hb d_Mod_polling_72 rfl (lv_at hl 2 rfl) ?_
    refine lv_if_eq (tgt := 108) hx hb d_Mod_polling_73 rfl (fun c19 => ?_) (fun c19 => ?_)
    · have h := br1 c19 h
      refine lv_iconst (v := 1) hx hb d_Mod_polling_108 (by decide) ?_
      exact fx_retw hC hr (by decide) hK hw h d_Mod_polling_109
    · have h := br0 c19 h
      refine lv_aload_n hx hb d_Mod_polling_76 rfl (lv_at hl 0 rfl) ?_
      refine lv_iconst (v := 0) hx hb d_Mod_polling_77 (by decide) ?_
      refine pf_M_30_sole hC hK hw (by decide) d_Mod_polling_78 h (fun H locs u20 h hw => ?_)
      refine lv_aload_n hx hb d_Mod_polling_81 rfl (lv_at hl 0 rfl) ?_
      refine lv_iload_n hx hb d_Mod_polling_82 rfl (lv_at hl 1 rfl) ?_
      refine pf_M_30_next hC hK hw d_Mod_polling_83 h (fun H locs u21 h hw => ?_)
      refine lv_aload_n hx hb d_Mod_polling_86 rfl (lv_at hl 0 rfl) ?_
      refine lv_aload_n hx hb d_Mod_polling_87 rfl (lv_at hl 0 rfl) ?_
      refine gf_M_30_own hC hK hw d_Mod_polling_88 ?_
      refine pf_M_30_polled hC hK hw d_Mod_polling_91 h (fun H locs u22 h hw => ?_)
      refine lv_aload_n hx hb d_Mod_polling_94 rfl (lv_at hl 0 rfl) ?_
      refine lv_iconst (v := 0) hx hb d_Mod_polling_95 (by decide) ?_
      refine pf_M_30_tokens hC hK hw d_Mod_polling_96 h (fun H locs u23 h hw => ?_)
      refine lv_aload_n hx hb d_Mod_polling_99 rfl (lv_at hl 0 rfl) ?_
      refine lv_iconst (v := 0) hx hb d_Mod_polling_100 (by decide) ?_
      refine pf_M_30_tries hC hK hw d_Mod_polling_101 h (fun H locs u24 h hw => ?_)
      refine lv_aload_n hx hb d_Mod_polling_104 rfl (lv_at hl 0 rfl) ?_
      refine fx_sVv (As := []) hC hl.1 (fun q hq => c_Mod_pass l D ad cI cZ cT v u24 q hq) fy_Mod_pass fv_Mod_pass kw_724 ⟨Nat.le_of_ble_eq_true rfl, Nat.le_of_ble_eq_true rfl⟩ rfl hK hA hw at_M_30 rfl rfl rfl (Nat.le_of_ble_eq_true rfl) d_Mod_polling_105 ⟨Nat.le_refl _, Nat.le_refl _⟩ h (fun H locs q25 h hw => ?_)
      refine lv_iconst (v := 1) hx hb d_Mod_polling_108 (by decide) ?_
      exact fx_retw hC hr (by decide) hK hw h d_Mod_polling_109
  have J58 : ∀ (u : ST) (y1 s0 : Int32) (ls : Array Slot) (H : Heap) (locs : List Loc), f_Mod_polling_J58 u y1 s0 = some q → lv_has ls 3 [(0, .ref (ad 30)), (1, .int y1)] → fw D A s.heap (wM ad cI cZ cT v u) H locs → WX (wM ad cI cZ cT v) p l e 3 70 s m [.ref (ad 30)] below meth c A D (tyC cI cZ cT) (some (.int q.1)) q.2 H locs (F0 m 58 ls [.int s0]) := by
    intro u y1 s0 ls H locs h hl hw
    rw [f_Mod_polling_J58] at h
    refine lv_istore_n (lv' := [(2, .int s0), (0, .ref (ad 30)), (1, .int y1)]) hx hb d_Mod_polling_58 rfl hl (by decide) rfl (fun ls hl => ?_)
    refine lv_aload_n hx hb d_Mod_polling_59 rfl (lv_at hl 1 rfl) ?_
    refine lv_iload_n hx hb d_Mod_polling_60 rfl (lv_at hl 0 rfl) ?_
    refine lv_if_eq (tgt := 68) hx hb d_Mod_polling_61 rfl (fun c17 => ?_) (fun c17 => ?_)
    · have h := br1 c17 h
      refine lv_iconst (v := 0) hx hb d_Mod_polling_68 (by decide) ?_
      exact J69 _ _ _ _ _ _ _ h (lv_sub hl [1, 2, 0] rfl) hw
    · have h := br0 c17 h
      refine lv_iconst (v := 4) hx hb d_Mod_polling_64 (by decide) ?_
      refine lv_goto (tgt := 69) hx hb d_Mod_polling_65 rfl ?_
      exact J69 _ _ _ _ _ _ _ h (lv_sub hl [1, 2, 0] rfl) hw
  have J57 : ∀ (u : ST) (y1 : Int32) (ls : Array Slot) (H : Heap) (locs : List Loc), f_Mod_polling_J57 u y1 = some q → lv_has ls 3 [(0, .ref (ad 30)), (1, .int y1)] → fw D A s.heap (wM ad cI cZ cT v u) H locs → WX (wM ad cI cZ cT v) p l e 3 70 s m [.ref (ad 30)] below meth c A D (tyC cI cZ cT) (some (.int q.1)) q.2 H locs (F0 m 57 ls []) := by
    intro u y1 ls H locs h hl hw
    rw [f_Mod_polling_J57] at h
    refine lv_iconst (v := 0) hx hb d_Mod_polling_57 (by decide) ?_
    exact J58 _ _ _ _ _ _ h (lv_sub hl [0, 1] rfl) hw
  rw [f_Mod_polling] at h
  refine lv_aload_n hx hb d_Mod_polling_0 rfl (lv_at hl 0 rfl) ?_
  refine gf_M_30_heard hC hK hw d_Mod_polling_1 ?_
  refine lv_if_eq (tgt := 110) hx hb d_Mod_polling_4 rfl (fun c1 => ?_) (fun c1 => ?_)
  · have h := br1 c1 h
    refine lv_aload_n hx hb d_Mod_polling_110 rfl (lv_at hl 0 rfl) ?_
    refine gf_M_30_invalid hC hK hw d_Mod_polling_111 ?_
    refine lv_if_ne (tgt := 128) hx hb d_Mod_polling_114 rfl (fun c2 => ?_) (fun c2 => ?_)
    · have h := br0 c2 h
      exact J128 _ _ _ _ h (lv_sub hl [0] rfl) hw
    · have h := br1 c2 h
      refine lv_aload_n hx hb d_Mod_polling_117 rfl (lv_at hl 0 rfl) ?_
      refine gf_M_30_silence hC hK hw d_Mod_polling_118 ?_
      refine lv_bipush (v := 20) hx hb d_Mod_polling_121 (by decide) ?_
      refine lv_icmp_ge (tgt := 128) hx hb d_Mod_polling_123 rfl (fun c15 => ?_) (fun c15 => ?_)
      · have h := br1 c15 h
        exact J128 _ _ _ _ h (lv_sub hl [0] rfl) hw
      · have h := br0 c15 h
        refine lv_iconst (v := 0) hx hb d_Mod_polling_126 (by decide) ?_
        exact fx_retw hC hr (by decide) hK hw h d_Mod_polling_127
  · have h := br0 c1 h
    refine lv_aload_n hx hb d_Mod_polling_7 rfl (lv_at hl 0 rfl) ?_
    refine gf_M_30_header hC hK hw d_Mod_polling_8 ?_
    refine lv_iconst (v := 2) hx hb d_Mod_polling_11 (by decide) ?_
    refine al_M_31 hC hK hw d_Mod_polling_12 h (fun h => ?_)
    refine lv_istore_n (lv' := [(1, .int (u.2 0 (2 : Int32).toNatClampNeg)), (0, .ref (ad 30))]) hx hb d_Mod_polling_13 rfl hl (by decide) rfl (fun ls hl => ?_)
    refine lv_aload_n hx hb d_Mod_polling_14 rfl (lv_at hl 1 rfl) ?_
    refine gf_M_30_header hC hK hw d_Mod_polling_15 ?_
    refine lv_iconst (v := 1) hx hb d_Mod_polling_18 (by decide) ?_
    refine al_M_31 hC hK hw d_Mod_polling_19 h (fun h => ?_)
    refine lv_aload_n hx hb d_Mod_polling_20 rfl (lv_at hl 1 rfl) ?_
    refine gf_M_30_own hC hK hw d_Mod_polling_21 ?_
    refine lv_icmp_ne (tgt := 57) hx hb d_Mod_polling_24 rfl (fun c16 => ?_) (fun c16 => ?_)
    · have h := br0 c16 h
      exact J57 _ _ _ _ _ h (lv_sub hl [1, 0] rfl) hw
    · have h := br1 c16 h
      refine lv_aload_n hx hb d_Mod_polling_27 rfl (lv_at hl 1 rfl) ?_
      refine gf_M_30_header hC hK hw d_Mod_polling_28 ?_
      refine lv_iconst (v := 0) hx hb d_Mod_polling_31 (by decide) ?_
      refine al_M_31 hC hK hw d_Mod_polling_32 h (fun h => ?_)
      refine lv_iconst (v := 2) hx hb d_Mod_polling_33 (by decide) ?_
      refine lv_icmp_ne (tgt := 57) hx hb d_Mod_polling_34 rfl (fun c26 => ?_) (fun c26 => ?_)
      · have h := br0 c26 h
        exact J57 _ _ _ _ _ h (lv_sub hl [1, 0] rfl) hw
      · have h := br1 c26 h
        refine lv_iload_n hx hb d_Mod_polling_37 rfl (lv_at hl 0 rfl) ?_
        refine lv_aload_n hx hb d_Mod_polling_38 rfl (lv_at hl 1 rfl) ?_
        refine gf_M_30_most hC hK hw d_Mod_polling_39 ?_
        refine lv_icmp_gt (tgt := 57) hx hb d_Mod_polling_42 rfl (fun c27 => ?_) (fun c27 => ?_)
        · have h := br1 c27 h
          exact J57 _ _ _ _ _ h (lv_sub hl [1, 0] rfl) hw
        · have h := br0 c27 h
          refine lv_iload_n hx hb d_Mod_polling_45 rfl (lv_at hl 0 rfl) ?_
          refine lv_aload_n hx hb d_Mod_polling_46 rfl (lv_at hl 1 rfl) ?_
          refine gf_M_30_own hC hK hw d_Mod_polling_47 ?_
          refine lv_icmp_eq (tgt := 57) hx hb d_Mod_polling_50 rfl (fun c28 => ?_) (fun c28 => ?_)
          · have h := br1 c28 h
            exact J57 _ _ _ _ _ h (lv_sub hl [1, 0] rfl) hw
          · have h := br0 c28 h
            refine lv_iconst (v := 1) hx hb d_Mod_polling_53 (by decide) ?_
            refine lv_goto (tgt := 58) hx hb d_Mod_polling_54 rfl ?_
            exact J58 _ _ _ _ _ _ h (lv_sub hl [1, 0] rfl) hw
def f_Mod_step (u : ST)  : Option (Int32 × ST) :=
  if (u.1 4) = 0 then
    k_bd (f_Mod_idle u) fun q2 =>
    k_gd (isz q2.1) (
    some (q2.1, q2.2))
  else
  if (u.1 4) = 1 then
    k_bd (f_Mod_use u) fun q5 =>
    k_gd (isz q5.1) (
    some (q5.1, q5.2))
  else
  if (u.1 4) = 2 then
    k_bd (f_Mod_awaits u) fun q8 =>
    k_gd (isz q8.1) (
    some (q8.1, q8.2))
  else
  if (u.1 4) = 3 then
    k_bd (f_Mod_done u) fun q11 =>
    k_gd (isz q11.1) (
    some (q11.1, q11.2))
  else
  if (u.1 4) = 4 then
    k_bd (f_Mod_passing u) fun q14 =>
    k_gd (isz q14.1) (
    some (q14.1, q14.2))
  else
  if (u.1 4) = 5 then
    k_bd (f_Mod_lost u) fun q17 =>
    k_gd (isz q17.1) (
    some (q17.1, q17.2))
  else
  k_bd (f_Mod_polling u) fun q19 =>
  k_gd (isz q19.1) (
  some (q19.1, q19.2))
set_option maxHeartbeats 4000000 in
set_option maxRecDepth 100000 in
theorem c_Mod_step (l : Launch) (D : va_G) (ad : Nat → Nat) (cI cZ cT : ClassId) (v u : ST) (q : Int32 × ST) (h : f_Mod_step u = some q) : MX l D (tyC cI cZ cT) (wM ad cI cZ cT v) y_Mod_step cd_Mod_step 7 170 [.ref (ad 30)] u (some (.int q.1)) q.2 := by
  refine MX.start (by decide) (Nat.le_of_ble_eq_true rfl) ?_
  intro p e s m below meth c ls A hC hr hl hK hA hw
  have ⟨hx, hb, hml, hown, hT, hlk⟩ := hC
  have hl : lv_has ls 1 [(0, .ref (ad 30))] := hl
  rw [f_Mod_step] at h
  refine lv_aload_n hx hb d_Mod_step_0 rfl (lv_at hl 0 rfl) ?_
  refine gf_M_30_state hC hK hw d_Mod_step_1 ?_
  by_cases c1 : (u.1 4) = 0
  · have h := br1 c1 h
    refine lv_tableIn (tgt := 44) hx hb d_Mod_step_4 (by rw [c1]; decide) (by rw [c1]; decide) (off := 40) (by rw [c1]; decide) rfl ?_
    refine lv_aload_n hx hb d_Mod_step_44 rfl (lv_at hl 0 rfl) ?_
    refine fx_sVi (As := []) hC hl.1 (fun q hq => c_Mod_idle l D ad cI cZ cT v u q hq) fy_Mod_idle fv_Mod_idle kw_637 ⟨Nat.le_of_ble_eq_true rfl, Nat.le_of_ble_eq_true rfl⟩ rfl hK hA hw at_M_30 rfl rfl rfl (Nat.le_of_ble_eq_true rfl) d_Mod_step_45 ⟨Nat.le_refl _, Nat.le_refl _⟩ h (fun H locs q2 h hw => ?_)
    obtain ⟨g3, h⟩ := k_gd_some h
    exact fx_retw hC hr (isz_nar g3) hK hw h d_Mod_step_48
  · have h := br0 c1 h
    by_cases c4 : (u.1 4) = 1
    · have h := br1 c4 h
      refine lv_tableIn (tgt := 49) hx hb d_Mod_step_4 (by rw [c4]; decide) (by rw [c4]; decide) (off := 45) (by rw [c4]; decide) rfl ?_
      refine lv_aload_n hx hb d_Mod_step_49 rfl (lv_at hl 0 rfl) ?_
      refine fx_sVi (As := []) hC hl.1 (fun q hq => c_Mod_use l D ad cI cZ cT v u q hq) fy_Mod_use fv_Mod_use kw_704 ⟨Nat.le_of_ble_eq_true rfl, Nat.le_of_ble_eq_true rfl⟩ rfl hK hA hw at_M_30 rfl rfl rfl (Nat.le_of_ble_eq_true rfl) d_Mod_step_50 ⟨Nat.le_refl _, Nat.le_refl _⟩ h (fun H locs q5 h hw => ?_)
      obtain ⟨g6, h⟩ := k_gd_some h
      exact fx_retw hC hr (isz_nar g6) hK hw h d_Mod_step_53
    · have h := br0 c4 h
      by_cases c7 : (u.1 4) = 2
      · have h := br1 c7 h
        refine lv_tableIn (tgt := 54) hx hb d_Mod_step_4 (by rw [c7]; decide) (by rw [c7]; decide) (off := 50) (by rw [c7]; decide) rfl ?_
        refine lv_aload_n hx hb d_Mod_step_54 rfl (lv_at hl 0 rfl) ?_
        refine fx_sVi (As := []) hC hl.1 (fun q hq => c_Mod_awaits l D ad cI cZ cT v u q hq) fy_Mod_awaits fv_Mod_awaits kw_708 ⟨Nat.le_of_ble_eq_true rfl, Nat.le_of_ble_eq_true rfl⟩ rfl hK hA hw at_M_30 rfl rfl rfl (Nat.le_of_ble_eq_true rfl) d_Mod_step_55 ⟨Nat.le_refl _, Nat.le_refl _⟩ h (fun H locs q8 h hw => ?_)
        obtain ⟨g9, h⟩ := k_gd_some h
        exact fx_retw hC hr (isz_nar g9) hK hw h d_Mod_step_58
      · have h := br0 c7 h
        by_cases c10 : (u.1 4) = 3
        · have h := br1 c10 h
          refine lv_tableIn (tgt := 59) hx hb d_Mod_step_4 (by rw [c10]; decide) (by rw [c10]; decide) (off := 55) (by rw [c10]; decide) rfl ?_
          refine lv_aload_n hx hb d_Mod_step_59 rfl (lv_at hl 0 rfl) ?_
          refine fx_sVi (As := []) hC hl.1 (fun q hq => c_Mod_done l D ad cI cZ cT v u q hq) fy_Mod_done fv_Mod_done kw_712 ⟨Nat.le_of_ble_eq_true rfl, Nat.le_of_ble_eq_true rfl⟩ rfl hK hA hw at_M_30 rfl rfl rfl (Nat.le_of_ble_eq_true rfl) d_Mod_step_60 ⟨Nat.le_refl _, Nat.le_refl _⟩ h (fun H locs q11 h hw => ?_)
          obtain ⟨g12, h⟩ := k_gd_some h
          exact fx_retw hC hr (isz_nar g12) hK hw h d_Mod_step_63
        · have h := br0 c10 h
          by_cases c13 : (u.1 4) = 4
          · have h := br1 c13 h
            refine lv_tableIn (tgt := 64) hx hb d_Mod_step_4 (by rw [c13]; decide) (by rw [c13]; decide) (off := 60) (by rw [c13]; decide) rfl ?_
            refine lv_aload_n hx hb d_Mod_step_64 rfl (lv_at hl 0 rfl) ?_
            refine fx_sVi (As := []) hC hl.1 (fun q hq => c_Mod_passing l D ad cI cZ cT v u q hq) fy_Mod_passing fv_Mod_passing kw_728 ⟨Nat.le_of_ble_eq_true rfl, Nat.le_of_ble_eq_true rfl⟩ rfl hK hA hw at_M_30 rfl rfl rfl (Nat.le_of_ble_eq_true rfl) d_Mod_step_65 ⟨Nat.le_refl _, Nat.le_refl _⟩ h (fun H locs q14 h hw => ?_)
            obtain ⟨g15, h⟩ := k_gd_some h
            exact fx_retw hC hr (isz_nar g15) hK hw h d_Mod_step_68
          · have h := br0 c13 h
            by_cases c16 : (u.1 4) = 5
            · have h := br1 c16 h
              refine lv_tableIn (tgt := 69) hx hb d_Mod_step_4 (by rw [c16]; decide) (by rw [c16]; decide) (off := 65) (by rw [c16]; decide) rfl ?_
              refine lv_aload_n hx hb d_Mod_step_69 rfl (lv_at hl 0 rfl) ?_
              refine fx_sVi (As := []) hC hl.1 (fun q hq => c_Mod_lost l D ad cI cZ cT v u q hq) fy_Mod_lost fv_Mod_lost kw_732 ⟨Nat.le_of_ble_eq_true rfl, Nat.le_of_ble_eq_true rfl⟩ rfl hK hA hw at_M_30 rfl rfl rfl (Nat.le_of_ble_eq_true rfl) d_Mod_step_70 ⟨Nat.le_refl _, Nat.le_refl _⟩ h (fun H locs q17 h hw => ?_)
              obtain ⟨g18, h⟩ := k_gd_some h
              exact fx_retw hC hr (isz_nar g18) hK hw h d_Mod_step_73
            · have h := br0 c16 h
              refine lv_tableOut (tgt := 74) hx hb d_Mod_step_4 (sw_out5 c1 c4 c7 c10 c13 c16) rfl ?_
              refine lv_aload_n hx hb d_Mod_step_74 rfl (lv_at hl 0 rfl) ?_
              refine fx_sVi (As := []) hC hl.1 (fun q hq => c_Mod_polling l D ad cI cZ cT v u q hq) fy_Mod_polling fv_Mod_polling kw_736 ⟨Nat.le_of_ble_eq_true rfl, Nat.le_of_ble_eq_true rfl⟩ rfl hK hA hw at_M_30 rfl rfl rfl (Nat.le_of_ble_eq_true rfl) d_Mod_step_75 ⟨Nat.le_refl _, Nat.le_refl _⟩ h (fun H locs q19 h hw => ?_)
              obtain ⟨g20, h⟩ := k_gd_some h
              exact fx_retw hC hr (isz_nar g20) hK hw h d_Mod_step_78
