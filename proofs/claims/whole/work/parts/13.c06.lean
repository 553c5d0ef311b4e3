def f_PT_lostLine (u : ST)  : Option (Int32 × ST) :=
  if (u.1 8) ≤ 4 then
    if (u.1 9) < (500 + (10 * (u.1 0))) then
      some (0, u)
    else
    k_bd (f_PT_behind u (u.1 0)) fun q3 =>
    k_bd (f_PT_poll u q3) fun q4 =>
    k_let (ss q4 3 (q4.1 0)) fun u5 =>
    k_let (ss u5 5 0) fun u6 =>
    some (1, u6)
  else
  k_let (ss u 2 0) fun u7 =>
  some (1, u7)
set_option maxHeartbeats 4000000 in
set_option maxRecDepth 100000 in
theorem c_PT_lostLine (l : Launch) (D : va_G) (ad : Nat → Nat) (cI cZ cT : ClassId) (v u : ST) (q : Int32 × ST) (h : f_PT_lostLine u = some q) : MX l D (tyC cI cZ cT) (wC ad cI cZ cT v) y_PT_lostLine cd_PT_lostLine 4 93 [.ref (ad 0)] u (some (.int q.1)) q.2 := by
  refine MX.start (by decide) (Nat.le_of_ble_eq_true rfl) ?_
  intro p e s m below meth c ls A hC hr hl hK hA hw
  have ⟨hx, hb, hml, hown, hT, hlk⟩ := hC
  have hl : lv_has ls 1 [(0, .ref (ad 0))] := hl
  rw [f_PT_lostLine] at h
  refine lv_aload_n hx hb d_PT_lostLine_0 rfl (lv_at hl 0 rfl) ?_
  refine gf_C_0_events hC hK hw d_PT_lostLine_1 ?_
  refine lv_iconst (v := 4) hx hb d_PT_lostLine_4 (by decide) ?_
  refine lv_icmp_le (tgt := 15) hx hb d_PT_lostLine_5 rfl (fun c1 => ?_) (fun c1 => ?_)
  · have h := br1 c1 h
    refine lv_aload_n hx hb d_PT_lostLine_15 rfl (lv_at hl 0 rfl) ?_
    refine gf_C_0_stillness hC hK hw d_PT_lostLine_16 ?_
    refine lv_sipush (v := 500) hx hb d_PT_lostLine_19 (by decide) ?_
    refine lv_bipush (v := 10) hx hb d_PT_lostLine_22 (by decide) ?_
    refine lv_aload_n hx hb d_PT_lostLine_24 rfl (lv_at hl 0 rfl) ?_
    refine gf_C_0_own hC hK hw d_PT_lostLine_25 ?_
    refine lv_imul hx hb d_PT_lostLine_28 ?_
    refine lv_iadd hx hb d_PT_lostLine_29 ?_
    refine lv_icmp_lt (tgt := 60) hx hb d_PT_lostLine_30 rfl (fun c2 => ?_) (fun c2 => ?_)
    · have h := br1 c2 h
      refine lv_iconst (v := 0) hx hb d_PT_lostLine_60 (by decide) ?_
      exact fx_retw hC hr (by decide) hK hw h d_PT_lostLine_61
    · have h := br0 c2 h
      refine lv_aload_n hx hb d_PT_lostLine_33 rfl (lv_at hl 0 rfl) ?_
      refine lv_aload_n hx hb d_PT_lostLine_34 rfl (lv_at hl 0 rfl) ?_
      refine lv_aload_n hx hb d_PT_lostLine_35 rfl (lv_at hl 0 rfl) ?_
      refine gf_C_0_own hC hK hw d_PT_lostLine_36 ?_
      refine fx_sVr (As := [.int (u.1 0)]) hC hl.1 (fun q hq => c_PT_behind l D ad cI cZ cT v u (u.1 0) q hq) fy_PT_behind fv_PT_behind kw_421 ⟨Nat.le_of_ble_eq_true rfl, Nat.le_of_ble_eq_true rfl⟩ rfl hK hA hw at_C_0 rfl rfl rfl (Nat.le_of_ble_eq_true rfl) d_PT_lostLine_39 ⟨Nat.le_refl _, Nat.le_refl _⟩ h (fun H locs q3 h hw => ?_)
      refine fx_sVv (As := [.int q3]) hC hl.1 (fun q hq => c_PT_poll l D ad cI cZ cT v u q3 q hq) fy_PT_poll fv_PT_poll kw_425 ⟨Nat.le_of_ble_eq_true rfl, Nat.le_of_ble_eq_true rfl⟩ rfl hK hA hw at_C_0 rfl rfl rfl (Nat.le_of_ble_eq_true rfl) d_PT_lostLine_42 ⟨Nat.le_refl _, Nat.le_refl _⟩ h (fun H locs q4 h hw => ?_)
      refine lv_aload_n hx hb d_PT_lostLine_45 rfl (lv_at hl 0 rfl) ?_
      refine lv_aload_n hx hb d_PT_lostLine_46 rfl (lv_at hl 0 rfl) ?_
      refine gf_C_0_own hC hK hw d_PT_lostLine_47 ?_
      refine pf_C_0_next hC hK hw d_PT_lostLine_50 h (fun H locs u5 h hw => ?_)
      refine lv_aload_n hx hb d_PT_lostLine_53 rfl (lv_at hl 0 rfl) ?_
      refine lv_iconst (v := 0) hx hb d_PT_lostLine_54 (by decide) ?_
      refine pf_C_0_tokens hC hK hw d_PT_lostLine_55 h (fun H locs u6 h hw => ?_)
      refine lv_iconst (v := 1) hx hb d_PT_lostLine_58 (by decide) ?_
      exact fx_retw hC hr (by decide) hK hw h d_PT_lostLine_59
  · have h := br0 c1 h
    refine lv_aload_n hx hb d_PT_lostLine_8 rfl (lv_at hl 0 rfl) ?_
    refine lv_iconst (v := 0) hx hb d_PT_lostLine_9 (by decide) ?_
    refine pf_C_0_mode hC hK hw d_PT_lostLine_10 h (fun H locs u7 h hw => ?_)
    refine lv_iconst (v := 1) hx hb d_PT_lostLine_13 (by decide) ?_
    exact fx_retw hC hr (by decide) hK hw h d_PT_lostLine_14
def f_PT_unansweredLine_J16 (u : ST)  : Option (Int32 × ST) :=
  if (u.1 7) = 0 then
    if (u.1 3) = (u.1 0) then
      k_bd (f_PT_behind u (u.1 4)) fun q4 =>
      if q4 = (u.1 0) then
        k_let (ss u 7 1) fun u6 =>
        k_let (ss u6 2 1) fun u7 =>
        some (1, u7)
      else
      k_bd (f_PT_behind u (u.1 4)) fun q8 =>
      k_bd (f_PT_poll u q8) fun q9 =>
      some (1, q9)
    else
    k_bd (f_PT_pass u 0) fun q10 =>
    some (1, q10)
  else
  k_let (ss u 2 1) fun u11 =>
  some (1, u11)
def f_PT_unansweredLine (u : ST) (x1 : Int32) : Option (Int32 × ST) :=
  if x1 = 2 then
    f_PT_unansweredLine_J16 u
  else
  if 20 ≤ (u.1 9) then
    f_PT_unansweredLine_J16 u
  else
  some (0, u)
set_option maxHeartbeats 4000000 in
set_option maxRecDepth 100000 in
theorem c_PT_unansweredLine (l : Launch) (D : va_G) (ad : Nat → Nat) (cI cZ cT : ClassId) (v u : ST) (x1 : Int32) (q : Int32 × ST) (h : f_PT_unansweredLine u x1 = some q) : MX l D (tyC cI cZ cT) (wC ad cI cZ cT v) y_PT_unansweredLine cd_PT_unansweredLine 4 93 [.ref (ad 0), .int x1] u (some (.int q.1)) q.2 := by
  refine MX.start (by decide) (Nat.le_of_ble_eq_true rfl) ?_
  intro p e s m below meth c ls A hC hr hl hK hA hw
  have ⟨hx, hb, hml, hown, hT, hlk⟩ := hC
  have hl : lv_has ls 2 [(0, .ref (ad 0)), (1, .int x1)] := hl
  have J16 : ∀ (u : ST) (ls : Array Slot) (H : Heap) (locs : List Loc), f_PT_unansweredLine_J16 u = some q → lv_has ls 2 [(0, .ref (ad 0))] → fw D A s.heap (wC ad cI cZ cT v u) H locs → WX (wC ad cI cZ cT v) p l e 4 93 s m [.ref (ad 0), .int x1] below meth c A D (tyC cI cZ cT) (some (.int q.1)) q.2 H locs (F0 m 16 ls []) := by
    intro u ls H locs h hl hw
    rw [f_PT_unansweredLine_J16] at h
    refine lv_aload_n hx hb d_PT_unansweredLine_16 rfl (lv_at hl 0 rfl) ?_
    refine gf_C_0_sole hC hK hw d_PT_unansweredLine_17 ?_
    refine lv_if_eq (tgt := 31) hx hb d_PT_unansweredLine_20 rfl (fun c2 => ?_) (fun c2 => ?_)
    · have h := br1 c2 h
      refine lv_aload_n hx hb d_PT_unansweredLine_31 rfl (lv_at hl 0 rfl) ?_
      refine gf_C_0_next hC hK hw d_PT_unansweredLine_32 ?_
      refine lv_aload_n hx hb d_PT_unansweredLine_35 rfl (lv_at hl 0 rfl) ?_
      refine gf_C_0_own hC hK hw d_PT_unansweredLine_36 ?_
      refine lv_icmp_eq (tgt := 50) hx hb d_PT_unansweredLine_39 rfl (fun c3 => ?_) (fun c3 => ?_)
      · have h := br1 c3 h
        refine lv_aload_n hx hb d_PT_unansweredLine_50 rfl (lv_at hl 0 rfl) ?_
        refine lv_aload_n hx hb d_PT_unansweredLine_51 rfl (lv_at hl 0 rfl) ?_
        refine gf_C_0_polled hC hK hw d_PT_unansweredLine_52 ?_
        refine fx_sVr (As := [.int (u.1 4)]) hC hl.1 (fun q hq => c_PT_behind l D ad cI cZ cT v u (u.1 4) q hq) fy_PT_behind fv_PT_behind kw_421 ⟨Nat.le_of_ble_eq_true rfl, Nat.le_of_ble_eq_true rfl⟩ rfl hK hA hw at_C_0 rfl rfl rfl (Nat.le_of_ble_eq_true rfl) d_PT_unansweredLine_55 ⟨Nat.le_refl _, Nat.le_refl _⟩ h (fun H locs q4 h hw => ?_)
        refine lv_aload_n hx hb d_PT_unansweredLine_58 rfl (lv_at hl 0 rfl) ?_
        refine gf_C_0_own hC hK hw d_PT_unansweredLine_59 ?_
        refine lv_icmp_eq (tgt := 80) hx hb d_PT_unansweredLine_62 rfl (fun c5 => ?_) (fun c5 => ?_)
        · have h := br1 c5 h
          refine lv_aload_n hx hb d_PT_unansweredLine_80 rfl (lv_at hl 0 rfl) ?_
          refine lv_iconst (v := 1) hx hb d_PT_unansweredLine_81 (by decide) ?_
          refine pf_C_0_sole hC hK hw (by decide) d_PT_unansweredLine_82 h (fun H locs u6 h hw => ?_)
          refine lv_aload_n hx hb d_PT_unansweredLine_85 rfl (lv_at hl 0 rfl) ?_
          refine lv_iconst (v := 1) hx hb d_PT_unansweredLine_86 (by decide) ?_
          refine pf_C_0_mode hC hK hw d_PT_unansweredLine_87 h (fun H locs u7 h hw => ?_)
          refine lv_iconst (v := 1) hx hb d_PT_unansweredLine_90 (by decide) ?_
          exact fx_retw hC hr (by decide) hK hw h d_PT_unansweredLine_91
        · have h := br0 c5 h
          refine lv_aload_n hx hb d_PT_unansweredLine_65 rfl (lv_at hl 0 rfl) ?_
          refine lv_aload_n hx hb d_PT_unansweredLine_66 rfl (lv_at hl 0 rfl) ?_
          refine lv_aload_n hx hb d_PT_unansweredLine_67 rfl (lv_at hl 0 rfl) ?_
          refine gf_C_0_polled hC hK hw d_PT_unansweredLine_68 ?_
          refine fx_sVr (As := [.int (u.1 4)]) hC hl.1 (fun q hq => c_PT_behind l D ad cI cZ cT v u (u.1 4) q hq) fy_PT_behind fv_PT_behind kw_421 ⟨Nat.le_of_ble_eq_true rfl, Nat.le_of_ble_eq_true rfl⟩ rfl hK hA hw at_C_0 rfl rfl rfl (Nat.le_of_ble_eq_true rfl) d_PT_unansweredLine_71 ⟨Nat.le_refl _, Nat.le_refl _⟩ h (fun H locs q8 h hw => ?_)
          refine fx_sVv (As := [.int q8]) hC hl.1 (fun q hq => c_PT_poll l D ad cI cZ cT v u q8 q hq) fy_PT_poll fv_PT_poll kw_425 ⟨Nat.le_of_ble_eq_true rfl, Nat.le_of_ble_eq_true rfl⟩ rfl hK hA hw at_C_0 rfl rfl rfl (Nat.le_of_ble_eq_true rfl) d_PT_unansweredLine_74 ⟨Nat.le_refl _, Nat.le_refl _⟩ h (fun H locs q9 h hw => ?_)
          refine lv_goto (tgt := 90) hx hb d_PT_unansweredLine_77 rfl ?_
          refine lv_iconst (v := 1) hx hb d_PT_unansweredLine_90 (by decide) ?_
          exact fx_retw hC hr (by decide) hK hw h d_PT_unansweredLine_91
      · have h := br0 c3 h
        refine lv_aload_n hx hb d_PT_unansweredLine_42 rfl (lv_at hl 0 rfl) ?_
        refine lv_iconst (v := 0) hx hb d_PT_unansweredLine_43 (by decide) ?_
        refine fx_sVv (As := [.int 0]) hC hl.1 (fun q hq => c_PT_pass l D ad cI cZ cT v u 0 q hq) fy_PT_pass fv_PT_pass kw_429 ⟨Nat.le_of_ble_eq_true rfl, Nat.le_of_ble_eq_true rfl⟩ rfl hK hA hw at_C_0 rfl rfl rfl (Nat.le_of_ble_eq_true rfl) d_PT_unansweredLine_44 ⟨Nat.le_refl _, Nat.le_refl _⟩ h (fun H locs q10 h hw => ?_)
        refine lv_goto (tgt := 90) hx hb d_PT_unansweredLine_47 rfl ?_
        refine lv_iconst (v := 1) hx hb d_PT_unansweredLine_90 (by decide) ?_
        exact fx_retw hC hr (by decide) hK hw h d_PT_unansweredLine_91
    · have h := br0 c2 h
      refine lv_aload_n hx hb d_PT_unansweredLine_23 rfl (lv_at hl 0 rfl) ?_
      refine lv_iconst (v := 1) hx hb d_PT_unansweredLine_24 (by decide) ?_
      refine pf_C_0_mode hC hK hw d_PT_unansweredLine_25 h (fun H locs u11 h hw => ?_)
      refine lv_goto (tgt := 90) hx hb d_PT_unansweredLine_28 rfl ?_
      refine lv_iconst (v := 1) hx hb d_PT_unansweredLine_90 (by decide) ?_
      exact fx_retw hC hr (by decide) hK hw h d_PT_unansweredLine_91
  rw [f_PT_unansweredLine] at h
  refine lv_iload_n hx hb d_PT_unansweredLine_0 rfl (lv_at hl 1 rfl) ?_
  refine lv_iconst (v := 2) hx hb d_PT_unansweredLine_1 (by decide) ?_
  refine lv_icmp_eq (tgt := 16) hx hb d_PT_unansweredLine_2 rfl (fun c1 => ?_) (fun c1 => ?_)
  · have h := br1 c1 h
    exact J16 _ _ _ _ h (lv_sub hl [0] rfl) hw
  · have h := br0 c1 h
    refine lv_aload_n hx hb d_PT_unansweredLine_5 rfl (lv_at hl 0 rfl) ?_
    refine gf_C_0_stillness hC hK hw d_PT_unansweredLine_6 ?_
    refine lv_bipush (v := 20) hx hb d_PT_unansweredLine_9 (by decide) ?_
    refine lv_icmp_ge (tgt := 16) hx hb d_PT_unansweredLine_11 rfl (fun c12 => ?_) (fun c12 => ?_)
    · have h := br1 c12 h
      exact J16 _ _ _ _ h (lv_sub hl [0] rfl) hw
    · have h := br0 c12 h
      refine lv_iconst (v := 0) hx hb d_PT_unansweredLine_14 (by decide) ?_
      exact fx_retw hC hr (by decide) hK hw h d_PT_unansweredLine_15
def f_PT_isOtherStation (u : ST) (x1 : Int32) : Option (Int32) :=
  if x1 < 0 then
    some 0
  else
  if (u.1 1) < x1 then
    some 0
  else
  if x1 = (u.1 0) then
    some 0
  else
  some 1
set_option maxHeartbeats 4000000 in
set_option maxRecDepth 100000 in
theorem c_PT_isOtherStation (l : Launch) (D : va_G) (ad : Nat → Nat) (cI cZ cT : ClassId) (v u : ST) (x1 : Int32) (q : Int32) (h : f_PT_isOtherStation u x1 = some q) : MX l D (tyC cI cZ cT) (wC ad cI cZ cT v) y_PT_isOtherStation cd_PT_isOtherStation 0 0 [.ref (ad 0), .int x1] u (some (.int q)) u := by
  refine MX.start (by decide) (Nat.le_of_ble_eq_true rfl) ?_
  intro p e s m below meth c ls A hC hr hl hK hA hw
  have ⟨hx, hb, hml, hown, hT, hlk⟩ := hC
  have hl : lv_has ls 2 [(0, .ref (ad 0)), (1, .int x1)] := hl
  rw [f_PT_isOtherStation] at h
  refine lv_iload_n hx hb d_PT_isOtherStation_0 rfl (lv_at hl 1 rfl) ?_
  refine lv_if_lt (tgt := 24) hx hb d_PT_isOtherStation_1 rfl (fun c1 => ?_) (fun c1 => ?_)
  · have h := br1 c1 h
    refine lv_iconst (v := 0) hx hb d_PT_isOtherStation_24 (by decide) ?_
    exact fx_retr hC hr (by decide) hK hw h d_PT_isOtherStation_25
  · have h := br0 c1 h
    refine lv_iload_n hx hb d_PT_isOtherStation_4 rfl (lv_at hl 1 rfl) ?_
    refine lv_aload_n hx hb d_PT_isOtherStation_5 rfl (lv_at hl 0 rfl) ?_
    refine gf_C_0_most hC hK hw d_PT_isOtherStation_6 ?_
    refine lv_icmp_gt (tgt := 24) hx hb d_PT_isOtherStation_9 rfl (fun c2 => ?_) (fun c2 => ?_)
    · have h := br1 c2 h
      refine lv_iconst (v := 0) hx hb d_PT_isOtherStation_24 (by decide) ?_
      exact fx_retr hC hr (by decide) hK hw h d_PT_isOtherStation_25
    · have h := br0 c2 h
      refine lv_iload_n hx hb d_PT_isOtherStation_12 rfl (lv_at hl 1 rfl) ?_
      refine lv_aload_n hx hb d_PT_isOtherStation_13 rfl (lv_at hl 0 rfl) ?_
      refine gf_C_0_own hC hK hw d_PT_isOtherStation_14 ?_
      refine lv_icmp_eq (tgt := 24) hx hb d_PT_isOtherStation_17 rfl (fun c3 => ?_) (fun c3 => ?_)
      · have h := br1 c3 h
        refine lv_iconst (v := 0) hx hb d_PT_isOtherStation_24 (by decide) ?_
        exact fx_retr hC hr (by decide) hK hw h d_PT_isOtherStation_25
      · have h := br0 c3 h
        refine lv_iconst (v := 1) hx hb d_PT_isOtherStation_20 (by decide) ?_
        refine lv_goto (tgt := 25) hx hb d_PT_isOtherStation_21 rfl ?_
        exact fx_retr hC hr (by decide) hK hw h d_PT_isOtherStation_25
def f_PT_answeredLine (u : ST)  : Option (Int32 × ST) :=
  k_bd (f_Ear_to u) fun q1 =>
  if q1 = (u.1 0) then
    k_bd (f_Ear_type u) fun q4 =>
    if q4 = 2 then
      k_bd (f_Ear_from u) fun q7 =>
      k_bd (f_PT_isOtherStation u q7) fun q8 =>
      if q8 = 0 then
        k_let (ss u 2 0) fun u10 =>
        some (1, u10)
      else
      k_let (ss u 7 0) fun u11 =>
      k_bd (f_Ear_from u11) fun q12 =>
      k_let (ss u11 3 q12) fun u13 =>
      k_let (ss u13 4 (u13.1 0)) fun u14 =>
      k_let (ss u14 5 0) fun u15 =>
      k_bd (f_PT_pass u15 0) fun q16 =>
      some (1, q16)
    else
    k_let (ss u 2 0) fun u6 =>
    some (1, u6)
  else
  k_let (ss u 2 0) fun u3 =>
  some (1, u3)
set_option maxHeartbeats 4000000 in
set_option maxRecDepth 100000 in
theorem c_PT_answeredLine (l : Launch) (D : va_G) (ad : Nat → Nat) (cI cZ cT : ClassId) (v u : ST) (q : Int32 × ST) (h : f_PT_answeredLine u = some q) : MX l D (tyC cI cZ cT) (wC ad cI cZ cT v) y_PT_answeredLine cd_PT_answeredLine 4 93 [.ref (ad 0)] u (some (.int q.1)) q.2 := by
  refine MX.start (by decide) (Nat.le_of_ble_eq_true rfl) ?_
  intro p e s m below meth c ls A hC hr hl hK hA hw
  have ⟨hx, hb, hml, hown, hT, hlk⟩ := hC
  have hl : lv_has ls 1 [(0, .ref (ad 0))] := hl
  rw [f_PT_answeredLine] at h
  refine lv_aload_n hx hb d_PT_answeredLine_0 rfl (lv_at hl 0 rfl) ?_
  refine gf_C_0_ear hC hK hw d_PT_answeredLine_1 ?_
  refine fx_sVr (As := []) hC hl.1 (fun q hq => c_Ear_to l D ad cI cZ cT v u q hq) fy_Ear_to fv_Ear_to kw_262 ⟨Nat.le_of_ble_eq_true rfl, Nat.le_of_ble_eq_true rfl⟩ rfl hK hA hw at_C_1 rfl rfl rfl (Nat.le_of_ble_eq_true rfl) d_PT_answeredLine_4 ⟨Nat.le_refl _, Nat.le_refl _⟩ h (fun H locs q1 h hw => ?_)
  refine lv_aload_n hx hb d_PT_answeredLine_7 rfl (lv_at hl 0 rfl) ?_
  refine gf_C_0_own hC hK hw d_PT_answeredLine_8 ?_
  refine lv_icmp_ne (tgt := 76) hx hb d_PT_answeredLine_11 rfl (fun c2 => ?_) (fun c2 => ?_)
  · have h := br0 c2 h
    refine lv_aload_n hx hb d_PT_answeredLine_76 rfl (lv_at hl 0 rfl) ?_
    refine lv_iconst (v := 0) hx hb d_PT_answeredLine_77 (by decide) ?_
    refine pf_C_0_mode hC hK hw d_PT_answeredLine_78 h (fun H locs u3 h hw => ?_)
    refine lv_iconst (v := 1) hx hb d_PT_answeredLine_81 (by decide) ?_
    exact fx_retw hC hr (by decide) hK hw h d_PT_answeredLine_82
  · have h := br1 c2 h
    refine lv_aload_n hx hb d_PT_answeredLine_14 rfl (lv_at hl 0 rfl) ?_
    refine gf_C_0_ear hC hK hw d_PT_answeredLine_15 ?_
    refine fx_sVr (As := []) hC hl.1 (fun q hq => c_Ear_type l D ad cI cZ cT v u q hq) fy_Ear_type fv_Ear_type kw_263 ⟨Nat.le_of_ble_eq_true rfl, Nat.le_of_ble_eq_true rfl⟩ rfl hK hA hw at_C_1 rfl rfl rfl (Nat.le_of_ble_eq_true rfl) d_PT_answeredLine_18 ⟨Nat.le_refl _, Nat.le_refl _⟩ h (fun H locs q4 h hw => ?_)
    refine lv_iconst (v := 2) hx hb d_PT_answeredLine_21 (by decide) ?_
    refine lv_icmp_ne (tgt := 76) hx hb d_PT_answeredLine_22 rfl (fun c5 => ?_) (fun c5 => ?_)
    · have h := br0 c5 h
      refine lv_aload_n hx hb d_PT_answeredLine_76 rfl (lv_at hl 0 rfl) ?_
      refine lv_iconst (v := 0) hx hb d_PT_answeredLine_77 (by decide) ?_
      refine pf_C_0_mode hC hK hw d_PT_answeredLine_78 h (fun H locs u6 h hw => ?_)
      refine lv_iconst (v := 1) hx hb d_PT_answeredLine_81 (by decide) ?_
      exact fx_retw hC hr (by decide) hK hw h d_PT_answeredLine_82
    · have h := br1 c5 h
      refine lv_aload_n hx hb d_PT_answeredLine_25 rfl (lv_at hl 0 rfl) ?_
      refine lv_aload_n hx hb d_PT_answeredLine_26 rfl (lv_at hl 0 rfl) ?_
      refine gf_C_0_ear hC hK hw d_PT_answeredLine_27 ?_
      refine fx_sVr (As := []) hC hl.1 (fun q hq => c_Ear_from l D ad cI cZ cT v u q hq) fy_Ear_from fv_Ear_from kw_267 ⟨Nat.le_of_ble_eq_true rfl, Nat.le_of_ble_eq_true rfl⟩ rfl hK hA hw at_C_1 rfl rfl rfl (Nat.le_of_ble_eq_true rfl) d_PT_answeredLine_30 ⟨Nat.le_refl _, Nat.le_refl _⟩ h (fun H locs q7 h hw => ?_)
      refine fx_sVr (As := [.int q7]) hC hl.1 (fun q hq => c_PT_isOtherStation l D ad cI cZ cT v u q7 q hq) fy_PT_isOtherStation fv_PT_isOtherStation kw_445 ⟨Nat.le_of_ble_eq_true rfl, Nat.le_of_ble_eq_true rfl⟩ rfl hK hA hw at_C_0 rfl rfl rfl (Nat.le_of_ble_eq_true rfl) d_PT_answeredLine_33 ⟨Nat.le_refl _, Nat.le_refl _⟩ h (fun H locs q8 h hw => ?_)
      refine lv_if_eq (tgt := 76) hx hb d_PT_answeredLine_36 rfl (fun c9 => ?_) (fun c9 => ?_)
      · have h := br1 c9 h
        refine lv_aload_n hx hb d_PT_answeredLine_76 rfl (lv_at hl 0 rfl) ?_
        refine lv_iconst (v := 0) hx hb d_PT_answeredLine_77 (by decide) ?_
        refine pf_C_0_mode hC hK hw d_PT_answeredLine_78 h (fun H locs u10 h hw => ?_)
        refine lv_iconst (v := 1) hx hb d_PT_answeredLine_81 (by decide) ?_
        exact fx_retw hC hr (by decide) hK hw h d_PT_answeredLine_82
      · have h := br0 c9 h
        refine lv_aload_n hx hb d_PT_answeredLine_39 rfl (lv_at hl 0 rfl) ?_
        refine lv_iconst (v := 0) hx hb d_PT_answeredLine_40 (by decide) ?_
        refine pf_C_0_sole hC hK hw (by decide) d_PT_answeredLine_41 h (fun H locs u11 h hw => ?_)
        refine lv_aload_n hx hb d_PT_answeredLine_44 rfl (lv_at hl 0 rfl) ?_
        refine lv_aload_n hx hb d_PT_answeredLine_45 rfl (lv_at hl 0 rfl) ?_
        refine gf_C_0_ear hC hK hw d_PT_answeredLine_46 ?_
        refine fx_sVr (As := []) hC hl.1 (fun q hq => c_Ear_from l D ad cI cZ cT v u11 q hq) fy_Ear_from fv_Ear_from kw_267 ⟨Nat.le_of_ble_eq_true rfl, Nat.le_of_ble_eq_true rfl⟩ rfl hK hA hw at_C_1 rfl rfl rfl (Nat.le_of_ble_eq_true rfl) d_PT_answeredLine_49 ⟨Nat.le_refl _, Nat.le_refl _⟩ h (fun H locs q12 h hw => ?_)
        refine pf_C_0_next hC hK hw d_PT_answeredLine_52 h (fun H locs u13 h hw => ?_)
        refine lv_aload_n hx hb d_PT_answeredLine_55 rfl (lv_at hl 0 rfl) ?_
        refine lv_aload_n hx hb d_PT_answeredLine_56 rfl (lv_at hl 0 rfl) ?_
        refine gf_C_0_own hC hK hw d_PT_answeredLine_57 ?_
        refine pf_C_0_polled hC hK hw d_PT_answeredLine_60 h (fun H locs u14 h hw => ?_)
        refine lv_aload_n hx hb d_PT_answeredLine_63 rfl (lv_at hl 0 rfl) ?_
        refine lv_iconst (v := 0) hx hb d_PT_answeredLine_64 (by decide) ?_
        refine pf_C_0_tokens hC hK hw d_PT_answeredLine_65 h (fun H locs u15 h hw => ?_)
        refine lv_aload_n hx hb d_PT_answeredLine_68 rfl (lv_at hl 0 rfl) ?_
        refine lv_iconst (v := 0) hx hb d_PT_answeredLine_69 (by decide) ?_
        refine fx_sVv (As := [.int 0]) hC hl.1 (fun q hq => c_PT_pass l D ad cI cZ cT v u15 0 q hq) fy_PT_pass fv_PT_pass kw_429 ⟨Nat.le_of_ble_eq_true rfl, Nat.le_of_ble_eq_true rfl⟩ rfl hK hA hw at_C_0 rfl rfl rfl (Nat.le_of_ble_eq_true rfl) d_PT_answeredLine_70 ⟨Nat.le_refl _, Nat.le_refl _⟩ h (fun H locs q16 h hw => ?_)
        refine lv_goto (tgt := 81) hx hb d_PT_answeredLine_73 rfl ?_
        refine lv_iconst (v := 1) hx hb d_PT_answeredLine_81 (by decide) ?_
        exact fx_retw hC hr (by decide) hK hw h d_PT_answeredLine_82
def f_PT_settle_L7 : Nat → ST → Int32 → Int32 → Int32 → Option (ST)
  | 0, _, _, _, _ => none
  | k_ + 1, u, y2, y3, y4 =>
    if y3 = 0 then
      some u
    else
    if 64 ≤ y4 then
      some u
    else
    if (u.1 2) = 0 then
      k_bd (f_PT_idleLine u y2) fun q4 =>
      f_PT_settle_L7 k_ q4.2 0 q4.1 (y4 + 1)
    else
    if (u.1 2) = 1 then
      k_bd (f_PT_useLine u) fun q6 =>
      f_PT_settle_L7 k_ q6.2 0 q6.1 (y4 + 1)
    else
    if (u.1 2) = 2 then
      k_bd (f_PT_waitLine u y2) fun q8 =>
      f_PT_settle_L7 k_ q8.2 0 q8.1 (y4 + 1)
    else
    if (u.1 2) = 3 then
      k_bd (f_PT_doneLine u) fun q10 =>
      f_PT_settle_L7 k_ q10.2 0 q10.1 (y4 + 1)
    else
    if (u.1 2) = 4 then
      k_bd (f_PT_passingLine u) fun q12 =>
      f_PT_settle_L7 k_ q12.2 0 q12.1 (y4 + 1)
    else
    if (u.1 2) = 5 then
      k_bd (f_PT_lostLine u) fun q14 =>
      f_PT_settle_L7 k_ q14.2 0 q14.1 (y4 + 1)
    else
    if y2 = 1 then
      k_bd (f_PT_answeredLine u) fun q17 =>
      f_PT_settle_L7 k_ q17.2 0 q17.1 (y4 + 1)
    else
    k_bd (f_PT_unansweredLine u y2) fun q16 =>
    f_PT_settle_L7 k_ q16.2 0 q16.1 (y4 + 1)
def f_PT_settle (u : ST) (x1 : Int32) : Option (ST) :=
  f_PT_settle_L7 200 u x1 1 0
set_option maxHeartbeats 4000000 in
set_option maxRecDepth 100000 in
theorem c_PT_settle (l : Launch) (D : va_G) (ad : Nat → Nat) (cI cZ cT : ClassId) (v u : ST) (x1 : Int32) (q : ST) (h : f_PT_settle u x1 = some q) : MX l D (tyC cI cZ cT) (wC ad cI cZ cT v) y_PT_settle cd_PT_settle 6 126 [.ref (ad 0), .int x1] u none q := by
  refine MX.start (by decide) (Nat.le_of_ble_eq_true rfl) ?_
  intro p e s m below meth c ls A hC hr hl hK hA hw
  have ⟨hx, hb, hml, hown, hT, hlk⟩ := hC
  have hl : lv_has ls 5 [(0, .ref (ad 0)), (1, .int x1)] := hl
  have L7 : ∀ (k_ : Nat) (u : ST) (y2 y3 y4 : Int32) (ls : Array Slot) (H : Heap) (locs : List Loc), f_PT_settle_L7 k_ u y2 y3 y4 = some q → lv_has ls 5 [(0, .ref (ad 0)), (2, .int y2), (3, .int y3), (4, .int y4)] → fw D A s.heap (wC ad cI cZ cT v u) H locs → WX (wC ad cI cZ cT v) p l e 6 126 s m [.ref (ad 0), .int x1] below meth c A D (tyC cI cZ cT) none q H locs (F0 m 7 ls []) := by
    intro k_
    induction k_ with
    | zero =>
      intro u y2 y3 y4 ls H locs h hl hw
      cases h
    | succ k_ ih =>
      intro u y2 y3 y4 ls H locs h hl hw
      rw [f_PT_settle_L7] at h
      refine lv_iload_n hx hb d_PT_settle_7 rfl (lv_at hl 2 rfl) ?_
      refine lv_if_eq (tgt := 136) hx hb d_PT_settle_8 rfl (fun c1 => ?_) (fun c1 => ?_)
      · have h := br1 c1 h
        exact fx_retv hC hr hK hw h d_PT_settle_136
      · have h := br0 c1 h
        refine lv_iload hx hb d_PT_settle_11 (lv_at hl 3 rfl) ?_
        refine lv_bipush (v := 64) hx hb d_PT_settle_13 (by decide) ?_
        refine lv_icmp_ge (tgt := 136) hx hb d_PT_settle_15 rfl (fun c2 => ?_) (fun c2 => ?_)
        · have h := br1 c2 h
          exact fx_retv hC hr hK hw h d_PT_settle_136
        · have h := br0 c2 h
          refine lv_aload_n hx hb d_PT_settle_18 rfl (lv_at hl 0 rfl) ?_
          refine gf_C_0_mode hC hK hw d_PT_settle_19 ?_
          by_cases c3 : (u.1 2) = 0
          · have h := br1 c3 h
            refine lv_tableIn (tgt := 60) hx hb d_PT_settle_22 (by rw [c3]; decide) (by rw [c3]; decide) (off := 38) (by rw [c3]; decide) rfl ?_
            refine lv_aload_n hx hb d_PT_settle_60 rfl (lv_at hl 0 rfl) ?_
            refine lv_iload_n hx hb d_PT_settle_61 rfl (lv_at hl 1 rfl) ?_
            refine fx_sVi (As := [.int y2]) hC hl.1 (fun q hq => c_PT_idleLine l D ad cI cZ cT v u y2 q hq) fy_PT_idleLine fv_PT_idleLine kw_258 ⟨Nat.le_of_ble_eq_true rfl, Nat.le_of_ble_eq_true rfl⟩ rfl hK hA hw at_C_0 rfl rfl rfl (Nat.le_of_ble_eq_true rfl) d_PT_settle_62 ⟨Nat.le_refl _, Nat.le_refl _⟩ h (fun H locs q4 h hw => ?_)
            refine lv_istore_n (lv' := [(3, .int q4.1), (0, .ref (ad 0)), (2, .int y2), (4, .int y4)]) hx hb d_PT_settle_65 rfl hl (by decide) rfl (fun ls hl => ?_)
            refine lv_goto (tgt := 128) hx hb d_PT_settle_66 rfl ?_
            refine lv_iconst (v := 0) hx hb d_PT_settle_128 (by decide) ?_
            refine lv_istore_n (lv' := [(2, .int 0), (3, .int q4.1), (0, .ref (ad 0)), (4, .int y4)]) hx hb d_PT_settle_129 rfl hl (by decide) rfl (fun ls hl => ?_)
            refine lv_iinc (k := 3) (v := (y4 + 1)) (lv' := [(4, .int (y4 + 1)), (2, .int 0), (3, .int q4.1), (0, .ref (ad 0))]) hx hb d_PT_settle_130 hl rfl rfl (by decide) rfl (fun ls hl => ?_)
            refine lv_goto (tgt := 7) hx hb d_PT_settle_133 rfl ?_
            exact ih _ _ _ _ _ _ _ h (lv_sub hl [3, 1, 2, 0] rfl) hw
          · have h := br0 c3 h
            by_cases c5 : (u.1 2) = 1
            · have h := br1 c5 h
              refine lv_tableIn (tgt := 69) hx hb d_PT_settle_22 (by rw [c5]; decide) (by rw [c5]; decide) (off := 47) (by rw [c5]; decide) rfl ?_
              refine lv_aload_n hx hb d_PT_settle_69 rfl (lv_at hl 0 rfl) ?_
              refine fx_sVi (As := []) hC hl.1 (fun q hq => c_PT_useLine l D ad cI cZ cT v u q hq) fy_PT_useLine fv_PT_useLine kw_405 ⟨Nat.le_of_ble_eq_true rfl, Nat.le_of_ble_eq_true rfl⟩ rfl hK hA hw at_C_0 rfl rfl rfl (Nat.le_of_ble_eq_true rfl) d_PT_settle_70 ⟨Nat.le_refl _, Nat.le_refl _⟩ h (fun H locs q6 h hw => ?_)
              refine lv_istore_n (lv' := [(3, .int q6.1), (0, .ref (ad 0)), (2, .int y2), (4, .int y4)]) hx hb d_PT_settle_73 rfl hl (by decide) rfl (fun ls hl => ?_)
              refine lv_goto (tgt := 128) hx hb d_PT_settle_74 rfl ?_
              refine lv_iconst (v := 0) hx hb d_PT_settle_128 (by decide) ?_
              refine lv_istore_n (lv' := [(2, .int 0), (3, .int q6.1), (0, .ref (ad 0)), (4, .int y4)]) hx hb d_PT_settle_129 rfl hl (by decide) rfl (fun ls hl => ?_)
              refine lv_iinc (k := 3) (v := (y4 + 1)) (lv' := [(4, .int (y4 + 1)), (2, .int 0), (3, .int q6.1), (0, .ref (ad 0))]) hx hb d_PT_settle_130 hl rfl rfl (by decide) rfl (fun ls hl => ?_)
              refine lv_goto (tgt := 7) hx hb d_PT_settle_133 rfl ?_
              exact ih _ _ _ _ _ _ _ h (lv_sub hl [3, 1, 2, 0] rfl) hw
            · have h := br0 c5 h
              by_cases c7 : (u.1 2) = 2
              · have h := br1 c7 h
                refine lv_tableIn (tgt := 77) hx hb d_PT_settle_22 (by rw [c7]; decide) (by rw [c7]; decide) (off := 55) (by rw [c7]; decide) rfl ?_
                refine lv_aload_n hx hb d_PT_settle_77 rfl (lv_at hl 0 rfl) ?_
                refine lv_iload_n hx hb d_PT_settle_78 rfl (lv_at hl 1 rfl) ?_
                refine fx_sVi (As := [.int y2]) hC hl.1 (fun q hq => c_PT_waitLine l D ad cI cZ cT v u y2 q hq) fy_PT_waitLine fv_PT_waitLine kw_409 ⟨Nat.le_of_ble_eq_true rfl, Nat.le_of_ble_eq_true rfl⟩ rfl hK hA hw at_C_0 rfl rfl rfl (Nat.le_of_ble_eq_true rfl) d_PT_settle_79 ⟨Nat.le_refl _, Nat.le_refl _⟩ h (fun H locs q8 h hw => ?_)
                refine lv_istore_n (lv' := [(3, .int q8.1), (0, .ref (ad 0)), (2, .int y2), (4, .int y4)]) hx hb d_PT_settle_82 rfl hl (by decide) rfl (fun ls hl => ?_)
                refine lv_goto (tgt := 128) hx hb d_PT_settle_83 rfl ?_
                refine lv_iconst (v := 0) hx hb d_PT_settle_128 (by decide) ?_
                refine lv_istore_n (lv' := [(2, .int 0), (3, .int q8.1), (0, .ref (ad 0)), (4, .int y4)]) hx hb d_PT_settle_129 rfl hl (by decide) rfl (fun ls hl => ?_)
                refine lv_iinc (k := 3) (v := (y4 + 1)) (lv' := [(4, .int (y4 + 1)), (2, .int 0), (3, .int q8.1), (0, .ref (ad 0))]) hx hb d_PT_settle_130 hl rfl rfl (by decide) rfl (fun ls hl => ?_)
                refine lv_goto (tgt := 7) hx hb d_PT_settle_133 rfl ?_
                exact ih _ _ _ _ _ _ _ h (lv_sub hl [3, 1, 2, 0] rfl) hw
              · have h := br0 c7 h
                by_cases c9 : (u.1 2) = 3
                · have h := br1 c9 h
                  refine lv_tableIn (tgt := 86) hx hb d_PT_settle_22 (by rw [c9]; decide) (by rw [c9]; decide) (off := 64) (by rw [c9]; decide) rfl ?_
                  refine lv_aload_n hx hb d_PT_settle_86 rfl (lv_at hl 0 rfl) ?_
                  refine fx_sVi (As := []) hC hl.1 (fun q hq => c_PT_doneLine l D ad cI cZ cT v u q hq) fy_PT_doneLine fv_PT_doneLine kw_417 ⟨Nat.le_of_ble_eq_true rfl, Nat.le_of_ble_eq_true rfl⟩ rfl hK hA hw at_C_0 rfl rfl rfl (Nat.le_of_ble_eq_true rfl) d_PT_settle_87 ⟨Nat.le_refl _, Nat.le_refl _⟩ h (fun H locs q10 h hw => ?_)
                  refine lv_istore_n (lv' := [(3, .int q10.1), (0, .ref (ad 0)), (2, .int y2), (4, .int y4)]) hx hb d_PT_settle_90 rfl hl (by decide) rfl (fun ls hl => ?_)
                  refine lv_goto (tgt := 128) hx hb d_PT_settle_91 rfl ?_
                  refine lv_iconst (v := 0) hx hb d_PT_settle_128 (by decide) ?_
                  refine lv_istore_n (lv' := [(2, .int 0), (3, .int q10.1), (0, .ref (ad 0)), (4, .int y4)]) hx hb d_PT_settle_129 rfl hl (by decide) rfl (fun ls hl => ?_)
                  refine lv_iinc (k := 3) (v := (y4 + 1)) (lv' := [(4, .int (y4 + 1)), (2, .int 0), (3, .int q10.1), (0, .ref (ad 0))]) hx hb d_PT_settle_130 hl rfl rfl (by decide) rfl (fun ls hl => ?_)
                  refine lv_goto (tgt := 7) hx hb d_PT_settle_133 rfl ?_
                  exact ih _ _ _ _ _ _ _ h (lv_sub hl [3, 1, 2, 0] rfl) hw
                · have h := br0 c9 h
                  by_cases c11 : (u.1 2) = 4
                  · have h := br1 c11 h
                    refine lv_tableIn (tgt := 94) hx hb d_PT_settle_22 (by rw [c11]; decide) (by rw [c11]; decide) (off := 72) (by rw [c11]; decide) rfl ?_
                    refine lv_aload_n hx hb d_PT_settle_94 rfl (lv_at hl 0 rfl) ?_
                    refine fx_sVi (As := []) hC hl.1 (fun q hq => c_PT_passingLine l D ad cI cZ cT v u q hq) fy_PT_passingLine fv_PT_passingLine kw_433 ⟨Nat.le_of_ble_eq_true rfl, Nat.le_of_ble_eq_true rfl⟩ rfl hK hA hw at_C_0 rfl rfl rfl (Nat.le_of_ble_eq_true rfl) d_PT_settle_95 ⟨Nat.le_refl _, Nat.le_refl _⟩ h (fun H locs q12 h hw => ?_)
                    refine lv_istore_n (lv' := [(3, .int q12.1), (0, .ref (ad 0)), (2, .int y2), (4, .int y4)]) hx hb d_PT_settle_98 rfl hl (by decide) rfl (fun ls hl => ?_)
                    refine lv_goto (tgt := 128) hx hb d_PT_settle_99 rfl ?_
                    refine lv_iconst (v := 0) hx hb d_PT_settle_128 (by decide) ?_
                    refine lv_istore_n (lv' := [(2, .int 0), (3, .int q12.1), (0, .ref (ad 0)), (4, .int y4)]) hx hb d_PT_settle_129 rfl hl (by decide) rfl (fun ls hl => ?_)
                    refine lv_iinc (k := 3) (v := (y4 + 1)) (lv' := [(4, .int (y4 + 1)), (2, .int 0), (3, .int q12.1), (0, .ref (ad 0))]) hx hb d_PT_settle_130 hl rfl rfl (by decide) rfl (fun ls hl => ?_)
                    refine lv_goto (tgt := 7) hx hb d_PT_settle_133 rfl ?_
                    exact ih _ _ _ _ _ _ _ h (lv_sub hl [3, 1, 2, 0] rfl) hw
                  · have h := br0 c11 h
                    by_cases c13 : (u.1 2) = 5
                    · have h := br1 c13 h
                      refine lv_tableIn (tgt := 102) hx hb d_PT_settle_22 (by rw [c13]; decide) (by rw [c13]; decide) (off := 80) (by rw [c13]; decide) rfl ?_
                      refine lv_aload_n hx hb d_PT_settle_102 rfl (lv_at hl 0 rfl) ?_
                      refine fx_sVi (As := []) hC hl.1 (fun q hq => c_PT_lostLine l D ad cI cZ cT v u q hq) fy_PT_lostLine fv_PT_lostLine kw_437 ⟨Nat.le_of_ble_eq_true rfl, Nat.le_of_ble_eq_true rfl⟩ rfl hK hA hw at_C_0 rfl rfl rfl (Nat.le_of_ble_eq_true rfl) d_PT_settle_103 ⟨Nat.le_refl _, Nat.le_refl _⟩ h (fun H locs q14 h hw => ?_)
                      refine lv_istore_n (lv' := [(3, .int q14.1), (0, .ref (ad 0)), (2, .int y2), (4, .int y4)]) hx hb d_PT_settle_106 rfl hl (by decide) rfl (fun ls hl => ?_)
                      refine lv_goto (tgt := 128) hx hb d_PT_settle_107 rfl ?_
                      refine lv_iconst (v := 0) hx hb d_PT_settle_128 (by decide) ?_
                      refine lv_istore_n (lv' := [(2, .int 0), (3, .int q14.1), (0, .ref (ad 0)), (4, .int y4)]) hx hb d_PT_settle_129 rfl hl (by decide) rfl (fun ls hl => ?_)
                      refine lv_iinc (k := 3) (v := (y4 + 1)) (lv' := [(4, .int (y4 + 1)), (2, .int 0), (3, .int q14.1), (0, .ref (ad 0))]) hx hb d_PT_settle_130 hl rfl rfl (by decide) rfl (fun ls hl => ?_)
                      refine lv_goto (tgt := 7) hx hb d_PT_settle_133 rfl ?_
                      exact ih _ _ _ _ _ _ _ h (lv_sub hl [3, 1, 2, 0] rfl) hw
                    · have h := br0 c13 h
                      refine lv_tableOut (tgt := 110) hx hb d_PT_settle_22 (sw_out5 c3 c5 c7 c9 c11 c13) rfl ?_
                      refine lv_iload_n hx hb d_PT_settle_110 rfl (lv_at hl 1 rfl) ?_
                      refine lv_iconst (v := 1) hx hb d_PT_settle_111 (by decide) ?_
                      refine lv_icmp_ne (tgt := 122) hx hb d_PT_settle_112 rfl (fun c15 => ?_) (fun c15 => ?_)
                      · have h := br0 c15 h
                        refine lv_aload_n hx hb d_PT_settle_122 rfl (lv_at hl 0 rfl) ?_
                        refine lv_iload_n hx hb d_PT_settle_123 rfl (lv_at hl 1 rfl) ?_
                        refine fx_sVi (As := [.int y2]) hC hl.1 (fun q hq => c_PT_unansweredLine l D ad cI cZ cT v u y2 q hq) fy_PT_unansweredLine fv_PT_unansweredLine kw_449 ⟨Nat.le_of_ble_eq_true rfl, Nat.le_of_ble_eq_true rfl⟩ rfl hK hA hw at_C_0 rfl rfl rfl (Nat.le_of_ble_eq_true rfl) d_PT_settle_124 ⟨Nat.le_refl _, Nat.le_refl _⟩ h (fun H locs q16 h hw => ?_)
                        refine lv_istore_n (lv' := [(3, .int q16.1), (0, .ref (ad 0)), (2, .int y2), (4, .int y4)]) hx hb d_PT_settle_127 rfl hl (by decide) rfl (fun ls hl => ?_)
                        refine lv_iconst (v := 0) hx hb d_PT_settle_128 (by decide) ?_
                        refine lv_istore_n (lv' := [(2, .int 0), (3, .int q16.1), (0, .ref (ad 0)), (4, .int y4)]) hx hb d_PT_settle_129 rfl hl (by decide) rfl (fun ls hl => ?_)
                        refine lv_iinc (k := 3) (v := (y4 + 1)) (lv' := [(4, .int (y4 + 1)), (2, .int 0), (3, .int q16.1), (0, .ref (ad 0))]) hx hb d_PT_settle_130 hl rfl rfl (by decide) rfl (fun ls hl => ?_)
                        refine lv_goto (tgt := 7) hx hb d_PT_settle_133 rfl ?_
                        exact ih _ _ _ _ _ _ _ h (lv_sub hl [3, 1, 2, 0] rfl) hw
                      · have h := br1 c15 h
                        refine lv_aload_n hx hb d_PT_settle_115 rfl (lv_at hl 0 rfl) ?_
                        refine fx_sVi (As := []) hC hl.1 (fun q hq => c_PT_answeredLine l D ad cI cZ cT v u q hq) fy_PT_answeredLine fv_PT_answeredLine kw_441 ⟨Nat.le_of_ble_eq_true rfl, Nat.le_of_ble_eq_true rfl⟩ rfl hK hA hw at_C_0 rfl rfl rfl (Nat.le_of_ble_eq_true rfl) d_PT_settle_116 ⟨Nat.le_refl _, Nat.le_refl _⟩ h (fun H locs q17 h hw => ?_)
                        refine lv_goto (tgt := 127) hx hb d_PT_settle_119 rfl ?_
                        refine lv_istore_n (lv' := [(3, .int q17.1), (0, .ref (ad 0)), (2, .int y2), (4, .int y4)]) hx hb d_PT_settle_127 rfl hl (by decide) rfl (fun ls hl => ?_)
                        refine lv_iconst (v := 0) hx hb d_PT_settle_128 (by decide) ?_
                        refine lv_istore_n (lv' := [(2, .int 0), (3, .int q17.1), (0, .ref (ad 0)), (4, .int y4)]) hx hb d_PT_settle_129 rfl hl (by decide) rfl (fun ls hl => ?_)
                        refine lv_iinc (k := 3) (v := (y4 + 1)) (lv' := [(4, .int (y4 + 1)), (2, .int 0), (3, .int q17.1), (0, .ref (ad 0))]) hx hb d_PT_settle_130 hl rfl rfl (by decide) rfl (fun ls hl => ?_)
                        refine lv_goto (tgt := 7) hx hb d_PT_settle_133 rfl ?_
                        exact ih _ _ _ _ _ _ _ h (lv_sub hl [3, 1, 2, 0] rfl) hw
  rw [f_PT_settle] at h
  refine lv_iload_n hx hb d_PT_settle_0 rfl (lv_at hl 1 rfl) ?_
  refine lv_istore_n (lv' := [(2, .int x1), (0, .ref (ad 0)), (1, .int x1)]) hx hb d_PT_settle_1 rfl hl (by decide) rfl (fun ls hl => ?_)
  refine lv_iconst (v := 1) hx hb d_PT_settle_2 (by decide) ?_
  refine lv_istore_n (lv' := [(3, .int 1), (2, .int x1), (0, .ref (ad 0)), (1, .int x1)]) hx hb d_PT_settle_3 rfl hl (by decide) rfl (fun ls hl => ?_)
  refine lv_iconst (v := 0) hx hb d_PT_settle_4 (by decide) ?_
  refine lv_istore (lv' := [(4, .int 0), (3, .int 1), (2, .int x1), (0, .ref (ad 0)), (1, .int x1)]) hx hb d_PT_settle_5 hl (by decide) rfl (fun ls hl => ?_)
  exact L7 _ _ _ _ _ _ _ _ h (lv_sub hl [3, 2, 1, 0] rfl) hw
def f_PT_hear (u : ST) (x1 : Int32) : Option (Int32 × ST) :=
  k_bd (f_PT_isByte x1) fun q1 =>
  if q1 = 0 then
    some ((-1), u)
  else
  k_bd (f_Row_clear_3 u) fun q3 =>
  k_let (ss q3 9 0) fun u4 =>
  k_let (ss u4 8 ((u4.1 8) + 1)) fun u5 =>
  k_bd (f_Ear_take u5 x1) fun q6 =>
  k_bd (f_PT_settle q6.2 q6.1) fun q7 =>
  k_bd (f_Row_size_3 q7) fun q8 =>
  some (q8, q7)
set_option maxHeartbeats 4000000 in
set_option maxRecDepth 100000 in
theorem c_PT_hear (l : Launch) (D : va_G) (ad : Nat → Nat) (cI cZ cT : ClassId) (v u : ST) (x1 : Int32) (q : Int32 × ST) (h : f_PT_hear u x1 = some q) : MX l D (tyC cI cZ cT) (wC ad cI cZ cT v) y_PT_hear cd_PT_hear 7 150 [.ref (ad 0), .int x1] u (some (.int q.1)) q.2 := by
  refine MX.start (by decide) (Nat.le_of_ble_eq_true rfl) ?_
  intro p e s m below meth c ls A hC hr hl hK hA hw
  have ⟨hx, hb, hml, hown, hT, hlk⟩ := hC
  have hl : lv_has ls 2 [(0, .ref (ad 0)), (1, .int x1)] := hl
  rw [f_PT_hear] at h
  refine lv_iload_n hx hb d_PT_hear_0 rfl (lv_at hl 1 rfl) ?_
  refine fx_sSr (As := [.int x1]) hC hl.1 (fun q hq => c_PT_isByte l D ad cI cZ cT v u x1 q hq) fy_PT_isByte fs_PT_isByte kw_193 ⟨Nat.le_of_ble_eq_true rfl, Nat.le_of_ble_eq_true rfl⟩ rfl hK hA hw rfl (Nat.le_of_ble_eq_true rfl) d_PT_hear_1 ⟨Nat.le_refl _, Nat.le_refl _⟩ h (fun H locs q1 h hw => ?_)
  refine lv_if_ne (tgt := 9) hx hb d_PT_hear_4 rfl (fun c2 => ?_) (fun c2 => ?_)
  · have h := br0 c2 h
    refine lv_aload_n hx hb d_PT_hear_9 rfl (lv_at hl 0 rfl) ?_
    refine gf_C_0_out hC hK hw d_PT_hear_10 ?_
    refine fx_sVv (As := []) hC hl.1 (fun q hq => c_Row_clear_3 l D ad cI cZ cT v u q hq) fy_Row_clear fv_Row_clear kw_196 ⟨Nat.le_of_ble_eq_true rfl, Nat.le_of_ble_eq_true rfl⟩ rfl hK hA hw at_C_3 rfl rfl rfl (Nat.le_of_ble_eq_true rfl) d_PT_hear_13 ⟨Nat.le_refl _, Nat.le_refl _⟩ h (fun H locs q3 h hw => ?_)
    refine lv_aload_n hx hb d_PT_hear_16 rfl (lv_at hl 0 rfl) ?_
    refine lv_iconst (v := 0) hx hb d_PT_hear_17 (by decide) ?_
    refine pf_C_0_stillness hC hK hw d_PT_hear_18 h (fun H locs u4 h hw => ?_)
    refine lv_aload_n hx hb d_PT_hear_21 rfl (lv_at hl 0 rfl) ?_
    refine lv_dup hx hb d_PT_hear_22 rfl ?_
    refine gf_C_0_events hC hK hw d_PT_hear_23 ?_
    refine lv_iconst (v := 1) hx hb d_PT_hear_26 (by decide) ?_
    refine lv_iadd hx hb d_PT_hear_27 ?_
    refine pf_C_0_events hC hK hw d_PT_hear_28 h (fun H locs u5 h hw => ?_)
    refine lv_aload_n hx hb d_PT_hear_31 rfl (lv_at hl 0 rfl) ?_
    refine lv_aload_n hx hb d_PT_hear_32 rfl (lv_at hl 0 rfl) ?_
    refine gf_C_0_ear hC hK hw d_PT_hear_33 ?_
    refine lv_iload_n hx hb d_PT_hear_36 rfl (lv_at hl 1 rfl) ?_
    refine fx_sVi (As := [.int x1]) hC hl.1 (fun q hq => c_Ear_take l D ad cI cZ cT v u5 x1 q hq) fy_Ear_take fv_Ear_take kw_200 ⟨Nat.le_of_ble_eq_true rfl, Nat.le_of_ble_eq_true rfl⟩ rfl hK hA hw at_C_1 rfl rfl rfl (Nat.le_of_ble_eq_true rfl) d_PT_hear_37 ⟨Nat.le_refl _, Nat.le_refl _⟩ h (fun H locs q6 h hw => ?_)
    refine fx_sVv (As := [.int q6.1]) hC hl.1 (fun q hq => c_PT_settle l D ad cI cZ cT v q6.2 q6.1 q hq) fy_PT_settle fv_PT_settle kw_254 ⟨Nat.le_of_ble_eq_true rfl, Nat.le_of_ble_eq_true rfl⟩ rfl hK hA hw at_C_0 rfl rfl rfl (Nat.le_of_ble_eq_true rfl) d_PT_hear_40 ⟨Nat.le_refl _, Nat.le_refl _⟩ h (fun H locs q7 h hw => ?_)
    refine lv_aload_n hx hb d_PT_hear_43 rfl (lv_at hl 0 rfl) ?_
    refine gf_C_0_out hC hK hw d_PT_hear_44 ?_
    refine fx_sVr (As := []) hC hl.1 (fun q hq => c_Row_size_3 l D ad cI cZ cT v q7 q hq) fy_Row_size fv_Row_size kw_276 ⟨Nat.le_of_ble_eq_true rfl, Nat.le_of_ble_eq_true rfl⟩ rfl hK hA hw at_C_3 rfl rfl rfl (Nat.le_of_ble_eq_true rfl) d_PT_hear_47 ⟨Nat.le_refl _, Nat.le_refl _⟩ h (fun H locs q8 h hw => ?_)
    exact fx_retw hC hr rfl hK hw h d_PT_hear_50
  · have h := br1 c2 h
    refine lv_iconst (v := (-1)) hx hb d_PT_hear_7 (by decide) ?_
    exact fx_retw hC hr rfl hK hw h d_PT_hear_8
def f_Ear_rest (u : ST) (x1 : Int32) : Option (Int32 × ST) :=
  if (u.1 13) < 2 then
    some (0, u)
  else
  if x1 < 4 then
    some (0, u)
  else
  k_let (ss u 13 0) fun u3 =>
  some (2, u3)
set_option maxHeartbeats 4000000 in
set_option maxRecDepth 100000 in
theorem c_Ear_rest (l : Launch) (D : va_G) (ad : Nat → Nat) (cI cZ cT : ClassId) (v u : ST) (x1 : Int32) (q : Int32 × ST) (h : f_Ear_rest u x1 = some q) : MX l D (tyC cI cZ cT) (wC ad cI cZ cT v) y_Ear_rest cd_Ear_rest 0 0 [.ref (ad 1), .int x1] u (some (.int q.1)) q.2 := by
  refine MX.start (by decide) (Nat.le_of_ble_eq_true rfl) ?_
  intro p e s m below meth c ls A hC hr hl hK hA hw
  have ⟨hx, hb, hml, hown, hT, hlk⟩ := hC
  have hl : lv_has ls 2 [(0, .ref (ad 1)), (1, .int x1)] := hl
  rw [f_Ear_rest] at h
  refine lv_aload_n hx hb d_Ear_rest_0 rfl (lv_at hl 0 rfl) ?_
  refine gf_C_1_stage hC hK hw d_Ear_rest_1 ?_
  refine lv_iconst (v := 2) hx hb d_Ear_rest_4 (by decide) ?_
  refine lv_icmp_lt (tgt := 20) hx hb d_Ear_rest_5 rfl (fun c1 => ?_) (fun c1 => ?_)
  · have h := br1 c1 h
    refine lv_iconst (v := 0) hx hb d_Ear_rest_20 (by decide) ?_
    exact fx_retw hC hr rfl hK hw h d_Ear_rest_21
  · have h := br0 c1 h
    refine lv_iload_n hx hb d_Ear_rest_8 rfl (lv_at hl 1 rfl) ?_
    refine lv_iconst (v := 4) hx hb d_Ear_rest_9 (by decide) ?_
    refine lv_icmp_lt (tgt := 20) hx hb d_Ear_rest_10 rfl (fun c2 => ?_) (fun c2 => ?_)
    · have h := br1 c2 h
      refine lv_iconst (v := 0) hx hb d_Ear_rest_20 (by decide) ?_
      exact fx_retw hC hr rfl hK hw h d_Ear_rest_21
    · have h := br0 c2 h
      refine lv_aload_n hx hb d_Ear_rest_13 rfl (lv_at hl 0 rfl) ?_
      refine lv_iconst (v := 0) hx hb d_Ear_rest_14 (by decide) ?_
      refine pf_C_1_stage hC hK hw d_Ear_rest_15 h (fun H locs u3 h hw => ?_)
      refine lv_iconst (v := 2) hx hb d_Ear_rest_18 (by decide) ?_
      exact fx_retw hC hr rfl hK hw h d_Ear_rest_19
def f_PT_quiet_L22 : Nat → ST → Int32 → Int32 → Option (Int32 × ST)
  | 0, _, _, _ => none
  | k_ + 1, u, y1, y2 =>
    if y1 ≤ y2 then
      k_bd (f_Row_size_3 u) fun q5 =>
      some (q5, u)
    else
    k_let (ss u 9 ((u.1 9) + 1)) fun u6 =>
    k_bd (f_Ear_rest u6 (u6.1 9)) fun q7 =>
    k_bd (f_PT_settle q7.2 q7.1) fun q8 =>
    f_PT_quiet_L22 k_ q8 y1 (y2 + 1)
def f_PT_quiet (u : ST) (x1 : Int32) : Option (Int32 × ST) :=
  if x1 < 1 then
    some ((-1), u)
  else
  if x1 ≤ 100 then
    k_bd (f_Row_clear_3 u) fun q3 =>
    f_PT_quiet_L22 200 q3 x1 0
  else
  some ((-1), u)
set_option maxHeartbeats 4000000 in
set_option maxRecDepth 100000 in
theorem c_PT_quiet (l : Launch) (D : va_G) (ad : Nat → Nat) (cI cZ cT : ClassId) (v u : ST) (x1 : Int32) (q : Int32 × ST) (h : f_PT_quiet u x1 = some q) : MX l D (tyC cI cZ cT) (wC ad cI cZ cT v) y_PT_quiet cd_PT_quiet 7 150 [.ref (ad 0), .int x1] u (some (.int q.1)) q.2 := by
  refine MX.start (by decide) (Nat.le_of_ble_eq_true rfl) ?_
  intro p e s m below meth c ls A hC hr hl hK hA hw
  have ⟨hx, hb, hml, hown, hT, hlk⟩ := hC
  have hl : lv_has ls 3 [(0, .ref (ad 0)), (1, .int x1)] := hl
  have L22 : ∀ (k_ : Nat) (u : ST) (y1 y2 : Int32) (ls : Array Slot) (H : Heap) (locs : List Loc), f_PT_quiet_L22 k_ u y1 y2 = some q → lv_has ls 3 [(0, .ref (ad 0)), (1, .int y1), (2, .int y2)] → fw D A s.heap (wC ad cI cZ cT v u) H locs → WX (wC ad cI cZ cT v) p l e 7 150 s m [.ref (ad 0), .int x1] below meth c A D (tyC cI cZ cT) (some (.int q.1)) q.2 H locs (F0 m 22 ls []) := by
    intro k_
    induction k_ with
    | zero =>
      intro u y1 y2 ls H locs h hl hw
      cases h
    | succ k_ ih =>
      intro u y1 y2 ls H locs h hl hw
      rw [f_PT_quiet_L22] at h
      refine lv_iload_n hx hb d_PT_quiet_22 rfl (lv_at hl 2 rfl) ?_
      refine lv_iload_n hx hb d_PT_quiet_23 rfl (lv_at hl 1 rfl) ?_
      refine lv_icmp_ge (tgt := 58) hx hb d_PT_quiet_24 rfl (fun c4 => ?_) (fun c4 => ?_)
      · have h := br1 c4 h
        refine lv_aload_n hx hb d_PT_quiet_58 rfl (lv_at hl 0 rfl) ?_
        refine gf_C_0_out hC hK hw d_PT_quiet_59 ?_
        refine fx_sVr (As := []) hC hl.1 (fun q hq => c_Row_size_3 l D ad cI cZ cT v u q hq) fy_Row_size fv_Row_size kw_276 ⟨Nat.le_of_ble_eq_true rfl, Nat.le_of_ble_eq_true rfl⟩ rfl hK hA hw at_C_3 rfl rfl rfl (Nat.le_of_ble_eq_true rfl) d_PT_quiet_62 ⟨Nat.le_refl _, Nat.le_refl _⟩ h (fun H locs q5 h hw => ?_)
        exact fx_retw hC hr rfl hK hw h d_PT_quiet_65
      · have h := br0 c4 h
        refine lv_aload_n hx hb d_PT_quiet_27 rfl (lv_at hl 0 rfl) ?_
        refine lv_dup hx hb d_PT_quiet_28 rfl ?_
        refine gf_C_0_stillness hC hK hw d_PT_quiet_29 ?_
        refine lv_iconst (v := 1) hx hb d_PT_quiet_32 (by decide) ?_
        refine lv_iadd hx hb d_PT_quiet_33 ?_
        refine pf_C_0_stillness hC hK hw d_PT_quiet_34 h (fun H locs u6 h hw => ?_)
        refine lv_aload_n hx hb d_PT_quiet_37 rfl (lv_at hl 0 rfl) ?_
        refine lv_aload_n hx hb d_PT_quiet_38 rfl (lv_at hl 0 rfl) ?_
        refine gf_C_0_ear hC hK hw d_PT_quiet_39 ?_
        refine lv_aload_n hx hb d_PT_quiet_42 rfl (lv_at hl 0 rfl) ?_
        refine gf_C_0_stillness hC hK hw d_PT_quiet_43 ?_
        refine fx_sVi (As := [.int (u6.1 9)]) hC hl.1 (fun q hq => c_Ear_rest l D ad cI cZ cT v u6 (u6.1 9) q hq) fy_Ear_rest fv_Ear_rest kw_457 ⟨Nat.le_of_ble_eq_true rfl, Nat.le_of_ble_eq_true rfl⟩ rfl hK hA hw at_C_1 rfl rfl rfl (Nat.le_of_ble_eq_true rfl) d_PT_quiet_46 ⟨Nat.le_refl _, Nat.le_refl _⟩ h (fun H locs q7 h hw => ?_)
        refine fx_sVv (As := [.int q7.1]) hC hl.1 (fun q hq => c_PT_settle l D ad cI cZ cT v q7.2 q7.1 q hq) fy_PT_settle fv_PT_settle kw_254 ⟨Nat.le_of_ble_eq_true rfl, Nat.le_of_ble_eq_true rfl⟩ rfl hK hA hw at_C_0 rfl rfl rfl (Nat.le_of_ble_eq_true rfl) d_PT_quiet_49 ⟨Nat.le_refl _, Nat.le_refl _⟩ h (fun H locs q8 h hw => ?_)
        refine lv_iinc (k := 2) (v := (y2 + 1)) (lv' := [(2, .int (y2 + 1)), (0, .ref (ad 0)), (1, .int y1)]) hx hb d_PT_quiet_52 hl rfl rfl (by decide) rfl (fun ls hl => ?_)
        refine lv_goto (tgt := 22) hx hb d_PT_quiet_55 rfl ?_
        exact ih _ _ _ _ _ _ h (lv_sub hl [1, 2, 0] rfl) hw
  rw [f_PT_quiet] at h
  refine lv_iload_n hx hb d_PT_quiet_0 rfl (lv_at hl 1 rfl) ?_
  refine lv_iconst (v := 1) hx hb d_PT_quiet_1 (by decide) ?_
  refine lv_icmp_lt (tgt := 11) hx hb d_PT_quiet_2 rfl (fun c1 => ?_) (fun c1 => ?_)
  · have h := br1 c1 h
    refine lv_iconst (v := (-1)) hx hb d_PT_quiet_11 (by decide) ?_
    exact fx_retw hC hr rfl hK hw h d_PT_quiet_12
  · have h := br0 c1 h
    refine lv_iload_n hx hb d_PT_quiet_5 rfl (lv_at hl 1 rfl) ?_
    refine lv_bipush (v := 100) hx hb d_PT_quiet_6 (by decide) ?_
    refine lv_icmp_le (tgt := 13) hx hb d_PT_quiet_8 rfl (fun c2 => ?_) (fun c2 => ?_)
    · have h := br1 c2 h
      refine lv_aload_n hx hb d_PT_quiet_13 rfl (lv_at hl 0 rfl) ?_
      refine gf_C_0_out hC hK hw d_PT_quiet_14 ?_
      refine fx_sVv (As := []) hC hl.1 (fun q hq => c_Row_clear_3 l D ad cI cZ cT v u q hq) fy_Row_clear fv_Row_clear kw_196 ⟨Nat.le_of_ble_eq_true rfl, Nat.le_of_ble_eq_true rfl⟩ rfl hK hA hw at_C_3 rfl rfl rfl (Nat.le_of_ble_eq_true rfl) d_PT_quiet_17 ⟨Nat.le_refl _, Nat.le_refl _⟩ h (fun H locs q3 h hw => ?_)
      refine lv_iconst (v := 0) hx hb d_PT_quiet_20 (by decide) ?_
      refine lv_istore_n (lv' := [(2, .int 0), (0, .ref (ad 0)), (1, .int x1)]) hx hb d_PT_quiet_21 rfl hl (by decide) rfl (fun ls hl => ?_)
      exact L22 _ _ _ _ _ _ _ h (lv_sub hl [1, 2, 0] rfl) hw
    · have h := br0 c2 h
      refine lv_iconst (v := (-1)) hx hb d_PT_quiet_11 (by decide) ?_
      exact fx_retw hC hr rfl hK hw h d_PT_quiet_12
def f_PT_sent (u : ST) (x1 : Int32) : Option (Int32) :=
  k_bd (f_Row_at_3 u x1) fun q1 =>
  some q1
set_option maxHeartbeats 4000000 in
set_option maxRecDepth 100000 in
theorem c_PT_sent (l : Launch) (D : va_G) (ad : Nat → Nat) (cI cZ cT : ClassId) (v u : ST) (x1 : Int32) (q : Int32) (h : f_PT_sent u x1 = some q) : MX l D (tyC cI cZ cT) (wC ad cI cZ cT v) y_PT_sent cd_PT_sent 1 21 [.ref (ad 0), .int x1] u (some (.int q)) u := by
  refine MX.start (by decide) (Nat.le_of_ble_eq_true rfl) ?_
  intro p e s m below meth c ls A hC hr hl hK hA hw
  have ⟨hx, hb, hml, hown, hT, hlk⟩ := hC
  have hl : lv_has ls 2 [(0, .ref (ad 0)), (1, .int x1)] := hl
  rw [f_PT_sent] at h
  refine lv_aload_n hx hb d_PT_sent_0 rfl (lv_at hl 0 rfl) ?_
  refine gf_C_0_out hC hK hw d_PT_sent_1 ?_
  refine lv_iload_n hx hb d_PT_sent_4 rfl (lv_at hl 1 rfl) ?_
  refine fx_sVr (As := [.int x1]) hC hl.1 (fun q hq => c_Row_at_3 l D ad cI cZ cT v u x1 q hq) fy_Row_at fv_Row_at kw_465 ⟨Nat.le_of_ble_eq_true rfl, Nat.le_of_ble_eq_true rfl⟩ rfl hK hA hw at_C_3 rfl rfl rfl (Nat.le_of_ble_eq_true rfl) d_PT_sent_5 ⟨Nat.le_refl _, Nat.le_refl _⟩ h (fun H locs q1 h hw => ?_)
  exact fx_retr hC hr rfl hK hw h d_PT_sent_8
def f_Row_clear_7 (u : ST)  : Option (ST) :=
  k_let (ss u 27 0) fun u1 =>
  some u1
set_option maxHeartbeats 4000000 in
set_option maxRecDepth 100000 in
theorem c_Row_clear_7 (l : Launch) (D : va_G) (ad : Nat → Nat) (cI cZ cT : ClassId) (v u : ST) (q : ST) (h : f_Row_clear_7 u = some q) : MX l D (tyC cI cZ cT) (wC ad cI cZ cT v) y_Row_clear cd_Row_clear 0 0 [.ref (ad 7)] u none q := by
  refine MX.start (by decide) (Nat.le_of_ble_eq_true rfl) ?_
  intro p e s m below meth c ls A hC hr hl hK hA hw
  have ⟨hx, hb, hml, hown, hT, hlk⟩ := hC
  have hl : lv_has ls 1 [(0, .ref (ad 7))] := hl
  rw [f_Row_clear_7] at h
  refine lv_aload_n hx hb d_Row_clear_0 rfl (lv_at hl 0 rfl) ?_
  refine lv_iconst (v := 0) hx hb d_Row_clear_1 (by decide) ?_
  refine pf_C_7_count hC hK hw d_Row_clear_2 h (fun H locs u1 h hw => ?_)
  exact fx_retv hC hr hK hw h d_Row_clear_5
def f_Row_put_7 (u : ST) (x1 : Int32) : Option (ST) :=
  if 13 ≤ (u.1 27) then
    some u
  else
  k_gd (inb (u.1 27) 13) (
  k_let (rs u 2 (u.1 27).toNatClampNeg x1) fun u2 =>
  k_let (ss u2 27 ((u2.1 27) + 1)) fun u3 =>
  some u3)
set_option maxHeartbeats 4000000 in
set_option maxRecDepth 100000 in
theorem c_Row_put_7 (l : Launch) (D : va_G) (ad : Nat → Nat) (cI cZ cT : ClassId) (v u : ST) (x1 : Int32) (q : ST) (h : f_Row_put_7 u x1 = some q) : MX l D (tyC cI cZ cT) (wC ad cI cZ cT v) y_Row_put cd_Row_put 0 0 [.ref (ad 7), .int x1] u none q := by
  refine MX.start (by decide) (Nat.le_of_ble_eq_true rfl) ?_
  intro p e s m below meth c ls A hC hr hl hK hA hw
  have ⟨hx, hb, hml, hown, hT, hlk⟩ := hC
  have hl : lv_has ls 2 [(0, .ref (ad 7)), (1, .int x1)] := hl
  rw [f_Row_put_7] at h
  refine lv_aload_n hx hb d_Row_put_0 rfl (lv_at hl 0 rfl) ?_
  refine gf_C_7_count hC hK hw d_Row_put_1 ?_
  refine lv_aload_n hx hb d_Row_put_4 rfl (lv_at hl 0 rfl) ?_
  refine gf_C_7_bytes hC hK hw d_Row_put_5 ?_
  refine ln_C_8 hC hK hw d_Row_put_8 ?_
  refine lv_icmp_ge (tgt := 32) hx hb d_Row_put_9 rfl (fun c1 => ?_) (fun c1 => ?_)
  · have h := br1 c1 h
    exact fx_retv hC hr hK hw h d_Row_put_32
  · have h := br0 c1 h
    refine lv_aload_n hx hb d_Row_put_12 rfl (lv_at hl 0 rfl) ?_
    refine gf_C_7_bytes hC hK hw d_Row_put_13 ?_
    refine lv_aload_n hx hb d_Row_put_16 rfl (lv_at hl 0 rfl) ?_
    refine gf_C_7_count hC hK hw d_Row_put_17 ?_
    refine lv_iload_n hx hb d_Row_put_20 rfl (lv_at hl 1 rfl) ?_
    refine as_C_8 hC hK hw d_Row_put_21 h (fun H locs u2 h hw => ?_)
    refine lv_aload_n hx hb d_Row_put_22 rfl (lv_at hl 0 rfl) ?_
    refine lv_dup hx hb d_Row_put_23 rfl ?_
    refine gf_C_7_count hC hK hw d_Row_put_24 ?_
    refine lv_iconst (v := 1) hx hb d_Row_put_27 (by decide) ?_
    refine lv_iadd hx hb d_Row_put_28 ?_
    refine pf_C_7_count hC hK hw d_Row_put_29 h (fun H locs u3 h hw => ?_)
    exact fx_retv hC hr hK hw h d_Row_put_32
def f_Row_putInt_7 (u : ST) (x1 : Int32) : Option (ST) :=
  k_bd (f_Row_put_7 u (us x1 24)) fun q1 =>
  k_bd (f_Row_put_7 q1 ((us x1 16) &&& 255)) fun q2 =>
  k_bd (f_Row_put_7 q2 ((us x1 8) &&& 255)) fun q3 =>
  k_bd (f_Row_put_7 q3 (x1 &&& 255)) fun q4 =>
  some q4
set_option maxHeartbeats 4000000 in
set_option maxRecDepth 100000 in
theorem c_Row_putInt_7 (l : Launch) (D : va_G) (ad : Nat → Nat) (cI cZ cT : ClassId) (v u : ST) (x1 : Int32) (q : ST) (h : f_Row_putInt_7 u x1 = some q) : MX l D (tyC cI cZ cT) (wC ad cI cZ cT v) y_Row_putInt cd_Row_putInt 1 21 [.ref (ad 7), .int x1] u none q := by
  refine MX.start (by decide) (Nat.le_of_ble_eq_true rfl) ?_
  intro p e s m below meth c ls A hC hr hl hK hA hw
  have ⟨hx, hb, hml, hown, hT, hlk⟩ := hC
  have hl : lv_has ls 2 [(0, .ref (ad 7)), (1, .int x1)] := hl
  rw [f_Row_putInt_7] at h
  refine lv_aload_n hx hb d_Row_putInt_0 rfl (lv_at hl 0 rfl) ?_
  refine lv_iload_n hx hb d_Row_putInt_1 rfl (lv_at hl 1 rfl) ?_
  refine lv_bipush (v := 24) hx hb d_Row_putInt_2 (by decide) ?_
  refine lv_iushr (v := (us x1 24)) hx hb d_Row_putInt_4 rfl ?_
  refine fx_sVv (As := [.int (us x1 24)]) hC hl.1 (fun q hq => c_Row_put_7 l D ad cI cZ cT v u (us x1 24) q hq) fy_Row_put fv_Row_put kw_286 ⟨Nat.le_of_ble_eq_true rfl, Nat.le_of_ble_eq_true rfl⟩ rfl hK hA hw at_C_7 rfl rfl rfl (Nat.le_of_ble_eq_true rfl) d_Row_putInt_5 ⟨Nat.le_refl _, Nat.le_refl _⟩ h (fun H locs q1 h hw => ?_)
  refine lv_aload_n hx hb d_Row_putInt_8 rfl (lv_at hl 0 rfl) ?_
  refine lv_iload_n hx hb d_Row_putInt_9 rfl (lv_at hl 1 rfl) ?_
  refine lv_bipush (v := 16) hx hb d_Row_putInt_10 (by decide) ?_
  refine lv_iushr (v := (us x1 16)) hx hb d_Row_putInt_12 rfl ?_
  refine lv_sipush (v := 255) hx hb d_Row_putInt_13 (by decide) ?_
  refine lv_iand hx hb d_Row_putInt_16 ?_
  refine fx_sVv (As := [.int ((us x1 16) &&& 255)]) hC hl.1 (fun q hq => c_Row_put_7 l D ad cI cZ cT v q1 ((us x1 16) &&& 255) q hq) fy_Row_put fv_Row_put kw_286 ⟨Nat.le_of_ble_eq_true rfl, Nat.le_of_ble_eq_true rfl⟩ rfl hK hA hw at_C_7 rfl rfl rfl (Nat.le_of_ble_eq_true rfl) d_Row_putInt_17 ⟨Nat.le_refl _, Nat.le_refl _⟩ h (fun H locs q2 h hw => ?_)
  refine lv_aload_n hx hb d_Row_putInt_20 rfl (lv_at hl 0 rfl) ?_
  refine lv_iload_n hx hb d_Row_putInt_21 rfl (lv_at hl 1 rfl) ?_
  refine lv_bipush (v := 8) hx hb d_Row_putInt_22 (by decide) ?_
  refine lv_iushr (v := (us x1 8)) hx hb d_Row_putInt_24 rfl ?_
  refine lv_sipush (v := 255) hx hb d_Row_putInt_25 (by decide) ?_
  refine lv_iand hx hb d_Row_putInt_28 ?_
  refine fx_sVv (As := [.int ((us x1 8) &&& 255)]) hC hl.1 (fun q hq => c_Row_put_7 l D ad cI cZ cT v q2 ((us x1 8) &&& 255) q hq) fy_Row_put fv_Row_put kw_286 ⟨Nat.le_of_ble_eq_true rfl, Nat.le_of_ble_eq_true rfl⟩ rfl hK hA hw at_C_7 rfl rfl rfl (Nat.le_of_ble_eq_true rfl) d_Row_putInt_29 ⟨Nat.le_refl _, Nat.le_refl _⟩ h (fun H locs q3 h hw => ?_)
  refine lv_aload_n hx hb d_Row_putInt_32 rfl (lv_at hl 0 rfl) ?_
  refine lv_iload_n hx hb d_Row_putInt_33 rfl (lv_at hl 1 rfl) ?_
  refine lv_sipush (v := 255) hx hb d_Row_putInt_34 (by decide) ?_
  refine lv_iand hx hb d_Row_putInt_37 ?_
  refine fx_sVv (As := [.int (x1 &&& 255)]) hC hl.1 (fun q hq => c_Row_put_7 l D ad cI cZ cT v q3 (x1 &&& 255) q hq) fy_Row_put fv_Row_put kw_286 ⟨Nat.le_of_ble_eq_true rfl, Nat.le_of_ble_eq_true rfl⟩ rfl hK hA hw at_C_7 rfl rfl rfl (Nat.le_of_ble_eq_true rfl) d_Row_putInt_38 ⟨Nat.le_refl _, Nat.le_refl _⟩ h (fun H locs q4 h hw => ?_)
  exact fx_retv hC hr hK hw h d_Row_putInt_41
def f_PT_ask (u : ST) (x1 x2 x3 x4 x5 : Int32) : Option (Int32 × ST) :=
  k_bd (f_PT_isOtherStation u x1) fun q1 =>
  if q1 = 0 then
    some (0, u)
  else
  k_bd (f_PT_isByte x2) fun q3 =>
  if q3 = 0 then
    some (0, u)
  else
  k_bd (f_PT_isByte x5) fun q5 =>
  if q5 = 0 then
    some (0, u)
  else
  if x3 < 0 then
    some (0, u)
  else
  if 1023 < x3 then
    some (0, u)
  else
  if x4 < 0 then
    some (0, u)
  else
  if x4 ≤ 4194303 then
    k_bd (f_Row_clear_7 u) fun q11 =>
    k_bd (f_Row_put_7 q11 1) fun q12 =>
    k_bd (f_Row_put_7 q12 4) fun q13 =>
    k_bd (f_Row_put_7 q13 0) fun q14 =>
    k_bd (f_Row_put_7 q14 4) fun q15 =>
    k_bd (f_Row_put_7 q15 x2) fun q16 =>
    k_bd (f_Row_put_7 q16 12) fun q17 =>
    k_bd (f_Row_put_7 q17 12) fun q18 =>
    k_bd (f_Row_putInt_7 q18 ((x3 * 4194304) + x4)) fun q19 =>
    k_bd (f_Row_put_7 q19 25) fun q20 =>
    k_bd (f_Row_put_7 q20 x5) fun q21 =>
    k_let (ss q21 10 x1) fun u22 =>
    k_let (ss u22 11 1) fun u23 =>
    some (1, u23)
  else
  some (0, u)
set_option maxHeartbeats 4000000 in
set_option maxRecDepth 100000 in
theorem c_PT_ask (l : Launch) (D : va_G) (ad : Nat → Nat) (cI cZ cT : ClassId) (v u : ST) (x1 x2 x3 x4 x5 : Int32) (q : Int32 × ST) (h : f_PT_ask u x1 x2 x3 x4 x5 = some q) : MX l D (tyC cI cZ cT) (wC ad cI cZ cT v) y_PT_ask cd_PT_ask 2 42 [.ref (ad 0), .int x1, .int x2, .int x3, .int x4, .int x5] u (some (.int q.1)) q.2 := by
  refine MX.start (by decide) (Nat.le_of_ble_eq_true rfl) ?_
  intro p e s m below meth c ls A hC hr hl hK hA hw
  have ⟨hx, hb, hml, hown, hT, hlk⟩ := hC
  have hl : lv_has ls 6 [(0, .ref (ad 0)), (1, .int x1), (2, .int x2), (3, .int x3), (4, .int x4), (5, .int x5)] := hl
  rw [f_PT_ask] at h
  refine lv_aload_n hx hb d_PT_ask_0 rfl (lv_at hl 0 rfl) ?_
  refine lv_iload_n hx hb d_PT_ask_1 rfl (lv_at hl 1 rfl) ?_
  refine fx_sVr (As := [.int x1]) hC hl.1 (fun q hq => c_PT_isOtherStation l D ad cI cZ cT v u x1 q hq) fy_PT_isOtherStation fv_PT_isOtherStation kw_445 ⟨Nat.le_of_ble_eq_true rfl, Nat.le_of_ble_eq_true rfl⟩ rfl hK hA hw at_C_0 rfl rfl rfl (Nat.le_of_ble_eq_true rfl) d_PT_ask_2 ⟨Nat.le_refl _, Nat.le_refl _⟩ h (fun H locs q1 h hw => ?_)
  refine lv_if_eq (tgt := 23) hx hb d_PT_ask_5 rfl (fun c2 => ?_) (fun c2 => ?_)
  · have h := br1 c2 h
    refine lv_iconst (v := 0) hx hb d_PT_ask_23 (by decide) ?_
    exact fx_retw hC hr (by decide) hK hw h d_PT_ask_24
  · have h := br0 c2 h
    refine lv_iload_n hx hb d_PT_ask_8 rfl (lv_at hl 2 rfl) ?_
    refine fx_sSr (As := [.int x2]) hC hl.1 (fun q hq => c_PT_isByte l D ad cI cZ cT v u x2 q hq) fy_PT_isByte fs_PT_isByte kw_193 ⟨Nat.le_of_ble_eq_true rfl, Nat.le_of_ble_eq_true rfl⟩ rfl hK hA hw rfl (Nat.le_of_ble_eq_true rfl) d_PT_ask_9 ⟨Nat.le_refl _, Nat.le_refl _⟩ h (fun H locs q3 h hw => ?_)
    refine lv_if_eq (tgt := 23) hx hb d_PT_ask_12 rfl (fun c4 => ?_) (fun c4 => ?_)
    · have h := br1 c4 h
      refine lv_iconst (v := 0) hx hb d_PT_ask_23 (by decide) ?_
      exact fx_retw hC hr (by decide) hK hw h d_PT_ask_24
    · have h := br0 c4 h
      refine lv_iload hx hb d_PT_ask_15 (lv_at hl 5 rfl) ?_
      refine fx_sSr (As := [.int x5]) hC hl.1 (fun q hq => c_PT_isByte l D ad cI cZ cT v u x5 q hq) fy_PT_isByte fs_PT_isByte kw_193 ⟨Nat.le_of_ble_eq_true rfl, Nat.le_of_ble_eq_true rfl⟩ rfl hK hA hw rfl (Nat.le_of_ble_eq_true rfl) d_PT_ask_17 ⟨Nat.le_refl _, Nat.le_refl _⟩ h (fun H locs q5 h hw => ?_)
      refine lv_if_ne (tgt := 25) hx hb d_PT_ask_20 rfl (fun c6 => ?_) (fun c6 => ?_)
      · have h := br0 c6 h
        refine lv_iload_n hx hb d_PT_ask_25 rfl (lv_at hl 3 rfl) ?_
        refine lv_if_lt (tgt := 48) hx hb d_PT_ask_26 rfl (fun c7 => ?_) (fun c7 => ?_)
        · have h := br1 c7 h
          refine lv_iconst (v := 0) hx hb d_PT_ask_48 (by decide) ?_
          exact fx_retw hC hr (by decide) hK hw h d_PT_ask_49
        · have h := br0 c7 h
          refine lv_iload_n hx hb d_PT_ask_29 rfl (lv_at hl 3 rfl) ?_
          refine lv_sipush (v := 1023) hx hb d_PT_ask_30 (by decide) ?_
          refine lv_icmp_gt (tgt := 48) hx hb d_PT_ask_33 rfl (fun c8 => ?_) (fun c8 => ?_)
          · have h := br1 c8 h
            refine lv_iconst (v := 0) hx hb d_PT_ask_48 (by decide) ?_
            exact fx_retw hC hr (by decide) hK hw h d_PT_ask_49
          · have h := br0 c8 h
            refine lv_iload hx hb d_PT_ask_36 (lv_at hl 4 rfl) ?_
            refine lv_if_lt (tgt := 48) hx hb d_PT_ask_38 rfl (fun c9 => ?_) (fun c9 => ?_)
            · have h := br1 c9 h
              refine lv_iconst (v := 0) hx hb d_PT_ask_48 (by decide) ?_
              exact fx_retw hC hr (by decide) hK hw h d_PT_ask_49
            · have h := br0 c9 h
              refine lv_iload hx hb d_PT_ask_41 (lv_at hl 4 rfl) ?_
              refine lv_ldc (v := 4194303) hx hb hown (hT _ kw_470) d_PT_ask_43 ?_
              refine lv_icmp_le (tgt := 50) hx hb d_PT_ask_45 rfl (fun c10 => ?_) (fun c10 => ?_)
              · have h := br1 c10 h
                refine lv_aload_n hx hb d_PT_ask_50 rfl (lv_at hl 0 rfl) ?_
                refine gf_C_0_request hC hK hw d_PT_ask_51 ?_
                refine fx_sVv (As := []) hC hl.1 (fun q hq => c_Row_clear_7 l D ad cI cZ cT v u q hq) fy_Row_clear fv_Row_clear kw_196 ⟨Nat.le_of_ble_eq_true rfl, Nat.le_of_ble_eq_true rfl⟩ rfl hK hA hw at_C_7 rfl rfl rfl (Nat.le_of_ble_eq_true rfl) d_PT_ask_54 ⟨Nat.le_refl _, Nat.le_refl _⟩ h (fun H locs q11 h hw => ?_)
                refine lv_aload_n hx hb d_PT_ask_57 rfl (lv_at hl 0 rfl) ?_
                refine gf_C_0_request hC hK hw d_PT_ask_58 ?_
                refine lv_iconst (v := 1) hx hb d_PT_ask_61 (by decide) ?_
                refine fx_sVv (As := [.int 1]) hC hl.1 (fun q hq => c_Row_put_7 l D ad cI cZ cT v q11 1 q hq) fy_Row_put fv_Row_put kw_275 ⟨Nat.le_of_ble_eq_true rfl, Nat.le_of_ble_eq_true rfl⟩ rfl hK hA hw at_C_7 rfl rfl rfl (Nat.le_of_ble_eq_true rfl) d_PT_ask_62 ⟨Nat.le_refl _, Nat.le_refl _⟩ h (fun H locs q12 h hw => ?_)
                refine lv_aload_n hx hb d_PT_ask_65 rfl (lv_at hl 0 rfl) ?_
                refine gf_C_0_request hC hK hw d_PT_ask_66 ?_
                refine lv_iconst (v := 4) hx hb d_PT_ask_69 (by decide) ?_
                refine fx_sVv (As := [.int 4]) hC hl.1 (fun q hq => c_Row_put_7 l D ad cI cZ cT v q12 4 q hq) fy_Row_put fv_Row_put kw_275 ⟨Nat.le_of_ble_eq_true rfl, Nat.le_of_ble_eq_true rfl⟩ rfl hK hA hw at_C_7 rfl rfl rfl (Nat.le_of_ble_eq_true rfl) d_PT_ask_70 ⟨Nat.le_refl _, Nat.le_refl _⟩ h (fun H locs q13 h hw => ?_)
                refine lv_aload_n hx hb d_PT_ask_73 rfl (lv_at hl 0 rfl) ?_
                refine gf_C_0_request hC hK hw d_PT_ask_74 ?_
                refine lv_iconst (v := 0) hx hb d_PT_ask_77 (by decide) ?_
                refine fx_sVv (As := [.int 0]) hC hl.1 (fun q hq => c_Row_put_7 l D ad cI cZ cT v q13 0 q hq) fy_Row_put fv_Row_put kw_275 ⟨Nat.le_of_ble_eq_true rfl, Nat.le_of_ble_eq_true rfl⟩ rfl hK hA hw at_C_7 rfl rfl rfl (Nat.le_of_ble_eq_true rfl) d_PT_ask_78 ⟨Nat.le_refl _, Nat.le_refl _⟩ h (fun H locs q14 h hw => ?_)
                refine lv_aload_n hx hb d_PT_ask_81 rfl (lv_at hl 0 rfl) ?_
                refine gf_C_0_request hC hK hw d_PT_ask_82 ?_
                refine lv_iconst (v := 4) hx hb d_PT_ask_85 (by decide) ?_
                refine fx_sVv (As := [.int 4]) hC hl.1 (fun q hq => c_Row_put_7 l D ad cI cZ cT v q14 4 q hq) fy_Row_put fv_Row_put kw_275 ⟨Nat.le_of_ble_eq_true rfl, Nat.le_of_ble_eq_true rfl⟩ rfl hK hA hw at_C_7 rfl rfl rfl (Nat.le_of_ble_eq_true rfl) d_PT_ask_86 ⟨Nat.le_refl _, Nat.le_refl _⟩ h (fun H locs q15 h hw => ?_)
                refine lv_aload_n hx hb d_PT_ask_89 rfl (lv_at hl 0 rfl) ?_
                refine gf_C_0_request hC hK hw d_PT_ask_90 ?_
                refine lv_iload_n hx hb d_PT_ask_93 rfl (lv_at hl 2 rfl) ?_
                refine fx_sVv (As := [.int x2]) hC hl.1 (fun q hq => c_Row_put_7 l D ad cI cZ cT v q15 x2 q hq) fy_Row_put fv_Row_put kw_275 ⟨Nat.le_of_ble_eq_true rfl, Nat.le_of_ble_eq_true rfl⟩ rfl hK hA hw at_C_7 rfl rfl rfl (Nat.le_of_ble_eq_true rfl) d_PT_ask_94 ⟨Nat.le_refl _, Nat.le_refl _⟩ h (fun H locs q16 h hw => ?_)
                refine lv_aload_n hx hb d_PT_ask_97 rfl (lv_at hl 0 rfl) ?_
                refine gf_C_0_request hC hK hw d_PT_ask_98 ?_
                refine lv_bipush (v := 12) hx hb d_PT_ask_101 (by decide) ?_
                refine fx_sVv (As := [.int 12]) hC hl.1 (fun q hq => c_Row_put_7 l D ad cI cZ cT v q16 12 q hq) fy_Row_put fv_Row_put kw_275 ⟨Nat.le_of_ble_eq_true rfl, Nat.le_of_ble_eq_true rfl⟩ rfl hK hA hw at_C_7 rfl rfl rfl (Nat.le_of_ble_eq_true rfl) d_PT_ask_103 ⟨Nat.le_refl _, Nat.le_refl _⟩ h (fun H locs q17 h hw => ?_)
                refine lv_aload_n hx hb d_PT_ask_106 rfl (lv_at hl 0 rfl) ?_
                refine gf_C_0_request hC hK hw d_PT_ask_107 ?_
                refine lv_bipush (v := 12) hx hb d_PT_ask_110 (by decide) ?_
                refine fx_sVv (As := [.int 12]) hC hl.1 (fun q hq => c_Row_put_7 l D ad cI cZ cT v q17 12 q hq) fy_Row_put fv_Row_put kw_275 ⟨Nat.le_of_ble_eq_true rfl, Nat.le_of_ble_eq_true rfl⟩ rfl hK hA hw at_C_7 rfl rfl rfl (Nat.le_of_ble_eq_true rfl) d_PT_ask_112 ⟨Nat.le_refl _, Nat.le_refl _⟩ h (fun H locs q18 h hw => ?_)
                refine lv_aload_n hx hb d_PT_ask_115 rfl (lv_at hl 0 rfl) ?_
                refine gf_C_0_request hC hK hw d_PT_ask_116 ?_
                refine lv_iload_n hx hb d_PT_ask_119 rfl (lv_at hl 3 rfl) ?_
                refine lv_ldc (v := 4194304) hx hb hown (hT _ kw_471) d_PT_ask_120 ?_
                refine lv_imul hx hb d_PT_ask_122 ?_
                refine lv_iload hx hb d_PT_ask_123 (lv_at hl 4 rfl) ?_
                refine lv_iadd hx hb d_PT_ask_125 ?_
                refine fx_sVv (As := [.int ((x3 * 4194304) + x4)]) hC hl.1 (fun q hq => c_Row_putInt_7 l D ad cI cZ cT v q18 ((x3 * 4194304) + x4) q hq) fy_Row_putInt fv_Row_putInt kw_472 ⟨Nat.le_of_ble_eq_true rfl, Nat.le_of_ble_eq_true rfl⟩ rfl hK hA hw at_C_7 rfl rfl rfl (Nat.le_of_ble_eq_true rfl) d_PT_ask_126 ⟨Nat.le_refl _, Nat.le_refl _⟩ h (fun H locs q19 h hw => ?_)
                refine lv_aload_n hx hb d_PT_ask_129 rfl (lv_at hl 0 rfl) ?_
                refine gf_C_0_request hC hK hw d_PT_ask_130 ?_
                refine lv_bipush (v := 25) hx hb d_PT_ask_133 (by decide) ?_
                refine fx_sVv (As := [.int 25]) hC hl.1 (fun q hq => c_Row_put_7 l D ad cI cZ cT v q19 25 q hq) fy_Row_put fv_Row_put kw_275 ⟨Nat.le_of_ble_eq_true rfl, Nat.le_of_ble_eq_true rfl⟩ rfl hK hA hw at_C_7 rfl rfl rfl (Nat.le_of_ble_eq_true rfl) d_PT_ask_135 ⟨Nat.le_refl _, Nat.le_refl _⟩ h (fun H locs q20 h hw => ?_)
                refine lv_aload_n hx hb d_PT_ask_138 rfl (lv_at hl 0 rfl) ?_
                refine gf_C_0_request hC hK hw d_PT_ask_139 ?_
                refine lv_iload hx hb d_PT_ask_142 (lv_at hl 5 rfl) ?_
                refine fx_sVv (As := [.int x5]) hC hl.1 (fun q hq => c_Row_put_7 l D ad cI cZ cT v q20 x5 q hq) fy_Row_put fv_Row_put kw_275 ⟨Nat.le_of_ble_eq_true rfl, Nat.le_of_ble_eq_true rfl⟩ rfl hK hA hw at_C_7 rfl rfl rfl (Nat.le_of_ble_eq_true rfl) d_PT_ask_144 ⟨Nat.le_refl _, Nat.le_refl _⟩ h (fun H locs q21 h hw => ?_)
                refine lv_aload_n hx hb d_PT_ask_147 rfl (lv_at hl 0 rfl) ?_
                refine lv_iload_n hx hb d_PT_ask_148 rfl (lv_at hl 1 rfl) ?_
                refine pf_C_0_requestTo hC hK hw d_PT_ask_149 h (fun H locs u22 h hw => ?_)
                refine lv_aload_n hx hb d_PT_ask_152 rfl (lv_at hl 0 rfl) ?_
                refine lv_iconst (v := 1) hx hb d_PT_ask_153 (by decide) ?_
                refine pf_C_0_requestWaits hC hK hw (by decide) d_PT_ask_154 h (fun H locs u23 h hw => ?_)
                refine lv_iconst (v := 1) hx hb d_PT_ask_157 (by decide) ?_
                exact fx_retw hC hr (by decide) hK hw h d_PT_ask_158
              · have h := br0 c10 h
                refine lv_iconst (v := 0) hx hb d_PT_ask_48 (by decide) ?_
                exact fx_retw hC hr (by decide) hK hw h d_PT_ask_49
      · have h := br1 c6 h
        refine lv_iconst (v := 0) hx hb d_PT_ask_23 (by decide) ?_
        exact fx_retw hC hr (by decide) hK hw h d_PT_ask_24
