def f_Mod_makeAnswer_J296 (u : ST) (y1 y3 y4 y5 y6 y7 y8 : Int32) : Option (ST) :=
  if (u.1 28) = 0 then
    k_bd (f_Mod_reject u y1 4) fun q17 =>
    some q17
  else
  if (u.1 27) = (u.1 13) then
    k_bd (f_Mod_answerTo u y1 y3 y4 y5 y6 y7 y8) fun q19 =>
    some q19
  else
  k_bd (f_Mod_reject u y1 4) fun q20 =>
  some q20
def f_Mod_makeAnswer_J293 (u : ST) (y1 y3 y4 y5 y6 y7 y8 s0 : Int32) : Option (ST) :=
  k_gd (isz s0) (
  k_let (ss u 28 s0) fun u35 =>
  f_Mod_makeAnswer_J296 u35 y1 y3 y4 y5 y6 y7 y8)
def f_Mod_makeAnswer_J292 (u : ST) (y1 y3 y4 y5 y6 y7 y8 : Int32) : Option (ST) :=
  f_Mod_makeAnswer_J293 u y1 y3 y4 y5 y6 y7 y8 0
def f_Mod_makeAnswer_J233 (u : ST) (y1 y3 y4 y5 y6 y7 y8 s0 : Int32) : Option (ST) :=
  k_gd (isz s0) (
  k_let (ss u 28 s0) fun u27 =>
  k_bd (f_Mod_expect u27 63) fun q28 =>
  k_bd (f_Mod_isNext q28 73) fun q29 =>
  if q29 = 0 then
    f_Mod_makeAnswer_J296 q28 y1 y3 y4 y5 y6 y7 y8
  else
  k_let (ss q28 27 ((q28.1 27) + 1)) fun u31 =>
  k_bd (f_Mod_take u31) fun q32 =>
  if (q32.2.1 28) = 0 then
    f_Mod_makeAnswer_J292 q32.2 y1 y3 y4 y5 y6 y7 q32.1
  else
  if q32.1 < 1 then
    f_Mod_makeAnswer_J292 q32.2 y1 y3 y4 y5 y6 y7 q32.1
  else
  if 16 < q32.1 then
    f_Mod_makeAnswer_J292 q32.2 y1 y3 y4 y5 y6 y7 q32.1
  else
  f_Mod_makeAnswer_J293 q32.2 y1 y3 y4 y5 y6 y7 q32.1 1)
def f_Mod_makeAnswer_J232 (u : ST) (y1 y3 y4 y5 y6 y7 y8 : Int32) : Option (ST) :=
  f_Mod_makeAnswer_J233 u y1 y3 y4 y5 y6 y7 y8 0
def f_Mod_makeAnswer_J228 (u : ST) (y1 y3 y4 y5 y6 y7 y8 : Int32) : Option (ST) :=
  f_Mod_makeAnswer_J233 u y1 y3 y4 y5 y6 y7 y8 1
def f_Mod_makeAnswer_J198 (u : ST) (y1 y3 y4 y5 y6 y8 s0 : Int32) : Option (ST) :=
  if (u.1 28) = 0 then
    f_Mod_makeAnswer_J232 u y1 y3 y4 y5 y6 s0 y8
  else
  if y6 = 0 then
    f_Mod_makeAnswer_J228 u y1 y3 y4 y5 y6 s0 y8
  else
  if y6 = 68 then
    f_Mod_makeAnswer_J228 u y1 y3 y4 y5 y6 s0 y8
  else
  if y6 = 145 then
    f_Mod_makeAnswer_J228 u y1 y3 y4 y5 y6 s0 y8
  else
  f_Mod_makeAnswer_J232 u y1 y3 y4 y5 y6 s0 y8
def f_Mod_makeAnswer_J140 (u : ST) (y1 y2 y3 y4 y5 : Int32) : Option (ST) :=
  if y2 = 15 then
    k_bd (f_Mod_expect u 62) fun q21 =>
    k_bd (f_Mod_take q21) fun q22 =>
    if q22.1 = 68 then
      k_bd (f_Mod_takeInt q22.2) fun q42 =>
      f_Mod_makeAnswer_J198 q42.2 y1 y3 y4 y5 q22.1 16 q42.1
    else
    if q22.1 = 145 then
      k_bd (f_Mod_take q22.2) fun q41 =>
      f_Mod_makeAnswer_J198 q41.2 y1 y3 y4 y5 q22.1 16 q41.1
    else
    f_Mod_makeAnswer_J198 q22.2 y1 y3 y4 y5 q22.1 16 0
  else
  f_Mod_makeAnswer_J296 u y1 y3 y4 y5 (-1) 0 16
def f_Mod_makeAnswer_J78 (u : ST) (y1 y2 : Int32) : Option (ST) :=
  k_let (ss u 28 1) fun u7 =>
  k_let (ss u7 27 6) fun u8 =>
  k_bd (f_Mod_expect u8 12) fun q9 =>
  k_bd (f_Mod_takeInt q9) fun q10 =>
  k_bd (f_Mod_expect q10.2 25) fun q11 =>
  k_bd (f_Mod_take q11) fun q12 =>
  k_bd (f_Mod_isNext q12.2 41) fun q13 =>
  if q13 = 0 then
    f_Mod_makeAnswer_J140 q12.2 y1 y2 q10.1 q12.1 (-1)
  else
  k_let (ss q12.2 27 ((q12.2.1 27) + 1)) fun u43 =>
  k_bd (f_Mod_take u43) fun q44 =>
  f_Mod_makeAnswer_J140 q44.2 y1 y2 q10.1 q12.1 q44.1
def f_Mod_makeAnswer (u : ST)  : Option (ST) :=
  k_let (ss u 18 0) fun u1 =>
  if (u1.1 13) < 6 then
    some u1
  else
  k_gd (inb 0 42) (
  if (u1.2 1 (0 : Int32).toNatClampNeg) = 1 then
    k_gd (inb 1 42) (
    if (u1.2 1 (1 : Int32).toNatClampNeg) = 4 then
      k_gd (inb 2 42) (
      if (u1.2 1 (2 : Int32).toNatClampNeg) = 0 then
        k_gd (inb 4 42) (
        k_gd (inb 5 42) (
        if (u1.2 1 (5 : Int32).toNatClampNeg) = 12 then
          f_Mod_makeAnswer_J78 u1 (u1.2 1 (4 : Int32).toNatClampNeg) (u1.2 1 (5 : Int32).toNatClampNeg)
        else
        if (u1.2 1 (5 : Int32).toNatClampNeg) = 15 then
          f_Mod_makeAnswer_J78 u1 (u1.2 1 (4 : Int32).toNatClampNeg) (u1.2 1 (5 : Int32).toNatClampNeg)
        else
        k_bd (f_Mod_reject u1 (u1.2 1 (4 : Int32).toNatClampNeg) 9) fun q46 =>
        some q46))
      else
      some u1)
    else
    some u1)
  else
  some u1)
set_option maxHeartbeats 4000000 in
set_option maxRecDepth 100000 in
theorem c_Mod_makeAnswer (l : Launch) (D : va_G) (ad : Nat → Nat) (cI cZ cT : ClassId) (v u : ST) (q : ST) (h : f_Mod_makeAnswer u = some q) : MX l D (tyC cI cZ cT) (wM ad cI cZ cT v) y_Mod_makeAnswer cd_Mod_makeAnswer 5 120 [.ref (ad 30)] u none q := by
  refine MX.start (by decide) (Nat.le_of_ble_eq_true rfl) ?_
  intro p e s m below meth c ls A hC hr hl hK hA hw
  have ⟨hx, hb, hml, hown, hT, hlk⟩ := hC
  have hl : lv_has ls 9 [(0, .ref (ad 30))] := hl
  have J296 : ∀ (u : ST) (y1 y3 y4 y5 y6 y7 y8 : Int32) (ls : Array Slot) (H : Heap) (locs : List Loc), f_Mod_makeAnswer_J296 u y1 y3 y4 y5 y6 y7 y8 = some q → lv_has ls 9 [(0, .ref (ad 30)), (1, .int y1), (3, .int y3), (4, .int y4), (5, .int y5), (6, .int y6), (7, .int y7), (8, .int y8)] → fw D A s.heap (wM ad cI cZ cT v u) H locs → WX (wM ad cI cZ cT v) p l e 5 120 s m [.ref (ad 30)] below meth c A D (tyC cI cZ cT) none q H locs (F0 m 296 ls []) := by
    intro u y1 y3 y4 y5 y6 y7 y8 ls H locs h hl hw
    rw [f_Mod_makeAnswer_J296] at h
    refine lv_aload_n hx hb d_Mod_makeAnswer_296 rfl (lv_at hl 0 rfl) ?_
    refine gf_M_30_fine hC hK hw d_Mod_makeAnswer_297 ?_
    refine lv_if_eq (tgt := 314) hx hb d_Mod_makeAnswer_300 rfl (fun c16 => ?_) (fun c16 => ?_)
    · have h := br1 c16 h
      refine lv_aload_n hx hb d_Mod_makeAnswer_314 rfl (lv_at hl 0 rfl) ?_
      refine lv_iload_n hx hb d_Mod_makeAnswer_315 rfl (lv_at hl 1 rfl) ?_
      refine lv_iconst (v := 4) hx hb d_Mod_makeAnswer_316 (by decide) ?_
      refine fx_sVv (As := [.int y1, .int 4]) hC hl.1 (fun q hq => c_Mod_reject l D ad cI cZ cT v u y1 4 q hq) fy_Mod_reject fv_Mod_reject kw_653 ⟨Nat.le_of_ble_eq_true rfl, Nat.le_of_ble_eq_true rfl⟩ rfl hK hA hw at_M_30 rfl rfl rfl (Nat.le_of_ble_eq_true rfl) d_Mod_makeAnswer_317 ⟨Nat.le_refl _, Nat.le_refl _⟩ h (fun H locs q17 h hw => ?_)
      refine lv_goto (tgt := 339) hx hb d_Mod_makeAnswer_320 rfl ?_
      exact fx_retv hC hr hK hw h d_Mod_makeAnswer_339
    · have h := br0 c16 h
      refine lv_aload_n hx hb d_Mod_makeAnswer_303 rfl (lv_at hl 0 rfl) ?_
      refine gf_M_30_at hC hK hw d_Mod_makeAnswer_304 ?_
      refine lv_aload_n hx hb d_Mod_makeAnswer_307 rfl (lv_at hl 0 rfl) ?_
      refine gf_M_30_size hC hK hw d_Mod_makeAnswer_308 ?_
      refine lv_icmp_eq (tgt := 323) hx hb d_Mod_makeAnswer_311 rfl (fun c18 => ?_) (fun c18 => ?_)
      · have h := br1 c18 h
        refine lv_aload_n hx hb d_Mod_makeAnswer_323 rfl (lv_at hl 0 rfl) ?_
        refine lv_iload_n hx hb d_Mod_makeAnswer_324 rfl (lv_at hl 1 rfl) ?_
        refine lv_iload_n hx hb d_Mod_makeAnswer_325 rfl (lv_at hl 2 rfl) ?_
        refine lv_iload hx hb d_Mod_makeAnswer_326 (lv_at hl 3 rfl) ?_
        refine lv_iload hx hb d_Mod_makeAnswer_328 (lv_at hl 4 rfl) ?_
        refine lv_iload hx hb d_Mod_makeAnswer_330 (lv_at hl 5 rfl) ?_
        refine lv_iload hx hb d_Mod_makeAnswer_332 (lv_at hl 6 rfl) ?_
        refine lv_iload hx hb d_Mod_makeAnswer_334 (lv_at hl 7 rfl) ?_
        refine fx_sVv (As := [.int y1, .int y3, .int y4, .int y5, .int y6, .int y7, .int y8]) hC hl.1 (fun q hq => c_Mod_answerTo l D ad cI cZ cT v u y1 y3 y4 y5 y6 y7 y8 q hq) fy_Mod_answerTo fv_Mod_answerTo kw_677 ⟨Nat.le_of_ble_eq_true rfl, Nat.le_of_ble_eq_true rfl⟩ rfl hK hA hw at_M_30 rfl rfl rfl (Nat.le_of_ble_eq_true rfl) d_Mod_makeAnswer_336 ⟨Nat.le_refl _, Nat.le_refl _⟩ h (fun H locs q19 h hw => ?_)
        exact fx_retv hC hr hK hw h d_Mod_makeAnswer_339
      · have h := br0 c18 h
        refine lv_aload_n hx hb d_Mod_makeAnswer_314 rfl (lv_at hl 0 rfl) ?_
        refine lv_iload_n hx hb d_Mod_makeAnswer_315 rfl (lv_at hl 1 rfl) ?_
        refine lv_iconst (v := 4) hx hb d_Mod_makeAnswer_316 (by decide) ?_
        refine fx_sVv (As := [.int y1, .int 4]) hC hl.1 (fun q hq => c_Mod_reject l D ad cI cZ cT v u y1 4 q hq) fy_Mod_reject fv_Mod_reject kw_653 ⟨Nat.le_of_ble_eq_true rfl, Nat.le_of_ble_eq_true rfl⟩ rfl hK hA hw at_M_30 rfl rfl rfl (Nat.le_of_ble_eq_true rfl) d_Mod_makeAnswer_317 ⟨Nat.le_refl _, Nat.le_refl _⟩ h (fun H locs q20 h hw => ?_)
        refine lv_goto (tgt := 339) hx hb d_Mod_makeAnswer_320 rfl ?_
        exact fx_retv hC hr hK hw h d_Mod_makeAnswer_339
  have J293 : ∀ (u : ST) (y1 y3 y4 y5 y6 y7 y8 s0 : Int32) (ls : Array Slot) (H : Heap) (locs : List Loc), f_Mod_makeAnswer_J293 u y1 y3 y4 y5 y6 y7 y8 s0 = some q → lv_has ls 9 [(0, .ref (ad 30)), (1, .int y1), (3, .int y3), (4, .int y4), (5, .int y5), (6, .int y6), (7, .int y7), (8, .int y8)] → fw D A s.heap (wM ad cI cZ cT v u) H locs → WX (wM ad cI cZ cT v) p l e 5 120 s m [.ref (ad 30)] below meth c A D (tyC cI cZ cT) none q H locs (F0 m 293 ls [.int s0, .ref (ad 30)]) := by
    intro u y1 y3 y4 y5 y6 y7 y8 s0 ls H locs h hl hw
    rw [f_Mod_makeAnswer_J293] at h
    obtain ⟨g34, h⟩ := k_gd_some h
    refine pf_M_30_fine hC hK hw g34 d_Mod_makeAnswer_293 h (fun H locs u35 h hw => ?_)
    exact J296 _ _ _ _ _ _ _ _ _ _ _ h (lv_sub hl [0, 1, 2, 3, 4, 5, 6, 7] rfl) hw
  have J292 : ∀ (u : ST) (y1 y3 y4 y5 y6 y7 y8 : Int32) (ls : Array Slot) (H : Heap) (locs : List Loc), f_Mod_makeAnswer_J292 u y1 y3 y4 y5 y6 y7 y8 = some q → lv_has ls 9 [(0, .ref (ad 30)), (1, .int y1), (3, .int y3), (4, .int y4), (5, .int y5), (6, .int y6), (7, .int y7), (8, .int y8)] → fw D A s.heap (wM ad cI cZ cT v u) H locs → WX (wM ad cI cZ cT v) p l e 5 120 s m [.ref (ad 30)] below meth c A D (tyC cI cZ cT) none q H locs (F0 m 292 ls [.ref (ad 30)]) := by
    intro u y1 y3 y4 y5 y6 y7 y8 ls H locs h hl hw
    rw [f_Mod_makeAnswer_J292] at h
    refine lv_iconst (v := 0) hx hb d_Mod_makeAnswer_292 (by decide) ?_
    exact J293 _ _ _ _ _ _ _ _ _ _ _ _ h (lv_sub hl [0, 1, 2, 3, 4, 5, 6, 7] rfl) hw
  have J233 : ∀ (u : ST) (y1 y3 y4 y5 y6 y7 y8 s0 : Int32) (ls : Array Slot) (H : Heap) (locs : List Loc), f_Mod_makeAnswer_J233 u y1 y3 y4 y5 y6 y7 y8 s0 = some q → lv_has ls 9 [(0, .ref (ad 30)), (1, .int y1), (3, .int y3), (4, .int y4), (5, .int y5), (6, .int y6), (7, .int y7), (8, .int y8)] → fw D A s.heap (wM ad cI cZ cT v u) H locs → WX (wM ad cI cZ cT v) p l e 5 120 s m [.ref (ad 30)] below meth c A D (tyC cI cZ cT) none q H locs (F0 m 233 ls [.int s0, .ref (ad 30)]) := by
    intro u y1 y3 y4 y5 y6 y7 y8 s0 ls H locs h hl hw
    rw [f_Mod_makeAnswer_J233] at h
    obtain ⟨g26, h⟩ := k_gd_some h
    refine pf_M_30_fine hC hK hw g26 d_Mod_makeAnswer_233 h (fun H locs u27 h hw => ?_)
    refine lv_aload_n hx hb d_Mod_makeAnswer_236 rfl (lv_at hl 0 rfl) ?_
    refine lv_bipush (v := 63) hx hb d_Mod_makeAnswer_237 (by decide) ?_
    refine fx_sVv (As := [.int 63]) hC hl.1 (fun q hq => c_Mod_expect l D ad cI cZ cT v u27 63 q hq) fy_Mod_expect fv_Mod_expect kw_661 ⟨Nat.le_of_ble_eq_true rfl, Nat.le_of_ble_eq_true rfl⟩ rfl hK hA hw at_M_30 rfl rfl rfl (Nat.le_of_ble_eq_true rfl) d_Mod_makeAnswer_239 ⟨Nat.le_refl _, Nat.le_refl _⟩ h (fun H locs q28 h hw => ?_)
    refine lv_aload_n hx hb d_Mod_makeAnswer_242 rfl (lv_at hl 0 rfl) ?_
    refine lv_bipush (v := 73) hx hb d_Mod_makeAnswer_243 (by decide) ?_
    refine fx_sVr (As := [.int 73]) hC hl.1 (fun q hq => c_Mod_isNext l D ad cI cZ cT v q28 73 q hq) fy_Mod_isNext fv_Mod_isNext kw_673 ⟨Nat.le_of_ble_eq_true rfl, Nat.le_of_ble_eq_true rfl⟩ rfl hK hA hw at_M_30 rfl rfl rfl (Nat.le_of_ble_eq_true rfl) d_Mod_makeAnswer_245 ⟨Nat.le_refl _, Nat.le_refl _⟩ h (fun H locs q29 h hw => ?_)
    refine lv_if_eq (tgt := 296) hx hb d_Mod_makeAnswer_248 rfl (fun c30 => ?_) (fun c30 => ?_)
    · have h := br1 c30 h
      exact J296 _ _ _ _ _ _ _ _ _ _ _ h (lv_sub hl [0, 1, 2, 3, 4, 5, 6, 7] rfl) hw
    · have h := br0 c30 h
      refine lv_aload_n hx hb d_Mod_makeAnswer_251 rfl (lv_at hl 0 rfl) ?_
      refine lv_dup hx hb d_Mod_makeAnswer_252 rfl ?_
      refine gf_M_30_at hC hK hw d_Mod_makeAnswer_253 ?_
      refine lv_iconst (v := 1) hx hb d_Mod_makeAnswer_256 (by decide) ?_
      refine lv_iadd hx hb d_Mod_makeAnswer_257 ?_
      refine pf_M_30_at hC hK hw d_Mod_makeAnswer_258 h (fun H locs u31 h hw => ?_)
      refine lv_aload_n hx hb d_Mod_makeAnswer_261 rfl (lv_at hl 0 rfl) ?_
      refine fx_sVi (As := []) hC hl.1 (fun q hq => c_Mod_take l D ad cI cZ cT v u31 q hq) fy_Mod_take fv_Mod_take kw_665 ⟨Nat.le_of_ble_eq_true rfl, Nat.le_of_ble_eq_true rfl⟩ rfl hK hA hw at_M_30 rfl rfl rfl (Nat.le_of_ble_eq_true rfl) d_Mod_makeAnswer_262 ⟨Nat.le_refl _, Nat.le_refl _⟩ h (fun H locs q32 h hw => ?_)
      refine lv_istore (lv' := [(8, .int q32.1), (0, .ref (ad 30)), (1, .int y1), (3, .int y3), (4, .int y4), (5, .int y5), (6, .int y6), (7, .int y7)]) hx hb d_Mod_makeAnswer_265 hl (by decide) rfl (fun ls hl => ?_)
      refine lv_aload_n hx hb d_Mod_makeAnswer_267 rfl (lv_at hl 1 rfl) ?_
      refine lv_aload_n hx hb d_Mod_makeAnswer_268 rfl (lv_at hl 1 rfl) ?_
      refine gf_M_30_fine hC hK hw d_Mod_makeAnswer_269 ?_
      refine lv_if_eq (tgt := 292) hx hb d_Mod_makeAnswer_272 rfl (fun c33 => ?_) (fun c33 => ?_)
      · have h := br1 c33 h
        exact J292 _ _ _ _ _ _ _ _ _ _ _ h (lv_sub hl [1, 2, 3, 4, 5, 6, 7, 0] rfl) hw
      · have h := br0 c33 h
        refine lv_iload hx hb d_Mod_makeAnswer_275 (lv_at hl 0 rfl) ?_
        refine lv_iconst (v := 1) hx hb d_Mod_makeAnswer_277 (by decide) ?_
        refine lv_icmp_lt (tgt := 292) hx hb d_Mod_makeAnswer_278 rfl (fun c36 => ?_) (fun c36 => ?_)
        · have h := br1 c36 h
          exact J292 _ _ _ _ _ _ _ _ _ _ _ h (lv_sub hl [1, 2, 3, 4, 5, 6, 7, 0] rfl) hw
        · have h := br0 c36 h
          refine lv_iload hx hb d_Mod_makeAnswer_281 (lv_at hl 0 rfl) ?_
          refine lv_bipush (v := 16) hx hb d_Mod_makeAnswer_283 (by decide) ?_
          refine lv_icmp_gt (tgt := 292) hx hb d_Mod_makeAnswer_285 rfl (fun c37 => ?_) (fun c37 => ?_)
          · have h := br1 c37 h
            exact J292 _ _ _ _ _ _ _ _ _ _ _ h (lv_sub hl [1, 2, 3, 4, 5, 6, 7, 0] rfl) hw
          · have h := br0 c37 h
            refine lv_iconst (v := 1) hx hb d_Mod_makeAnswer_288 (by decide) ?_
            refine lv_goto (tgt := 293) hx hb d_Mod_makeAnswer_289 rfl ?_
            exact J293 _ _ _ _ _ _ _ _ _ _ _ _ h (lv_sub hl [1, 2, 3, 4, 5, 6, 7, 0] rfl) hw
  have J232 : ∀ (u : ST) (y1 y3 y4 y5 y6 y7 y8 : Int32) (ls : Array Slot) (H : Heap) (locs : List Loc), f_Mod_makeAnswer_J232 u y1 y3 y4 y5 y6 y7 y8 = some q → lv_has ls 9 [(0, .ref (ad 30)), (1, .int y1), (3, .int y3), (4, .int y4), (5, .int y5), (6, .int y6), (7, .int y7), (8, .int y8)] → fw D A s.heap (wM ad cI cZ cT v u) H locs → WX (wM ad cI cZ cT v) p l e 5 120 s m [.ref (ad 30)] below meth c A D (tyC cI cZ cT) none q H locs (F0 m 232 ls [.ref (ad 30)]) := by
    intro u y1 y3 y4 y5 y6 y7 y8 ls H locs h hl hw
    rw [f_Mod_makeAnswer_J232] at h
    refine lv_iconst (v := 0) hx hb d_Mod_makeAnswer_232 (by decide) ?_
    exact J233 _ _ _ _ _ _ _ _ _ _ _ _ h (lv_sub hl [0, 1, 2, 3, 4, 5, 6, 7] rfl) hw
  have J228 : ∀ (u : ST) (y1 y3 y4 y5 y6 y7 y8 : Int32) (ls : Array Slot) (H : Heap) (locs : List Loc), f_Mod_makeAnswer_J228 u y1 y3 y4 y5 y6 y7 y8 = some q → lv_has ls 9 [(0, .ref (ad 30)), (1, .int y1), (3, .int y3), (4, .int y4), (5, .int y5), (6, .int y6), (7, .int y7), (8, .int y8)] → fw D A s.heap (wM ad cI cZ cT v u) H locs → WX (wM ad cI cZ cT v) p l e 5 120 s m [.ref (ad 30)] below meth c A D (tyC cI cZ cT) none q H locs (F0 m 228 ls [.ref (ad 30)]) := by
    intro u y1 y3 y4 y5 y6 y7 y8 ls H locs h hl hw
    rw [f_Mod_makeAnswer_J228] at h
    refine lv_iconst (v := 1) hx hb d_Mod_makeAnswer_228 (by decide) ?_
    refine lv_goto (tgt := 233) hx hb d_Mod_makeAnswer_229 rfl ?_
    exact J233 _ _ _ _ _ _ _ _ _ _ _ _ h (lv_sub hl [0, 1, 2, 3, 4, 5, 6, 7] rfl) hw
  have J198 : ∀ (u : ST) (y1 y3 y4 y5 y6 y8 s0 : Int32) (ls : Array Slot) (H : Heap) (locs : List Loc), f_Mod_makeAnswer_J198 u y1 y3 y4 y5 y6 y8 s0 = some q → lv_has ls 9 [(0, .ref (ad 30)), (1, .int y1), (3, .int y3), (4, .int y4), (5, .int y5), (6, .int y6), (8, .int y8)] → fw D A s.heap (wM ad cI cZ cT v u) H locs → WX (wM ad cI cZ cT v) p l e 5 120 s m [.ref (ad 30)] below meth c A D (tyC cI cZ cT) none q H locs (F0 m 198 ls [.int s0]) := by
    intro u y1 y3 y4 y5 y6 y8 s0 ls H locs h hl hw
    rw [f_Mod_makeAnswer_J198] at h
    refine lv_istore (lv' := [(7, .int s0), (0, .ref (ad 30)), (1, .int y1), (3, .int y3), (4, .int y4), (5, .int y5), (6, .int y6), (8, .int y8)]) hx hb d_Mod_makeAnswer_198 hl (by decide) rfl (fun ls hl => ?_)
    refine lv_aload_n hx hb d_Mod_makeAnswer_200 rfl (lv_at hl 1 rfl) ?_
    refine lv_aload_n hx hb d_Mod_makeAnswer_201 rfl (lv_at hl 1 rfl) ?_
    refine gf_M_30_fine hC hK hw d_Mod_makeAnswer_202 ?_
    refine lv_if_eq (tgt := 232) hx hb d_Mod_makeAnswer_205 rfl (fun c25 => ?_) (fun c25 => ?_)
    · have h := br1 c25 h
      exact J232 _ _ _ _ _ _ _ _ _ _ _ h (lv_sub hl [1, 2, 3, 4, 5, 6, 0, 7] rfl) hw
    · have h := br0 c25 h
      refine lv_iload hx hb d_Mod_makeAnswer_208 (lv_at hl 6 rfl) ?_
      refine lv_if_eq (tgt := 228) hx hb d_Mod_makeAnswer_210 rfl (fun c38 => ?_) (fun c38 => ?_)
      · have h := br1 c38 h
        exact J228 _ _ _ _ _ _ _ _ _ _ _ h (lv_sub hl [1, 2, 3, 4, 5, 6, 0, 7] rfl) hw
      · have h := br0 c38 h
        refine lv_iload hx hb d_Mod_makeAnswer_213 (lv_at hl 6 rfl) ?_
        refine lv_bipush (v := 68) hx hb d_Mod_makeAnswer_215 (by decide) ?_
        refine lv_icmp_eq (tgt := 228) hx hb d_Mod_makeAnswer_217 rfl (fun c39 => ?_) (fun c39 => ?_)
        · have h := br1 c39 h
          exact J228 _ _ _ _ _ _ _ _ _ _ _ h (lv_sub hl [1, 2, 3, 4, 5, 6, 0, 7] rfl) hw
        · have h := br0 c39 h
          refine lv_iload hx hb d_Mod_makeAnswer_220 (lv_at hl 6 rfl) ?_
          refine lv_sipush (v := 145) hx hb d_Mod_makeAnswer_222 (by decide) ?_
          refine lv_icmp_ne (tgt := 232) hx hb d_Mod_makeAnswer_225 rfl (fun c40 => ?_) (fun c40 => ?_)
          · have h := br0 c40 h
            exact J232 _ _ _ _ _ _ _ _ _ _ _ h (lv_sub hl [1, 2, 3, 4, 5, 6, 0, 7] rfl) hw
          · have h := br1 c40 h
            exact J228 _ _ _ _ _ _ _ _ _ _ _ h (lv_sub hl [1, 2, 3, 4, 5, 6, 0, 7] rfl) hw
  have J140 : ∀ (u : ST) (y1 y2 y3 y4 y5 : Int32) (ls : Array Slot) (H : Heap) (locs : List Loc), f_Mod_makeAnswer_J140 u y1 y2 y3 y4 y5 = some q → lv_has ls 9 [(0, .ref (ad 30)), (1, .int y1), (2, .int y2), (3, .int y3), (4, .int y4), (5, .int y5)] → fw D A s.heap (wM ad cI cZ cT v u) H locs → WX (wM ad cI cZ cT v) p l e 5 120 s m [.ref (ad 30)] below meth c A D (tyC cI cZ cT) none q H locs (F0 m 140 ls []) := by
    intro u y1 y2 y3 y4 y5 ls H locs h hl hw
    rw [f_Mod_makeAnswer_J140] at h
    refine lv_iconst (v := (-1)) hx hb d_Mod_makeAnswer_140 (by decide) ?_
    refine lv_istore (lv' := [(6, .int (-1)), (0, .ref (ad 30)), (1, .int y1), (2, .int y2), (3, .int y3), (4, .int y4), (5, .int y5)]) hx hb d_Mod_makeAnswer_141 hl (by decide) rfl (fun ls hl => ?_)
    refine lv_iconst (v := 0) hx hb d_Mod_makeAnswer_143 (by decide) ?_
    refine lv_istore (lv' := [(7, .int 0), (6, .int (-1)), (0, .ref (ad 30)), (1, .int y1), (2, .int y2), (3, .int y3), (4, .int y4), (5, .int y5)]) hx hb d_Mod_makeAnswer_144 hl (by decide) rfl (fun ls hl => ?_)
    refine lv_bipush (v := 16) hx hb d_Mod_makeAnswer_146 (by decide) ?_
    refine lv_istore (lv' := [(8, .int 16), (7, .int 0), (6, .int (-1)), (0, .ref (ad 30)), (1, .int y1), (2, .int y2), (3, .int y3), (4, .int y4), (5, .int y5)]) hx hb d_Mod_makeAnswer_148 hl (by decide) rfl (fun ls hl => ?_)
    refine lv_iload_n hx hb d_Mod_makeAnswer_150 rfl (lv_at hl 5 rfl) ?_
    refine lv_bipush (v := 15) hx hb d_Mod_makeAnswer_151 (by decide) ?_
    refine lv_icmp_ne (tgt := 296) hx hb d_Mod_makeAnswer_153 rfl (fun c15 => ?_) (fun c15 => ?_)
    · have h := br0 c15 h
      exact J296 _ _ _ _ _ _ _ _ _ _ _ h (lv_sub hl [3, 4, 6, 7, 8, 2, 1, 0] rfl) hw
    · have h := br1 c15 h
      refine lv_aload_n hx hb d_Mod_makeAnswer_156 rfl (lv_at hl 3 rfl) ?_
      refine lv_bipush (v := 62) hx hb d_Mod_makeAnswer_157 (by decide) ?_
      refine fx_sVv (As := [.int 62]) hC hl.1 (fun q hq => c_Mod_expect l D ad cI cZ cT v u 62 q hq) fy_Mod_expect fv_Mod_expect kw_661 ⟨Nat.le_of_ble_eq_true rfl, Nat.le_of_ble_eq_true rfl⟩ rfl hK hA hw at_M_30 rfl rfl rfl (Nat.le_of_ble_eq_true rfl) d_Mod_makeAnswer_159 ⟨Nat.le_refl _, Nat.le_refl _⟩ h (fun H locs q21 h hw => ?_)
      refine lv_aload_n hx hb d_Mod_makeAnswer_162 rfl (lv_at hl 3 rfl) ?_
      refine fx_sVi (As := []) hC hl.1 (fun q hq => c_Mod_take l D ad cI cZ cT v q21 q hq) fy_Mod_take fv_Mod_take kw_665 ⟨Nat.le_of_ble_eq_true rfl, Nat.le_of_ble_eq_true rfl⟩ rfl hK hA hw at_M_30 rfl rfl rfl (Nat.le_of_ble_eq_true rfl) d_Mod_makeAnswer_163 ⟨Nat.le_refl _, Nat.le_refl _⟩ h (fun H locs q22 h hw => ?_)
      refine lv_istore (lv' := [(6, .int q22.1), (8, .int 16), (7, .int 0), (0, .ref (ad 30)), (1, .int y1), (2, .int y2), (3, .int y3), (4, .int y4), (5, .int y5)]) hx hb d_Mod_makeAnswer_166 hl (by decide) rfl (fun ls hl => ?_)
      refine lv_iload hx hb d_Mod_makeAnswer_168 (lv_at hl 0 rfl) ?_
      refine lv_bipush (v := 68) hx hb d_Mod_makeAnswer_170 (by decide) ?_
      refine lv_icmp_ne (tgt := 182) hx hb d_Mod_makeAnswer_172 rfl (fun c23 => ?_) (fun c23 => ?_)
      · have h := br0 c23 h
        refine lv_iload hx hb d_Mod_makeAnswer_182 (lv_at hl 0 rfl) ?_
        refine lv_sipush (v := 145) hx hb d_Mod_makeAnswer_184 (by decide) ?_
        refine lv_icmp_ne (tgt := 197) hx hb d_Mod_makeAnswer_187 rfl (fun c24 => ?_) (fun c24 => ?_)
        · have h := br0 c24 h
          refine lv_iconst (v := 0) hx hb d_Mod_makeAnswer_197 (by decide) ?_
          exact J198 _ _ _ _ _ _ _ _ _ _ _ h (lv_sub hl [3, 4, 6, 7, 8, 0, 1] rfl) hw
        · have h := br1 c24 h
          refine lv_aload_n hx hb d_Mod_makeAnswer_190 rfl (lv_at hl 3 rfl) ?_
          refine fx_sVi (As := []) hC hl.1 (fun q hq => c_Mod_take l D ad cI cZ cT v q22.2 q hq) fy_Mod_take fv_Mod_take kw_665 ⟨Nat.le_of_ble_eq_true rfl, Nat.le_of_ble_eq_true rfl⟩ rfl hK hA hw at_M_30 rfl rfl rfl (Nat.le_of_ble_eq_true rfl) d_Mod_makeAnswer_191 ⟨Nat.le_refl _, Nat.le_refl _⟩ h (fun H locs q41 h hw => ?_)
          refine lv_goto (tgt := 198) hx hb d_Mod_makeAnswer_194 rfl ?_
          exact J198 _ _ _ _ _ _ _ _ _ _ _ h (lv_sub hl [3, 4, 6, 7, 8, 0, 1] rfl) hw
      · have h := br1 c23 h
        refine lv_aload_n hx hb d_Mod_makeAnswer_175 rfl (lv_at hl 3 rfl) ?_
        refine fx_sVi (As := []) hC hl.1 (fun q hq => c_Mod_takeInt l D ad cI cZ cT v q22.2 q hq) fy_Mod_takeInt fv_Mod_takeInt kw_669 ⟨Nat.le_of_ble_eq_true rfl, Nat.le_of_ble_eq_true rfl⟩ rfl hK hA hw at_M_30 rfl rfl rfl (Nat.le_of_ble_eq_true rfl) d_Mod_makeAnswer_176 ⟨Nat.le_refl _, Nat.le_refl _⟩ h (fun H locs q42 h hw => ?_)
        refine lv_goto (tgt := 198) hx hb d_Mod_makeAnswer_179 rfl ?_
        exact J198 _ _ _ _ _ _ _ _ _ _ _ h (lv_sub hl [3, 4, 6, 7, 8, 0, 1] rfl) hw
  have J78 : ∀ (u : ST) (y1 y2 : Int32) (ls : Array Slot) (H : Heap) (locs : List Loc), f_Mod_makeAnswer_J78 u y1 y2 = some q → lv_has ls 9 [(0, .ref (ad 30)), (1, .int y1), (2, .int y2)] → fw D A s.heap (wM ad cI cZ cT v u) H locs → WX (wM ad cI cZ cT v) p l e 5 120 s m [.ref (ad 30)] below meth c A D (tyC cI cZ cT) none q H locs (F0 m 78 ls []) := by
    intro u y1 y2 ls H locs h hl hw
    rw [f_Mod_makeAnswer_J78] at h
    refine lv_aload_n hx hb d_Mod_makeAnswer_78 rfl (lv_at hl 0 rfl) ?_
    refine lv_iconst (v := 1) hx hb d_Mod_makeAnswer_79 (by decide) ?_
    refine pf_M_30_fine hC hK hw (by decide) d_Mod_makeAnswer_80 h (fun H locs u7 h hw => ?_)
    refine lv_aload_n hx hb d_Mod_makeAnswer_83 rfl (lv_at hl 0 rfl) ?_
    refine lv_bipush (v := 6) hx hb d_Mod_makeAnswer_84 (by decide) ?_
    refine pf_M_30_at hC hK hw d_Mod_makeAnswer_86 h (fun H locs u8 h hw => ?_)
    refine lv_aload_n hx hb d_Mod_makeAnswer_89 rfl (lv_at hl 0 rfl) ?_
    refine lv_bipush (v := 12) hx hb d_Mod_makeAnswer_90 (by decide) ?_
    refine fx_sVv (As := [.int 12]) hC hl.1 (fun q hq => c_Mod_expect l D ad cI cZ cT v u8 12 q hq) fy_Mod_expect fv_Mod_expect kw_661 ⟨Nat.le_of_ble_eq_true rfl, Nat.le_of_ble_eq_true rfl⟩ rfl hK hA hw at_M_30 rfl rfl rfl (Nat.le_of_ble_eq_true rfl) d_Mod_makeAnswer_92 ⟨Nat.le_refl _, Nat.le_refl _⟩ h (fun H locs q9 h hw => ?_)
    refine lv_aload_n hx hb d_Mod_makeAnswer_95 rfl (lv_at hl 0 rfl) ?_
    refine fx_sVi (As := []) hC hl.1 (fun q hq => c_Mod_takeInt l D ad cI cZ cT v q9 q hq) fy_Mod_takeInt fv_Mod_takeInt kw_669 ⟨Nat.le_of_ble_eq_true rfl, Nat.le_of_ble_eq_true rfl⟩ rfl hK hA hw at_M_30 rfl rfl rfl (Nat.le_of_ble_eq_true rfl) d_Mod_makeAnswer_96 ⟨Nat.le_refl _, Nat.le_refl _⟩ h (fun H locs q10 h hw => ?_)
    refine lv_istore_n (lv' := [(3, .int q10.1), (0, .ref (ad 30)), (1, .int y1), (2, .int y2)]) hx hb d_Mod_makeAnswer_99 rfl hl (by decide) rfl (fun ls hl => ?_)
    refine lv_aload_n hx hb d_Mod_makeAnswer_100 rfl (lv_at hl 1 rfl) ?_
    refine lv_bipush (v := 25) hx hb d_Mod_makeAnswer_101 (by decide) ?_
    refine fx_sVv (As := [.int 25]) hC hl.1 (fun q hq => c_Mod_expect l D ad cI cZ cT v q10.2 25 q hq) fy_Mod_expect fv_Mod_expect kw_661 ⟨Nat.le_of_ble_eq_true rfl, Nat.le_of_ble_eq_true rfl⟩ rfl hK hA hw at_M_30 rfl rfl rfl (Nat.le_of_ble_eq_true rfl) d_Mod_makeAnswer_103 ⟨Nat.le_refl _, Nat.le_refl _⟩ h (fun H locs q11 h hw => ?_)
    refine lv_aload_n hx hb d_Mod_makeAnswer_106 rfl (lv_at hl 1 rfl) ?_
    refine fx_sVi (As := []) hC hl.1 (fun q hq => c_Mod_take l D ad cI cZ cT v q11 q hq) fy_Mod_take fv_Mod_take kw_665 ⟨Nat.le_of_ble_eq_true rfl, Nat.le_of_ble_eq_true rfl⟩ rfl hK hA hw at_M_30 rfl rfl rfl (Nat.le_of_ble_eq_true rfl) d_Mod_makeAnswer_107 ⟨Nat.le_refl _, Nat.le_refl _⟩ h (fun H locs q12 h hw => ?_)
    refine lv_istore (lv' := [(4, .int q12.1), (3, .int q10.1), (0, .ref (ad 30)), (1, .int y1), (2, .int y2)]) hx hb d_Mod_makeAnswer_110 hl (by decide) rfl (fun ls hl => ?_)
    refine lv_iconst (v := (-1)) hx hb d_Mod_makeAnswer_112 (by decide) ?_
    refine lv_istore (lv' := [(5, .int (-1)), (4, .int q12.1), (3, .int q10.1), (0, .ref (ad 30)), (1, .int y1), (2, .int y2)]) hx hb d_Mod_makeAnswer_113 hl (by decide) rfl (fun ls hl => ?_)
    refine lv_aload_n hx hb d_Mod_makeAnswer_115 rfl (lv_at hl 3 rfl) ?_
    refine lv_bipush (v := 41) hx hb d_Mod_makeAnswer_116 (by decide) ?_
    refine fx_sVr (As := [.int 41]) hC hl.1 (fun q hq => c_Mod_isNext l D ad cI cZ cT v q12.2 41 q hq) fy_Mod_isNext fv_Mod_isNext kw_673 ⟨Nat.le_of_ble_eq_true rfl, Nat.le_of_ble_eq_true rfl⟩ rfl hK hA hw at_M_30 rfl rfl rfl (Nat.le_of_ble_eq_true rfl) d_Mod_makeAnswer_118 ⟨Nat.le_refl _, Nat.le_refl _⟩ h (fun H locs q13 h hw => ?_)
    refine lv_if_eq (tgt := 140) hx hb d_Mod_makeAnswer_121 rfl (fun c14 => ?_) (fun c14 => ?_)
    · have h := br1 c14 h
      exact J140 _ _ _ _ _ _ _ _ _ h (lv_sub hl [3, 4, 5, 2, 1, 0] rfl) hw
    · have h := br0 c14 h
      refine lv_aload_n hx hb d_Mod_makeAnswer_124 rfl (lv_at hl 3 rfl) ?_
      refine lv_dup hx hb d_Mod_makeAnswer_125 rfl ?_
      refine gf_M_30_at hC hK hw d_Mod_makeAnswer_126 ?_
      refine lv_iconst (v := 1) hx hb d_Mod_makeAnswer_129 (by decide) ?_
      refine lv_iadd hx hb d_Mod_makeAnswer_130 ?_
      refine pf_M_30_at hC hK hw d_Mod_makeAnswer_131 h (fun H locs u43 h hw => ?_)
      refine lv_aload_n hx hb d_Mod_makeAnswer_134 rfl (lv_at hl 3 rfl) ?_
      refine fx_sVi (As := []) hC hl.1 (fun q hq => c_Mod_take l D ad cI cZ cT v u43 q hq) fy_Mod_take fv_Mod_take kw_665 ⟨Nat.le_of_ble_eq_true rfl, Nat.le_of_ble_eq_true rfl⟩ rfl hK hA hw at_M_30 rfl rfl rfl (Nat.le_of_ble_eq_true rfl) d_Mod_makeAnswer_135 ⟨Nat.le_refl _, Nat.le_refl _⟩ h (fun H locs q44 h hw => ?_)
      refine lv_istore (lv' := [(5, .int q44.1), (4, .int q12.1), (3, .int q10.1), (0, .ref (ad 30)), (1, .int y1), (2, .int y2)]) hx hb d_Mod_makeAnswer_138 hl (by decide) rfl (fun ls hl => ?_)
      exact J140 _ _ _ _ _ _ _ _ _ h (lv_sub hl [3, 4, 5, 2, 1, 0] rfl) hw
  rw [f_Mod_makeAnswer] at h
  refine lv_aload_n hx hb d_Mod_makeAnswer_0 rfl (lv_at hl 0 rfl) ?_
  refine lv_iconst (v := 0) hx hb d_Mod_makeAnswer_1 (by decide) ?_
  refine pf_M_30_answered hC hK hw d_Mod_makeAnswer_2 h (fun H locs u1 h hw => ?_)
  refine lv_aload_n hx hb d_Mod_makeAnswer_5 rfl (lv_at hl 0 rfl) ?_
  refine gf_M_30_size hC hK hw d_Mod_makeAnswer_6 ?_
  refine lv_bipush (v := 6) hx hb d_Mod_makeAnswer_9 (by decide) ?_
  refine lv_icmp_lt (tgt := 43) hx hb d_Mod_makeAnswer_11 rfl (fun c2 => ?_) (fun c2 => ?_)
  · have h := br1 c2 h
    exact fx_retv hC hr hK hw h d_Mod_makeAnswer_43
  · have h := br0 c2 h
    refine lv_aload_n hx hb d_Mod_makeAnswer_14 rfl (lv_at hl 0 rfl) ?_
    refine gf_M_30_data hC hK hw d_Mod_makeAnswer_15 ?_
    refine lv_iconst (v := 0) hx hb d_Mod_makeAnswer_18 (by decide) ?_
    refine al_M_32 hC hK hw d_Mod_makeAnswer_19 h (fun h => ?_)
    refine lv_iconst (v := 1) hx hb d_Mod_makeAnswer_20 (by decide) ?_
    refine lv_icmp_ne (tgt := 43) hx hb d_Mod_makeAnswer_21 rfl (fun c3 => ?_) (fun c3 => ?_)
    · have h := br0 c3 h
      exact fx_retv hC hr hK hw h d_Mod_makeAnswer_43
    · have h := br1 c3 h
      refine lv_aload_n hx hb d_Mod_makeAnswer_24 rfl (lv_at hl 0 rfl) ?_
      refine gf_M_30_data hC hK hw d_Mod_makeAnswer_25 ?_
      refine lv_iconst (v := 1) hx hb d_Mod_makeAnswer_28 (by decide) ?_
      refine al_M_32 hC hK hw d_Mod_makeAnswer_29 h (fun h => ?_)
      refine lv_iconst (v := 4) hx hb d_Mod_makeAnswer_30 (by decide) ?_
      refine lv_icmp_ne (tgt := 43) hx hb d_Mod_makeAnswer_31 rfl (fun c4 => ?_) (fun c4 => ?_)
      · have h := br0 c4 h
        exact fx_retv hC hr hK hw h d_Mod_makeAnswer_43
      · have h := br1 c4 h
        refine lv_aload_n hx hb d_Mod_makeAnswer_34 rfl (lv_at hl 0 rfl) ?_
        refine gf_M_30_data hC hK hw d_Mod_makeAnswer_35 ?_
        refine lv_iconst (v := 2) hx hb d_Mod_makeAnswer_38 (by decide) ?_
        refine al_M_32 hC hK hw d_Mod_makeAnswer_39 h (fun h => ?_)
        refine lv_if_eq (tgt := 44) hx hb d_Mod_makeAnswer_40 rfl (fun c5 => ?_) (fun c5 => ?_)
        · have h := br1 c5 h
          refine lv_aload_n hx hb d_Mod_makeAnswer_44 rfl (lv_at hl 0 rfl) ?_
          refine gf_M_30_data hC hK hw d_Mod_makeAnswer_45 ?_
          refine lv_iconst (v := 4) hx hb d_Mod_makeAnswer_48 (by decide) ?_
          refine al_M_32 hC hK hw d_Mod_makeAnswer_49 h (fun h => ?_)
          refine lv_istore_n (lv' := [(1, .int (u1.2 1 (4 : Int32).toNatClampNeg)), (0, .ref (ad 30))]) hx hb d_Mod_makeAnswer_50 rfl hl (by decide) rfl (fun ls hl => ?_)
          refine lv_aload_n hx hb d_Mod_makeAnswer_51 rfl (lv_at hl 1 rfl) ?_
          refine gf_M_30_data hC hK hw d_Mod_makeAnswer_52 ?_
          refine lv_iconst (v := 5) hx hb d_Mod_makeAnswer_55 (by decide) ?_
          refine al_M_32 hC hK hw d_Mod_makeAnswer_56 h (fun h => ?_)
          refine lv_istore_n (lv' := [(2, .int (u1.2 1 (5 : Int32).toNatClampNeg)), (1, .int (u1.2 1 (4 : Int32).toNatClampNeg)), (0, .ref (ad 30))]) hx hb d_Mod_makeAnswer_57 rfl hl (by decide) rfl (fun ls hl => ?_)
          refine lv_iload_n hx hb d_Mod_makeAnswer_58 rfl (lv_at hl 0 rfl) ?_
          refine lv_bipush (v := 12) hx hb d_Mod_makeAnswer_59 (by decide) ?_
          refine lv_icmp_eq (tgt := 78) hx hb d_Mod_makeAnswer_61 rfl (fun c6 => ?_) (fun c6 => ?_)
          · have h := br1 c6 h
            exact J78 _ _ _ _ _ _ h (lv_sub hl [2, 1, 0] rfl) hw
          · have h := br0 c6 h
            refine lv_iload_n hx hb d_Mod_makeAnswer_64 rfl (lv_at hl 0 rfl) ?_
            refine lv_bipush (v := 15) hx hb d_Mod_makeAnswer_65 (by decide) ?_
            refine lv_icmp_eq (tgt := 78) hx hb d_Mod_makeAnswer_67 rfl (fun c45 => ?_) (fun c45 => ?_)
            · have h := br1 c45 h
              exact J78 _ _ _ _ _ _ h (lv_sub hl [2, 1, 0] rfl) hw
            · have h := br0 c45 h
              refine lv_aload_n hx hb d_Mod_makeAnswer_70 rfl (lv_at hl 2 rfl) ?_
              refine lv_iload_n hx hb d_Mod_makeAnswer_71 rfl (lv_at hl 1 rfl) ?_
              refine lv_bipush (v := 9) hx hb d_Mod_makeAnswer_72 (by decide) ?_
              refine fx_sVv (As := [.int (u1.2 1 (4 : Int32).toNatClampNeg), .int 9]) hC hl.1 (fun q hq => c_Mod_reject l D ad cI cZ cT v u1 (u1.2 1 (4 : Int32).toNatClampNeg) 9 q hq) fy_Mod_reject fv_Mod_reject kw_653 ⟨Nat.le_of_ble_eq_true rfl, Nat.le_of_ble_eq_true rfl⟩ rfl hK hA hw at_M_30 rfl rfl rfl (Nat.le_of_ble_eq_true rfl) d_Mod_makeAnswer_74 ⟨Nat.le_refl _, Nat.le_refl _⟩ h (fun H locs q46 h hw => ?_)
              exact fx_retv hC hr hK hw h d_Mod_makeAnswer_77
        · have h := br0 c5 h
          exact fx_retv hC hr hK hw h d_Mod_makeAnswer_43
def f_Mod_put (u : ST) (x1 : Int32) : Option (ST) :=
  k_gd (inb (u.1 16) 1024) (
  k_let (rs u 2 (u.1 16).toNatClampNeg x1) fun u1 =>
  k_let (ss u1 16 ((u1.1 16) + 1)) fun u2 =>
  some u2)
set_option maxHeartbeats 4000000 in
set_option maxRecDepth 100000 in
theorem c_Mod_put (l : Launch) (D : va_G) (ad : Nat → Nat) (cI cZ cT : ClassId) (v u : ST) (x1 : Int32) (q : ST) (h : f_Mod_put u x1 = some q) : MX l D (tyC cI cZ cT) (wM ad cI cZ cT v) y_Mod_put cd_Mod_put 0 0 [.ref (ad 30), .int x1] u none q := by
  refine MX.start (by decide) (Nat.le_of_ble_eq_true rfl) ?_
  intro p e s m below meth c ls A hC hr hl hK hA hw
  have ⟨hx, hb, hml, hown, hT, hlk⟩ := hC
  have hl : lv_has ls 2 [(0, .ref (ad 30)), (1, .int x1)] := hl
  rw [f_Mod_put] at h
  refine lv_aload_n hx hb d_Mod_put_0 rfl (lv_at hl 0 rfl) ?_
  refine gf_M_30_sent hC hK hw d_Mod_put_1 ?_
  refine lv_aload_n hx hb d_Mod_put_4 rfl (lv_at hl 0 rfl) ?_
  refine gf_M_30_out hC hK hw d_Mod_put_5 ?_
  refine lv_iload_n hx hb d_Mod_put_8 rfl (lv_at hl 1 rfl) ?_
  refine as_M_33 hC hK hw d_Mod_put_9 h (fun H locs u1 h hw => ?_)
  refine lv_aload_n hx hb d_Mod_put_10 rfl (lv_at hl 0 rfl) ?_
  refine lv_dup hx hb d_Mod_put_11 rfl ?_
  refine gf_M_30_out hC hK hw d_Mod_put_12 ?_
  refine lv_iconst (v := 1) hx hb d_Mod_put_15 (by decide) ?_
  refine lv_iadd hx hb d_Mod_put_16 ?_
  refine pf_M_30_out hC hK hw d_Mod_put_17 h (fun H locs u2 h hw => ?_)
  exact fx_retv hC hr hK hw h d_Mod_put_20
def f_Mod_send_L100 : Nat → ST → Int32 → Int32 → Int32 → Option (ST)
  | 0, _, _, _, _ => none
  | k_ + 1, u, y3, y5, y6 =>
    if y3 ≤ y6 then
      if y3 ≤ 0 then
        k_let (ss u 2 0) fun u12 =>
        some u12
      else
      k_bd (f_Mod_put u ((65535 - y5) - (65535 - y5) / 256 * 256)) fun q13 =>
      k_bd (f_Mod_put q13 ((65535 - y5) / 256)) fun q14 =>
      k_let (ss q14 2 0) fun u15 =>
      some u15
    else
    k_gd (inb y6 48) (
    k_bd (f_Mod_put u (u.2 3 y6.toNatClampNeg)) fun q16 =>
    k_gd (inb y6 48) (
    k_bd (f_Mod_dataStep y5 (q16.2 3 y6.toNatClampNeg)) fun q17 =>
    f_Mod_send_L100 k_ q16 y3 q17 (y6 + 1)))
def f_Mod_send_L54 : Nat → ST → Int32 → Int32 → Int32 → Option (ST)
  | 0, _, _, _, _ => none
  | k_ + 1, u, y3, y4, y5 =>
    if (u.1 16) ≤ y5 then
      k_bd (f_Mod_put u (255 - y4)) fun q9 =>
      f_Mod_send_L100 200 q9 y3 65535 0
    else
    k_gd (inb y5 1024) (
    k_bd (f_Mod_headerStep y4 (u.2 2 y5.toNatClampNeg)) fun q18 =>
    f_Mod_send_L54 k_ u y3 q18 (y5 + 1))
def f_Mod_send (u : ST) (x1 x2 x3 : Int32) : Option (ST) :=
  k_bd (f_Mod_put u 85) fun q1 =>
  k_bd (f_Mod_put q1 255) fun q2 =>
  k_bd (f_Mod_put q2 x1) fun q3 =>
  k_bd (f_Mod_put q3 x2) fun q4 =>
  k_bd (f_Mod_put q4 (q4.1 0)) fun q5 =>
  k_bd (f_Mod_put q5 0) fun q6 =>
  k_bd (f_Mod_put q6 x3) fun q7 =>
  f_Mod_send_L54 200 q7 x3 255 ((q7.1 16) - 5)
set_option maxHeartbeats 4000000 in
set_option maxRecDepth 100000 in
theorem c_Mod_send (l : Launch) (D : va_G) (ad : Nat → Nat) (cI cZ cT : ClassId) (v u : ST) (x1 x2 x3 : Int32) (q : ST) (h : f_Mod_send u x1 x2 x3 = some q) : MX l D (tyC cI cZ cT) (wM ad cI cZ cT v) y_Mod_send cd_Mod_send 1 23 [.ref (ad 30), .int x1, .int x2, .int x3] u none q := by
  refine MX.start (by decide) (Nat.le_of_ble_eq_true rfl) ?_
  intro p e s m below meth c ls A hC hr hl hK hA hw
  have ⟨hx, hb, hml, hown, hT, hlk⟩ := hC
  have hl : lv_has ls 7 [(0, .ref (ad 30)), (1, .int x1), (2, .int x2), (3, .int x3)] := hl
  have L100 : ∀ (k_ : Nat) (u : ST) (y3 y5 y6 : Int32) (ls : Array Slot) (H : Heap) (locs : List Loc), f_Mod_send_L100 k_ u y3 y5 y6 = some q → lv_has ls 7 [(0, .ref (ad 30)), (3, .int y3), (5, .int y5), (6, .int y6)] → fw D A s.heap (wM ad cI cZ cT v u) H locs → WX (wM ad cI cZ cT v) p l e 1 23 s m [.ref (ad 30), .int x1, .int x2, .int x3] below meth c A D (tyC cI cZ cT) none q H locs (F0 m 100 ls []) := by
    intro k_
    induction k_ with
    | zero =>
      intro u y3 y5 y6 ls H locs h hl hw
      cases h
    | succ k_ ih =>
      intro u y3 y5 y6 ls H locs h hl hw
      rw [f_Mod_send_L100] at h
      refine lv_iload hx hb d_Mod_send_100 (lv_at hl 3 rfl) ?_
      refine lv_iload_n hx hb d_Mod_send_102 rfl (lv_at hl 1 rfl) ?_
      refine lv_icmp_ge (tgt := 137) hx hb d_Mod_send_103 rfl (fun c10 => ?_) (fun c10 => ?_)
      · have h := br1 c10 h
        refine lv_iload_n hx hb d_Mod_send_137 rfl (lv_at hl 1 rfl) ?_
        refine lv_if_le (tgt := 167) hx hb d_Mod_send_138 rfl (fun c11 => ?_) (fun c11 => ?_)
        · have h := br1 c11 h
          refine lv_aload_n hx hb d_Mod_send_167 rfl (lv_at hl 0 rfl) ?_
          refine lv_iconst (v := 0) hx hb d_Mod_send_168 (by decide) ?_
          refine pf_M_30_silence hC hK hw d_Mod_send_169 h (fun H locs u12 h hw => ?_)
          exact fx_retv hC hr hK hw h d_Mod_send_172
        · have h := br0 c11 h
          refine lv_aload_n hx hb d_Mod_send_141 rfl (lv_at hl 0 rfl) ?_
          refine lv_ldc (v := 65535) hx hb hown (hT _ kw_624) d_Mod_send_142 ?_
          refine lv_iload hx hb d_Mod_send_144 (lv_at hl 2 rfl) ?_
          refine lv_isub hx hb d_Mod_send_146 ?_
          refine lv_sipush (v := 256) hx hb d_Mod_send_147 (by decide) ?_
          refine lv_irem hx hb d_Mod_send_150 (by decide) ?_
          refine fx_sVv (As := [.int ((65535 - y5) - (65535 - y5) / 256 * 256)]) hC hl.1 (fun q hq => c_Mod_put l D ad cI cZ cT v u ((65535 - y5) - (65535 - y5) / 256 * 256) q hq) fy_Mod_put fv_Mod_put kw_645 ⟨Nat.le_of_ble_eq_true rfl, Nat.le_of_ble_eq_true rfl⟩ rfl hK hA hw at_M_30 rfl rfl rfl (Nat.le_of_ble_eq_true rfl) d_Mod_send_151 ⟨Nat.le_refl _, Nat.le_refl _⟩ h (fun H locs q13 h hw => ?_)
          refine lv_aload_n hx hb d_Mod_send_154 rfl (lv_at hl 0 rfl) ?_
          refine lv_ldc (v := 65535) hx hb hown (hT _ kw_624) d_Mod_send_155 ?_
          refine lv_iload hx hb d_Mod_send_157 (lv_at hl 2 rfl) ?_
          refine lv_isub hx hb d_Mod_send_159 ?_
          refine lv_sipush (v := 256) hx hb d_Mod_send_160 (by decide) ?_
          refine lv_idiv hx hb d_Mod_send_163 (by decide) ?_
          refine fx_sVv (As := [.int ((65535 - y5) / 256)]) hC hl.1 (fun q hq => c_Mod_put l D ad cI cZ cT v q13 ((65535 - y5) / 256) q hq) fy_Mod_put fv_Mod_put kw_645 ⟨Nat.le_of_ble_eq_true rfl, Nat.le_of_ble_eq_true rfl⟩ rfl hK hA hw at_M_30 rfl rfl rfl (Nat.le_of_ble_eq_true rfl) d_Mod_send_164 ⟨Nat.le_refl _, Nat.le_refl _⟩ h (fun H locs q14 h hw => ?_)
          refine lv_aload_n hx hb d_Mod_send_167 rfl (lv_at hl 0 rfl) ?_
          refine lv_iconst (v := 0) hx hb d_Mod_send_168 (by decide) ?_
          refine pf_M_30_silence hC hK hw d_Mod_send_169 h (fun H locs u15 h hw => ?_)
          exact fx_retv hC hr hK hw h d_Mod_send_172
      · have h := br0 c10 h
        refine lv_aload_n hx hb d_Mod_send_106 rfl (lv_at hl 0 rfl) ?_
        refine lv_aload_n hx hb d_Mod_send_107 rfl (lv_at hl 0 rfl) ?_
        refine gf_M_30_answer hC hK hw d_Mod_send_108 ?_
        refine lv_iload hx hb d_Mod_send_111 (lv_at hl 3 rfl) ?_
        refine al_M_34 hC hK hw d_Mod_send_113 h (fun h => ?_)
        refine fx_sVv (As := [.int (u.2 3 y6.toNatClampNeg)]) hC hl.1 (fun q hq => c_Mod_put l D ad cI cZ cT v u (u.2 3 y6.toNatClampNeg) q hq) fy_Mod_put fv_Mod_put kw_645 ⟨Nat.le_of_ble_eq_true rfl, Nat.le_of_ble_eq_true rfl⟩ rfl hK hA hw at_M_30 rfl rfl rfl (Nat.le_of_ble_eq_true rfl) d_Mod_send_114 ⟨Nat.le_refl _, Nat.le_refl _⟩ h (fun H locs q16 h hw => ?_)
        refine lv_iload hx hb d_Mod_send_117 (lv_at hl 2 rfl) ?_
        refine lv_aload_n hx hb d_Mod_send_119 rfl (lv_at hl 0 rfl) ?_
        refine gf_M_30_answer hC hK hw d_Mod_send_120 ?_
        refine lv_iload hx hb d_Mod_send_123 (lv_at hl 3 rfl) ?_
        refine al_M_34 hC hK hw d_Mod_send_125 h (fun h => ?_)
        refine fx_sSr (As := [.int y5, .int (q16.2 3 y6.toNatClampNeg)]) hC hl.1 (fun q hq => c_Mod_dataStep l D ad cI cZ cT v q16 y5 (q16.2 3 y6.toNatClampNeg) q hq) fy_Mod_dataStep fs_Mod_dataStep kw_625 ⟨Nat.le_of_ble_eq_true rfl, Nat.le_of_ble_eq_true rfl⟩ rfl hK hA hw rfl (Nat.le_of_ble_eq_true rfl) d_Mod_send_126 ⟨Nat.le_refl _, Nat.le_refl _⟩ h (fun H locs q17 h hw => ?_)
        refine lv_istore (lv' := [(5, .int q17), (0, .ref (ad 30)), (3, .int y3), (6, .int y6)]) hx hb d_Mod_send_129 hl (by decide) rfl (fun ls hl => ?_)
        refine lv_iinc (k := 3) (v := (y6 + 1)) (lv' := [(6, .int (y6 + 1)), (5, .int q17), (0, .ref (ad 30)), (3, .int y3)]) hx hb d_Mod_send_131 hl rfl rfl (by decide) rfl (fun ls hl => ?_)
        refine lv_goto (tgt := 100) hx hb d_Mod_send_134 rfl ?_
        exact ih _ _ _ _ _ _ _ h (lv_sub hl [2, 3, 1, 0] rfl) hw
  have L54 : ∀ (k_ : Nat) (u : ST) (y3 y4 y5 : Int32) (ls : Array Slot) (H : Heap) (locs : List Loc), f_Mod_send_L54 k_ u y3 y4 y5 = some q → lv_has ls 7 [(0, .ref (ad 30)), (3, .int y3), (4, .int y4), (5, .int y5)] → fw D A s.heap (wM ad cI cZ cT v u) H locs → WX (wM ad cI cZ cT v) p l e 1 23 s m [.ref (ad 30), .int x1, .int x2, .int x3] below meth c A D (tyC cI cZ cT) none q H locs (F0 m 54 ls []) := by
    intro k_
    induction k_ with
    | zero =>
      intro u y3 y4 y5 ls H locs h hl hw
      cases h
    | succ k_ ih =>
      intro u y3 y4 y5 ls H locs h hl hw
      rw [f_Mod_send_L54] at h
      refine lv_iload hx hb d_Mod_send_54 (lv_at hl 3 rfl) ?_
      refine lv_aload_n hx hb d_Mod_send_56 rfl (lv_at hl 0 rfl) ?_
      refine gf_M_30_out hC hK hw d_Mod_send_57 ?_
      refine lv_icmp_ge (tgt := 83) hx hb d_Mod_send_60 rfl (fun c8 => ?_) (fun c8 => ?_)
      · have h := br1 c8 h
        refine lv_aload_n hx hb d_Mod_send_83 rfl (lv_at hl 0 rfl) ?_
        refine lv_sipush (v := 255) hx hb d_Mod_send_84 (by decide) ?_
        refine lv_iload hx hb d_Mod_send_87 (lv_at hl 2 rfl) ?_
        refine lv_isub hx hb d_Mod_send_89 ?_
        refine fx_sVv (As := [.int (255 - y4)]) hC hl.1 (fun q hq => c_Mod_put l D ad cI cZ cT v u (255 - y4) q hq) fy_Mod_put fv_Mod_put kw_645 ⟨Nat.le_of_ble_eq_true rfl, Nat.le_of_ble_eq_true rfl⟩ rfl hK hA hw at_M_30 rfl rfl rfl (Nat.le_of_ble_eq_true rfl) d_Mod_send_90 ⟨Nat.le_refl _, Nat.le_refl _⟩ h (fun H locs q9 h hw => ?_)
        refine lv_ldc (v := 65535) hx hb hown (hT _ kw_624) d_Mod_send_93 ?_
        refine lv_istore (lv' := [(5, .int 65535), (0, .ref (ad 30)), (3, .int y3), (4, .int y4)]) hx hb d_Mod_send_95 hl (by decide) rfl (fun ls hl => ?_)
        refine lv_iconst (v := 0) hx hb d_Mod_send_97 (by decide) ?_
        refine lv_istore (lv' := [(6, .int 0), (5, .int 65535), (0, .ref (ad 30)), (3, .int y3), (4, .int y4)]) hx hb d_Mod_send_98 hl (by decide) rfl (fun ls hl => ?_)
        exact L100 _ _ _ _ _ _ _ _ h (lv_sub hl [2, 3, 1, 0] rfl) hw
      · have h := br0 c8 h
        refine lv_iload hx hb d_Mod_send_63 (lv_at hl 2 rfl) ?_
        refine lv_aload_n hx hb d_Mod_send_65 rfl (lv_at hl 0 rfl) ?_
        refine gf_M_30_sent hC hK hw d_Mod_send_66 ?_
        refine lv_iload hx hb d_Mod_send_69 (lv_at hl 3 rfl) ?_
        refine al_M_33 hC hK hw d_Mod_send_71 h (fun h => ?_)
        refine fx_sSr (As := [.int y4, .int (u.2 2 y5.toNatClampNeg)]) hC hl.1 (fun q hq => c_Mod_headerStep l D ad cI cZ cT v u y4 (u.2 2 y5.toNatClampNeg) q hq) fy_Mod_headerStep fs_Mod_headerStep kw_613 ⟨Nat.le_of_ble_eq_true rfl, Nat.le_of_ble_eq_true rfl⟩ rfl hK hA hw rfl (Nat.le_of_ble_eq_true rfl) d_Mod_send_72 ⟨Nat.le_refl _, Nat.le_refl _⟩ h (fun H locs q18 h hw => ?_)
        refine lv_istore (lv' := [(4, .int q18), (0, .ref (ad 30)), (3, .int y3), (5, .int y5)]) hx hb d_Mod_send_75 hl (by decide) rfl (fun ls hl => ?_)
        refine lv_iinc (k := 3) (v := (y5 + 1)) (lv' := [(5, .int (y5 + 1)), (4, .int q18), (0, .ref (ad 30)), (3, .int y3)]) hx hb d_Mod_send_77 hl rfl rfl (by decide) rfl (fun ls hl => ?_)
        refine lv_goto (tgt := 54) hx hb d_Mod_send_80 rfl ?_
        exact ih _ _ _ _ _ _ _ h (lv_sub hl [2, 3, 1, 0] rfl) hw
  rw [f_Mod_send] at h
  refine lv_aload_n hx hb d_Mod_send_0 rfl (lv_at hl 0 rfl) ?_
  refine lv_bipush (v := 85) hx hb d_Mod_send_1 (by decide) ?_
  refine fx_sVv (As := [.int 85]) hC hl.1 (fun q hq => c_Mod_put l D ad cI cZ cT v u 85 q hq) fy_Mod_put fv_Mod_put kw_645 ⟨Nat.le_of_ble_eq_true rfl, Nat.le_of_ble_eq_true rfl⟩ rfl hK hA hw at_M_30 rfl rfl rfl (Nat.le_of_ble_eq_true rfl) d_Mod_send_3 ⟨Nat.le_refl _, Nat.le_refl _⟩ h (fun H locs q1 h hw => ?_)
  refine lv_aload_n hx hb d_Mod_send_6 rfl (lv_at hl 0 rfl) ?_
  refine lv_sipush (v := 255) hx hb d_Mod_send_7 (by decide) ?_
  refine fx_sVv (As := [.int 255]) hC hl.1 (fun q hq => c_Mod_put l D ad cI cZ cT v q1 255 q hq) fy_Mod_put fv_Mod_put kw_645 ⟨Nat.le_of_ble_eq_true rfl, Nat.le_of_ble_eq_true rfl⟩ rfl hK hA hw at_M_30 rfl rfl rfl (Nat.le_of_ble_eq_true rfl) d_Mod_send_10 ⟨Nat.le_refl _, Nat.le_refl _⟩ h (fun H locs q2 h hw => ?_)
  refine lv_aload_n hx hb d_Mod_send_13 rfl (lv_at hl 0 rfl) ?_
  refine lv_iload_n hx hb d_Mod_send_14 rfl (lv_at hl 1 rfl) ?_
  refine fx_sVv (As := [.int x1]) hC hl.1 (fun q hq => c_Mod_put l D ad cI cZ cT v q2 x1 q hq) fy_Mod_put fv_Mod_put kw_645 ⟨Nat.le_of_ble_eq_true rfl, Nat.le_of_ble_eq_true rfl⟩ rfl hK hA hw at_M_30 rfl rfl rfl (Nat.le_of_ble_eq_true rfl) d_Mod_send_15 ⟨Nat.le_refl _, Nat.le_refl _⟩ h (fun H locs q3 h hw => ?_)
  refine lv_aload_n hx hb d_Mod_send_18 rfl (lv_at hl 0 rfl) ?_
  refine lv_iload_n hx hb d_Mod_send_19 rfl (lv_at hl 2 rfl) ?_
  refine fx_sVv (As := [.int x2]) hC hl.1 (fun q hq => c_Mod_put l D ad cI cZ cT v q3 x2 q hq) fy_Mod_put fv_Mod_put kw_645 ⟨Nat.le_of_ble_eq_true rfl, Nat.le_of_ble_eq_true rfl⟩ rfl hK hA hw at_M_30 rfl rfl rfl (Nat.le_of_ble_eq_true rfl) d_Mod_send_20 ⟨Nat.le_refl _, Nat.le_refl _⟩ h (fun H locs q4 h hw => ?_)
  refine lv_aload_n hx hb d_Mod_send_23 rfl (lv_at hl 0 rfl) ?_
  refine lv_aload_n hx hb d_Mod_send_24 rfl (lv_at hl 0 rfl) ?_
  refine gf_M_30_own hC hK hw d_Mod_send_25 ?_
  refine fx_sVv (As := [.int (q4.1 0)]) hC hl.1 (fun q hq => c_Mod_put l D ad cI cZ cT v q4 (q4.1 0) q hq) fy_Mod_put fv_Mod_put kw_645 ⟨Nat.le_of_ble_eq_true rfl, Nat.le_of_ble_eq_true rfl⟩ rfl hK hA hw at_M_30 rfl rfl rfl (Nat.le_of_ble_eq_true rfl) d_Mod_send_28 ⟨Nat.le_refl _, Nat.le_refl _⟩ h (fun H locs q5 h hw => ?_)
  refine lv_aload_n hx hb d_Mod_send_31 rfl (lv_at hl 0 rfl) ?_
  refine lv_iconst (v := 0) hx hb d_Mod_send_32 (by decide) ?_
  refine fx_sVv (As := [.int 0]) hC hl.1 (fun q hq => c_Mod_put l D ad cI cZ cT v q5 0 q hq) fy_Mod_put fv_Mod_put kw_645 ⟨Nat.le_of_ble_eq_true rfl, Nat.le_of_ble_eq_true rfl⟩ rfl hK hA hw at_M_30 rfl rfl rfl (Nat.le_of_ble_eq_true rfl) d_Mod_send_33 ⟨Nat.le_refl _, Nat.le_refl _⟩ h (fun H locs q6 h hw => ?_)
  refine lv_aload_n hx hb d_Mod_send_36 rfl (lv_at hl 0 rfl) ?_
  refine lv_iload_n hx hb d_Mod_send_37 rfl (lv_at hl 3 rfl) ?_
  refine fx_sVv (As := [.int x3]) hC hl.1 (fun q hq => c_Mod_put l D ad cI cZ cT v q6 x3 q hq) fy_Mod_put fv_Mod_put kw_645 ⟨Nat.le_of_ble_eq_true rfl, Nat.le_of_ble_eq_true rfl⟩ rfl hK hA hw at_M_30 rfl rfl rfl (Nat.le_of_ble_eq_true rfl) d_Mod_send_38 ⟨Nat.le_refl _, Nat.le_refl _⟩ h (fun H locs q7 h hw => ?_)
  refine lv_sipush (v := 255) hx hb d_Mod_send_41 (by decide) ?_
  refine lv_istore (lv' := [(4, .int 255), (0, .ref (ad 30)), (1, .int x1), (2, .int x2), (3, .int x3)]) hx hb d_Mod_send_44 hl (by decide) rfl (fun ls hl => ?_)
  refine lv_aload_n hx hb d_Mod_send_46 rfl (lv_at hl 1 rfl) ?_
  refine gf_M_30_out hC hK hw d_Mod_send_47 ?_
  refine lv_iconst (v := 5) hx hb d_Mod_send_50 (by decide) ?_
  refine lv_isub hx hb d_Mod_send_51 ?_
  refine lv_istore (lv' := [(5, .int ((q7.1 16) - 5)), (4, .int 255), (0, .ref (ad 30)), (1, .int x1), (2, .int x2), (3, .int x3)]) hx hb d_Mod_send_52 hl (by decide) rfl (fun ls hl => ?_)
  exact L54 _ _ _ _ _ _ _ _ h (lv_sub hl [2, 5, 1, 0] rfl) hw
def f_Mod_idle_L81 : Nat → ST → Int32 → Int32 → Option (Int32 × ST)
  | 0, _, _, _ => none
  | k_ + 1, u, y1, y2 =>
    if (u.1 13) ≤ y2 then
      k_bd (f_Mod_send u 4 y1 (u.1 13)) fun q17 =>
      some (1, q17)
    else
    k_gd (inb y2 42) (
    k_gd (inb y2 48) (
    k_let (rs u 3 y2.toNatClampNeg (u.2 1 y2.toNatClampNeg)) fun u18 =>
    f_Mod_idle_L81 k_ u18 y1 (y2 + 1)))
def f_Mod_idle (u : ST)  : Option (Int32 × ST) :=
  if (u.1 14) = 0 then
    if 500 ≤ (u.1 2) then
      k_let (ss u 3 0) fun u3 =>
      k_let (ss u3 4 5) fun u4 =>
      some (1, u4)
    else
    some (0, u)
  else
  k_gd (inb 1 6) (
  if (u.2 0 (1 : Int32).toNatClampNeg) = (u.1 0) then
    k_gd (inb 2 6) (
    k_gd (inb 0 6) (
    if (u.2 0 (0 : Int32).toNatClampNeg) = 0 then
      k_let (ss u 9 0) fun u20 =>
      k_let (ss u20 4 1) fun u21 =>
      some (1, u21)
    else
    k_gd (inb 0 6) (
    if (u.2 0 (0 : Int32).toNatClampNeg) = 1 then
      k_bd (f_Mod_send u 2 (u.2 0 (2 : Int32).toNatClampNeg) 0) fun q19 =>
      some (1, q19)
    else
    k_gd (inb 0 6) (
    if (u.2 0 (0 : Int32).toNatClampNeg) = 3 then
      f_Mod_idle_L81 200 u (u.2 0 (2 : Int32).toNatClampNeg) 0
    else
    k_gd (inb 0 6) (
    if (u.2 0 (0 : Int32).toNatClampNeg) = 5 then
      k_bd (f_Mod_makeAnswer u) fun q13 =>
      if (q13.1 18) ≤ 0 then
        some (1, q13)
      else
      k_bd (f_Mod_send q13 6 (u.2 0 (2 : Int32).toNatClampNeg) (q13.1 18)) fun q15 =>
      some (1, q15)
    else
    some (1, u))))))
  else
  if 500 ≤ (u.1 2) then
    k_let (ss u 3 0) fun u7 =>
    k_let (ss u7 4 5) fun u8 =>
    some (1, u8)
  else
  some (0, u))
set_option maxHeartbeats 4000000 in
set_option maxRecDepth 100000 in
theorem c_Mod_idle (l : Launch) (D : va_G) (ad : Nat → Nat) (cI cZ cT : ClassId) (v u : ST) (q : Int32 × ST) (h : f_Mod_idle u = some q) : MX l D (tyC cI cZ cT) (wM ad cI cZ cT v) y_Mod_idle cd_Mod_idle 6 148 [.ref (ad 30)] u (some (.int q.1)) q.2 := by
  refine MX.start (by decide) (Nat.le_of_ble_eq_true rfl) ?_
  intro p e s m below meth c ls A hC hr hl hK hA hw
  have ⟨hx, hb, hml, hown, hT, hlk⟩ := hC
  have hl : lv_has ls 3 [(0, .ref (ad 30))] := hl
  have L81 : ∀ (k_ : Nat) (u : ST) (y1 y2 : Int32) (ls : Array Slot) (H : Heap) (locs : List Loc), f_Mod_idle_L81 k_ u y1 y2 = some q → lv_has ls 3 [(0, .ref (ad 30)), (1, .int y1), (2, .int y2)] → fw D A s.heap (wM ad cI cZ cT v u) H locs → WX (wM ad cI cZ cT v) p l e 6 148 s m [.ref (ad 30)] below meth c A D (tyC cI cZ cT) (some (.int q.1)) q.2 H locs (F0 m 81 ls []) := by
    intro k_
    induction k_ with
    | zero =>
      intro u y1 y2 ls H locs h hl hw
      cases h
    | succ k_ ih =>
      intro u y1 y2 ls H locs h hl hw
      rw [f_Mod_idle_L81] at h
      refine lv_iload_n hx hb d_Mod_idle_81 rfl (lv_at hl 2 rfl) ?_
      refine lv_aload_n hx hb d_Mod_idle_82 rfl (lv_at hl 0 rfl) ?_
      refine gf_M_30_size hC hK hw d_Mod_idle_83 ?_
      refine lv_icmp_ge (tgt := 107) hx hb d_Mod_idle_86 rfl (fun c16 => ?_) (fun c16 => ?_)
      · have h := br1 c16 h
        refine lv_aload_n hx hb d_Mod_idle_107 rfl (lv_at hl 0 rfl) ?_
        refine lv_iconst (v := 4) hx hb d_Mod_idle_108 (by decide) ?_
        refine lv_iload_n hx hb d_Mod_idle_109 rfl (lv_at hl 1 rfl) ?_
        refine lv_aload_n hx hb d_Mod_idle_110 rfl (lv_at hl 0 rfl) ?_
        refine gf_M_30_size hC hK hw d_Mod_idle_111 ?_
        refine fx_sVv (As := [.int 4, .int y1, .int (u.1 13)]) hC hl.1 (fun q hq => c_Mod_send l D ad cI cZ cT v u 4 y1 (u.1 13) q hq) fy_Mod_send fv_Mod_send kw_641 ⟨Nat.le_of_ble_eq_true rfl, Nat.le_of_ble_eq_true rfl⟩ rfl hK hA hw at_M_30 rfl rfl rfl (Nat.le_of_ble_eq_true rfl) d_Mod_idle_114 ⟨Nat.le_refl _, Nat.le_refl _⟩ h (fun H locs q17 h hw => ?_)
        refine lv_goto (tgt := 152) hx hb d_Mod_idle_117 rfl ?_
        refine lv_iconst (v := 1) hx hb d_Mod_idle_152 (by decide) ?_
        exact fx_retw hC hr (by decide) hK hw h d_Mod_idle_153
      · have h := br0 c16 h
        refine lv_aload_n hx hb d_Mod_idle_89 rfl (lv_at hl 0 rfl) ?_
        refine gf_M_30_answer hC hK hw d_Mod_idle_90 ?_
        refine lv_iload_n hx hb d_Mod_idle_93 rfl (lv_at hl 2 rfl) ?_
        refine lv_aload_n hx hb d_Mod_idle_94 rfl (lv_at hl 0 rfl) ?_
        refine gf_M_30_data hC hK hw d_Mod_idle_95 ?_
        refine lv_iload_n hx hb d_Mod_idle_98 rfl (lv_at hl 2 rfl) ?_
        refine al_M_32 hC hK hw d_Mod_idle_99 h (fun h => ?_)
        refine as_M_34 hC hK hw d_Mod_idle_100 h (fun H locs u18 h hw => ?_)
        refine lv_iinc (k := 2) (v := (y2 + 1)) (lv' := [(2, .int (y2 + 1)), (0, .ref (ad 30)), (1, .int y1)]) hx hb d_Mod_idle_101 hl rfl rfl (by decide) rfl (fun ls hl => ?_)
        refine lv_goto (tgt := 81) hx hb d_Mod_idle_104 rfl ?_
        exact ih _ _ _ _ _ _ h (lv_sub hl [1, 2, 0] rfl) hw
  rw [f_Mod_idle] at h
  refine lv_aload_n hx hb d_Mod_idle_0 rfl (lv_at hl 0 rfl) ?_
  refine gf_M_30_heard hC hK hw d_Mod_idle_1 ?_
  refine lv_if_eq (tgt := 154) hx hb d_Mod_idle_4 rfl (fun c1 => ?_) (fun c1 => ?_)
  · have h := br1 c1 h
    refine lv_aload_n hx hb d_Mod_idle_154 rfl (lv_at hl 0 rfl) ?_
    refine gf_M_30_silence hC hK hw d_Mod_idle_155 ?_
    refine lv_sipush (v := 500) hx hb d_Mod_idle_158 (by decide) ?_
    refine lv_icmp_ge (tgt := 166) hx hb d_Mod_idle_161 rfl (fun c2 => ?_) (fun c2 => ?_)
    · have h := br1 c2 h
      refine lv_aload_n hx hb d_Mod_idle_166 rfl (lv_at hl 0 rfl) ?_
      refine lv_iconst (v := 0) hx hb d_Mod_idle_167 (by decide) ?_
      refine pf_M_30_events hC hK hw d_Mod_idle_168 h (fun H locs u3 h hw => ?_)
      refine lv_aload_n hx hb d_Mod_idle_171 rfl (lv_at hl 0 rfl) ?_
      refine lv_iconst (v := 5) hx hb d_Mod_idle_172 (by decide) ?_
      refine pf_M_30_state hC hK hw d_Mod_idle_173 h (fun H locs u4 h hw => ?_)
      refine lv_iconst (v := 1) hx hb d_Mod_idle_176 (by decide) ?_
      exact fx_retw hC hr (by decide) hK hw h d_Mod_idle_177
    · have h := br0 c2 h
      refine lv_iconst (v := 0) hx hb d_Mod_idle_164 (by decide) ?_
      exact fx_retw hC hr (by decide) hK hw h d_Mod_idle_165
  · have h := br0 c1 h
    refine lv_aload_n hx hb d_Mod_idle_7 rfl (lv_at hl 0 rfl) ?_
    refine gf_M_30_header hC hK hw d_Mod_idle_8 ?_
    refine lv_iconst (v := 1) hx hb d_Mod_idle_11 (by decide) ?_
    refine al_M_31 hC hK hw d_Mod_idle_12 h (fun h => ?_)
    refine lv_aload_n hx hb d_Mod_idle_13 rfl (lv_at hl 0 rfl) ?_
    refine gf_M_30_own hC hK hw d_Mod_idle_14 ?_
    refine lv_icmp_ne (tgt := 154) hx hb d_Mod_idle_17 rfl (fun c5 => ?_) (fun c5 => ?_)
    · have h := br0 c5 h
      refine lv_aload_n hx hb d_Mod_idle_154 rfl (lv_at hl 0 rfl) ?_
      refine gf_M_30_silence hC hK hw d_Mod_idle_155 ?_
      refine lv_sipush (v := 500) hx hb d_Mod_idle_158 (by decide) ?_
      refine lv_icmp_ge (tgt := 166) hx hb d_Mod_idle_161 rfl (fun c6 => ?_) (fun c6 => ?_)
      · have h := br1 c6 h
        refine lv_aload_n hx hb d_Mod_idle_166 rfl (lv_at hl 0 rfl) ?_
        refine lv_iconst (v := 0) hx hb d_Mod_idle_167 (by decide) ?_
        refine pf_M_30_events hC hK hw d_Mod_idle_168 h (fun H locs u7 h hw => ?_)
        refine lv_aload_n hx hb d_Mod_idle_171 rfl (lv_at hl 0 rfl) ?_
        refine lv_iconst (v := 5) hx hb d_Mod_idle_172 (by decide) ?_
        refine pf_M_30_state hC hK hw d_Mod_idle_173 h (fun H locs u8 h hw => ?_)
        refine lv_iconst (v := 1) hx hb d_Mod_idle_176 (by decide) ?_
        exact fx_retw hC hr (by decide) hK hw h d_Mod_idle_177
      · have h := br0 c6 h
        refine lv_iconst (v := 0) hx hb d_Mod_idle_164 (by decide) ?_
        exact fx_retw hC hr (by decide) hK hw h d_Mod_idle_165
    · have h := br1 c5 h
      refine lv_aload_n hx hb d_Mod_idle_20 rfl (lv_at hl 0 rfl) ?_
      refine gf_M_30_header hC hK hw d_Mod_idle_21 ?_
      refine lv_iconst (v := 2) hx hb d_Mod_idle_24 (by decide) ?_
      refine al_M_31 hC hK hw d_Mod_idle_25 h (fun h => ?_)
      refine lv_istore_n (lv' := [(1, .int (u.2 0 (2 : Int32).toNatClampNeg)), (0, .ref (ad 30))]) hx hb d_Mod_idle_26 rfl hl (by decide) rfl (fun ls hl => ?_)
      refine lv_aload_n hx hb d_Mod_idle_27 rfl (lv_at hl 1 rfl) ?_
      refine gf_M_30_header hC hK hw d_Mod_idle_28 ?_
      refine lv_iconst (v := 0) hx hb d_Mod_idle_31 (by decide) ?_
      refine al_M_31 hC hK hw d_Mod_idle_32 h (fun h => ?_)
      refine lv_if_ne (tgt := 49) hx hb d_Mod_idle_33 rfl (fun c9 => ?_) (fun c9 => ?_)
      · have h := br0 c9 h
        refine lv_aload_n hx hb d_Mod_idle_49 rfl (lv_at hl 1 rfl) ?_
        refine gf_M_30_header hC hK hw d_Mod_idle_50 ?_
        refine lv_iconst (v := 0) hx hb d_Mod_idle_53 (by decide) ?_
        refine al_M_31 hC hK hw d_Mod_idle_54 h (fun h => ?_)
        refine lv_iconst (v := 1) hx hb d_Mod_idle_55 (by decide) ?_
        refine lv_icmp_ne (tgt := 69) hx hb d_Mod_idle_56 rfl (fun c10 => ?_) (fun c10 => ?_)
        · have h := br0 c10 h
          refine lv_aload_n hx hb d_Mod_idle_69 rfl (lv_at hl 1 rfl) ?_
          refine gf_M_30_header hC hK hw d_Mod_idle_70 ?_
          refine lv_iconst (v := 0) hx hb d_Mod_idle_73 (by decide) ?_
          refine al_M_31 hC hK hw d_Mod_idle_74 h (fun h => ?_)
          refine lv_iconst (v := 3) hx hb d_Mod_idle_75 (by decide) ?_
          refine lv_icmp_ne (tgt := 120) hx hb d_Mod_idle_76 rfl (fun c11 => ?_) (fun c11 => ?_)
          · have h := br0 c11 h
            refine lv_aload_n hx hb d_Mod_idle_120 rfl (lv_at hl 1 rfl) ?_
            refine gf_M_30_header hC hK hw d_Mod_idle_121 ?_
            refine lv_iconst (v := 0) hx hb d_Mod_idle_124 (by decide) ?_
            refine al_M_31 hC hK hw d_Mod_idle_125 h (fun h => ?_)
            refine lv_iconst (v := 5) hx hb d_Mod_idle_126 (by decide) ?_
            refine lv_icmp_ne (tgt := 152) hx hb d_Mod_idle_127 rfl (fun c12 => ?_) (fun c12 => ?_)
            · have h := br0 c12 h
              refine lv_iconst (v := 1) hx hb d_Mod_idle_152 (by decide) ?_
              exact fx_retw hC hr (by decide) hK hw h d_Mod_idle_153
            · have h := br1 c12 h
              refine lv_aload_n hx hb d_Mod_idle_130 rfl (lv_at hl 1 rfl) ?_
              refine fx_sVv (As := []) hC hl.1 (fun q hq => c_Mod_makeAnswer l D ad cI cZ cT v u q hq) fy_Mod_makeAnswer fv_Mod_makeAnswer kw_649 ⟨Nat.le_of_ble_eq_true rfl, Nat.le_of_ble_eq_true rfl⟩ rfl hK hA hw at_M_30 rfl rfl rfl (Nat.le_of_ble_eq_true rfl) d_Mod_idle_131 ⟨Nat.le_refl _, Nat.le_refl _⟩ h (fun H locs q13 h hw => ?_)
              refine lv_aload_n hx hb d_Mod_idle_134 rfl (lv_at hl 1 rfl) ?_
              refine gf_M_30_answered hC hK hw d_Mod_idle_135 ?_
              refine lv_if_le (tgt := 152) hx hb d_Mod_idle_138 rfl (fun c14 => ?_) (fun c14 => ?_)
              · have h := br1 c14 h
                refine lv_iconst (v := 1) hx hb d_Mod_idle_152 (by decide) ?_
                exact fx_retw hC hr (by decide) hK hw h d_Mod_idle_153
              · have h := br0 c14 h
                refine lv_aload_n hx hb d_Mod_idle_141 rfl (lv_at hl 1 rfl) ?_
                refine lv_bipush (v := 6) hx hb d_Mod_idle_142 (by decide) ?_
                refine lv_iload_n hx hb d_Mod_idle_144 rfl (lv_at hl 0 rfl) ?_
                refine lv_aload_n hx hb d_Mod_idle_145 rfl (lv_at hl 1 rfl) ?_
                refine gf_M_30_answered hC hK hw d_Mod_idle_146 ?_
                refine fx_sVv (As := [.int 6, .int (u.2 0 (2 : Int32).toNatClampNeg), .int (q13.1 18)]) hC hl.1 (fun q hq => c_Mod_send l D ad cI cZ cT v q13 6 (u.2 0 (2 : Int32).toNatClampNeg) (q13.1 18) q hq) fy_Mod_send fv_Mod_send kw_641 ⟨Nat.le_of_ble_eq_true rfl, Nat.le_of_ble_eq_true rfl⟩ rfl hK hA hw at_M_30 rfl rfl rfl (Nat.le_of_ble_eq_true rfl) d_Mod_idle_149 ⟨Nat.le_refl _, Nat.le_refl _⟩ h (fun H locs q15 h hw => ?_)
                refine lv_iconst (v := 1) hx hb d_Mod_idle_152 (by decide) ?_
                exact fx_retw hC hr (by decide) hK hw h d_Mod_idle_153
          · have h := br1 c11 h
            refine lv_iconst (v := 0) hx hb d_Mod_idle_79 (by decide) ?_
            refine lv_istore_n (lv' := [(2, .int 0), (1, .int (u.2 0 (2 : Int32).toNatClampNeg)), (0, .ref (ad 30))]) hx hb d_Mod_idle_80 rfl hl (by decide) rfl (fun ls hl => ?_)
            exact L81 _ _ _ _ _ _ _ h (lv_sub hl [2, 1, 0] rfl) hw
        · have h := br1 c10 h
          refine lv_aload_n hx hb d_Mod_idle_59 rfl (lv_at hl 1 rfl) ?_
          refine lv_iconst (v := 2) hx hb d_Mod_idle_60 (by decide) ?_
          refine lv_iload_n hx hb d_Mod_idle_61 rfl (lv_at hl 0 rfl) ?_
          refine lv_iconst (v := 0) hx hb d_Mod_idle_62 (by decide) ?_
          refine fx_sVv (As := [.int 2, .int (u.2 0 (2 : Int32).toNatClampNeg), .int 0]) hC hl.1 (fun q hq => c_Mod_send l D ad cI cZ cT v u 2 (u.2 0 (2 : Int32).toNatClampNeg) 0 q hq) fy_Mod_send fv_Mod_send kw_641 ⟨Nat.le_of_ble_eq_true rfl, Nat.le_of_ble_eq_true rfl⟩ rfl hK hA hw at_M_30 rfl rfl rfl (Nat.le_of_ble_eq_true rfl) d_Mod_idle_63 ⟨Nat.le_refl _, Nat.le_refl _⟩ h (fun H locs q19 h hw => ?_)
          refine lv_goto (tgt := 152) hx hb d_Mod_idle_66 rfl ?_
          refine lv_iconst (v := 1) hx hb d_Mod_idle_152 (by decide) ?_
          exact fx_retw hC hr (by decide) hK hw h d_Mod_idle_153
      · have h := br1 c9 h
        refine lv_aload_n hx hb d_Mod_idle_36 rfl (lv_at hl 1 rfl) ?_
        refine lv_iconst (v := 0) hx hb d_Mod_idle_37 (by decide) ?_
        refine pf_M_30_sole hC hK hw (by decide) d_Mod_idle_38 h (fun H locs u20 h hw => ?_)
        refine lv_aload_n hx hb d_Mod_idle_41 rfl (lv_at hl 1 rfl) ?_
        refine lv_iconst (v := 1) hx hb d_Mod_idle_42 (by decide) ?_
        refine pf_M_30_state hC hK hw d_Mod_idle_43 h (fun H locs u21 h hw => ?_)
        refine lv_goto (tgt := 152) hx hb d_Mod_idle_46 rfl ?_
        refine lv_iconst (v := 1) hx hb d_Mod_idle_152 (by decide) ?_
        exact fx_retw hC hr (by decide) hK hw h d_Mod_idle_153
def f_Mod_use_L25 : Nat → ST → Int32 → Option (Int32 × ST)
  | 0, _, _ => none
  | k_ + 1, u, y1 =>
    if 13 ≤ y1 then
      k_let (ss u 22 0) fun u5 =>
      k_bd (f_Mod_send u5 5 (u5.1 23) 13) fun q6 =>
      some (1, q6)
    else
    k_gd (inb y1 13) (
    k_gd (inb y1 48) (
    k_let (rs u 3 y1.toNatClampNeg (u.2 5 y1.toNatClampNeg)) fun u7 =>
    f_Mod_use_L25 k_ u7 (y1 + 1)))
def f_Mod_use_J13 (u : ST) (s0 : Int32) : Option (Int32 × ST) :=
  k_let (ss u 4 s0) fun u2 =>
  if (u2.1 22) = 0 then
    some (1, u2)
  else
  f_Mod_use_L25 200 u2 0
def f_Mod_use (u : ST)  : Option (Int32 × ST) :=
  if (u.1 22) = 0 then
    f_Mod_use_J13 u 3
  else
  f_Mod_use_J13 u 2
set_option maxHeartbeats 4000000 in
set_option maxRecDepth 100000 in
theorem c_Mod_use (l : Launch) (D : va_G) (ad : Nat → Nat) (cI cZ cT : ClassId) (v u : ST) (q : Int32 × ST) (h : f_Mod_use u = some q) : MX l D (tyC cI cZ cT) (wM ad cI cZ cT v) y_Mod_use cd_Mod_use 2 49 [.ref (ad 30)] u (some (.int q.1)) q.2 := by
  refine MX.start (by decide) (Nat.le_of_ble_eq_true rfl) ?_
  intro p e s m below meth c ls A hC hr hl hK hA hw
  have ⟨hx, hb, hml, hown, hT, hlk⟩ := hC
  have hl : lv_has ls 2 [(0, .ref (ad 30))] := hl
  have L25 : ∀ (k_ : Nat) (u : ST) (y1 : Int32) (ls : Array Slot) (H : Heap) (locs : List Loc), f_Mod_use_L25 k_ u y1 = some q → lv_has ls 2 [(0, .ref (ad 30)), (1, .int y1)] → fw D A s.heap (wM ad cI cZ cT v u) H locs → WX (wM ad cI cZ cT v) p l e 2 49 s m [.ref (ad 30)] below meth c A D (tyC cI cZ cT) (some (.int q.1)) q.2 H locs (F0 m 25 ls []) := by
    intro k_
    induction k_ with
    | zero =>
      intro u y1 ls H locs h hl hw
      cases h
    | succ k_ ih =>
      intro u y1 ls H locs h hl hw
      rw [f_Mod_use_L25] at h
      refine lv_iload_n hx hb d_Mod_use_25 rfl (lv_at hl 1 rfl) ?_
      refine lv_bipush (v := 13) hx hb d_Mod_use_26 (by decide) ?_
      refine lv_icmp_ge (tgt := 49) hx hb d_Mod_use_28 rfl (fun c4 => ?_) (fun c4 => ?_)
      · have h := br1 c4 h
        refine lv_aload_n hx hb d_Mod_use_49 rfl (lv_at hl 0 rfl) ?_
        refine lv_iconst (v := 0) hx hb d_Mod_use_50 (by decide) ?_
        refine pf_M_30_asks hC hK hw (by decide) d_Mod_use_51 h (fun H locs u5 h hw => ?_)
        refine lv_aload_n hx hb d_Mod_use_54 rfl (lv_at hl 0 rfl) ?_
        refine lv_iconst (v := 5) hx hb d_Mod_use_55 (by decide) ?_
        refine lv_aload_n hx hb d_Mod_use_56 rfl (lv_at hl 0 rfl) ?_
        refine gf_M_30_askTo hC hK hw d_Mod_use_57 ?_
        refine lv_bipush (v := 13) hx hb d_Mod_use_60 (by decide) ?_
        refine fx_sVv (As := [.int 5, .int (u5.1 23), .int 13]) hC hl.1 (fun q hq => c_Mod_send l D ad cI cZ cT v u5 5 (u5.1 23) 13 q hq) fy_Mod_send fv_Mod_send kw_641 ⟨Nat.le_of_ble_eq_true rfl, Nat.le_of_ble_eq_true rfl⟩ rfl hK hA hw at_M_30 rfl rfl rfl (Nat.le_of_ble_eq_true rfl) d_Mod_use_62 ⟨Nat.le_refl _, Nat.le_refl _⟩ h (fun H locs q6 h hw => ?_)
        refine lv_iconst (v := 1) hx hb d_Mod_use_65 (by decide) ?_
        exact fx_retw hC hr (by decide) hK hw h d_Mod_use_66
      · have h := br0 c4 h
        refine lv_aload_n hx hb d_Mod_use_31 rfl (lv_at hl 0 rfl) ?_
        refine gf_M_30_answer hC hK hw d_Mod_use_32 ?_
        refine lv_iload_n hx hb d_Mod_use_35 rfl (lv_at hl 1 rfl) ?_
        refine lv_aload_n hx hb d_Mod_use_36 rfl (lv_at hl 0 rfl) ?_
        refine gf_M_30_request hC hK hw d_Mod_use_37 ?_
        refine lv_iload_n hx hb d_Mod_use_40 rfl (lv_at hl 1 rfl) ?_
        refine al_M_36 hC hK hw d_Mod_use_41 h (fun h => ?_)
        refine as_M_34 hC hK hw d_Mod_use_42 h (fun H locs u7 h hw => ?_)
        refine lv_iinc (k := 1) (v := (y1 + 1)) (lv' := [(1, .int (y1 + 1)), (0, .ref (ad 30))]) hx hb d_Mod_use_43 hl rfl rfl (by decide) rfl (fun ls hl => ?_)
        refine lv_goto (tgt := 25) hx hb d_Mod_use_46 rfl ?_
        exact ih _ _ _ _ _ h (lv_sub hl [1, 0] rfl) hw
  have J13 : ∀ (u : ST) (s0 : Int32) (ls : Array Slot) (H : Heap) (locs : List Loc), f_Mod_use_J13 u s0 = some q → lv_has ls 2 [(0, .ref (ad 30))] → fw D A s.heap (wM ad cI cZ cT v u) H locs → WX (wM ad cI cZ cT v) p l e 2 49 s m [.ref (ad 30)] below meth c A D (tyC cI cZ cT) (some (.int q.1)) q.2 H locs (F0 m 13 ls [.int s0, .ref (ad 30)]) := by
    intro u s0 ls H locs h hl hw
    rw [f_Mod_use_J13] at h
    refine pf_M_30_state hC hK hw d_Mod_use_13 h (fun H locs u2 h hw => ?_)
    refine lv_aload_n hx hb d_Mod_use_16 rfl (lv_at hl 0 rfl) ?_
    refine gf_M_30_asks hC hK hw d_Mod_use_17 ?_
    refine lv_if_eq (tgt := 65) hx hb d_Mod_use_20 rfl (fun c3 => ?_) (fun c3 => ?_)
    · have h := br1 c3 h
      refine lv_iconst (v := 1) hx hb d_Mod_use_65 (by decide) ?_
      exact fx_retw hC hr (by decide) hK hw h d_Mod_use_66
    · have h := br0 c3 h
      refine lv_iconst (v := 0) hx hb d_Mod_use_23 (by decide) ?_
      refine lv_istore_n (lv' := [(1, .int 0), (0, .ref (ad 30))]) hx hb d_Mod_use_24 rfl hl (by decide) rfl (fun ls hl => ?_)
      exact L25 _ _ _ _ _ _ h (lv_sub hl [1, 0] rfl) hw
  rw [f_Mod_use] at h
  refine lv_aload_n hx hb d_Mod_use_0 rfl (lv_at hl 0 rfl) ?_
  refine lv_aload_n hx hb d_Mod_use_1 rfl (lv_at hl 0 rfl) ?_
  refine gf_M_30_asks hC hK hw d_Mod_use_2 ?_
  refine lv_if_eq (tgt := 12) hx hb d_Mod_use_5 rfl (fun c1 => ?_) (fun c1 => ?_)
  · have h := br1 c1 h
    refine lv_iconst (v := 3) hx hb d_Mod_use_12 (by decide) ?_
    exact J13 _ _ _ _ _ h (lv_sub hl [0] rfl) hw
  · have h := br0 c1 h
    refine lv_iconst (v := 2) hx hb d_Mod_use_8 (by decide) ?_
    refine lv_goto (tgt := 13) hx hb d_Mod_use_9 rfl ?_
    exact J13 _ _ _ _ _ h (lv_sub hl [0] rfl) hw
