theorem kw_10 : (Jvm.Cond.instantiable "PassedToken" 18) ∈ gA := gA_in (List.mem_of_getElem? (i := 77) (by decide +kernel)) (by decide +kernel)
theorem kw_12 : (Jvm.Cond.instanceMethod ({ cls := "PassedToken", name := "<init>", desc := "(II)V" } : Jvm.MethodName)) ∈ gA := gA_in (List.mem_of_getElem? (i := 79) (by decide +kernel)) (by decide +kernel)
theorem kw_508 : (Jvm.Cond.instantiable "PassedTokenModel" 29) ∈ gA := gA_in (List.mem_of_getElem? (i := 575) (by decide +kernel)) (by decide +kernel)
theorem kw_510 : (Jvm.Cond.instanceMethod ({ cls := "PassedTokenModel", name := "<init>", desc := "(II)V" } : Jvm.MethodName)) ∈ gA := gA_in (List.mem_of_getElem? (i := 577) (by decide +kernel)) (by decide +kernel)
/-- the script's cell, or 0 -/
def cv (L : Nat) (xs : Nat → Int32) (k : Int32) : Int32 := if Int32.ofNat L ≤ k then 0 else xs k.toNatClampNeg
theorem lw_cell (l : Launch) (b L : Nat) (xs : Nat → Int32) (k : Int32) (hk : ¬ k < 0) (hL : L ≤ 3074) (sz : Nat) : Met l y_Law_cell (cd_Law_cell :: gA) { frames := 0, cells := 0, slots := 0, locals := 0 } (va_Pc [.ref b, .int k] (fun U => U.heap.size = sz ∧ va_X b L xs U U.heap ∧ b < U.heap.size)) (fun _ st oc t => oc = .returned (some (.int (cv L xs k))) ∧ t.heap = st.heap) 0 0 (fun q => sz ≤ q) := by
  refine Met.ofW (cc := b_Law_cell) (maxL := 2) (ret := some .int) (by decide) rfl ?_
  intro p e s m args below meth c s₁ B hml hv
  obtain ⟨rfl, hsz, hX, hbl⟩ := hv
  have hx := B.exec
  have hb := B.bytes
  have hr := B.returns
  have hlk := B.notSynchronized
  subst hsz
  have hS : va_S (fun q => s.heap.size ≤ q) s.heap s.heap [] := va_S.rf
  have hbA : ¬ (fun q => s.heap.size ≤ q) b := Nat.not_le.mpr hbl
  have hl := lv_entry ([.ref b, .int k]) (n := 2) (Nat.le_of_ble_eq_true rfl)
  rw [lg_entry_eq]
  generalize (lg_sl ([.ref b, .int k]) ++ List.replicate (2 - (lg_sl ([.ref b, .int k])).length) Slot.unset).toArray = ls at hl ⊢
  have hl : lv_has ls 2 [(0, .ref b), (1, .int k)] := hl
  refine lv_iload_n hx hb d_Law_cell_0 rfl (lv_at hl 1 rfl) ?_
  refine lv_aload_n hx hb d_Law_cell_1 rfl (lv_at hl 0 rfl) ?_
  refine va_slen hx hb hX hbl hbA hS d_Law_cell_2 ?_
  refine lv_icmp_ge (tgt := 12) hx hb d_Law_cell_3 rfl (fun c1 => ?_) (fun c1 => ?_)
  · refine lv_iconst (v := 0) hx hb d_Law_cell_12 (by decide) ?_
    exact W.iret (v := 0) hx hb hr (fun t ht hW => ⟨by rw [cv, if_pos c1], ht⟩) hS.2.2 d_Law_cell_13
  · refine lv_aload_n hx hb d_Law_cell_6 rfl (lv_at hl 0 rfl) ?_
    refine lv_iload_n hx hb d_Law_cell_7 rfl (lv_at hl 1 rfl) ?_
    refine va_sld hx hb hX hbl hbA hS ?_ d_Law_cell_8 ?_
    · intro h
      rcases h with h | h
      · exact hk h
      · apply c1
        rw [Int32.le_iff_toInt_le, show (Int32.ofNat L).toInt = (L : Int) from nI_toInt (by omega)]
        have h1 : 0 ≤ k.toInt := by
          rw [Int32.lt_iff_toInt_lt] at hk
          exact Int.not_lt.mp hk
        have h2 : k.toNatClampNeg = k.toInt.toNat := rfl
        omega
    · refine lv_goto (tgt := 13) hx hb d_Law_cell_9 rfl ?_
      exact W.iret (v := xs k.toNatClampNeg) hx hb hr (fun t ht hW => ⟨by rw [cv, if_neg c1], ht⟩) hS.2.2 d_Law_cell_13
theorem lw_callcell {p : Program} {e : Env} {s : State} {m : MethodId} {below : List Frame} {meth : Method} {c : Code} {l : Launch} {b L : Nat} {xs : Nat → Int32} {D : va_G} {ws : va_W} {H : Heap} {locs : List Loc} {cells slots pc : Nat} {Q : State → Prop} {ls : Array Slot} {rest : List Value} {k : Int32} (hk : ¬ k < 0) (hL : L ≤ 3074) (hC : fx_C p s m #[Value.ref b] meth c code "PassedTokenLaw" 4) (hls : ls.size = 4) (hX : va_X b L xs s s.heap) (hbl : b < s.heap.size) (hw : fw D (fun q => s.heap.size ≤ q) s.heap ws H locs) (hW : (rest.map fun v => v.category).sum ≤ 8) (hcs : cells ≤ room_1.cells ∧ slots ≤ room_1.slots) (hdg : decode code pc = .ok (.invokestatic 9, 3))
    (kk : ∀ locs1, fw D (fun q => s.heap.size ≤ q) s.heap ws H locs1 → W p l e room_1 s m #[Value.ref b] below meth c H locs1 cells slots Q (F0 m (pc + 3) ls (.int (cv L xs k) :: rest))) : W p l e room_1 s m #[Value.ref b] below meth c H locs cells slots Q (F0 m pc ls (.int k :: .ref b :: rest)) := by
  obtain ⟨hx, hb, hml, hown, hT, hlk⟩ := hC
  obtain ⟨y1, y2, y3, y4, y5⟩ := fy_Law_cell
  have hS := hw.2.2
  have hbA : ¬ s.heap.size ≤ b := Nat.not_le.mpr hbl
  have hq : H[b]? = s.heap[b]? := hS.2.1 b hbl hbA
  have hr := va_runS (As := [.ref b, .int k]) (rest := rest) ⟨hx, hb, hml, hown, hT⟩ (lw_cell l b L xs k hk hL H.size) ⟨callB_of 2 hT (gA_goodT y1) rfl rfl rfl (hT _ y2) (hT _ kw_504) ⟨y3, y4, y5⟩ ⟨Nat.le_of_ble_eq_true rfl, Nat.le_of_ble_eq_true rfl⟩, hT _ fs_Law_cell⟩ ⟨fun a U g mk q => by
      obtain ⟨q0, q1, q2, q3⟩ := q
      exact ⟨q0, q1, va_X.moved (u := U) (U := U.calling g mk a) (Vm.Alike.refl U.vm) q2, q3⟩, fun U hU hW => ⟨rfl, by rw [hU], by rw [hU]; exact va_X.moved hW.alike (hX.kept hq), by rw [hU]; exact Nat.lt_of_lt_of_le hbl hS.1⟩⟩ rfl rfl hls rfl (lv_room hW) hdg hcs (p := p) (e := e) (below := below) (locs := locs) (meth := meth) (g := F0 m pc ls (.int k :: .ref b :: rest)) (R := room_1)
  intro T hT2 X
  obtain ⟨v, st₀, t, T', L', h0, X', hL', e1, e2, ⟨hv, hh⟩, st⟩ := hr T hT2 X
  cases hv
  obtain ⟨t2, a1, b1⟩ := kk (locs ++ L') ⟨hw.1, hw.2.1, hS.1, hS.2.1, fun q hq => by
      rcases List.mem_append.mp hq with h | h
      · exact hS.2.2 q h
      · exact Nat.le_trans hS.1 (hL' q h)⟩ T' (by rw [e1, hh, h0]) X'
  exact ⟨t2, st t2 a1, b1⟩
set_option maxHeartbeats 8000000 in
set_option maxRecDepth 100000 in
theorem lw_start {p : Program} {e : Env} {s : State} {m : MethodId} {below : List Frame} {meth : Method} {c : Code} (l : Launch) {b L : Nat} {xs : Nat → Int32} (Rl : ST → ST → Prop) (s_new : ∀ x1 x2, Rl (u_0 x1 x2) (v_0 (md_O x1 x2) (md_M x2))) (s_hear : ∀ (u v : ST) (x1 : Int32), Rl u v → ∃ q q2, f_PT_hear u x1 = some q ∧ f_Mod_hear v x1 = some q2 ∧ q.1 = q2.1 ∧ Rl q.2 q2.2) (s_quiet : ∀ (u v : ST) (x1 : Int32), Rl u v → ∃ q q2, f_PT_quiet u x1 = some q ∧ f_Mod_quiet v x1 = some q2 ∧ q.1 = q2.1 ∧ Rl q.2 q2.2) (s_sent : ∀ (u v : ST) (x1 : Int32), Rl u v → ∃ q, f_PT_sent u x1 = some q ∧ f_Mod_sent v x1 = some q) (s_ask : ∀ (u v : ST) (x1 x2 x3 x4 x5 : Int32), Rl u v → ∃ q q2, f_PT_ask u x1 x2 x3 x4 x5 = some q ∧ f_Mod_ask v x1 x2 x3 x4 x5 = some q2 ∧ q.1 = q2.1 ∧ Rl q.2 q2.2) (s_replied : ∀ (u v : ST), Rl u v → ∃ q, f_PT_replied u  = some q ∧ f_Mod_replied v  = some q) (s_reply : ∀ (u v : ST) (x1 : Int32), Rl u v → ∃ q, f_PT_reply u x1 = some q ∧ f_Mod_reply v x1 = some q) (s_state : ∀ (u v : ST), Rl u v → ∃ q, f_PT_state u  = some q ∧ f_Mod_state v  = some q) (s_silence : ∀ (u v : ST), Rl u v → ∃ q, f_PT_silence u  = some q ∧ f_Mod_silence v  = some q) (s_set : ∀ (u v : ST) (x1 x2 x3 x4 : Int32) (hz : isz x4), Rl u v → ∃ q q2, f_PT_set u x1 x2 x3 x4 = some q ∧ f_Mod_set v x1 x2 x3 x4 = some q2 ∧ q.1 = q2.1 ∧ Rl q.2 q2.2) (s_present : ∀ (u v : ST) (x1 : Int32), Rl u v → ∃ q, f_PT_present u x1 = some q ∧ f_Mod_present v x1 = some q) (hL : L ≤ 3074) (C0 : lw_At p s m meth c b L xs) : W p l e room_1 s m #[Value.ref b] below meth c s.heap [] 0 0 (lw_Z below #[Value.ref b] s) (entryFrame m ([Value.ref b] : List Value).toArray 4) := by
  obtain ⟨hx, hb, hr, hml, hown, hts, hX, hbl, hlk, hgv⟩ := C0
  have hT : ∀ w ∈ gA, w.before #[Value.ref b] s = true := fun w h => hts w (List.mem_filter.mp h).1
  have hC : fx_C p s m #[Value.ref b] meth c code "PassedTokenLaw" 4 := ⟨hx, hb, hml, hown, hT, hlk⟩
  obtain ⟨d0, i0, k0⟩ := u_known hT in_Row (hT _ kw_18)
  obtain ⟨d1, i1, k1⟩ := u_known hT in_Thing (hT _ kw_41)
  obtain ⟨d2, i2, k2⟩ := u_known hT in_Ear (hT _ kw_108)
  obtain ⟨d3, i3, k3⟩ := u_known hT in_Desk (hT _ kw_32)
  obtain ⟨d4, i4, k4⟩ := u_known hT in_PT (hT _ kw_10)
  obtain ⟨d5, i5, k5⟩ := u_known hT in_Mod (hT _ kw_508)
  have hO : va_AO "PassedToken$Thing" s := va_AO.of (A := #[Value.ref b]) (hts _ (List.mem_of_getElem? (i := 105) (by decide +kernel)))
  obtain ⟨cI, kI, pI, a1, a2, a3⟩ := Cond.arrayClass_spec (hT _ kw_30)
  obtain ⟨cZ, kZ, pZ, z1, z2, z3⟩ := Cond.arrayClass_spec (hT _ kw_60)
  obtain ⟨pT, cT, kT, t1, t2, t3, t4, t5⟩ := Cond.arrayOver_spec (hts (.arrayOver (.object "PassedToken$Thing")) (List.mem_of_getElem? (i := 105) (by decide +kernel)))
  obtain ⟨D, hD0⟩ : ∃ D : va_G, D = (fun k => match k with | 0 => d0 | 1 => d1 | 2 => d2 | 3 => d3 | 4 => d4 | _ => d5, fun k => match k with | 0 => i0 | 1 => i1 | 2 => i2 | 3 => i3 | 4 => i4 | _ => i5) := ⟨_, rfl⟩
  have hK : va_K D vC (tyC cI cZ cT) s := by
    subst hD0
    refine ⟨fun c q h => ?_, fun k q h => ?_⟩
    · have hc : c < 6 := (List.getElem?_eq_some_iff.mp h).1
      rcases (show c = 0 ∨ c = 1 ∨ c = 2 ∨ c = 3 ∨ c = 4 ∨ c = 5 by omega) with rfl | rfl | rfl | rfl | rfl | rfl
      · cases h; exact k0
      · cases h; exact k1
      · cases h; exact k2
      · cases h; exact k3
      · cases h; exact k4
      · cases h; exact k5
    · have hc : k < 3 := (List.getElem?_eq_some_iff.mp h).1
      rcases (show k = 0 ∨ k = 1 ∨ k = 2 by omega) with rfl | rfl | rfl
      · cases h; exact ⟨fun n z => ⟨fun k h => (by cases h), kI, a2, pI, a3⟩, a1⟩
      · cases h; exact ⟨fun n z => ⟨fun k h => (by cases h), kZ, z2, pZ, z3⟩, z1⟩
      · cases h; exact ⟨fun n z => ⟨fun k h => (by cases h), kT, t3, pT, t4⟩, kT, pT, t3, t4, t1, t5⟩
  have hw : fw D (fun q => s.heap.size ≤ q) s.heap [] s.heap [] := ⟨(fun _ _ h => by cases h), ⟨(fun _ _ _ _ h => by cases h), (fun _ _ h => by cases h)⟩, va_S.rf⟩
  have hl := lv_entry ([.ref b]) (n := 4) (Nat.le_of_ble_eq_true rfl)
  rw [lg_entry_eq]
  generalize (lg_sl ([.ref b]) ++ List.replicate (4 - (lg_sl ([.ref b])).length) Slot.unset).toArray = ls at hl ⊢
  have hl : lv_has ls 4 [(0, .ref b)] := hl
  refine fx_new (C := "PassedToken") (T := F_PT) (N := 18) (ci := 4) (fs := [.int 0, .int 0, .null, .null, .null, .null, .null, .null, .int 0, .int 0, .int 0, .int 0, .int 0, .int 0, .int 0, .int 0, .int 0, .int 0]) t_PT hC hK (fun _ h => h) hw in_PT t_PT_ok kw_9 kw_10 kw_1 rfl (fun j hj => by rcases (show j = 0 ∨ j = 1 ∨ j = 2 ∨ j = 3 ∨ j = 4 ∨ j = 5 ∨ j = 6 ∨ j = 7 ∨ j = 8 ∨ j = 9 ∨ j = 10 ∨ j = 11 ∨ j = 12 ∨ j = 13 ∨ j = 14 ∨ j = 15 ∨ j = 16 ∨ j = 17 by omega) with rfl | rfl | rfl | rfl | rfl | rfl | rfl | rfl | rfl | rfl | rfl | rfl | rfl | rfl | rfl | rfl | rfl | rfl <;> rfl) (Nat.le_of_ble_eq_true rfl) (Nat.le_of_ble_eq_true rfl) d_Law_law_0 (fun h1 H hw => ?_)
  have hw : fw D (fun q => s.heap.size ≤ q) s.heap [(h1, .inr (4, [.int 0, .int 0, .null, .null, .null, .null, .null, .null, .int 0, .int 0, .int 0, .int 0, .int 0, .int 0, .int 0, .int 0, .int 0, .int 0]))] H _ := hw
  refine W.widen (k := 1) (n := 18) (Nat.le_refl _) (Nat.le_refl _) ?_
  refine lv_dup hx hb d_Law_law_3 rfl ?_
  refine lv_aload_n hx hb d_Law_law_4 rfl (lv_at hl 0 rfl) ?_
  refine lv_iconst (v := 0) hx hb d_Law_law_5 (by decide) ?_
  refine lw_callcell (by decide) hL hC hl.1 hX hbl hw (Nat.le_of_ble_eq_true rfl) ⟨Nat.le_of_ble_eq_true rfl, Nat.le_of_ble_eq_true rfl⟩ d_Law_law_6 (fun locs hw => ?_)
  refine lv_aload_n hx hb d_Law_law_9 rfl (lv_at hl 0 rfl) ?_
  refine lv_iconst (v := 1) hx hb d_Law_law_10 (by decide) ?_
  refine lw_callcell (by decide) hL hC hl.1 hX hbl hw (Nat.le_of_ble_eq_true rfl) ⟨Nat.le_of_ble_eq_true rfl, Nat.le_of_ble_eq_true rfl⟩ d_Law_law_11 (fun locs hw => ?_)
  refine fx_cI (As := [.int (cv L xs 0), .int (cv L xs 1)]) (wr := []) [0] [] hC hl.1 (mk_PT l D cI cZ cT h1 (cv L xs 0) (cv L xs 1)) fy_PT_init kw_12 rfl kw_11 ⟨Nat.le_of_ble_eq_true rfl, Nat.le_of_ble_eq_true rfl⟩ rfl hK hO (fun _ h => h) hw rfl rfl rfl rfl (by decide) rfl (Nat.le_of_ble_eq_true rfl) d_Law_law_14 ⟨Nat.le_of_ble_eq_true rfl, Nat.le_of_ble_eq_true rfl⟩ (fun H locs ad1 hw => ?_)
  have hw : fw D (fun q => s.heap.size ≤ q) s.heap (wCc (fun k => if k = 0 then h1 else ad1 k) cI cZ cT (u_0 (cv L xs 0) (cv L xs 1))) H locs := hw
  refine W.widen (k := 32) (n := 467) (Nat.le_of_ble_eq_true rfl) (Nat.le_of_ble_eq_true rfl) ?_
  refine lv_astore_n (lv' := [(1, .ref h1), (0, .ref b)]) hx hb d_Law_law_17 rfl hl (by decide) rfl (fun ls hl => ?_)
  refine fx_new (C := "PassedTokenModel") (T := F_Mod) (N := 29) (ci := 5) (fs := [.int 0, .int 0, .int 0, .int 0, .int 0, .int 0, .int 0, .int 0, .int 0, .int 0, .int 0, .null, .null, .int 0, .int 0, .int 0, .int 0, .null, .int 0, .null, .int 0, .null, .int 0, .int 0, .null, .null, .null, .int 0, .int 0]) t_Mod hC hK (fun _ h => h) hw in_Mod t_Mod_ok kw_507 kw_508 kw_7 rfl (fun j hj => by rcases (show j = 0 ∨ j = 1 ∨ j = 2 ∨ j = 3 ∨ j = 4 ∨ j = 5 ∨ j = 6 ∨ j = 7 ∨ j = 8 ∨ j = 9 ∨ j = 10 ∨ j = 11 ∨ j = 12 ∨ j = 13 ∨ j = 14 ∨ j = 15 ∨ j = 16 ∨ j = 17 ∨ j = 18 ∨ j = 19 ∨ j = 20 ∨ j = 21 ∨ j = 22 ∨ j = 23 ∨ j = 24 ∨ j = 25 ∨ j = 26 ∨ j = 27 ∨ j = 28 by omega) with rfl | rfl | rfl | rfl | rfl | rfl | rfl | rfl | rfl | rfl | rfl | rfl | rfl | rfl | rfl | rfl | rfl | rfl | rfl | rfl | rfl | rfl | rfl | rfl | rfl | rfl | rfl | rfl | rfl <;> rfl) (Nat.le_of_ble_eq_true rfl) (Nat.le_of_ble_eq_true rfl) d_Law_law_18 (fun h2 H hw => ?_)
  refine W.widen (k := 33) (n := 496) (Nat.le_of_ble_eq_true rfl) (Nat.le_of_ble_eq_true rfl) ?_
  refine lv_dup hx hb d_Law_law_21 rfl ?_
  refine lv_aload_n hx hb d_Law_law_22 rfl (lv_at hl 1 rfl) ?_
  refine lv_iconst (v := 0) hx hb d_Law_law_23 (by decide) ?_
  refine lw_callcell (by decide) hL hC hl.1 hX hbl hw (Nat.le_of_ble_eq_true rfl) ⟨Nat.le_of_ble_eq_true rfl, Nat.le_of_ble_eq_true rfl⟩ d_Law_law_24 (fun locs hw => ?_)
  refine lv_aload_n hx hb d_Law_law_27 rfl (lv_at hl 1 rfl) ?_
  refine lv_iconst (v := 1) hx hb d_Law_law_28 (by decide) ?_
  refine lw_callcell (by decide) hL hC hl.1 hX hbl hw (Nat.le_of_ble_eq_true rfl) ⟨Nat.le_of_ble_eq_true rfl, Nat.le_of_ble_eq_true rfl⟩ d_Law_law_29 (fun locs hw => ?_)
  refine fx_cI (As := [.int (cv L xs 0), .int (cv L xs 1)]) (wr := wCc (fun k => if k = 0 then h1 else ad1 k) cI cZ cT (u_0 (cv L xs 0) (cv L xs 1))) [30] [0, 1, 2, 3, 4, 5, 6, 7, 8, 9, 10, 11, 12, 13, 14, 15, 16, 17, 18, 19, 20, 21, 22, 23, 24, 25, 26, 27, 28, 29] hC hl.1 (mk_Mod l D cI cZ cT h2 (cv L xs 0) (cv L xs 1)) fy_Mod_init kw_510 rfl kw_509 ⟨Nat.le_of_ble_eq_true rfl, Nat.le_of_ble_eq_true rfl⟩ rfl hK hO (fun _ h => h) hw rfl rfl rfl rfl (by decide) rfl (Nat.le_of_ble_eq_true rfl) d_Law_law_32 ⟨Nat.le_of_ble_eq_true rfl, Nat.le_of_ble_eq_true rfl⟩ (fun H locs ad2 hw => ?_)
  refine W.widen (k := 41) (n := 1805) (Nat.le_of_ble_eq_true rfl) (Nat.le_of_ble_eq_true rfl) ?_
  refine lv_astore_n (lv' := [(2, .ref h2), (1, .ref h1), (0, .ref b)]) hx hb d_Law_law_35 rfl hl (by decide) rfl (fun ls hl => ?_)
  refine lv_iconst (v := 2) hx hb d_Law_law_36 (by decide) ?_
  refine lv_istore_n (lv' := [(3, .int (nI 2)), (2, .ref h2), (1, .ref h1), (0, .ref b)]) hx hb d_Law_law_37 rfl hl (by decide) rfl (fun ls hl => ?_)
  exact lw_loop (ad := fun k => if k < 30 then (if k = 0 then h1 else ad1 k) else if k = 39 then ad1 39 else (if k = 30 then h2 else ad2 k)) l Rl s_hear s_quiet s_sent s_ask s_replied s_reply s_state s_silence s_set s_present hL hC hr hX hbl hK 3074 2 (u_0 (cv L xs 0) (cv L xs 1)) (v_0 (md_O (cv L xs 0) (cv L xs 1)) (md_M (cv L xs 1))) ls H locs (by omega) (by omega) (s_new _ _) (lv_sub hl [0, 3, 2, 1] rfl) hw
