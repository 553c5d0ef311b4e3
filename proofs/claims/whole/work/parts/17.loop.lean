/-! THE CLAIM OUT OF ONE WALK OF THE LAW'S BODY. Your part is whole_start (and what it stands on); all else here is the same for every law, but numbers. -/
def R_law : String := "PassedTokenLaw"
def lw_P (b : Addr) (xs : List Int32) (args : Array Value) (s : State) : Prop := args = #[.ref b] ∧ s.IntsAt b xs ∧ xs.length ≤ 3074 ∧ (Jvm.Cond.and given_1 narrow_1).before args s = true
def lw_Q (_ : Array Value) (s : State) (o : Outcome) (t : State) : Prop := o = .returned (some (.int 1)) ∧ Framed s o t [] 600000 7302250
def lw_Z (below : List Frame) (a : Array Value) (s : State) : State → Prop := fun t => ∃ o, t.status = .running ∧ Ended t below o ∧ lw_Q a s o t
/-- the law's own end, with 1 on the stack, nothing written that was there before, its room as the claim has it -/
theorem lw_ret {p : Program} {l : Launch} {e : Env} {s : State} {m : MethodId} {below : List Frame} {meth : Method} {c : Code} {b : Nat} (hx : p.tables.exec = Jvm.exec) (hb : c.code = code) (hr : meth.sig.returnType = ret) (hlocks : meth.locks = false) {pc : Nat} {H : Heap} {ls : Array Slot} (hdg : decode code pc = .ok (.ireturn, 1)) : W p l e room_1 s m #[Value.ref b] below meth c H [] 600000 7302250 (lw_Z below #[Value.ref b] s) (F0 m pc ls [.int 1]) := by
  intro T hT X
  obtain ⟨fs, hret, hrun, hended, hW, hframe⟩ := X.leave (v := some (.int 1)) (hlocks := hlocks) (fun h => by rw [hr] at h; cases h)
  have hmeth' : T.vm.method? m = some meth := X.method'
  refine ⟨T.setFrames fs, ?_, .returned (some (.int 1)), hrun, hended, rfl, ⟨_, rfl⟩, hW, hframe⟩
  jvm_step X.here [X.here.top, hx, hb, hdg, hmeth', hr, ret, narrow_b1]
  (try refine ⟨rfl, ?_⟩); (try refine ⟨rfl, ?_⟩)
  first | (intro acts; rw [hret _ acts rfl rfl rfl]) | rw [hret _ _ rfl rfl rfl]
  exact Steps.refl _
/-- what holds at the law's entry: the machine, the code, the tables' words (any of lw_tbl by 'hts w (by decide +kernel)'), the script of L ints xs at the cell b, what the Statement gives of the start (any of its parts by flat_of_before) -/
def lw_At (p : Program) (s : State) (m : MethodId) (meth : Method) (c : Code) (b L : Nat) (xs : Nat → Int32) : Prop :=
  p.tables.exec = Jvm.exec ∧ c.code = code ∧ meth.sig.returnType = ret ∧ c.maxLocals = 4 ∧ s.vm.findClass R_law = some m.cls ∧ (∀ w ∈ lw_tbl, w.before #[Value.ref b] s = true) ∧ va_X b L xs s s.heap ∧ b < s.heap.size ∧ meth.locks = false ∧ (Jvm.Cond.and given_1 narrow_1).before #[Value.ref b] s = true
theorem lw_cond {L k : Nat} (hL : L ≤ 3074) (hk : k ≤ 4000) : ((Int32.ofNat L - 6 < nI k) → L < k + 6) ∧ (¬ (Int32.ofNat L - 6 < nI k) → k + 6 ≤ L) := by
  have h1 : (Int32.ofNat L - 6).toInt = (L : Int) - 6 := by
    rw [Int32.toInt_sub, show (Int32.ofNat L).toInt = (L : Int) from nI_toInt (by omega), show (6 : Int32).toInt = 6 from rfl]
    rw [Int.bmod_eq_of_le (by omega) (by omega)]
  have h2 : (nI k).toInt = (k : Int) := nI_toInt (by omega)
  rw [Int32.lt_iff_toInt_lt, h1, h2]
  omega
theorem lw_in {L k : Nat} (hL : L ≤ 3074) (j : Nat) {x : Int32} (hx : x = nI j) (h : k + j < L) : vp_in (nI k + x) L := by
  subst hx
  rw [nI_add]
  exact vp_in_nI h (by omega)
theorem lw_in0 {L k : Nat} (hL : L ≤ 3074) (h : k < L) : vp_in (nI k) L := vp_in_nI h (by omega)
set_option maxHeartbeats 4000000 in
set_option maxRecDepth 100000 in
theorem lw_loop {p : Program} {e : Env} {s : State} {m : MethodId} {below : List Frame} {meth : Method} {c : Code} (l : Launch) {b L : Nat} {xs : Nat → Int32} {D : va_G} {ad : Nat → Nat} {cI cZ cT : ClassId} (Rl : ST → ST → Prop) (s_hear : ∀ (u v : ST) (x1 : Int32), Rl u v → ∃ q q2, f_PT_hear u x1 = some q ∧ f_Mod_hear v x1 = some q2 ∧ q.1 = q2.1 ∧ Rl q.2 q2.2) (s_quiet : ∀ (u v : ST) (x1 : Int32), Rl u v → ∃ q q2, f_PT_quiet u x1 = some q ∧ f_Mod_quiet v x1 = some q2 ∧ q.1 = q2.1 ∧ Rl q.2 q2.2) (s_sent : ∀ (u v : ST) (x1 : Int32), Rl u v → ∃ q, f_PT_sent u x1 = some q ∧ f_Mod_sent v x1 = some q) (s_ask : ∀ (u v : ST) (x1 x2 x3 x4 x5 : Int32), Rl u v → ∃ q q2, f_PT_ask u x1 x2 x3 x4 x5 = some q ∧ f_Mod_ask v x1 x2 x3 x4 x5 = some q2 ∧ q.1 = q2.1 ∧ Rl q.2 q2.2) (s_replied : ∀ (u v : ST), Rl u v → ∃ q, f_PT_replied u  = some q ∧ f_Mod_replied v  = some q) (s_reply : ∀ (u v : ST) (x1 : Int32), Rl u v → ∃ q, f_PT_reply u x1 = some q ∧ f_Mod_reply v x1 = some q) (s_state : ∀ (u v : ST), Rl u v → ∃ q, f_PT_state u  = some q ∧ f_Mod_state v  = some q) (s_silence : ∀ (u v : ST), Rl u v → ∃ q, f_PT_silence u  = some q ∧ f_Mod_silence v  = some q) (s_set : ∀ (u v : ST) (x1 x2 x3 x4 : Int32) (hz : isz x4), Rl u v → ∃ q q2, f_PT_set u x1 x2 x3 x4 = some q ∧ f_Mod_set v x1 x2 x3 x4 = some q2 ∧ q.1 = q2.1 ∧ Rl q.2 q2.2) (s_present : ∀ (u v : ST) (x1 : Int32), Rl u v → ∃ q, f_PT_present u x1 = some q ∧ f_Mod_present v x1 = some q) (hL : L ≤ 3074) (hC : fx_C p s m #[Value.ref b] meth c code "PassedTokenLaw" 4) (hr : meth.sig.returnType = ret) (hX : va_X b L xs s s.heap) (hbl : b < s.heap.size) (hK : va_K D vC (tyC cI cZ cT) s) : ∀ (n k : Nat) (u v : ST) (ls : Array Slot) (H : Heap) (locs : List Loc), L < k + 6 + 6 * n → k ≤ 3080 → Rl u v → lv_has ls 4 [(3, .int (nI k)), (0, .ref b), (1, .ref (ad 0)), (2, .ref (ad 30))] → fw D (fun q => s.heap.size ≤ q) s.heap (wC ad cI cZ cT v u) H locs → W p l e room_1 s m #[Value.ref b] below meth c H locs 41 1805 (lw_Z below #[Value.ref b] s) (F0 m 38 ls []) := by
  have ⟨hx, hb, hml, hown, hT, hlk⟩ := hC
  have hbA : ¬ s.heap.size ≤ b := Nat.not_le.mpr hbl
  intro n
  induction n with
  | zero =>
    intro k u v ls H locs hn hk hR hl hw
    refine lv_iload_n hx hb d_Law_law_38 rfl (lv_at hl 0 rfl) ?_
    refine lv_aload_n hx hb d_Law_law_39 rfl (lv_at hl 1 rfl) ?_
    refine va_slen hx hb hX hbl hbA hw.2.2 d_Law_law_40 ?_
    refine lv_bipush (v := 6) hx hb d_Law_law_41 (by decide) ?_
    refine lv_isub hx hb d_Law_law_43 ?_
    refine lv_icmp_gt (tgt := 400) hx hb d_Law_law_44 rfl (fun c0 => ?_) (fun c0 => absurd ((lw_cond hL (by omega)).2 c0) (by omega))
    refine lv_iconst (v := 1) hx hb d_Law_law_400 (by decide) ?_
    refine va_forget hw.2.2.2.2 ?_
    refine W.widen (k := 600000) (n := 7302250) (by decide) (by decide) ?_
    exact lw_ret hx hb hr hlk d_Law_law_401
  | succ n ih =>
    intro k u v ls H locs hn hk hR hl hw
    refine lv_iload_n hx hb d_Law_law_38 rfl (lv_at hl 0 rfl) ?_
    refine lv_aload_n hx hb d_Law_law_39 rfl (lv_at hl 1 rfl) ?_
    refine va_slen hx hb hX hbl hbA hw.2.2 d_Law_law_40 ?_
    refine lv_bipush (v := 6) hx hb d_Law_law_41 (by decide) ?_
    refine lv_isub hx hb d_Law_law_43 ?_
    refine lv_icmp_gt (tgt := 400) hx hb d_Law_law_44 rfl (fun c0 => ?_) (fun c0 => ?_)
    · refine lv_iconst (v := 1) hx hb d_Law_law_400 (by decide) ?_
      refine va_forget hw.2.2.2.2 ?_
      refine W.widen (k := 600000) (n := 7302250) (by decide) (by decide) ?_
      exact lw_ret hx hb hr hlk d_Law_law_401
    have hk6 : k + 6 ≤ L := (lw_cond hL (by omega)).2 c0
    have nx : ∀ (u v : ST) (ls : Array Slot) (H : Heap) (locs : List Loc), Rl u v → lv_has ls 4 [(3, .int (nI k)), (0, .ref b), (1, .ref (ad 0)), (2, .ref (ad 30))] → fw D (fun q => s.heap.size ≤ q) s.heap (wC ad cI cZ cT v u) H locs → W p l e room_1 s m #[Value.ref b] below meth c H locs 41 1805 (lw_Z below #[Value.ref b] s) (F0 m 394 ls []) := by
      intro u v ls H locs hR hl hw
      refine lv_iinc (k := 0) (v := nI (k + 6)) (lv' := [(3, .int (nI (k + 6))), (0, .ref b), (1, .ref (ad 0)), (2, .ref (ad 30))]) hx hb d_Law_law_394 hl rfl (nI_add k 6) (by decide) rfl (fun ls hl => ?_)
      refine lv_goto (tgt := 38) hx hb d_Law_law_397 rfl ?_
      exact ih (k + 6) u v ls H locs (by omega) (by omega) hR hl hw
    refine lv_aload_n hx hb d_Law_law_47 rfl (lv_at hl 1 rfl) ?_
    refine lv_iload_n hx hb d_Law_law_48 rfl (lv_at hl 0 rfl) ?_
    refine va_sld hx hb hX hbl hbA hw.2.2 (lw_in0 hL (by omega)) d_Law_law_49 ?_
    refine lv_bipush (v := 15) hx hb d_Law_law_50 (by decide) ?_
    refine lv_iand hx hb d_Law_law_52 ?_
    refine lv_topi (fun g _ => ?_)
    by_cases g0 : g = 0
    · refine lv_tableIn (tgt := 108) hx hb d_Law_law_53 (by rw [g0]; decide) (by rw [g0]; decide) (off := 55) (by rw [g0]; decide) rfl ?_
      refine lv_aload_n hx hb d_Law_law_108 rfl (lv_at hl 2 rfl) ?_
      refine lv_aload_n hx hb d_Law_law_109 rfl (lv_at hl 1 rfl) ?_
      refine lv_iload_n hx hb d_Law_law_110 rfl (lv_at hl 0 rfl) ?_
      refine lv_iconst (v := 1) hx hb d_Law_law_111 (by decide) ?_
      refine lv_iadd hx hb d_Law_law_112 ?_
      refine va_sld hx hb hX hbl hbA hw.2.2 (lw_in hL 1 rfl (by omega)) d_Law_law_113 ?_
      obtain ⟨q, q2, hF, hG, hE, hR2⟩ := s_hear u v (xs (nI k + 1).toNatClampNeg) hR
      refine fx_sVi (K := fun q => some q) (As := [.int (xs (nI k + 1).toNatClampNeg)]) hC hl.1 (fun q hq => c_PT_hear l D ad cI cZ cT v u (xs (nI k + 1).toNatClampNeg) q hq) fy_PT_hear fv_PT_hear kw_189 ⟨Nat.le_of_ble_eq_true rfl, Nat.le_of_ble_eq_true rfl⟩ rfl hK (fun _ h => h) hw at_C_0 rfl rfl rfl (Nat.le_of_ble_eq_true rfl) d_Law_law_114 ⟨Nat.le_of_ble_eq_true rfl, Nat.le_of_ble_eq_true rfl⟩ (by rw [hF]; rfl) (fun H locs q8 h hw => ?_)
      obtain rfl := Option.some.inj h
      refine lv_aload_n hx hb d_Law_law_117 rfl (lv_at hl 3 rfl) ?_
      refine lv_aload_n hx hb d_Law_law_118 rfl (lv_at hl 1 rfl) ?_
      refine lv_iload_n hx hb d_Law_law_119 rfl (lv_at hl 0 rfl) ?_
      refine lv_iconst (v := 1) hx hb d_Law_law_120 (by decide) ?_
      refine lv_iadd hx hb d_Law_law_121 ?_
      refine va_sld hx hb hX hbl hbA hw.2.2 (lw_in hL 1 rfl (by omega)) d_Law_law_122 ?_
      have hw : fw D (fun q => s.heap.size ≤ q) s.heap (wM ad cI cZ cT q8.2 v) H locs := hw
      refine fx_sVi (K := fun q => some q) (As := [.int (xs (nI k + 1).toNatClampNeg)]) hC hl.1 (fun q hq => c_Mod_hear l D ad cI cZ cT q8.2 v (xs (nI k + 1).toNatClampNeg) q hq) fy_Mod_hear fv_Mod_hear kw_601 ⟨Nat.le_of_ble_eq_true rfl, Nat.le_of_ble_eq_true rfl⟩ rfl hK (fun _ h => h) hw at_M_30 rfl rfl rfl (Nat.le_of_ble_eq_true rfl) d_Law_law_123 ⟨Nat.le_of_ble_eq_true rfl, Nat.le_of_ble_eq_true rfl⟩ (by rw [hG]; rfl) (fun H locs q9 h hw => ?_)
      obtain rfl := Option.some.inj h
      refine lv_icmp_eq (tgt := 394) hx hb d_Law_law_126 rfl (fun _ => ?_) (fun c1 => absurd hE c1)
      refine nx _ _ _ _ _ hR2 hl hw
    · by_cases g1 : g = 1
      · refine lv_tableIn (tgt := 131) hx hb d_Law_law_53 (by rw [g1]; decide) (by rw [g1]; decide) (off := 78) (by rw [g1]; decide) rfl ?_
        refine lv_aload_n hx hb d_Law_law_131 rfl (lv_at hl 2 rfl) ?_
        refine lv_aload_n hx hb d_Law_law_132 rfl (lv_at hl 1 rfl) ?_
        refine lv_iload_n hx hb d_Law_law_133 rfl (lv_at hl 0 rfl) ?_
        refine lv_iconst (v := 1) hx hb d_Law_law_134 (by decide) ?_
        refine lv_iadd hx hb d_Law_law_135 ?_
        refine va_sld hx hb hX hbl hbA hw.2.2 (lw_in hL 1 rfl (by omega)) d_Law_law_136 ?_
        obtain ⟨q, q2, hF, hG, hE, hR2⟩ := s_quiet u v (xs (nI k + 1).toNatClampNeg) hR
        refine fx_sVi (K := fun q => some q) (As := [.int (xs (nI k + 1).toNatClampNeg)]) hC hl.1 (fun q hq => c_PT_quiet l D ad cI cZ cT v u (xs (nI k + 1).toNatClampNeg) q hq) fy_PT_quiet fv_PT_quiet kw_453 ⟨Nat.le_of_ble_eq_true rfl, Nat.le_of_ble_eq_true rfl⟩ rfl hK (fun _ h => h) hw at_C_0 rfl rfl rfl (Nat.le_of_ble_eq_true rfl) d_Law_law_137 ⟨Nat.le_of_ble_eq_true rfl, Nat.le_of_ble_eq_true rfl⟩ (by rw [hF]; rfl) (fun H locs q8 h hw => ?_)
        obtain rfl := Option.some.inj h
        refine lv_aload_n hx hb d_Law_law_140 rfl (lv_at hl 3 rfl) ?_
        refine lv_aload_n hx hb d_Law_law_141 rfl (lv_at hl 1 rfl) ?_
        refine lv_iload_n hx hb d_Law_law_142 rfl (lv_at hl 0 rfl) ?_
        refine lv_iconst (v := 1) hx hb d_Law_law_143 (by decide) ?_
        refine lv_iadd hx hb d_Law_law_144 ?_
        refine va_sld hx hb hX hbl hbA hw.2.2 (lw_in hL 1 rfl (by omega)) d_Law_law_145 ?_
        have hw : fw D (fun q => s.heap.size ≤ q) s.heap (wM ad cI cZ cT q8.2 v) H locs := hw
        refine fx_sVi (K := fun q => some q) (As := [.int (xs (nI k + 1).toNatClampNeg)]) hC hl.1 (fun q hq => c_Mod_quiet l D ad cI cZ cT q8.2 v (xs (nI k + 1).toNatClampNeg) q hq) fy_Mod_quiet fv_Mod_quiet kw_740 ⟨Nat.le_of_ble_eq_true rfl, Nat.le_of_ble_eq_true rfl⟩ rfl hK (fun _ h => h) hw at_M_30 rfl rfl rfl (Nat.le_of_ble_eq_true rfl) d_Law_law_146 ⟨Nat.le_of_ble_eq_true rfl, Nat.le_of_ble_eq_true rfl⟩ (by rw [hG]; rfl) (fun H locs q9 h hw => ?_)
        obtain rfl := Option.some.inj h
        refine lv_icmp_eq (tgt := 394) hx hb d_Law_law_149 rfl (fun _ => ?_) (fun c2 => absurd hE c2)
        refine nx _ _ _ _ _ hR2 hl hw
      · by_cases g2 : g = 2
        · refine lv_tableIn (tgt := 154) hx hb d_Law_law_53 (by rw [g2]; decide) (by rw [g2]; decide) (off := 101) (by rw [g2]; decide) rfl ?_
          refine lv_aload_n hx hb d_Law_law_154 rfl (lv_at hl 2 rfl) ?_
          refine lv_aload_n hx hb d_Law_law_155 rfl (lv_at hl 1 rfl) ?_
          refine lv_iload_n hx hb d_Law_law_156 rfl (lv_at hl 0 rfl) ?_
          refine lv_iconst (v := 1) hx hb d_Law_law_157 (by decide) ?_
          refine lv_iadd hx hb d_Law_law_158 ?_
          refine va_sld hx hb hX hbl hbA hw.2.2 (lw_in hL 1 rfl (by omega)) d_Law_law_159 ?_
          obtain ⟨q, hF, hG⟩ := s_sent u v (xs (nI k + 1).toNatClampNeg) hR
          refine fx_sVr (K := fun q => some q) (As := [.int (xs (nI k + 1).toNatClampNeg)]) hC hl.1 (fun q hq => c_PT_sent l D ad cI cZ cT v u (xs (nI k + 1).toNatClampNeg) q hq) fy_PT_sent fv_PT_sent kw_461 ⟨Nat.le_of_ble_eq_true rfl, Nat.le_of_ble_eq_true rfl⟩ rfl hK (fun _ h => h) hw at_C_0 rfl rfl rfl (Nat.le_of_ble_eq_true rfl) d_Law_law_160 ⟨Nat.le_of_ble_eq_true rfl, Nat.le_of_ble_eq_true rfl⟩ (by rw [hF]; rfl) (fun H locs q8 h hw => ?_)
          obtain rfl := Option.some.inj h
          refine lv_aload_n hx hb d_Law_law_163 rfl (lv_at hl 3 rfl) ?_
          refine lv_aload_n hx hb d_Law_law_164 rfl (lv_at hl 1 rfl) ?_
          refine lv_iload_n hx hb d_Law_law_165 rfl (lv_at hl 0 rfl) ?_
          refine lv_iconst (v := 1) hx hb d_Law_law_166 (by decide) ?_
          refine lv_iadd hx hb d_Law_law_167 ?_
          refine va_sld hx hb hX hbl hbA hw.2.2 (lw_in hL 1 rfl (by omega)) d_Law_law_168 ?_
          have hw : fw D (fun q => s.heap.size ≤ q) s.heap (wM ad cI cZ cT u v) H locs := hw
          refine fx_sVr (K := fun q => some q) (As := [.int (xs (nI k + 1).toNatClampNeg)]) hC hl.1 (fun q hq => c_Mod_sent l D ad cI cZ cT u v (xs (nI k + 1).toNatClampNeg) q hq) fy_Mod_sent fv_Mod_sent kw_744 ⟨Nat.le_of_ble_eq_true rfl, Nat.le_of_ble_eq_true rfl⟩ rfl hK (fun _ h => h) hw at_M_30 rfl rfl rfl (Nat.le_of_ble_eq_true rfl) d_Law_law_169 ⟨Nat.le_of_ble_eq_true rfl, Nat.le_of_ble_eq_true rfl⟩ (by rw [hG]; rfl) (fun H locs q9 h hw => ?_)
          obtain rfl := Option.some.inj h
          refine lv_icmp_eq (tgt := 394) hx hb d_Law_law_172 rfl (fun _ => ?_) (fun c3 => absurd rfl c3)
          refine nx _ _ _ _ _ hR hl hw
        · by_cases g3 : g = 3
          · refine lv_tableIn (tgt := 177) hx hb d_Law_law_53 (by rw [g3]; decide) (by rw [g3]; decide) (off := 124) (by rw [g3]; decide) rfl ?_
            refine lv_aload_n hx hb d_Law_law_177 rfl (lv_at hl 2 rfl) ?_
            refine lv_aload_n hx hb d_Law_law_178 rfl (lv_at hl 1 rfl) ?_
            refine lv_iload_n hx hb d_Law_law_179 rfl (lv_at hl 0 rfl) ?_
            refine lv_iconst (v := 1) hx hb d_Law_law_180 (by decide) ?_
            refine lv_iadd hx hb d_Law_law_181 ?_
            refine va_sld hx hb hX hbl hbA hw.2.2 (lw_in hL 1 rfl (by omega)) d_Law_law_182 ?_
            refine lv_aload_n hx hb d_Law_law_183 rfl (lv_at hl 1 rfl) ?_
            refine lv_iload_n hx hb d_Law_law_184 rfl (lv_at hl 0 rfl) ?_
            refine lv_iconst (v := 2) hx hb d_Law_law_185 (by decide) ?_
            refine lv_iadd hx hb d_Law_law_186 ?_
            refine va_sld hx hb hX hbl hbA hw.2.2 (lw_in hL 2 rfl (by omega)) d_Law_law_187 ?_
            refine lv_aload_n hx hb d_Law_law_188 rfl (lv_at hl 1 rfl) ?_
            refine lv_iload_n hx hb d_Law_law_189 rfl (lv_at hl 0 rfl) ?_
            refine lv_iconst (v := 3) hx hb d_Law_law_190 (by decide) ?_
            refine lv_iadd hx hb d_Law_law_191 ?_
            refine va_sld hx hb hX hbl hbA hw.2.2 (lw_in hL 3 rfl (by omega)) d_Law_law_192 ?_
            refine lv_aload_n hx hb d_Law_law_193 rfl (lv_at hl 1 rfl) ?_
            refine lv_iload_n hx hb d_Law_law_194 rfl (lv_at hl 0 rfl) ?_
            refine lv_iconst (v := 4) hx hb d_Law_law_195 (by decide) ?_
            refine lv_iadd hx hb d_Law_law_196 ?_
            refine va_sld hx hb hX hbl hbA hw.2.2 (lw_in hL 4 rfl (by omega)) d_Law_law_197 ?_
            refine lv_aload_n hx hb d_Law_law_198 rfl (lv_at hl 1 rfl) ?_
            refine lv_iload_n hx hb d_Law_law_199 rfl (lv_at hl 0 rfl) ?_
            refine lv_iconst (v := 5) hx hb d_Law_law_200 (by decide) ?_
            refine lv_iadd hx hb d_Law_law_201 ?_
            refine va_sld hx hb hX hbl hbA hw.2.2 (lw_in hL 5 rfl (by omega)) d_Law_law_202 ?_
            obtain ⟨q, q2, hF, hG, hE, hR2⟩ := s_ask u v (xs (nI k + 1).toNatClampNeg) (xs (nI k + 2).toNatClampNeg) (xs (nI k + 3).toNatClampNeg) (xs (nI k + 4).toNatClampNeg) (xs (nI k + 5).toNatClampNeg) hR
            refine fx_sVi (K := fun q => some q) (As := [.int (xs (nI k + 1).toNatClampNeg), .int (xs (nI k + 2).toNatClampNeg), .int (xs (nI k + 3).toNatClampNeg), .int (xs (nI k + 4).toNatClampNeg), .int (xs (nI k + 5).toNatClampNeg)]) hC hl.1 (fun q hq => c_PT_ask l D ad cI cZ cT v u (xs (nI k + 1).toNatClampNeg) (xs (nI k + 2).toNatClampNeg) (xs (nI k + 3).toNatClampNeg) (xs (nI k + 4).toNatClampNeg) (xs (nI k + 5).toNatClampNeg) q hq) fy_PT_ask fv_PT_ask kw_466 ⟨Nat.le_of_ble_eq_true rfl, Nat.le_of_ble_eq_true rfl⟩ rfl hK (fun _ h => h) hw at_C_0 rfl rfl rfl (Nat.le_of_ble_eq_true rfl) d_Law_law_203 ⟨Nat.le_of_ble_eq_true rfl, Nat.le_of_ble_eq_true rfl⟩ (by rw [hF]; rfl) (fun H locs q8 h hw => ?_)
            obtain rfl := Option.some.inj h
            refine lv_aload_n hx hb d_Law_law_206 rfl (lv_at hl 3 rfl) ?_
            refine lv_aload_n hx hb d_Law_law_207 rfl (lv_at hl 1 rfl) ?_
            refine lv_iload_n hx hb d_Law_law_208 rfl (lv_at hl 0 rfl) ?_
            refine lv_iconst (v := 1) hx hb d_Law_law_209 (by decide) ?_
            refine lv_iadd hx hb d_Law_law_210 ?_
            refine va_sld hx hb hX hbl hbA hw.2.2 (lw_in hL 1 rfl (by omega)) d_Law_law_211 ?_
            refine lv_aload_n hx hb d_Law_law_212 rfl (lv_at hl 1 rfl) ?_
            refine lv_iload_n hx hb d_Law_law_213 rfl (lv_at hl 0 rfl) ?_
            refine lv_iconst (v := 2) hx hb d_Law_law_214 (by decide) ?_
            refine lv_iadd hx hb d_Law_law_215 ?_
            refine va_sld hx hb hX hbl hbA hw.2.2 (lw_in hL 2 rfl (by omega)) d_Law_law_216 ?_
            refine lv_aload_n hx hb d_Law_law_217 rfl (lv_at hl 1 rfl) ?_
            refine lv_iload_n hx hb d_Law_law_218 rfl (lv_at hl 0 rfl) ?_
            refine lv_iconst (v := 3) hx hb d_Law_law_219 (by decide) ?_
            refine lv_iadd hx hb d_Law_law_220 ?_
            refine va_sld hx hb hX hbl hbA hw.2.2 (lw_in hL 3 rfl (by omega)) d_Law_law_221 ?_
            refine lv_aload_n hx hb d_Law_law_222 rfl (lv_at hl 1 rfl) ?_
            refine lv_iload_n hx hb d_Law_law_223 rfl (lv_at hl 0 rfl) ?_
            refine lv_iconst (v := 4) hx hb d_Law_law_224 (by decide) ?_
            refine lv_iadd hx hb d_Law_law_225 ?_
            refine va_sld hx hb hX hbl hbA hw.2.2 (lw_in hL 4 rfl (by omega)) d_Law_law_226 ?_
            refine lv_aload_n hx hb d_Law_law_227 rfl (lv_at hl 1 rfl) ?_
            refine lv_iload_n hx hb d_Law_law_228 rfl (lv_at hl 0 rfl) ?_
            refine lv_iconst (v := 5) hx hb d_Law_law_229 (by decide) ?_
            refine lv_iadd hx hb d_Law_law_230 ?_
            refine va_sld hx hb hX hbl hbA hw.2.2 (lw_in hL 5 rfl (by omega)) d_Law_law_231 ?_
            have hw : fw D (fun q => s.heap.size ≤ q) s.heap (wM ad cI cZ cT q8.2 v) H locs := hw
            refine fx_sVi (K := fun q => some q) (As := [.int (xs (nI k + 1).toNatClampNeg), .int (xs (nI k + 2).toNatClampNeg), .int (xs (nI k + 3).toNatClampNeg), .int (xs (nI k + 4).toNatClampNeg), .int (xs (nI k + 5).toNatClampNeg)]) hC hl.1 (fun q hq => c_Mod_ask l D ad cI cZ cT q8.2 v (xs (nI k + 1).toNatClampNeg) (xs (nI k + 2).toNatClampNeg) (xs (nI k + 3).toNatClampNeg) (xs (nI k + 4).toNatClampNeg) (xs (nI k + 5).toNatClampNeg) q hq) fy_Mod_ask fv_Mod_ask kw_748 ⟨Nat.le_of_ble_eq_true rfl, Nat.le_of_ble_eq_true rfl⟩ rfl hK (fun _ h => h) hw at_M_30 rfl rfl rfl (Nat.le_of_ble_eq_true rfl) d_Law_law_232 ⟨Nat.le_of_ble_eq_true rfl, Nat.le_of_ble_eq_true rfl⟩ (by rw [hG]; rfl) (fun H locs q9 h hw => ?_)
            obtain rfl := Option.some.inj h
            refine lv_icmp_eq (tgt := 394) hx hb d_Law_law_235 rfl (fun _ => ?_) (fun c4 => absurd hE c4)
            refine nx _ _ _ _ _ hR2 hl hw
          · by_cases g4 : g = 4
            · refine lv_tableIn (tgt := 240) hx hb d_Law_law_53 (by rw [g4]; decide) (by rw [g4]; decide) (off := 187) (by rw [g4]; decide) rfl ?_
              refine lv_aload_n hx hb d_Law_law_240 rfl (lv_at hl 2 rfl) ?_
              obtain ⟨q, hF, hG⟩ := s_replied u v  hR
              refine fx_sVr (K := fun q => some q) (As := []) hC hl.1 (fun q hq => c_PT_replied l D ad cI cZ cT v u  q hq) fy_PT_replied fv_PT_replied kw_473 ⟨Nat.le_of_ble_eq_true rfl, Nat.le_of_ble_eq_true rfl⟩ rfl hK (fun _ h => h) hw at_C_0 rfl rfl rfl (Nat.le_of_ble_eq_true rfl) d_Law_law_241 ⟨Nat.le_of_ble_eq_true rfl, Nat.le_of_ble_eq_true rfl⟩ (by rw [hF]; rfl) (fun H locs q8 h hw => ?_)
              obtain rfl := Option.some.inj h
              refine lv_aload_n hx hb d_Law_law_244 rfl (lv_at hl 3 rfl) ?_
              have hw : fw D (fun q => s.heap.size ≤ q) s.heap (wM ad cI cZ cT u v) H locs := hw
              refine fx_sVr (K := fun q => some q) (As := []) hC hl.1 (fun q hq => c_Mod_replied l D ad cI cZ cT u v  q hq) fy_Mod_replied fv_Mod_replied kw_752 ⟨Nat.le_of_ble_eq_true rfl, Nat.le_of_ble_eq_true rfl⟩ rfl hK (fun _ h => h) hw at_M_30 rfl rfl rfl (Nat.le_of_ble_eq_true rfl) d_Law_law_245 ⟨Nat.le_of_ble_eq_true rfl, Nat.le_of_ble_eq_true rfl⟩ (by rw [hG]; rfl) (fun H locs q9 h hw => ?_)
              obtain rfl := Option.some.inj h
              refine lv_icmp_eq (tgt := 394) hx hb d_Law_law_248 rfl (fun _ => ?_) (fun c5 => absurd rfl c5)
              refine nx _ _ _ _ _ hR hl hw
            · by_cases g5 : g = 5
              · refine lv_tableIn (tgt := 253) hx hb d_Law_law_53 (by rw [g5]; decide) (by rw [g5]; decide) (off := 200) (by rw [g5]; decide) rfl ?_
                refine lv_aload_n hx hb d_Law_law_253 rfl (lv_at hl 2 rfl) ?_
                refine lv_aload_n hx hb d_Law_law_254 rfl (lv_at hl 1 rfl) ?_
                refine lv_iload_n hx hb d_Law_law_255 rfl (lv_at hl 0 rfl) ?_
                refine lv_iconst (v := 1) hx hb d_Law_law_256 (by decide) ?_
                refine lv_iadd hx hb d_Law_law_257 ?_
                refine va_sld hx hb hX hbl hbA hw.2.2 (lw_in hL 1 rfl (by omega)) d_Law_law_258 ?_
                obtain ⟨q, hF, hG⟩ := s_reply u v (xs (nI k + 1).toNatClampNeg) hR
                refine fx_sVr (K := fun q => some q) (As := [.int (xs (nI k + 1).toNatClampNeg)]) hC hl.1 (fun q hq => c_PT_reply l D ad cI cZ cT v u (xs (nI k + 1).toNatClampNeg) q hq) fy_PT_reply fv_PT_reply kw_477 ⟨Nat.le_of_ble_eq_true rfl, Nat.le_of_ble_eq_true rfl⟩ rfl hK (fun _ h => h) hw at_C_0 rfl rfl rfl (Nat.le_of_ble_eq_true rfl) d_Law_law_259 ⟨Nat.le_of_ble_eq_true rfl, Nat.le_of_ble_eq_true rfl⟩ (by rw [hF]; rfl) (fun H locs q8 h hw => ?_)
                obtain rfl := Option.some.inj h
                refine lv_aload_n hx hb d_Law_law_262 rfl (lv_at hl 3 rfl) ?_
                refine lv_aload_n hx hb d_Law_law_263 rfl (lv_at hl 1 rfl) ?_
                refine lv_iload_n hx hb d_Law_law_264 rfl (lv_at hl 0 rfl) ?_
                refine lv_iconst (v := 1) hx hb d_Law_law_265 (by decide) ?_
                refine lv_iadd hx hb d_Law_law_266 ?_
                refine va_sld hx hb hX hbl hbA hw.2.2 (lw_in hL 1 rfl (by omega)) d_Law_law_267 ?_
                have hw : fw D (fun q => s.heap.size ≤ q) s.heap (wM ad cI cZ cT u v) H locs := hw
                refine fx_sVr (K := fun q => some q) (As := [.int (xs (nI k + 1).toNatClampNeg)]) hC hl.1 (fun q hq => c_Mod_reply l D ad cI cZ cT u v (xs (nI k + 1).toNatClampNeg) q hq) fy_Mod_reply fv_Mod_reply kw_756 ⟨Nat.le_of_ble_eq_true rfl, Nat.le_of_ble_eq_true rfl⟩ rfl hK (fun _ h => h) hw at_M_30 rfl rfl rfl (Nat.le_of_ble_eq_true rfl) d_Law_law_268 ⟨Nat.le_of_ble_eq_true rfl, Nat.le_of_ble_eq_true rfl⟩ (by rw [hG]; rfl) (fun H locs q9 h hw => ?_)
                obtain rfl := Option.some.inj h
                refine lv_icmp_eq (tgt := 394) hx hb d_Law_law_271 rfl (fun _ => ?_) (fun c6 => absurd rfl c6)
                refine nx _ _ _ _ _ hR hl hw
              · by_cases g6 : g = 6
                · refine lv_tableIn (tgt := 276) hx hb d_Law_law_53 (by rw [g6]; decide) (by rw [g6]; decide) (off := 223) (by rw [g6]; decide) rfl ?_
                  refine lv_aload_n hx hb d_Law_law_276 rfl (lv_at hl 2 rfl) ?_
                  obtain ⟨q, hF, hG⟩ := s_state u v  hR
                  refine fx_sVr (K := fun q => some q) (As := []) hC hl.1 (fun q hq => c_PT_state l D ad cI cZ cT v u  q hq) fy_PT_state fv_PT_state kw_481 ⟨Nat.le_of_ble_eq_true rfl, Nat.le_of_ble_eq_true rfl⟩ rfl hK (fun _ h => h) hw at_C_0 rfl rfl rfl (Nat.le_of_ble_eq_true rfl) d_Law_law_277 ⟨Nat.le_of_ble_eq_true rfl, Nat.le_of_ble_eq_true rfl⟩ (by rw [hF]; rfl) (fun H locs q8 h hw => ?_)
                  obtain rfl := Option.some.inj h
                  refine lv_aload_n hx hb d_Law_law_280 rfl (lv_at hl 3 rfl) ?_
                  have hw : fw D (fun q => s.heap.size ≤ q) s.heap (wM ad cI cZ cT u v) H locs := hw
                  refine fx_sVr (K := fun q => some q) (As := []) hC hl.1 (fun q hq => c_Mod_state l D ad cI cZ cT u v  q hq) fy_Mod_state fv_Mod_state kw_760 ⟨Nat.le_of_ble_eq_true rfl, Nat.le_of_ble_eq_true rfl⟩ rfl hK (fun _ h => h) hw at_M_30 rfl rfl rfl (Nat.le_of_ble_eq_true rfl) d_Law_law_281 ⟨Nat.le_of_ble_eq_true rfl, Nat.le_of_ble_eq_true rfl⟩ (by rw [hG]; rfl) (fun H locs q9 h hw => ?_)
                  obtain rfl := Option.some.inj h
                  refine lv_icmp_eq (tgt := 394) hx hb d_Law_law_284 rfl (fun _ => ?_) (fun c7 => absurd rfl c7)
                  refine nx _ _ _ _ _ hR hl hw
                · by_cases g7 : g = 7
                  · refine lv_tableIn (tgt := 289) hx hb d_Law_law_53 (by rw [g7]; decide) (by rw [g7]; decide) (off := 236) (by rw [g7]; decide) rfl ?_
                    refine lv_aload_n hx hb d_Law_law_289 rfl (lv_at hl 2 rfl) ?_
                    obtain ⟨q, hF, hG⟩ := s_silence u v  hR
                    refine fx_sVr (K := fun q => some q) (As := []) hC hl.1 (fun q hq => c_PT_silence l D ad cI cZ cT v u  q hq) fy_PT_silence fv_PT_silence kw_485 ⟨Nat.le_of_ble_eq_true rfl, Nat.le_of_ble_eq_true rfl⟩ rfl hK (fun _ h => h) hw at_C_0 rfl rfl rfl (Nat.le_of_ble_eq_true rfl) d_Law_law_290 ⟨Nat.le_of_ble_eq_true rfl, Nat.le_of_ble_eq_true rfl⟩ (by rw [hF]; rfl) (fun H locs q8 h hw => ?_)
                    obtain rfl := Option.some.inj h
                    refine lv_aload_n hx hb d_Law_law_293 rfl (lv_at hl 3 rfl) ?_
                    have hw : fw D (fun q => s.heap.size ≤ q) s.heap (wM ad cI cZ cT u v) H locs := hw
                    refine fx_sVr (K := fun q => some q) (As := []) hC hl.1 (fun q hq => c_Mod_silence l D ad cI cZ cT u v  q hq) fy_Mod_silence fv_Mod_silence kw_764 ⟨Nat.le_of_ble_eq_true rfl, Nat.le_of_ble_eq_true rfl⟩ rfl hK (fun _ h => h) hw at_M_30 rfl rfl rfl (Nat.le_of_ble_eq_true rfl) d_Law_law_294 ⟨Nat.le_of_ble_eq_true rfl, Nat.le_of_ble_eq_true rfl⟩ (by rw [hG]; rfl) (fun H locs q9 h hw => ?_)
                    obtain rfl := Option.some.inj h
                    refine lv_icmp_eq (tgt := 394) hx hb d_Law_law_297 rfl (fun _ => ?_) (fun c8 => absurd rfl c8)
                    refine nx _ _ _ _ _ hR hl hw
                  · by_cases g8 : g = 8
                    · refine lv_tableIn (tgt := 302) hx hb d_Law_law_53 (by rw [g8]; decide) (by rw [g8]; decide) (off := 249) (by rw [g8]; decide) rfl ?_
                      refine lv_aload_n hx hb d_Law_law_302 rfl (lv_at hl 2 rfl) ?_
                      refine lv_aload_n hx hb d_Law_law_303 rfl (lv_at hl 1 rfl) ?_
                      refine lv_iload_n hx hb d_Law_law_304 rfl (lv_at hl 0 rfl) ?_
                      refine lv_iconst (v := 1) hx hb d_Law_law_305 (by decide) ?_
                      refine lv_iadd hx hb d_Law_law_306 ?_
                      refine va_sld hx hb hX hbl hbA hw.2.2 (lw_in hL 1 rfl (by omega)) d_Law_law_307 ?_
                      refine lv_aload_n hx hb d_Law_law_308 rfl (lv_at hl 1 rfl) ?_
                      refine lv_iload_n hx hb d_Law_law_309 rfl (lv_at hl 0 rfl) ?_
                      refine lv_iconst (v := 2) hx hb d_Law_law_310 (by decide) ?_
                      refine lv_iadd hx hb d_Law_law_311 ?_
                      refine va_sld hx hb hX hbl hbA hw.2.2 (lw_in hL 2 rfl (by omega)) d_Law_law_312 ?_
                      refine lv_aload_n hx hb d_Law_law_313 rfl (lv_at hl 1 rfl) ?_
                      refine lv_iload_n hx hb d_Law_law_314 rfl (lv_at hl 0 rfl) ?_
                      refine lv_iconst (v := 3) hx hb d_Law_law_315 (by decide) ?_
                      refine lv_iadd hx hb d_Law_law_316 ?_
                      refine va_sld hx hb hX hbl hbA hw.2.2 (lw_in hL 3 rfl (by omega)) d_Law_law_317 ?_
                      refine lv_aload_n hx hb d_Law_law_318 rfl (lv_at hl 1 rfl) ?_
                      refine lv_iload_n hx hb d_Law_law_319 rfl (lv_at hl 0 rfl) ?_
                      refine lv_iconst (v := 4) hx hb d_Law_law_320 (by decide) ?_
                      refine lv_iadd hx hb d_Law_law_321 ?_
                      refine va_sld hx hb hX hbl hbA hw.2.2 (lw_in hL 4 rfl (by omega)) d_Law_law_322 ?_
                      refine lv_if_eq (tgt := 330) hx hb d_Law_law_323 rfl (fun c9 => ?_) (fun c9 => ?_)
                      · have z4 : isz (0 : Int32) := Or.inl rfl
                        refine lv_iconst (v := 0) hx hb d_Law_law_330 (by decide) ?_
                        obtain ⟨q, q2, hF, hG, hE, hR2⟩ := s_set u v (xs (nI k + 1).toNatClampNeg) (xs (nI k + 2).toNatClampNeg) (xs (nI k + 3).toNatClampNeg) 0 z4 hR
                        refine fx_sVi (K := fun q => some q) (As := [.int (xs (nI k + 1).toNatClampNeg), .int (xs (nI k + 2).toNatClampNeg), .int (xs (nI k + 3).toNatClampNeg), .int 0]) hC hl.1 (fun q hq => c_PT_set l D ad cI cZ cT v u (xs (nI k + 1).toNatClampNeg) (xs (nI k + 2).toNatClampNeg) (xs (nI k + 3).toNatClampNeg) 0 q hq) fy_PT_set fv_PT_set kw_489 ⟨Nat.le_of_ble_eq_true rfl, Nat.le_of_ble_eq_true rfl⟩ rfl hK (fun _ h => h) hw at_C_0 rfl rfl rfl (Nat.le_of_ble_eq_true rfl) d_Law_law_331 ⟨Nat.le_of_ble_eq_true rfl, Nat.le_of_ble_eq_true rfl⟩ (by rw [hF]; rfl) (fun H locs q8 h hw => ?_)
                        obtain rfl := Option.some.inj h
                        refine lv_aload_n hx hb d_Law_law_334 rfl (lv_at hl 3 rfl) ?_
                        refine lv_aload_n hx hb d_Law_law_335 rfl (lv_at hl 1 rfl) ?_
                        refine lv_iload_n hx hb d_Law_law_336 rfl (lv_at hl 0 rfl) ?_
                        refine lv_iconst (v := 1) hx hb d_Law_law_337 (by decide) ?_
                        refine lv_iadd hx hb d_Law_law_338 ?_
                        refine va_sld hx hb hX hbl hbA hw.2.2 (lw_in hL 1 rfl (by omega)) d_Law_law_339 ?_
                        refine lv_aload_n hx hb d_Law_law_340 rfl (lv_at hl 1 rfl) ?_
                        refine lv_iload_n hx hb d_Law_law_341 rfl (lv_at hl 0 rfl) ?_
                        refine lv_iconst (v := 2) hx hb d_Law_law_342 (by decide) ?_
                        refine lv_iadd hx hb d_Law_law_343 ?_
                        refine va_sld hx hb hX hbl hbA hw.2.2 (lw_in hL 2 rfl (by omega)) d_Law_law_344 ?_
                        refine lv_aload_n hx hb d_Law_law_345 rfl (lv_at hl 1 rfl) ?_
                        refine lv_iload_n hx hb d_Law_law_346 rfl (lv_at hl 0 rfl) ?_
                        refine lv_iconst (v := 3) hx hb d_Law_law_347 (by decide) ?_
                        refine lv_iadd hx hb d_Law_law_348 ?_
                        refine va_sld hx hb hX hbl hbA hw.2.2 (lw_in hL 3 rfl (by omega)) d_Law_law_349 ?_
                        refine lv_aload_n hx hb d_Law_law_350 rfl (lv_at hl 1 rfl) ?_
                        refine lv_iload_n hx hb d_Law_law_351 rfl (lv_at hl 0 rfl) ?_
                        refine lv_iconst (v := 4) hx hb d_Law_law_352 (by decide) ?_
                        refine lv_iadd hx hb d_Law_law_353 ?_
                        refine va_sld hx hb hX hbl hbA hw.2.2 (lw_in hL 4 rfl (by omega)) d_Law_law_354 ?_
                        refine lv_if_eq (tgt := 362) hx hb d_Law_law_355 rfl (fun _ => ?_) (fun c10 => absurd c9 c10)
                        refine lv_iconst (v := 0) hx hb d_Law_law_362 (by decide) ?_
                        have hw : fw D (fun q => s.heap.size ≤ q) s.heap (wM ad cI cZ cT q8.2 v) H locs := hw
                        refine fx_sVi (K := fun q => some q) (As := [.int (xs (nI k + 1).toNatClampNeg), .int (xs (nI k + 2).toNatClampNeg), .int (xs (nI k + 3).toNatClampNeg), .int 0]) hC hl.1 (fun q hq => c_Mod_set l D ad cI cZ cT q8.2 v (xs (nI k + 1).toNatClampNeg) (xs (nI k + 2).toNatClampNeg) (xs (nI k + 3).toNatClampNeg) 0 q hq) fy_Mod_set fv_Mod_set kw_768 ⟨Nat.le_of_ble_eq_true rfl, Nat.le_of_ble_eq_true rfl⟩ rfl hK (fun _ h => h) hw at_M_30 rfl rfl rfl (Nat.le_of_ble_eq_true rfl) d_Law_law_363 ⟨Nat.le_of_ble_eq_true rfl, Nat.le_of_ble_eq_true rfl⟩ (by rw [hG]; rfl) (fun H locs q9 h hw => ?_)
                        obtain rfl := Option.some.inj h
                        refine lv_icmp_eq (tgt := 394) hx hb d_Law_law_366 rfl (fun _ => ?_) (fun c11 => absurd hE c11)
                        refine nx _ _ _ _ _ hR2 hl hw
                      · have z4 : isz (1 : Int32) := Or.inr rfl
                        refine lv_iconst (v := 1) hx hb d_Law_law_326 (by decide) ?_
                        refine lv_goto (tgt := 331) hx hb d_Law_law_327 rfl ?_
                        obtain ⟨q, q2, hF, hG, hE, hR2⟩ := s_set u v (xs (nI k + 1).toNatClampNeg) (xs (nI k + 2).toNatClampNeg) (xs (nI k + 3).toNatClampNeg) 1 z4 hR
                        refine fx_sVi (K := fun q => some q) (As := [.int (xs (nI k + 1).toNatClampNeg), .int (xs (nI k + 2).toNatClampNeg), .int (xs (nI k + 3).toNatClampNeg), .int 1]) hC hl.1 (fun q hq => c_PT_set l D ad cI cZ cT v u (xs (nI k + 1).toNatClampNeg) (xs (nI k + 2).toNatClampNeg) (xs (nI k + 3).toNatClampNeg) 1 q hq) fy_PT_set fv_PT_set kw_489 ⟨Nat.le_of_ble_eq_true rfl, Nat.le_of_ble_eq_true rfl⟩ rfl hK (fun _ h => h) hw at_C_0 rfl rfl rfl (Nat.le_of_ble_eq_true rfl) d_Law_law_331 ⟨Nat.le_of_ble_eq_true rfl, Nat.le_of_ble_eq_true rfl⟩ (by rw [hF]; rfl) (fun H locs q8 h hw => ?_)
                        obtain rfl := Option.some.inj h
                        refine lv_aload_n hx hb d_Law_law_334 rfl (lv_at hl 3 rfl) ?_
                        refine lv_aload_n hx hb d_Law_law_335 rfl (lv_at hl 1 rfl) ?_
                        refine lv_iload_n hx hb d_Law_law_336 rfl (lv_at hl 0 rfl) ?_
                        refine lv_iconst (v := 1) hx hb d_Law_law_337 (by decide) ?_
                        refine lv_iadd hx hb d_Law_law_338 ?_
                        refine va_sld hx hb hX hbl hbA hw.2.2 (lw_in hL 1 rfl (by omega)) d_Law_law_339 ?_
                        refine lv_aload_n hx hb d_Law_law_340 rfl (lv_at hl 1 rfl) ?_
                        refine lv_iload_n hx hb d_Law_law_341 rfl (lv_at hl 0 rfl) ?_
                        refine lv_iconst (v := 2) hx hb d_Law_law_342 (by decide) ?_
                        refine lv_iadd hx hb d_Law_law_343 ?_
                        refine va_sld hx hb hX hbl hbA hw.2.2 (lw_in hL 2 rfl (by omega)) d_Law_law_344 ?_
                        refine lv_aload_n hx hb d_Law_law_345 rfl (lv_at hl 1 rfl) ?_
                        refine lv_iload_n hx hb d_Law_law_346 rfl (lv_at hl 0 rfl) ?_
                        refine lv_iconst (v := 3) hx hb d_Law_law_347 (by decide) ?_
                        refine lv_iadd hx hb d_Law_law_348 ?_
                        refine va_sld hx hb hX hbl hbA hw.2.2 (lw_in hL 3 rfl (by omega)) d_Law_law_349 ?_
                        refine lv_aload_n hx hb d_Law_law_350 rfl (lv_at hl 1 rfl) ?_
                        refine lv_iload_n hx hb d_Law_law_351 rfl (lv_at hl 0 rfl) ?_
                        refine lv_iconst (v := 4) hx hb d_Law_law_352 (by decide) ?_
                        refine lv_iadd hx hb d_Law_law_353 ?_
                        refine va_sld hx hb hX hbl hbA hw.2.2 (lw_in hL 4 rfl (by omega)) d_Law_law_354 ?_
                        refine lv_if_eq (tgt := 362) hx hb d_Law_law_355 rfl (fun c12 => absurd c12 c9) (fun _ => ?_)
                        refine lv_iconst (v := 1) hx hb d_Law_law_358 (by decide) ?_
                        refine lv_goto (tgt := 363) hx hb d_Law_law_359 rfl ?_
                        have hw : fw D (fun q => s.heap.size ≤ q) s.heap (wM ad cI cZ cT q8.2 v) H locs := hw
                        refine fx_sVi (K := fun q => some q) (As := [.int (xs (nI k + 1).toNatClampNeg), .int (xs (nI k + 2).toNatClampNeg), .int (xs (nI k + 3).toNatClampNeg), .int 1]) hC hl.1 (fun q hq => c_Mod_set l D ad cI cZ cT q8.2 v (xs (nI k + 1).toNatClampNeg) (xs (nI k + 2).toNatClampNeg) (xs (nI k + 3).toNatClampNeg) 1 q hq) fy_Mod_set fv_Mod_set kw_768 ⟨Nat.le_of_ble_eq_true rfl, Nat.le_of_ble_eq_true rfl⟩ rfl hK (fun _ h => h) hw at_M_30 rfl rfl rfl (Nat.le_of_ble_eq_true rfl) d_Law_law_363 ⟨Nat.le_of_ble_eq_true rfl, Nat.le_of_ble_eq_true rfl⟩ (by rw [hG]; rfl) (fun H locs q9 h hw => ?_)
                        obtain rfl := Option.some.inj h
                        refine lv_icmp_eq (tgt := 394) hx hb d_Law_law_366 rfl (fun _ => ?_) (fun c13 => absurd hE c13)
                        refine nx _ _ _ _ _ hR2 hl hw
                    · by_cases g9 : g = 9
                      · refine lv_tableIn (tgt := 371) hx hb d_Law_law_53 (by rw [g9]; decide) (by rw [g9]; decide) (off := 318) (by rw [g9]; decide) rfl ?_
                        refine lv_aload_n hx hb d_Law_law_371 rfl (lv_at hl 2 rfl) ?_
                        refine lv_aload_n hx hb d_Law_law_372 rfl (lv_at hl 1 rfl) ?_
                        refine lv_iload_n hx hb d_Law_law_373 rfl (lv_at hl 0 rfl) ?_
                        refine lv_iconst (v := 1) hx hb d_Law_law_374 (by decide) ?_
                        refine lv_iadd hx hb d_Law_law_375 ?_
                        refine va_sld hx hb hX hbl hbA hw.2.2 (lw_in hL 1 rfl (by omega)) d_Law_law_376 ?_
                        obtain ⟨q, hF, hG⟩ := s_present u v (xs (nI k + 1).toNatClampNeg) hR
                        refine fx_sVr (K := fun q => some q) (As := [.int (xs (nI k + 1).toNatClampNeg)]) hC hl.1 (fun q hq => c_PT_present l D ad cI cZ cT v u (xs (nI k + 1).toNatClampNeg) q hq) fy_PT_present fv_PT_present kw_499 ⟨Nat.le_of_ble_eq_true rfl, Nat.le_of_ble_eq_true rfl⟩ rfl hK (fun _ h => h) hw at_C_0 rfl rfl rfl (Nat.le_of_ble_eq_true rfl) d_Law_law_377 ⟨Nat.le_of_ble_eq_true rfl, Nat.le_of_ble_eq_true rfl⟩ (by rw [hF]; rfl) (fun H locs q8 h hw => ?_)
                        obtain rfl := Option.some.inj h
                        refine lv_aload_n hx hb d_Law_law_380 rfl (lv_at hl 3 rfl) ?_
                        refine lv_aload_n hx hb d_Law_law_381 rfl (lv_at hl 1 rfl) ?_
                        refine lv_iload_n hx hb d_Law_law_382 rfl (lv_at hl 0 rfl) ?_
                        refine lv_iconst (v := 1) hx hb d_Law_law_383 (by decide) ?_
                        refine lv_iadd hx hb d_Law_law_384 ?_
                        refine va_sld hx hb hX hbl hbA hw.2.2 (lw_in hL 1 rfl (by omega)) d_Law_law_385 ?_
                        have hw : fw D (fun q => s.heap.size ≤ q) s.heap (wM ad cI cZ cT u v) H locs := hw
                        refine fx_sVr (K := fun q => some q) (As := [.int (xs (nI k + 1).toNatClampNeg)]) hC hl.1 (fun q hq => c_Mod_present l D ad cI cZ cT u v (xs (nI k + 1).toNatClampNeg) q hq) fy_Mod_present fv_Mod_present kw_772 ⟨Nat.le_of_ble_eq_true rfl, Nat.le_of_ble_eq_true rfl⟩ rfl hK (fun _ h => h) hw at_M_30 rfl rfl rfl (Nat.le_of_ble_eq_true rfl) d_Law_law_386 ⟨Nat.le_of_ble_eq_true rfl, Nat.le_of_ble_eq_true rfl⟩ (by rw [hG]; rfl) (fun H locs q9 h hw => ?_)
                        obtain rfl := Option.some.inj h
                        refine lv_icmp_eq (tgt := 394) hx hb d_Law_law_389 rfl (fun _ => ?_) (fun c14 => absurd rfl c14)
                        refine nx _ _ _ _ _ hR hl hw
                      · refine lv_tableOut (tgt := 394) hx hb d_Law_law_53 (sw_out9 g0 g1 g2 g3 g4 g5 g6 g7 g8 g9) rfl ?_
                        exact nx u v ls H locs hR hl hw
