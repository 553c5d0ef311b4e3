/-! constructors: a contract that makes cells; rows for new cells over fw -/
def fx_N (D : va_G) (tys : List (ClassId × FieldType)) (w1 : (Nat → Nat) → va_W) (A : Nat → Prop) : Array Value → State → Outcome → State → Prop := fun _ st oc t =>
  (oc = .returned none ∧ ∃ ad : Nat → Nat, va_P D vC (w1 ad) t.heap ∧ va_K D vC tys t ∧ va_D A (w1 ad)) ∧ va_F A st t
def fx_PN (D : va_G) (tys : List (ClassId × FieldType)) (w0 : va_W) (sz : Nat) (av : List Value) : Array Value → State → Prop :=
  va_Pc av (fun U => U.heap.size = sz ∧ va_P D vC w0 U.heap ∧ va_K D vC tys U ∧ va_D (fun _ => True) w0 ∧ va_AO "PassedToken$Thing" U)
theorem fx_blindN {D : va_G} {tys : List (ClassId × FieldType)} {w0 : va_W} {sz : Nat} {av : List Value} : FrameBlind (fx_PN D tys w0 sz av) := fun a U g mk q => by
  obtain ⟨q0, q1, qP, qK, qD, qO⟩ := q
  exact ⟨q0, q1, qP, va_K.moved (u := U) (U := U.calling g mk a) (Vm.Alike.refl U.vm) qK, qD, va_AO.moved (u := U) (U := U.calling g mk a) (Vm.Alike.refl U.vm) qO⟩
def MN (l : Launch) (D : va_G) (tys : List (ClassId × FieldType)) (y : MethodName) (cd : Cond) (fr lo mc ms : Nat) (av : List Value) (w0 : va_W) (w1 : (Nat → Nat) → va_W) : Prop :=
  ∀ sz : Nat, Met l y (cd :: gA) { frames := fr, cells := mc, slots := ms, locals := lo } (fx_PN D tys w0 sz av) (fx_N D tys w1 (va_A w0 sz)) mc ms (va_A w0 sz)
theorem MN.start {l : Launch} {D : va_G} {tys : List (ClassId × FieldType)} {y : MethodName} {cc : ByteArray} {nL : Nat} {fr lo mc ms : Nat} {av : List Value} {w0 : va_W} {w1 : (Nat → Nat) → va_W}
    (hy : plainName y.cls = true) (hn : (lg_sl av).length ≤ nL)
    (body : ∀ (p : Program) (e : Env) (s : State) (m : MethodId) (below : List Frame) (meth : Method) (c : Code) (ls : Array Slot) (A : Nat → Prop), fx_C p s m av.toArray meth c cc y.cls nL → meth.sig.returnType = none → meth.name = y.name → lv_has ls nL (lv_args 0 av) → va_K D vC tys s → va_AO "PassedToken$Thing" s → (∀ q, s.heap.size ≤ q → A q) → fw D A s.heap w0 s.heap [] →
      W p l e { frames := fr, cells := mc, slots := ms, locals := lo } s m av.toArray below meth c s.heap [] 0 0 (MQ below (fx_N D tys w1 A) av.toArray s mc ms A) (F0 m 0 ls [])) : MN l D tys y (.code y cc nL none) fr lo mc ms av w0 w1 := by
  intro sz
  refine Met.ofW (cc := cc) (maxL := nL) (ret := none) hy rfl ?_
  intro p e s m args below meth c s₁ B hml hv
  obtain ⟨rfl, hsz, hP, hK, hD0, hO⟩ := hv
  subst hsz
  have hts := atoms_spec (ws := .code y cc nL none :: gA) B.pre
  have hown : s.vm.findClass y.cls = some m.cls := findClass_of_methodNamed B.named
  have hl := lv_entry av (n := nL) hn
  rw [lg_entry_eq]
  exact body p e s m below meth c _ _ ⟨B.exec, B.bytes, hml, hown, fun w h => hts w (List.mem_cons_of_mem _ h), B.notSynchronized⟩ B.returns (name_of_methodNamed B.named B.method).1 hl hK hO (fun q h => Or.inr h) ⟨hP, hD0.self, va_S.rf⟩
theorem fx_sub {D : va_G} {A : Nat → Prop} {H0 H : Heap} {ws w : va_W} {locs : List Loc} (hw : fw D A H0 ws H locs) (pm : List Nat) (h1 : pm.map (fun i => ws[i]?) = w.map some) (h2 : va_nd pm = true) : fw D A H0 w H locs :=
  ⟨fun k q hq => by
    obtain ⟨i, -, h⟩ := fx_at h1 k q hq
    exact hw.1 i q h, hw.2.1.sub pm h2 h1, hw.2.2⟩
section FN
variable {p : Program} {l : Launch} {e : Env} {R : Room} {s : State} {m : MethodId} {args : Array Value} {below : List Frame} {meth : Method} {c : Code} {H : Heap} {locs : List Loc} {cells slots : Nat} {Q : State → Prop}
variable {cc : ByteArray} {pc : Nat} {ls : Array Slot} {rest st0 : List Value} {D : va_G} {tys : List (ClassId × FieldType)} {A : Nat → Prop} {H0 : Heap} {ws : va_W} {own : String} {nL : Nat} {cI cZ cT : ClassId}
theorem fx_nret {w1 : (Nat → Nat) → va_W} (ad : Nat → Nat) (hC : fx_C p s m args meth c cc own nL) (hr : meth.sig.returnType = none) (hK : va_K D vC tys s) (hw : fw D A s.heap (w1 ad) H locs) (hdg : decode cc pc = .ok (.return_, 1)) :
    W p l e R s m args below meth c H locs cells slots (MQ below (fx_N D tys w1 A) args s cells slots A) (F0 m pc ls []) := by
  obtain ⟨hP, hD, hS⟩ := hw
  have hlk := hC.2.2.2.2.2
  exact W.vret hC.1 hC.2.1 hr (fun t ht hW => ⟨⟨rfl, ad, by rw [ht]; exact hP, va_K.moved hW.alike hK, hD⟩, hS.F ht⟩) hS.2.2 hdg
/-- a new object -/
theorem fx_new {C : String} {T : u_T} {N ci index : Nat} {fs : List Value} (ty : Nat → FieldType) (hC : fx_C p s m args meth c cc own nL) (hK : va_K D vC tys s) (hA : ∀ q, H0.size ≤ q → A q) (hw : fw D A H0 ws H locs) (hin : ∀ w ∈ u_ws C T N, w ∈ gA) (hty : ∀ k, k < N → parseFieldDescriptor (T k).2.2.1 = some (ty k)) (hcl : Cond.classLink own index C ∈ gA) (hinst : Cond.instantiable C N ∈ gA) (hini : Cond.initialized C ∈ gA) (hc : vC[ci]? = some (C, T, N)) (hfs : ∀ j, j < N → defaultValue (ty j) = vp_V fs j) (hcells : cells + 1 ≤ R.cells) (hslots : slots + N ≤ R.slots) (hdg : decode cc pc = .ok (.new index, 3))
    (kk : ∀ (q : Nat) (H1 : Heap), fw D A H0 (ws ++ [(q, .inr (ci, fs))]) H1 locs → W p l e R s m args below meth c H1 locs (cells + 1) (slots + N) Q (F0 m (pc + 3) ls (.ref q :: rest))) : W p l e R s m args below meth c H locs cells slots Q (F0 m pc ls rest) :=
  va_new (fs := fs) hC.1 hC.2.1 hC.2.2.2.2.1 hin ty hty hC.2.2.2.1 (hC.2.2.2.2.1 _ hcl) (hC.2.2.2.2.1 _ hinst) (hC.2.2.2.2.1 _ hini) hK hw.1 hw.2.1 hw.2.2 hA hc hfs hcells hslots hdg (fun q H1 hP hD hS => kk q H1 ⟨hP, hD, hS⟩)
theorem kI_eq {t : FieldType} {cA cB : ClassId} (h1 : s.vm.findClass ("[" ++ t.toString) = some cA) (h2 : s.vm.findClass ("[" ++ t.toString) = some cB) : cA = cB := Option.some.inj (h1.symm.trans h2)
/-- a new row of ints, of booleans -/
theorem fx_newI {n : Int32} {N : Nat} (hC : fx_C p s m args meth c cc own nL) (harr : Cond.arrayClass .int ∈ gA) (hK : va_K D vC (tyC cI cZ cT) s) (hA : ∀ q, H0.size ≤ q → A q) (hw : fw D A H0 ws H locs) (hn : ¬ n < 0) (hN : n.toNatClampNeg = N) (hbytes : N * 4 ≤ 536870912) (hcells : cells + 1 ≤ R.cells) (hslots : slots + N ≤ R.slots) (hdg : decode cc pc = .ok (.newarray .int, 2))
    (kk : ∀ (q : Nat) (H1 : Heap), fw D A H0 (ws ++ [(q, .inl (cI, N, .inl (fun _ => 0)))]) H1 locs → W p l e R s m args below meth c H1 locs (cells + 1) (slots + N) Q (F0 m (pc + 2) ls (.ref q :: rest))) : W p l e R s m args below meth c H locs cells slots Q (F0 m pc ls (.int n :: rest)) := by
  refine va_newa (atype := .int) (ty := .int) (a0 := (N, .inl (fun _ => 0))) hC.1 hC.2.1 (hC.2.2.2.2.1 _ harr) rfl hK hw.1 hw.2.1 hw.2.2 hA (fun cA => rfl) hn hN hbytes hcells hslots hdg (fun q cA H1 hK1 hP hD hS => ?_)
  have e : cA = cI := kI_eq (t := .int) (hK1.2 3 (cA, .int) rfl).2 (hK.2 0 (cI, .int) rfl).2
  subst e
  exact kk q H1 ⟨hP, hD, hS⟩
theorem fx_newZ {n : Int32} {N : Nat} (hC : fx_C p s m args meth c cc own nL) (harr : Cond.arrayClass .boolean ∈ gA) (hK : va_K D vC (tyC cI cZ cT) s) (hA : ∀ q, H0.size ≤ q → A q) (hw : fw D A H0 ws H locs) (hn : ¬ n < 0) (hN : n.toNatClampNeg = N) (hbytes : N * 1 ≤ 536870912) (hcells : cells + 1 ≤ R.cells) (hslots : slots + N ≤ R.slots) (hdg : decode cc pc = .ok (.newarray .boolean, 2))
    (kk : ∀ (q : Nat) (H1 : Heap), fw D A H0 (ws ++ [(q, .inl (cZ, N, .inl (fun _ => 0)))]) H1 locs → W p l e R s m args below meth c H1 locs (cells + 1) (slots + N) Q (F0 m (pc + 2) ls (.ref q :: rest))) : W p l e R s m args below meth c H locs cells slots Q (F0 m pc ls (.int n :: rest)) := by
  refine va_newa (atype := .boolean) (ty := .boolean) (a0 := (N, .inl (fun _ => 0))) hC.1 hC.2.1 (hC.2.2.2.2.1 _ harr) rfl hK hw.1 hw.2.1 hw.2.2 hA (fun cA => rfl) hn hN hbytes hcells hslots hdg (fun q cA H1 hK1 hP hD hS => ?_)
  have e : cA = cZ := kI_eq (t := .boolean) (hK1.2 3 (cA, .boolean) rfl).2 (hK.2 1 (cZ, .boolean) rfl).2
  subst e
  exact kk q H1 ⟨hP, hD, hS⟩
theorem fx_newT {n : Int32} {N index : Nat} (hC : fx_C p s m args meth c cc own nL) (hcl : Cond.classLink own index "PassedToken$Thing" ∈ gA) (harr : va_AO "PassedToken$Thing" s) (hK : va_K D vC (tyC cI cZ cT) s) (hA : ∀ q, H0.size ≤ q → A q) (hw : fw D A H0 ws H locs) (hn : ¬ n < 0) (hN : n.toNatClampNeg = N) (hbytes : N * 4 ≤ 536870912) (hcells : cells + 1 ≤ R.cells) (hslots : slots + N ≤ R.slots) (hdg : decode cc pc = .ok (.anewarray index, 3))
    (kk : ∀ (q : Nat) (H1 : Heap), fw D A H0 (ws ++ [(q, .inl (cT, N, .inr (.inr (.inr (.inr (fun _ => none))))))]) H1 locs → W p l e R s m args below meth c H1 locs (cells + 1) (slots + N) Q (F0 m (pc + 3) ls (.ref q :: rest))) : W p l e R s m args below meth c H locs cells slots Q (F0 m pc ls (.int n :: rest)) := by
  refine va_newq hC.1 hC.2.1 hC.2.2.2.1 (hC.2.2.2.2.1 _ hcl) harr hK hw.1 hw.2.1 hw.2.2 hA hn hN hbytes hcells hslots hdg (fun q cA H1 hK1 hP hD hS => ?_)
  obtain ⟨k1, c1, a1, a2, a3, a4⟩ := (hK1.2 3 (cA, .object "PassedToken$Thing") rfl).2
  obtain ⟨k2, c2, b1, b2, b3, b4⟩ := (hK.2 2 (cT, .object "PassedToken$Thing") rfl).2
  have e : cA = cT := kI_eq (t := .object "PassedToken$Thing") a4 b4
  subst e
  exact kk q H1 ⟨hP, hD, hS⟩
variable {y : MethodName} {bytes : ByteArray} {maxL n index fr lo mc ms b : Nat} {As : List Value} {w0 wr : va_W} {w1 : (Nat → Nat) → va_W}
/-- a constructor's call: the cells isC are the callee's -/
theorem fx_cI (isC isR : List Nat) (hC : fx_C p s m args meth c cc own nL) (hls : ls.size = nL) (hM : MN l D tys y (.code y bytes maxL none) fr lo mc ms (.ref b :: As) w0 w1) (hY : fx_Y y bytes maxL none n) (hI : Cond.instanceMethod y ∈ gA) (hy1 : y.name = "<init>") (hl : Cond.methodLink own index y ∈ gA) (hR : fr + 1 ≤ R.frames ∧ 8 + (maxL + 11) + lo ≤ R.locals) (hn : As.length = n)
    (hK : va_K D vC tys s) (hO : va_AO "PassedToken$Thing" s) (hA : ∀ q, H0.size ≤ q → A q) (hw : fw D A H0 ws H locs) (h1 : isC.map (fun i => ws[i]?) = w0.map some) (h2 : isR.map (fun i => ws[i]?) = wr.map some) (h3 : va_nd isC = true) (h4 : va_nd isR = true) (h5 : ∀ i ∈ isR, i ∉ isC)
    (hst : st0 = As.reverse ++ .ref b :: rest) (hW : (rest.map fun v => v.category).sum ≤ 8) (hdg : decode cc pc = .ok (.invokespecial index, 3)) (hcs : cells + mc ≤ R.cells ∧ slots + ms ≤ R.slots)
    (kk : ∀ (H1 : Heap) (locs1 : List Loc) (ad : Nat → Nat), fw D A H0 (wr ++ w1 ad) H1 locs1 → W p l e R s m args below meth c H1 locs1 (cells + mc) (slots + ms) Q (F0 m (pc + 3) ls rest)) : W p l e R s m args below meth c H locs cells slots Q (F0 m pc ls st0) := by
  obtain ⟨hx, hb, hml, hown, hT, hlk⟩ := hC
  obtain ⟨y1, y2, y3, y4, y5⟩ := hY
  have hF := va_free hw.2.1 hw.2.2 hA isC h1
  have hPc : va_P D vC w0 H := fun k q hq => by
    obtain ⟨i, -, h⟩ := fx_at h1 k q hq
    exact hw.1 i q h
  have hDc : va_D (fun _ => True) w0 := (hw.2.1.sub isC h3 h1).weaken (fun _ _ _ _ => trivial)
  have hr := va_runI (As := As) (rest := rest) ⟨hx, hb, hml, hown, hT⟩ (hM H.size) ⟨callB_of n hT (gA_goodT y1) rfl rfl rfl (hT _ y2) (hT _ hl) ⟨y3, y4, y5⟩ hR, hy1, hT _ hI⟩ ⟨fx_blindN, fun U hU hW => ⟨rfl, by rw [hU], by rw [hU]; exact hPc, va_K.moved hW.alike hK, hDc, va_AO.moved hW.alike hO⟩⟩ rfl hn hls hst (lv_room hW) hdg hcs (p := p) (e := e) (below := below) (locs := locs) (meth := meth) (g := F0 m pc ls st0)
  intro T hT2 X
  obtain ⟨v, st₀, t, T', L, h0, X', hL, e1, e2, ⟨⟨hv, ad, hP1, hK1, hD1⟩, hz, hk⟩, st⟩ := hr T hT2 X
  cases hv
  rw [h0] at hz hk
  rw [← e1] at hP1 hz
  obtain ⟨hP2, hD2⟩ := va_join hw.1 hw.2.1 isC isR h1 h2 h4 h5 (fun q h1 h2 => by rw [e1]; exact hk q h1 h2) hF hP1 hD1
  have hS := hw.2.2
  obtain ⟨t2, a1, b1⟩ := kk T'.heap (locs ++ L) ad ⟨hP2, hD2, Nat.le_trans hS.1 hz, fun q h1 h2 => by rw [e1, hk q (Nat.lt_of_lt_of_le h1 hS.1) (fun z => h2 (hF q z))]; exact hS.2.1 q h1 h2, fun q hq => by
      rcases List.mem_append.mp hq with h | h
      · exact hS.2.2 q h
      · exact hF _ (hL q h)⟩ T' rfl X'
  exact ⟨t2, st t2 a1, b1⟩
end FN
