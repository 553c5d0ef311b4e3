/-! my own frame: one list of words for all methods, one shape of contract, one row a call. session 4 -/
def gA : List Cond := lw_tbl.filter goodWord
theorem gA_in {w : Cond} (h : w ∈ lw_tbl) (g : goodWord w = true) : w ∈ gA := List.mem_filter.mpr ⟨h, g⟩
theorem gA_goodT {c : Cond} (h : c ∈ gA) : GoodIn gA (c :: gA) := fun w hw => by
  have hm : w ∈ gA := by
    rcases List.mem_cons.mp hw with e | h1
    · rw [e]; exact h
    · exact h1
  exact ⟨hm, good_of_word (List.mem_filter.mp hm).2⟩
/-- what a walk keeps of the machine -/
def fx_C (p : Program) (s : State) (m : MethodId) (args : Array Value) (meth : Method) (c : Code) (cc : ByteArray) (own : String) (nL : Nat) : Prop :=
  p.tables.exec = Jvm.exec ∧ c.code = cc ∧ c.maxLocals = nL ∧ s.vm.findClass own = some m.cls ∧ (∀ w ∈ gA, w.before args s = true) ∧ meth.locks = false
/-- what a walk keeps of the heap -/
def fw (D : va_G) (A : Nat → Prop) (H0 : Heap) (ws : va_W) (H : Heap) (locs : List Loc) : Prop := va_P D vC ws H ∧ va_D A ws ∧ va_S A H0 H locs
def fx_P {S : Type} (D : va_G) (tys : List (ClassId × FieldType)) (wf : S → va_W) (u0 : S) (sz : Nat) (av : List Value) : Array Value → State → Prop :=
  va_Pc av (fun U => U.heap.size = sz ∧ va_P D vC (wf u0) U.heap ∧ va_K D vC tys U ∧ va_D (fun _ => True) (wf u0))
def fx_Q {S : Type} (D : va_G) (tys : List (ClassId × FieldType)) (wf : S → va_W) (r : Option Value) (u1 : S) (A : Nat → Prop) : Array Value → State → Outcome → State → Prop := fun _ st oc t =>
  (oc = .returned r ∧ va_P D vC (wf u1) t.heap ∧ va_K D vC tys t ∧ va_D A (wf u1)) ∧ va_F A st t
/-- a method's contract: from the world of u0 it answers r and leaves the world of u1; it makes no cell -/
def MX {S : Type} (l : Launch) (D : va_G) (tys : List (ClassId × FieldType)) (wf : S → va_W) (y : MethodName) (cd : Cond) (fr lo : Nat) (av : List Value) (u0 : S) (r : Option Value) (u1 : S) : Prop :=
  ∀ sz : Nat, Met l y (cd :: gA) { frames := fr, cells := 0, slots := 0, locals := lo } (fx_P D tys wf u0 sz av) (fx_Q D tys wf r u1 (va_A (wf u0) sz)) 0 0 (va_A (wf u0) sz)
theorem fx_blind {S : Type} {D : va_G} {tys : List (ClassId × FieldType)} {wf : S → va_W} {u0 : S} {sz : Nat} {av : List Value} : FrameBlind (fx_P D tys wf u0 sz av) := fun a U g mk q => by
  obtain ⟨q0, q1, qP, qK, qD⟩ := q
  exact ⟨q0, q1, qP, va_K.moved (u := U) (U := U.calling g mk a) (Vm.Alike.refl U.vm) qK, qD⟩
theorem MX.start {S : Type} {l : Launch} {D : va_G} {tys : List (ClassId × FieldType)} {wf : S → va_W} {y : MethodName} {cc : ByteArray} {nL : Nat} {ret : Option FieldType} {fr lo : Nat} {av : List Value} {u0 : S} {r : Option Value} {u1 : S}
    (hy : plainName y.cls = true) (hn : (lg_sl av).length ≤ nL)
    (body : ∀ (p : Program) (e : Env) (s : State) (m : MethodId) (below : List Frame) (meth : Method) (c : Code) (ls : Array Slot) (A : Nat → Prop), fx_C p s m av.toArray meth c cc y.cls nL → meth.sig.returnType = ret → lv_has ls nL (lv_args 0 av) → va_K D vC tys s → (∀ q, s.heap.size ≤ q → A q) → fw D A s.heap (wf u0) s.heap [] →
      W p l e { frames := fr, cells := 0, slots := 0, locals := lo } s m av.toArray below meth c s.heap [] 0 0 (MQ below (fx_Q D tys wf r u1 A) av.toArray s 0 0 A) (F0 m 0 ls [])) : MX l D tys wf y (.code y cc nL ret) fr lo av u0 r u1 := by
  intro sz
  refine Met.ofW (cc := cc) (maxL := nL) (ret := ret) hy rfl ?_
  intro p e s m args below meth c s₁ B hml hv
  obtain ⟨rfl, hsz, hP, hK, hD0⟩ := hv
  subst hsz
  have hts := atoms_spec (ws := .code y cc nL ret :: gA) B.pre
  have hown : s.vm.findClass y.cls = some m.cls := findClass_of_methodNamed B.named
  have hl := lv_entry av (n := nL) hn
  rw [lg_entry_eq]
  exact body p e s m below meth c _ _ ⟨B.exec, B.bytes, hml, hown, fun w h => hts w (List.mem_cons_of_mem _ h), B.notSynchronized⟩ B.returns hl hK (fun q h => Or.inr h) ⟨hP, hD0.self, va_S.rf⟩
/-- static facts of a callee -/
def fx_Y (y : MethodName) (bytes : ByteArray) (maxL : Nat) (ret : Option FieldType) (n : Nat) : Prop :=
  Cond.code y bytes maxL ret ∈ gA ∧ Cond.initialized y.cls ∈ gA ∧ y.cls ≠ "java/lang/invoke/MethodHandle" ∧ y.cls ≠ "java/lang/invoke/VarHandle" ∧ (parseMethodDescriptor y.desc).map (fun d => d.parameters.length) = some n
def fx_YV (y : MethodName) : Prop := Cond.instanceMethod y ∈ gA ∧ Cond.selects y.cls y y ∈ gA
section FX
variable {p : Program} {l : Launch} {e : Env} {R : Room} {s : State} {m : MethodId} {args : Array Value} {below : List Frame} {meth : Method} {c : Code} {H : Heap} {locs : List Loc} {cells slots : Nat} {Q : State → Prop}
variable {cc : ByteArray} {pc : Nat} {ls : Array Slot} {rest st0 : List Value} {D : va_G} {tys : List (ClassId × FieldType)} {A : Nat → Prop} {H0 : Heap} {ws : va_W}
theorem fx_iret {S : Type} {wf : S → va_W} {v x : Int32} {u u1 : S} {ty : FieldType} (hx : p.tables.exec = Jvm.exec) (hb : c.code = cc) (hr : meth.sig.returnType = some ty) (hn : narrow ty (.int v) = .int v) (hlk : meth.locks = false) (hK : va_K D vC tys s) (hw : fw D A s.heap (wf u) H locs) (hv : v = x) (hu : u = u1) (hdg : decode cc pc = .ok (.ireturn, 1)) :
    W p l e R s m args below meth c H locs 0 0 (MQ below (fx_Q D tys wf (some (.int x)) u1 A) args s 0 0 A) (F0 m pc ls [.int v]) := by
  subst hv; subst hu
  obtain ⟨hP, hD, hS⟩ := hw
  exact W.zret hx hb hr hn (fun t ht hW => ⟨⟨rfl, by rw [ht]; exact hP, va_K.moved hW.alike hK, hD⟩, hS.F ht⟩) hS.2.2 hdg
theorem fx_vret {S : Type} {wf : S → va_W} {u u1 : S} (hx : p.tables.exec = Jvm.exec) (hb : c.code = cc) (hr : meth.sig.returnType = none) (hlk : meth.locks = false) (hK : va_K D vC tys s) (hw : fw D A s.heap (wf u) H locs) (hu : u = u1) (hdg : decode cc pc = .ok (.return_, 1)) :
    W p l e R s m args below meth c H locs 0 0 (MQ below (fx_Q D tys wf none u1 A) args s 0 0 A) (F0 m pc ls []) := by
  subst hu
  obtain ⟨hP, hD, hS⟩ := hw
  exact W.vret hx hb hr (fun t ht hW => ⟨⟨rfl, by rw [ht]; exact hP, va_K.moved hW.alike hK, hD⟩, hS.F ht⟩) hS.2.2 hdg
theorem fx_aret {S : Type} {wf : S → va_W} {v x : Value} {u u1 : S} {rt : FieldType} (hx : p.tables.exec = Jvm.exec) (hb : c.code = cc) (hr : meth.sig.returnType = some rt) (hrt : (∃ n, rt = .object n) ∨ ∃ t, rt = .array t) (hvr : v = .null ∨ ∃ a, v = .ref a) (hlk : meth.locks = false) (hK : va_K D vC tys s) (hw : fw D A s.heap (wf u) H locs) (hv : v = x) (hu : u = u1) (hdg : decode cc pc = .ok (.areturn, 1)) :
    W p l e R s m args below meth c H locs 0 0 (MQ below (fx_Q D tys wf (some x) u1 A) args s 0 0 A) (F0 m pc ls [v]) := by
  subst hv; subst hu
  obtain ⟨hP, hD, hS⟩ := hw
  exact W.aret hx hb hr hrt hvr (fun t ht hW => ⟨⟨rfl, by rw [ht]; exact hP, va_K.moved hW.alike hK, hD⟩, hS.F ht⟩) hS.2.2 hdg
/-- behind a run of a callee -/
theorem fx_go {S : Type} {wf : S → va_W} {tysc : List (ClassId × FieldType)} {r : Option Value} {u1 : S} {A1 : Nat → Prop} {a : Array Value} {free : Addr → Prop} (hr : va_Run p l e R s m args below meth c H locs cells slots 0 0 (F0 m pc ls st0) rest (fx_Q D tysc wf r u1 A1 a) free) (hS : va_S A H0 H locs) (hA : ∀ q, A1 q → A q) (hf : ∀ q, free q → A q)
    (kk : ∀ (H1 : Heap) (locs1 : List Loc), va_P D vC (wf u1) H1 → va_D A1 (wf u1) → H.size ≤ H1.size → (∀ q : Nat, q < H.size → ¬ A1 q → H1[q]? = H[q]?) → va_S A H0 H1 locs1 → W p l e R s m args below meth c H1 locs1 cells slots Q (F0 m (pc + 3) ls (r.toList ++ rest))) : W p l e R s m args below meth c H locs cells slots Q (F0 m pc ls st0) := by
  intro T hT X
  obtain ⟨v, st₀, t, T', L, h0, X', hL, e1, e2, ⟨⟨hv, hP1, hK1, hD1⟩, hz, hk⟩, st⟩ := hr T hT X
  cases hv
  rw [h0] at hz hk
  rw [← e1] at hP1 hz
  obtain ⟨t2, a1, b1⟩ := kk T'.heap (locs ++ L) hP1 hD1 hz (fun q h1 h2 => by rw [e1]; exact hk q h1 h2)
    ⟨Nat.le_trans hS.1 hz, fun q h1 h2 => by rw [e1, hk q (Nat.lt_of_lt_of_le h1 hS.1) (fun z => h2 (hA q z))]; exact hS.2.1 q h1 h2, fun q hq => by
      rcases List.mem_append.mp hq with h | h
      · exact hS.2.2 q h
      · exact hf _ (hL q h)⟩ T' rfl X'
  exact ⟨t2, st t2 a1, b1⟩
/-- an instance method is called: the callee's world is at hand -/
theorem fx_callV0 {S : Type} {wf : S → va_W} {tysc : List (ClassId × FieldType)} {y : MethodName} {bytes : ByteArray} {maxL n nL index fr lo ci q0 b : Nat} {own : String} {ret : Option FieldType} {As : List Value} {u0 : S} {r : Option Value} {u1 : S} {q : vw_C} {fs : List Value}
    (hC : fx_C p s m args meth c cc own nL) (hls : ls.size = nL) (hM : MX l D tysc wf y (.code y bytes maxL ret) fr lo (.ref b :: As) u0 r u1) (hY : fx_Y y bytes maxL ret n) (hV : fx_YV y) (hl : Cond.methodLink own index y ∈ gA) (hR : fr + 1 ≤ R.frames ∧ 8 + (maxL + 11) + lo ≤ R.locals) (hn : As.length = n)
    (hKc : va_K D vC tysc s) (hPc : va_P D vC (wf u0) H) (hDc : va_D (fun _ => True) (wf u0)) (hFc : ∀ q, va_A (wf u0) H.size q → A q) (hS : va_S A H0 H locs) (he : (wf u0)[q0]? = some (b, .inr (ci, fs))) (hc : vC[ci]? = some q) (hq : q.1 = y.cls)
    (hst : st0 = As.reverse ++ .ref b :: rest) (hW : (rest.map fun v => v.category).sum ≤ 8) (hdg : decode cc pc = .ok (.invokevirtual index, 3)) (hcs : cells ≤ R.cells ∧ slots ≤ R.slots)
    (kk : ∀ (H1 : Heap) (locs1 : List Loc), va_P D vC (wf u1) H1 → va_D (va_A (wf u0) H.size) (wf u1) → H.size ≤ H1.size → (∀ q : Nat, q < H.size → ¬ va_A (wf u0) H.size q → H1[q]? = H[q]?) → va_S A H0 H1 locs1 → W p l e R s m args below meth c H1 locs1 cells slots Q (F0 m (pc + 3) ls (r.toList ++ rest))) : W p l e R s m args below meth c H locs cells slots Q (F0 m pc ls st0) := by
  obtain ⟨hx, hb, hml, hown, hT, hlk⟩ := hC
  obtain ⟨y1, y2, y3, y4, y5⟩ := hY
  have hrv := va_recv hKc hPc hc he
  rw [hq] at hrv
  refine fx_go (va_runV (As := As) (rest := rest) (C := y.cls) ⟨hx, hb, hml, hown, hT⟩ (hM H.size) ⟨callB_of n hT (gA_goodT y1) rfl rfl rfl (hT _ y2) (hT _ hl) ⟨y3, y4, y5⟩ hR, hT _ hV.1, hT _ hV.2⟩ ⟨fx_blind, hrv, fun U hU hW => ⟨rfl, by rw [hU], by rw [hU]; exact hPc, va_K.moved hW.alike hKc, hDc⟩⟩ rfl hn hls hst (lv_room hW) hdg ⟨hcs.1, hcs.2⟩) hS hFc hFc kk
theorem fx_callS0 {S : Type} {wf : S → va_W} {tysc : List (ClassId × FieldType)} {y : MethodName} {bytes : ByteArray} {maxL n nL index fr lo : Nat} {own : String} {ret : Option FieldType} {As : List Value} {u0 : S} {r : Option Value} {u1 : S}
    (hC : fx_C p s m args meth c cc own nL) (hls : ls.size = nL) (hM : MX l D tysc wf y (.code y bytes maxL ret) fr lo As u0 r u1) (hY : fx_Y y bytes maxL ret n) (hV : Cond.static y ∈ gA) (hl : Cond.methodLink own index y ∈ gA) (hR : fr + 1 ≤ R.frames ∧ 8 + (maxL + 11) + lo ≤ R.locals) (hn : As.length = n)
    (hKc : va_K D vC tysc s) (hPc : va_P D vC (wf u0) H) (hDc : va_D (fun _ => True) (wf u0)) (hFc : ∀ q, va_A (wf u0) H.size q → A q) (hS : va_S A H0 H locs)
    (hst : st0 = As.reverse ++ rest) (hW : (rest.map fun v => v.category).sum ≤ 8) (hdg : decode cc pc = .ok (.invokestatic index, 3)) (hcs : cells ≤ R.cells ∧ slots ≤ R.slots)
    (kk : ∀ (H1 : Heap) (locs1 : List Loc), va_P D vC (wf u1) H1 → va_D (va_A (wf u0) H.size) (wf u1) → H.size ≤ H1.size → (∀ q : Nat, q < H.size → ¬ va_A (wf u0) H.size q → H1[q]? = H[q]?) → va_S A H0 H1 locs1 → W p l e R s m args below meth c H1 locs1 cells slots Q (F0 m (pc + 3) ls (r.toList ++ rest))) : W p l e R s m args below meth c H locs cells slots Q (F0 m pc ls st0) := by
  obtain ⟨hx, hb, hml, hown, hT, hlk⟩ := hC
  obtain ⟨y1, y2, y3, y4, y5⟩ := hY
  refine fx_go (va_runS (As := As) (rest := rest) ⟨hx, hb, hml, hown, hT⟩ (hM H.size) ⟨callB_of n hT (gA_goodT y1) rfl rfl rfl (hT _ y2) (hT _ hl) ⟨y3, y4, y5⟩ hR, hT _ hV⟩ ⟨fx_blind, fun U hU hW => ⟨rfl, by rw [hU], by rw [hU]; exact hPc, va_K.moved hW.alike hKc, hDc⟩⟩ rfl hn hls hst (lv_room hW) hdg ⟨hcs.1, hcs.2⟩) hS hFc hFc kk
end FX
theorem fx_at {ws w : va_W} {is : List Nat} (hs : is.map (fun i => ws[i]?) = w.map some) (k : Nat) (q : Nat × va_E) (hq : w[k]? = some q) : ∃ i, is[k]? = some i ∧ ws[i]? = some q := by
  have h1 : (is.map (fun i => ws[i]?))[k]? = some (some q) := by rw [hs, List.getElem?_map, hq]; rfl
  rw [List.getElem?_map] at h1
  cases hi : is[k]? with
  | none => rw [hi] at h1; cases h1
  | some i => rw [hi] at h1; exact ⟨i, rfl, Option.some.inj h1⟩
theorem fx_fr {D : va_G} {A : Nat → Prop} {H0 H : Heap} {ws : va_W} {locs : List Loc} (hw : fw D A H0 ws H locs) (hA : ∀ q, H0.size ≤ q → A q) : ∀ q, va_A ws H.size q → A q := fun q h => by
  rcases h with ⟨k, e, h⟩ | h
  · exact hw.2.1.2 k (q, e) h
  · exact hA q (Nat.le_trans hw.2.2.1 h)
/-- the callee's world is the caller's -/
theorem fx_same {S : Type} {wf : S → va_W} {D : va_G} {A : Nat → Prop} {H0 H H1 : Heap} {u0 u1 : S} {locs1 : List Loc} (hF : ∀ q, va_A (wf u0) H.size q → A q) (hP : va_P D vC (wf u1) H1) (hD : va_D (va_A (wf u0) H.size) (wf u1)) (hS : va_S A H0 H1 locs1) : fw D A H0 (wf u1) H1 locs1 := ⟨hP, hD.weaken (fun _ q _ h => hF q.1 h), hS⟩

/-- pure programs: let, bind, guard -/
def k_let {α β : Type} (x : α) (k : α → Option β) : Option β := k x
def k_bd {α β : Type} (o : Option α) (k : α → Option β) : Option β := match o with
  | some a => k a
  | none => none
def k_gd {β : Type} (c : Prop) [Decidable c] (k : Option β) : Option β := if c then k else none
theorem k_bd_some {α β : Type} {o : Option α} {k : α → Option β} {r : β} (h : k_bd o k = some r) : ∃ a, o = some a ∧ k a = some r := by
  cases o with
  | none => cases h
  | some a => exact ⟨a, rfl, h⟩
theorem k_gd_some {β : Type} {c : Prop} [Decidable c] {k : Option β} {r : β} (h : k_gd c k = some r) : c ∧ k = some r := by
  unfold k_gd at h
  by_cases hc : c
  · rw [if_pos hc] at h; exact ⟨hc, h⟩
  · rw [if_neg hc] at h; cases h
theorem br1 {β : Type} {c : Prop} [Decidable c] {a b : Option β} {r : β} (hc : c) (h : (if c then a else b) = some r) : a = some r := by rwa [if_pos hc] at h
theorem br0 {β : Type} {c : Prop} [Decidable c] {a b : Option β} {r : β} (hc : ¬ c) (h : (if c then a else b) = some r) : b = some r := by rwa [if_neg hc] at h
abbrev inb (i : Int32) (n : Nat) : Prop := ¬ i < 0 ∧ i.toNatClampNeg < n
theorem inb_vp {i : Int32} {n : Nat} (h : inb i n) : vp_in i n := fun q => q.elim h.1 (fun z => absurd h.2 (Nat.not_lt.mpr z))
abbrev isz (v : Int32) : Prop := v = 0 ∨ v = 1
theorem isz_nar {v : Int32} (h : isz v) : narrow .boolean (.int v) = .int v := by rcases h with rfl | rfl <;> rfl
theorem isz_vp {v : Int32} (h : isz v) : vp_nar .boolean v = v := by rcases h with rfl | rfl <;> rfl
/-- state: int fields by number, arrays by number -/
abbrev ST : Type := (Nat → Int32) × (Nat → Nat → Int32)
def ss (u : ST) (k : Nat) (v : Int32) : ST := (fun j => if j = k then v else u.1 j, u.2)
def rs (u : ST) (k i : Nat) (v : Int32) : ST := (u.1, fun j => if j = k then upd (u.2 k) i v else u.2 j)
/-- the value of a reference to one of four things, by number; -1: none -/
def tv (ad : Nat → Nat) (a : Int32) : Value := if a = -1 then .null else .ref (ad (18 + 3 * a.toNatClampNeg))
theorem tv_none {ad : Nat → Nat} : tv ad (-1) = .null := rfl
theorem tv_some {ad : Nat → Nat} {a : Int32} (h : inb a 4) : tv ad a = .ref (ad (18 + 3 * a.toNatClampNeg)) := by
  unfold tv
  rw [if_neg]
  intro e
  subst e
  exact h.1 (by decide)
/-- the walk's goal, short -/
abbrev WX (wf : ST → va_W) (p : Program) (l : Launch) (e : Env) (fr lo : Nat) (s : State) (m : MethodId) (av : List Value) (below : List Frame) (meth : Method) (c : Code) (A : Nat → Prop) (D : va_G) (tys : List (ClassId × FieldType)) (r : Option Value) (u1 : ST) (H : Heap) (locs : List Loc) (g : JFrame) : Prop :=
  W p l e { frames := fr, cells := 0, slots := 0, locals := lo } s m av.toArray below meth c H locs 0 0 (MQ below (fx_Q D tys wf r u1 A) av.toArray s 0 0 A) g
section FY
variable {p : Program} {l : Launch} {e : Env} {R : Room} {s : State} {m : MethodId} {args : Array Value} {below : List Frame} {meth : Method} {c : Code} {H : Heap} {locs : List Loc} {cells slots : Nat} {Q : State → Prop}
variable {cc : ByteArray} {pc : Nat} {ls : Array Slot} {rest st0 : List Value} {D : va_G} {tys : List (ClassId × FieldType)} {A : Nat → Prop} {H0 : Heap} {ws : va_W}
variable {wf : ST → va_W}
/-- ends of a walk: what the pure program says -/
theorem fx_retw {own : String} {nL : Nat} {v : Int32} {u : ST} {q : Int32 × ST} {ty : FieldType} (hC : fx_C p s m args meth c cc own nL) (hr : meth.sig.returnType = some ty) (hn : narrow ty (.int v) = .int v) (hK : va_K D vC tys s) (hw : fw D A s.heap (wf u) H locs) (h : some (v, u) = some q) (hdg : decode cc pc = .ok (.ireturn, 1)) :
    W p l e R s m args below meth c H locs 0 0 (MQ below (fx_Q D tys wf (some (.int q.1)) q.2 A) args s 0 0 A) (F0 m pc ls [.int v]) := by
  cases h
  exact fx_iret hC.1 hC.2.1 hr hn hC.2.2.2.2.2 hK hw rfl rfl hdg
theorem fx_retr {own : String} {nL : Nat} {v q : Int32} {u : ST} {ty : FieldType} (hC : fx_C p s m args meth c cc own nL) (hr : meth.sig.returnType = some ty) (hn : narrow ty (.int v) = .int v) (hK : va_K D vC tys s) (hw : fw D A s.heap (wf u) H locs) (h : some v = some q) (hdg : decode cc pc = .ok (.ireturn, 1)) :
    W p l e R s m args below meth c H locs 0 0 (MQ below (fx_Q D tys wf (some (.int q)) u A) args s 0 0 A) (F0 m pc ls [.int v]) := by
  cases h
  exact fx_iret hC.1 hC.2.1 hr hn hC.2.2.2.2.2 hK hw rfl rfl hdg
theorem fx_retv {own : String} {nL : Nat} {u q : ST} (hC : fx_C p s m args meth c cc own nL) (hr : meth.sig.returnType = none) (hK : va_K D vC tys s) (hw : fw D A s.heap (wf u) H locs) (h : some u = some q) (hdg : decode cc pc = .ok (.return_, 1)) :
    W p l e R s m args below meth c H locs 0 0 (MQ below (fx_Q D tys wf none q A) args s 0 0 A) (F0 m pc ls []) := by
  cases h
  exact fx_vret hC.1 hC.2.1 hr hC.2.2.2.2.2 hK hw rfl hdg
theorem fx_reta {own : String} {nL : Nat} {u q : ST} {a : Nat} {cn : String} (hC : fx_C p s m args meth c cc own nL) (hr : meth.sig.returnType = some (.object cn)) (hK : va_K D vC tys s) (hw : fw D A s.heap (wf u) H locs) (h : some u = some q) (hdg : decode cc pc = .ok (.areturn, 1)) :
    W p l e R s m args below meth c H locs 0 0 (MQ below (fx_Q D tys wf (some (.ref a)) q A) args s 0 0 A) (F0 m pc ls [.ref a]) := by
  cases h
  exact fx_aret hC.1 hC.2.1 hr (Or.inl ⟨_, rfl⟩) (Or.inr ⟨_, rfl⟩) hC.2.2.2.2.2 hK hw rfl rfl hdg
theorem fx_rett {own : String} {nL : Nat} {u : ST} {a q : Int32} {x : Value} {cn : String} {ad : Nat → Nat} (hC : fx_C p s m args meth c cc own nL) (hr : meth.sig.returnType = some (.object cn)) (hx : tv ad a = x) (hK : va_K D vC tys s) (hw : fw D A s.heap (wf u) H locs) (h : some a = some q) (hdg : decode cc pc = .ok (.areturn, 1)) :
    W p l e R s m args below meth c H locs 0 0 (MQ below (fx_Q D tys wf (some (tv ad q)) u A) args s 0 0 A) (F0 m pc ls [x]) := by
  cases h
  subst hx
  refine fx_aret hC.1 hC.2.1 hr (Or.inl ⟨_, rfl⟩) ?_ hC.2.2.2.2.2 hK hw rfl rfl hdg
  unfold tv
  by_cases h : a = -1
  · rw [if_pos h]; exact Or.inl rfl
  · rw [if_neg h]; exact Or.inr ⟨_, rfl⟩
variable {y : MethodName} {bytes : ByteArray} {maxL n nL index fr lo ci q0 b : Nat} {own : String} {ret : Option FieldType} {As : List Value} {u0 : ST} {qc : vw_C} {fs : List Value}
/-- a call in the same world -/
theorem fx_sV {α β : Type} {F : Option α} {K : α → Option β} {z : β} (rv : α → Option Value) (su : α → ST) (hC : fx_C p s m args meth c cc own nL) (hls : ls.size = nL) (hM : ∀ q, F = some q → MX l D tys wf y (.code y bytes maxL ret) fr lo (.ref b :: As) u0 (rv q) (su q)) (hY : fx_Y y bytes maxL ret n) (hV : fx_YV y) (hl : Cond.methodLink own index y ∈ gA) (hR : fr + 1 ≤ R.frames ∧ 8 + (maxL + 11) + lo ≤ R.locals) (hn : As.length = n)
    (hK : va_K D vC tys s) (hA : ∀ q, H0.size ≤ q → A q) (hw : fw D A H0 (wf u0) H locs) (he : (wf u0)[q0]? = some (b, .inr (ci, fs))) (hc : vC[ci]? = some qc) (hq : qc.1 = y.cls) (hst : st0 = As.reverse ++ .ref b :: rest) (hW : (rest.map fun v => v.category).sum ≤ 8) (hdg : decode cc pc = .ok (.invokevirtual index, 3)) (hcs : cells ≤ R.cells ∧ slots ≤ R.slots)
    (h : k_bd F K = some z) (kk : ∀ (H1 : Heap) (locs1 : List Loc) (q : α), K q = some z → fw D A H0 (wf (su q)) H1 locs1 → W p l e R s m args below meth c H1 locs1 cells slots Q (F0 m (pc + 3) ls ((rv q).toList ++ rest))) : W p l e R s m args below meth c H locs cells slots Q (F0 m pc ls st0) := by
  obtain ⟨q, h1, h2⟩ := k_bd_some h
  exact fx_callV0 hC hls (hM q h1) hY hV hl hR hn hK hw.1 (hw.2.1.weaken (fun _ _ _ _ => trivial)) (fx_fr hw hA) hw.2.2 he hc hq hst hW hdg hcs (fun H1 locs1 hP hD _ _ hS => kk H1 locs1 q h2 (fx_same (fx_fr hw hA) hP hD hS))
theorem fx_sS {α β : Type} {F : Option α} {K : α → Option β} {z : β} (rv : α → Option Value) (su : α → ST) (hC : fx_C p s m args meth c cc own nL) (hls : ls.size = nL) (hM : ∀ q, F = some q → MX l D tys wf y (.code y bytes maxL ret) fr lo As u0 (rv q) (su q)) (hY : fx_Y y bytes maxL ret n) (hV : Cond.static y ∈ gA) (hl : Cond.methodLink own index y ∈ gA) (hR : fr + 1 ≤ R.frames ∧ 8 + (maxL + 11) + lo ≤ R.locals) (hn : As.length = n)
    (hK : va_K D vC tys s) (hA : ∀ q, H0.size ≤ q → A q) (hw : fw D A H0 (wf u0) H locs) (hst : st0 = As.reverse ++ rest) (hW : (rest.map fun v => v.category).sum ≤ 8) (hdg : decode cc pc = .ok (.invokestatic index, 3)) (hcs : cells ≤ R.cells ∧ slots ≤ R.slots)
    (h : k_bd F K = some z) (kk : ∀ (H1 : Heap) (locs1 : List Loc) (q : α), K q = some z → fw D A H0 (wf (su q)) H1 locs1 → W p l e R s m args below meth c H1 locs1 cells slots Q (F0 m (pc + 3) ls ((rv q).toList ++ rest))) : W p l e R s m args below meth c H locs cells slots Q (F0 m pc ls st0) := by
  obtain ⟨q, h1, h2⟩ := k_bd_some h
  exact fx_callS0 hC hls (hM q h1) hY hV hl hR hn hK hw.1 (hw.2.1.weaken (fun _ _ _ _ => trivial)) (fx_fr hw hA) hw.2.2 hst hW hdg hcs (fun H1 locs1 hP hD _ _ hS => kk H1 locs1 q h2 (fx_same (fx_fr hw hA) hP hD hS))
theorem fx_sVi {β : Type} {F : Option (Int32 × ST)} {K : (Int32 × ST) → Option β} {z : β} (hC : fx_C p s m args meth c cc own nL) (hls : ls.size = nL) (hM : ∀ q, F = some q → MX l D tys wf y (.code y bytes maxL ret) fr lo (.ref b :: As) u0 (some (.int q.1)) q.2) (hY : fx_Y y bytes maxL ret n) (hV : fx_YV y) (hl : Cond.methodLink own index y ∈ gA) (hR : fr + 1 ≤ R.frames ∧ 8 + (maxL + 11) + lo ≤ R.locals) (hn : As.length = n) (hK : va_K D vC tys s) (hA : ∀ q, H0.size ≤ q → A q) (hw : fw D A H0 (wf u0) H locs) (he : (wf u0)[q0]? = some (b, .inr (ci, fs))) (hc : vC[ci]? = some qc) (hq : qc.1 = y.cls) (hst : st0 = As.reverse ++ .ref b :: rest) (hW : (rest.map fun v => v.category).sum ≤ 8) (hdg : decode cc pc = .ok (.invokevirtual index, 3)) (hcs : cells ≤ R.cells ∧ slots ≤ R.slots) (h : k_bd F K = some z) (kk : ∀ (H1 : Heap) (locs1 : List Loc) (q : Int32 × ST), K q = some z → fw D A H0 (wf q.2) H1 locs1 → W p l e R s m args below meth c H1 locs1 cells slots Q (F0 m (pc + 3) ls (.int q.1 :: rest))) : W p l e R s m args below meth c H locs cells slots Q (F0 m pc ls st0) :=
  fx_sV (fun q => (some (.int q.1))) (fun q => q.2) hC hls hM hY hV hl hR hn hK hA hw he hc hq hst hW hdg hcs h kk
theorem fx_sVv {β : Type} {F : Option (ST)} {K : ST → Option β} {z : β} (hC : fx_C p s m args meth c cc own nL) (hls : ls.size = nL) (hM : ∀ q, F = some q → MX l D tys wf y (.code y bytes maxL ret) fr lo (.ref b :: As) u0 none q) (hY : fx_Y y bytes maxL ret n) (hV : fx_YV y) (hl : Cond.methodLink own index y ∈ gA) (hR : fr + 1 ≤ R.frames ∧ 8 + (maxL + 11) + lo ≤ R.locals) (hn : As.length = n) (hK : va_K D vC tys s) (hA : ∀ q, H0.size ≤ q → A q) (hw : fw D A H0 (wf u0) H locs) (he : (wf u0)[q0]? = some (b, .inr (ci, fs))) (hc : vC[ci]? = some qc) (hq : qc.1 = y.cls) (hst : st0 = As.reverse ++ .ref b :: rest) (hW : (rest.map fun v => v.category).sum ≤ 8) (hdg : decode cc pc = .ok (.invokevirtual index, 3)) (hcs : cells ≤ R.cells ∧ slots ≤ R.slots) (h : k_bd F K = some z) (kk : ∀ (H1 : Heap) (locs1 : List Loc) (q : ST), K q = some z → fw D A H0 (wf q) H1 locs1 → W p l e R s m args below meth c H1 locs1 cells slots Q (F0 m (pc + 3) ls (rest))) : W p l e R s m args below meth c H locs cells slots Q (F0 m pc ls st0) :=
  fx_sV (fun q => none) (fun q => q) hC hls hM hY hV hl hR hn hK hA hw he hc hq hst hW hdg hcs h kk
theorem fx_sVr {β : Type} {F : Option (Int32)} {K : Int32 → Option β} {z : β} (hC : fx_C p s m args meth c cc own nL) (hls : ls.size = nL) (hM : ∀ q, F = some q → MX l D tys wf y (.code y bytes maxL ret) fr lo (.ref b :: As) u0 (some (.int q)) u0) (hY : fx_Y y bytes maxL ret n) (hV : fx_YV y) (hl : Cond.methodLink own index y ∈ gA) (hR : fr + 1 ≤ R.frames ∧ 8 + (maxL + 11) + lo ≤ R.locals) (hn : As.length = n) (hK : va_K D vC tys s) (hA : ∀ q, H0.size ≤ q → A q) (hw : fw D A H0 (wf u0) H locs) (he : (wf u0)[q0]? = some (b, .inr (ci, fs))) (hc : vC[ci]? = some qc) (hq : qc.1 = y.cls) (hst : st0 = As.reverse ++ .ref b :: rest) (hW : (rest.map fun v => v.category).sum ≤ 8) (hdg : decode cc pc = .ok (.invokevirtual index, 3)) (hcs : cells ≤ R.cells ∧ slots ≤ R.slots) (h : k_bd F K = some z) (kk : ∀ (H1 : Heap) (locs1 : List Loc) (q : Int32), K q = some z → fw D A H0 (wf u0) H1 locs1 → W p l e R s m args below meth c H1 locs1 cells slots Q (F0 m (pc + 3) ls (.int q :: rest))) : W p l e R s m args below meth c H locs cells slots Q (F0 m pc ls st0) :=
  fx_sV (fun q => (some (.int q))) (fun q => u0) hC hls hM hY hV hl hR hn hK hA hw he hc hq hst hW hdg hcs h kk
theorem fx_sVa {cn : Nat} {β : Type} {F : Option (ST)} {K : ST → Option β} {z : β} (hC : fx_C p s m args meth c cc own nL) (hls : ls.size = nL) (hM : ∀ q, F = some q → MX l D tys wf y (.code y bytes maxL ret) fr lo (.ref b :: As) u0 (some (.ref cn)) q) (hY : fx_Y y bytes maxL ret n) (hV : fx_YV y) (hl : Cond.methodLink own index y ∈ gA) (hR : fr + 1 ≤ R.frames ∧ 8 + (maxL + 11) + lo ≤ R.locals) (hn : As.length = n) (hK : va_K D vC tys s) (hA : ∀ q, H0.size ≤ q → A q) (hw : fw D A H0 (wf u0) H locs) (he : (wf u0)[q0]? = some (b, .inr (ci, fs))) (hc : vC[ci]? = some qc) (hq : qc.1 = y.cls) (hst : st0 = As.reverse ++ .ref b :: rest) (hW : (rest.map fun v => v.category).sum ≤ 8) (hdg : decode cc pc = .ok (.invokevirtual index, 3)) (hcs : cells ≤ R.cells ∧ slots ≤ R.slots) (h : k_bd F K = some z) (kk : ∀ (H1 : Heap) (locs1 : List Loc) (q : ST), K q = some z → fw D A H0 (wf q) H1 locs1 → W p l e R s m args below meth c H1 locs1 cells slots Q (F0 m (pc + 3) ls (.ref cn :: rest))) : W p l e R s m args below meth c H locs cells slots Q (F0 m pc ls st0) :=
  fx_sV (fun q => (some (.ref cn))) (fun q => q) hC hls hM hY hV hl hR hn hK hA hw he hc hq hst hW hdg hcs h kk
theorem fx_sVt {ad : Nat → Nat} {β : Type} {F : Option (Int32)} {K : Int32 → Option β} {z : β} (hC : fx_C p s m args meth c cc own nL) (hls : ls.size = nL) (hM : ∀ q, F = some q → MX l D tys wf y (.code y bytes maxL ret) fr lo (.ref b :: As) u0 (some (tv ad q)) u0) (hY : fx_Y y bytes maxL ret n) (hV : fx_YV y) (hl : Cond.methodLink own index y ∈ gA) (hR : fr + 1 ≤ R.frames ∧ 8 + (maxL + 11) + lo ≤ R.locals) (hn : As.length = n) (hK : va_K D vC tys s) (hA : ∀ q, H0.size ≤ q → A q) (hw : fw D A H0 (wf u0) H locs) (he : (wf u0)[q0]? = some (b, .inr (ci, fs))) (hc : vC[ci]? = some qc) (hq : qc.1 = y.cls) (hst : st0 = As.reverse ++ .ref b :: rest) (hW : (rest.map fun v => v.category).sum ≤ 8) (hdg : decode cc pc = .ok (.invokevirtual index, 3)) (hcs : cells ≤ R.cells ∧ slots ≤ R.slots) (h : k_bd F K = some z) (kk : ∀ (H1 : Heap) (locs1 : List Loc) (q : Int32), K q = some z → fw D A H0 (wf u0) H1 locs1 → W p l e R s m args below meth c H1 locs1 cells slots Q (F0 m (pc + 3) ls (tv ad q :: rest))) : W p l e R s m args below meth c H locs cells slots Q (F0 m pc ls st0) :=
  fx_sV (fun q => (some (tv ad q))) (fun q => u0) hC hls hM hY hV hl hR hn hK hA hw he hc hq hst hW hdg hcs h kk
theorem fx_sSr {β : Type} {F : Option (Int32)} {K : Int32 → Option β} {z : β} (hC : fx_C p s m args meth c cc own nL) (hls : ls.size = nL) (hM : ∀ q, F = some q → MX l D tys wf y (.code y bytes maxL ret) fr lo As u0 (some (.int q)) u0) (hY : fx_Y y bytes maxL ret n) (hV : Cond.static y ∈ gA) (hl : Cond.methodLink own index y ∈ gA) (hR : fr + 1 ≤ R.frames ∧ 8 + (maxL + 11) + lo ≤ R.locals) (hn : As.length = n) (hK : va_K D vC tys s) (hA : ∀ q, H0.size ≤ q → A q) (hw : fw D A H0 (wf u0) H locs) (hst : st0 = As.reverse ++ rest) (hW : (rest.map fun v => v.category).sum ≤ 8) (hdg : decode cc pc = .ok (.invokestatic index, 3)) (hcs : cells ≤ R.cells ∧ slots ≤ R.slots) (h : k_bd F K = some z) (kk : ∀ (H1 : Heap) (locs1 : List Loc) (q : Int32), K q = some z → fw D A H0 (wf u0) H1 locs1 → W p l e R s m args below meth c H1 locs1 cells slots Q (F0 m (pc + 3) ls (.int q :: rest))) : W p l e R s m args below meth c H locs cells slots Q (F0 m pc ls st0) :=
  fx_sS (fun q => (some (.int q))) (fun q => u0) hC hls hM hY hV hl hR hn hK hA hw hst hW hdg hcs h kk
end FY
def us (x y : Int32) : Int32 := (x.toUInt32 >>> (y.toUInt32 &&& Int32.toUInt32 31)).toInt32
/-- a switch's way out: x is none of 0 .. n -/
theorem sw_out (n : Nat) (hn : n + 1 < 2147483648) {x : Int32} (h : ∀ k : Nat, k ≤ n → ¬ x = nI k) : x.toInt < 0 ∨ (n : Int) < x.toInt := by
  rcases pk_ix x (n := n + 1) hn with h1 | h1 | ⟨j, hj, e⟩
  · left; rw [Int32.lt_iff_toInt_lt] at h1; exact h1
  · right; rw [Int32.le_iff_toInt_le, nI_toInt (n := n + 1) hn] at h1; omega
  · exact absurd e (h j (by omega))

theorem sw_out3 {x : Int32} (h0 : ¬ x = 0) (h1 : ¬ x = 1) (h2 : ¬ x = 2) (h3 : ¬ x = 3) : x.toInt < 0 ∨ (3 : Int) < x.toInt := sw_out 3 (by decide) (fun k hk => by
  have hk2 : k = 0 ∨ k = 1 ∨ k = 2 ∨ k = 3 := by omega
  rcases hk2 with rfl | rfl | rfl | rfl
  · exact h0
  · exact h1
  · exact h2
  · exact h3)
theorem sw_out4 {x : Int32} (h0 : ¬ x = 0) (h1 : ¬ x = 1) (h2 : ¬ x = 2) (h3 : ¬ x = 3) (h4 : ¬ x = 4) : x.toInt < 0 ∨ (4 : Int) < x.toInt := sw_out 4 (by decide) (fun k hk => by
  have hk2 : k = 0 ∨ k = 1 ∨ k = 2 ∨ k = 3 ∨ k = 4 := by omega
  rcases hk2 with rfl | rfl | rfl | rfl | rfl
  · exact h0
  · exact h1
  · exact h2
  · exact h3
  · exact h4)
theorem sw_out5 {x : Int32} (h0 : ¬ x = 0) (h1 : ¬ x = 1) (h2 : ¬ x = 2) (h3 : ¬ x = 3) (h4 : ¬ x = 4) (h5 : ¬ x = 5) : x.toInt < 0 ∨ (5 : Int) < x.toInt := sw_out 5 (by decide) (fun k hk => by
  have hk2 : k = 0 ∨ k = 1 ∨ k = 2 ∨ k = 3 ∨ k = 4 ∨ k = 5 := by omega
  rcases hk2 with rfl | rfl | rfl | rfl | rfl | rfl
  · exact h0
  · exact h1
  · exact h2
  · exact h3
  · exact h4
  · exact h5)
theorem sw_out6 {x : Int32} (h0 : ¬ x = 0) (h1 : ¬ x = 1) (h2 : ¬ x = 2) (h3 : ¬ x = 3) (h4 : ¬ x = 4) (h5 : ¬ x = 5) (h6 : ¬ x = 6) : x.toInt < 0 ∨ (6 : Int) < x.toInt := sw_out 6 (by decide) (fun k hk => by
  have hk2 : k = 0 ∨ k = 1 ∨ k = 2 ∨ k = 3 ∨ k = 4 ∨ k = 5 ∨ k = 6 := by omega
  rcases hk2 with rfl | rfl | rfl | rfl | rfl | rfl | rfl
  · exact h0
  · exact h1
  · exact h2
  · exact h3
  · exact h4
  · exact h5
  · exact h6)
theorem sw_out9 {x : Int32} (h0 : ¬ x = 0) (h1 : ¬ x = 1) (h2 : ¬ x = 2) (h3 : ¬ x = 3) (h4 : ¬ x = 4) (h5 : ¬ x = 5) (h6 : ¬ x = 6) (h7 : ¬ x = 7) (h8 : ¬ x = 8) (h9 : ¬ x = 9) : x.toInt < 0 ∨ (9 : Int) < x.toInt := sw_out 9 (by decide) (fun k hk => by
  have hk2 : k = 0 ∨ k = 1 ∨ k = 2 ∨ k = 3 ∨ k = 4 ∨ k = 5 ∨ k = 6 ∨ k = 7 ∨ k = 8 ∨ k = 9 := by omega
  rcases hk2 with rfl | rfl | rfl | rfl | rfl | rfl | rfl | rfl | rfl | rfl
  · exact h0
  · exact h1
  · exact h2
  · exact h3
  · exact h4
  · exact h5
  · exact h6
  · exact h7
  · exact h8
  · exact h9)
