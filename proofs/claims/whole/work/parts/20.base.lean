/-! pure part: states, rows, numbers -/
theorem ss_1 (u : ST) (k : Nat) (x : Int32) (j : Nat) : (ss u k x).1 j = if j = k then x else u.1 j := rfl
theorem ss_2 (u : ST) (k : Nat) (x : Int32) : (ss u k x).2 = u.2 := rfl
theorem rs_1 (u : ST) (k i : Nat) (x : Int32) : (rs u k i x).1 = u.1 := rfl
theorem rs_2 (u : ST) (k i : Nat) (x : Int32) (j : Nat) : (rs u k i x).2 j = if j = k then upd (u.2 k) i x else u.2 j := rfl
theorem ss_s (u : ST) (k : Nat) (x : Int32) : (ss u k x).1 k = x := if_pos rfl
theorem ss_n {k j : Nat} (u : ST) (x : Int32) (h : j ≠ k) : (ss u k x).1 j = u.1 j := if_neg h
theorem rs_s (u : ST) (k i : Nat) (x : Int32) : (rs u k i x).2 k = upd (u.2 k) i x := if_pos rfl
theorem rs_n {k j : Nat} (u : ST) (i : Nat) (x : Int32) (h : j ≠ k) : (rs u k i x).2 j = u.2 j := if_neg h
theorem st_ext {u v : ST} (h1 : ∀ j, u.1 j = v.1 j) (h2 : ∀ k i, u.2 k i = v.2 k i) : u = v := Prod.ext (funext h1) (funext fun k => funext (h2 k))
theorem k_bd_s {α β : Type} (a : α) (k : α → Option β) : k_bd (some a) k = k a := rfl
theorem k_let_s {α β : Type} (a : α) (k : α → Option β) : k_let a k = k a := rfl
theorem k_gd_t {β : Type} {c : Prop} [Decidable c] (k : Option β) (h : c) : k_gd c k = k := if_pos h
theorem inbN {n N : Nat} (h : n < N) (hN : N < 2 ^ 31) : inb (nI n) N := ⟨nI_pos (by omega), by rw [nI_clamp (by omega)]; exact h⟩
theorem inbE {x : Int32} {n N : Nat} (e : x = nI n) (h : n < N) (hN : N < 2 ^ 31) : inb x N := by rw [e]; exact inbN h hN
/-- a byte more in a row: array a, count c -/
def p1 (a c : Nat) (u : ST) (b : Int32) : ST := ss (rs u a (u.1 c).toNatClampNeg b) c (u.1 c + 1)
def pL (a c : Nat) : ST → List Int32 → ST
  | u, [] => u
  | u, b :: L => pL a c (p1 a c u b) L
theorem p1_c (a c : Nat) (u : ST) (b : Int32) : (p1 a c u b).1 c = u.1 c + 1 := ss_s _ _ _
theorem p1_n {a c j : Nat} (u : ST) (b : Int32) (h : j ≠ c) : (p1 a c u b).1 j = u.1 j := ss_n _ _ h
theorem p1_a (a c : Nat) (u : ST) (b : Int32) : (p1 a c u b).2 a = upd (u.2 a) (u.1 c).toNatClampNeg b := rs_s _ _ _ _
theorem p1_m {a c k : Nat} (u : ST) (b : Int32) (h : k ≠ a) : (p1 a c u b).2 k = u.2 k := rs_n _ _ _ h
theorem pL_nil (a c : Nat) (u : ST) : pL a c u [] = u := rfl
theorem pL_cons (a c : Nat) (u : ST) (b : Int32) (L : List Int32) : pL a c u (b :: L) = pL a c (p1 a c u b) L := rfl
theorem pL_one (a c : Nat) (u : ST) (b : Int32) : p1 a c u b = pL a c u [b] := rfl
theorem pL_app (a c : Nat) (u : ST) (L M : List Int32) : pL a c (pL a c u L) M = pL a c u (L ++ M) := by
  induction L generalizing u with
  | nil => rfl
  | cons b L ih => exact ih (p1 a c u b)
theorem pL_n {a c j : Nat} (u : ST) (L : List Int32) (h : j ≠ c) : (pL a c u L).1 j = u.1 j := by
  induction L generalizing u with
  | nil => rfl
  | cons b L ih => rw [pL_cons, ih, p1_n _ _ h]
theorem pL_m {a c k : Nat} (u : ST) (L : List Int32) (h : k ≠ a) : (pL a c u L).2 k = u.2 k := by
  induction L generalizing u with
  | nil => rfl
  | cons b L ih => rw [pL_cons, ih, p1_m _ _ h]
theorem pL_c {a c n : Nat} (u : ST) (L : List Int32) (h : u.1 c = nI n) : (pL a c u L).1 c = nI (n + L.length) := by
  induction L generalizing u n with
  | nil => exact h
  | cons b L ih =>
    rw [pL_cons, ih (n := n + 1) (p1 a c u b) (by rw [p1_c, h, nI_1])]
    congr 1
    simp only [List.length_cons]
    omega
theorem pL_old {a c n : Nat} (u : ST) (L : List Int32) (h : u.1 c = nI n) (hn : n + L.length < 2 ^ 31) {i : Nat} (hi : i < n) : (pL a c u L).2 a i = u.2 a i := by
  induction L generalizing u n with
  | nil => rfl
  | cons b L ih =>
    simp only [List.length_cons] at hn
    rw [pL_cons, ih (n := n + 1) (p1 a c u b) (by rw [p1_c, h, nI_1]) (by omega) (by omega), p1_a, h, nI_clamp (by omega), pk_un (by omega)]
theorem pL_new {a c n : Nat} (u : ST) (L : List Int32) (h : u.1 c = nI n) (hn : n + L.length < 2 ^ 31) {i : Nat} {x : Int32} (hi : L[i]? = some x) : (pL a c u L).2 a (n + i) = x := by
  induction L generalizing u n i with
  | nil => cases hi
  | cons b L ih =>
    simp only [List.length_cons] at hn
    have h1 : (p1 a c u b).1 c = nI (n + 1) := by rw [p1_c, h, nI_1]
    cases i with
    | zero =>
      cases hi
      rw [pL_cons, pL_old (n := n + 1) _ L h1 (by omega) (by omega), p1_a, h, nI_clamp (by omega)]
      exact pk_us
    | succ i =>
      have h2 : L[i]? = some x := hi
      have := ih (n := n + 1) (p1 a c u b) h1 (by omega) h2
      rw [pL_cons, show n + (i + 1) = n + 1 + i by omega]
      exact this
theorem p1_eq {a c n : Nat} {u : ST} (b : Int32) (h : u.1 c = nI n) : p1 a c u b = ss (rs u a n b) c (nI (n + 1)) ∨ 2 ^ 31 ≤ n := by
  by_cases hn : n < 2 ^ 31
  · left
    unfold p1
    rw [h, nI_clamp hn, nI_1]
  · right
    omega
/-- the first n of a row -/
def tk (f : Nat → Int32) (n : Nat) : List Int32 := (List.range n).map f
theorem tk_len (f : Nat → Int32) (n : Nat) : (tk f n).length = n := by simp [tk]
theorem tk_at (f : Nat → Int32) {n i : Nat} (h : i < n) : (tk f n)[i]? = some (f i) := by simp [tk, h]
theorem tk_0 (f : Nat → Int32) : tk f 0 = [] := rfl
theorem tk_succ (f : Nat → Int32) (n : Nat) : tk f (n + 1) = tk f n ++ [f n] := by simp [tk, List.range_succ]
theorem tk_eq {f g : Nat → Int32} {n : Nat} (h : ∀ i, i < n → f i = g i) : tk f n = tk g n := by
  unfold tk
  exact List.map_congr_left (fun i hi => h i (List.mem_range.mp hi))
theorem pL_tk {a c : Nat} (u : ST) (L : List Int32) (h : u.1 c = nI 0) (hn : L.length < 2 ^ 31) : tk ((pL a c u L).2 a) L.length = L := by
  apply List.ext_getElem?
  intro i
  by_cases hi : i < L.length
  · rw [tk_at _ hi, List.getElem?_eq_getElem hi]
    have := pL_new (a := a) u L h (by omega) (List.getElem?_eq_getElem hi)
    rw [Nat.zero_add] at this
    rw [this]
  · rw [List.getElem?_eq_none (by rw [tk_len]; omega), List.getElem?_eq_none (by omega)]
/-- small numbers -/
def sm (k : Nat) (x : Int32) : Prop := ∃ n : Nat, n < 2 ^ k ∧ x = nI n
theorem nI_xor {a b : Nat} (ha : a < 2 ^ 16) (hb : b < 2 ^ 16) : nI a ^^^ nI b = nI (a ^^^ b) := by
  have hx : a ^^^ b < 2 ^ 16 := Nat.xor_lt_two_pow ha hb
  apply Int32.toBitVec_inj.mp
  apply BitVec.eq_of_toNat_eq
  rw [Int32.toBitVec_xor, BitVec.toNat_xor, pk_tn (by omega), pk_tn (by omega), pk_tn (by omega)]
theorem sm_xor {x y : Int32} (hx : sm 16 x) (hy : sm 16 y) : sm 16 (x ^^^ y) := by
  obtain ⟨a, ha, rfl⟩ := hx
  obtain ⟨b, hb, rfl⟩ := hy
  exact ⟨a ^^^ b, Nat.xor_lt_two_pow ha hb, nI_xor ha hb⟩
theorem us1 {n : Nat} (h : n < 2 ^ 31) : us (nI n) 1 = nI (n / 2) := pk_ushrN (n := n) (by omega) 1 1 (by decide)
theorem and1 {n : Nat} (h : n < 2 ^ 31) : nI n &&& 1 = nI (n % 2) := pk_andN (n := n) (by omega) 1 (by decide)
theorem div2 {n : Nat} (h : n < 2 ^ 31) : nI n / 2 = nI (n / 2) := pk_div (d := 2) h (by decide) (by decide)
theorem rem2 {n : Nat} (h : n < 2 ^ 31) : nI n - nI n / 2 * 2 = nI (n % 2) := pk_rem (d := 2) h (by decide) (by decide)
/-- the check's step: k bits -/
def wbl : Nat → Int32 → Int32 → Int32
  | 0, _, x => x
  | k + 1, m, x => wbl k m (if x &&& 1 = 1 then us x 1 ^^^ m else us x 1)
def wb (m c b : Int32) : Int32 := wbl 8 m (c ^^^ b)
theorem wbl_C (m : Int32) : ∀ (k : Nat), k ≤ 8 → ∀ (e : Nat), k < e → ∀ x, f_Chk_withByte_L7 e m x (nI (8 - k)) = some (wbl k m x) := by
  intro k
  induction k with
  | zero =>
    intro _ e he x
    obtain ⟨e, rfl⟩ : ∃ e', e = e' + 1 := ⟨e - 1, by omega⟩
    rw [f_Chk_withByte_L7, if_pos (by decide)]
    rfl
  | succ k ih =>
    intro hk e he x
    obtain ⟨e, rfl⟩ : ∃ e', e = e' + 1 := ⟨e - 1, by omega⟩
    rw [f_Chk_withByte_L7, if_neg (show ¬ (8 : Int32) ≤ nI (8 - (k + 1)) from nI_ge (a := 8 - (k + 1)) (b := 8) (by omega) (by decide))]
    rw [nI_1, show 8 - (k + 1) + 1 = 8 - k by omega, ih (by omega) e (by omega), ih (by omega) e (by omega)]
    show _ = some (wbl k m (if x &&& 1 = 1 then us x 1 ^^^ m else us x 1))
    by_cases h : x &&& 1 = 1
    · rw [if_pos h, if_pos h]
    · rw [if_neg h, if_neg h]
theorem wb_C (c b m : Int32) : f_Chk_withByte c b m = some (wb m c b) := wbl_C m 8 (by decide) 200 (by decide) _
theorem sm_step {x m : Int32} (hx : sm 16 x) (hm : sm 16 m) : sm 16 (if x &&& 1 = 1 then us x 1 ^^^ m else us x 1) ∧ (if x - x / 2 * 2 = 1 then x / 2 ^^^ m else x / 2) = (if x &&& 1 = 1 then us x 1 ^^^ m else us x 1) := by
  obtain ⟨n, hn, rfl⟩ := hx
  rw [us1 (by omega), and1 (by omega), rem2 (by omega), div2 (by omega)]
  refine ⟨?_, rfl⟩
  have h2 : sm 16 (nI (n / 2)) := ⟨n / 2, by omega, rfl⟩
  by_cases h : nI (n % 2) = 1
  · rw [if_pos h]; exact sm_xor h2 hm
  · rw [if_neg h]; exact h2
theorem sm_wbl {m : Int32} (hm : sm 16 m) : ∀ (k : Nat) (x : Int32), sm 16 x → sm 16 (wbl k m x) := by
  intro k
  induction k with
  | zero => intro x h; exact h
  | succ k ih => intro x h; exact ih _ (sm_step h hm).1
theorem sm_wb {m c b : Int32} (hm : sm 16 m) (hc : sm 16 c) (hb : sm 16 b) : sm 16 (wb m c b) := sm_wbl hm 8 _ (sm_xor hc hb)
theorem sm129 : sm 16 129 := ⟨129, by decide, rfl⟩
theorem sm33800 : sm 16 33800 := ⟨33800, by decide, rfl⟩
theorem wbl_H : ∀ (k : Nat), k ≤ 8 → ∀ (e : Nat), k < e → ∀ x, sm 16 x → f_Mod_headerStep_L6 e x (nI (8 - k)) = some (wbl k 129 x) := by
  intro k
  induction k with
  | zero =>
    intro _ e he x _
    obtain ⟨e, rfl⟩ : ∃ e', e = e' + 1 := ⟨e - 1, by omega⟩
    rw [f_Mod_headerStep_L6, if_pos (by decide)]
    rfl
  | succ k ih =>
    intro hk e he x hx
    obtain ⟨e, rfl⟩ : ∃ e', e = e' + 1 := ⟨e - 1, by omega⟩
    have ⟨s1, s2⟩ := sm_step hx sm129
    rw [f_Mod_headerStep_L6, if_neg (show ¬ (8 : Int32) ≤ nI (8 - (k + 1)) from nI_ge (a := 8 - (k + 1)) (b := 8) (by omega) (by decide))]
    rw [nI_1, show 8 - (k + 1) + 1 = 8 - k by omega]
    have h3 := ih (by omega) e (by omega) _ s1
    rw [← s2] at h3
    show _ = some (wbl k 129 (if x &&& 1 = 1 then us x 1 ^^^ 129 else us x 1))
    rw [← s2, ← h3]
    by_cases h : x - x / 2 * 2 = 1
    · rw [if_pos h, if_pos h]
    · rw [if_neg h, if_neg h]
theorem wbl_D : ∀ (k : Nat), k ≤ 8 → ∀ (e : Nat), k < e → ∀ x, sm 16 x → f_Mod_dataStep_L6 e x (nI (8 - k)) = some (wbl k 33800 x) := by
  intro k
  induction k with
  | zero =>
    intro _ e he x _
    obtain ⟨e, rfl⟩ : ∃ e', e = e' + 1 := ⟨e - 1, by omega⟩
    rw [f_Mod_dataStep_L6, if_pos (by decide)]
    rfl
  | succ k ih =>
    intro hk e he x hx
    obtain ⟨e, rfl⟩ : ∃ e', e = e' + 1 := ⟨e - 1, by omega⟩
    have ⟨s1, s2⟩ := sm_step hx sm33800
    rw [f_Mod_dataStep_L6, if_neg (show ¬ (8 : Int32) ≤ nI (8 - (k + 1)) from nI_ge (a := 8 - (k + 1)) (b := 8) (by omega) (by decide))]
    rw [nI_1, show 8 - (k + 1) + 1 = 8 - k by omega]
    have h3 := ih (by omega) e (by omega) _ s1
    rw [← s2] at h3
    show _ = some (wbl k 33800 (if x &&& 1 = 1 then us x 1 ^^^ 33800 else us x 1))
    rw [← s2, ← h3]
    by_cases h : x - x / 2 * 2 = 1
    · rw [if_pos h, if_pos h]
    · rw [if_neg h, if_neg h]
theorem wb_H {c b : Int32} (hc : sm 16 c) (hb : sm 16 b) : f_Mod_headerStep c b = some (wb 129 c b) := wbl_H 8 (by decide) 200 (by decide) _ (sm_xor hc hb)
theorem wb_D {c b : Int32} (hc : sm 16 c) (hb : sm 16 b) : f_Mod_dataStep c b = some (wb 33800 c b) := wbl_D 8 (by decide) 200 (by decide) _ (sm_xor hc hb)
def crc (m c : Int32) (L : List Int32) : Int32 := L.foldl (wb m) c
theorem crc_app (m c : Int32) (L M : List Int32) : crc m c (L ++ M) = crc m (crc m c L) M := List.foldl_append
theorem crc_one (m c b : Int32) : crc m c [b] = wb m c b := rfl
theorem crc_cons (m c b : Int32) (L : List Int32) : crc m c (b :: L) = crc m (wb m c b) L := rfl
theorem sm_crc {m c : Int32} (hm : sm 16 m) (hc : sm 16 c) {L : List Int32} (hL : ∀ b ∈ L, sm 16 b) : sm 16 (crc m c L) := by
  induction L generalizing c with
  | nil => exact hc
  | cons b L ih => exact ih (sm_wb hm hc (hL b List.mem_cons_self)) (fun x hx => hL x (List.mem_cons_of_mem _ hx))
/-- a frame -/
def frm (ty to own : Int32) (D : List Int32) : List Int32 :=
  [85, 255, ty, to, own, 0, nI D.length, 255 - crc 129 255 [ty, to, own, 0, nI D.length]] ++ (if D.length = 0 then [] else D ++ [(65535 - crc 33800 65535 D) - (65535 - crc 33800 65535 D) / 256 * 256, (65535 - crc 33800 65535 D) / 256])
theorem frm_len (ty to own : Int32) (D : List Int32) : (frm ty to own D).length = if D.length = 0 then 8 else 10 + D.length := by
  unfold frm
  by_cases h : D.length = 0
  · rw [if_pos h, if_pos h]; rfl
  · rw [if_neg h, if_neg h]; simp; omega
