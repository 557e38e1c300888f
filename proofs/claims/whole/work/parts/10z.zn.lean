/-! a value as a number, the bounds of the cells, what a stretch of cells keeps -/
def zn (x : Int32) : Nat := x.toUInt32.toNat
theorem zn_eq (x : Int32) : x = nI (zn x) := by
  have h : Int32.ofNat x.toUInt32.toNat = x := by
    apply Int32.toBitVec_inj.mp
    show BitVec.ofNat 32 x.toBitVec.toNat = x.toBitVec
    exact BitVec.ofNat_toNat _ _ |>.trans (by simp)
  exact h.symm
theorem zn_lt (x : Int32) : zn x < 2 ^ 32 := UInt32.toNat_lt _
theorem zn_nI {n : Nat} (h : n < 2 ^ 32) : zn (nI n) = n := by
  show (BitVec.ofNat 32 n).toNat = n
  rw [BitVec.toNat_ofNat]; omega
theorem zn_inj {x y : Int32} (h : zn x = zn y) : x = y := by rw [zn_eq x, zn_eq y, h]
def zT9 : Nat := 4294967295
theorem zn_T (x : Int32) : zn x ≤ zT9 := by have := zn_lt x; unfold zT9; omega
/-- x as a, y as b: what the compares say -/
theorem z_le {x y : Int32} {a b : Nat} (hx : x = nI a) (hy : y = nI b) (ha : a < 2 ^ 31) (hb : b < 2 ^ 31) : x ≤ y ↔ a ≤ b := by subst hx hy; exact nI_leI ha hb
theorem z_lt {x y : Int32} {a b : Nat} (hx : x = nI a) (hy : y = nI b) (ha : a < 2 ^ 31) (hb : b < 2 ^ 31) : x < y ↔ a < b := by subst hx hy; exact nI_ltI ha hb
theorem z_eq {x y : Int32} {a b : Nat} (hx : x = nI a) (hy : y = nI b) (ha : a < 2 ^ 31) (hb : b < 2 ^ 31) : x = y ↔ a = b := by subst hx hy; exact nI_eq ha hb
theorem zn_and {x : Int32} (y : Int32) {m : Nat} (hm : zn y = m) : zn (x &&& y) ≤ m := by
  subst hm
  show (x.toBitVec &&& y.toBitVec).toNat ≤ _
  rw [BitVec.toNat_and]
  exact Nat.and_le_right
def zBd (i k : Nat) : Nat :=
  if i = 1 then (if k = 0 then 10 else if k = 1 then 9 else zT9)
  else if i = 4 then 60
  else if i = 10 ∨ i = 120 then 4
  else if (12 ≤ i ∧ i ≤ 21) ∨ i = 33 ∨ i = 118 ∨ i = 121 then 9
  else if i = 69 ∨ i = 105 then 59
  else if i = 37 ∨ i = 39 ∨ i = 41 ∨ i = 43 ∨ i = 73 ∨ i = 75 ∨ i = 77 ∨ i = 79 then (if k = 0 then 1 else if k = 1 then 1 else if k = 4 then 65535 else zT9)
  else if i = 0 ∨ i = 2 then 65535
  else if i = 123 then 1
  else if i = 111 then (if k = 13 then 10 else if k = 14 then 9 else zT9)
  else if i = 112 ∨ i = 113 then (if 600 ≤ k ∧ k < 610 then 59 else zT9)
  else zT9
def zG (c : Nat → Nat → Int32) : Prop := ∀ i k, zn (c i k) ≤ zBd i k
theorem zG.up {c : Nat → Nat → Int32} (h : zG c) {i k : Nat} {v : Int32} (hv : zn v ≤ zBd i k) : zG (zup c i k v) := fun i' k' => by
  rw [zup_at]
  by_cases h9 : i' = i ∧ k' = k
  · rw [if_pos h9, h9.1, h9.2]; exact hv
  · rw [if_neg h9]; exact h i' k'
def zfree (i : Nat) : Prop := i ≠ 0 ∧ i ≠ 1 ∧ i ≠ 2 ∧ i ≠ 4 ∧ i ≠ 10 ∧ i ≠ 120 ∧ (i < 12 ∨ 21 < i) ∧ i ≠ 33 ∧ i ≠ 118 ∧ i ≠ 121 ∧ i ≠ 69 ∧ i ≠ 105 ∧ i ≠ 37 ∧ i ≠ 39 ∧ i ≠ 41 ∧ i ≠ 43 ∧ i ≠ 73 ∧ i ≠ 75 ∧ i ≠ 77 ∧ i ≠ 79 ∧ i ≠ 123 ∧ i ≠ 111 ∧ i ≠ 112 ∧ i ≠ 113
theorem zBd_free {i k : Nat} (h : zfree i) : zBd i k = zT9 := by
  obtain ⟨h0, h1, h2, h3, h4, h5, h6, h7, h8, h9, h10, h11, h12, h13, h14, h15, h16, h17, h18, h19, h20, h21, h22, h23⟩ := h
  unfold zBd
  rw [if_neg h1, if_neg h3, if_neg (by omega), if_neg (by omega), if_neg (by omega), if_neg (by omega), if_neg (by omega), if_neg h20, if_neg h21, if_neg (by omega)]
theorem zG.free {c : Nat → Nat → Int32} (h : zG c) {i k : Nat} {v : Int32} (hi : zfree i) : zG (zup c i k v) := h.up (by rw [zBd_free hi]; exact zn_T v)
theorem zG.upf {c : Nat → Nat → Int32} (h : zG c) {i : Nat} {f : Nat → Int32} (hf : ∀ k, zn (f k) ≤ zBd i k) : zG (va_up c i f) := fun i' k' => by
  by_cases h9 : i' = i
  · subst h9; simp only [va_up, if_true]; exact hf k'
  · simp only [va_up, if_neg h9]; exact h i' k'
theorem zBd_src {j : Nat} (hj : j < 10) (k : Nat) : zBd (12 + j) k = 9 := by
  unfold zBd
  rw [if_neg (by omega), if_neg (by omega), if_neg (by omega), if_pos (by omega)]
theorem zG.src {c : Nat → Nat → Int32} (h : zG c) {j : Nat} (hj : j < 10) (k : Nat) : zn (c (12 + j) k) ≤ 9 := by have := h (12 + j) k; rwa [zBd_src hj] at this
theorem zBd_old {o : Nat} (ho : zTk o) (k : Nat) : zBd (o + 35) k = 59 := by rcases ho with rfl | rfl <;> rfl
theorem zG.old {c : Nat → Nat → Int32} (h : zG c) {o : Nat} (ho : zTk o) (k : Nat) : zn (c (o + 35) k) ≤ 59 := by have := h (o + 35) k; rwa [zBd_old ho] at this
theorem zBd_pl {k : Nat} (hk : k < 10) : zBd 112 (600 + k) = 59 := by
  show (if 600 ≤ 600 + k ∧ 600 + k < 610 then 59 else zT9) = 59
  rw [if_pos (by omega)]
theorem zG.pl {c : Nat → Nat → Int32} (h : zG c) {k : Nat} (hk : k < 10) : zn (c 112 (600 + k)) ≤ 59 := by have := h 112 (600 + k); rwa [zBd_pl hk] at this
theorem zBd_npl {k : Nat} (hk : k < 600 ∨ 610 ≤ k) : zBd 112 k = zT9 := by
  show (if 600 ≤ k ∧ k < 610 then 59 else zT9) = zT9
  rw [if_neg (by omega)]
theorem zG.npl {c : Nat → Nat → Int32} (h : zG c) {k : Nat} {v : Int32} (hk : k < 600 ∨ 610 ≤ k) : zG (zup c 112 k v) := h.up (by rw [zBd_npl hk]; exact zn_T v)
theorem zBd_vc {o v : Nat} (ho : zTk o) (hv : v < 4) (k : Nat) : zBd (o + 3 + 2 * v) k = if k = 0 then 1 else if k = 1 then 1 else if k = 4 then 65535 else zT9 := by
  rcases ho with rfl | rfl <;>
  rcases (show v = 0 ∨ v = 1 ∨ v = 2 ∨ v = 3 by omega) with rfl | rfl | rfl | rfl <;> rfl
theorem zG.vb {c : Nat → Nat → Int32} (h : zG c) {o v : Nat} (ho : zTk o) (hv : v < 4) : zn (c (o + 3 + 2 * v) 0) ≤ 1 ∧ zn (c (o + 3 + 2 * v) 1) ≤ 1 ∧ zn (c (o + 3 + 2 * v) 4) ≤ 65535 := by
  have h0 := h (o + 3 + 2 * v) 0
  have h1 := h (o + 3 + 2 * v) 1
  have h4 := h (o + 3 + 2 * v) 4
  rw [zBd_vc ho hv] at h0 h1 h4
  exact ⟨h0, h1, h4⟩
theorem zG.vup {c : Nat → Nat → Int32} (h : zG c) {o v k : Nat} {x : Int32} (ho : zTk o) (hv : v < 4) (hx : zn x ≤ if k = 0 then 1 else if k = 1 then 1 else if k = 4 then 65535 else zT9) : zG (zup c (o + 3 + 2 * v) k x) := h.up (by rw [zBd_vc ho hv]; exact hx)
theorem zn_b {z : Int32} (h : zn z ≤ 1) : z = 0 ∨ z = 1 := by
  rcases (show zn z = 0 ∨ zn z = 1 by omega) with h9 | h9
  · exact Or.inl (zn_inj h9)
  · exact Or.inr (zn_inj h9)
theorem znar_b {z : Int32} (h : zn z ≤ 1) : narrow .boolean (.int z) = .int z := by rcases zn_b h with rfl | rfl <;> rfl
theorem zfit_b {z : Int32} (h : zn z ≤ 1) : fits .boolean (.int z) = true := by rcases zn_b h with rfl | rfl <;> rfl
/-- only cells from lo on and before hi, or from r on and before r9, have changed -/
def zfr (lo hi r r9 : Nat) (c c' : Nat → Nat → Int32) : Prop := ∀ i, (i < lo ∨ hi ≤ i) ∧ (i < r ∨ r9 ≤ i) → c' i = c i
theorem zfr.refl {lo hi r r9 : Nat} {c : Nat → Nat → Int32} : zfr lo hi r r9 c c := fun _ _ => rfl
theorem zfr.up {lo hi r r9 : Nat} {c c' : Nat → Nat → Int32} (h : zfr lo hi r r9 c c') {i k : Nat} {v : Int32} (h9 : (lo ≤ i ∧ i < hi) ∨ (r ≤ i ∧ i < r9)) : zfr lo hi r r9 c (zup c' i k v) := fun i' h' => by
  rw [zup_i _ _ _ (show i' ≠ i by omega)]; exact h i' h'
theorem zfr.upf {lo hi r r9 : Nat} {c c' : Nat → Nat → Int32} (h : zfr lo hi r r9 c c') {i : Nat} {f : Nat → Int32} (h9 : (lo ≤ i ∧ i < hi) ∨ (r ≤ i ∧ i < r9)) : zfr lo hi r r9 c (va_up c' i f) := fun i' h' => by
  have h8 : i' ≠ i := by omega
  rw [show va_up c' i f i' = c' i' by simp [va_up, h8]]; exact h i' h'
theorem zfr.call {lo hi r r9 lo' hi' r' r8 : Nat} {c c' c'' : Nat → Nat → Int32} (h : zfr lo hi r r9 c c') (h2 : zfr lo' hi' r' r8 c' c'') (hb : (lo ≤ lo' ∧ hi' ≤ hi) ∧ ((r ≤ r' ∧ r8 ≤ r9) ∨ (lo ≤ r' ∧ r8 ≤ hi) ∨ r8 ≤ r')) : zfr lo hi r r9 c c'' := fun i h' => by
  rw [h2 i (by omega)]; exact h i h'
theorem zG.upff {c : Nat → Nat → Int32} (h : zG c) {i : Nat} {f : Nat → Int32} (hi : zfree i) : zG (va_up c i f) := h.upf (fun k => by rw [zBd_free hi]; exact zn_T _)
theorem znar_c {z : Int32} (h : zn z ≤ 65535) : narrow .char (.int z) = .int z := by
  have h9 : z.toUInt32.toNat ≤ 65535 := h
  show Value.int (z.toUInt32 % 65536).toInt32 = .int z
  have e : z.toUInt32 % 65536 = z.toUInt32 := by
    apply UInt32.toNat_inj.mp
    rw [UInt32.toNat_mod]
    exact Nat.mod_eq_of_lt (by show _ < 65536; omega)
  rw [e]
  rfl
theorem zfit_c {z : Int32} (h : zn z ≤ 65535) : fits .char (.int z) = true := by
  have h1 : (0 : Int32) ≤ z := (z_le (a := 0) rfl (zn_eq z) (by omega) (by omega)).mpr (by omega)
  have h2 : z ≤ 65535 := (z_le (b := 65535) (zn_eq z) rfl (by omega) (by omega)).mpr h
  show (decide _ && decide _) = true
  rw [decide_eq_true h1, decide_eq_true h2]; rfl
theorem zn_add {x : Int32} {N : Nat} (h : zn x < N) (hN : N < 2 ^ 31) : zn (x + 1) = zn x + 1 := by
  have e : x + 1 = nI (zn x + 1) := by rw [← nI_1, ← zn_eq]
  rw [e, zn_nI (by omega)]
theorem zn_inc {x : Int32} {N : Nat} (h : zn x < N) (hN : N < 2 ^ 31) : zn (x + 1) ≤ N := by rw [zn_add h hN]; omega
theorem nI_pre {i : Nat} (h : 1 ≤ i) : nI i - 1 = nI (i - 1) := by
  obtain ⟨j, rfl⟩ : ∃ j, i = j + 1 := ⟨i - 1, by omega⟩
  exact nI_pred j
theorem zn_dec {x : Int32} {N : Nat} (h : zn x ≤ N) (h1 : 1 ≤ zn x) : zn (x - 1) ≤ N := by
  have e : x - 1 = nI (zn x - 1) := by rw [← nI_pre h1, ← zn_eq]
  have := zn_lt x
  rw [e, zn_nI (by omega)]; omega
theorem zn_rng {x lo hi : Int32} {a b' : Nat} (hlo : lo = nI a) (hhi : hi = nI b') (hb : b' < 2 ^ 31) (ha : a < 2 ^ 31) (h1 : ¬ x < lo) (h2 : ¬ hi < x) : a ≤ zn x ∧ zn x ≤ b' := by
  have h0 : ¬ x < 0 := fun q => h1 (by
    rcases Nat.eq_zero_or_pos a with h | h
    · subst h; rw [hlo]; exact q
    · exact Int32.lt_trans q ((z_lt (a := 0) rfl hlo (by omega) (by omega)).mpr h))
  obtain ⟨j, hj, rfl⟩ := nI_of h0
  have a1 : ¬ j < a := fun q => h1 ((z_lt rfl hlo (by omega) (by omega)).mpr q)
  have a2 : ¬ b' < j := fun q => h2 ((z_lt hhi rfl (by omega) (by omega)).mpr q)
  rw [zn_nI (by omega)]; omega
def xb {α β : Type} (m : String ⊕ α) (f : α → String ⊕ β) : String ⊕ β := match m with
  | .inl X => .inl X
  | .inr u => f u
theorem xb_inl {α β : Type} {m : String ⊕ α} {f : α → String ⊕ β} {M : String ⊕ β} {X : String} (h : xb m f = M) (hm : m = .inl X) : M = .inl X := by rw [← h, hm]; rfl
theorem xb_inr {α β : Type} {m : String ⊕ α} {f : α → String ⊕ β} {M : String ⊕ β} {u : α} (h : xb m f = M) (hm : m = .inr u) : f u = M := by rw [← h, hm]; rfl
