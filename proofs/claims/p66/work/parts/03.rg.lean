abbrev SU : Type := (Nat → Int32) × (Nat → Nat → Int32) × (Nat → Nat → Int64)
abbrev rg (lo hi : Int) (x : Int32) : Prop := lo ≤ x.toInt ∧ x.toInt ≤ hi
abbrev rl (lo hi : Int) (x : Int64) : Prop := lo ≤ x.toInt ∧ x.toInt ≤ hi
def ar (lo hi : Int) (f : Nat → Int32) : Prop := ∀ i : Nat, rg lo hi (f i)
def arl (lo hi : Int) (f : Nat → Int64) : Prop := ∀ i : Nat, rl lo hi (f i)
theorem rg_t (x : Int32) : rg (-2147483648) 2147483647 x := ⟨Int32.le_toInt x, by have := Int32.toInt_lt x; omega⟩
theorem rl_t (x : Int64) : rl (-9223372036854775808) 9223372036854775807 x := ⟨Int64.le_toInt x, by have := Int64.toInt_lt x; omega⟩
theorem ar_w {a b c d : Int} {f : Nat → Int32} (h : ar a b f) (k : c ≤ a ∧ b ≤ d) : ar c d f := fun i => ⟨Int.le_trans k.1 (h i).1, Int.le_trans (h i).2 k.2⟩
theorem arl_w {a b c d : Int} {f : Nat → Int64} (h : arl a b f) (k : c ≤ a ∧ b ≤ d) : arl c d f := fun i => ⟨Int.le_trans k.1 (h i).1, Int.le_trans (h i).2 k.2⟩
theorem ar_u {a b : Int} {f : Nat → Int32} {i : Nat} {v : Int32} (h : ar a b f) (hv : rg a b v) : ar a b (upd f i v) := fun k => by
  show rg a b (upd f i v k)
  unfold upd
  split
  · exact hv
  · exact h k
theorem arl_u {a b : Int} {f : Nat → Int64} {i : Nat} {v : Int64} (h : arl a b f) (hv : rl a b v) : arl a b (vp_updL f i v) := fun k => by
  show rl a b (vp_updL f i v k)
  unfold vp_updL
  split
  · exact hv
  · exact h k
theorem ar_cpy {a b : Int} {f g : Nat → Int32} {i j n : Nat} (h : ar a b f) (h2 : ar a b g) : ar a b (va_cpy f g i j n) := fun k => by
  show rg a b (va_cpy f g i j n k)
  unfold va_cpy
  split
  · exact h _
  · exact h2 k
theorem req {a : Int} {x y : Int32} (h : rg a a x) (hy : y.toInt = a) : x = y := e_of (by omega)
theorem rne {a b c : Int} {x y : Int32} (h : rg a b x) (hy : y.toInt = c) (k : c < a ∨ b < c) : ¬ x = y := fun q => by subst q; omega
theorem rne0 {a b : Int} {x : Int32} (h : rg a b x) (k : 0 < a ∨ b < 0) : ¬ x = 0 := rne h (y := 0) (c := 0) (by decide) k
theorem rlne0 {a b : Int} {x : Int64} (h : rl a b x) (k : 0 < a ∨ b < 0) : ¬ x = 0 := fun q => by subst q; have : (0 : Int64).toInt = 0 := (by decide); omega
theorem nar_rg {r : Int32} (h : rg 0 1 r) : narrow .boolean (.int r) = .int r := by
  rcases (show r.toInt = 0 ∨ r.toInt = 1 by omega) with q | q
  · obtain rfl : r = 0 := e_of q
    rfl
  · obtain rfl : r = 1 := e_of q
    rfl
theorem in_rg {x : Int32} {n : Nat} {a b : Int} (h : rg a b x) (k : 0 ≤ a ∧ b < n) : vp_in x n := in_of (by omega) (by omega)
theorem ms_e (x : Int32) : 2147483648 ≤ x.toInt + ((4294967296 : Nat) : Int) := by have := Int32.le_toInt x; omega
theorem md_e (x : Int32) : - 2147483649 ≥ x.toInt - ((4294967296 : Nat) : Int) := by have := Int32.toInt_lt x; omega
theorem inc_z {a b e f n : Int} {x z : Int32} (h : rg a b x) (q : z = x + Int32.ofInt n) (k : (a + n = e ∧ b + n = f) ∧ -2147483648 ≤ e ∧ f ≤ 2147483647 ∧ -2147483648 ≤ n ∧ n ≤ 2147483647) : rg e f z ∧ z.toInt = x.toInt + n := by
  have h1 : (Int32.ofInt n).toInt = n := Int32.toInt_ofInt_of_le (by omega) (by omega)
  have h2 : z.toInt = x.toInt + n := by rw [q, Int32.toInt_add, h1]; exact Int.bmod_eq_of_le (by omega) (by omega)
  omega
theorem bk_i {z x : Int32} {c a b a0 b0 a1 b1 : Int} (e : z.toInt = x.toInt + c) (h : rg a0 b0 z) (h1 : rg a1 b1 x) (k : (a ≤ a1 ∨ a ≤ a0 - c) ∧ (b1 ≤ b ∨ b0 - c ≤ b)) : rg a b x := by omega
theorem bk_l {z x : Int64} {c a b a0 b0 a1 b1 : Int} (e : z.toInt = x.toInt + c) (h : rl a0 b0 z) (h1 : rl a1 b1 x) (k : (a ≤ a1 ∨ a ≤ a0 - c) ∧ (b1 ≤ b ∨ b0 - c ≤ b)) : rl a b x := by omega
theorem bk_li {z : Int64} {x : Int32} {c a b a0 b0 a1 b1 : Int} (e : z.toInt = x.toInt + c) (h : rl a0 b0 z) (h1 : rg a1 b1 x) (k : (a ≤ a1 ∨ a ≤ a0 - c) ∧ (b1 ≤ b ∨ b0 - c ≤ b)) : rg a b x := by omega
theorem bk_il {z : Int32} {x : Int64} {c a b a0 b0 a1 b1 : Int} (e : z.toInt = x.toInt + c) (h : rg a0 b0 z) (h1 : rl a1 b1 x) (k : (a ≤ a1 ∨ a ≤ a0 - c) ∧ (b1 ≤ b ∨ b0 - c ≤ b)) : rl a b x := by omega
theorem fw_i {z x : Int32} {c a b a0 b0 a1 b1 : Int} (e : z.toInt = x.toInt + c) (h : rg a0 b0 x) (h1 : rg a1 b1 z) (k : (a ≤ a1 ∨ a ≤ a0 + c) ∧ (b1 ≤ b ∨ b0 + c ≤ b)) : rg a b z := by omega
theorem bk_2 {z x : Int32} {a b a0 b0 a1 b1 : Int} (e : z.toInt = x.toInt + x.toInt) (h : rg a0 b0 z) (h1 : rg a1 b1 x) (k : (a ≤ a1 ∨ 2 * a - 1 ≤ a0) ∧ (b1 ≤ b ∨ b0 ≤ 2 * b + 1)) : rg a b x := by omega
theorem in_im {a b c d : Int} {x y z : Int64} (h : y.toInt ≤ x.toInt ∧ x.toInt ≤ z.toInt) (h1 : rl a b y) (h2 : rl c d z) : rl a d x := by omega
theorem or_z (x : Int32) : x ||| 0 = x := Int32.or_zero
theorem nneg {x : Int32} {a b : Int} (h : rg a b x) (k : 0 ≤ a) : ¬ x < 0 := fun q => by have := i_lt q; have : (0 : Int32).toInt = 0 := (by decide); omega
theorem cp_le {x y : Int32} {a b c d : Int} (hx : rg a b x) (hy : rg c d y) (k : 0 ≤ a ∧ 0 ≤ c) (h : x.toInt + y.toInt ≤ 60) : x.toNatClampNeg + y.toNatClampNeg ≤ 60 := by
  show x.toInt.toNat + y.toInt.toNat ≤ 60
  omega
theorem shl_p : ∀ n : Nat, n < 31 → ((1 : Int32) <<< (nI n &&& 31)).toInt = 2 ^ n := by decide +kernel
theorem nI_x {x : Int32} {n : Nat} (h : x.toInt = n) : x = nI n := e_of (by rw [h]; exact (nI_toInt (by have := Int32.toInt_lt x; omega)).symm)
theorem shl_rg {c d : Int} {y : Int32} {e f : Int} (h : rg c d y) (k : 0 ≤ c ∧ d ≤ 30 ∧ e = 2 ^ c.toNat ∧ f = 2 ^ d.toNat) : rg e f ((1 : Int32) <<< (y &&& 31)) := by
  obtain ⟨n, hn⟩ : ∃ n : Nat, y.toInt = n := ⟨y.toInt.toNat, by omega⟩
  obtain rfl := nI_x hn
  have h1 := shl_p n (by omega)
  rw [show rg e f ((1 : Int32) <<< (nI n &&& 31)) ↔ (e ≤ ((1 : Int32) <<< (nI n &&& 31)).toInt ∧ ((1 : Int32) <<< (nI n &&& 31)).toInt ≤ f) from Iff.rfl, h1, k.2.2.1, k.2.2.2]
  have g1 : (2 : Nat) ^ c.toNat ≤ 2 ^ n := Nat.pow_le_pow_right (by decide) (by omega)
  have g2 : (2 : Nat) ^ n ≤ 2 ^ d.toNat := Nat.pow_le_pow_right (by decide) (by omega)
  have e1 : ((2 ^ c.toNat : Nat) : Int) = 2 ^ c.toNat := by rw [Int.natCast_pow]; rfl
  have e2 : ((2 ^ n : Nat) : Int) = 2 ^ n := by rw [Int.natCast_pow]; rfl
  have e3 : ((2 ^ d.toNat : Nat) : Int) = 2 ^ d.toNat := by rw [Int.natCast_pow]; rfl
  rw [← e1, ← e2, ← e3]
  exact ⟨Int.ofNat_le.mpr g1, Int.ofNat_le.mpr g2⟩
theorem tn_of {x : Int32} {a b : Int} (h : rg a b x) (k : 0 ≤ a) : (x.toBitVec.toNat : Int) = x.toInt := by
  have h1 : x.toInt = x.toBitVec.toInt := rfl
  have h2 := h.1
  rw [h1] at h2 ⊢
  rw [BitVec.toInt_eq_toNat_cond] at *
  split at * <;> omega
theorem ti_of {x : Int32} {k : Nat} (h : x.toBitVec.toNat < 2147483648) : x.toInt = (x.toBitVec.toNat : Int) := by
  have h1 : x.toInt = x.toBitVec.toInt := rfl
  rw [h1, BitVec.toInt_eq_toNat_cond, if_pos (by omega)]
theorem andl_rg {a b : Int} {x y : Int32} (h : rg a b x) (k : 0 ≤ a) : rg 0 b (x &&& y) := by
  have h1 := tn_of h k
  have h2 : (x &&& y).toBitVec.toNat = x.toBitVec.toNat &&& y.toBitVec.toNat := by rw [Int32.toBitVec_and, BitVec.toNat_and]
  have h3 : x.toBitVec.toNat &&& y.toBitVec.toNat ≤ x.toBitVec.toNat := Nat.and_le_left
  have h5 := Int32.toInt_lt x
  have h4 := ti_of (x := x &&& y) (k := 0) (by omega)
  omega
theorem andr_rg {a b : Int} {x y : Int32} (h : rg a b y) (k : 0 ≤ a) : rg 0 b (x &&& y) := by rw [Int32.and_comm]; exact andl_rg h k
theorem or_rg {a b c d e f : Int} {x y : Int32} {k : Nat} (h : rg a b x) (h2 : rg c d y) (q : 0 ≤ a ∧ 0 ≤ c ∧ k ≤ 31 ∧ b < 2 ^ k ∧ d < 2 ^ k ∧ f = 2 ^ k - 1 ∧ (e ≤ a ∨ e ≤ c)) : rg e f (x ||| y) := by
  have h1 := tn_of h q.1
  have h3 := tn_of h2 q.2.1
  have e0 : ((2 ^ k : Nat) : Int) = 2 ^ k := by rw [Int.natCast_pow]; rfl
  have h4 : (x ||| y).toBitVec.toNat = x.toBitVec.toNat ||| y.toBitVec.toNat := by rw [Int32.toBitVec_or, BitVec.toNat_or]
  have h5 : x.toBitVec.toNat ||| y.toBitVec.toNat < 2 ^ k := Nat.or_lt_two_pow (by omega) (by omega)
  have h8 : x.toBitVec.toNat ≤ x.toBitVec.toNat ||| y.toBitVec.toNat := Nat.left_le_or
  have h9 : y.toBitVec.toNat ≤ x.toBitVec.toNat ||| y.toBitVec.toNat := Nat.right_le_or
  have h6 : 2 ^ k ≤ 2 ^ 31 := Nat.pow_le_pow_right (by decide) q.2.2.1
  have h7 := ti_of (x := x ||| y) (k := 0) (by omega)
  omega
theorem tnl_of {x : Int64} {a b : Int} (h : rl a b x) (k : 0 ≤ a) : (x.toBitVec.toNat : Int) = x.toInt := by
  have h1 : x.toInt = x.toBitVec.toInt := rfl
  have h2 := h.1
  rw [h1] at h2 ⊢
  rw [BitVec.toInt_eq_toNat_cond] at *
  split at * <;> omega
theorem til_of {x : Int64} (h : x.toBitVec.toNat < 9223372036854775808) : x.toInt = (x.toBitVec.toNat : Int) := by
  have h1 : x.toInt = x.toBitVec.toInt := rfl
  rw [h1, BitVec.toInt_eq_toNat_cond, if_pos (by omega)]
theorem andl_rl {a b : Int} {x y : Int64} (h : rl a b x) (k : 0 ≤ a) : rl 0 b (x &&& y) := by
  have h1 := tnl_of h k
  have h2 : (x &&& y).toBitVec.toNat = x.toBitVec.toNat &&& y.toBitVec.toNat := by rw [Int64.toBitVec_and, BitVec.toNat_and]
  have h3 : x.toBitVec.toNat &&& y.toBitVec.toNat ≤ x.toBitVec.toNat := Nat.and_le_left
  have h5 := Int64.toInt_lt x
  have h4 := til_of (x := x &&& y) (by omega)
  omega
theorem andr_rl {a b : Int} {x y : Int64} (h : rl a b y) (k : 0 ≤ a) : rl 0 b (x &&& y) := by rw [Int64.and_comm]; exact andl_rl h k
theorem rg_w {a b c d : Int} {x : Int32} (h : rg a b x) (k : c ≤ a ∧ b ≤ d) : rg c d x := ⟨Int.le_trans k.1 h.1, Int.le_trans h.2 k.2⟩
theorem rg_m {a b a1 b1 a2 b2 : Int} {x : Int32} (h : rg a1 b1 x) (h2 : rg a2 b2 x) (k : (a ≤ a1 ∨ a ≤ a2) ∧ (b1 ≤ b ∨ b2 ≤ b)) : rg a b x := by omega
theorem rgn (n : Int) {x : Int32} (h : x.toInt = n) : rg n n x := by omega
theorem nlt_i {x y : Int32} (h : ¬ x < y) : y ≤ x := Int32.le_iff_toInt_le.mpr (i_nlt h)
theorem nle_i {x y : Int32} (h : ¬ x ≤ y) : y < x := Int32.lt_iff_toInt_lt.mpr (i_nle h)
theorem dd_lt_i {a b c d : Int} {x y : Int32} (h : x < y) (h1 : rg a b x) (h2 : rg c d y) (k : d ≤ a) : False := by have := i_lt h; omega
theorem dd_le_i {a b c d : Int} {x y : Int32} (h : x ≤ y) (h1 : rg a b x) (h2 : rg c d y) (k : d < a) : False := by have := i_le h; omega
theorem dd_eq_i {a b c d : Int} {x y : Int32} (h : x = y) (h1 : rg a b x) (h2 : rg c d y) (k : b < c ∨ d < a) : False := by subst h; omega
theorem dd_ne_i {a : Int} {x y : Int32} (h : ¬ x = y) (h1 : rg a a x) (h2 : rg a a y) : False := by have := i_ne h; omega
theorem r_lt_l_i {a b c d f : Int} {x y : Int32} (h : x < y) (h1 : rg a b x) (h2 : rg c d y) (k : d - 1 = f) : rg a f x := by have := i_lt h; omega
theorem r_lt_r_i {a b c d f : Int} {x y : Int32} (h : x < y) (h1 : rg a b x) (h2 : rg c d y) (k : a + 1 = f) : rg f d y := by have := i_lt h; omega
theorem r_le_l_i {a b c d : Int} {x y : Int32} (h : x ≤ y) (h1 : rg a b x) (h2 : rg c d y) : rg a d x := by have := i_le h; omega
theorem r_le_r_i {a b c d : Int} {x y : Int32} (h : x ≤ y) (h1 : rg a b x) (h2 : rg c d y) : rg a d y := by have := i_le h; omega
theorem r_eq_l_i {a b c d e f : Int} {x y : Int32} (h : x = y) (h1 : rg a b x) (h2 : rg c d y) (k : (e ≤ a ∨ e ≤ c) ∧ (b ≤ f ∨ d ≤ f)) : rg e f x := by subst h; omega
theorem r_eq_r_i {a b c d e f : Int} {x y : Int32} (h : x = y) (h1 : rg a b x) (h2 : rg c d y) (k : (e ≤ a ∨ e ≤ c) ∧ (b ≤ f ∨ d ≤ f)) : rg e f y := by subst h; omega
theorem r_ne_lo_i {a b f : Int} {x y : Int32} (h : ¬ x = y) (h1 : rg a b x) (h2 : y.toInt = a) (k : a + 1 = f) : rg f b x := by have := i_ne h; omega
theorem r_ne_hi_i {a b f : Int} {x y : Int32} (h : ¬ x = y) (h1 : rg a b x) (h2 : y.toInt = b) (k : b - 1 = f) : rg a f x := by have := i_ne h; omega
theorem eqc_r {z x y : Int32} {c : Int} (e : z.toInt = x.toInt + y.toInt) (h : y.toInt = c) : z.toInt = x.toInt + c := by omega
theorem eqc_l {z x y : Int32} {c : Int} (e : z.toInt = x.toInt + y.toInt) (h : x.toInt = c) : z.toInt = y.toInt + c := by omega
theorem eqc_s {z x y : Int32} {c : Int} (e : z.toInt = x.toInt - y.toInt) (h : y.toInt = -c) : z.toInt = x.toInt + c := by omega
section RGN
variable {p : Program} {l : Launch} {e : Env} {R : Room} {s : State} {m : MethodId} {args : Array Value} {below : List Frame} {meth : Method} {c : Code} {H : Heap} {locs : List Loc} {cells slots : Nat} {Q : State → Prop}
variable {pc : Nat} {ls : Array Slot} {rest : List Value}
theorem nm_0 {x : Int32} (k : ∀ z : Int32, W p l e R s m args below meth c H locs cells slots Q (F0 m pc ls (.int z :: rest))) : W p l e R s m args below meth c H locs cells slots Q (F0 m pc ls (.int x :: rest)) := k x
theorem nm_i {x : Int32} {P : Int32 → Prop} (h : P x) (k : ∀ z : Int32, P z → W p l e R s m args below meth c H locs cells slots Q (F0 m pc ls (.int z :: rest))) : W p l e R s m args below meth c H locs cells slots Q (F0 m pc ls (.int x :: rest)) := k x h
theorem nm_add {x y : Int32} {a b c1 d e1 f : Int} (h1 : rg a b x) (h2 : rg c1 d y) (q : (a + c1 = e1 ∧ b + d = f) ∧ -2147483648 ≤ e1 ∧ f ≤ 2147483647) (k : ∀ z : Int32, rg e1 f z → z.toInt = x.toInt + y.toInt → W p l e R s m args below meth c H locs cells slots Q (F0 m pc ls (.int z :: rest))) : W p l e R s m args below meth c H locs cells slots Q (F0 m pc ls (.int (x + y) :: rest)) := by
  have h : (x + y).toInt = x.toInt + y.toInt := by rw [Int32.toInt_add]; exact Int.bmod_eq_of_le (by omega) (by omega)
  exact k _ (by omega) h
theorem nm_sub {x y : Int32} {a b c1 d e1 f : Int} (h1 : rg a b x) (h2 : rg c1 d y) (q : (a - d = e1 ∧ b - c1 = f) ∧ -2147483648 ≤ e1 ∧ f ≤ 2147483647) (k : ∀ z : Int32, rg e1 f z → z.toInt = x.toInt - y.toInt → W p l e R s m args below meth c H locs cells slots Q (F0 m pc ls (.int z :: rest))) : W p l e R s m args below meth c H locs cells slots Q (F0 m pc ls (.int (x - y) :: rest)) := by
  have h : (x - y).toInt = x.toInt - y.toInt := by rw [Int32.toInt_sub]; exact Int.bmod_eq_of_le (by omega) (by omega)
  exact k _ (by omega) h
theorem nm_mul {x y : Int32} {a b c1 d e1 f : Int} (h1 : rg a b x) (h2 : rg c1 d y) (q : (a * c1 = e1 ∧ b * d = f) ∧ 0 ≤ a ∧ 0 ≤ c1 ∧ f ≤ 2147483647) (k : ∀ z : Int32, rg e1 f z → z.toInt = x.toInt * y.toInt → W p l e R s m args below meth c H locs cells slots Q (F0 m pc ls (.int z :: rest))) : W p l e R s m args below meth c H locs cells slots Q (F0 m pc ls (.int (x * y) :: rest)) := by
  have g1 : a * c1 ≤ x.toInt * y.toInt := Int.mul_le_mul h1.1 h2.1 q.2.2.1 (by omega)
  have g2 : x.toInt * y.toInt ≤ b * d := Int.mul_le_mul h1.2 h2.2 (by omega) (by omega)
  have g3 : 0 ≤ a * c1 := Int.mul_nonneg q.2.1 q.2.2.1
  have h : (x * y).toInt = x.toInt * y.toInt := by rw [Int32.toInt_mul]; exact Int.bmod_eq_of_le (by omega) (by omega)
  exact k _ (by omega) h
theorem nm_andl {x y : Int32} {a b : Int} (h1 : rg a b x) (q : 0 ≤ a) (k : ∀ z : Int32, rg 0 b z → W p l e R s m args below meth c H locs cells slots Q (F0 m pc ls (.int z :: rest))) : W p l e R s m args below meth c H locs cells slots Q (F0 m pc ls (.int (x &&& y) :: rest)) := k _ (andl_rg h1 q)
theorem nm_andr {x y : Int32} {a b : Int} (h1 : rg a b y) (q : 0 ≤ a) (k : ∀ z : Int32, rg 0 b z → W p l e R s m args below meth c H locs cells slots Q (F0 m pc ls (.int z :: rest))) : W p l e R s m args below meth c H locs cells slots Q (F0 m pc ls (.int (x &&& y) :: rest)) := k _ (andr_rg h1 q)
theorem nm_rem {x y : Int32} {a b c1 d f : Int} (h1 : rg a b x) (h2 : rg c1 d y) (q : 0 ≤ a ∧ 0 < c1 ∧ d - 1 = f) (k : ∀ z : Int32, rg 0 f z → z.toInt < y.toInt → W p l e R s m args below meth c H locs cells slots Q (F0 m pc ls (.int z :: rest))) : W p l e R s m args below meth c H locs cells slots Q (F0 m pc ls (.int (x - x / y * y) :: rest)) := by
  have hx : x.toInt < 2147483648 := Int32.toInt_lt x
  have g0 : x.toInt.tdiv y.toInt = x.toInt / y.toInt := Int.tdiv_eq_ediv_of_nonneg (by omega)
  have g1 : 0 ≤ x.toInt / y.toInt := Int.ediv_nonneg (by omega) (by omega)
  have g2 : x.toInt / y.toInt ≤ x.toInt := Int.ediv_le_self _ (by omega)
  have d1 : (x / y).toInt = x.toInt / y.toInt := by rw [Int32.toInt_div, g0, Int.bmod_eq_of_le (by omega) (by omega)]
  have m1 : x.toInt / y.toInt * y.toInt ≤ x.toInt := Int.ediv_mul_le x.toInt (by omega)
  have m0 : 0 ≤ x.toInt / y.toInt * y.toInt := Int.mul_nonneg g1 (by omega)
  have d2 : (x / y * y).toInt = x.toInt / y.toInt * y.toInt := by rw [Int32.toInt_mul, d1, Int.bmod_eq_of_le (by omega) (by omega)]
  have d3 : (x - x / y * y).toInt = x.toInt - x.toInt / y.toInt * y.toInt := by rw [Int32.toInt_sub, d2, Int.bmod_eq_of_le (by omega) (by omega)]
  have e2 := Int.emod_lt_of_pos x.toInt (show 0 < y.toInt by omega)
  rw [Int.emod_def, Int.mul_comm] at e2
  exact k _ (by omega) (by omega)
theorem nm_div {x y : Int32} {a b c1 d f : Int} (h1 : rg a b x) (h2 : rg c1 d y) (q : 0 ≤ a ∧ 0 < c1 ∧ b / c1 = f) (k : ∀ z : Int32, rg 0 f z → W p l e R s m args below meth c H locs cells slots Q (F0 m pc ls (.int z :: rest))) : W p l e R s m args below meth c H locs cells slots Q (F0 m pc ls (.int (x / y) :: rest)) := by
  refine k _ ?_
  have hx : x.toInt < 2147483648 := Int32.toInt_lt x
  have g0 : x.toInt.tdiv y.toInt = x.toInt / y.toInt := Int.tdiv_eq_ediv_of_nonneg (by omega)
  have g1 : 0 ≤ x.toInt / y.toInt := Int.ediv_nonneg (by omega) (by omega)
  have g2 : x.toInt / y.toInt ≤ x.toInt := Int.ediv_le_self _ (by omega)
  have g3 : x.toInt / y.toInt ≤ b / c1 := by
    refine Int.le_ediv_of_mul_le q.2.1 ?_
    have t1 : x.toInt / y.toInt * c1 ≤ x.toInt / y.toInt * y.toInt := Int.mul_le_mul_of_nonneg_left h2.1 g1
    have t2 := Int.ediv_mul_le x.toInt (b := y.toInt) (by omega)
    omega
  show 0 ≤ (x / y).toInt ∧ (x / y).toInt ≤ f
  rw [Int32.toInt_div, g0, Int.bmod_eq_of_le (by omega) (by omega)]
  omega
end RGN
theorem rl_w {a b c d : Int} {x : Int64} (h : rl a b x) (k : c ≤ a ∧ b ≤ d) : rl c d x := ⟨Int.le_trans k.1 h.1, Int.le_trans h.2 k.2⟩
theorem rl_m {a b a1 b1 a2 b2 : Int} {x : Int64} (h : rl a1 b1 x) (h2 : rl a2 b2 x) (k : (a ≤ a1 ∨ a ≤ a2) ∧ (b1 ≤ b ∨ b2 ≤ b)) : rl a b x := by omega
theorem rln (n : Int) {x : Int64} (h : x.toInt = n) : rl n n x := by omega
theorem nlt_l {x y : Int64} (h : ¬ x < y) : y ≤ x := Int64.le_iff_toInt_le.mpr (l_nlt h)
theorem nle_l {x y : Int64} (h : ¬ x ≤ y) : y < x := Int64.lt_iff_toInt_lt.mpr (l_nle h)
theorem dd_lt_l {a b c d : Int} {x y : Int64} (h : x < y) (h1 : rl a b x) (h2 : rl c d y) (k : d ≤ a) : False := by have := l_lt h; omega
theorem dd_le_l {a b c d : Int} {x y : Int64} (h : x ≤ y) (h1 : rl a b x) (h2 : rl c d y) (k : d < a) : False := by have := l_le h; omega
theorem dd_eq_l {a b c d : Int} {x y : Int64} (h : x = y) (h1 : rl a b x) (h2 : rl c d y) (k : b < c ∨ d < a) : False := by subst h; omega
theorem dd_ne_l {a : Int} {x y : Int64} (h : ¬ x = y) (h1 : rl a a x) (h2 : rl a a y) : False := by have := l_ne h; omega
theorem r_lt_l_l {a b c d f : Int} {x y : Int64} (h : x < y) (h1 : rl a b x) (h2 : rl c d y) (k : d - 1 = f) : rl a f x := by have := l_lt h; omega
theorem r_lt_r_l {a b c d f : Int} {x y : Int64} (h : x < y) (h1 : rl a b x) (h2 : rl c d y) (k : a + 1 = f) : rl f d y := by have := l_lt h; omega
theorem r_le_l_l {a b c d : Int} {x y : Int64} (h : x ≤ y) (h1 : rl a b x) (h2 : rl c d y) : rl a d x := by have := l_le h; omega
theorem r_le_r_l {a b c d : Int} {x y : Int64} (h : x ≤ y) (h1 : rl a b x) (h2 : rl c d y) : rl a d y := by have := l_le h; omega
theorem r_eq_l_l {a b c d e f : Int} {x y : Int64} (h : x = y) (h1 : rl a b x) (h2 : rl c d y) (k : (e ≤ a ∨ e ≤ c) ∧ (b ≤ f ∨ d ≤ f)) : rl e f x := by subst h; omega
theorem r_eq_r_l {a b c d e f : Int} {x y : Int64} (h : x = y) (h1 : rl a b x) (h2 : rl c d y) (k : (e ≤ a ∨ e ≤ c) ∧ (b ≤ f ∨ d ≤ f)) : rl e f y := by subst h; omega
theorem r_ne_lo_l {a b f : Int} {x y : Int64} (h : ¬ x = y) (h1 : rl a b x) (h2 : y.toInt = a) (k : a + 1 = f) : rl f b x := by have := l_ne h; omega
theorem r_ne_hi_l {a b f : Int} {x y : Int64} (h : ¬ x = y) (h1 : rl a b x) (h2 : y.toInt = b) (k : b - 1 = f) : rl a f x := by have := l_ne h; omega
theorem eqc_rl {z x y : Int64} {c : Int} (e : z.toInt = x.toInt + y.toInt) (h : y.toInt = c) : z.toInt = x.toInt + c := by omega
theorem eqc_ll {z x y : Int64} {c : Int} (e : z.toInt = x.toInt + y.toInt) (h : x.toInt = c) : z.toInt = y.toInt + c := by omega
theorem eqc_sl {z x y : Int64} {c : Int} (e : z.toInt = x.toInt - y.toInt) (h : y.toInt = -c) : z.toInt = x.toInt + c := by omega
section RLN
variable {p : Program} {l : Launch} {e : Env} {R : Room} {s : State} {m : MethodId} {args : Array Value} {below : List Frame} {meth : Method} {c : Code} {H : Heap} {locs : List Loc} {cells slots : Nat} {Q : State → Prop}
variable {pc : Nat} {ls : Array Slot} {rest : List Value}
theorem nl_0 {x : Int64} (k : ∀ z : Int64, W p l e R s m args below meth c H locs cells slots Q (F0 m pc ls (.long z :: rest))) : W p l e R s m args below meth c H locs cells slots Q (F0 m pc ls (.long x :: rest)) := k x
theorem nl_i {x : Int64} {P : Int64 → Prop} (h : P x) (k : ∀ z : Int64, P z → W p l e R s m args below meth c H locs cells slots Q (F0 m pc ls (.long z :: rest))) : W p l e R s m args below meth c H locs cells slots Q (F0 m pc ls (.long x :: rest)) := k x h
theorem nl_add {x y : Int64} {a b c1 d e1 f : Int} (h1 : rl a b x) (h2 : rl c1 d y) (q : (a + c1 = e1 ∧ b + d = f) ∧ -9223372036854775808 ≤ e1 ∧ f ≤ 9223372036854775807) (k : ∀ z : Int64, rl e1 f z → z.toInt = x.toInt + y.toInt → W p l e R s m args below meth c H locs cells slots Q (F0 m pc ls (.long z :: rest))) : W p l e R s m args below meth c H locs cells slots Q (F0 m pc ls (.long (x + y) :: rest)) := by
  have h : (x + y).toInt = x.toInt + y.toInt := by rw [Int64.toInt_add]; exact Int.bmod_eq_of_le (by omega) (by omega)
  exact k _ (by omega) h
theorem nl_sub {x y : Int64} {a b c1 d e1 f : Int} (h1 : rl a b x) (h2 : rl c1 d y) (q : (a - d = e1 ∧ b - c1 = f) ∧ -9223372036854775808 ≤ e1 ∧ f ≤ 9223372036854775807) (k : ∀ z : Int64, rl e1 f z → z.toInt = x.toInt - y.toInt → W p l e R s m args below meth c H locs cells slots Q (F0 m pc ls (.long z :: rest))) : W p l e R s m args below meth c H locs cells slots Q (F0 m pc ls (.long (x - y) :: rest)) := by
  have h : (x - y).toInt = x.toInt - y.toInt := by rw [Int64.toInt_sub]; exact Int.bmod_eq_of_le (by omega) (by omega)
  exact k _ (by omega) h
theorem nl_mul {x y : Int64} {a b c1 d e1 f : Int} (h1 : rl a b x) (h2 : rl c1 d y) (q : (a * c1 = e1 ∧ b * d = f) ∧ 0 ≤ a ∧ 0 ≤ c1 ∧ f ≤ 9223372036854775807) (k : ∀ z : Int64, rl e1 f z → z.toInt = x.toInt * y.toInt → W p l e R s m args below meth c H locs cells slots Q (F0 m pc ls (.long z :: rest))) : W p l e R s m args below meth c H locs cells slots Q (F0 m pc ls (.long (x * y) :: rest)) := by
  have g1 : a * c1 ≤ x.toInt * y.toInt := Int.mul_le_mul h1.1 h2.1 q.2.2.1 (by omega)
  have g2 : x.toInt * y.toInt ≤ b * d := Int.mul_le_mul h1.2 h2.2 (by omega) (by omega)
  have g3 : 0 ≤ a * c1 := Int.mul_nonneg q.2.1 q.2.2.1
  have h : (x * y).toInt = x.toInt * y.toInt := by rw [Int64.toInt_mul]; exact Int.bmod_eq_of_le (by omega) (by omega)
  exact k _ (by omega) h
theorem nl_andl {x y : Int64} {a b : Int} (h1 : rl a b x) (q : 0 ≤ a) (k : ∀ z : Int64, rl 0 b z → W p l e R s m args below meth c H locs cells slots Q (F0 m pc ls (.long z :: rest))) : W p l e R s m args below meth c H locs cells slots Q (F0 m pc ls (.long (x &&& y) :: rest)) := k _ (andl_rl h1 q)
theorem nl_andr {x y : Int64} {a b : Int} (h1 : rl a b y) (q : 0 ≤ a) (k : ∀ z : Int64, rl 0 b z → W p l e R s m args below meth c H locs cells slots Q (F0 m pc ls (.long z :: rest))) : W p l e R s m args below meth c H locs cells slots Q (F0 m pc ls (.long (x &&& y) :: rest)) := k _ (andr_rl h1 q)
theorem nl_rem {x y : Int64} {a b c1 d f : Int} (h1 : rl a b x) (h2 : rl c1 d y) (q : 0 ≤ a ∧ 0 < c1 ∧ d - 1 = f) (k : ∀ z : Int64, rl 0 f z → z.toInt < y.toInt → W p l e R s m args below meth c H locs cells slots Q (F0 m pc ls (.long z :: rest))) : W p l e R s m args below meth c H locs cells slots Q (F0 m pc ls (.long (x - x / y * y) :: rest)) := by
  have hx : x.toInt < 9223372036854775808 := Int64.toInt_lt x
  have g0 : x.toInt.tdiv y.toInt = x.toInt / y.toInt := Int.tdiv_eq_ediv_of_nonneg (by omega)
  have g1 : 0 ≤ x.toInt / y.toInt := Int.ediv_nonneg (by omega) (by omega)
  have g2 : x.toInt / y.toInt ≤ x.toInt := Int.ediv_le_self _ (by omega)
  have d1 : (x / y).toInt = x.toInt / y.toInt := by rw [Int64.toInt_div, g0, Int.bmod_eq_of_le (by omega) (by omega)]
  have m1 : x.toInt / y.toInt * y.toInt ≤ x.toInt := Int.ediv_mul_le x.toInt (by omega)
  have m0 : 0 ≤ x.toInt / y.toInt * y.toInt := Int.mul_nonneg g1 (by omega)
  have d2 : (x / y * y).toInt = x.toInt / y.toInt * y.toInt := by rw [Int64.toInt_mul, d1, Int.bmod_eq_of_le (by omega) (by omega)]
  have d3 : (x - x / y * y).toInt = x.toInt - x.toInt / y.toInt * y.toInt := by rw [Int64.toInt_sub, d2, Int.bmod_eq_of_le (by omega) (by omega)]
  have e2 := Int.emod_lt_of_pos x.toInt (show 0 < y.toInt by omega)
  rw [Int.emod_def, Int.mul_comm] at e2
  exact k _ (by omega) (by omega)
theorem nl_div {x y : Int64} {a b c1 d f : Int} (h1 : rl a b x) (h2 : rl c1 d y) (q : 0 ≤ a ∧ 0 < c1 ∧ b / c1 = f) (k : ∀ z : Int64, rl 0 f z → W p l e R s m args below meth c H locs cells slots Q (F0 m pc ls (.long z :: rest))) : W p l e R s m args below meth c H locs cells slots Q (F0 m pc ls (.long (x / y) :: rest)) := by
  refine k _ ?_
  have hx : x.toInt < 9223372036854775808 := Int64.toInt_lt x
  have g0 : x.toInt.tdiv y.toInt = x.toInt / y.toInt := Int.tdiv_eq_ediv_of_nonneg (by omega)
  have g1 : 0 ≤ x.toInt / y.toInt := Int.ediv_nonneg (by omega) (by omega)
  have g2 : x.toInt / y.toInt ≤ x.toInt := Int.ediv_le_self _ (by omega)
  have g3 : x.toInt / y.toInt ≤ b / c1 := by
    refine Int.le_ediv_of_mul_le q.2.1 ?_
    have t1 : x.toInt / y.toInt * c1 ≤ x.toInt / y.toInt * y.toInt := Int.mul_le_mul_of_nonneg_left h2.1 g1
    have t2 := Int.ediv_mul_le x.toInt (b := y.toInt) (by omega)
    omega
  show 0 ≤ (x / y).toInt ∧ (x / y).toInt ≤ f
  rw [Int64.toInt_div, g0, Int.bmod_eq_of_le (by omega) (by omega)]
  omega
end RLN
section RGO
variable {p : Program} {l : Launch} {e : Env} {R : Room} {s : State} {m : MethodId} {args : Array Value} {below : List Frame} {meth : Method} {c : Code} {H : Heap} {locs : List Loc} {cells slots : Nat} {Q : State → Prop}
variable {pc : Nat} {ls : Array Slot} {rest : List Value}
theorem nm_or {x y : Int32} {a b c1 d e1 f : Int} {k : Nat} (h1 : rg a b x) (h2 : rg c1 d y) (q : 0 ≤ a ∧ 0 ≤ c1 ∧ k ≤ 31 ∧ b < 2 ^ k ∧ d < 2 ^ k ∧ f = 2 ^ k - 1 ∧ (e1 ≤ a ∨ e1 ≤ c1)) (kk : ∀ z : Int32, rg e1 f z → W p l e R s m args below meth c H locs cells slots Q (F0 m pc ls (.int z :: rest))) : W p l e R s m args below meth c H locs cells slots Q (F0 m pc ls (.int (x ||| y) :: rest)) := kk _ (or_rg h1 h2 q)
theorem nm_shl {y : Int32} {c1 d e1 f : Int} (h : rg c1 d y) (q : 0 ≤ c1 ∧ d ≤ 30 ∧ e1 = 2 ^ c1.toNat ∧ f = 2 ^ d.toNat) (k : ∀ z : Int32, rg e1 f z → W p l e R s m args below meth c H locs cells slots Q (F0 m pc ls (.int z :: rest))) : W p l e R s m args below meth c H locs cells slots Q (F0 m pc ls (.int ((1 : Int32) <<< (y &&& 31)) :: rest)) := k _ (shl_rg h q)
theorem nm_max {x y : Int32} {a b c1 d e1 f : Int} (h1 : rg a b x) (h2 : rg c1 d y) (q : (e1 = if a < c1 then c1 else a) ∧ (f = if b < d then d else b)) (k : ∀ z : Int32, rg e1 f z → W p l e R s m args below meth c H locs cells slots Q (F0 m pc ls (.int z :: rest))) : W p l e R s m args below meth c H locs cells slots Q (F0 m pc ls (.int (if x < y then y else x) :: rest)) := by
  refine k _ ?_
  split
  · have := i_lt ‹_›; split at q <;> split at q <;> omega
  · have := i_nlt ‹_›; split at q <;> split at q <;> omega
theorem nm_min {x y : Int32} {a b c1 d e1 f : Int} (h1 : rg a b x) (h2 : rg c1 d y) (q : (e1 = if c1 < a then c1 else a) ∧ (f = if d < b then d else b)) (k : ∀ z : Int32, rg e1 f z → W p l e R s m args below meth c H locs cells slots Q (F0 m pc ls (.int z :: rest))) : W p l e R s m args below meth c H locs cells slots Q (F0 m pc ls (.int (if y < x then y else x) :: rest)) := by
  refine k _ ?_
  split
  · have := i_lt ‹_›; split at q <;> split at q <;> omega
  · have := i_nlt ‹_›; split at q <;> split at q <;> omega
theorem nl_i2l {x : Int32} {a b : Int} (h : rg a b x) (k : ∀ z : Int64, rl a b z → z.toInt = x.toInt + 0 → W p l e R s m args below meth c H locs cells slots Q (F0 m pc ls (.long z :: rest))) : W p l e R s m args below meth c H locs cells slots Q (F0 m pc ls (.long x.toInt64 :: rest)) := by
  have h1 := Int32.toInt_toInt64 x
  exact k _ (by omega) (by omega)
theorem nm_l2i {x : Int64} {a b : Int} (h : rl a b x) (q : -2147483648 ≤ a ∧ b ≤ 2147483647) (k : ∀ z : Int32, rg a b z → z.toInt = x.toInt + 0 → W p l e R s m args below meth c H locs cells slots Q (F0 m pc ls (.int z :: rest))) : W p l e R s m args below meth c H locs cells slots Q (F0 m pc ls (.int x.toInt32 :: rest)) := by
  have h1 : x.toInt32.toInt = x.toInt := by rw [Int64.toInt_toInt32]; exact Int.bmod_eq_of_le (by omega) (by omega)
  exact k _ (by omega) (by omega)
end RGO
