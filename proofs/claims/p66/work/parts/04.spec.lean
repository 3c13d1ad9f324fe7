theorem tcn {x : Int32} {a b : Int} (h : rg a b x) (k : 0 ≤ a) : (x.toNatClampNeg : Int) = x.toInt := by
  show ((x.toInt.toNat : Nat) : Int) = x.toInt
  omega
theorem upd_eq (f : Nat → Int32) (k : Nat) (v : Int32) : upd f k v k = v := if_pos rfl
theorem upd_ne (f : Nat → Int32) {k j : Nat} (v : Int32) (h : ¬ j = k) : upd f k v j = f j := if_neg h
def hsI (f : Nat → Int32) : Prop := (∀ j : Nat, rg 0 8 (f (3 * j + 1))) ∧ (∀ j : Nat, rg 0 40 (f (3 * j + 2)))
theorem hs_u0 {f : Nat → Int32} {k j : Nat} {v : Int32} (h : hsI f) (e : k = 3 * j) : hsI (upd f k v) :=
  ⟨fun i => by rw [upd_ne f v (by omega)]; exact h.1 i, fun i => by rw [upd_ne f v (by omega)]; exact h.2 i⟩
theorem hs_u1 {f : Nat → Int32} {k j : Nat} {v : Int32} (h : hsI f) (e : k = 3 * j + 1) (hv : rg 0 8 v) : hsI (upd f k v) :=
  ⟨fun i => by
    by_cases q : 3 * i + 1 = k
    · rw [q, upd_eq]; exact hv
    · rw [upd_ne f v q]; exact h.1 i, fun i => by rw [upd_ne f v (by omega)]; exact h.2 i⟩
theorem hs_u2 {f : Nat → Int32} {k j : Nat} {v : Int32} (h : hsI f) (e : k = 3 * j + 2) (hv : rg 0 40 v) : hsI (upd f k v) :=
  ⟨fun i => by rw [upd_ne f v (by omega)]; exact h.1 i, fun i => by
    by_cases q : 3 * i + 2 = k
    · rw [q, upd_eq]; exact hv
    · rw [upd_ne f v q]; exact h.2 i⟩
theorem hs_u {f : Nat → Int32} {k : Nat} {v : Int32} (h : hsI f) (hv : rg 0 8 v) : hsI (upd f k v) :=
  ⟨fun i => by
    by_cases q : 3 * i + 1 = k
    · rw [q, upd_eq]; exact hv
    · rw [upd_ne f v q]; exact h.1 i, fun i => by
    by_cases q : 3 * i + 2 = k
    · rw [q, upd_eq]; exact rg_w hv (by decide)
    · rw [upd_ne f v q]; exact h.2 i⟩
theorem hsI_mv {f : Nat → Int32} {i j v : Int32} (h : hsI f) (g : v = f j.toNatClampNeg) (hi : rg 0 2147483647 i) (hj : rg 0 2147483647 j) (e : i.toInt % 3 = j.toInt % 3) : hsI (upd f i.toNatClampNeg v) := by
  have h1 := tcn hi (by decide)
  have h2 := tcn hj (by decide)
  refine ⟨fun k => ?_, fun k => ?_⟩
  · by_cases q : 3 * k + 1 = i.toNatClampNeg
    · rw [q, upd_eq, g, show j.toNatClampNeg = 3 * (j.toNatClampNeg / 3) + 1 by omega]; exact h.1 _
    · rw [upd_ne f v q]; exact h.1 k
  · by_cases q : 3 * k + 2 = i.toNatClampNeg
    · rw [q, upd_eq, g, show j.toNatClampNeg = 3 * (j.toNatClampNeg / 3) + 2 by omega]; exact h.2 _
    · rw [upd_ne f v q]; exact h.2 k
def psI (f : Nat → Int32) : Prop := (∀ j : Nat, rg 0 63 (f (5 * j + 2))) ∧ (∀ j : Nat, rg (-1) 7 (f (5 * j + 3)))
theorem ps_l2 {f : Nat → Int32} {i : Int32} (h : psI f) (e : i.toInt % 5 = 2) (hi : rg 0 2147483647 i) : rg 0 63 (f i.toNatClampNeg) := by
  have h1 := tcn hi (by decide)
  rw [show i.toNatClampNeg = 5 * (i.toNatClampNeg / 5) + 2 by omega]; exact h.1 _
theorem ps_l3 {f : Nat → Int32} {i : Int32} (h : psI f) (e : i.toInt % 5 = 3) (hi : rg 0 2147483647 i) : rg (-1) 7 (f i.toNatClampNeg) := by
  have h1 := tcn hi (by decide)
  rw [show i.toNatClampNeg = 5 * (i.toNatClampNeg / 5) + 3 by omega]; exact h.2 _
theorem ps_u0 {f : Nat → Int32} {i v : Int32} {c : Int} (h : psI f) (e : i.toInt % 5 = c) (hi : rg 0 2147483647 i) (k : ¬ c = 2 ∧ ¬ c = 3) : psI (upd f i.toNatClampNeg v) := by
  have h1 := tcn hi (by decide)
  exact ⟨fun j => by rw [upd_ne f v (by omega)]; exact h.1 j, fun j => by rw [upd_ne f v (by omega)]; exact h.2 j⟩
theorem ps_u2 {f : Nat → Int32} {i v : Int32} (h : psI f) (e : i.toInt % 5 = 2) (hi : rg 0 2147483647 i) (hv : rg 0 63 v) : psI (upd f i.toNatClampNeg v) := by
  have h1 := tcn hi (by decide)
  refine ⟨fun j => ?_, fun j => by rw [upd_ne f v (by omega)]; exact h.2 j⟩
  by_cases q : 5 * j + 2 = i.toNatClampNeg
  · rw [q, upd_eq]; exact hv
  · rw [upd_ne f v q]; exact h.1 j
theorem ps_u3 {f : Nat → Int32} {i v : Int32} (h : psI f) (e : i.toInt % 5 = 3) (hi : rg 0 2147483647 i) (hv : rg (-1) 7 v) : psI (upd f i.toNatClampNeg v) := by
  have h1 := tcn hi (by decide)
  refine ⟨fun j => by rw [upd_ne f v (by omega)]; exact h.1 j, fun j => ?_⟩
  by_cases q : 5 * j + 3 = i.toNatClampNeg
  · rw [q, upd_eq]; exact hv
  · rw [upd_ne f v q]; exact h.2 j
theorem psI_mv {f : Nat → Int32} {i j v : Int32} (h : psI f) (g : v = f j.toNatClampNeg) (hi : rg 0 2147483647 i) (hj : rg 0 2147483647 j) (e : i.toInt % 5 = j.toInt % 5) : psI (upd f i.toNatClampNeg v) := by
  have h1 := tcn hi (by decide)
  have h2 := tcn hj (by decide)
  refine ⟨fun k => ?_, fun k => ?_⟩
  · by_cases q : 5 * k + 2 = i.toNatClampNeg
    · rw [q, upd_eq, g, show j.toNatClampNeg = 5 * (j.toNatClampNeg / 5) + 2 by omega]; exact h.1 _
    · rw [upd_ne f v q]; exact h.1 k
  · by_cases q : 5 * k + 3 = i.toNatClampNeg
    · rw [q, upd_eq, g, show j.toNatClampNeg = 5 * (j.toNatClampNeg / 5) + 3 by omega]; exact h.2 _
    · rw [upd_ne f v q]; exact h.2 k
theorem mv_3 {i j a b k p q : Int32} (e1 : i.toInt = a.toInt + k.toInt) (e2 : j.toInt = b.toInt + k.toInt) (e3 : a.toInt = (3 : Int32).toInt * p.toInt) (e4 : b.toInt = (3 : Int32).toInt * q.toInt) : i.toInt % 3 = j.toInt % 3 := by
  rw [show (3 : Int32).toInt = 3 by decide] at e3 e4
  omega
theorem mv_40 {i j a b k p q : Int32} (e1 : i.toInt = a.toInt + k.toInt) (e2 : j.toInt = b.toInt + k.toInt) (e3 : a.toInt = (40 : Int32).toInt * p.toInt) (e4 : b.toInt = (40 : Int32).toInt * q.toInt) : i.toInt % 5 = j.toInt % 5 := by
  rw [show (40 : Int32).toInt = 40 by decide] at e3 e4
  omega
def hold (fh f : Nat → Int32) (p : Int32) : Prop := ∃ k : Nat, (k : Int) < (fh (1 : Int32).toNatClampNeg).toInt ∧ f k = p
theorem hold_i {fh f : Nat → Int32} {p x n z : Int32} (hx : rg 0 2147483647 x) (gn : n = fh (1 : Int32).toNatClampNeg) (c : ¬ n ≤ x) (gz : z = f x.toNatClampNeg) (e : z = p) : hold fh f p := by
  have h1 := tcn hx (by decide)
  have h2 := i_nle c
  exact ⟨x.toNatClampNeg, by rw [← gn]; omega, by rw [← gz]; exact e⟩
def hn (f : Nat → Int32) (p : Int32) (b : Int) : Prop := ∀ k : Nat, (k : Int) < b → ¬ f k = p
theorem hn_0 {f : Nat → Int32} {p : Int32} : hn f p (0 : Int32).toInt := fun k hk => by
  have : (0 : Int32).toInt = 0 := (by decide)
  omega
theorem hn_s {f : Nat → Int32} {p x y z : Int32} (h : hn f p x.toInt) (g : z = f x.toNatClampNeg) (c : ¬ z = p) (e : y.toInt = x.toInt + 1) : hn f p y.toInt := fun k hk => by
  by_cases q : (k : Int) < x.toInt
  · exact h k q
  · have h1 : k = x.toNatClampNeg := by
      show k = x.toInt.toNat
      omega
    rw [h1, ← g]; exact c
theorem hn_e {fh f : Nat → Int32} {p b x n : Int32} (h : b = -1 → hn f p x.toInt) (hb : rg (-1) 7 b) (g : n = fh (1 : Int32).toNatClampNeg) (c : n ≤ x) (hh : hold fh f p) : rg 0 7 b := by
  by_cases q : b = -1
  · obtain ⟨k, h1, h2⟩ := hh
    have h3 := i_le c
    rw [← g] at h1
    exact absurd h2 (h q k (by omega))
  · have h1 := i_ne q
    have : (-1 : Int32).toInt = -1 := (by decide)
    omega
def rch (f : Nat → Int32) (p : Int32) : Nat → Int32 → Prop
  | 0, x => rg 0 7 x ∧ f x.toNatClampNeg = p
  | n + 1, x => rg 0 7 x ∧ rch f p n (f x.toNatClampNeg)
theorem rch_rg {f : Nat → Int32} {p x : Int32} {n : Nat} (h : rch f p n x) : rg 0 7 x := by
  cases n with
  | zero => exact h.1
  | succ n => exact h.1
def rc (f : Nat → Int32) (p x : Int32) (b : Int) : Prop := ∃ n : Nat, (n : Int) ≤ b ∧ rch f p n x
theorem rc_rg {f : Nat → Int32} {p x : Int32} {b : Int} (h : rc f p x b) : rg 0 7 x := by
  obtain ⟨n, -, h⟩ := h
  exact rch_rg h
theorem rc_0 {f : Nat → Int32} {p x : Int32} (h : rc f p x (7 - (0 : Int32).toInt)) : rc f p x 7 := by
  obtain ⟨n, h1, h2⟩ := h
  exact ⟨n, by have : (0 : Int32).toInt = 0 := (by decide); omega, h2⟩
theorem rc_s {f : Nat → Int32} {p x z n m : Int32} (hx : rg 0 7 x) (g : z = f x.toNatClampNeg) (e : m.toInt = n.toInt + 1) (h : rc f p z (7 - m.toInt)) : rc f p x (7 - n.toInt) := by
  obtain ⟨k, h1, h2⟩ := h
  exact ⟨k + 1, by omega, hx, by rw [← g]; exact h2⟩
theorem rc_1 {f : Nat → Int32} {p x z n : Int32} (hx : rg 0 7 x) (g : z = f x.toNatClampNeg) (c : z = p) (hn : rg 0 7 n) : rc f p x (7 - n.toInt) := ⟨0, by omega, hx, by rw [← g]; exact c⟩
theorem rc_t {f : Nat → Int32} {p x z : Int32} (h : rc f p x 7) (g : z = f x.toNatClampNeg) (c : ¬ z = p) : rc f p z 7 := by
  obtain ⟨k, h1, h2⟩ := h
  cases k with
  | zero => exact absurd (g.trans h2.2) c
  | succ k => exact ⟨k, by omega, by rw [g]; exact h2.2⟩
def ck (f : Nat → Int32) (p q a b : Int32) (n : Nat) : Prop := ∃ j : Nat, j < n ∧ a.toInt + j ≤ 8 ∧ 1 ≤ a.toInt ∧ (b = p → rch f p (a.toInt.toNat - 1) q) ∧ (∀ k : Nat, rch f p k b → rch f p (k + a.toInt.toNat) q) ∧ (b = p ∨ (1 ≤ j ∧ rch f p (j - 1) b))
theorem ck_z {f : Nat → Int32} {p q a b : Int32} : ¬ ck f p q a b 0 := fun h => by
  obtain ⟨j, h, -⟩ := h
  exact Nat.not_lt_zero _ h
theorem ck_e {f : Nat → Int32} {p q z : Int32} (h : rc f p q 7) (g : z = f q.toNatClampNeg) : ck f p q 1 z 9 := by
  have e1 : (1 : Int32).toInt = 1 := (by decide)
  have hq := rc_rg h
  obtain ⟨k, h1, h2⟩ := h
  refine ⟨k, by omega, by omega, by omega, fun hz => ?_, fun m hm => ?_, ?_⟩
  · rw [e1]; exact ⟨hq, g.symm.trans hz⟩
  · rw [e1]; exact ⟨hq, by rw [← g]; exact hm⟩
  · cases k with
    | zero => exact Or.inl (g.trans h2.2)
    | succ k => exact Or.inr ⟨by omega, by rw [g]; exact h2.2⟩
theorem ck_r {f : Nat → Int32} {p q a b : Int32} {n : Nat} (h : ck f p q a b n) (c : ¬ b = p) : rg 0 7 b := by
  obtain ⟨j, -, -, -, -, -, h⟩ := h
  rcases h with h | h
  · exact absurd h c
  · exact rch_rg h.2
theorem ck_iv {f : Nat → Int32} {p q a b : Int32} {n : Nat} (h : ck f p q a b n) : rg 1 8 a := by
  obtain ⟨j, -, h1, h2, -⟩ := h
  omega
theorem ck_s {f : Nat → Int32} {p q a b z y : Int32} {n : Nat} (h : ck f p q a b (n + 1)) (c : ¬ b = p) (g : z = f b.toNatClampNeg) (e : y.toInt = a.toInt + 1) : ck f p q y z n := by
  have hb := ck_r h c
  obtain ⟨j, h1, h2, h3, h4, h5, h6⟩ := h
  rcases h6 with h6 | ⟨h6, h7⟩
  · exact absurd h6 c
  have ey : y.toInt.toNat = a.toInt.toNat + 1 := by omega
  refine ⟨j - 1, by omega, by omega, by omega, fun hz => ?_, fun k hk => ?_, ?_⟩
  · have := h5 0 ⟨hb, g.symm.trans hz⟩
    rw [ey, Nat.add_sub_cancel]
    rw [Nat.zero_add] at this
    exact this
  · have := h5 (k + 1) ⟨hb, by rw [← g]; exact hk⟩
    rw [ey, show k + (a.toInt.toNat + 1) = k + 1 + a.toInt.toNat by omega]
    exact this
  · obtain ⟨i, rfl⟩ : ∃ i : Nat, j = i + 1 := ⟨j - 1, by omega⟩
    rw [Nat.add_sub_cancel] at h7
    cases i with
    | zero => exact Or.inl (g.trans h7.2)
    | succ i => exact Or.inr ⟨by omega, by rw [g]; exact h7.2⟩
theorem ck_x {f : Nat → Int32} {p q a b z : Int32} {n : Nat} (h : ck f p q a b n) (c : b = p) (e : z.toInt = a.toInt + (-1)) : rch f p z.toInt.toNat q := by
  obtain ⟨j, h1, h2, h3, h4, -⟩ := h
  rw [show z.toInt.toNat = a.toInt.toNat - 1 by omega]
  exact h4 c
theorem rch_d {f : Nat → Int32} {p x k z y : Int32} (h : rch f p k.toInt.toNat x) (hk : rg 1 2147483647 k) (g : z = f x.toNatClampNeg) (e : y.toInt = k.toInt + (-1)) : rch f p y.toInt.toNat z := by
  rw [show k.toInt.toNat = y.toInt.toNat + 1 by omega] at h
  rw [g]; exact h.2
def lw (b : Int) (f : Nat → Int32) : Prop := ∀ i : Nat, (i : Int) < b → rg 0 7 (f i)
theorem lw_0 {f : Nat → Int32} : lw (0 : Int32).toInt f := fun k hk => by
  have : (0 : Int32).toInt = 0 := (by decide)
  omega
theorem lw_u {f : Nat → Int32} {b : Int} {i : Nat} {v : Int32} (h : lw b f) (hv : rg 0 7 v) : lw b (upd f i v) := fun k hk => by
  by_cases q : k = i
  · rw [q, upd_eq]; exact hv
  · rw [upd_ne f v q]; exact h k hk
theorem lw_s {f : Nat → Int32} {x y : Int32} (h : lw x.toInt f) (hx : rg 0 7 x) (e : y.toInt = x.toInt + 1) : lw y.toInt (upd f x.toNatClampNeg x) := fun k hk => by
  have h1 := tcn hx (by decide)
  by_cases q : k = x.toNatClampNeg
  · rw [q, upd_eq]; exact hx
  · rw [upd_ne f x q]; exact h k (by omega)
theorem lw_t {f : Nat → Int32} {x n : Int32} (h : lw x.toInt f) (c : n ≤ x) : lw n.toInt f := fun k hk => h k (by have := i_le c; omega)
theorem lw_l {f : Nat → Int32} {x n z : Int32} {a b : Int} (h : lw n.toInt f) (hx : rg a b x) (k : 0 ≤ a) (hl : x.toInt < n.toInt) (g : z = f x.toNatClampNeg) : rg 0 7 z := by
  have h1 := tcn hx k
  rw [g]; exact h _ (by omega)
def okr (c : Nat → Int64) (b : Nat) : Prop := (c b = -1 ∧ c (b + 1) = -1 ∧ c (b + 2) = -1) ∨ (rl 0 7 (c b) ∧ rl 0 7 (c (b + 1)) ∧ rl 0 5 (c (b + 2)))
def okj (c : Nat → Int64) (s : Int32) (i : Int) : Prop := ∀ j : Nat, (3 * j : Int) < i → okr c (60 * s.toInt.toNat + 3 * j)
theorem okj_0 {c : Nat → Int64} {s : Int32} : okj c s (0 : Int32).toInt := fun k hk => by
  have : (0 : Int32).toInt = 0 := (by decide)
  omega
theorem ix60 {a b x s : Int32} (e1 : a.toInt = b.toInt + x.toInt) (e2 : b.toInt = (60 : Int32).toInt * s.toInt) (hs : rg 0 3 s) (hx : rg 0 60 x) : a.toNatClampNeg = 60 * s.toInt.toNat + x.toInt.toNat := by
  rw [show (60 : Int32).toInt = 60 by decide] at e2
  show a.toInt.toNat = _
  omega
theorem okj_s {c : Nat → Int64} {s x y a : Int32} (h : okj c s x.toInt) (hm : x.toInt % 3 = 0) (e : y.toInt = x.toInt + 3) (hx : rg 0 60 x) (ha : a.toNatClampNeg = 60 * s.toInt.toNat + x.toInt.toNat) (ho : okr c a.toNatClampNeg) : okj c s y.toInt := fun j hj => by
  by_cases q : (3 * j : Int) < x.toInt
  · exact h j q
  · rw [show 60 * s.toInt.toNat + 3 * j = a.toNatClampNeg by omega]; exact ho
theorem okj_t {c : Nat → Int64} {s x n : Int32} (h : okj c s x.toInt) (k : n ≤ x) : okj c s n.toInt := fun j hj => h j (by have := i_le k; omega)
theorem okj_l {c : Nat → Int64} {s x n a : Int32} (h : okj c s n.toInt) (k : ¬ n ≤ x) (hm : x.toInt % 3 = 0) (hx : rg 0 60 x) (ha : a.toNatClampNeg = 60 * s.toInt.toNat + x.toInt.toNat) : okr c a.toNatClampNeg := by
  have := i_nle k
  rw [show a.toNatClampNeg = 60 * s.toInt.toNat + 3 * (x.toInt.toNat / 3) by omega]
  exact h _ (by omega)
theorem nx1 {a b : Int32} {c : Nat} {d : Int} (e : b.toInt = a.toInt + d) (ha : rg 0 240 a) (hd : d = c) : b.toNatClampNeg = a.toNatClampNeg + c := by
  show b.toInt.toNat = a.toInt.toNat + c
  omega
theorem okr_d {c : Nat → Int64} {b b1 b2 : Nat} {z z1 z2 : Int64} (g : z = c b) (g1 : z1 = c b1) (g2 : z2 = c b2) (e1 : b1 = b + 1) (e2 : b2 = b + 2) (h : z = -1) (h1 : z1 = -1) (h2 : z2 = -1) : okr c b := by
  subst e1 e2
  exact Or.inl ⟨g ▸ h, g1 ▸ h1, g2 ▸ h2⟩
theorem okr_p {c : Nat → Int64} {b b1 b2 : Nat} {z z1 z2 : Int64} (g : z = c b) (g1 : z1 = c b1) (g2 : z2 = c b2) (e1 : b1 = b + 1) (e2 : b2 = b + 2) (h : rl 0 7 z) (h1 : rl 0 7 z1) (h2 : rl 0 5 z2) : okr c b := by
  subst e1 e2
  exact Or.inr ⟨g ▸ h, g1 ▸ h1, g2 ▸ h2⟩
theorem okr_n {c : Nat → Int64} {b : Nat} {z : Int64} (h : okr c b) (g : z = c b) (n : ¬ z = -1) : rl 0 7 (c b) ∧ rl 0 7 (c (b + 1)) ∧ rl 0 5 (c (b + 2)) := by
  rcases h with h | h
  · exact absurd (g.trans h.1) n
  · exact h
theorem hn_t {f : Nat → Int32} {p x n : Int32} (h : hn f p x.toInt) (c : n ≤ x) : hn f p n.toInt := fun k hk => h k (by have := i_le c; omega)
theorem hold_r {fh f : Nat → Int32} {p r : Int32} (h : r = 0 → hn f p (fh (1 : Int32).toNatClampNeg).toInt) (hh : hold fh f p) (hr : rg 0 255 r) : rg 1 255 r := by
  by_cases q : r = 0
  · obtain ⟨k, h1, h2⟩ := hh
    exact absurd h2 (h q k h1)
  · have := i_ne q
    have : (0 : Int32).toInt = 0 := (by decide)
    omega
def pc8 (n : Nat) : Int := ((List.range 8).countP (fun i => n.testBit i) : Nat)
theorem pc8_s : ∀ n : Fin 256, n.val ≠ 0 → pc8 (n.val &&& (n.val - 1)) + 1 = pc8 n.val := by decide +kernel
theorem pc8_b : ∀ n : Fin 256, 0 ≤ pc8 n.val ∧ pc8 n.val ≤ 8 ∧ (n.val ≠ 0 → 1 ≤ pc8 n.val) := by decide +kernel
theorem pc_0 {p : Int32} : (0 : Int32).toInt + pc8 p.toInt.toNat = pc8 p.toInt.toNat := by
  rw [show (0 : Int32).toInt = 0 by decide, Int.zero_add]
theorem pc_b {n v p : Int32} (h : n.toInt + pc8 v.toInt.toNat = pc8 p.toInt.toNat) (hz : 0 ≤ n.toInt) (hp : rg 1 255 p) (hv : rg 0 255 v) : rg 0 8 n := by
  have h1 := pc8_b ⟨v.toInt.toNat, by omega⟩
  have h2 := pc8_b ⟨p.toInt.toNat, by omega⟩
  have h3 : 0 ≤ pc8 v.toInt.toNat := h1.1
  have h4 : pc8 p.toInt.toNat ≤ 8 := h2.2.1
  exact ⟨hz, by omega⟩
theorem pc_s {n v p y z m : Int32} (h : n.toInt + pc8 v.toInt.toNat = pc8 p.toInt.toNat) (hv : rg 0 255 v) (hp : rg 1 255 p) (hy : y = v - 1) (hz : z = v &&& y) (hx : ¬ v = 0) (e : m.toInt = n.toInt + 1) : m.toInt + pc8 z.toInt.toNat = pc8 p.toInt.toNat := by
  have h0 := i_ne hx
  have h00 : (0 : Int32).toInt = 0 := (by decide)
  have e1 := tn_of hv (by decide)
  have h2 : y.toBitVec.toNat = v.toBitVec.toNat - 1 := by
    rw [hy, Int32.toBitVec_sub, BitVec.toNat_sub, show (1 : Int32).toBitVec.toNat = 1 from rfl]
    omega
  have h3 : z.toBitVec.toNat = v.toBitVec.toNat &&& (v.toBitVec.toNat - 1) := by rw [hz, Int32.toBitVec_and, BitVec.toNat_and, h2]
  have h4 : v.toBitVec.toNat &&& (v.toBitVec.toNat - 1) ≤ v.toBitVec.toNat := Nat.and_le_left
  have h5 := ti_of (x := z) (k := 0) (by omega)
  have h6 := pc8_s ⟨v.toBitVec.toNat, by omega⟩ (by show v.toBitVec.toNat ≠ 0; omega)
  have h7 : z.toInt.toNat = v.toBitVec.toNat &&& (v.toBitVec.toNat - 1) := by omega
  have h8 : v.toInt.toNat = v.toBitVec.toNat := by omega
  rw [h7]
  rw [h8] at h
  have h9 : pc8 (v.toBitVec.toNat &&& (v.toBitVec.toNat - 1)) + 1 = pc8 v.toBitVec.toNat := h6
  omega
theorem pc_e {n v p : Int32} (h : n.toInt + pc8 v.toInt.toNat = pc8 p.toInt.toNat) (c : v = 0) (hp : rg 1 255 p) : rg 1 8 n := by
  subst c
  have h2 := pc8_b ⟨p.toInt.toNat, by omega⟩
  have h3 : (1 : Int) ≤ pc8 p.toInt.toNat := h2.2.2 (by show p.toInt.toNat ≠ 0; omega)
  have h4 : pc8 p.toInt.toNat ≤ 8 := h2.2.1
  have h5 : pc8 (0 : Int32).toInt.toNat = 0 := by decide +kernel
  rw [h5] at h
  omega
theorem st_1 {a b c : Int32} (h : a = b ∨ a.toInt < b.toInt) (e : c.toInt = b.toInt + 1) : a.toInt < c.toInt := by
  rcases h with h | h
  · subst h; omega
  · omega
theorem st_x {a b t : Int32} {f : Nat → Int32} {lo hi : Int32} (h : a = b ∨ a.toInt < b.toInt) (h1 : a.toInt < t.toInt ∧ lo.toInt ≤ (f a.toNatClampNeg).toInt ∧ (f a.toNatClampNeg).toInt ≤ hi.toInt) (h2 : t.toInt ≤ b.toInt ∨ (f b.toNatClampNeg).toInt < lo.toInt ∨ hi.toInt < (f b.toNatClampNeg).toInt) : a.toInt < b.toInt := by
  rcases h with h | h
  · subst h; omega
  · exact h
theorem sz_e (x : Int32) : x.toBitVec.toNat < 4294967296 := x.toBitVec.isLt
theorem sz_dec {x y z : Int32} {n : Nat} (hy : y = x - 1) (hz : z = x &&& y) (hx : ¬ x = 0) (hn : x.toBitVec.toNat < n + 1) : z.toBitVec.toNat < n := by
  have h0 : x.toBitVec.toNat ≠ 0 := fun q => hx (Int32.toBitVec_inj.mp (BitVec.eq_of_toNat_eq (by rw [q]; rfl)))
  have h1 : z.toBitVec.toNat ≤ y.toBitVec.toNat := by rw [hz, Int32.toBitVec_and, BitVec.toNat_and]; exact Nat.and_le_right
  have h2 : y.toBitVec.toNat = x.toBitVec.toNat - 1 := by
    rw [hy, Int32.toBitVec_sub, BitVec.toNat_sub]
    have := x.toBitVec.isLt
    have h3 : (1 : Int32).toBitVec.toNat = 1 := rfl
    rw [h3]
    omega
  omega
