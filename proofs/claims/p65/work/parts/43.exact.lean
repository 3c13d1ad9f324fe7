
set_option maxHeartbeats 4000000 in
set_option maxRecDepth 100000 in
theorem e_X11_in (l : Launch) (G : va_G) (ct : Nat → ClassId) (p0 : Int64) (p1 : Int64) (p2 : Int64)  : Met l yX11_in wsX11_in ({ frames := 0, cells := 0, slots := 0, locals := 0 }) (va_Pc [.long p0, .long p1, .long p2] (roP G ct [])) (roQ (fun r => rg 0 1 r ∧ (¬ r = 0 → p1.toInt ≤ p0.toInt ∧ p0.toInt ≤ p2.toInt) ∧ (r = 0 → p0.toInt < p1.toInt ∨ p2.toInt < p0.toInt) ∧ (¬ r = 0 → p1.toInt ≤ p0.toInt ∧ p0.toInt ≤ p2.toInt) ∧ True)) 0 0 no := by
  refine Met.ofW (cc := cX11_in) (maxL := 6) (ret := (some .boolean)) (by decide) rfl ?_
  intro p e s m args below meth c s₁ B hml hv
  obtain ⟨rfl, hP, hK⟩ := hv
  have hx := B.exec
  have hb := B.bytes
  have hr := B.returns
  have hts := atoms_spec (ws := wsX11_in) B.pre
  have hown : s.vm.findClass RX11 = some m.cls := findClass_of_methodNamed B.named
  have hlocks := B.notSynchronized
  have hS : va_S no s.heap s.heap [] := va_S.rf
  have hl := lv_entry ([.long p0, .long p1, .long p2]) (n := 6) (Nat.le_of_ble_eq_true rfl)
  rw [lg_entry_eq]
  generalize (lg_sl ([.long p0, .long p1, .long p2]) ++ List.replicate (6 - (lg_sl ([.long p0, .long p1, .long p2])).length) Slot.unset).toArray = ls at hl ⊢
  have hl : lv_has ls 6 [(0, .long p0), (2, .long p1), (4, .long p2)] := hl
  refine lv_lload_n hx hb dX11_in_0 rfl (lv_at hl 0 rfl) ?_
  refine lv_lload_n hx hb dX11_in_1 rfl (lv_at hl 1 rfl) ?_
  refine W.lcmp hx hb dX11_in_2 ?_
  refine lb_lt (tgt := 17) hx hb dX11_in_3 (by decide) (fun c3 => ?_) (fun c3 => ?_)
  · have h_1 : rl (-9223372036854775808) 9223372036854775806 p0 := r_lt_l_l c3 (rl_t p0) (rl_t p1) (by decide)
    have h_2 : rl (-9223372036854775807) 9223372036854775807 p1 := r_lt_r_l c3 (rl_t p0) (rl_t p1) (by decide)
    refine lv_iconst (v := 0) hx hb dX11_in_17 (by decide) ?_
    exact W.zret (v := 0) (ty := .boolean) hx hb hr (rfl) (fun t ht hW => ⟨⟨0, (), rfl, ⟨(rg_w (c := 0) (d := 1) (rgn 0 (x := 0) (by decide)) (by decide)), (fun hq => absurd rfl hq), (fun _ => Or.inl (l_lt c3)), (fun hq => absurd (req (rgn 0 (x := 0) (by decide)) (y := 0) (by decide)) hq), trivial⟩, trivial⟩, hS.F ht⟩) hS.2.2 dX11_in_18
  · refine lv_lload_n hx hb dX11_in_6 rfl (lv_at hl 0 rfl) ?_
    refine lv_lload hx hb dX11_in_7 (lv_at hl 2 rfl) ?_
    refine W.lcmp hx hb dX11_in_9 ?_
    refine lb_gt (tgt := 17) hx hb dX11_in_10 (by decide) (fun c10 => ?_) (fun c10 => ?_)
    · have h_3 : rl (-9223372036854775808) 9223372036854775806 p2 := r_lt_l_l c10 (rl_t p2) (rl_t p0) (by decide)
      have h_4 : rl (-9223372036854775807) 9223372036854775807 p0 := r_lt_r_l c10 (rl_t p2) (rl_t p0) (by decide)
      refine lv_iconst (v := 0) hx hb dX11_in_17 (by decide) ?_
      exact W.zret (v := 0) (ty := .boolean) hx hb hr (rfl) (fun t ht hW => ⟨⟨0, (), rfl, ⟨(rg_w (c := 0) (d := 1) (rgn 0 (x := 0) (by decide)) (by decide)), (fun hq => absurd rfl hq), (fun _ => Or.inr (l_lt c10)), (fun hq => absurd (req (rgn 0 (x := 0) (by decide)) (y := 0) (by decide)) hq), trivial⟩, trivial⟩, hS.F ht⟩) hS.2.2 dX11_in_18
    · refine lv_iconst (v := 1) hx hb dX11_in_13 (by decide) ?_
      refine lv_goto (tgt := 18) hx hb dX11_in_14 (by decide) ?_
      exact W.zret (v := 1) (ty := .boolean) hx hb hr (rfl) (fun t ht hW => ⟨⟨1, (), rfl, ⟨(rg_w (c := 0) (d := 1) (rgn 1 (x := 1) (by decide)) (by decide)), (fun _ => ⟨l_nlt c3, l_nlt c10⟩), (fun hq => absurd hq (rne (rgn 1 (x := 1) (by decide)) (y := 0) (c := 0) (by decide) (by decide))), (fun _ => ⟨l_nlt c3, l_nlt c10⟩), trivial⟩, trivial⟩, hS.F ht⟩) hS.2.2 dX11_in_18

def rwA (p q n : Int32) : Int32 := if 0 ≤ p.toInt ∧ p.toInt ≤ 3 ∧ 0 ≤ q.toInt ∧ q.toInt ≤ 3 ∧ n.toInt ≤ 60 then (if n.toInt < 0 then -3 else 0) else -2
set_option maxHeartbeats 4000000 in
set_option maxRecDepth 100000 in
theorem e_X6_isSlot (l : Launch) (G : va_G) (ct : Nat → ClassId) (a0 : Nat) (a1 : Nat) (a6 : Nat) (a7 : Nat) (n0_3 : Int32) (p0 : Int32)  : Met l yX6_isSlot wsX6_isSlot ({ frames := 0, cells := 0, slots := 0, locals := 0 }) (va_Pc [.ref a0, .int p0] (roP G ct [(a0, .inr (6, [.ref a1, .ref a6, .ref a7, .int n0_3]))])) (roQ (fun r => rg 0 1 r ∧ (¬ r = 0 → rg 0 3 p0) ∧ (r = 0 → p0.toInt < 0 ∨ 3 < p0.toInt) ∧ True)) 0 0 no := by
  refine Met.ofW (cc := cX6_isSlot) (maxL := 2) (ret := (some .boolean)) (by decide) rfl ?_
  intro p e s m args below meth c s₁ B hml hv
  obtain ⟨rfl, hP, hK⟩ := hv
  have hx := B.exec
  have hb := B.bytes
  have hr := B.returns
  have hts := atoms_spec (ws := wsX6_isSlot) B.pre
  have hown : s.vm.findClass RX6 = some m.cls := findClass_of_methodNamed B.named
  have hlocks := B.notSynchronized
  have hS : va_S no s.heap s.heap [] := va_S.rf
  have hl := lv_entry ([.ref a0, .int p0]) (n := 2) (Nat.le_of_ble_eq_true rfl)
  rw [lg_entry_eq]
  generalize (lg_sl ([.ref a0, .int p0]) ++ List.replicate (2 - (lg_sl ([.ref a0, .int p0])).length) Slot.unset).toArray = ls at hl ⊢
  have hl : lv_has ls 2 [(0, .ref a0), (1, .int p0)] := hl
  refine lv_iload_n hx hb dX6_isSlot_0 rfl (lv_at hl 1 rfl) ?_
  refine lv_if_lt (tgt := 13) hx hb dX6_isSlot_1 (by decide) (fun c1 => ?_) (fun c1 => ?_)
  · have h_1 : rg (-2147483648) (-1) p0 := r_lt_l_i c1 (rg_t p0) (rgn 0 (x := 0) (by decide)) (by decide)
    refine lv_iconst (v := 0) hx hb dX6_isSlot_13 (by decide) ?_
    exact W.zret (v := 0) (ty := .boolean) hx hb hr (rfl) (fun t ht hW => ⟨⟨0, (), rfl, ⟨(rg_w (c := 0) (d := 1) (rgn 0 (x := 0) (by decide)) (by decide)), (fun hq => absurd (req (rgn 0 (x := 0) (by decide)) (y := 0) (by decide)) hq), (fun _ => by have := h_1; omega), trivial⟩, trivial⟩, hS.F ht⟩) hS.2.2 dX6_isSlot_14
  · have h_2 : rg 0 2147483647 p0 := r_le_r_i (nlt_i c1) (rgn 0 (x := 0) (by decide)) (rg_t p0)
    refine lv_iload_n hx hb dX6_isSlot_4 rfl (lv_at hl 1 rfl) ?_
    refine lv_iconst (v := 4) hx hb dX6_isSlot_5 (by decide) ?_
    refine lv_icmp_ge (tgt := 13) hx hb dX6_isSlot_6 (by decide) (fun c6 => ?_) (fun c6 => ?_)
    · have h_3 : rg 4 2147483647 p0 := r_le_r_i c6 (rgn 4 (x := 4) (by decide)) h_2
      refine lv_iconst (v := 0) hx hb dX6_isSlot_13 (by decide) ?_
      exact W.zret (v := 0) (ty := .boolean) hx hb hr (rfl) (fun t ht hW => ⟨⟨0, (), rfl, ⟨(rg_w (c := 0) (d := 1) (rgn 0 (x := 0) (by decide)) (by decide)), (fun hq => absurd (req (rgn 0 (x := 0) (by decide)) (y := 0) (by decide)) hq), (fun _ => by have := h_3; omega), trivial⟩, trivial⟩, hS.F ht⟩) hS.2.2 dX6_isSlot_14
    · have h_4 : rg 0 3 p0 := r_lt_l_i (nle_i c6) h_2 (rgn 4 (x := 4) (by decide)) (by decide)
      refine lv_iconst (v := 1) hx hb dX6_isSlot_9 (by decide) ?_
      refine lv_goto (tgt := 14) hx hb dX6_isSlot_10 (by decide) ?_
      exact W.zret (v := 1) (ty := .boolean) hx hb hr (rfl) (fun t ht hW => ⟨⟨1, (), rfl, ⟨(rg_w (c := 0) (d := 1) (rgn 1 (x := 1) (by decide)) (by decide)), (fun _ => h_4), (fun hq => absurd hq (rne (rgn 1 (x := 1) (by decide)) (y := 0) (c := 0) (by decide) (by decide))), trivial⟩, trivial⟩, hS.F ht⟩) hS.2.2 dX6_isSlot_14

set_option maxHeartbeats 4000000 in
set_option maxRecDepth 100000 in
theorem e_X11_isSlot (l : Launch) (G : va_G) (ct : Nat → ClassId) (p0 : Int32)  : Met l yX11_isSlot wsX11_isSlot ({ frames := 1, cells := 0, slots := 0, locals := 25 }) (va_Pc [.int p0] (roP G ct [])) (roQ (fun r => rg 0 1 r ∧ (¬ r = 0 → rg 0 3 p0) ∧ (r = 0 → p0.toInt < 0 ∨ 3 < p0.toInt) ∧ True)) 0 0 no := by
  refine Met.ofW (cc := cX11_isSlot) (maxL := 1) (ret := (some .boolean)) (by decide) rfl ?_
  intro p e s m args below meth c s₁ B hml hv
  obtain ⟨rfl, hP, hK⟩ := hv
  have hx := B.exec
  have hb := B.bytes
  have hr := B.returns
  have hts := atoms_spec (ws := wsX11_isSlot) B.pre
  have hown : s.vm.findClass RX11 = some m.cls := findClass_of_methodNamed B.named
  have hlocks := B.notSynchronized
  have hS : va_S no s.heap s.heap [] := va_S.rf
  have hl := lv_entry ([.int p0]) (n := 1) (Nat.le_of_ble_eq_true rfl)
  rw [lg_entry_eq]
  generalize (lg_sl ([.int p0]) ++ List.replicate (1 - (lg_sl ([.int p0])).length) Slot.unset).toArray = ls at hl ⊢
  have hl : lv_has ls 1 [(0, .int p0)] := hl
  refine lv_iload_n hx hb dX11_isSlot_0 rfl (lv_at hl 0 rfl) ?_
  refine lv_i2l hx hb dX11_isSlot_1 rfl ?_
  refine nl_i2l (rg_t p0) (fun z1 hz1 ez1 => ?_)
  refine lv_lconst (v := 0) hx hb dX11_isSlot_2 (by decide) ?_
  refine lv_ldc2 (own := RX11) (v := 3) hx hb hown (hts (.constantLong RX11 62 (3)) (by decide +kernel)) dX11_isSlot_3 ?_
  refine ro_calli (va_runS (As := [.long z1, .long 0, .long 3]) (rest := []) ⟨hx, hb, hml, hown, hts⟩ (e_X11_in l G ct z1 (0 : Int64) (3 : Int64)) (va_cwS 3 hts gX11_isSlot_X11_in rfl rfl rfl (by decide +kernel) ⟨Nat.le_of_ble_eq_true rfl, Nat.le_of_ble_eq_true rfl⟩) (ro_pre hK (hP.sub [] rfl)) rfl rfl hl.1 rfl (lv_room (Nat.le_of_ble_eq_true rfl)) dX11_isSlot_6 ⟨Nat.zero_le _, Nat.zero_le _⟩) hS hP (fun r6 H locs wr6 hP hS => ?_)
  obtain ⟨p_1, p_2, p_3, p_4, -⟩ := wr6
  exact W.zret (v := r6) (ty := .boolean) hx hb hr (nar_rg p_1) (fun t ht hW => ⟨⟨r6, (), rfl, ⟨p_1, (fun hq => rg_w ((fun hq => bk_li (a := 0) (b := 3) ez1 ((fun hq => in_im (p_2 hq) (rln 0 (x := 0) (by decide)) (rln 3 (x := 3) (by decide))) hq) (rg_t p0) (by decide)) hq) (by decide)), (fun hq => by have h9 := p_3 hq; have := ez1; have : (0 : Int64).toInt = 0 := (by decide); have : (3 : Int64).toInt = 3 := (by decide); omega), trivial⟩, trivial⟩, hS.F ht⟩) hS.2.2 dX11_isSlot_9

def bt (x : Int32) (i : Nat) : Bool := x.toBitVec.getLsbD i
theorem b_ext {x y : Int32} (h : ∀ i, i < 32 → bt x i = bt y i) : x = y := Int32.toBitVec_inj.mp (BitVec.eq_of_getLsbD_eq (fun i hi => h i hi))
theorem b_or (x y : Int32) (i : Nat) : bt (x ||| y) i = (bt x i || bt y i) := by unfold bt; rw [Int32.toBitVec_or, BitVec.getLsbD_or]
theorem b_and (x y : Int32) (i : Nat) : bt (x &&& y) i = (bt x i && bt y i) := by unfold bt; rw [Int32.toBitVec_and, BitVec.getLsbD_and]
theorem b_xor (x y : Int32) (i : Nat) : bt (x ^^^ y) i = (bt x i ^^ bt y i) := by unfold bt; rw [Int32.toBitVec_xor, BitVec.getLsbD_xor]
theorem b_big {x : Int32} {i : Nat} (h : 32 ≤ i) : bt x i = false := BitVec.getLsbD_of_ge _ _ h
theorem b_255 (i : Nat) : bt 255 i = decide (i < 8) := by
  rcases Nat.lt_or_ge i 32 with h | h
  · exact (by decide +kernel : ∀ i, i < 32 → bt 255 i = decide (i < 8)) i h
  · rw [b_big h, decide_eq_false (by omega)]
theorem b_65535 (i : Nat) : bt 65535 i = decide (i < 16) := by
  rcases Nat.lt_or_ge i 32 with h | h
  · exact (by decide +kernel : ∀ i, i < 32 → bt 65535 i = decide (i < 16)) i h
  · rw [b_big h, decide_eq_false (by omega)]
theorem b_m1 : ∀ i, i < 32 → bt (-1) i = true := by decide +kernel
theorem b_0 (i : Nat) : bt 0 i = false := BitVec.getLsbD_zero
theorem s_l : ∀ n, n < 32 → ((nI n &&& 31).toBitVec.smod 32).toNat = n := by decide +kernel
theorem s_u : ∀ n, n < 32 → (((nI n).toUInt32 &&& Int32.toUInt32 31).toBitVec % 32).toNat = n := by decide +kernel
theorem b_shl (n : Nat) (hn : n < 32) (x : Int32) {i : Nat} (hi : i < 32) : bt (x <<< (nI n &&& 31)) i = (decide (n ≤ i) && bt x (i - n)) := by
  unfold bt
  rw [Int32.toBitVec_shiftLeft]
  show (x.toBitVec <<< ((nI n &&& 31).toBitVec.smod 32).toNat).getLsbD i = _
  rw [s_l n hn, BitVec.getLsbD_shiftLeft]
  rcases Nat.lt_or_ge i n with h | h
  · simp [h, Nat.not_le.mpr h]
  · simp [hi, h, Nat.not_lt.mpr h]
theorem b_ushr (n : Nat) (hn : n < 32) (x : Int32) (i : Nat) : bt ((x.toUInt32 >>> ((nI n).toUInt32 &&& Int32.toUInt32 31)).toInt32) i = bt x (n + i) := by
  show (x.toUInt32 >>> ((nI n).toUInt32 &&& Int32.toUInt32 31)).toBitVec.getLsbD i = x.toUInt32.toBitVec.getLsbD (n + i)
  rw [UInt32.toBitVec_shiftRight]
  show (x.toUInt32.toBitVec >>> (((nI n).toUInt32 &&& Int32.toUInt32 31).toBitVec % 32).toNat).getLsbD i = _
  rw [s_u n hn, BitVec.getLsbD_ushiftRight]
theorem b_sshr (n : Nat) (hn : n < 32) (x : Int32) {i : Nat} (hi : i < 32) : bt (x >>> (nI n &&& 31)) i = if n + i < 32 then bt x (n + i) else bt x 31 := by
  unfold bt
  rw [Int32.toBitVec_shiftRight]
  show (x.toBitVec.sshiftRight ((nI n &&& 31).toBitVec.smod 32).toNat).getLsbD i = _
  rw [s_l n hn, BitVec.getLsbD_sshiftRight, BitVec.msb_eq_getLsbD_last]
  simp [hi]
theorem b_shl8 (x : Int32) {i : Nat} (hi : i < 32) : bt (x <<< ((8 : Int32) &&& 31)) i = (decide (8 ≤ i) && bt x (i - 8)) := b_shl 8 (by omega) x hi
theorem b_shl16 (x : Int32) {i : Nat} (hi : i < 32) : bt (x <<< ((16 : Int32) &&& 31)) i = (decide (16 ≤ i) && bt x (i - 16)) := b_shl 16 (by omega) x hi
theorem b_shl24 (x : Int32) {i : Nat} (hi : i < 32) : bt (x <<< ((24 : Int32) &&& 31)) i = (decide (24 ≤ i) && bt x (i - 24)) := b_shl 24 (by omega) x hi
theorem b_sshr8 (x : Int32) {i : Nat} (hi : i < 32) : bt (x >>> ((8 : Int32) &&& 31)) i = if 8 + i < 32 then bt x (8 + i) else bt x 31 := b_sshr 8 (by omega) x hi

def btA (x i : Int32) : Int32 := (x >>> (i &&& 31)) &&& 1
def szA (f : Nat → Int32) (p : Int32) : Int32 := if 0 ≤ p.toInt ∧ p.toInt ≤ 3 then f p.toNatClampNeg else 0
def mkK (K p : Int32) : Int32 := if 0 ≤ p.toInt ∧ p.toInt ≤ 3 then K ||| ((1 : Int32) <<< (p &&& 31)) else K
def mkF (f : Nat → Int32) (p x : Int32) : Nat → Int32 := if 0 ≤ p.toInt ∧ p.toInt ≤ 3 then upd f p.toNatClampNeg x else f
theorem sz_y {f : Nat → Int32} {p : Int32} (h : 0 ≤ p.toInt ∧ p.toInt ≤ 3) : szA f p = f p.toNatClampNeg := if_pos h
theorem sz_n {f : Nat → Int32} {p : Int32} (h : ¬ (0 ≤ p.toInt ∧ p.toInt ≤ 3)) : szA f p = 0 := if_neg h
theorem mk_y {K p : Int32} (h : 0 ≤ p.toInt ∧ p.toInt ≤ 3) : mkK K p = K ||| ((1 : Int32) <<< (p &&& 31)) := if_pos h
theorem mk_n {K p : Int32} (h : ¬ (0 ≤ p.toInt ∧ p.toInt ≤ 3)) : mkK K p = K := if_neg h
theorem mf_y {f : Nat → Int32} {p x : Int32} (h : 0 ≤ p.toInt ∧ p.toInt ≤ 3) : mkF f p x = upd f p.toNatClampNeg x := if_pos h
theorem mf_n {f : Nat → Int32} {p x : Int32} (h : ¬ (0 ≤ p.toInt ∧ p.toInt ≤ 3)) : mkF f p x = f := if_neg h
theorem bt_1 : ∀ i : Nat, i < 32 → bt 1 i = decide (i = 0) := by decide +kernel
theorem btA_bt {K : Int32} {n : Nat} (hn : n < 32) : btA K (nI n) = 1 ↔ bt K n = true := by
  have h0 : bt (btA K (nI n)) 0 = bt K n := by
    unfold btA
    rw [b_and, b_sshr n hn K (i := 0) (by decide), bt_1 0 (by decide), if_pos (by omega), Nat.add_zero]
    simp
  constructor
  · intro h
    rw [h] at h0
    rw [← h0]
    exact bt_1 0 (by decide)
  · intro h
    refine b_ext (fun i hi => ?_)
    rw [bt_1 i hi]
    by_cases hz : i = 0
    · subst hz
      rw [h0, h]
      rfl
    · unfold btA
      rw [b_and, bt_1 i hi, decide_eq_false hz, Bool.and_false]
theorem bt_mk {K : Int32} {i j : Nat} (hi : i < 32) (hj : j < 32) : bt (K ||| ((1 : Int32) <<< (nI i &&& 31))) j = (bt K j || decide (i = j)) := by
  rw [b_or, b_shl i hi 1 hj]
  congr 1
  by_cases h : i = j
  · subst h
    rw [Nat.sub_self, bt_1 0 (by decide)]
    simp
  · rw [decide_eq_false h]
    by_cases h2 : i ≤ j
    · rw [bt_1 _ (show j - i < 32 by omega), decide_eq_false (show ¬ j - i = 0 by omega), Bool.and_false]
    · rw [decide_eq_false h2, Bool.false_and]
def RK (K : Int32) (wd sz w mn : Nat → Int32) : Prop := ∀ s : Int32, 0 ≤ s.toInt → s.toInt ≤ 3 → ((btA K s = 1) ↔ ¬ w s.toNatClampNeg = -1) ∧ sz s.toNatClampNeg = mn s.toNatClampNeg ∧ (¬ w s.toNatClampNeg = -1 → wd s.toNatClampNeg = w s.toNatClampNeg)
theorem nI_04 {s : Int32} (h0 : 0 ≤ s.toInt) (h3 : s.toInt ≤ 3) : ∃ n : Nat, n < 4 ∧ s = nI n ∧ s.toNatClampNeg = n := by
  have h1 : s.toInt = (s.toInt.toNat : Int) := by omega
  exact ⟨s.toInt.toNat, by omega, nI_x h1, rfl⟩
theorem upd_a (f : Nat → Int32) (i : Nat) (x : Int32) : upd f i x i = x := if_pos rfl
theorem upd_b (f : Nat → Int32) {i j : Nat} (x : Int32) (h : ¬ j = i) : upd f i x j = f j := if_neg h
theorem RK_row {K : Int32} {wd sz w mn : Nat → Int32} {p q n : Int32} (hR : RK K wd sz w mn) (hp : 0 ≤ p.toInt ∧ p.toInt ≤ 3) (hq : 0 ≤ q.toInt) : RK (mkK K p) (mkF wd p q) (mkF sz p n) (mkF w p q) (mkF mn p n) := by
  rw [mk_y hp, mf_y hp, mf_y hp, mf_y hp, mf_y hp]
  obtain ⟨i, hi, ep, ec⟩ := nI_04 hp.1 hp.2
  intro s h0 h3
  obtain ⟨j, hj, es, ed⟩ := nI_04 h0 h3
  have hr := hR s h0 h3
  rw [ec, ed]
  rw [ed] at hr
  rw [es, ep, btA_bt (by omega), bt_mk (by omega) (by omega)]
  rw [es, btA_bt (by omega)] at hr
  by_cases h : j = i
  · subst h
    have hq1 : ¬ q = -1 := fun z => by rw [z] at hq; exact absurd hq (by decide)
    rw [upd_a, upd_a, upd_a, upd_a]
    refine ⟨⟨fun _ => hq1, fun _ => by simp⟩, rfl, fun _ => rfl⟩
  · rw [upd_b _ _ h, upd_b _ _ h, upd_b _ _ h, upd_b _ _ h, decide_eq_false (show ¬ i = j from fun z => h z.symm), Bool.or_false]
    exact hr
theorem rw_0 {p q n : Int32} (h : rwA p q n = 0) : (0 ≤ p.toInt ∧ p.toInt ≤ 3) ∧ 0 ≤ q.toInt := by
  unfold rwA at h
  by_cases hc : 0 ≤ p.toInt ∧ p.toInt ≤ 3 ∧ 0 ≤ q.toInt ∧ q.toInt ≤ 3 ∧ n.toInt ≤ 60
  · exact ⟨⟨hc.1, hc.2.1⟩, hc.2.2.1⟩
  · rw [if_neg hc] at h
    exact absurd h (by decide)
theorem RK_step {K K2 : Int32} {wd sz w mn wd2 sz2 w2 mn2 : Nat → Int32} {p q n r1 r2 : Int32} (hR : RK K wd sz w mn) (e1 : r1 = rwA p q n) (e2 : r2 = rwA p q n) (a1 : r1 = 0 → K2 = mkK K p) (a2 : r1 = 0 → wd2 = mkF wd p q) (a3 : r1 = 0 → sz2 = mkF sz p n) (a4 : ¬ r1 = 0 → K2 = K) (a5 : ¬ r1 = 0 → wd2 = wd) (a6 : ¬ r1 = 0 → sz2 = sz) (b1 : r2 = 0 → w2 = mkF w p q) (b2 : r2 = 0 → mn2 = mkF mn p n) (b3 : ¬ r2 = 0 → w2 = w) (b4 : ¬ r2 = 0 → mn2 = mn) : RK K2 wd2 sz2 w2 mn2 := by
  have e3 : r2 = r1 := e2.trans e1.symm
  by_cases h : r1 = 0
  · have h2 := e3.trans h
    rw [a1 h, a2 h, a3 h, b1 h2, b2 h2]
    have hz := rw_0 (e1.symm.trans h)
    exact RK_row hR hz.1 hz.2
  · have h2 : ¬ r2 = 0 := fun z => h (e3.symm.trans z)
    rw [a4 h, a5 h, a6 h, b3 h2, b4 h2]
    exact hR
def wrA (p q : Int32) (a : Bool) (x : Int) : Int32 := if 0 ≤ p.toInt ∧ p.toInt ≤ 3 then (if a = true then (if 0 ≤ q.toInt ∧ q.toInt < x then 0 else -7) else -6) else -2
theorem wr_2 {p q : Int32} {a : Bool} {x : Int} (h : ¬ (0 ≤ p.toInt ∧ p.toInt ≤ 3)) : -2 = wrA p q a x := (if_neg h).symm
theorem wr_6 {p q : Int32} {a : Bool} {x : Int} (h : 0 ≤ p.toInt ∧ p.toInt ≤ 3) (h2 : ¬ a = true) : -6 = wrA p q a x := by unfold wrA; rw [if_pos h, if_neg h2]
theorem wr_7 {p q : Int32} {a : Bool} {x : Int} (h : 0 ≤ p.toInt ∧ p.toInt ≤ 3) (h2 : a = true) (h3 : ¬ (0 ≤ q.toInt ∧ q.toInt < x)) : -7 = wrA p q a x := by unfold wrA; rw [if_pos h, if_pos h2, if_neg h3]
theorem wr_0 {p q : Int32} {a : Bool} {x : Int} (h : 0 ≤ p.toInt ∧ p.toInt ≤ 3) (h2 : a = true) (h3 : 0 ≤ q.toInt ∧ q.toInt < x) : 0 = wrA p q a x := by unfold wrA; rw [if_pos h, if_pos h2, if_pos h3]
theorem wr_eq {K : Int32} {wd sz w mn : Nat → Int32} {p q : Int32} (hR : RK K wd sz w mn) : wrA p q (decide (btA K p = 1)) (sz p.toNatClampNeg).toInt = wrA p q (decide (¬ w p.toNatClampNeg = -1)) (mn p.toNatClampNeg).toInt := by
  by_cases h : 0 ≤ p.toInt ∧ p.toInt ≤ 3
  · obtain ⟨h1, h2, h3⟩ := hR p h.1 h.2
    rw [h2, decide_eq_decide.mpr h1]
  · exact (wr_2 h).symm.trans (wr_2 h)
def psA (s i t k n : Int32) (a b w : Bool) (x y : Int) : Int32 := if (0 ≤ s.toInt ∧ s.toInt ≤ 3) ∧ 0 ≤ t.toInt ∧ t.toInt ≤ 3 then (if a = true ∧ b = true then (if w = true then (if 0 ≤ i.toInt ∧ 0 ≤ k.toInt ∧ 0 ≤ n.toInt ∧ i.toInt + n.toInt ≤ x ∧ k.toInt + n.toInt ≤ y then 0 else -7) else -8) else -6) else -2
theorem ps_2 {s i t k n : Int32} {a b w : Bool} {x y : Int} (h : ¬ ((0 ≤ s.toInt ∧ s.toInt ≤ 3) ∧ 0 ≤ t.toInt ∧ t.toInt ≤ 3)) : -2 = psA s i t k n a b w x y := (if_neg h).symm
theorem ps_6 {s i t k n : Int32} {a b w : Bool} {x y : Int} (h : (0 ≤ s.toInt ∧ s.toInt ≤ 3) ∧ 0 ≤ t.toInt ∧ t.toInt ≤ 3) (h2 : ¬ (a = true ∧ b = true)) : -6 = psA s i t k n a b w x y := by unfold psA; rw [if_pos h, if_neg h2]
theorem ps_8 {s i t k n : Int32} {a b w : Bool} {x y : Int} (h : (0 ≤ s.toInt ∧ s.toInt ≤ 3) ∧ 0 ≤ t.toInt ∧ t.toInt ≤ 3) (h2 : a = true ∧ b = true) (h3 : ¬ w = true) : -8 = psA s i t k n a b w x y := by unfold psA; rw [if_pos h, if_pos h2, if_neg h3]
theorem ps_7 {s i t k n : Int32} {a b w : Bool} {x y : Int} (h : (0 ≤ s.toInt ∧ s.toInt ≤ 3) ∧ 0 ≤ t.toInt ∧ t.toInt ≤ 3) (h2 : a = true ∧ b = true) (h3 : w = true) (h4 : ¬ (0 ≤ i.toInt ∧ 0 ≤ k.toInt ∧ 0 ≤ n.toInt ∧ i.toInt + n.toInt ≤ x ∧ k.toInt + n.toInt ≤ y)) : -7 = psA s i t k n a b w x y := by unfold psA; rw [if_pos h, if_pos h2, if_pos h3, if_neg h4]
theorem ps_0 {s i t k n : Int32} {a b w : Bool} {x y : Int} (h : (0 ≤ s.toInt ∧ s.toInt ≤ 3) ∧ 0 ≤ t.toInt ∧ t.toInt ≤ 3) (h2 : a = true ∧ b = true) (h3 : w = true) (h4 : 0 ≤ i.toInt ∧ 0 ≤ k.toInt ∧ 0 ≤ n.toInt ∧ i.toInt + n.toInt ≤ x ∧ k.toInt + n.toInt ≤ y) : 0 = psA s i t k n a b w x y := by unfold psA; rw [if_pos h, if_pos h2, if_pos h3, if_pos h4]
theorem ps_eq {K : Int32} {wd sz w mn : Nat → Int32} {s i t k n : Int32} (hR : RK K wd sz w mn) : psA s i t k n (decide (btA K s = 1)) (decide (btA K t = 1)) (decide (wd s.toNatClampNeg = wd t.toNatClampNeg)) (sz s.toNatClampNeg).toInt (sz t.toNatClampNeg).toInt = psA s i t k n (decide (¬ w s.toNatClampNeg = -1)) (decide (¬ w t.toNatClampNeg = -1)) (decide (w s.toNatClampNeg = w t.toNatClampNeg)) (mn s.toNatClampNeg).toInt (mn t.toNatClampNeg).toInt := by
  by_cases h : (0 ≤ s.toInt ∧ s.toInt ≤ 3) ∧ 0 ≤ t.toInt ∧ t.toInt ≤ 3
  · obtain ⟨h1, h2, h3⟩ := hR s h.1.1 h.1.2
    obtain ⟨h4, h5, h6⟩ := hR t h.2.1 h.2.2
    rw [h2, h5, decide_eq_decide.mpr h1, decide_eq_decide.mpr h4]
    by_cases hh : (decide (¬ w s.toNatClampNeg = -1)) = true ∧ (decide (¬ w t.toNatClampNeg = -1)) = true
    · rw [h3 (of_decide_eq_true hh.1), h6 (of_decide_eq_true hh.2)]
    · exact (ps_6 h hh).symm.trans (ps_6 h hh)
  · exact (ps_2 h).symm.trans (ps_2 h)
set_option maxHeartbeats 4000000 in
set_option maxRecDepth 100000 in
theorem e_X10_bitOf (l : Launch) (G : va_G) (ct : Nat → ClassId) (p0 : Int32) (p1 : Int32)  : Met l yX10_bitOf wsX10_bitOf ({ frames := 0, cells := 0, slots := 0, locals := 0 }) (va_Pc [.int p0, .int p1] (roP G ct [])) (roQ (fun r => rg 0 1 r ∧ r = btA p0 p1 ∧ True)) 0 0 no := by
  refine Met.ofW (cc := cX10_bitOf) (maxL := 2) (ret := (some .int)) (by decide) rfl ?_
  intro p e s m args below meth c s₁ B hml hv
  obtain ⟨rfl, hP, hK⟩ := hv
  have hx := B.exec
  have hb := B.bytes
  have hr := B.returns
  have hts := atoms_spec (ws := wsX10_bitOf) B.pre
  have hown : s.vm.findClass RX10 = some m.cls := findClass_of_methodNamed B.named
  have hlocks := B.notSynchronized
  have hS : va_S no s.heap s.heap [] := va_S.rf
  have hl := lv_entry ([.int p0, .int p1]) (n := 2) (Nat.le_of_ble_eq_true rfl)
  rw [lg_entry_eq]
  generalize (lg_sl ([.int p0, .int p1]) ++ List.replicate (2 - (lg_sl ([.int p0, .int p1])).length) Slot.unset).toArray = ls at hl ⊢
  have hl : lv_has ls 2 [(0, .int p0), (1, .int p1)] := hl
  refine lv_iload_n hx hb dX10_bitOf_0 rfl (lv_at hl 0 rfl) ?_
  refine lv_iload_n hx hb dX10_bitOf_1 rfl (lv_at hl 1 rfl) ?_
  refine lv_ishr hx hb dX10_bitOf_2 ?_
  refine lv_topi (fun z2 gz2 => ?_)
  refine lv_iconst (v := 1) hx hb dX10_bitOf_3 (by decide) ?_
  refine lv_iand hx hb dX10_bitOf_4 ?_
  refine lv_topi (fun z4 gz4 => ?_)
  have hz4 : rg 0 1 z4 := by rw [gz4]; exact andr_rg (rgn 1 (x := 1) (by decide)) (by decide)
  exact W.iret (v := z4) hx hb hr (fun t ht hW => ⟨⟨z4, (), rfl, ⟨hz4, (show z4 = btA p0 p1 by rw [gz4, gz2]; rfl), trivial⟩, trivial⟩, hS.F ht⟩) hS.2.2 dX10_bitOf_5

set_option maxHeartbeats 4000000 in
set_option maxRecDepth 100000 in
theorem e_X6_isKept (l : Launch) (G : va_G) (ct : Nat → ClassId) (a0 : Nat) (a1 : Nat) (a6 : Nat) (a7 : Nat) (n0_3 : Int32) (p0 : Int32)  : Met l yX6_isKept wsX6_isKept ({ frames := 1, cells := 0, slots := 0, locals := 21 }) (va_Pc [.ref a0, .int p0] (roP G ct [(a0, .inr (6, [.ref a1, .ref a6, .ref a7, .int n0_3]))])) (roQ (fun r => rg 0 1 r ∧ (¬ r = 0 → rg 0 3 p0) ∧ (¬ r = 0 → btA n0_3 p0 = 1) ∧ (r = 0 → (p0.toInt < 0 ∨ 3 < p0.toInt) ∨ ¬ btA n0_3 p0 = 1) ∧ True)) 0 0 no := by
  refine Met.ofW (cc := cX6_isKept) (maxL := 2) (ret := (some .boolean)) (by decide) rfl ?_
  intro p e s m args below meth c s₁ B hml hv
  obtain ⟨rfl, hP, hK⟩ := hv
  have hx := B.exec
  have hb := B.bytes
  have hr := B.returns
  have hts := atoms_spec (ws := wsX6_isKept) B.pre
  have hown : s.vm.findClass RX6 = some m.cls := findClass_of_methodNamed B.named
  have hlocks := B.notSynchronized
  have hS : va_S no s.heap s.heap [] := va_S.rf
  have hl := lv_entry ([.ref a0, .int p0]) (n := 2) (Nat.le_of_ble_eq_true rfl)
  rw [lg_entry_eq]
  generalize (lg_sl ([.ref a0, .int p0]) ++ List.replicate (2 - (lg_sl ([.ref a0, .int p0])).length) Slot.unset).toArray = ls at hl ⊢
  have hl : lv_has ls 2 [(0, .ref a0), (1, .int p0)] := hl
  refine lv_aload_n hx hb dX6_isKept_0 rfl (lv_at hl 0 rfl) ?_
  refine lv_iload_n hx hb dX6_isKept_1 rfl (lv_at hl 1 rfl) ?_
  refine ro_calli (va_runV (As := [.int p0]) (rest := []) ⟨hx, hb, hml, hown, hts⟩ (e_X6_isSlot l G ct a0 a1 a6 a7 n0_3 p0) (cwV 1 hts gX6_isKept_X6_isSlot rfl rfl rfl (by decide +kernel) ⟨Nat.le_of_ble_eq_true rfl, Nat.le_of_ble_eq_true rfl⟩) (ro_preV 6 0 hK (hP.sub [0] rfl) rfl rfl) rfl rfl hl.1 rfl (lv_room (Nat.le_of_ble_eq_true rfl)) dX6_isKept_2 ⟨Nat.zero_le _, Nat.zero_le _⟩) hS hP (fun r2 H locs wr2 hP hS => ?_)
  obtain ⟨p_1, p_2, p_3, -⟩ := wr2
  refine lv_if_eq (tgt := 24) hx hb dX6_isKept_5 (by decide) (fun c5 => ?_) (fun c5 => ?_)
  · have h_4 : rg 0 0 r2 := r_eq_l_i (e := 0) (f := 0) c5 p_1 (rgn 0 (x := 0) (by decide)) (by decide)
    refine lv_iconst (v := 0) hx hb dX6_isKept_24 (by decide) ?_
    exact W.zret (v := 0) (ty := .boolean) hx hb hr (rfl) (fun t ht hW => ⟨⟨0, (), rfl, ⟨(rg_w (c := 0) (d := 1) (rgn 0 (x := 0) (by decide)) (by decide)), (fun hq => absurd (req (rgn 0 (x := 0) (by decide)) (y := 0) (by decide)) hq), (fun hq => absurd (req (rgn 0 (x := 0) (by decide)) (y := 0) (by decide)) hq), (fun _ => Or.inl (p_3 (req h_4 (y := 0) (by decide)))), trivial⟩, trivial⟩, hS.F ht⟩) hS.2.2 dX6_isKept_25
  · have h_5 : rg 1 1 r2 := r_ne_lo_i c5 p_1 (by decide) (by decide)
    have h_6 : rg 0 3 p0 := (p_2 (rne h_5 (y := 0) (c := 0) (by decide) (by decide)))
    refine lv_aload_n hx hb dX6_isKept_8 rfl (lv_at hl 0 rfl) ?_
    refine va_get (D := G) (ci := 6) (v := .int n0_3) (C := RX6) (T := TX6) (N := 4) hx hb hts (by decide +kernel) hown hK.1 hP 0 rfl rfl 3 (by decide) (hts (.fieldLink RX6 27 "CardHolder$Rows" "keptSlots" "I") (by decide +kernel)) (fun _ h9 => h9) rfl dX6_isKept_9 ?_
    refine lv_iload_n hx hb dX6_isKept_12 rfl (lv_at hl 1 rfl) ?_
    refine ro_calli (va_runSN (As := [.int n0_3, .int p0]) (rest := []) ⟨hx, hb, hml, hown, hts⟩ (e_X10_bitOf l G ct n0_3 p0) ⟨va_cnB 2 hts gX6_isKept_X10_bitOf_n31 rfl rfl rfl (hK.2.1 (RX6, 31, yX10_bitOf, "CardHolder") (by decide +kernel)) (hts (.initialized RX10) (by decide +kernel)) (by decide +kernel) ⟨Nat.le_of_ble_eq_true rfl, Nat.le_of_ble_eq_true rfl⟩, hts (.static yX10_bitOf) (by decide +kernel), trivial⟩ (ro_pre hK (hP.sub [] rfl)) rfl rfl hl.1 rfl (lv_room (Nat.le_of_ble_eq_true rfl)) dX6_isKept_13 ⟨Nat.zero_le _, Nat.zero_le _⟩) hS hP (fun r13 H locs wr13 hP hS => ?_)
    obtain ⟨p_7, p_8, -⟩ := wr13
    refine lv_iconst (v := 1) hx hb dX6_isKept_16 (by decide) ?_
    refine lv_icmp_ne (tgt := 24) hx hb dX6_isKept_17 (by decide) (fun c17 => ?_) (fun c17 => ?_)
    · have h_9 : rg 0 0 r13 := r_ne_hi_i c17 p_7 (by decide) (by decide)
      refine lv_iconst (v := 0) hx hb dX6_isKept_24 (by decide) ?_
      exact W.zret (v := 0) (ty := .boolean) hx hb hr (rfl) (fun t ht hW => ⟨⟨0, (), rfl, ⟨(rg_w (c := 0) (d := 1) (rgn 0 (x := 0) (by decide)) (by decide)), (fun _ => h_6), (fun hq => absurd (req (rgn 0 (x := 0) (by decide)) (y := 0) (by decide)) hq), (fun _ => Or.inr (fun hq => c17 (p_8.trans hq))), trivial⟩, trivial⟩, hS.F ht⟩) hS.2.2 dX6_isKept_25
    · have h_10 : rg 1 1 r13 := r_eq_l_i (e := 1) (f := 1) c17 p_7 (rgn 1 (x := 1) (by decide)) (by decide)
      refine lv_iconst (v := 1) hx hb dX6_isKept_20 (by decide) ?_
      refine lv_goto (tgt := 25) hx hb dX6_isKept_21 (by decide) ?_
      exact W.zret (v := 1) (ty := .boolean) hx hb hr (rfl) (fun t ht hW => ⟨⟨1, (), rfl, ⟨(rg_w (c := 0) (d := 1) (rgn 1 (x := 1) (by decide)) (by decide)), (fun _ => h_6), (fun _ => p_8.symm.trans c17), (fun hq => absurd hq (rne (rgn 1 (x := 1) (by decide)) (y := 0) (c := 0) (by decide) (by decide))), trivial⟩, trivial⟩, hS.F ht⟩) hS.2.2 dX6_isKept_25

set_option maxHeartbeats 4000000 in
set_option maxRecDepth 100000 in
theorem e_X6_sizeOf (l : Launch) (G : va_G) (ct : Nat → ClassId) (a0 : Nat) (a1 : Nat) (a6 : Nat) (a7 : Nat) (n0_3 : Int32) (f7 : Nat → Int32) (p0 : Int32) (hp_f7 : ar 0 60 f7) : Met l yX6_sizeOf wsX6_sizeOf ({ frames := 1, cells := 0, slots := 0, locals := 21 }) (va_Pc [.ref a0, .int p0] (roP G ct [(a0, .inr (6, [.ref a1, .ref a6, .ref a7, .int n0_3])), (a7, .inl (ct 0, 4, .inl f7))])) (roQ (fun r => rg 0 60 r ∧ (¬ r = 0 → rg 0 3 p0) ∧ r = szA f7 p0 ∧ True)) 0 0 no := by
  refine Met.ofW (cc := cX6_sizeOf) (maxL := 2) (ret := (some .int)) (by decide) rfl ?_
  intro p e s m args below meth c s₁ B hml hv
  obtain ⟨rfl, hP, hK⟩ := hv
  have hx := B.exec
  have hb := B.bytes
  have hr := B.returns
  have hts := atoms_spec (ws := wsX6_sizeOf) B.pre
  have hown : s.vm.findClass RX6 = some m.cls := findClass_of_methodNamed B.named
  have hlocks := B.notSynchronized
  have hS : va_S no s.heap s.heap [] := va_S.rf
  have hl := lv_entry ([.ref a0, .int p0]) (n := 2) (Nat.le_of_ble_eq_true rfl)
  rw [lg_entry_eq]
  generalize (lg_sl ([.ref a0, .int p0]) ++ List.replicate (2 - (lg_sl ([.ref a0, .int p0])).length) Slot.unset).toArray = ls at hl ⊢
  have hl : lv_has ls 2 [(0, .ref a0), (1, .int p0)] := hl
  refine lv_aload_n hx hb dX6_sizeOf_0 rfl (lv_at hl 0 rfl) ?_
  refine lv_iload_n hx hb dX6_sizeOf_1 rfl (lv_at hl 1 rfl) ?_
  refine ro_calli (va_runV (As := [.int p0]) (rest := []) ⟨hx, hb, hml, hown, hts⟩ (e_X6_isSlot l G ct a0 a1 a6 a7 n0_3 p0) (cwV 1 hts gX6_sizeOf_X6_isSlot rfl rfl rfl (by decide +kernel) ⟨Nat.le_of_ble_eq_true rfl, Nat.le_of_ble_eq_true rfl⟩) (ro_preV 6 0 hK (hP.sub [0] rfl) rfl rfl) rfl rfl hl.1 rfl (lv_room (Nat.le_of_ble_eq_true rfl)) dX6_sizeOf_2 ⟨Nat.zero_le _, Nat.zero_le _⟩) hS hP (fun r2 H locs wr2 hP hS => ?_)
  obtain ⟨p_1, p_2, p_3, -⟩ := wr2
  refine lv_if_eq (tgt := 17) hx hb dX6_sizeOf_5 (by decide) (fun c5 => ?_) (fun c5 => ?_)
  · have h_4 : rg 0 0 r2 := r_eq_l_i (e := 0) (f := 0) c5 p_1 (rgn 0 (x := 0) (by decide)) (by decide)
    refine lv_iconst (v := 0) hx hb dX6_sizeOf_17 (by decide) ?_
    exact W.iret (v := 0) hx hb hr (fun t ht hW => ⟨⟨0, (), rfl, ⟨(rg_w (c := 0) (d := 60) (rgn 0 (x := 0) (by decide)) (by decide)), (fun hq => absurd (req (rgn 0 (x := 0) (by decide)) (y := 0) (by decide)) hq), (show (0 : Int32) = szA f7 p0 from (sz_n (by have := (p_3 (req h_4 (y := 0) (by decide))); have := congrArg Int32.toInt c5; have : (0 : Int32).toInt = 0 := (by decide); omega)).symm), trivial⟩, trivial⟩, hS.F ht⟩) hS.2.2 dX6_sizeOf_18
  · have h_5 : rg 1 1 r2 := r_ne_lo_i c5 p_1 (by decide) (by decide)
    have h_6 : rg 0 3 p0 := (p_2 (rne h_5 (y := 0) (c := 0) (by decide) (by decide)))
    refine lv_aload_n hx hb dX6_sizeOf_8 rfl (lv_at hl 0 rfl) ?_
    refine va_get (D := G) (ci := 6) (v := .ref a7) (C := RX6) (T := TX6) (N := 4) hx hb hts (by decide +kernel) hown hK.1 hP 0 rfl rfl 2 (by decide) (hts (.fieldLink RX6 20 "CardHolder$Rows" "sizes" "[I") (by decide +kernel)) (fun _ h9 => h9) rfl dX6_sizeOf_9 ?_
    refine lv_iload_n hx hb dX6_sizeOf_12 rfl (lv_at hl 1 rfl) ?_
    refine va_iald hx hb hK.1 hP 1 0 rfl rfl (in_rg h_6 (by decide)) dX6_sizeOf_13 ?_
    refine lv_topi (fun z13 gz13 => ?_)
    have hz13 : rg 0 60 z13 := by rw [gz13]; exact hp_f7 _
    refine lv_goto (tgt := 18) hx hb dX6_sizeOf_14 (by decide) ?_
    exact W.iret (v := z13) hx hb hr (fun t ht hW => ⟨⟨z13, (), rfl, ⟨hz13, (fun _ => h_6), (show z13 = szA f7 p0 by rw [sz_y (by have := h_6; have := i_ne c5; have : (0 : Int32).toInt = 0 := (by decide); omega)]; exact gz13), trivial⟩, trivial⟩, hS.F ht⟩) hS.2.2 dX6_sizeOf_18

set_option maxHeartbeats 4000000 in
set_option maxRecDepth 100000 in
theorem e_X6_hasPlaces (l : Launch) (G : va_G) (ct : Nat → ClassId) (a0 : Nat) (a1 : Nat) (a6 : Nat) (a7 : Nat) (n0_3 : Int32) (f7 : Nat → Int32) (p0 : Int32) (p1 : Int32) (p2 : Int32) (hp_f7 : ar 0 60 f7) : Met l yX6_hasPlaces wsX6_hasPlaces ({ frames := 2, cells := 0, slots := 0, locals := 42 }) (va_Pc [.ref a0, .int p0, .int p1, .int p2] (roP G ct [(a0, .inr (6, [.ref a1, .ref a6, .ref a7, .int n0_3])), (a7, .inl (ct 0, 4, .inl f7))])) (roQ (fun r => rg 0 1 r ∧ (¬ r = 0 → rg 0 60 p1) ∧ (¬ r = 0 → rg 0 60 p2) ∧ (¬ r = 0 → p1.toInt + p2.toInt ≤ 60) ∧ (¬ r = 0 → 0 ≤ p1.toInt ∧ 0 ≤ p2.toInt ∧ p1.toInt + p2.toInt ≤ (szA f7 p0).toInt) ∧ (r = 0 → p1.toInt < 0 ∨ p2.toInt < 0 ∨ (szA f7 p0).toInt < p1.toInt + p2.toInt) ∧ True)) 0 0 no := by
  refine Met.ofW (cc := cX6_hasPlaces) (maxL := 4) (ret := (some .boolean)) (by decide) rfl ?_
  intro p e s m args below meth c s₁ B hml hv
  obtain ⟨rfl, hP, hK⟩ := hv
  have hx := B.exec
  have hb := B.bytes
  have hr := B.returns
  have hts := atoms_spec (ws := wsX6_hasPlaces) B.pre
  have hown : s.vm.findClass RX6 = some m.cls := findClass_of_methodNamed B.named
  have hlocks := B.notSynchronized
  have hS : va_S no s.heap s.heap [] := va_S.rf
  have hl := lv_entry ([.ref a0, .int p0, .int p1, .int p2]) (n := 4) (Nat.le_of_ble_eq_true rfl)
  rw [lg_entry_eq]
  generalize (lg_sl ([.ref a0, .int p0, .int p1, .int p2]) ++ List.replicate (4 - (lg_sl ([.ref a0, .int p0, .int p1, .int p2])).length) Slot.unset).toArray = ls at hl ⊢
  have hl : lv_has ls 4 [(0, .ref a0), (1, .int p0), (2, .int p1), (3, .int p2)] := hl
  refine lv_iload_n hx hb dX6_hasPlaces_0 rfl (lv_at hl 2 rfl) ?_
  refine lv_if_lt (tgt := 32) hx hb dX6_hasPlaces_1 (by decide) (fun c1 => ?_) (fun c1 => ?_)
  · have h_1 : rg (-2147483648) (-1) p1 := r_lt_l_i c1 (rg_t p1) (rgn 0 (x := 0) (by decide)) (by decide)
    refine lv_iconst (v := 0) hx hb dX6_hasPlaces_32 (by decide) ?_
    exact W.zret (v := 0) (ty := .boolean) hx hb hr (rfl) (fun t ht hW => ⟨⟨0, (), rfl, ⟨(rg_w (c := 0) (d := 1) (rgn 0 (x := 0) (by decide)) (by decide)), (fun hq => absurd (req (rgn 0 (x := 0) (by decide)) (y := 0) (by decide)) hq), (fun hq => absurd (req (rgn 0 (x := 0) (by decide)) (y := 0) (by decide)) hq), (fun hq => absurd (req (rgn 0 (x := 0) (by decide)) (y := 0) (by decide)) hq), (fun hq => absurd (req (rgn 0 (x := 0) (by decide)) (y := 0) (by decide)) hq), (fun _ => by have := h_1; have := i_lt c1; have : (0 : Int32).toInt = 0 := (by decide); omega), trivial⟩, trivial⟩, hS.F ht⟩) hS.2.2 dX6_hasPlaces_33
  · have h_2 : rg 0 2147483647 p1 := r_le_r_i (nlt_i c1) (rgn 0 (x := 0) (by decide)) (rg_t p1)
    refine lv_iload_n hx hb dX6_hasPlaces_4 rfl (lv_at hl 3 rfl) ?_
    refine lv_if_lt (tgt := 32) hx hb dX6_hasPlaces_5 (by decide) (fun c5 => ?_) (fun c5 => ?_)
    · have h_3 : rg (-2147483648) (-1) p2 := r_lt_l_i c5 (rg_t p2) (rgn 0 (x := 0) (by decide)) (by decide)
      refine lv_iconst (v := 0) hx hb dX6_hasPlaces_32 (by decide) ?_
      exact W.zret (v := 0) (ty := .boolean) hx hb hr (rfl) (fun t ht hW => ⟨⟨0, (), rfl, ⟨(rg_w (c := 0) (d := 1) (rgn 0 (x := 0) (by decide)) (by decide)), (fun hq => absurd (req (rgn 0 (x := 0) (by decide)) (y := 0) (by decide)) hq), (fun hq => absurd (req (rgn 0 (x := 0) (by decide)) (y := 0) (by decide)) hq), (fun hq => absurd (req (rgn 0 (x := 0) (by decide)) (y := 0) (by decide)) hq), (fun hq => absurd (req (rgn 0 (x := 0) (by decide)) (y := 0) (by decide)) hq), (fun _ => by have := h_2; have := h_3; have := i_le (nlt_i c1); have := i_lt c5; have : (0 : Int32).toInt = 0 := (by decide); omega), trivial⟩, trivial⟩, hS.F ht⟩) hS.2.2 dX6_hasPlaces_33
    · have h_4 : rg 0 2147483647 p2 := r_le_r_i (nlt_i c5) (rgn 0 (x := 0) (by decide)) (rg_t p2)
      refine lv_iload_n hx hb dX6_hasPlaces_8 rfl (lv_at hl 3 rfl) ?_
      refine lv_aload_n hx hb dX6_hasPlaces_9 rfl (lv_at hl 0 rfl) ?_
      refine lv_iload_n hx hb dX6_hasPlaces_10 rfl (lv_at hl 1 rfl) ?_
      refine ro_calli (va_runV (As := [.int p0]) (rest := [.int p2]) ⟨hx, hb, hml, hown, hts⟩ (e_X6_sizeOf l G ct a0 a1 a6 a7 n0_3 f7 p0 hp_f7) (cwV 1 hts gX6_hasPlaces_X6_sizeOf rfl rfl rfl (by decide +kernel) ⟨Nat.le_of_ble_eq_true rfl, Nat.le_of_ble_eq_true rfl⟩) (ro_preV 6 0 hK (hP.sub [0, 1] rfl) rfl rfl) rfl rfl hl.1 rfl (lv_room (Nat.le_of_ble_eq_true rfl)) dX6_hasPlaces_11 ⟨Nat.zero_le _, Nat.zero_le _⟩) hS hP (fun r11 H locs wr11 hP hS => ?_)
      obtain ⟨p_5, p_6, p_7, -⟩ := wr11
      refine lv_icmp_gt (tgt := 32) hx hb dX6_hasPlaces_14 (by decide) (fun c14 => ?_) (fun c14 => ?_)
      · have h_8 : rg 1 2147483647 p2 := r_lt_r_i c14 p_5 h_4 (by decide)
        refine lv_iconst (v := 0) hx hb dX6_hasPlaces_32 (by decide) ?_
        exact W.zret (v := 0) (ty := .boolean) hx hb hr (rfl) (fun t ht hW => ⟨⟨0, (), rfl, ⟨(rg_w (c := 0) (d := 1) (rgn 0 (x := 0) (by decide)) (by decide)), (fun hq => absurd (req (rgn 0 (x := 0) (by decide)) (y := 0) (by decide)) hq), (fun hq => absurd (req (rgn 0 (x := 0) (by decide)) (y := 0) (by decide)) hq), (fun hq => absurd (req (rgn 0 (x := 0) (by decide)) (y := 0) (by decide)) hq), (fun hq => absurd (req (rgn 0 (x := 0) (by decide)) (y := 0) (by decide)) hq), (fun _ => by have := h_2; have := h_8; have := i_le (nlt_i c1); have := i_le (nlt_i c5); have := i_lt c14; have : (0 : Int32).toInt = 0 := (by decide); have := congrArg Int32.toInt p_7; omega), trivial⟩, trivial⟩, hS.F ht⟩) hS.2.2 dX6_hasPlaces_33
      · have h_9 : rg 0 60 p2 := r_le_l_i (nlt_i c14) h_4 p_5
        refine lv_iload_n hx hb dX6_hasPlaces_17 rfl (lv_at hl 2 rfl) ?_
        refine lv_aload_n hx hb dX6_hasPlaces_18 rfl (lv_at hl 0 rfl) ?_
        refine lv_iload_n hx hb dX6_hasPlaces_19 rfl (lv_at hl 1 rfl) ?_
        refine ro_calli (va_runV (As := [.int p0]) (rest := [.int p1]) ⟨hx, hb, hml, hown, hts⟩ (e_X6_sizeOf l G ct a0 a1 a6 a7 n0_3 f7 p0 hp_f7) (cwV 1 hts gX6_hasPlaces_X6_sizeOf rfl rfl rfl (by decide +kernel) ⟨Nat.le_of_ble_eq_true rfl, Nat.le_of_ble_eq_true rfl⟩) (ro_preV 6 0 hK (hP.sub [0, 1] rfl) rfl rfl) rfl rfl hl.1 rfl (lv_room (Nat.le_of_ble_eq_true rfl)) dX6_hasPlaces_20 ⟨Nat.zero_le _, Nat.zero_le _⟩) hS hP (fun r20 H locs wr20 hP hS => ?_)
        obtain ⟨p_10, p_11, p_12, -⟩ := wr20
        refine lv_iload_n hx hb dX6_hasPlaces_23 rfl (lv_at hl 3 rfl) ?_
        refine lv_isub hx hb dX6_hasPlaces_24 ?_
        refine nm_sub (e1 := (-60)) (f := 60) p_10 h_9 (by decide) (fun z24 hz24 ez24 => ?_)
        refine lv_icmp_gt (tgt := 32) hx hb dX6_hasPlaces_25 (by decide) (fun c25 => ?_) (fun c25 => ?_)
        · refine lv_iconst (v := 0) hx hb dX6_hasPlaces_32 (by decide) ?_
          exact W.zret (v := 0) (ty := .boolean) hx hb hr (rfl) (fun t ht hW => ⟨⟨0, (), rfl, ⟨(rg_w (c := 0) (d := 1) (rgn 0 (x := 0) (by decide)) (by decide)), (fun hq => absurd (req (rgn 0 (x := 0) (by decide)) (y := 0) (by decide)) hq), (fun _ => h_9), (fun hq => absurd (req (rgn 0 (x := 0) (by decide)) (y := 0) (by decide)) hq), (fun hq => absurd (req (rgn 0 (x := 0) (by decide)) (y := 0) (by decide)) hq), (fun _ => by have := h_2; have := h_9; have := i_le (nlt_i c1); have := i_le (nlt_i c5); have := i_le (nlt_i c14); have := i_lt c25; have : (0 : Int32).toInt = 0 := (by decide); have := congrArg Int32.toInt p_7; have := congrArg Int32.toInt p_12; have := ez24; omega), trivial⟩, trivial⟩, hS.F ht⟩) hS.2.2 dX6_hasPlaces_33
        · have h_13 : rg 0 60 p1 := r_le_l_i (nlt_i c25) h_2 hz24
          have h_14 : rg 0 60 z24 := r_le_r_i (nlt_i c25) h_2 hz24
          refine lv_iconst (v := 1) hx hb dX6_hasPlaces_28 (by decide) ?_
          refine lv_goto (tgt := 33) hx hb dX6_hasPlaces_29 (by decide) ?_
          exact W.zret (v := 1) (ty := .boolean) hx hb hr (rfl) (fun t ht hW => ⟨⟨1, (), rfl, ⟨(rg_w (c := 0) (d := 1) (rgn 1 (x := 1) (by decide)) (by decide)), (fun _ => h_13), (fun _ => h_9), (fun _ => by have := i_nlt c25; have := ez24; have := p_10; omega), (fun _ => by have := h_13; have := h_9; have := i_le (nlt_i c1); have := i_le (nlt_i c5); have := i_le (nlt_i c14); have := i_le (nlt_i c25); have : (0 : Int32).toInt = 0 := (by decide); have := congrArg Int32.toInt p_7; have := congrArg Int32.toInt p_12; have := ez24; omega), (fun hq => absurd hq (rne (rgn 1 (x := 1) (by decide)) (y := 0) (c := 0) (by decide) (by decide))), trivial⟩, trivial⟩, hS.F ht⟩) hS.2.2 dX6_hasPlaces_33

set_option maxHeartbeats 4000000 in
set_option maxRecDepth 100000 in
theorem e_X6_make (l : Launch) (G : va_G) (ct : Nat → ClassId) (a0 : Nat) (a1 : Nat) (a6 : Nat) (a7 : Nat) (n0_3 : Int32) (rr : Nat → Nat) (f2 : Nat → Int64) (f3 : Nat → Int64) (f4 : Nat → Int64) (f5 : Nat → Int64) (f6 : Nat → Int32) (f7 : Nat → Int32) (p0 : Int32) (p1 : Int32) (p2 : Int32) (hp_f7 : ar 0 60 f7) (hp_p2 : rg 0 60 p2) : Met l yX6_make wsX6_make ({ frames := 1, cells := 0, slots := 0, locals := 21 }) (va_Pc [.ref a0, .int p0, .int p1, .int p2] (wrP G ct [(a0, .inr (6, [.ref a1, .ref a6, .ref a7, .int n0_3])), (a1, .inl (ct 5, 4, .inr (.inr (.inr (.inr (fun i => if i < 4 then some (rr i) else none)))))), ((rr 0), .inl (ct 3, 60, .inr (.inl f2))), ((rr 1), .inl (ct 3, 60, .inr (.inl f3))), ((rr 2), .inl (ct 3, 60, .inr (.inl f4))), ((rr 3), .inl (ct 3, 60, .inr (.inl f5))), (a6, .inl (ct 0, 4, .inl f6)), (a7, .inl (ct 0, 4, .inl f7))])) (va_Qv (fun u : SU => ar 0 60 (u.2.1 1) ∧ (u.1 0) = mkK n0_3 p0 ∧ (u.2.1 0) = mkF f6 p0 p1 ∧ (u.2.1 1) = mkF f7 p0 p2 ∧ True) (fun u t => va_P G vwCl ((fun u : SU => [(a0, .inr (6, [.ref a1, .ref a6, .ref a7, .int (u.1 0)])), (a1, .inl (ct 5, 4, .inr (.inr (.inr (.inr (fun i => if i < 4 then some (rr i) else none)))))), ((rr 0), .inl (ct 3, 60, .inr (.inl (u.2.2 0)))), ((rr 1), .inl (ct 3, 60, .inr (.inl (u.2.2 1)))), ((rr 2), .inl (ct 3, 60, .inr (.inl (u.2.2 2)))), ((rr 3), .inl (ct 3, 60, .inr (.inl (u.2.2 3)))), (a6, .inl (ct 0, 4, .inl (u.2.1 0))), (a7, .inl (ct 0, 4, .inl (u.2.1 1)))]) u) t.heap) (aset [(a0, .inr (6, [.ref a1, .ref a6, .ref a7, .int n0_3])), (a1, .inl (ct 5, 4, .inr (.inr (.inr (.inr (fun i => if i < 4 then some (rr i) else none)))))), ((rr 0), .inl (ct 3, 60, .inr (.inl f2))), ((rr 1), .inl (ct 3, 60, .inr (.inl f3))), ((rr 2), .inl (ct 3, 60, .inr (.inl f4))), ((rr 3), .inl (ct 3, 60, .inr (.inl f5))), (a6, .inl (ct 0, 4, .inl f6)), (a7, .inl (ct 0, 4, .inl f7))])) 0 0 (aset [(a0, .inr (6, [.ref a1, .ref a6, .ref a7, .int n0_3])), (a1, .inl (ct 5, 4, .inr (.inr (.inr (.inr (fun i => if i < 4 then some (rr i) else none)))))), ((rr 0), .inl (ct 3, 60, .inr (.inl f2))), ((rr 1), .inl (ct 3, 60, .inr (.inl f3))), ((rr 2), .inl (ct 3, 60, .inr (.inl f4))), ((rr 3), .inl (ct 3, 60, .inr (.inl f5))), (a6, .inl (ct 0, 4, .inl f6)), (a7, .inl (ct 0, 4, .inl f7))]) := by
  refine Met.ofW (cc := cX6_make) (maxL := 5) (ret := none) (by decide) rfl ?_
  intro p e s m args below meth c s₁ B hml hv
  obtain ⟨rfl, hP, hK, hD0⟩ := hv
  have hx := B.exec
  have hb := B.bytes
  have hr := B.returns
  have hts := atoms_spec (ws := wsX6_make) B.pre
  have hown : s.vm.findClass RX6 = some m.cls := findClass_of_methodNamed B.named
  have hlocks := B.notSynchronized
  have hD := hD0.aself
  generalize hAe : aset [(a0, .inr (6, [.ref a1, .ref a6, .ref a7, .int n0_3])), (a1, .inl (ct 5, 4, .inr (.inr (.inr (.inr (fun i => if i < 4 then some (rr i) else none)))))), ((rr 0), .inl (ct 3, 60, .inr (.inl f2))), ((rr 1), .inl (ct 3, 60, .inr (.inl f3))), ((rr 2), .inl (ct 3, 60, .inr (.inl f4))), ((rr 3), .inl (ct 3, 60, .inr (.inl f5))), (a6, .inl (ct 0, 4, .inl f6)), (a7, .inl (ct 0, 4, .inl f7))] = A at hD ⊢
  have hS : va_S A s.heap s.heap [] := va_S.rf
  have hl := lv_entry ([.ref a0, .int p0, .int p1, .int p2]) (n := 5) (Nat.le_of_ble_eq_true rfl)
  rw [lg_entry_eq]
  generalize (lg_sl ([.ref a0, .int p0, .int p1, .int p2]) ++ List.replicate (5 - (lg_sl ([.ref a0, .int p0, .int p1, .int p2])).length) Slot.unset).toArray = ls at hl ⊢
  have hl : lv_has ls 5 [(0, .ref a0), (1, .int p0), (2, .int p1), (3, .int p2)] := hl
  refine lv_aload_n hx hb dX6_make_0 rfl (lv_at hl 0 rfl) ?_
  refine lv_iload_n hx hb dX6_make_1 rfl (lv_at hl 1 rfl) ?_
  refine ro_calli (va_runV (As := [.int p0]) (rest := []) ⟨hx, hb, hml, hown, hts⟩ (e_X6_isSlot l G ct a0 a1 a6 a7 n0_3 p0) (cwV 1 hts gX6_make_X6_isSlot rfl rfl rfl (by decide +kernel) ⟨Nat.le_of_ble_eq_true rfl, Nat.le_of_ble_eq_true rfl⟩) (ro_preV 6 0 hK (hP.sub [0] rfl) rfl rfl) rfl rfl hl.1 rfl (lv_room (Nat.le_of_ble_eq_true rfl)) dX6_make_2 ⟨Nat.zero_le _, Nat.zero_le _⟩) hS hP (fun r2 H locs wr2 hP hS => ?_)
  obtain ⟨p_1, p_2, p_3, -⟩ := wr2
  refine lv_if_ne (tgt := 9) hx hb dX6_make_5 (by decide) (fun c5 => ?_) (fun c5 => ?_)
  · have h_4 : rg 1 1 r2 := r_ne_lo_i c5 p_1 (by decide) (by decide)
    have h_5 : rg 0 3 p0 := (p_2 (rne h_4 (y := 0) (c := 0) (by decide) (by decide)))
    refine lv_aload_n hx hb dX6_make_9 rfl (lv_at hl 0 rfl) ?_
    refine lv_dup hx hb dX6_make_10 rfl ?_
    refine va_get (D := G) (ci := 6) (v := .int n0_3) (C := RX6) (T := TX6) (N := 4) hx hb hts (by decide +kernel) hown hK.1 hP 0 rfl rfl 3 (by decide) (hts (.fieldLink RX6 27 "CardHolder$Rows" "keptSlots" "I") (by decide +kernel)) (fun _ h9 => h9) rfl dX6_make_11 ?_
    refine lv_iconst (v := 1) hx hb dX6_make_14 (by decide) ?_
    refine lv_iload_n hx hb dX6_make_15 rfl (lv_at hl 1 rfl) ?_
    refine lv_ishl hx hb dX6_make_16 ?_
    refine lv_topi (fun z16 gz16 => ?_)
    refine lv_ior hx hb dX6_make_17 ?_
    refine lv_topi (fun z17 gz17 => ?_)
    refine va_put (D := G) (ci := 6) (v := .int z17) (ty := .int) (C := RX6) (T := TX6) (N := 4) hx hb hts (by decide +kernel) tyX6 tyX6_ok nmX6 hown hK.1 hP hD hS 0 rfl rfl 3 (by decide) (hts (.fieldLink RX6 27 "CardHolder$Rows" "keptSlots" "I") (by decide +kernel)) (fun _ h9 => h9) rfl (by decide +kernel) rfl rfl (Nat.le_of_ble_eq_true rfl) dX6_make_18 (fun H locs hP hD hS => ?_)
    refine lv_aload_n hx hb dX6_make_21 rfl (lv_at hl 0 rfl) ?_
    refine va_get (D := G) (ci := 6) (v := .ref a6) (C := RX6) (T := TX6) (N := 4) hx hb hts (by decide +kernel) hown hK.1 hP 0 rfl rfl 1 (by decide) (hts (.fieldLink RX6 16 "CardHolder$Rows" "widths" "[I") (by decide +kernel)) (fun _ h9 => h9) rfl dX6_make_22 ?_
    refine lv_iload_n hx hb dX6_make_25 rfl (lv_at hl 1 rfl) ?_
    refine lv_iload_n hx hb dX6_make_26 rfl (lv_at hl 2 rfl) ?_
    refine va_iast hx hb hK.1 hP hD hS 6 0 rfl rfl (in_rg h_5 (by decide)) dX6_make_27 (fun H locs hP hD hS => ?_)
    refine lv_aload_n hx hb dX6_make_28 rfl (lv_at hl 0 rfl) ?_
    refine va_get (D := G) (ci := 6) (v := .ref a7) (C := RX6) (T := TX6) (N := 4) hx hb hts (by decide +kernel) hown hK.1 hP 0 rfl rfl 2 (by decide) (hts (.fieldLink RX6 20 "CardHolder$Rows" "sizes" "[I") (by decide +kernel)) (fun _ h9 => h9) rfl dX6_make_29 ?_
    refine lv_iload_n hx hb dX6_make_32 rfl (lv_at hl 1 rfl) ?_
    refine lv_iload_n hx hb dX6_make_33 rfl (lv_at hl 3 rfl) ?_
    refine va_iast hx hb hK.1 hP hD hS 7 0 rfl rfl (in_rg h_5 (by decide)) dX6_make_34 (fun H locs hP hD hS => ?_)
    have h_6 : ar 0 60 (upd f7 p0.toNatClampNeg p2) := ar_u hp_f7 hp_p2
    refine lv_iconst (v := 0) hx hb dX6_make_35 (by decide) ?_
    refine lv_istore (lv' := [(4, .int 0), (0, .ref a0), (1, .int p0), (2, .int p1), (3, .int p2)]) hx hb dX6_make_36 hl (by decide) rfl (fun ls hl => ?_)
    have j38 : ∀ (n : Nat) (x38_4 : Int32) (f38_2 : Nat → Int64) (f38_3 : Nat → Int64) (f38_4 : Nat → Int64) (f38_5 : Nat → Int64) (H : Heap) (locs : List Loc) (ls : Array Slot), 2147483648 ≤ x38_4.toInt + (n : Int) → rg 0 60 x38_4 → va_P G vwCl [(a0, .inr (6, [.ref a1, .ref a6, .ref a7, .int z17])), (a1, .inl (ct 5, 4, .inr (.inr (.inr (.inr (fun i => if i < 4 then some (rr i) else none)))))), ((rr 0), .inl (ct 3, 60, .inr (.inl f38_2))), ((rr 1), .inl (ct 3, 60, .inr (.inl f38_3))), ((rr 2), .inl (ct 3, 60, .inr (.inl f38_4))), ((rr 3), .inl (ct 3, 60, .inr (.inl f38_5))), (a6, .inl (ct 0, 4, .inl (upd f6 p0.toNatClampNeg p1))), (a7, .inl (ct 0, 4, .inl (upd f7 p0.toNatClampNeg p2)))] H → va_D A [(a0, .inr (6, [.ref a1, .ref a6, .ref a7, .int z17])), (a1, .inl (ct 5, 4, .inr (.inr (.inr (.inr (fun i => if i < 4 then some (rr i) else none)))))), ((rr 0), .inl (ct 3, 60, .inr (.inl f38_2))), ((rr 1), .inl (ct 3, 60, .inr (.inl f38_3))), ((rr 2), .inl (ct 3, 60, .inr (.inl f38_4))), ((rr 3), .inl (ct 3, 60, .inr (.inl f38_5))), (a6, .inl (ct 0, 4, .inl (upd f6 p0.toNatClampNeg p1))), (a7, .inl (ct 0, 4, .inl (upd f7 p0.toNatClampNeg p2)))] → va_S A s.heap H locs → lv_has ls 5 [(0, .ref a0), (1, .int p0), (2, .int p1), (3, .int p2), (4, .int x38_4)] → W p l e (headSpec wsX6_make ({ frames := 1, cells := 0, slots := 0, locals := 21 })).room s m ([.ref a0, .int p0, .int p1, .int p2] : List Value).toArray below meth c H locs 0 0 (MQ below (va_Qv (fun u : SU => ar 0 60 (u.2.1 1) ∧ (u.1 0) = mkK n0_3 p0 ∧ (u.2.1 0) = mkF f6 p0 p1 ∧ (u.2.1 1) = mkF f7 p0 p2 ∧ True) (fun u t => va_P G vwCl ((fun u : SU => [(a0, .inr (6, [.ref a1, .ref a6, .ref a7, .int (u.1 0)])), (a1, .inl (ct 5, 4, .inr (.inr (.inr (.inr (fun i => if i < 4 then some (rr i) else none)))))), ((rr 0), .inl (ct 3, 60, .inr (.inl (u.2.2 0)))), ((rr 1), .inl (ct 3, 60, .inr (.inl (u.2.2 1)))), ((rr 2), .inl (ct 3, 60, .inr (.inl (u.2.2 2)))), ((rr 3), .inl (ct 3, 60, .inr (.inl (u.2.2 3)))), (a6, .inl (ct 0, 4, .inl (u.2.1 0))), (a7, .inl (ct 0, 4, .inl (u.2.1 1)))]) u) t.heap) A) ([.ref a0, .int p0, .int p1, .int p2] : List Value).toArray s 0 0 A) (F0 m 38 ls []) := by
      intro n
      induction n with
      | zero => intro x38_4 f38_2 f38_3 f38_4 f38_5 H locs ls hn38 hx38_4 hP hD hS hl; exact absurd hn38 (by have := Int32.toInt_lt x38_4; have := Int32.le_toInt x38_4; omega)
      | succ n ih38 =>
        intro x38_4 f38_2 f38_3 f38_4 f38_5 H locs ls hn38 hx38_4 hP hD hS hl
        refine lv_iload hx hb dX6_make_38 (lv_at hl 4 rfl) ?_
        refine lv_bipush (v := 60) hx hb dX6_make_40 (by decide) ?_
        refine lv_icmp_ge (tgt := 61) hx hb dX6_make_42 (by decide) (fun c42 => ?_) (fun c42 => ?_)
        · have h_7 : rg 60 60 x38_4 := r_le_r_i c42 (rgn 60 (x := 60) (by decide)) hx38_4
          exact W.vret hx hb hr (fun t ht hW => ⟨⟨(fun k => ([z17] : List Int32).getD k 0, fun k => ([upd f6 p0.toNatClampNeg p1, upd f7 p0.toNatClampNeg p2] : List (Nat → Int32)).getD k (fun _ => 0), fun k => ([f38_2, f38_3, f38_4, f38_5] : List (Nat → Int64)).getD k (fun _ => 0)), rfl, ⟨h_6, (show z17 = mkK n0_3 p0 by rw [mk_y (by have := h_5; have := hp_p2; have := i_ne c5; have := i_le c42; have : (0 : Int32).toInt = 0 := (by decide); have : (60 : Int32).toInt = 60 := (by decide); omega), gz17, gz16]), (show upd f6 p0.toNatClampNeg p1 = mkF f6 p0 p1 from (mf_y (by have := h_5; have := hp_p2; have := i_ne c5; have := i_le c42; have : (0 : Int32).toInt = 0 := (by decide); have : (60 : Int32).toInt = 60 := (by decide); omega)).symm), (show upd f7 p0.toNatClampNeg p2 = mkF f7 p0 p2 from (mf_y (by have := h_5; have := hp_p2; have := i_ne c5; have := i_le c42; have : (0 : Int32).toInt = 0 := (by decide); have : (60 : Int32).toInt = 60 := (by decide); omega)).symm), trivial⟩, hp_at ht hP⟩, hS.F ht⟩) hS.2.2 dX6_make_61
        · have h_8 : rg 0 59 x38_4 := r_lt_l_i (nle_i c42) hx38_4 (rgn 60 (x := 60) (by decide)) (by decide)
          refine lv_aload_n hx hb dX6_make_45 rfl (lv_at hl 0 rfl) ?_
          refine va_get (D := G) (ci := 6) (v := .ref a1) (C := RX6) (T := TX6) (N := 4) hx hb hts (by decide +kernel) hown hK.1 hP 0 rfl rfl 0 (by decide) (hts (.fieldLink RX6 11 "CardHolder$Rows" "numbers" "[[J") (by decide +kernel)) (fun _ h9 => h9) rfl dX6_make_46 ?_
          refine lv_iload_n hx hb dX6_make_49 rfl (lv_at hl 1 rfl) ?_
          rcases (sp4 h_5.1 (by have := h_5.2; omega)) with s50 | s50 | s50 | s50
          · refine ix_i (y := 0) s50 ?_
            have h_9 : rg 0 0 p0 := r_eq_l_i (e := 0) (f := 0) s50 h_5 (rgn 0 (x := 0) (by decide)) (by decide)
            refine va_aldL hx hb hK.1 hP 1 5 rfl rfl (in_lit (by decide)) dX6_make_50 ?_
            refine ix_r (y := .ref (rr 0)) rfl ?_
            refine lv_iload hx hb dX6_make_51 (lv_at hl 4 rfl) ?_
            refine lv_lconst (v := 0) hx hb dX6_make_53 (by decide) ?_
            refine va_last hx hb hK.1 hP hD hS 2 3 rfl rfl (in_rg h_8 (by decide)) dX6_make_54 (fun H locs hP hD hS => ?_)
            obtain ⟨z55, qz55⟩ : ∃ y : Int32, y = x38_4 + Int32.ofInt 1 := ⟨_, rfl⟩
            obtain ⟨hz55, ez55⟩ := inc_z (e := 1) (f := 60) h_8 qz55 (by decide)
            refine lv_iinc (v := z55) (lv' := [(4, .int z55), (0, .ref a0), (1, .int p0), (2, .int p1), (3, .int p2)]) hx hb dX6_make_55 hl (k := 4) rfl (qz55.symm) (by decide) rfl (fun ls hl => ?_)
            refine lv_goto (tgt := 38) hx hb dX6_make_58 (by decide) ?_
            exact ih38 z55 (vp_updL f38_2 x38_4.toNatClampNeg 0) f38_3 f38_4 f38_5 _ _ ls (by have q := hn38; have := ez55; omega) (rg_w (c := 0) (d := 60) hz55 (by decide)) hP hD hS (lv_sub hl [1, 2, 3, 4, 0] rfl)
          · refine ix_i (y := 1) s50 ?_
            have h_10 : rg 1 1 p0 := r_eq_l_i (e := 1) (f := 1) s50 h_5 (rgn 1 (x := 1) (by decide)) (by decide)
            refine va_aldL hx hb hK.1 hP 1 5 rfl rfl (in_lit (by decide)) dX6_make_50 ?_
            refine ix_r (y := .ref (rr 1)) rfl ?_
            refine lv_iload hx hb dX6_make_51 (lv_at hl 4 rfl) ?_
            refine lv_lconst (v := 0) hx hb dX6_make_53 (by decide) ?_
            refine va_last hx hb hK.1 hP hD hS 3 3 rfl rfl (in_rg h_8 (by decide)) dX6_make_54 (fun H locs hP hD hS => ?_)
            obtain ⟨z55, qz55⟩ : ∃ y : Int32, y = x38_4 + Int32.ofInt 1 := ⟨_, rfl⟩
            obtain ⟨hz55, ez55⟩ := inc_z (e := 1) (f := 60) h_8 qz55 (by decide)
            refine lv_iinc (v := z55) (lv' := [(4, .int z55), (0, .ref a0), (1, .int p0), (2, .int p1), (3, .int p2)]) hx hb dX6_make_55 hl (k := 4) rfl (qz55.symm) (by decide) rfl (fun ls hl => ?_)
            refine lv_goto (tgt := 38) hx hb dX6_make_58 (by decide) ?_
            exact ih38 z55 f38_2 (vp_updL f38_3 x38_4.toNatClampNeg 0) f38_4 f38_5 _ _ ls (by have q := hn38; have := ez55; omega) (rg_w (c := 0) (d := 60) hz55 (by decide)) hP hD hS (lv_sub hl [1, 2, 3, 4, 0] rfl)
          · refine ix_i (y := 2) s50 ?_
            have h_11 : rg 2 2 p0 := r_eq_l_i (e := 2) (f := 2) s50 h_5 (rgn 2 (x := 2) (by decide)) (by decide)
            refine va_aldL hx hb hK.1 hP 1 5 rfl rfl (in_lit (by decide)) dX6_make_50 ?_
            refine ix_r (y := .ref (rr 2)) rfl ?_
            refine lv_iload hx hb dX6_make_51 (lv_at hl 4 rfl) ?_
            refine lv_lconst (v := 0) hx hb dX6_make_53 (by decide) ?_
            refine va_last hx hb hK.1 hP hD hS 4 3 rfl rfl (in_rg h_8 (by decide)) dX6_make_54 (fun H locs hP hD hS => ?_)
            obtain ⟨z55, qz55⟩ : ∃ y : Int32, y = x38_4 + Int32.ofInt 1 := ⟨_, rfl⟩
            obtain ⟨hz55, ez55⟩ := inc_z (e := 1) (f := 60) h_8 qz55 (by decide)
            refine lv_iinc (v := z55) (lv' := [(4, .int z55), (0, .ref a0), (1, .int p0), (2, .int p1), (3, .int p2)]) hx hb dX6_make_55 hl (k := 4) rfl (qz55.symm) (by decide) rfl (fun ls hl => ?_)
            refine lv_goto (tgt := 38) hx hb dX6_make_58 (by decide) ?_
            exact ih38 z55 f38_2 f38_3 (vp_updL f38_4 x38_4.toNatClampNeg 0) f38_5 _ _ ls (by have q := hn38; have := ez55; omega) (rg_w (c := 0) (d := 60) hz55 (by decide)) hP hD hS (lv_sub hl [1, 2, 3, 4, 0] rfl)
          · refine ix_i (y := 3) s50 ?_
            have h_12 : rg 3 3 p0 := r_eq_l_i (e := 3) (f := 3) s50 h_5 (rgn 3 (x := 3) (by decide)) (by decide)
            refine va_aldL hx hb hK.1 hP 1 5 rfl rfl (in_lit (by decide)) dX6_make_50 ?_
            refine ix_r (y := .ref (rr 3)) rfl ?_
            refine lv_iload hx hb dX6_make_51 (lv_at hl 4 rfl) ?_
            refine lv_lconst (v := 0) hx hb dX6_make_53 (by decide) ?_
            refine va_last hx hb hK.1 hP hD hS 5 3 rfl rfl (in_rg h_8 (by decide)) dX6_make_54 (fun H locs hP hD hS => ?_)
            obtain ⟨z55, qz55⟩ : ∃ y : Int32, y = x38_4 + Int32.ofInt 1 := ⟨_, rfl⟩
            obtain ⟨hz55, ez55⟩ := inc_z (e := 1) (f := 60) h_8 qz55 (by decide)
            refine lv_iinc (v := z55) (lv' := [(4, .int z55), (0, .ref a0), (1, .int p0), (2, .int p1), (3, .int p2)]) hx hb dX6_make_55 hl (k := 4) rfl (qz55.symm) (by decide) rfl (fun ls hl => ?_)
            refine lv_goto (tgt := 38) hx hb dX6_make_58 (by decide) ?_
            exact ih38 z55 f38_2 f38_3 f38_4 (vp_updL f38_5 x38_4.toNatClampNeg 0) _ _ ls (by have q := hn38; have := ez55; omega) (rg_w (c := 0) (d := 60) hz55 (by decide)) hP hD hS (lv_sub hl [1, 2, 3, 4, 0] rfl)
    exact j38 4294967296 (0 : Int32) f2 f3 f4 f5 _ _ ls (ms_e (0 : Int32)) (rg_w (c := 0) (d := 60) (rgn 0 (x := 0) (by decide)) (by decide)) hP hD hS (lv_sub hl [1, 2, 3, 4, 0] rfl)
  · have h_13 : rg 0 0 r2 := r_eq_l_i (e := 0) (f := 0) c5 p_1 (rgn 0 (x := 0) (by decide)) (by decide)
    exact W.vret hx hb hr (fun t ht hW => ⟨⟨(fun k => ([n0_3] : List Int32).getD k 0, fun k => ([f6, f7] : List (Nat → Int32)).getD k (fun _ => 0), fun k => ([f2, f3, f4, f5] : List (Nat → Int64)).getD k (fun _ => 0)), rfl, ⟨hp_f7, (show n0_3 = mkK n0_3 p0 from (mk_n (by have := (p_3 (req h_13 (y := 0) (by decide))); have := hp_p2; have := congrArg Int32.toInt c5; have : (0 : Int32).toInt = 0 := (by decide); omega)).symm), (show f6 = mkF f6 p0 p1 from (mf_n (by have := (p_3 (req h_13 (y := 0) (by decide))); have := hp_p2; have := congrArg Int32.toInt c5; have : (0 : Int32).toInt = 0 := (by decide); omega)).symm), (show f7 = mkF f7 p0 p2 from (mf_n (by have := (p_3 (req h_13 (y := 0) (by decide))); have := hp_p2; have := congrArg Int32.toInt c5; have : (0 : Int32).toInt = 0 := (by decide); omega)).symm), trivial⟩, hp_at ht hP⟩, hS.F ht⟩) hS.2.2 dX6_make_8

set_option maxHeartbeats 4000000 in
set_option maxRecDepth 100000 in
theorem e_X10_row (l : Launch) (G : va_G) (ct : Nat → ClassId) (a0 : Nat) (a1 : Nat) (a3 : Nat) (a11 : Nat) (a25 : Nat) (a68 : Nat) (a69 : Nat) (a77 : Nat) (a82 : Nat) (a84 : Nat) (a88 : Nat) (a91 : Nat) (a70 : Nat) (a75 : Nat) (a76 : Nat) (n69_3 : Int32) (rr : Nat → Nat) (f71 : Nat → Int64) (f72 : Nat → Int64) (f73 : Nat → Int64) (f74 : Nat → Int64) (f75 : Nat → Int32) (f76 : Nat → Int32) (p0 : Int32) (p1 : Int32) (p2 : Int32) (hp_f76 : ar 0 60 f76) : Met l yX10_row wsX10_row ({ frames := 2, cells := 0, slots := 0, locals := 45 }) (va_Pc [.ref a0, .int p0, .int p1, .int p2] (wrP G ct [(a0, .inr (10, [.ref a1, .ref a3, .ref a11, .ref a25, .ref a68, .ref a69, .ref a77, .ref a82, .ref a84, .ref a88, .ref a91])), (a69, .inr (6, [.ref a70, .ref a75, .ref a76, .int n69_3])), (a70, .inl (ct 5, 4, .inr (.inr (.inr (.inr (fun i => if i < 4 then some (rr i) else none)))))), ((rr 0), .inl (ct 3, 60, .inr (.inl f71))), ((rr 1), .inl (ct 3, 60, .inr (.inl f72))), ((rr 2), .inl (ct 3, 60, .inr (.inl f73))), ((rr 3), .inl (ct 3, 60, .inr (.inl f74))), (a75, .inl (ct 0, 4, .inl f75)), (a76, .inl (ct 0, 4, .inl f76))])) (va_Qi (fun (r : Int32) (u : SU) => rg (-3) 0 r ∧ (r = 0 → rg 0 3 p0) ∧ (¬ r = (-2) → rg 0 3 p0) ∧ (r = 0 → rg 0 3 p1) ∧ (¬ r = (-2) → rg 0 3 p1) ∧ (r = 0 → rg 0 60 p2) ∧ (¬ r = (-2) → rg (-2147483648) 60 p2) ∧ ar 0 60 (u.2.1 1) ∧ r = rwA p0 p1 p2 ∧ (r = 0 → (u.1 0) = mkK n69_3 p0) ∧ (r = 0 → (u.2.1 0) = mkF f75 p0 p1) ∧ (r = 0 → (u.2.1 1) = mkF f76 p0 p2) ∧ (¬ r = 0 → (u.1 0) = n69_3) ∧ (¬ r = 0 → (u.2.1 0) = f75) ∧ (¬ r = 0 → (u.2.1 1) = f76) ∧ True) (fun u t => va_P G vwCl ((fun u : SU => [(a0, .inr (10, [.ref a1, .ref a3, .ref a11, .ref a25, .ref a68, .ref a69, .ref a77, .ref a82, .ref a84, .ref a88, .ref a91])), (a69, .inr (6, [.ref a70, .ref a75, .ref a76, .int (u.1 0)])), (a70, .inl (ct 5, 4, .inr (.inr (.inr (.inr (fun i => if i < 4 then some (rr i) else none)))))), ((rr 0), .inl (ct 3, 60, .inr (.inl (u.2.2 0)))), ((rr 1), .inl (ct 3, 60, .inr (.inl (u.2.2 1)))), ((rr 2), .inl (ct 3, 60, .inr (.inl (u.2.2 2)))), ((rr 3), .inl (ct 3, 60, .inr (.inl (u.2.2 3)))), (a75, .inl (ct 0, 4, .inl (u.2.1 0))), (a76, .inl (ct 0, 4, .inl (u.2.1 1)))]) u) t.heap) (aset [(a0, .inr (10, [.ref a1, .ref a3, .ref a11, .ref a25, .ref a68, .ref a69, .ref a77, .ref a82, .ref a84, .ref a88, .ref a91])), (a69, .inr (6, [.ref a70, .ref a75, .ref a76, .int n69_3])), (a70, .inl (ct 5, 4, .inr (.inr (.inr (.inr (fun i => if i < 4 then some (rr i) else none)))))), ((rr 0), .inl (ct 3, 60, .inr (.inl f71))), ((rr 1), .inl (ct 3, 60, .inr (.inl f72))), ((rr 2), .inl (ct 3, 60, .inr (.inl f73))), ((rr 3), .inl (ct 3, 60, .inr (.inl f74))), (a75, .inl (ct 0, 4, .inl f75)), (a76, .inl (ct 0, 4, .inl f76))])) 0 0 (aset [(a0, .inr (10, [.ref a1, .ref a3, .ref a11, .ref a25, .ref a68, .ref a69, .ref a77, .ref a82, .ref a84, .ref a88, .ref a91])), (a69, .inr (6, [.ref a70, .ref a75, .ref a76, .int n69_3])), (a70, .inl (ct 5, 4, .inr (.inr (.inr (.inr (fun i => if i < 4 then some (rr i) else none)))))), ((rr 0), .inl (ct 3, 60, .inr (.inl f71))), ((rr 1), .inl (ct 3, 60, .inr (.inl f72))), ((rr 2), .inl (ct 3, 60, .inr (.inl f73))), ((rr 3), .inl (ct 3, 60, .inr (.inl f74))), (a75, .inl (ct 0, 4, .inl f75)), (a76, .inl (ct 0, 4, .inl f76))]) := by
  refine Met.ofW (cc := cX10_row) (maxL := 4) (ret := (some .int)) (by decide) rfl ?_
  intro p e s m args below meth c s₁ B hml hv
  obtain ⟨rfl, hP, hK, hD0⟩ := hv
  have hx := B.exec
  have hb := B.bytes
  have hr := B.returns
  have hts := atoms_spec (ws := wsX10_row) B.pre
  have hown : s.vm.findClass RX10 = some m.cls := findClass_of_methodNamed B.named
  have hlocks := B.notSynchronized
  have hD := hD0.aself
  generalize hAe : aset [(a0, .inr (10, [.ref a1, .ref a3, .ref a11, .ref a25, .ref a68, .ref a69, .ref a77, .ref a82, .ref a84, .ref a88, .ref a91])), (a69, .inr (6, [.ref a70, .ref a75, .ref a76, .int n69_3])), (a70, .inl (ct 5, 4, .inr (.inr (.inr (.inr (fun i => if i < 4 then some (rr i) else none)))))), ((rr 0), .inl (ct 3, 60, .inr (.inl f71))), ((rr 1), .inl (ct 3, 60, .inr (.inl f72))), ((rr 2), .inl (ct 3, 60, .inr (.inl f73))), ((rr 3), .inl (ct 3, 60, .inr (.inl f74))), (a75, .inl (ct 0, 4, .inl f75)), (a76, .inl (ct 0, 4, .inl f76))] = A at hD ⊢
  have hS : va_S A s.heap s.heap [] := va_S.rf
  have hl := lv_entry ([.ref a0, .int p0, .int p1, .int p2]) (n := 4) (Nat.le_of_ble_eq_true rfl)
  rw [lg_entry_eq]
  generalize (lg_sl ([.ref a0, .int p0, .int p1, .int p2]) ++ List.replicate (4 - (lg_sl ([.ref a0, .int p0, .int p1, .int p2])).length) Slot.unset).toArray = ls at hl ⊢
  have hl : lv_has ls 4 [(0, .ref a0), (1, .int p0), (2, .int p1), (3, .int p2)] := hl
  refine lv_aload_n hx hb dX10_row_0 rfl (lv_at hl 0 rfl) ?_
  refine va_get (D := G) (ci := 10) (v := .ref a69) (C := RX10) (T := TX10) (N := 11) hx hb hts (by decide +kernel) hown hK.1 hP 0 rfl rfl 5 (by decide) (hts (.fieldLink RX10 43 "CardHolder" "rows" "LCardHolder$Rows;") (by decide +kernel)) (fun _ h9 => h9) rfl dX10_row_1 ?_
  refine lv_iload_n hx hb dX10_row_4 rfl (lv_at hl 1 rfl) ?_
  refine ro_calli (va_runV (As := [.int p0]) (rest := []) ⟨hx, hb, hml, hown, hts⟩ (e_X6_isSlot l G ct a69 a70 a75 a76 n69_3 p0) (cwV 1 hts gX10_row_X6_isSlot rfl rfl rfl (by decide +kernel) ⟨Nat.le_of_ble_eq_true rfl, Nat.le_of_ble_eq_true rfl⟩) (ro_preV 6 0 hK (hP.sub [1] rfl) rfl rfl) rfl rfl hl.1 rfl (lv_room (Nat.le_of_ble_eq_true rfl)) dX10_row_5 ⟨Nat.zero_le _, Nat.zero_le _⟩) hS hP (fun r5 H locs wr5 hP hS => ?_)
  obtain ⟨p_1, p_2, p_3, -⟩ := wr5
  refine lv_if_eq (tgt := 26) hx hb dX10_row_8 (by decide) (fun c8 => ?_) (fun c8 => ?_)
  · have h_4 : rg 0 0 r5 := r_eq_l_i (e := 0) (f := 0) c8 p_1 (rgn 0 (x := 0) (by decide)) (by decide)
    refine lv_bipush (v := (-2)) hx hb dX10_row_26 (by decide) ?_
    exact W.iret (v := (-2)) hx hb hr (fun t ht hW => ⟨⟨(-2), (fun k => ([n69_3] : List Int32).getD k 0, fun k => ([f75, f76] : List (Nat → Int32)).getD k (fun _ => 0), fun k => ([f71, f72, f73, f74] : List (Nat → Int64)).getD k (fun _ => 0)), rfl, ⟨(rg_w (c := (-3)) (d := 0) (rgn (-2) (x := (-2)) (by decide)) (by decide)), (fun hq => absurd hq (rne (rgn (-2) (x := (-2)) (by decide)) (y := 0) (c := 0) (by decide) (by decide))), (fun hq => absurd (req (rgn (-2) (x := (-2)) (by decide)) (y := (-2)) (by decide)) hq), (fun hq => absurd hq (rne (rgn (-2) (x := (-2)) (by decide)) (y := 0) (c := 0) (by decide) (by decide))), (fun hq => absurd (req (rgn (-2) (x := (-2)) (by decide)) (y := (-2)) (by decide)) hq), (fun hq => absurd hq (rne (rgn (-2) (x := (-2)) (by decide)) (y := 0) (c := 0) (by decide) (by decide))), (fun hq => absurd (req (rgn (-2) (x := (-2)) (by decide)) (y := (-2)) (by decide)) hq), hp_f76, (by show (-2) = rwA p0 p1 p2; unfold rwA; have h8 := p_3 (req h_4 (y := 0) (by decide)); (repeat' split) <;> first | rfl | (exfalso; omega)), (fun hq => absurd hq (by decide)), (fun hq => absurd hq (by decide)), (fun hq => absurd hq (by decide)), (fun _ => rfl), (fun _ => rfl), (fun _ => rfl), trivial⟩, hp_at ht hP⟩, hS.F ht⟩) hS.2.2 dX10_row_28
  · have h_5 : rg 1 1 r5 := r_ne_lo_i c8 p_1 (by decide) (by decide)
    have h_6 : rg 0 3 p0 := (p_2 (rne h_5 (y := 0) (c := 0) (by decide) (by decide)))
    refine lv_iload_n hx hb dX10_row_11 rfl (lv_at hl 2 rfl) ?_
    refine lv_if_lt (tgt := 26) hx hb dX10_row_12 (by decide) (fun c12 => ?_) (fun c12 => ?_)
    · have h_7 : rg (-2147483648) (-1) p1 := r_lt_l_i c12 (rg_t p1) (rgn 0 (x := 0) (by decide)) (by decide)
      refine lv_bipush (v := (-2)) hx hb dX10_row_26 (by decide) ?_
      exact W.iret (v := (-2)) hx hb hr (fun t ht hW => ⟨⟨(-2), (fun k => ([n69_3] : List Int32).getD k 0, fun k => ([f75, f76] : List (Nat → Int32)).getD k (fun _ => 0), fun k => ([f71, f72, f73, f74] : List (Nat → Int64)).getD k (fun _ => 0)), rfl, ⟨(rg_w (c := (-3)) (d := 0) (rgn (-2) (x := (-2)) (by decide)) (by decide)), (fun _ => h_6), (fun _ => h_6), (fun hq => absurd hq (rne (rgn (-2) (x := (-2)) (by decide)) (y := 0) (c := 0) (by decide) (by decide))), (fun hq => absurd (req (rgn (-2) (x := (-2)) (by decide)) (y := (-2)) (by decide)) hq), (fun hq => absurd hq (rne (rgn (-2) (x := (-2)) (by decide)) (y := 0) (c := 0) (by decide) (by decide))), (fun hq => absurd (req (rgn (-2) (x := (-2)) (by decide)) (y := (-2)) (by decide)) hq), hp_f76, (by show (-2) = rwA p0 p1 p2; unfold rwA; have := h_6; have := h_7; (repeat' split) <;> first | rfl | (exfalso; omega)), (fun hq => absurd hq (by decide)), (fun hq => absurd hq (by decide)), (fun hq => absurd hq (by decide)), (fun _ => rfl), (fun _ => rfl), (fun _ => rfl), trivial⟩, hp_at ht hP⟩, hS.F ht⟩) hS.2.2 dX10_row_28
    · have h_8 : rg 0 2147483647 p1 := r_le_r_i (nlt_i c12) (rgn 0 (x := 0) (by decide)) (rg_t p1)
      refine lv_iload_n hx hb dX10_row_15 rfl (lv_at hl 2 rfl) ?_
      refine lv_iconst (v := 3) hx hb dX10_row_16 (by decide) ?_
      refine lv_icmp_gt (tgt := 26) hx hb dX10_row_17 (by decide) (fun c17 => ?_) (fun c17 => ?_)
      · have h_9 : rg 4 2147483647 p1 := r_lt_r_i c17 (rgn 3 (x := 3) (by decide)) h_8 (by decide)
        refine lv_bipush (v := (-2)) hx hb dX10_row_26 (by decide) ?_
        exact W.iret (v := (-2)) hx hb hr (fun t ht hW => ⟨⟨(-2), (fun k => ([n69_3] : List Int32).getD k 0, fun k => ([f75, f76] : List (Nat → Int32)).getD k (fun _ => 0), fun k => ([f71, f72, f73, f74] : List (Nat → Int64)).getD k (fun _ => 0)), rfl, ⟨(rg_w (c := (-3)) (d := 0) (rgn (-2) (x := (-2)) (by decide)) (by decide)), (fun _ => h_6), (fun _ => h_6), (fun hq => absurd hq (rne (rgn (-2) (x := (-2)) (by decide)) (y := 0) (c := 0) (by decide) (by decide))), (fun hq => absurd (req (rgn (-2) (x := (-2)) (by decide)) (y := (-2)) (by decide)) hq), (fun hq => absurd hq (rne (rgn (-2) (x := (-2)) (by decide)) (y := 0) (c := 0) (by decide) (by decide))), (fun hq => absurd (req (rgn (-2) (x := (-2)) (by decide)) (y := (-2)) (by decide)) hq), hp_f76, (by show (-2) = rwA p0 p1 p2; unfold rwA; have := h_6; have := h_9; (repeat' split) <;> first | rfl | (exfalso; omega)), (fun hq => absurd hq (by decide)), (fun hq => absurd hq (by decide)), (fun hq => absurd hq (by decide)), (fun _ => rfl), (fun _ => rfl), (fun _ => rfl), trivial⟩, hp_at ht hP⟩, hS.F ht⟩) hS.2.2 dX10_row_28
      · have h_10 : rg 0 3 p1 := r_le_l_i (nlt_i c17) h_8 (rgn 3 (x := 3) (by decide))
        refine lv_iload_n hx hb dX10_row_20 rfl (lv_at hl 3 rfl) ?_
        refine lv_bipush (v := 60) hx hb dX10_row_21 (by decide) ?_
        refine lv_icmp_le (tgt := 29) hx hb dX10_row_23 (by decide) (fun c23 => ?_) (fun c23 => ?_)
        · have h_11 : rg (-2147483648) 60 p2 := r_le_l_i c23 (rg_t p2) (rgn 60 (x := 60) (by decide))
          refine lv_iload_n hx hb dX10_row_29 rfl (lv_at hl 3 rfl) ?_
          refine lv_if_ge (tgt := 36) hx hb dX10_row_30 (by decide) (fun c30 => ?_) (fun c30 => ?_)
          · have h_12 : rg 0 60 p2 := r_le_r_i c30 (rgn 0 (x := 0) (by decide)) h_11
            refine lv_aload_n hx hb dX10_row_36 rfl (lv_at hl 0 rfl) ?_
            refine va_get (D := G) (ci := 10) (v := .ref a69) (C := RX10) (T := TX10) (N := 11) hx hb hts (by decide +kernel) hown hK.1 hP 0 rfl rfl 5 (by decide) (hts (.fieldLink RX10 43 "CardHolder" "rows" "LCardHolder$Rows;") (by decide +kernel)) (fun _ h9 => h9) rfl dX10_row_37 ?_
            refine lv_iload_n hx hb dX10_row_40 rfl (lv_at hl 1 rfl) ?_
            refine lv_iload_n hx hb dX10_row_41 rfl (lv_at hl 2 rfl) ?_
            refine lv_iload_n hx hb dX10_row_42 rfl (lv_at hl 3 rfl) ?_
            refine wj_callv (wr := [(a0, .inr (10, [.ref a1, .ref a3, .ref a11, .ref a25, .ref a68, .ref a69, .ref a77, .ref a82, .ref a84, .ref a88, .ref a91]))]) (w1 := (fun u : SU => [(a69, .inr (6, [.ref a70, .ref a75, .ref a76, .int (u.1 0)])), (a70, .inl (ct 5, 4, .inr (.inr (.inr (.inr (fun i => if i < 4 then some (rr i) else none)))))), ((rr 0), .inl (ct 3, 60, .inr (.inl (u.2.2 0)))), ((rr 1), .inl (ct 3, 60, .inr (.inl (u.2.2 1)))), ((rr 2), .inl (ct 3, 60, .inr (.inl (u.2.2 2)))), ((rr 3), .inl (ct 3, 60, .inr (.inl (u.2.2 3)))), (a75, .inl (ct 0, 4, .inl (u.2.1 0))), (a76, .inl (ct 0, 4, .inl (u.2.1 1)))])) (va_runV (As := [.int p0, .int p1, .int p2]) (rest := []) ⟨hx, hb, hml, hown, hts⟩ (e_X6_make l G ct a69 a70 a75 a76 n69_3 rr f71 f72 f73 f74 f75 f76 p0 p1 p2 hp_f76 h_12) (cwV 3 hts gX10_row_X6_make rfl rfl rfl (by decide +kernel) ⟨Nat.le_of_ble_eq_true rfl, Nat.le_of_ble_eq_true rfl⟩) (wr_preV 6 0 hK (hP.sub [1, 2, 3, 4, 5, 6, 7, 8] rfl) (hD.sub [1, 2, 3, 4, 5, 6, 7, 8] (by decide) rfl) rfl rfl) rfl rfl hl.1 rfl (lv_room (Nat.le_of_ble_eq_true rfl)) dX10_row_43 ⟨Nat.zero_le _, Nat.zero_le _⟩) hS hP hD [1, 2, 3, 4, 5, 6, 7, 8] [0] rfl rfl (by decide) (fun _ => rfl) (fun ur43 H locs wr43 hP hD hS => ?_)
            have hP : va_P G vwCl [(a0, .inr (10, [.ref a1, .ref a3, .ref a11, .ref a25, .ref a68, .ref a69, .ref a77, .ref a82, .ref a84, .ref a88, .ref a91])), (a69, .inr (6, [.ref a70, .ref a75, .ref a76, .int (ur43.1 0)])), (a70, .inl (ct 5, 4, .inr (.inr (.inr (.inr (fun i => if i < 4 then some (rr i) else none)))))), ((rr 0), .inl (ct 3, 60, .inr (.inl (ur43.2.2 0)))), ((rr 1), .inl (ct 3, 60, .inr (.inl (ur43.2.2 1)))), ((rr 2), .inl (ct 3, 60, .inr (.inl (ur43.2.2 2)))), ((rr 3), .inl (ct 3, 60, .inr (.inl (ur43.2.2 3)))), (a75, .inl (ct 0, 4, .inl (ur43.2.1 0))), (a76, .inl (ct 0, 4, .inl (ur43.2.1 1)))] H := hP.sub [0, 1, 2, 3, 4, 5, 6, 7, 8] rfl
            have hD : va_D A [(a0, .inr (10, [.ref a1, .ref a3, .ref a11, .ref a25, .ref a68, .ref a69, .ref a77, .ref a82, .ref a84, .ref a88, .ref a91])), (a69, .inr (6, [.ref a70, .ref a75, .ref a76, .int (ur43.1 0)])), (a70, .inl (ct 5, 4, .inr (.inr (.inr (.inr (fun i => if i < 4 then some (rr i) else none)))))), ((rr 0), .inl (ct 3, 60, .inr (.inl (ur43.2.2 0)))), ((rr 1), .inl (ct 3, 60, .inr (.inl (ur43.2.2 1)))), ((rr 2), .inl (ct 3, 60, .inr (.inl (ur43.2.2 2)))), ((rr 3), .inl (ct 3, 60, .inr (.inl (ur43.2.2 3)))), (a75, .inl (ct 0, 4, .inl (ur43.2.1 0))), (a76, .inl (ct 0, 4, .inl (ur43.2.1 1)))] := hD.sub [0, 1, 2, 3, 4, 5, 6, 7, 8] (by decide) rfl
            obtain ⟨p_13, p_14, p_15, p_16, -⟩ := wr43
            refine lv_iconst (v := 0) hx hb dX10_row_46 (by decide) ?_
            exact W.iret (v := 0) hx hb hr (fun t ht hW => ⟨⟨0, (fun k => ([ur43.1 0] : List Int32).getD k 0, fun k => ([ur43.2.1 0, ur43.2.1 1] : List (Nat → Int32)).getD k (fun _ => 0), fun k => ([ur43.2.2 0, ur43.2.2 1, ur43.2.2 2, ur43.2.2 3] : List (Nat → Int64)).getD k (fun _ => 0)), rfl, ⟨(rg_w (c := (-3)) (d := 0) (rgn 0 (x := 0) (by decide)) (by decide)), (fun _ => h_6), (fun _ => h_6), (fun _ => h_10), (fun _ => h_10), (fun _ => h_12), (fun _ => (rg_w (c := (-2147483648)) (d := 60) h_12 (by decide))), p_13, (by show 0 = rwA p0 p1 p2; unfold rwA; have := h_6; have := h_10; have := h_12; (repeat' split) <;> first | rfl | (exfalso; omega)), (fun _ => p_14), (fun _ => p_15), (fun _ => p_16), (fun hq => absurd rfl hq), (fun hq => absurd rfl hq), (fun hq => absurd rfl hq), trivial⟩, hp_at ht hP⟩, hS.F ht⟩) hS.2.2 dX10_row_47
          · have h_17 : rg (-2147483648) (-1) p2 := r_lt_l_i (nle_i c30) h_11 (rgn 0 (x := 0) (by decide)) (by decide)
            refine lv_bipush (v := (-3)) hx hb dX10_row_33 (by decide) ?_
            exact W.iret (v := (-3)) hx hb hr (fun t ht hW => ⟨⟨(-3), (fun k => ([n69_3] : List Int32).getD k 0, fun k => ([f75, f76] : List (Nat → Int32)).getD k (fun _ => 0), fun k => ([f71, f72, f73, f74] : List (Nat → Int64)).getD k (fun _ => 0)), rfl, ⟨(rg_w (c := (-3)) (d := 0) (rgn (-3) (x := (-3)) (by decide)) (by decide)), (fun _ => h_6), (fun _ => h_6), (fun _ => h_10), (fun _ => h_10), (fun hq => absurd hq (rne (rgn (-3) (x := (-3)) (by decide)) (y := 0) (c := 0) (by decide) (by decide))), (fun _ => (rg_w (c := (-2147483648)) (d := 60) h_17 (by decide))), hp_f76, (by show (-3) = rwA p0 p1 p2; unfold rwA; have := h_6; have := h_10; have := h_17; (repeat' split) <;> first | rfl | (exfalso; omega)), (fun hq => absurd hq (by decide)), (fun hq => absurd hq (by decide)), (fun hq => absurd hq (by decide)), (fun _ => rfl), (fun _ => rfl), (fun _ => rfl), trivial⟩, hp_at ht hP⟩, hS.F ht⟩) hS.2.2 dX10_row_35
        · have h_18 : rg 61 2147483647 p2 := r_lt_r_i (nle_i c23) (rgn 60 (x := 60) (by decide)) (rg_t p2) (by decide)
          refine lv_bipush (v := (-2)) hx hb dX10_row_26 (by decide) ?_
          exact W.iret (v := (-2)) hx hb hr (fun t ht hW => ⟨⟨(-2), (fun k => ([n69_3] : List Int32).getD k 0, fun k => ([f75, f76] : List (Nat → Int32)).getD k (fun _ => 0), fun k => ([f71, f72, f73, f74] : List (Nat → Int64)).getD k (fun _ => 0)), rfl, ⟨(rg_w (c := (-3)) (d := 0) (rgn (-2) (x := (-2)) (by decide)) (by decide)), (fun _ => h_6), (fun _ => h_6), (fun _ => h_10), (fun _ => h_10), (fun hq => absurd hq (rne (rgn (-2) (x := (-2)) (by decide)) (y := 0) (c := 0) (by decide) (by decide))), (fun hq => absurd (req (rgn (-2) (x := (-2)) (by decide)) (y := (-2)) (by decide)) hq), hp_f76, (by show (-2) = rwA p0 p1 p2; unfold rwA; have := h_6; have := h_10; have := h_18; (repeat' split) <;> first | rfl | (exfalso; omega)), (fun hq => absurd hq (by decide)), (fun hq => absurd hq (by decide)), (fun hq => absurd hq (by decide)), (fun _ => rfl), (fun _ => rfl), (fun _ => rfl), trivial⟩, hp_at ht hP⟩, hS.F ht⟩) hS.2.2 dX10_row_28

set_option maxHeartbeats 4000000 in
set_option maxRecDepth 100000 in
theorem e_X11_row (l : Launch) (G : va_G) (ct : Nat → ClassId) (a0 : Nat) (n0_0 : Int32) (a1 : Nat) (a2 : Nat) (a3 : Nat) (a4 : Nat) (a5 : Nat) (n0_6 : Int32) (n0_7 : Int32) (n0_8 : Int32) (n0_9 : Int32) (n0_10 : Int32) (l0_11 : Int64) (n0_12 : Int32) (n0_13 : Int32) (n0_14 : Int32) (n0_15 : Int32) (a6 : Nat) (a7 : Nat) (a8 : Nat) (a9 : Nat) (a10 : Nat) (a11 : Nat) (a12 : Nat) (a13 : Nat) (n0_24 : Int32) (n0_25 : Int32) (n0_26 : Int32) (n0_27 : Int32) (a14 : Nat) (n0_29 : Int32) (n0_30 : Int32) (f1 : Nat → Int32) (f2 : Nat → Int32) (f3 : Nat → Int64) (p0 : Int32) (p1 : Int32) (p2 : Int32) (hp_f2 : ar 0 60 f2) (hp_n0_6 : rg 0 900 n0_6) : Met l yX11_row wsX11_row ({ frames := 2, cells := 0, slots := 0, locals := 45 }) (va_Pc [.ref a0, .int p0, .int p1, .int p2] (wrP G ct [(a0, .inr (11, [.int n0_0, .ref a1, .ref a2, .ref a3, .ref a4, .ref a5, .int n0_6, .int n0_7, .int n0_8, .int n0_9, .int n0_10, .long l0_11, .int n0_12, .int n0_13, .int n0_14, .int n0_15, .ref a6, .ref a7, .ref a8, .ref a9, .ref a10, .ref a11, .ref a12, .ref a13, .int n0_24, .int n0_25, .int n0_26, .int n0_27, .ref a14, .int n0_29, .int n0_30])), (a1, .inl (ct 0, 4, .inl f1)), (a2, .inl (ct 0, 4, .inl f2)), (a3, .inl (ct 3, 240, .inr (.inl f3)))])) (va_Qi (fun (r : Int32) (u : SU) => rg (-3) 0 r ∧ (r = 0 → rg 0 3 p0) ∧ (¬ r = (-2) → rg 0 3 p0) ∧ (r = 0 → rg 0 3 p1) ∧ (¬ r = (-2) → rg 0 3 p1) ∧ (r = 0 → rg 0 60 p2) ∧ (¬ r = (-2) → rg (-2147483648) 60 p2) ∧ ar 0 60 (u.2.1 1) ∧ rg 0 0 (u.1 0) ∧ r = rwA p0 p1 p2 ∧ (r = 0 → (u.2.1 0) = mkF f1 p0 p1) ∧ (r = 0 → (u.2.1 1) = mkF f2 p0 p2) ∧ (¬ r = 0 → (u.2.1 0) = f1) ∧ (¬ r = 0 → (u.2.1 1) = f2) ∧ True) (fun u t => va_P G vwCl ((fun u : SU => [(a0, .inr (11, [.int (u.1 0), .ref a1, .ref a2, .ref a3, .ref a4, .ref a5, .int n0_6, .int n0_7, .int n0_8, .int n0_9, .int n0_10, .long l0_11, .int n0_12, .int n0_13, .int n0_14, .int n0_15, .ref a6, .ref a7, .ref a8, .ref a9, .ref a10, .ref a11, .ref a12, .ref a13, .int n0_24, .int n0_25, .int n0_26, .int n0_27, .ref a14, .int n0_29, .int n0_30])), (a1, .inl (ct 0, 4, .inl (u.2.1 0))), (a2, .inl (ct 0, 4, .inl (u.2.1 1))), (a3, .inl (ct 3, 240, .inr (.inl (u.2.2 0))))]) u) t.heap) (aset [(a0, .inr (11, [.int n0_0, .ref a1, .ref a2, .ref a3, .ref a4, .ref a5, .int n0_6, .int n0_7, .int n0_8, .int n0_9, .int n0_10, .long l0_11, .int n0_12, .int n0_13, .int n0_14, .int n0_15, .ref a6, .ref a7, .ref a8, .ref a9, .ref a10, .ref a11, .ref a12, .ref a13, .int n0_24, .int n0_25, .int n0_26, .int n0_27, .ref a14, .int n0_29, .int n0_30])), (a1, .inl (ct 0, 4, .inl f1)), (a2, .inl (ct 0, 4, .inl f2)), (a3, .inl (ct 3, 240, .inr (.inl f3)))])) 0 0 (aset [(a0, .inr (11, [.int n0_0, .ref a1, .ref a2, .ref a3, .ref a4, .ref a5, .int n0_6, .int n0_7, .int n0_8, .int n0_9, .int n0_10, .long l0_11, .int n0_12, .int n0_13, .int n0_14, .int n0_15, .ref a6, .ref a7, .ref a8, .ref a9, .ref a10, .ref a11, .ref a12, .ref a13, .int n0_24, .int n0_25, .int n0_26, .int n0_27, .ref a14, .int n0_29, .int n0_30])), (a1, .inl (ct 0, 4, .inl f1)), (a2, .inl (ct 0, 4, .inl f2)), (a3, .inl (ct 3, 240, .inr (.inl f3)))]) := by
  refine Met.ofW (cc := cX11_row) (maxL := 5) (ret := (some .int)) (by decide) rfl ?_
  intro p e s m args below meth c s₁ B hml hv
  obtain ⟨rfl, hP, hK, hD0⟩ := hv
  have hx := B.exec
  have hb := B.bytes
  have hr := B.returns
  have hts := atoms_spec (ws := wsX11_row) B.pre
  have hown : s.vm.findClass RX11 = some m.cls := findClass_of_methodNamed B.named
  have hlocks := B.notSynchronized
  have hD := hD0.aself
  generalize hAe : aset [(a0, .inr (11, [.int n0_0, .ref a1, .ref a2, .ref a3, .ref a4, .ref a5, .int n0_6, .int n0_7, .int n0_8, .int n0_9, .int n0_10, .long l0_11, .int n0_12, .int n0_13, .int n0_14, .int n0_15, .ref a6, .ref a7, .ref a8, .ref a9, .ref a10, .ref a11, .ref a12, .ref a13, .int n0_24, .int n0_25, .int n0_26, .int n0_27, .ref a14, .int n0_29, .int n0_30])), (a1, .inl (ct 0, 4, .inl f1)), (a2, .inl (ct 0, 4, .inl f2)), (a3, .inl (ct 3, 240, .inr (.inl f3)))] = A at hD ⊢
  have hS : va_S A s.heap s.heap [] := va_S.rf
  have hl := lv_entry ([.ref a0, .int p0, .int p1, .int p2]) (n := 5) (Nat.le_of_ble_eq_true rfl)
  rw [lg_entry_eq]
  generalize (lg_sl ([.ref a0, .int p0, .int p1, .int p2]) ++ List.replicate (5 - (lg_sl ([.ref a0, .int p0, .int p1, .int p2])).length) Slot.unset).toArray = ls at hl ⊢
  have hl : lv_has ls 5 [(0, .ref a0), (1, .int p0), (2, .int p1), (3, .int p2)] := hl
  refine lv_aload_n hx hb dX11_row_0 rfl (lv_at hl 0 rfl) ?_
  refine lv_iconst (v := 0) hx hb dX11_row_1 (by decide) ?_
  refine va_put (D := G) (ci := 11) (v := .int 0) (ty := .int) (C := RX11) (T := TX11) (N := 31) hx hb hts (by decide +kernel) tyX11 tyX11_ok nmX11 hown hK.1 hP hD hS 0 rfl rfl 0 (by decide) (hts (.fieldLink RX11 59 "CardHolderModel" "thrown" "I") (by decide +kernel)) (fun _ h9 => h9) rfl (by decide +kernel) rfl rfl (Nat.le_of_ble_eq_true rfl) dX11_row_2 (fun H locs hP hD hS => ?_)
  refine lv_iload_n hx hb dX11_row_5 rfl (lv_at hl 1 rfl) ?_
  refine ro_calli (va_runS (As := [.int p0]) (rest := []) ⟨hx, hb, hml, hown, hts⟩ (e_X11_isSlot l G ct p0) (va_cwS 1 hts gX11_row_X11_isSlot rfl rfl rfl (by decide +kernel) ⟨Nat.le_of_ble_eq_true rfl, Nat.le_of_ble_eq_true rfl⟩) (ro_pre hK (hP.sub [] rfl)) rfl rfl hl.1 rfl (lv_room (Nat.le_of_ble_eq_true rfl)) dX11_row_6 ⟨Nat.zero_le _, Nat.zero_le _⟩) hS hP (fun r6 H locs wr6 hP hS => ?_)
  obtain ⟨p_1, p_2, p_3, -⟩ := wr6
  refine lv_if_eq (tgt := 30) hx hb dX11_row_9 (by decide) (fun c9 => ?_) (fun c9 => ?_)
  · have h_4 : rg 0 0 r6 := r_eq_l_i (e := 0) (f := 0) c9 p_1 (rgn 0 (x := 0) (by decide)) (by decide)
    refine lv_bipush (v := (-2)) hx hb dX11_row_30 (by decide) ?_
    exact W.iret (v := (-2)) hx hb hr (fun t ht hW => ⟨⟨(-2), (fun k => ([0] : List Int32).getD k 0, fun k => ([f1, f2] : List (Nat → Int32)).getD k (fun _ => 0), fun k => ([f3] : List (Nat → Int64)).getD k (fun _ => 0)), rfl, ⟨(rg_w (c := (-3)) (d := 0) (rgn (-2) (x := (-2)) (by decide)) (by decide)), (fun hq => absurd hq (rne (rgn (-2) (x := (-2)) (by decide)) (y := 0) (c := 0) (by decide) (by decide))), (fun hq => absurd (req (rgn (-2) (x := (-2)) (by decide)) (y := (-2)) (by decide)) hq), (fun hq => absurd hq (rne (rgn (-2) (x := (-2)) (by decide)) (y := 0) (c := 0) (by decide) (by decide))), (fun hq => absurd (req (rgn (-2) (x := (-2)) (by decide)) (y := (-2)) (by decide)) hq), (fun hq => absurd hq (rne (rgn (-2) (x := (-2)) (by decide)) (y := 0) (c := 0) (by decide) (by decide))), (fun hq => absurd (req (rgn (-2) (x := (-2)) (by decide)) (y := (-2)) (by decide)) hq), hp_f2, (rgn 0 (x := 0) (by decide)), (by show (-2) = rwA p0 p1 p2; unfold rwA; have h8 := p_3 (req h_4 (y := 0) (by decide)); (repeat' split) <;> first | rfl | (exfalso; omega)), (fun hq => absurd hq (by decide)), (fun hq => absurd hq (by decide)), (fun _ => rfl), (fun _ => rfl), trivial⟩, hp_at ht hP⟩, hS.F ht⟩) hS.2.2 dX11_row_32
  · have h_5 : rg 1 1 r6 := r_ne_lo_i c9 p_1 (by decide) (by decide)
    have h_6 : rg 0 3 p0 := (p_2 (rne h_5 (y := 0) (c := 0) (by decide) (by decide)))
    refine lv_iload_n hx hb dX11_row_12 rfl (lv_at hl 2 rfl) ?_
    refine lv_i2l hx hb dX11_row_13 rfl ?_
    refine nl_i2l (rg_t p1) (fun z13 hz13 ez13 => ?_)
    refine lv_lconst (v := 0) hx hb dX11_row_14 (by decide) ?_
    refine lv_ldc2 (own := RX11) (v := 3) hx hb hown (hts (.constantLong RX11 62 (3)) (by decide +kernel)) dX11_row_15 ?_
    refine ro_calli (va_runS (As := [.long z13, .long 0, .long 3]) (rest := []) ⟨hx, hb, hml, hown, hts⟩ (e_X11_in l G ct z13 (0 : Int64) (3 : Int64)) (va_cwS 3 hts gX11_row_X11_in rfl rfl rfl (by decide +kernel) ⟨Nat.le_of_ble_eq_true rfl, Nat.le_of_ble_eq_true rfl⟩) (ro_pre hK (hP.sub [] rfl)) rfl rfl hl.1 rfl (lv_room (Nat.le_of_ble_eq_true rfl)) dX11_row_18 ⟨Nat.zero_le _, Nat.zero_le _⟩) hS hP (fun r18 H locs wr18 hP hS => ?_)
    obtain ⟨p_7, p_8, p_9, p_10, -⟩ := wr18
    refine lv_if_eq (tgt := 30) hx hb dX11_row_21 (by decide) (fun c21 => ?_) (fun c21 => ?_)
    · have h_11 : rg 0 0 r18 := r_eq_l_i (e := 0) (f := 0) c21 p_7 (rgn 0 (x := 0) (by decide)) (by decide)
      refine lv_bipush (v := (-2)) hx hb dX11_row_30 (by decide) ?_
      exact W.iret (v := (-2)) hx hb hr (fun t ht hW => ⟨⟨(-2), (fun k => ([0] : List Int32).getD k 0, fun k => ([f1, f2] : List (Nat → Int32)).getD k (fun _ => 0), fun k => ([f3] : List (Nat → Int64)).getD k (fun _ => 0)), rfl, ⟨(rg_w (c := (-3)) (d := 0) (rgn (-2) (x := (-2)) (by decide)) (by decide)), (fun _ => h_6), (fun _ => h_6), (fun hq => absurd hq (rne (rgn (-2) (x := (-2)) (by decide)) (y := 0) (c := 0) (by decide) (by decide))), (fun hq => absurd (req (rgn (-2) (x := (-2)) (by decide)) (y := (-2)) (by decide)) hq), (fun hq => absurd hq (rne (rgn (-2) (x := (-2)) (by decide)) (y := 0) (c := 0) (by decide) (by decide))), (fun hq => absurd (req (rgn (-2) (x := (-2)) (by decide)) (y := (-2)) (by decide)) hq), hp_f2, (rgn 0 (x := 0) (by decide)), (by show (-2) = rwA p0 p1 p2; unfold rwA; have h9 := p_9 (req h_11 (y := 0) (by decide)); have := ez13; have : (0 : Int64).toInt = 0 := (by decide); have : (3 : Int64).toInt = 3 := (by decide); have := h_6; (repeat' split) <;> first | rfl | (exfalso; omega)), (fun hq => absurd hq (by decide)), (fun hq => absurd hq (by decide)), (fun _ => rfl), (fun _ => rfl), trivial⟩, hp_at ht hP⟩, hS.F ht⟩) hS.2.2 dX11_row_32
    · have h_12 : rg 1 1 r18 := r_ne_lo_i c21 p_7 (by decide) (by decide)
      have h_13 : rl 0 3 z13 := ((fun hq => in_im (p_8 hq) (rln 0 (x := 0) (by decide)) (rln 3 (x := 3) (by decide))) (rne h_12 (y := 0) (c := 0) (by decide) (by decide)))
      have h_14 : rg 0 3 p1 := bk_li (a := 0) (b := 3) ez13 h_13 (rg_t p1) (by decide)
      refine lv_iload_n hx hb dX11_row_24 rfl (lv_at hl 3 rfl) ?_
      refine lv_bipush (v := 60) hx hb dX11_row_25 (by decide) ?_
      refine lv_icmp_le (tgt := 33) hx hb dX11_row_27 (by decide) (fun c27 => ?_) (fun c27 => ?_)
      · have h_15 : rg (-2147483648) 60 p2 := r_le_l_i c27 (rg_t p2) (rgn 60 (x := 60) (by decide))
        refine lv_iload_n hx hb dX11_row_33 rfl (lv_at hl 3 rfl) ?_
        refine lv_if_ge (tgt := 40) hx hb dX11_row_34 (by decide) (fun c34 => ?_) (fun c34 => ?_)
        · have h_16 : rg 0 60 p2 := r_le_r_i c34 (rgn 0 (x := 0) (by decide)) h_15
          refine lv_aload_n hx hb dX11_row_40 rfl (lv_at hl 0 rfl) ?_
          refine va_get (D := G) (ci := 11) (v := .ref a1) (C := RX11) (T := TX11) (N := 31) hx hb hts (by decide +kernel) hown hK.1 hP 0 rfl rfl 1 (by decide) (hts (.fieldLink RX11 7 "CardHolderModel" "width" "[I") (by decide +kernel)) (fun _ h9 => h9) rfl dX11_row_41 ?_
          refine lv_iload_n hx hb dX11_row_44 rfl (lv_at hl 1 rfl) ?_
          refine lv_iload_n hx hb dX11_row_45 rfl (lv_at hl 2 rfl) ?_
          refine va_iast hx hb hK.1 hP hD hS 1 0 rfl rfl (in_rg h_6 (by decide)) dX11_row_46 (fun H locs hP hD hS => ?_)
          refine lv_aload_n hx hb dX11_row_47 rfl (lv_at hl 0 rfl) ?_
          refine va_get (D := G) (ci := 11) (v := .ref a2) (C := RX11) (T := TX11) (N := 31) hx hb hts (by decide +kernel) hown hK.1 hP 0 rfl rfl 2 (by decide) (hts (.fieldLink RX11 13 "CardHolderModel" "many" "[I") (by decide +kernel)) (fun _ h9 => h9) rfl dX11_row_48 ?_
          refine lv_iload_n hx hb dX11_row_51 rfl (lv_at hl 1 rfl) ?_
          refine lv_iload_n hx hb dX11_row_52 rfl (lv_at hl 3 rfl) ?_
          refine va_iast hx hb hK.1 hP hD hS 2 0 rfl rfl (in_rg h_6 (by decide)) dX11_row_53 (fun H locs hP hD hS => ?_)
          have h_17 : ar 0 60 (upd f2 p0.toNatClampNeg p2) := ar_u hp_f2 h_16
          refine lv_iconst (v := 0) hx hb dX11_row_54 (by decide) ?_
          refine lv_istore (lv' := [(4, .int 0), (0, .ref a0), (1, .int p0), (2, .int p1), (3, .int p2)]) hx hb dX11_row_55 hl (by decide) rfl (fun ls hl => ?_)
          have j57 : ∀ (n : Nat) (x57_4 : Int32) (f57_3 : Nat → Int64) (H : Heap) (locs : List Loc) (ls : Array Slot), 2147483648 ≤ x57_4.toInt + (n : Int) → rg 0 60 x57_4 → va_P G vwCl [(a0, .inr (11, [.int 0, .ref a1, .ref a2, .ref a3, .ref a4, .ref a5, .int n0_6, .int n0_7, .int n0_8, .int n0_9, .int n0_10, .long l0_11, .int n0_12, .int n0_13, .int n0_14, .int n0_15, .ref a6, .ref a7, .ref a8, .ref a9, .ref a10, .ref a11, .ref a12, .ref a13, .int n0_24, .int n0_25, .int n0_26, .int n0_27, .ref a14, .int n0_29, .int n0_30])), (a1, .inl (ct 0, 4, .inl (upd f1 p0.toNatClampNeg p1))), (a2, .inl (ct 0, 4, .inl (upd f2 p0.toNatClampNeg p2))), (a3, .inl (ct 3, 240, .inr (.inl f57_3)))] H → va_D A [(a0, .inr (11, [.int 0, .ref a1, .ref a2, .ref a3, .ref a4, .ref a5, .int n0_6, .int n0_7, .int n0_8, .int n0_9, .int n0_10, .long l0_11, .int n0_12, .int n0_13, .int n0_14, .int n0_15, .ref a6, .ref a7, .ref a8, .ref a9, .ref a10, .ref a11, .ref a12, .ref a13, .int n0_24, .int n0_25, .int n0_26, .int n0_27, .ref a14, .int n0_29, .int n0_30])), (a1, .inl (ct 0, 4, .inl (upd f1 p0.toNatClampNeg p1))), (a2, .inl (ct 0, 4, .inl (upd f2 p0.toNatClampNeg p2))), (a3, .inl (ct 3, 240, .inr (.inl f57_3)))] → va_S A s.heap H locs → lv_has ls 5 [(0, .ref a0), (1, .int p0), (2, .int p1), (3, .int p2), (4, .int x57_4)] → W p l e (headSpec wsX11_row ({ frames := 2, cells := 0, slots := 0, locals := 45 })).room s m ([.ref a0, .int p0, .int p1, .int p2] : List Value).toArray below meth c H locs 0 0 (MQ below (va_Qi (fun (r : Int32) (u : SU) => rg (-3) 0 r ∧ (r = 0 → rg 0 3 p0) ∧ (¬ r = (-2) → rg 0 3 p0) ∧ (r = 0 → rg 0 3 p1) ∧ (¬ r = (-2) → rg 0 3 p1) ∧ (r = 0 → rg 0 60 p2) ∧ (¬ r = (-2) → rg (-2147483648) 60 p2) ∧ ar 0 60 (u.2.1 1) ∧ rg 0 0 (u.1 0) ∧ r = rwA p0 p1 p2 ∧ (r = 0 → (u.2.1 0) = mkF f1 p0 p1) ∧ (r = 0 → (u.2.1 1) = mkF f2 p0 p2) ∧ (¬ r = 0 → (u.2.1 0) = f1) ∧ (¬ r = 0 → (u.2.1 1) = f2) ∧ True) (fun u t => va_P G vwCl ((fun u : SU => [(a0, .inr (11, [.int (u.1 0), .ref a1, .ref a2, .ref a3, .ref a4, .ref a5, .int n0_6, .int n0_7, .int n0_8, .int n0_9, .int n0_10, .long l0_11, .int n0_12, .int n0_13, .int n0_14, .int n0_15, .ref a6, .ref a7, .ref a8, .ref a9, .ref a10, .ref a11, .ref a12, .ref a13, .int n0_24, .int n0_25, .int n0_26, .int n0_27, .ref a14, .int n0_29, .int n0_30])), (a1, .inl (ct 0, 4, .inl (u.2.1 0))), (a2, .inl (ct 0, 4, .inl (u.2.1 1))), (a3, .inl (ct 3, 240, .inr (.inl (u.2.2 0))))]) u) t.heap) A) ([.ref a0, .int p0, .int p1, .int p2] : List Value).toArray s 0 0 A) (F0 m 57 ls []) := by
            intro n
            induction n with
            | zero => intro x57_4 f57_3 H locs ls hn57 hx57_4 hP hD hS hl; exact absurd hn57 (by have := Int32.toInt_lt x57_4; have := Int32.le_toInt x57_4; omega)
            | succ n ih57 =>
              intro x57_4 f57_3 H locs ls hn57 hx57_4 hP hD hS hl
              refine lv_iload hx hb dX11_row_57 (lv_at hl 4 rfl) ?_
              refine lv_iload_n hx hb dX11_row_59 rfl (lv_at hl 3 rfl) ?_
              refine lv_icmp_ge (tgt := 82) hx hb dX11_row_60 (by decide) (fun c60 => ?_) (fun c60 => ?_)
              · refine lv_iconst (v := 0) hx hb dX11_row_82 (by decide) ?_
                exact W.iret (v := 0) hx hb hr (fun t ht hW => ⟨⟨0, (fun k => ([0] : List Int32).getD k 0, fun k => ([upd f1 p0.toNatClampNeg p1, upd f2 p0.toNatClampNeg p2] : List (Nat → Int32)).getD k (fun _ => 0), fun k => ([f57_3] : List (Nat → Int64)).getD k (fun _ => 0)), rfl, ⟨(rg_w (c := (-3)) (d := 0) (rgn 0 (x := 0) (by decide)) (by decide)), (fun _ => h_6), (fun _ => h_6), (fun _ => h_14), (fun _ => h_14), (fun _ => h_16), (fun _ => (rg_w (c := (-2147483648)) (d := 60) h_16 (by decide))), h_17, (rgn 0 (x := 0) (by decide)), (by show 0 = rwA p0 p1 p2; unfold rwA; have := h_6; have := h_14; have := h_16; (repeat' split) <;> first | rfl | (exfalso; omega)), (fun _ => (show upd f1 p0.toNatClampNeg p1 = mkF f1 p0 p1 from (mf_y (by have := h_6; have := h_14; have := h_16; have := i_ne c9; have := i_ne c21; have := i_le c27; have := i_le c34; have := i_le c60; have : (0 : Int32).toInt = 0 := (by decide); have : (60 : Int32).toInt = 60 := (by decide); omega)).symm)), (fun _ => (show upd f2 p0.toNatClampNeg p2 = mkF f2 p0 p2 from (mf_y (by have := h_6; have := h_14; have := h_16; have := i_ne c9; have := i_ne c21; have := i_le c27; have := i_le c34; have := i_le c60; have : (0 : Int32).toInt = 0 := (by decide); have : (60 : Int32).toInt = 60 := (by decide); omega)).symm)), (fun hq => absurd rfl hq), (fun hq => absurd rfl hq), trivial⟩, hp_at ht hP⟩, hS.F ht⟩) hS.2.2 dX11_row_83
              · have h_18 : rg 0 59 x57_4 := r_lt_l_i (nle_i c60) hx57_4 h_16 (by decide)
                have h_19 : rg 1 60 p2 := r_lt_r_i (nle_i c60) hx57_4 h_16 (by decide)
                refine lv_aload_n hx hb dX11_row_63 rfl (lv_at hl 0 rfl) ?_
                refine va_get (D := G) (ci := 11) (v := .ref a3) (C := RX11) (T := TX11) (N := 31) hx hb hts (by decide +kernel) hown hK.1 hP 0 rfl rfl 3 (by decide) (hts (.fieldLink RX11 16 "CardHolderModel" "cells" "[J") (by decide +kernel)) (fun _ h9 => h9) rfl dX11_row_64 ?_
                refine lv_bipush (v := 60) hx hb dX11_row_67 (by decide) ?_
                refine lv_iload_n hx hb dX11_row_69 rfl (lv_at hl 1 rfl) ?_
                refine lv_imul hx hb dX11_row_70 ?_
                refine nm_mul (e1 := 0) (f := 180) (rgn 60 (x := 60) (by decide)) h_6 (by decide) (fun z70 hz70 ez70 => ?_)
                refine lv_iload hx hb dX11_row_71 (lv_at hl 4 rfl) ?_
                refine lv_iadd hx hb dX11_row_73 ?_
                refine nm_add (e1 := 0) (f := 239) hz70 h_18 (by decide) (fun z73 hz73 ez73 => ?_)
                refine lv_lconst (v := 0) hx hb dX11_row_74 (by decide) ?_
                refine va_last hx hb hK.1 hP hD hS 3 3 rfl rfl (in_rg hz73 (by decide)) dX11_row_75 (fun H locs hP hD hS => ?_)
                obtain ⟨z76, qz76⟩ : ∃ y : Int32, y = x57_4 + Int32.ofInt 1 := ⟨_, rfl⟩
                obtain ⟨hz76, ez76⟩ := inc_z (e := 1) (f := 60) h_18 qz76 (by decide)
                refine lv_iinc (v := z76) (lv' := [(4, .int z76), (0, .ref a0), (1, .int p0), (2, .int p1), (3, .int p2)]) hx hb dX11_row_76 hl (k := 4) rfl (qz76.symm) (by decide) rfl (fun ls hl => ?_)
                refine lv_goto (tgt := 57) hx hb dX11_row_79 (by decide) ?_
                exact ih57 z76 (vp_updL f57_3 z73.toNatClampNeg 0) _ _ ls (by have q := hn57; have := ez76; omega) (rg_w (c := 0) (d := 60) hz76 (by decide)) hP hD hS (lv_sub hl [1, 2, 3, 4, 0] rfl)
          exact j57 4294967296 (0 : Int32) f3 _ _ ls (ms_e (0 : Int32)) (rg_w (c := 0) (d := 60) (rgn 0 (x := 0) (by decide)) (by decide)) hP hD hS (lv_sub hl [1, 2, 3, 4, 0] rfl)
        · have h_20 : rg (-2147483648) (-1) p2 := r_lt_l_i (nle_i c34) h_15 (rgn 0 (x := 0) (by decide)) (by decide)
          refine lv_bipush (v := (-3)) hx hb dX11_row_37 (by decide) ?_
          exact W.iret (v := (-3)) hx hb hr (fun t ht hW => ⟨⟨(-3), (fun k => ([0] : List Int32).getD k 0, fun k => ([f1, f2] : List (Nat → Int32)).getD k (fun _ => 0), fun k => ([f3] : List (Nat → Int64)).getD k (fun _ => 0)), rfl, ⟨(rg_w (c := (-3)) (d := 0) (rgn (-3) (x := (-3)) (by decide)) (by decide)), (fun _ => h_6), (fun _ => h_6), (fun _ => h_14), (fun _ => h_14), (fun hq => absurd hq (rne (rgn (-3) (x := (-3)) (by decide)) (y := 0) (c := 0) (by decide) (by decide))), (fun _ => (rg_w (c := (-2147483648)) (d := 60) h_20 (by decide))), hp_f2, (rgn 0 (x := 0) (by decide)), (by show (-3) = rwA p0 p1 p2; unfold rwA; have := h_6; have := h_14; have := h_20; (repeat' split) <;> first | rfl | (exfalso; omega)), (fun hq => absurd hq (by decide)), (fun hq => absurd hq (by decide)), (fun _ => rfl), (fun _ => rfl), trivial⟩, hp_at ht hP⟩, hS.F ht⟩) hS.2.2 dX11_row_39
      · have h_21 : rg 61 2147483647 p2 := r_lt_r_i (nle_i c27) (rgn 60 (x := 60) (by decide)) (rg_t p2) (by decide)
        refine lv_bipush (v := (-2)) hx hb dX11_row_30 (by decide) ?_
        exact W.iret (v := (-2)) hx hb hr (fun t ht hW => ⟨⟨(-2), (fun k => ([0] : List Int32).getD k 0, fun k => ([f1, f2] : List (Nat → Int32)).getD k (fun _ => 0), fun k => ([f3] : List (Nat → Int64)).getD k (fun _ => 0)), rfl, ⟨(rg_w (c := (-3)) (d := 0) (rgn (-2) (x := (-2)) (by decide)) (by decide)), (fun _ => h_6), (fun _ => h_6), (fun _ => h_14), (fun _ => h_14), (fun hq => absurd hq (rne (rgn (-2) (x := (-2)) (by decide)) (y := 0) (c := 0) (by decide) (by decide))), (fun hq => absurd (req (rgn (-2) (x := (-2)) (by decide)) (y := (-2)) (by decide)) hq), hp_f2, (rgn 0 (x := 0) (by decide)), (by show (-2) = rwA p0 p1 p2; unfold rwA; have := h_6; have := h_14; have := h_21; (repeat' split) <;> first | rfl | (exfalso; omega)), (fun hq => absurd hq (by decide)), (fun hq => absurd hq (by decide)), (fun _ => rfl), (fun _ => rfl), trivial⟩, hp_at ht hP⟩, hS.F ht⟩) hS.2.2 dX11_row_32

set_option maxHeartbeats 4000000 in
set_option maxRecDepth 100000 in
theorem e_X10_write (l : Launch) (G : va_G) (ct : Nat → ClassId) (a0 : Nat) (a1 : Nat) (a3 : Nat) (a11 : Nat) (a25 : Nat) (a68 : Nat) (a69 : Nat) (a77 : Nat) (a82 : Nat) (a84 : Nat) (a88 : Nat) (a91 : Nat) (a70 : Nat) (a75 : Nat) (a76 : Nat) (n69_3 : Int32) (rr : Nat → Nat) (f71 : Nat → Int64) (f72 : Nat → Int64) (f73 : Nat → Int64) (f74 : Nat → Int64) (f75 : Nat → Int32) (f76 : Nat → Int32) (p0 : Int32) (p1 : Int32) (p2 : Int64) (hp_f76 : ar 0 60 f76) : Met l yX10_write wsX10_write ({ frames := 4, cells := 0, slots := 0, locals := 89 }) (va_Pc [.ref a0, .int p0, .int p1, .long p2] (wrP G ct [(a0, .inr (10, [.ref a1, .ref a3, .ref a11, .ref a25, .ref a68, .ref a69, .ref a77, .ref a82, .ref a84, .ref a88, .ref a91])), (a69, .inr (6, [.ref a70, .ref a75, .ref a76, .int n69_3])), (a70, .inl (ct 5, 4, .inr (.inr (.inr (.inr (fun i => if i < 4 then some (rr i) else none)))))), ((rr 0), .inl (ct 3, 60, .inr (.inl f71))), ((rr 1), .inl (ct 3, 60, .inr (.inl f72))), ((rr 2), .inl (ct 3, 60, .inr (.inl f73))), ((rr 3), .inl (ct 3, 60, .inr (.inl f74))), (a75, .inl (ct 0, 4, .inl f75)), (a76, .inl (ct 0, 4, .inl f76))])) (va_Qi (fun (r : Int32) (u : SU) => rg (-7) 0 r ∧ (r = 0 → rg 0 3 p0) ∧ (¬ r = (-2) → rg 0 3 p0) ∧ (r = 0 → rg 0 60 p1) ∧ r = wrA p0 p1 (decide (btA n69_3 p0 = 1)) (f76 p0.toNatClampNeg).toInt ∧ True) (fun u t => va_P G vwCl ((fun u : SU => [(a0, .inr (10, [.ref a1, .ref a3, .ref a11, .ref a25, .ref a68, .ref a69, .ref a77, .ref a82, .ref a84, .ref a88, .ref a91])), (a69, .inr (6, [.ref a70, .ref a75, .ref a76, .int n69_3])), (a70, .inl (ct 5, 4, .inr (.inr (.inr (.inr (fun i => if i < 4 then some (rr i) else none)))))), ((rr 0), .inl (ct 3, 60, .inr (.inl (u.2.2 0)))), ((rr 1), .inl (ct 3, 60, .inr (.inl (u.2.2 1)))), ((rr 2), .inl (ct 3, 60, .inr (.inl (u.2.2 2)))), ((rr 3), .inl (ct 3, 60, .inr (.inl (u.2.2 3)))), (a75, .inl (ct 0, 4, .inl f75)), (a76, .inl (ct 0, 4, .inl f76))]) u) t.heap) (aset [(a0, .inr (10, [.ref a1, .ref a3, .ref a11, .ref a25, .ref a68, .ref a69, .ref a77, .ref a82, .ref a84, .ref a88, .ref a91])), (a69, .inr (6, [.ref a70, .ref a75, .ref a76, .int n69_3])), (a70, .inl (ct 5, 4, .inr (.inr (.inr (.inr (fun i => if i < 4 then some (rr i) else none)))))), ((rr 0), .inl (ct 3, 60, .inr (.inl f71))), ((rr 1), .inl (ct 3, 60, .inr (.inl f72))), ((rr 2), .inl (ct 3, 60, .inr (.inl f73))), ((rr 3), .inl (ct 3, 60, .inr (.inl f74))), (a75, .inl (ct 0, 4, .inl f75)), (a76, .inl (ct 0, 4, .inl f76))])) 0 0 (aset [(a0, .inr (10, [.ref a1, .ref a3, .ref a11, .ref a25, .ref a68, .ref a69, .ref a77, .ref a82, .ref a84, .ref a88, .ref a91])), (a69, .inr (6, [.ref a70, .ref a75, .ref a76, .int n69_3])), (a70, .inl (ct 5, 4, .inr (.inr (.inr (.inr (fun i => if i < 4 then some (rr i) else none)))))), ((rr 0), .inl (ct 3, 60, .inr (.inl f71))), ((rr 1), .inl (ct 3, 60, .inr (.inl f72))), ((rr 2), .inl (ct 3, 60, .inr (.inl f73))), ((rr 3), .inl (ct 3, 60, .inr (.inl f74))), (a75, .inl (ct 0, 4, .inl f75)), (a76, .inl (ct 0, 4, .inl f76))]) := by
  refine Met.ofW (cc := cX10_write) (maxL := 5) (ret := (some .int)) (by decide) rfl ?_
  intro p e s m args below meth c s₁ B hml hv
  obtain ⟨rfl, hP, hK, hD0⟩ := hv
  have hx := B.exec
  have hb := B.bytes
  have hr := B.returns
  have hts := atoms_spec (ws := wsX10_write) B.pre
  have hown : s.vm.findClass RX10 = some m.cls := findClass_of_methodNamed B.named
  have hlocks := B.notSynchronized
  have hD := hD0.aself
  generalize hAe : aset [(a0, .inr (10, [.ref a1, .ref a3, .ref a11, .ref a25, .ref a68, .ref a69, .ref a77, .ref a82, .ref a84, .ref a88, .ref a91])), (a69, .inr (6, [.ref a70, .ref a75, .ref a76, .int n69_3])), (a70, .inl (ct 5, 4, .inr (.inr (.inr (.inr (fun i => if i < 4 then some (rr i) else none)))))), ((rr 0), .inl (ct 3, 60, .inr (.inl f71))), ((rr 1), .inl (ct 3, 60, .inr (.inl f72))), ((rr 2), .inl (ct 3, 60, .inr (.inl f73))), ((rr 3), .inl (ct 3, 60, .inr (.inl f74))), (a75, .inl (ct 0, 4, .inl f75)), (a76, .inl (ct 0, 4, .inl f76))] = A at hD ⊢
  have hS : va_S A s.heap s.heap [] := va_S.rf
  have hl := lv_entry ([.ref a0, .int p0, .int p1, .long p2]) (n := 5) (Nat.le_of_ble_eq_true rfl)
  rw [lg_entry_eq]
  generalize (lg_sl ([.ref a0, .int p0, .int p1, .long p2]) ++ List.replicate (5 - (lg_sl ([.ref a0, .int p0, .int p1, .long p2])).length) Slot.unset).toArray = ls at hl ⊢
  have hl : lv_has ls 5 [(0, .ref a0), (1, .int p0), (2, .int p1), (3, .long p2)] := hl
  refine lv_aload_n hx hb dX10_write_0 rfl (lv_at hl 0 rfl) ?_
  refine va_get (D := G) (ci := 10) (v := .ref a69) (C := RX10) (T := TX10) (N := 11) hx hb hts (by decide +kernel) hown hK.1 hP 0 rfl rfl 5 (by decide) (hts (.fieldLink RX10 43 "CardHolder" "rows" "LCardHolder$Rows;") (by decide +kernel)) (fun _ h9 => h9) rfl dX10_write_1 ?_
  refine lv_iload_n hx hb dX10_write_4 rfl (lv_at hl 1 rfl) ?_
  refine ro_calli (va_runV (As := [.int p0]) (rest := []) ⟨hx, hb, hml, hown, hts⟩ (e_X6_isSlot l G ct a69 a70 a75 a76 n69_3 p0) (cwV 1 hts gX10_write_X6_isSlot rfl rfl rfl (by decide +kernel) ⟨Nat.le_of_ble_eq_true rfl, Nat.le_of_ble_eq_true rfl⟩) (ro_preV 6 0 hK (hP.sub [1] rfl) rfl rfl) rfl rfl hl.1 rfl (lv_room (Nat.le_of_ble_eq_true rfl)) dX10_write_5 ⟨Nat.zero_le _, Nat.zero_le _⟩) hS hP (fun r5 H locs wr5 hP hS => ?_)
  obtain ⟨p_1, p_2, p_3, -⟩ := wr5
  refine lv_if_ne (tgt := 14) hx hb dX10_write_8 (by decide) (fun c8 => ?_) (fun c8 => ?_)
  · have h_4 : rg 1 1 r5 := r_ne_lo_i c8 p_1 (by decide) (by decide)
    have h_5 : rg 0 3 p0 := (p_2 (rne h_4 (y := 0) (c := 0) (by decide) (by decide)))
    refine lv_aload_n hx hb dX10_write_14 rfl (lv_at hl 0 rfl) ?_
    refine va_get (D := G) (ci := 10) (v := .ref a69) (C := RX10) (T := TX10) (N := 11) hx hb hts (by decide +kernel) hown hK.1 hP 0 rfl rfl 5 (by decide) (hts (.fieldLink RX10 43 "CardHolder" "rows" "LCardHolder$Rows;") (by decide +kernel)) (fun _ h9 => h9) rfl dX10_write_15 ?_
    refine lv_iload_n hx hb dX10_write_18 rfl (lv_at hl 1 rfl) ?_
    refine ro_calli (va_runV (As := [.int p0]) (rest := []) ⟨hx, hb, hml, hown, hts⟩ (e_X6_isKept l G ct a69 a70 a75 a76 n69_3 p0) (cwV 1 hts gX10_write_X6_isKept rfl rfl rfl (by decide +kernel) ⟨Nat.le_of_ble_eq_true rfl, Nat.le_of_ble_eq_true rfl⟩) (ro_preV 6 0 hK (hP.sub [1] rfl) rfl rfl) rfl rfl hl.1 rfl (lv_room (Nat.le_of_ble_eq_true rfl)) dX10_write_19 ⟨Nat.zero_le _, Nat.zero_le _⟩) hS hP (fun r19 H locs wr19 hP hS => ?_)
    obtain ⟨p_6, p_7, p_8, p_9, -⟩ := wr19
    refine lv_if_ne (tgt := 28) hx hb dX10_write_22 (by decide) (fun c22 => ?_) (fun c22 => ?_)
    · have h_10 : rg 1 1 r19 := r_ne_lo_i c22 p_6 (by decide) (by decide)
      refine lv_aload_n hx hb dX10_write_28 rfl (lv_at hl 0 rfl) ?_
      refine va_get (D := G) (ci := 10) (v := .ref a69) (C := RX10) (T := TX10) (N := 11) hx hb hts (by decide +kernel) hown hK.1 hP 0 rfl rfl 5 (by decide) (hts (.fieldLink RX10 43 "CardHolder" "rows" "LCardHolder$Rows;") (by decide +kernel)) (fun _ h9 => h9) rfl dX10_write_29 ?_
      refine lv_iload_n hx hb dX10_write_32 rfl (lv_at hl 1 rfl) ?_
      refine lv_iload_n hx hb dX10_write_33 rfl (lv_at hl 2 rfl) ?_
      refine lv_iconst (v := 1) hx hb dX10_write_34 (by decide) ?_
      refine ro_calli (va_runV (As := [.int p0, .int p1, .int 1]) (rest := []) ⟨hx, hb, hml, hown, hts⟩ (e_X6_hasPlaces l G ct a69 a70 a75 a76 n69_3 f76 p0 p1 (1 : Int32) hp_f76) (cwV 3 hts gX10_write_X6_hasPlaces rfl rfl rfl (by decide +kernel) ⟨Nat.le_of_ble_eq_true rfl, Nat.le_of_ble_eq_true rfl⟩) (ro_preV 6 0 hK (hP.sub [1, 8] rfl) rfl rfl) rfl rfl hl.1 rfl (lv_room (Nat.le_of_ble_eq_true rfl)) dX10_write_35 ⟨Nat.zero_le _, Nat.zero_le _⟩) hS hP (fun r35 H locs wr35 hP hS => ?_)
      obtain ⟨p_11, p_12, p_13, p_14, p_15, p_16, -⟩ := wr35
      refine lv_if_ne (tgt := 44) hx hb dX10_write_38 (by decide) (fun c38 => ?_) (fun c38 => ?_)
      · have h_17 : rg 1 1 r35 := r_ne_lo_i c38 p_11 (by decide) (by decide)
        have h_18 : rg 0 60 p1 := (p_12 (rne h_17 (y := 0) (c := 0) (by decide) (by decide)))
        refine lv_aload_n hx hb dX10_write_44 rfl (lv_at hl 0 rfl) ?_
        refine va_get (D := G) (ci := 10) (v := .ref a69) (C := RX10) (T := TX10) (N := 11) hx hb hts (by decide +kernel) hown hK.1 hP 0 rfl rfl 5 (by decide) (hts (.fieldLink RX10 43 "CardHolder" "rows" "LCardHolder$Rows;") (by decide +kernel)) (fun _ h9 => h9) rfl dX10_write_45 ?_
        refine lv_iload_n hx hb dX10_write_48 rfl (lv_at hl 1 rfl) ?_
        refine lv_iload_n hx hb dX10_write_49 rfl (lv_at hl 2 rfl) ?_
        refine lv_lload_n hx hb dX10_write_50 rfl (lv_at hl 3 rfl) ?_
        refine wj_callv (wr := [(a0, .inr (10, [.ref a1, .ref a3, .ref a11, .ref a25, .ref a68, .ref a69, .ref a77, .ref a82, .ref a84, .ref a88, .ref a91]))]) (w1 := (fun u : SU => [(a69, .inr (6, [.ref a70, .ref a75, .ref a76, .int n69_3])), (a70, .inl (ct 5, 4, .inr (.inr (.inr (.inr (fun i => if i < 4 then some (rr i) else none)))))), ((rr 0), .inl (ct 3, 60, .inr (.inl (u.2.2 0)))), ((rr 1), .inl (ct 3, 60, .inr (.inl (u.2.2 1)))), ((rr 2), .inl (ct 3, 60, .inr (.inl (u.2.2 2)))), ((rr 3), .inl (ct 3, 60, .inr (.inl (u.2.2 3)))), (a75, .inl (ct 0, 4, .inl f75)), (a76, .inl (ct 0, 4, .inl f76))])) (va_runV (As := [.int p0, .int p1, .long p2]) (rest := []) ⟨hx, hb, hml, hown, hts⟩ (a_X6_set l G ct a69 a70 a75 a76 n69_3 rr f71 f72 f73 f74 f75 f76 p0 p1 p2 hp_f76) (cwV 3 hts gX10_write_X6_set rfl rfl rfl (by decide +kernel) ⟨Nat.le_of_ble_eq_true rfl, Nat.le_of_ble_eq_true rfl⟩) (wr_preV 6 0 hK (hP.sub [1, 2, 3, 4, 5, 6, 7, 8] rfl) (hD.sub [1, 2, 3, 4, 5, 6, 7, 8] (by decide) rfl) rfl rfl) rfl rfl hl.1 rfl (lv_room (Nat.le_of_ble_eq_true rfl)) dX10_write_51 ⟨Nat.zero_le _, Nat.zero_le _⟩) hS hP hD [1, 2, 3, 4, 5, 6, 7, 8] [0] rfl rfl (by decide) (fun _ => rfl) (fun ur51 H locs wr51 hP hD hS => ?_)
        have hP : va_P G vwCl [(a0, .inr (10, [.ref a1, .ref a3, .ref a11, .ref a25, .ref a68, .ref a69, .ref a77, .ref a82, .ref a84, .ref a88, .ref a91])), (a69, .inr (6, [.ref a70, .ref a75, .ref a76, .int n69_3])), (a70, .inl (ct 5, 4, .inr (.inr (.inr (.inr (fun i => if i < 4 then some (rr i) else none)))))), ((rr 0), .inl (ct 3, 60, .inr (.inl (ur51.2.2 0)))), ((rr 1), .inl (ct 3, 60, .inr (.inl (ur51.2.2 1)))), ((rr 2), .inl (ct 3, 60, .inr (.inl (ur51.2.2 2)))), ((rr 3), .inl (ct 3, 60, .inr (.inl (ur51.2.2 3)))), (a75, .inl (ct 0, 4, .inl f75)), (a76, .inl (ct 0, 4, .inl f76))] H := hP.sub [0, 1, 2, 3, 4, 5, 6, 7, 8] rfl
        have hD : va_D A [(a0, .inr (10, [.ref a1, .ref a3, .ref a11, .ref a25, .ref a68, .ref a69, .ref a77, .ref a82, .ref a84, .ref a88, .ref a91])), (a69, .inr (6, [.ref a70, .ref a75, .ref a76, .int n69_3])), (a70, .inl (ct 5, 4, .inr (.inr (.inr (.inr (fun i => if i < 4 then some (rr i) else none)))))), ((rr 0), .inl (ct 3, 60, .inr (.inl (ur51.2.2 0)))), ((rr 1), .inl (ct 3, 60, .inr (.inl (ur51.2.2 1)))), ((rr 2), .inl (ct 3, 60, .inr (.inl (ur51.2.2 2)))), ((rr 3), .inl (ct 3, 60, .inr (.inl (ur51.2.2 3)))), (a75, .inl (ct 0, 4, .inl f75)), (a76, .inl (ct 0, 4, .inl f76))] := hD.sub [0, 1, 2, 3, 4, 5, 6, 7, 8] (by decide) rfl
        refine lv_iconst (v := 0) hx hb dX10_write_54 (by decide) ?_
        exact W.iret (v := 0) hx hb hr (fun t ht hW => ⟨⟨0, (fun k => ([] : List Int32).getD k 0, fun k => ([] : List (Nat → Int32)).getD k (fun _ => 0), fun k => ([ur51.2.2 0, ur51.2.2 1, ur51.2.2 2, ur51.2.2 3] : List (Nat → Int64)).getD k (fun _ => 0)), rfl, ⟨(rg_w (c := (-7)) (d := 0) (rgn 0 (x := 0) (by decide)) (by decide)), (fun _ => h_5), (fun _ => h_5), (fun _ => h_18), (wr_0 (by have := h_5; have := h_18; have := i_ne c8; have := i_ne c22; have := i_ne c38; have : (0 : Int32).toInt = 0 := (by decide); omega) (decide_eq_true (p_8 (rne h_10 (y := 0) (c := 0) (by decide) (by decide)))) (by have := (p_15 (rne h_17 (y := 0) (c := 0) (by decide) (by decide))); have := h_5; have := h_18; have := i_ne c8; have := i_ne c22; have := i_ne c38; have : (0 : Int32).toInt = 0 := (by decide); have hsp0 := congrArg Int32.toInt (sz_y (f := f76) (p := p0) (by have := h_5; have := h_18; have := i_ne c8; have := i_ne c22; have := i_ne c38; have : (0 : Int32).toInt = 0 := (by decide); omega)); have : (1 : Int32).toInt = 1 := (by decide); omega)), trivial⟩, hp_at ht hP⟩, hS.F ht⟩) hS.2.2 dX10_write_55
      · have h_19 : rg 0 0 r35 := r_eq_l_i (e := 0) (f := 0) c38 p_11 (rgn 0 (x := 0) (by decide)) (by decide)
        refine lv_bipush (v := (-7)) hx hb dX10_write_41 (by decide) ?_
        exact W.iret (v := (-7)) hx hb hr (fun t ht hW => ⟨⟨(-7), (fun k => ([] : List Int32).getD k 0, fun k => ([] : List (Nat → Int32)).getD k (fun _ => 0), fun k => ([f71, f72, f73, f74] : List (Nat → Int64)).getD k (fun _ => 0)), rfl, ⟨(rg_w (c := (-7)) (d := 0) (rgn (-7) (x := (-7)) (by decide)) (by decide)), (fun _ => h_5), (fun _ => h_5), (fun hq => absurd hq (rne (rgn (-7) (x := (-7)) (by decide)) (y := 0) (c := 0) (by decide) (by decide))), (wr_7 (by have := h_5; have := i_ne c8; have := i_ne c22; have := congrArg Int32.toInt c38; have : (0 : Int32).toInt = 0 := (by decide); omega) (decide_eq_true (p_8 (rne h_10 (y := 0) (c := 0) (by decide) (by decide)))) (by have := (p_16 (req h_19 (y := 0) (by decide))); have := h_5; have := i_ne c8; have := i_ne c22; have := congrArg Int32.toInt c38; have : (0 : Int32).toInt = 0 := (by decide); have hsp0 := congrArg Int32.toInt (sz_y (f := f76) (p := p0) (by have := h_5; have := i_ne c8; have := i_ne c22; have := congrArg Int32.toInt c38; have : (0 : Int32).toInt = 0 := (by decide); omega)); have : (1 : Int32).toInt = 1 := (by decide); omega)), trivial⟩, hp_at ht hP⟩, hS.F ht⟩) hS.2.2 dX10_write_43
    · have h_20 : rg 0 0 r19 := r_eq_l_i (e := 0) (f := 0) c22 p_6 (rgn 0 (x := 0) (by decide)) (by decide)
      refine lv_bipush (v := (-6)) hx hb dX10_write_25 (by decide) ?_
      exact W.iret (v := (-6)) hx hb hr (fun t ht hW => ⟨⟨(-6), (fun k => ([] : List Int32).getD k 0, fun k => ([] : List (Nat → Int32)).getD k (fun _ => 0), fun k => ([f71, f72, f73, f74] : List (Nat → Int64)).getD k (fun _ => 0)), rfl, ⟨(rg_w (c := (-7)) (d := 0) (rgn (-6) (x := (-6)) (by decide)) (by decide)), (fun _ => h_5), (fun _ => h_5), (fun hq => absurd hq (rne (rgn (-6) (x := (-6)) (by decide)) (y := 0) (c := 0) (by decide) (by decide))), (wr_6 (by have := h_5; have := i_ne c8; have := congrArg Int32.toInt c22; have : (0 : Int32).toInt = 0 := (by decide); omega) (fun hq => (p_9 (req h_20 (y := 0) (by decide))).elim (fun hz => by have := h_5; have := i_ne c8; have := congrArg Int32.toInt c22; have : (0 : Int32).toInt = 0 := (by decide); omega) (fun hz => hz (of_decide_eq_true hq)))), trivial⟩, hp_at ht hP⟩, hS.F ht⟩) hS.2.2 dX10_write_27
  · have h_21 : rg 0 0 r5 := r_eq_l_i (e := 0) (f := 0) c8 p_1 (rgn 0 (x := 0) (by decide)) (by decide)
    refine lv_bipush (v := (-2)) hx hb dX10_write_11 (by decide) ?_
    exact W.iret (v := (-2)) hx hb hr (fun t ht hW => ⟨⟨(-2), (fun k => ([] : List Int32).getD k 0, fun k => ([] : List (Nat → Int32)).getD k (fun _ => 0), fun k => ([f71, f72, f73, f74] : List (Nat → Int64)).getD k (fun _ => 0)), rfl, ⟨(rg_w (c := (-7)) (d := 0) (rgn (-2) (x := (-2)) (by decide)) (by decide)), (fun hq => absurd hq (rne (rgn (-2) (x := (-2)) (by decide)) (y := 0) (c := 0) (by decide) (by decide))), (fun hq => absurd (req (rgn (-2) (x := (-2)) (by decide)) (y := (-2)) (by decide)) hq), (fun hq => absurd hq (rne (rgn (-2) (x := (-2)) (by decide)) (y := 0) (c := 0) (by decide) (by decide))), (wr_2 (by have := (p_3 (req h_21 (y := 0) (by decide))); have := congrArg Int32.toInt c8; have : (0 : Int32).toInt = 0 := (by decide); omega)), trivial⟩, hp_at ht hP⟩, hS.F ht⟩) hS.2.2 dX10_write_13

set_option maxHeartbeats 4000000 in
set_option maxRecDepth 100000 in
theorem e_X11_write (l : Launch) (G : va_G) (ct : Nat → ClassId) (a0 : Nat) (n0_0 : Int32) (a1 : Nat) (a2 : Nat) (a3 : Nat) (a4 : Nat) (a5 : Nat) (n0_6 : Int32) (n0_7 : Int32) (n0_8 : Int32) (n0_9 : Int32) (n0_10 : Int32) (l0_11 : Int64) (n0_12 : Int32) (n0_13 : Int32) (n0_14 : Int32) (n0_15 : Int32) (a6 : Nat) (a7 : Nat) (a8 : Nat) (a9 : Nat) (a10 : Nat) (a11 : Nat) (a12 : Nat) (a13 : Nat) (n0_24 : Int32) (n0_25 : Int32) (n0_26 : Int32) (n0_27 : Int32) (a14 : Nat) (n0_29 : Int32) (n0_30 : Int32) (f1 : Nat → Int32) (f2 : Nat → Int32) (f3 : Nat → Int64) (p0 : Int32) (p1 : Int32) (p2 : Int64) (hp_f2 : ar 0 60 f2) (hp_n0_6 : rg 0 900 n0_6) : Met l yX11_write wsX11_write ({ frames := 2, cells := 0, slots := 0, locals := 45 }) (va_Pc [.ref a0, .int p0, .int p1, .long p2] (wrP G ct [(a0, .inr (11, [.int n0_0, .ref a1, .ref a2, .ref a3, .ref a4, .ref a5, .int n0_6, .int n0_7, .int n0_8, .int n0_9, .int n0_10, .long l0_11, .int n0_12, .int n0_13, .int n0_14, .int n0_15, .ref a6, .ref a7, .ref a8, .ref a9, .ref a10, .ref a11, .ref a12, .ref a13, .int n0_24, .int n0_25, .int n0_26, .int n0_27, .ref a14, .int n0_29, .int n0_30])), (a1, .inl (ct 0, 4, .inl f1)), (a2, .inl (ct 0, 4, .inl f2)), (a3, .inl (ct 3, 240, .inr (.inl f3)))])) (va_Qi (fun (r : Int32) (u : SU) => rg (-7) 0 r ∧ (r = 0 → rg 0 3 p0) ∧ (¬ r = (-2) → rg 0 3 p0) ∧ (r = 0 → rg 0 59 p1) ∧ rg 0 0 (u.1 0) ∧ r = wrA p0 p1 (decide (¬ f1 p0.toNatClampNeg = -1)) (f2 p0.toNatClampNeg).toInt ∧ True) (fun u t => va_P G vwCl ((fun u : SU => [(a0, .inr (11, [.int (u.1 0), .ref a1, .ref a2, .ref a3, .ref a4, .ref a5, .int n0_6, .int n0_7, .int n0_8, .int n0_9, .int n0_10, .long l0_11, .int n0_12, .int n0_13, .int n0_14, .int n0_15, .ref a6, .ref a7, .ref a8, .ref a9, .ref a10, .ref a11, .ref a12, .ref a13, .int n0_24, .int n0_25, .int n0_26, .int n0_27, .ref a14, .int n0_29, .int n0_30])), (a1, .inl (ct 0, 4, .inl f1)), (a2, .inl (ct 0, 4, .inl f2)), (a3, .inl (ct 3, 240, .inr (.inl (u.2.2 0))))]) u) t.heap) (aset [(a0, .inr (11, [.int n0_0, .ref a1, .ref a2, .ref a3, .ref a4, .ref a5, .int n0_6, .int n0_7, .int n0_8, .int n0_9, .int n0_10, .long l0_11, .int n0_12, .int n0_13, .int n0_14, .int n0_15, .ref a6, .ref a7, .ref a8, .ref a9, .ref a10, .ref a11, .ref a12, .ref a13, .int n0_24, .int n0_25, .int n0_26, .int n0_27, .ref a14, .int n0_29, .int n0_30])), (a1, .inl (ct 0, 4, .inl f1)), (a2, .inl (ct 0, 4, .inl f2)), (a3, .inl (ct 3, 240, .inr (.inl f3)))])) 0 0 (aset [(a0, .inr (11, [.int n0_0, .ref a1, .ref a2, .ref a3, .ref a4, .ref a5, .int n0_6, .int n0_7, .int n0_8, .int n0_9, .int n0_10, .long l0_11, .int n0_12, .int n0_13, .int n0_14, .int n0_15, .ref a6, .ref a7, .ref a8, .ref a9, .ref a10, .ref a11, .ref a12, .ref a13, .int n0_24, .int n0_25, .int n0_26, .int n0_27, .ref a14, .int n0_29, .int n0_30])), (a1, .inl (ct 0, 4, .inl f1)), (a2, .inl (ct 0, 4, .inl f2)), (a3, .inl (ct 3, 240, .inr (.inl f3)))]) := by
  refine Met.ofW (cc := cX11_write) (maxL := 5) (ret := (some .int)) (by decide) rfl ?_
  intro p e s m args below meth c s₁ B hml hv
  obtain ⟨rfl, hP, hK, hD0⟩ := hv
  have hx := B.exec
  have hb := B.bytes
  have hr := B.returns
  have hts := atoms_spec (ws := wsX11_write) B.pre
  have hown : s.vm.findClass RX11 = some m.cls := findClass_of_methodNamed B.named
  have hlocks := B.notSynchronized
  have hD := hD0.aself
  generalize hAe : aset [(a0, .inr (11, [.int n0_0, .ref a1, .ref a2, .ref a3, .ref a4, .ref a5, .int n0_6, .int n0_7, .int n0_8, .int n0_9, .int n0_10, .long l0_11, .int n0_12, .int n0_13, .int n0_14, .int n0_15, .ref a6, .ref a7, .ref a8, .ref a9, .ref a10, .ref a11, .ref a12, .ref a13, .int n0_24, .int n0_25, .int n0_26, .int n0_27, .ref a14, .int n0_29, .int n0_30])), (a1, .inl (ct 0, 4, .inl f1)), (a2, .inl (ct 0, 4, .inl f2)), (a3, .inl (ct 3, 240, .inr (.inl f3)))] = A at hD ⊢
  have hS : va_S A s.heap s.heap [] := va_S.rf
  have hl := lv_entry ([.ref a0, .int p0, .int p1, .long p2]) (n := 5) (Nat.le_of_ble_eq_true rfl)
  rw [lg_entry_eq]
  generalize (lg_sl ([.ref a0, .int p0, .int p1, .long p2]) ++ List.replicate (5 - (lg_sl ([.ref a0, .int p0, .int p1, .long p2])).length) Slot.unset).toArray = ls at hl ⊢
  have hl : lv_has ls 5 [(0, .ref a0), (1, .int p0), (2, .int p1), (3, .long p2)] := hl
  refine lv_aload_n hx hb dX11_write_0 rfl (lv_at hl 0 rfl) ?_
  refine lv_iconst (v := 0) hx hb dX11_write_1 (by decide) ?_
  refine va_put (D := G) (ci := 11) (v := .int 0) (ty := .int) (C := RX11) (T := TX11) (N := 31) hx hb hts (by decide +kernel) tyX11 tyX11_ok nmX11 hown hK.1 hP hD hS 0 rfl rfl 0 (by decide) (hts (.fieldLink RX11 59 "CardHolderModel" "thrown" "I") (by decide +kernel)) (fun _ h9 => h9) rfl (by decide +kernel) rfl rfl (Nat.le_of_ble_eq_true rfl) dX11_write_2 (fun H locs hP hD hS => ?_)
  refine lv_iload_n hx hb dX11_write_5 rfl (lv_at hl 1 rfl) ?_
  refine ro_calli (va_runS (As := [.int p0]) (rest := []) ⟨hx, hb, hml, hown, hts⟩ (e_X11_isSlot l G ct p0) (va_cwS 1 hts gX11_write_X11_isSlot rfl rfl rfl (by decide +kernel) ⟨Nat.le_of_ble_eq_true rfl, Nat.le_of_ble_eq_true rfl⟩) (ro_pre hK (hP.sub [] rfl)) rfl rfl hl.1 rfl (lv_room (Nat.le_of_ble_eq_true rfl)) dX11_write_6 ⟨Nat.zero_le _, Nat.zero_le _⟩) hS hP (fun r6 H locs wr6 hP hS => ?_)
  obtain ⟨p_1, p_2, p_3, -⟩ := wr6
  refine lv_if_ne (tgt := 15) hx hb dX11_write_9 (by decide) (fun c9 => ?_) (fun c9 => ?_)
  · have h_4 : rg 1 1 r6 := r_ne_lo_i c9 p_1 (by decide) (by decide)
    have h_5 : rg 0 3 p0 := (p_2 (rne h_4 (y := 0) (c := 0) (by decide) (by decide)))
    refine lv_aload_n hx hb dX11_write_15 rfl (lv_at hl 0 rfl) ?_
    refine va_get (D := G) (ci := 11) (v := .ref a1) (C := RX11) (T := TX11) (N := 31) hx hb hts (by decide +kernel) hown hK.1 hP 0 rfl rfl 1 (by decide) (hts (.fieldLink RX11 7 "CardHolderModel" "width" "[I") (by decide +kernel)) (fun _ h9 => h9) rfl dX11_write_16 ?_
    refine lv_iload_n hx hb dX11_write_19 rfl (lv_at hl 1 rfl) ?_
    refine va_iald hx hb hK.1 hP 1 0 rfl rfl (in_rg h_5 (by decide)) dX11_write_20 ?_
    refine lv_topi (fun z20 gz20 => ?_)
    refine lv_iconst (v := (-1)) hx hb dX11_write_21 (by decide) ?_
    refine lv_icmp_ne (tgt := 28) hx hb dX11_write_22 (by decide) (fun c22 => ?_) (fun c22 => ?_)
    · refine lv_iload_n hx hb dX11_write_28 rfl (lv_at hl 2 rfl) ?_
      refine lv_i2l hx hb dX11_write_29 rfl ?_
      refine nl_i2l (rg_t p1) (fun z29 hz29 ez29 => ?_)
      refine lv_lconst (v := 0) hx hb dX11_write_30 (by decide) ?_
      refine lv_aload_n hx hb dX11_write_31 rfl (lv_at hl 0 rfl) ?_
      refine va_get (D := G) (ci := 11) (v := .ref a2) (C := RX11) (T := TX11) (N := 31) hx hb hts (by decide +kernel) hown hK.1 hP 0 rfl rfl 2 (by decide) (hts (.fieldLink RX11 13 "CardHolderModel" "many" "[I") (by decide +kernel)) (fun _ h9 => h9) rfl dX11_write_32 ?_
      refine lv_iload_n hx hb dX11_write_35 rfl (lv_at hl 1 rfl) ?_
      refine va_iald hx hb hK.1 hP 2 0 rfl rfl (in_rg h_5 (by decide)) dX11_write_36 ?_
      refine lv_topi (fun z36 gz36 => ?_)
      have hz36 : rg 0 60 z36 := by rw [gz36]; exact hp_f2 _
      refine lv_iconst (v := 1) hx hb dX11_write_37 (by decide) ?_
      refine lv_isub hx hb dX11_write_38 ?_
      refine nm_sub (e1 := (-1)) (f := 59) hz36 (rgn 1 (x := 1) (by decide)) (by decide) (fun z38 hz38 ez38 => ?_)
      replace ez38 := eqc_s ez38 (c := (-1)) (by decide)
      refine lv_i2l hx hb dX11_write_39 rfl ?_
      refine nl_i2l hz38 (fun z39 hz39 ez39 => ?_)
      refine ro_calli (va_runS (As := [.long z29, .long 0, .long z39]) (rest := []) ⟨hx, hb, hml, hown, hts⟩ (e_X11_in l G ct z29 (0 : Int64) z39) (va_cwS 3 hts gX11_write_X11_in rfl rfl rfl (by decide +kernel) ⟨Nat.le_of_ble_eq_true rfl, Nat.le_of_ble_eq_true rfl⟩) (ro_pre hK (hP.sub [] rfl)) rfl rfl hl.1 rfl (lv_room (Nat.le_of_ble_eq_true rfl)) dX11_write_40 ⟨Nat.zero_le _, Nat.zero_le _⟩) hS hP (fun r40 H locs wr40 hP hS => ?_)
      obtain ⟨p_6, p_7, p_8, p_9, -⟩ := wr40
      refine lv_if_ne (tgt := 49) hx hb dX11_write_43 (by decide) (fun c43 => ?_) (fun c43 => ?_)
      · have h_10 : rg 1 1 r40 := r_ne_lo_i c43 p_6 (by decide) (by decide)
        have h_11 : rl 0 59 z29 := ((fun hq => in_im (p_7 hq) (rln 0 (x := 0) (by decide)) hz39) (rne h_10 (y := 0) (c := 0) (by decide) (by decide)))
        have h_12 : rg 0 59 p1 := bk_li (a := 0) (b := 59) ez29 h_11 (rg_t p1) (by decide)
        refine lv_aload_n hx hb dX11_write_49 rfl (lv_at hl 0 rfl) ?_
        refine va_get (D := G) (ci := 11) (v := .ref a3) (C := RX11) (T := TX11) (N := 31) hx hb hts (by decide +kernel) hown hK.1 hP 0 rfl rfl 3 (by decide) (hts (.fieldLink RX11 16 "CardHolderModel" "cells" "[J") (by decide +kernel)) (fun _ h9 => h9) rfl dX11_write_50 ?_
        refine lv_bipush (v := 60) hx hb dX11_write_53 (by decide) ?_
        refine lv_iload_n hx hb dX11_write_55 rfl (lv_at hl 1 rfl) ?_
        refine lv_imul hx hb dX11_write_56 ?_
        refine nm_mul (e1 := 0) (f := 180) (rgn 60 (x := 60) (by decide)) h_5 (by decide) (fun z56 hz56 ez56 => ?_)
        refine lv_iload_n hx hb dX11_write_57 rfl (lv_at hl 2 rfl) ?_
        refine lv_iadd hx hb dX11_write_58 ?_
        refine nm_add (e1 := 0) (f := 239) hz56 h_12 (by decide) (fun z58 hz58 ez58 => ?_)
        refine lv_lload_n hx hb dX11_write_59 rfl (lv_at hl 3 rfl) ?_
        refine lv_aload_n hx hb dX11_write_60 rfl (lv_at hl 0 rfl) ?_
        refine va_get (D := G) (ci := 11) (v := .ref a1) (C := RX11) (T := TX11) (N := 31) hx hb hts (by decide +kernel) hown hK.1 hP 0 rfl rfl 1 (by decide) (hts (.fieldLink RX11 7 "CardHolderModel" "width" "[I") (by decide +kernel)) (fun _ h9 => h9) rfl dX11_write_61 ?_
        refine lv_iload_n hx hb dX11_write_64 rfl (lv_at hl 1 rfl) ?_
        refine va_iald hx hb hK.1 hP 1 0 rfl rfl (in_rg h_5 (by decide)) dX11_write_65 ?_
        refine ix_i (y := z20) gz20.symm ?_
        refine ro_calll (va_runS (As := [.long p2, .int z20]) (rest := [.int z58, .ref a3]) ⟨hx, hb, hml, hown, hts⟩ (a_X11_cut l G ct p2 z20) (va_cwS 2 hts gX11_write_X11_cut rfl rfl rfl (by decide +kernel) ⟨Nat.le_of_ble_eq_true rfl, Nat.le_of_ble_eq_true rfl⟩) (ro_pre hK (hP.sub [] rfl)) rfl rfl hl.1 rfl (lv_room (Nat.le_of_ble_eq_true rfl)) dX11_write_66 ⟨Nat.zero_le _, Nat.zero_le _⟩) hS hP (fun r66 H locs wr66 hP hS => ?_)
        refine va_last hx hb hK.1 hP hD hS 3 3 rfl rfl (in_rg hz58 (by decide)) dX11_write_69 (fun H locs hP hD hS => ?_)
        refine lv_iconst (v := 0) hx hb dX11_write_70 (by decide) ?_
        exact W.iret (v := 0) hx hb hr (fun t ht hW => ⟨⟨0, (fun k => ([0] : List Int32).getD k 0, fun k => ([] : List (Nat → Int32)).getD k (fun _ => 0), fun k => ([vp_updL f3 z58.toNatClampNeg r66] : List (Nat → Int64)).getD k (fun _ => 0)), rfl, ⟨(rg_w (c := (-7)) (d := 0) (rgn 0 (x := 0) (by decide)) (by decide)), (fun _ => h_5), (fun _ => h_5), (fun _ => h_12), (rgn 0 (x := 0) (by decide)), (wr_0 (by have := h_5; have := h_12; have := i_ne c9; have := i_ne c22; have := i_ne c43; have : ((-1) : Int32).toInt = (-1) := (by decide); have : (0 : Int32).toInt = 0 := (by decide); omega) (decide_eq_true (fun hq => c22 (by rw [gz20]; exact hq))) (by rw [← gz36]; have := (p_9 (rne h_10 (y := 0) (c := 0) (by decide) (by decide))); have := h_5; have := h_12; have := i_ne c9; have := i_ne c22; have := i_ne c43; have : ((-1) : Int32).toInt = (-1) := (by decide); have : (0 : Int32).toInt = 0 := (by decide); have := ez29; have := ez38; have := ez39; have : (0 : Int64).toInt = 0 := (by decide); have := hz36; omega)), trivial⟩, hp_at ht hP⟩, hS.F ht⟩) hS.2.2 dX11_write_71
      · have h_13 : rg 0 0 r40 := r_eq_l_i (e := 0) (f := 0) c43 p_6 (rgn 0 (x := 0) (by decide)) (by decide)
        refine lv_bipush (v := (-7)) hx hb dX11_write_46 (by decide) ?_
        exact W.iret (v := (-7)) hx hb hr (fun t ht hW => ⟨⟨(-7), (fun k => ([0] : List Int32).getD k 0, fun k => ([] : List (Nat → Int32)).getD k (fun _ => 0), fun k => ([f3] : List (Nat → Int64)).getD k (fun _ => 0)), rfl, ⟨(rg_w (c := (-7)) (d := 0) (rgn (-7) (x := (-7)) (by decide)) (by decide)), (fun _ => h_5), (fun _ => h_5), (fun hq => absurd hq (rne (rgn (-7) (x := (-7)) (by decide)) (y := 0) (c := 0) (by decide) (by decide))), (rgn 0 (x := 0) (by decide)), (wr_7 (by have := h_5; have := i_ne c9; have := i_ne c22; have := congrArg Int32.toInt c43; have : ((-1) : Int32).toInt = (-1) := (by decide); have : (0 : Int32).toInt = 0 := (by decide); omega) (decide_eq_true (fun hq => c22 (by rw [gz20]; exact hq))) (by rw [← gz36]; have := (p_8 (req h_13 (y := 0) (by decide))); have := h_5; have := i_ne c9; have := i_ne c22; have := congrArg Int32.toInt c43; have : ((-1) : Int32).toInt = (-1) := (by decide); have : (0 : Int32).toInt = 0 := (by decide); have := ez29; have := ez38; have := ez39; have : (0 : Int64).toInt = 0 := (by decide); have := hz36; omega)), trivial⟩, hp_at ht hP⟩, hS.F ht⟩) hS.2.2 dX11_write_48
    · have h_14 : rg (-1) (-1) z20 := r_eq_l_i (e := (-1)) (f := (-1)) c22 (rg_t z20) (rgn (-1) (x := (-1)) (by decide)) (by decide)
      refine lv_bipush (v := (-6)) hx hb dX11_write_25 (by decide) ?_
      exact W.iret (v := (-6)) hx hb hr (fun t ht hW => ⟨⟨(-6), (fun k => ([0] : List Int32).getD k 0, fun k => ([] : List (Nat → Int32)).getD k (fun _ => 0), fun k => ([f3] : List (Nat → Int64)).getD k (fun _ => 0)), rfl, ⟨(rg_w (c := (-7)) (d := 0) (rgn (-6) (x := (-6)) (by decide)) (by decide)), (fun _ => h_5), (fun _ => h_5), (fun hq => absurd hq (rne (rgn (-6) (x := (-6)) (by decide)) (y := 0) (c := 0) (by decide) (by decide))), (rgn 0 (x := 0) (by decide)), (wr_6 (by have := h_5; have := i_ne c9; have := congrArg Int32.toInt c22; have : ((-1) : Int32).toInt = (-1) := (by decide); have : (0 : Int32).toInt = 0 := (by decide); omega) (fun hq => of_decide_eq_true hq (by rw [← gz20]; exact c22))), trivial⟩, hp_at ht hP⟩, hS.F ht⟩) hS.2.2 dX11_write_27
  · have h_15 : rg 0 0 r6 := r_eq_l_i (e := 0) (f := 0) c9 p_1 (rgn 0 (x := 0) (by decide)) (by decide)
    refine lv_bipush (v := (-2)) hx hb dX11_write_12 (by decide) ?_
    exact W.iret (v := (-2)) hx hb hr (fun t ht hW => ⟨⟨(-2), (fun k => ([0] : List Int32).getD k 0, fun k => ([] : List (Nat → Int32)).getD k (fun _ => 0), fun k => ([f3] : List (Nat → Int64)).getD k (fun _ => 0)), rfl, ⟨(rg_w (c := (-7)) (d := 0) (rgn (-2) (x := (-2)) (by decide)) (by decide)), (fun hq => absurd hq (rne (rgn (-2) (x := (-2)) (by decide)) (y := 0) (c := 0) (by decide) (by decide))), (fun hq => absurd (req (rgn (-2) (x := (-2)) (by decide)) (y := (-2)) (by decide)) hq), (fun hq => absurd hq (rne (rgn (-2) (x := (-2)) (by decide)) (y := 0) (c := 0) (by decide) (by decide))), (rgn 0 (x := 0) (by decide)), (wr_2 (by have := (p_3 (req h_15 (y := 0) (by decide))); have := congrArg Int32.toInt c9; have : (0 : Int32).toInt = 0 := (by decide); omega)), trivial⟩, hp_at ht hP⟩, hS.F ht⟩) hS.2.2 dX11_write_14

