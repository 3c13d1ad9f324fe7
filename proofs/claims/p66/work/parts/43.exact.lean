
set_option maxHeartbeats 4000000 in
set_option maxRecDepth 100000 in
theorem e_X11_in (l : Launch) (G : va_G) (ct : Nat → ClassId) (p0 : Int64) (p1 : Int64) (p2 : Int64)  : Met l yX11_in wsX11_in ({ frames := 0, cells := 0, slots := 0, locals := 0 }) (va_Pc [.long p0, .long p1, .long p2] (roP G ct [])) (roQ (fun r => rg 0 1 r ∧ (¬ r = 0 → p1.toInt ≤ p0.toInt ∧ p0.toInt ≤ p2.toInt) ∧ (r = 0 → p0.toInt < p1.toInt ∨ p2.toInt < p0.toInt) ∧ (¬ r = 0 → p1.toInt ≤ p0.toInt ∧ p0.toInt ≤ p2.toInt) ∧ True)) 0 0 no := by
  refine Met.ofW (cc := cX11_in) (maxL := 6) (ret := (some .boolean)) (by decide) rfl ?_
  intro p e s m args below meth c s₁ B hml hv
  obtain ⟨rfl, hP, hK⟩ := hv
  have hx := B.exec
  have hb := B.bytes
  have hr := B.returns
  have hts := atoms_spec (ws := wsX11_in) B.pre
  have hown : s.vm.findClass RX11 = some m.cls := findClass_of_methodNamed B.named
  have hlocks := B.notSynchronized
  have hS : va_S no s.heap s.heap [] := va_S.rf
  have hl := lv_entry ([.long p0, .long p1, .long p2]) (n := 6) (Nat.le_of_ble_eq_true rfl)
  rw [lg_entry_eq]
  generalize (lg_sl ([.long p0, .long p1, .long p2]) ++ List.replicate (6 - (lg_sl ([.long p0, .long p1, .long p2])).length) Slot.unset).toArray = ls at hl ⊢
  have hl : lv_has ls 6 [(0, .long p0), (2, .long p1), (4, .long p2)] := hl
  refine lv_lload_n hx hb dX11_in_0 rfl (lv_at hl 0 rfl) ?_
  refine lv_lload_n hx hb dX11_in_1 rfl (lv_at hl 1 rfl) ?_
  refine W.lcmp hx hb dX11_in_2 ?_
  refine lb_lt (tgt := 17) hx hb dX11_in_3 (by decide) (fun c3 => ?_) (fun c3 => ?_)
  · have h_1 : rl (-9223372036854775808) 9223372036854775806 p0 := r_lt_l_l c3 (rl_t p0) (rl_t p1) (by decide)
    have h_2 : rl (-9223372036854775807) 9223372036854775807 p1 := r_lt_r_l c3 (rl_t p0) (rl_t p1) (by decide)
    refine lv_iconst (v := 0) hx hb dX11_in_17 (by decide) ?_
    exact W.zret (v := 0) (ty := .boolean) hx hb hr (rfl) (fun t ht hW => ⟨⟨0, (), rfl, ⟨(rg_w (c := 0) (d := 1) (rgn 0 (x := 0) (by decide)) (by decide)), (fun hq => absurd rfl hq), (fun _ => Or.inl (l_lt c3)), (fun hq => absurd (req (rgn 0 (x := 0) (by decide)) (y := 0) (by decide)) hq), trivial⟩, trivial⟩, hS.F ht⟩) hS.2.2 dX11_in_18
  · refine lv_lload_n hx hb dX11_in_6 rfl (lv_at hl 0 rfl) ?_
    refine lv_lload hx hb dX11_in_7 (lv_at hl 2 rfl) ?_
    refine W.lcmp hx hb dX11_in_9 ?_
    refine lb_gt (tgt := 17) hx hb dX11_in_10 (by decide) (fun c10 => ?_) (fun c10 => ?_)
    · have h_3 : rl (-9223372036854775808) 9223372036854775806 p2 := r_lt_l_l c10 (rl_t p2) (rl_t p0) (by decide)
      have h_4 : rl (-9223372036854775807) 9223372036854775807 p0 := r_lt_r_l c10 (rl_t p2) (rl_t p0) (by decide)
      refine lv_iconst (v := 0) hx hb dX11_in_17 (by decide) ?_
      exact W.zret (v := 0) (ty := .boolean) hx hb hr (rfl) (fun t ht hW => ⟨⟨0, (), rfl, ⟨(rg_w (c := 0) (d := 1) (rgn 0 (x := 0) (by decide)) (by decide)), (fun hq => absurd rfl hq), (fun _ => Or.inr (l_lt c10)), (fun hq => absurd (req (rgn 0 (x := 0) (by decide)) (y := 0) (by decide)) hq), trivial⟩, trivial⟩, hS.F ht⟩) hS.2.2 dX11_in_18
    · refine lv_iconst (v := 1) hx hb dX11_in_13 (by decide) ?_
      refine lv_goto (tgt := 18) hx hb dX11_in_14 (by decide) ?_
      exact W.zret (v := 1) (ty := .boolean) hx hb hr (rfl) (fun t ht hW => ⟨⟨1, (), rfl, ⟨(rg_w (c := 0) (d := 1) (rgn 1 (x := 1) (by decide)) (by decide)), (fun _ => ⟨l_nlt c3, l_nlt c10⟩), (fun hq => absurd hq (rne (rgn 1 (x := 1) (by decide)) (y := 0) (c := 0) (by decide) (by decide))), (fun _ => ⟨l_nlt c3, l_nlt c10⟩), trivial⟩, trivial⟩, hS.F ht⟩) hS.2.2 dX11_in_18

def rwA (p q n : Int32) : Int32 := if 0 ≤ p.toInt ∧ p.toInt ≤ 3 ∧ 0 ≤ q.toInt ∧ q.toInt ≤ 3 ∧ n.toInt ≤ 60 then (if n.toInt < 0 then -3 else 0) else -2
set_option maxHeartbeats 4000000 in
set_option maxRecDepth 100000 in
theorem e_X6_isSlot (l : Launch) (G : va_G) (ct : Nat → ClassId) (a0 : Nat) (a1 : Nat) (a6 : Nat) (a7 : Nat) (n0_3 : Int32) (p0 : Int32)  : Met l yX6_isSlot wsX6_isSlot ({ frames := 0, cells := 0, slots := 0, locals := 0 }) (va_Pc [.ref a0, .int p0] (roP G ct [(a0, .inr (6, [.ref a1, .ref a6, .ref a7, .int n0_3]))])) (roQ (fun r => rg 0 1 r ∧ (¬ r = 0 → rg 0 3 p0) ∧ (r = 0 → p0.toInt < 0 ∨ 3 < p0.toInt) ∧ True)) 0 0 no := by
  refine Met.ofW (cc := cX6_isSlot) (maxL := 2) (ret := (some .boolean)) (by decide) rfl ?_
  intro p e s m args below meth c s₁ B hml hv
  obtain ⟨rfl, hP, hK⟩ := hv
  have hx := B.exec
  have hb := B.bytes
  have hr := B.returns
  have hts := atoms_spec (ws := wsX6_isSlot) B.pre
  have hown : s.vm.findClass RX6 = some m.cls := findClass_of_methodNamed B.named
  have hlocks := B.notSynchronized
  have hS : va_S no s.heap s.heap [] := va_S.rf
  have hl := lv_entry ([.ref a0, .int p0]) (n := 2) (Nat.le_of_ble_eq_true rfl)
  rw [lg_entry_eq]
  generalize (lg_sl ([.ref a0, .int p0]) ++ List.replicate (2 - (lg_sl ([.ref a0, .int p0])).length) Slot.unset).toArray = ls at hl ⊢
  have hl : lv_has ls 2 [(0, .ref a0), (1, .int p0)] := hl
  refine lv_iload_n hx hb dX6_isSlot_0 rfl (lv_at hl 1 rfl) ?_
  refine lv_if_lt (tgt := 13) hx hb dX6_isSlot_1 (by decide) (fun c1 => ?_) (fun c1 => ?_)
  · have h_1 : rg (-2147483648) (-1) p0 := r_lt_l_i c1 (rg_t p0) (rgn 0 (x := 0) (by decide)) (by decide)
    refine lv_iconst (v := 0) hx hb dX6_isSlot_13 (by decide) ?_
    exact W.zret (v := 0) (ty := .boolean) hx hb hr (rfl) (fun t ht hW => ⟨⟨0, (), rfl, ⟨(rg_w (c := 0) (d := 1) (rgn 0 (x := 0) (by decide)) (by decide)), (fun hq => absurd (req (rgn 0 (x := 0) (by decide)) (y := 0) (by decide)) hq), (fun _ => by have := h_1; omega), trivial⟩, trivial⟩, hS.F ht⟩) hS.2.2 dX6_isSlot_14
  · have h_2 : rg 0 2147483647 p0 := r_le_r_i (nlt_i c1) (rgn 0 (x := 0) (by decide)) (rg_t p0)
    refine lv_iload_n hx hb dX6_isSlot_4 rfl (lv_at hl 1 rfl) ?_
    refine lv_iconst (v := 4) hx hb dX6_isSlot_5 (by decide) ?_
    refine lv_icmp_ge (tgt := 13) hx hb dX6_isSlot_6 (by decide) (fun c6 => ?_) (fun c6 => ?_)
    · have h_3 : rg 4 2147483647 p0 := r_le_r_i c6 (rgn 4 (x := 4) (by decide)) h_2
      refine lv_iconst (v := 0) hx hb dX6_isSlot_13 (by decide) ?_
      exact W.zret (v := 0) (ty := .boolean) hx hb hr (rfl) (fun t ht hW => ⟨⟨0, (), rfl, ⟨(rg_w (c := 0) (d := 1) (rgn 0 (x := 0) (by decide)) (by decide)), (fun hq => absurd (req (rgn 0 (x := 0) (by decide)) (y := 0) (by decide)) hq), (fun _ => by have := h_3; omega), trivial⟩, trivial⟩, hS.F ht⟩) hS.2.2 dX6_isSlot_14
    · have h_4 : rg 0 3 p0 := r_lt_l_i (nle_i c6) h_2 (rgn 4 (x := 4) (by decide)) (by decide)
      refine lv_iconst (v := 1) hx hb dX6_isSlot_9 (by decide) ?_
      refine lv_goto (tgt := 14) hx hb dX6_isSlot_10 (by decide) ?_
      exact W.zret (v := 1) (ty := .boolean) hx hb hr (rfl) (fun t ht hW => ⟨⟨1, (), rfl, ⟨(rg_w (c := 0) (d := 1) (rgn 1 (x := 1) (by decide)) (by decide)), (fun _ => h_4), (fun hq => absurd hq (rne (rgn 1 (x := 1) (by decide)) (y := 0) (c := 0) (by decide) (by decide))), trivial⟩, trivial⟩, hS.F ht⟩) hS.2.2 dX6_isSlot_14

set_option maxHeartbeats 4000000 in
set_option maxRecDepth 100000 in
theorem e_X11_isSlot (l : Launch) (G : va_G) (ct : Nat → ClassId) (p0 : Int32)  : Met l yX11_isSlot wsX11_isSlot ({ frames := 1, cells := 0, slots := 0, locals := 25 }) (va_Pc [.int p0] (roP G ct [])) (roQ (fun r => rg 0 1 r ∧ (¬ r = 0 → rg 0 3 p0) ∧ (r = 0 → p0.toInt < 0 ∨ 3 < p0.toInt) ∧ True)) 0 0 no := by
  refine Met.ofW (cc := cX11_isSlot) (maxL := 1) (ret := (some .boolean)) (by decide) rfl ?_
  intro p e s m args below meth c s₁ B hml hv
  obtain ⟨rfl, hP, hK⟩ := hv
  have hx := B.exec
  have hb := B.bytes
  have hr := B.returns
  have hts := atoms_spec (ws := wsX11_isSlot) B.pre
  have hown : s.vm.findClass RX11 = some m.cls := findClass_of_methodNamed B.named
  have hlocks := B.notSynchronized
  have hS : va_S no s.heap s.heap [] := va_S.rf
  have hl := lv_entry ([.int p0]) (n := 1) (Nat.le_of_ble_eq_true rfl)
  rw [lg_entry_eq]
  generalize (lg_sl ([.int p0]) ++ List.replicate (1 - (lg_sl ([.int p0])).length) Slot.unset).toArray = ls at hl ⊢
  have hl : lv_has ls 1 [(0, .int p0)] := hl
  refine lv_iload_n hx hb dX11_isSlot_0 rfl (lv_at hl 0 rfl) ?_
  refine lv_i2l hx hb dX11_isSlot_1 rfl ?_
  refine nl_i2l (rg_t p0) (fun z1 hz1 ez1 => ?_)
  refine lv_lconst (v := 0) hx hb dX11_isSlot_2 (by decide) ?_
  refine lv_ldc2 (own := RX11) (v := 3) hx hb hown (hts (.constantLong RX11 62 (3)) (by decide +kernel)) dX11_isSlot_3 ?_
  refine ro_calli (va_runS (As := [.long z1, .long 0, .long 3]) (rest := []) ⟨hx, hb, hml, hown, hts⟩ (e_X11_in l G ct z1 (0 : Int64) (3 : Int64)) (va_cwS 3 hts gX11_isSlot_X11_in rfl rfl rfl (by decide +kernel) ⟨Nat.le_of_ble_eq_true rfl, Nat.le_of_ble_eq_true rfl⟩) (ro_pre hK (hP.sub [] rfl)) rfl rfl hl.1 rfl (lv_room (Nat.le_of_ble_eq_true rfl)) dX11_isSlot_6 ⟨Nat.zero_le _, Nat.zero_le _⟩) hS hP (fun r6 H locs wr6 hP hS => ?_)
  obtain ⟨p_1, p_2, p_3, p_4, -⟩ := wr6
  exact W.zret (v := r6) (ty := .boolean) hx hb hr (nar_rg p_1) (fun t ht hW => ⟨⟨r6, (), rfl, ⟨p_1, (fun hq => rg_w ((fun hq => bk_li (a := 0) (b := 3) ez1 ((fun hq => in_im (p_2 hq) (rln 0 (x := 0) (by decide)) (rln 3 (x := 3) (by decide))) hq) (rg_t p0) (by decide)) hq) (by decide)), (fun hq => by have h9 := p_3 hq; have := ez1; have : (0 : Int64).toInt = 0 := (by decide); have : (3 : Int64).toInt = 3 := (by decide); omega), trivial⟩, trivial⟩, hS.F ht⟩) hS.2.2 dX11_isSlot_9

def bt (x : Int32) (i : Nat) : Bool := x.toBitVec.getLsbD i
theorem b_ext {x y : Int32} (h : ∀ i, i < 32 → bt x i = bt y i) : x = y := Int32.toBitVec_inj.mp (BitVec.eq_of_getLsbD_eq (fun i hi => h i hi))
theorem b_or (x y : Int32) (i : Nat) : bt (x ||| y) i = (bt x i || bt y i) := by unfold bt; rw [Int32.toBitVec_or, BitVec.getLsbD_or]
theorem b_and (x y : Int32) (i : Nat) : bt (x &&& y) i = (bt x i && bt y i) := by unfold bt; rw [Int32.toBitVec_and, BitVec.getLsbD_and]
theorem b_xor (x y : Int32) (i : Nat) : bt (x ^^^ y) i = (bt x i ^^ bt y i) := by unfold bt; rw [Int32.toBitVec_xor, BitVec.getLsbD_xor]
theorem b_big {x : Int32} {i : Nat} (h : 32 ≤ i) : bt x i = false := BitVec.getLsbD_of_ge _ _ h
theorem b_255 (i : Nat) : bt 255 i = decide (i < 8) := by
  rcases Nat.lt_or_ge i 32 with h | h
  · exact (by decide +kernel : ∀ i, i < 32 → bt 255 i = decide (i < 8)) i h
  · rw [b_big h, decide_eq_false (by omega)]
theorem b_65535 (i : Nat) : bt 65535 i = decide (i < 16) := by
  rcases Nat.lt_or_ge i 32 with h | h
  · exact (by decide +kernel : ∀ i, i < 32 → bt 65535 i = decide (i < 16)) i h
  · rw [b_big h, decide_eq_false (by omega)]
theorem b_m1 : ∀ i, i < 32 → bt (-1) i = true := by decide +kernel
theorem b_0 (i : Nat) : bt 0 i = false := BitVec.getLsbD_zero
theorem s_l : ∀ n, n < 32 → ((nI n &&& 31).toBitVec.smod 32).toNat = n := by decide +kernel
theorem s_u : ∀ n, n < 32 → (((nI n).toUInt32 &&& Int32.toUInt32 31).toBitVec % 32).toNat = n := by decide +kernel
theorem b_shl (n : Nat) (hn : n < 32) (x : Int32) {i : Nat} (hi : i < 32) : bt (x <<< (nI n &&& 31)) i = (decide (n ≤ i) && bt x (i - n)) := by
  unfold bt
  rw [Int32.toBitVec_shiftLeft]
  show (x.toBitVec <<< ((nI n &&& 31).toBitVec.smod 32).toNat).getLsbD i = _
  rw [s_l n hn, BitVec.getLsbD_shiftLeft]
  rcases Nat.lt_or_ge i n with h | h
  · simp [h, Nat.not_le.mpr h]
  · simp [hi, h, Nat.not_lt.mpr h]
theorem b_ushr (n : Nat) (hn : n < 32) (x : Int32) (i : Nat) : bt ((x.toUInt32 >>> ((nI n).toUInt32 &&& Int32.toUInt32 31)).toInt32) i = bt x (n + i) := by
  show (x.toUInt32 >>> ((nI n).toUInt32 &&& Int32.toUInt32 31)).toBitVec.getLsbD i = x.toUInt32.toBitVec.getLsbD (n + i)
  rw [UInt32.toBitVec_shiftRight]
  show (x.toUInt32.toBitVec >>> (((nI n).toUInt32 &&& Int32.toUInt32 31).toBitVec % 32).toNat).getLsbD i = _
  rw [s_u n hn, BitVec.getLsbD_ushiftRight]
theorem b_sshr (n : Nat) (hn : n < 32) (x : Int32) {i : Nat} (hi : i < 32) : bt (x >>> (nI n &&& 31)) i = if n + i < 32 then bt x (n + i) else bt x 31 := by
  unfold bt
  rw [Int32.toBitVec_shiftRight]
  show (x.toBitVec.sshiftRight ((nI n &&& 31).toBitVec.smod 32).toNat).getLsbD i = _
  rw [s_l n hn, BitVec.getLsbD_sshiftRight, BitVec.msb_eq_getLsbD_last]
  simp [hi]
theorem b_shl8 (x : Int32) {i : Nat} (hi : i < 32) : bt (x <<< ((8 : Int32) &&& 31)) i = (decide (8 ≤ i) && bt x (i - 8)) := b_shl 8 (by omega) x hi
theorem b_shl16 (x : Int32) {i : Nat} (hi : i < 32) : bt (x <<< ((16 : Int32) &&& 31)) i = (decide (16 ≤ i) && bt x (i - 16)) := b_shl 16 (by omega) x hi
theorem b_shl24 (x : Int32) {i : Nat} (hi : i < 32) : bt (x <<< ((24 : Int32) &&& 31)) i = (decide (24 ≤ i) && bt x (i - 24)) := b_shl 24 (by omega) x hi
theorem b_sshr8 (x : Int32) {i : Nat} (hi : i < 32) : bt (x >>> ((8 : Int32) &&& 31)) i = if 8 + i < 32 then bt x (8 + i) else bt x 31 := b_sshr 8 (by omega) x hi

def btA (x i : Int32) : Int32 := (x >>> (i &&& 31)) &&& 1
def szA (f : Nat → Int32) (p : Int32) : Int32 := if 0 ≤ p.toInt ∧ p.toInt ≤ 3 then f p.toNatClampNeg else 0
def mkK (K p : Int32) : Int32 := if 0 ≤ p.toInt ∧ p.toInt ≤ 3 then K ||| ((1 : Int32) <<< (p &&& 31)) else K
def mkF (f : Nat → Int32) (p x : Int32) : Nat → Int32 := if 0 ≤ p.toInt ∧ p.toInt ≤ 3 then upd f p.toNatClampNeg x else f
theorem sz_y {f : Nat → Int32} {p : Int32} (h : 0 ≤ p.toInt ∧ p.toInt ≤ 3) : szA f p = f p.toNatClampNeg := if_pos h
theorem sz_n {f : Nat → Int32} {p : Int32} (h : ¬ (0 ≤ p.toInt ∧ p.toInt ≤ 3)) : szA f p = 0 := if_neg h
theorem mk_y {K p : Int32} (h : 0 ≤ p.toInt ∧ p.toInt ≤ 3) : mkK K p = K ||| ((1 : Int32) <<< (p &&& 31)) := if_pos h
theorem mk_n {K p : Int32} (h : ¬ (0 ≤ p.toInt ∧ p.toInt ≤ 3)) : mkK K p = K := if_neg h
theorem mf_y {f : Nat → Int32} {p x : Int32} (h : 0 ≤ p.toInt ∧ p.toInt ≤ 3) : mkF f p x = upd f p.toNatClampNeg x := if_pos h
theorem mf_n {f : Nat → Int32} {p x : Int32} (h : ¬ (0 ≤ p.toInt ∧ p.toInt ≤ 3)) : mkF f p x = f := if_neg h
theorem bt_1 : ∀ i : Nat, i < 32 → bt 1 i = decide (i = 0) := by decide +kernel
theorem btA_bt {K : Int32} {n : Nat} (hn : n < 32) : btA K (nI n) = 1 ↔ bt K n = true := by
  have h0 : bt (btA K (nI n)) 0 = bt K n := by
    unfold btA
    rw [b_and, b_sshr n hn K (i := 0) (by decide), bt_1 0 (by decide), if_pos (by omega), Nat.add_zero]
    simp
  constructor
  · intro h
    rw [h] at h0
    rw [← h0]
    exact bt_1 0 (by decide)
  · intro h
    refine b_ext (fun i hi => ?_)
    rw [bt_1 i hi]
    by_cases hz : i = 0
    · subst hz
      rw [h0, h]
      rfl
    · unfold btA
      rw [b_and, bt_1 i hi, decide_eq_false hz, Bool.and_false]
theorem bt_mk {K : Int32} {i j : Nat} (hi : i < 32) (hj : j < 32) : bt (K ||| ((1 : Int32) <<< (nI i &&& 31))) j = (bt K j || decide (i = j)) := by
  rw [b_or, b_shl i hi 1 hj]
  congr 1
  by_cases h : i = j
  · subst h
    rw [Nat.sub_self, bt_1 0 (by decide)]
    simp
  · rw [decide_eq_false h]
    by_cases h2 : i ≤ j
    · rw [bt_1 _ (show j - i < 32 by omega), decide_eq_false (show ¬ j - i = 0 by omega), Bool.and_false]
    · rw [decide_eq_false h2, Bool.false_and]
def RK (K : Int32) (wd sz w mn : Nat → Int32) : Prop := ∀ s : Int32, 0 ≤ s.toInt → s.toInt ≤ 3 → ((btA K s = 1) ↔ ¬ w s.toNatClampNeg = -1) ∧ sz s.toNatClampNeg = mn s.toNatClampNeg ∧ (¬ w s.toNatClampNeg = -1 → wd s.toNatClampNeg = w s.toNatClampNeg)
theorem nI_04 {s : Int32} (h0 : 0 ≤ s.toInt) (h3 : s.toInt ≤ 3) : ∃ n : Nat, n < 4 ∧ s = nI n ∧ s.toNatClampNeg = n := by
  have h1 : s.toInt = (s.toInt.toNat : Int) := by omega
  exact ⟨s.toInt.toNat, by omega, nI_x h1, rfl⟩
theorem upd_a (f : Nat → Int32) (i : Nat) (x : Int32) : upd f i x i = x := if_pos rfl
theorem upd_b (f : Nat → Int32) {i j : Nat} (x : Int32) (h : ¬ j = i) : upd f i x j = f j := if_neg h
theorem RK_row {K : Int32} {wd sz w mn : Nat → Int32} {p q n : Int32} (hR : RK K wd sz w mn) (hp : 0 ≤ p.toInt ∧ p.toInt ≤ 3) (hq : 0 ≤ q.toInt) : RK (mkK K p) (mkF wd p q) (mkF sz p n) (mkF w p q) (mkF mn p n) := by
  rw [mk_y hp, mf_y hp, mf_y hp, mf_y hp, mf_y hp]
  obtain ⟨i, hi, ep, ec⟩ := nI_04 hp.1 hp.2
  intro s h0 h3
  obtain ⟨j, hj, es, ed⟩ := nI_04 h0 h3
  have hr := hR s h0 h3
  rw [ec, ed]
  rw [ed] at hr
  rw [es, ep, btA_bt (by omega), bt_mk (by omega) (by omega)]
  rw [es, btA_bt (by omega)] at hr
  by_cases h : j = i
  · subst h
    have hq1 : ¬ q = -1 := fun z => by rw [z] at hq; exact absurd hq (by decide)
    rw [upd_a, upd_a, upd_a, upd_a]
    refine ⟨⟨fun _ => hq1, fun _ => by simp⟩, rfl, fun _ => rfl⟩
  · rw [upd_b _ _ h, upd_b _ _ h, upd_b _ _ h, upd_b _ _ h, decide_eq_false (show ¬ i = j from fun z => h z.symm), Bool.or_false]
    exact hr
theorem rw_0 {p q n : Int32} (h : rwA p q n = 0) : (0 ≤ p.toInt ∧ p.toInt ≤ 3) ∧ 0 ≤ q.toInt := by
  unfold rwA at h
  by_cases hc : 0 ≤ p.toInt ∧ p.toInt ≤ 3 ∧ 0 ≤ q.toInt ∧ q.toInt ≤ 3 ∧ n.toInt ≤ 60
  · exact ⟨⟨hc.1, hc.2.1⟩, hc.2.2.1⟩
  · rw [if_neg hc] at h
    exact absurd h (by decide)
theorem RK_step {K K2 : Int32} {wd sz w mn wd2 sz2 w2 mn2 : Nat → Int32} {p q n r1 r2 : Int32} (hR : RK K wd sz w mn) (e1 : r1 = rwA p q n) (e2 : r2 = rwA p q n) (a1 : r1 = 0 → K2 = mkK K p) (a2 : r1 = 0 → wd2 = mkF wd p q) (a3 : r1 = 0 → sz2 = mkF sz p n) (a4 : ¬ r1 = 0 → K2 = K) (a5 : ¬ r1 = 0 → wd2 = wd) (a6 : ¬ r1 = 0 → sz2 = sz) (b1 : r2 = 0 → w2 = mkF w p q) (b2 : r2 = 0 → mn2 = mkF mn p n) (b3 : ¬ r2 = 0 → w2 = w) (b4 : ¬ r2 = 0 → mn2 = mn) : RK K2 wd2 sz2 w2 mn2 := by
  have e3 : r2 = r1 := e2.trans e1.symm
  by_cases h : r1 = 0
  · have h2 := e3.trans h
    rw [a1 h, a2 h, a3 h, b1 h2, b2 h2]
    have hz := rw_0 (e1.symm.trans h)
    exact RK_row hR hz.1 hz.2
  · have h2 : ¬ r2 = 0 := fun z => h (e3.symm.trans z)
    rw [a4 h, a5 h, a6 h, b3 h2, b4 h2]
    exact hR
def wrA (p q : Int32) (a : Bool) (x : Int) : Int32 := if 0 ≤ p.toInt ∧ p.toInt ≤ 3 then (if a = true then (if 0 ≤ q.toInt ∧ q.toInt < x then 0 else -7) else -6) else -2
theorem wr_2 {p q : Int32} {a : Bool} {x : Int} (h : ¬ (0 ≤ p.toInt ∧ p.toInt ≤ 3)) : -2 = wrA p q a x := (if_neg h).symm
theorem wr_6 {p q : Int32} {a : Bool} {x : Int} (h : 0 ≤ p.toInt ∧ p.toInt ≤ 3) (h2 : ¬ a = true) : -6 = wrA p q a x := by unfold wrA; rw [if_pos h, if_neg h2]
theorem wr_7 {p q : Int32} {a : Bool} {x : Int} (h : 0 ≤ p.toInt ∧ p.toInt ≤ 3) (h2 : a = true) (h3 : ¬ (0 ≤ q.toInt ∧ q.toInt < x)) : -7 = wrA p q a x := by unfold wrA; rw [if_pos h, if_pos h2, if_neg h3]
theorem wr_0 {p q : Int32} {a : Bool} {x : Int} (h : 0 ≤ p.toInt ∧ p.toInt ≤ 3) (h2 : a = true) (h3 : 0 ≤ q.toInt ∧ q.toInt < x) : 0 = wrA p q a x := by unfold wrA; rw [if_pos h, if_pos h2, if_pos h3]
theorem wr_eq {K : Int32} {wd sz w mn : Nat → Int32} {p q : Int32} (hR : RK K wd sz w mn) : wrA p q (decide (btA K p = 1)) (sz p.toNatClampNeg).toInt = wrA p q (decide (¬ w p.toNatClampNeg = -1)) (mn p.toNatClampNeg).toInt := by
  by_cases h : 0 ≤ p.toInt ∧ p.toInt ≤ 3
  · obtain ⟨h1, h2, h3⟩ := hR p h.1 h.2
    rw [h2, decide_eq_decide.mpr h1]
  · exact (wr_2 h).symm.trans (wr_2 h)
def psA (s i t k n : Int32) (a b w : Bool) (x y : Int) : Int32 := if (0 ≤ s.toInt ∧ s.toInt ≤ 3) ∧ 0 ≤ t.toInt ∧ t.toInt ≤ 3 then (if a = true ∧ b = true then (if w = true then (if 0 ≤ i.toInt ∧ 0 ≤ k.toInt ∧ 0 ≤ n.toInt ∧ i.toInt + n.toInt ≤ x ∧ k.toInt + n.toInt ≤ y then 0 else -7) else -8) else -6) else -2
theorem ps_2 {s i t k n : Int32} {a b w : Bool} {x y : Int} (h : ¬ ((0 ≤ s.toInt ∧ s.toInt ≤ 3) ∧ 0 ≤ t.toInt ∧ t.toInt ≤ 3)) : -2 = psA s i t k n a b w x y := (if_neg h).symm
theorem ps_6 {s i t k n : Int32} {a b w : Bool} {x y : Int} (h : (0 ≤ s.toInt ∧ s.toInt ≤ 3) ∧ 0 ≤ t.toInt ∧ t.toInt ≤ 3) (h2 : ¬ (a = true ∧ b = true)) : -6 = psA s i t k n a b w x y := by unfold psA; rw [if_pos h, if_neg h2]
theorem ps_8 {s i t k n : Int32} {a b w : Bool} {x y : Int} (h : (0 ≤ s.toInt ∧ s.toInt ≤ 3) ∧ 0 ≤ t.toInt ∧ t.toInt ≤ 3) (h2 : a = true ∧ b = true) (h3 : ¬ w = true) : -8 = psA s i t k n a b w x y := by unfold psA; rw [if_pos h, if_pos h2, if_neg h3]
theorem ps_7 {s i t k n : Int32} {a b w : Bool} {x y : Int} (h : (0 ≤ s.toInt ∧ s.toInt ≤ 3) ∧ 0 ≤ t.toInt ∧ t.toInt ≤ 3) (h2 : a = true ∧ b = true) (h3 : w = true) (h4 : ¬ (0 ≤ i.toInt ∧ 0 ≤ k.toInt ∧ 0 ≤ n.toInt ∧ i.toInt + n.toInt ≤ x ∧ k.toInt + n.toInt ≤ y)) : -7 = psA s i t k n a b w x y := by unfold psA; rw [if_pos h, if_pos h2, if_pos h3, if_neg h4]
theorem ps_0 {s i t k n : Int32} {a b w : Bool} {x y : Int} (h : (0 ≤ s.toInt ∧ s.toInt ≤ 3) ∧ 0 ≤ t.toInt ∧ t.toInt ≤ 3) (h2 : a = true ∧ b = true) (h3 : w = true) (h4 : 0 ≤ i.toInt ∧ 0 ≤ k.toInt ∧ 0 ≤ n.toInt ∧ i.toInt + n.toInt ≤ x ∧ k.toInt + n.toInt ≤ y) : 0 = psA s i t k n a b w x y := by unfold psA; rw [if_pos h, if_pos h2, if_pos h3, if_pos h4]
theorem ps_eq {K : Int32} {wd sz w mn : Nat → Int32} {s i t k n : Int32} (hR : RK K wd sz w mn) : psA s i t k n (decide (btA K s = 1)) (decide (btA K t = 1)) (decide (wd s.toNatClampNeg = wd t.toNatClampNeg)) (sz s.toNatClampNeg).toInt (sz t.toNatClampNeg).toInt = psA s i t k n (decide (¬ w s.toNatClampNeg = -1)) (decide (¬ w t.toNatClampNeg = -1)) (decide (w s.toNatClampNeg = w t.toNatClampNeg)) (mn s.toNatClampNeg).toInt (mn t.toNatClampNeg).toInt := by
  by_cases h : (0 ≤ s.toInt ∧ s.toInt ≤ 3) ∧ 0 ≤ t.toInt ∧ t.toInt ≤ 3
  · obtain ⟨h1, h2, h3⟩ := hR s h.1.1 h.1.2
    obtain ⟨h4, h5, h6⟩ := hR t h.2.1 h.2.2
    rw [h2, h5, decide_eq_decide.mpr h1, decide_eq_decide.mpr h4]
    by_cases hh : (decide (¬ w s.toNatClampNeg = -1)) = true ∧ (decide (¬ w t.toNatClampNeg = -1)) = true
    · rw [h3 (of_decide_eq_true hh.1), h6 (of_decide_eq_true hh.2)]
    · exact (ps_6 h hh).symm.trans (ps_6 h hh)
  · exact (ps_2 h).symm.trans (ps_2 h)
set_option maxHeartbeats 4000000 in
set_option maxRecDepth 100000 in
theorem e_X10_bitOf (l : Launch) (G : va_G) (ct : Nat → ClassId) (p0 : Int32) (p1 : Int32)  : Met l yX10_bitOf wsX10_bitOf ({ frames := 0, cells := 0, slots := 0, locals := 0 }) (va_Pc [.int p0, .int p1] (roP G ct [])) (roQ (fun r => rg 0 1 r ∧ r = btA p0 p1 ∧ True)) 0 0 no := by
  refine Met.ofW (cc := cX10_bitOf) (maxL := 2) (ret := (some .int)) (by decide) rfl ?_
  intro p e s m args below meth c s₁ B hml hv
  obtain ⟨rfl, hP, hK⟩ := hv
  have hx := B.exec
  have hb := B.bytes
  have hr := B.returns
  have hts := atoms_spec (ws := wsX10_bitOf) B.pre
  have hown : s.vm.findClass RX10 = some m.cls := findClass_of_methodNamed B.named
  have hlocks := B.notSynchronized
  have hS : va_S no s.heap s.heap [] := va_S.rf
  have hl := lv_entry ([.int p0, .int p1]) (n := 2) (Nat.le_of_ble_eq_true rfl)
  rw [lg_entry_eq]
  generalize (lg_sl ([.int p0, .int p1]) ++ List.replicate (2 - (lg_sl ([.int p0, .int p1])).length) Slot.unset).toArray = ls at hl ⊢
  have hl : lv_has ls 2 [(0, .int p0), (1, .int p1)] := hl
  refine lv_iload_n hx hb dX10_bitOf_0 rfl (lv_at hl 0 rfl) ?_
  refine lv_iload_n hx hb dX10_bitOf_1 rfl (lv_at hl 1 rfl) ?_
  refine lv_ishr hx hb dX10_bitOf_2 ?_
  refine lv_topi (fun z2 gz2 => ?_)
  refine lv_iconst (v := 1) hx hb dX10_bitOf_3 (by decide) ?_
  refine lv_iand hx hb dX10_bitOf_4 ?_
  refine lv_topi (fun z4 gz4 => ?_)
  have hz4 : rg 0 1 z4 := by rw [gz4]; exact andr_rg (rgn 1 (x := 1) (by decide)) (by decide)
  exact W.iret (v := z4) hx hb hr (fun t ht hW => ⟨⟨z4, (), rfl, ⟨hz4, (show z4 = btA p0 p1 by rw [gz4, gz2]; rfl), trivial⟩, trivial⟩, hS.F ht⟩) hS.2.2 dX10_bitOf_5

set_option maxHeartbeats 4000000 in
set_option maxRecDepth 100000 in
theorem e_X6_isKept (l : Launch) (G : va_G) (ct : Nat → ClassId) (a0 : Nat) (a1 : Nat) (a6 : Nat) (a7 : Nat) (n0_3 : Int32) (p0 : Int32)  : Met l yX6_isKept wsX6_isKept ({ frames := 1, cells := 0, slots := 0, locals := 21 }) (va_Pc [.ref a0, .int p0] (roP G ct [(a0, .inr (6, [.ref a1, .ref a6, .ref a7, .int n0_3]))])) (roQ (fun r => rg 0 1 r ∧ (¬ r = 0 → rg 0 3 p0) ∧ (¬ r = 0 → btA n0_3 p0 = 1) ∧ (r = 0 → (p0.toInt < 0 ∨ 3 < p0.toInt) ∨ ¬ btA n0_3 p0 = 1) ∧ True)) 0 0 no := by
  refine Met.ofW (cc := cX6_isKept) (maxL := 2) (ret := (some .boolean)) (by decide) rfl ?_
  intro p e s m args below meth c s₁ B hml hv
  obtain ⟨rfl, hP, hK⟩ := hv
  have hx := B.exec
  have hb := B.bytes
  have hr := B.returns
  have hts := atoms_spec (ws := wsX6_isKept) B.pre
  have hown : s.vm.findClass RX6 = some m.cls := findClass_of_methodNamed B.named
  have hlocks := B.notSynchronized
  have hS : va_S no s.heap s.heap [] := va_S.rf
  have hl := lv_entry ([.ref a0, .int p0]) (n := 2) (Nat.le_of_ble_eq_true rfl)
  rw [lg_entry_eq]
  generalize (lg_sl ([.ref a0, .int p0]) ++ List.replicate (2 - (lg_sl ([.ref a0, .int p0])).length) Slot.unset).toArray = ls at hl ⊢
  have hl : lv_has ls 2 [(0, .ref a0), (1, .int p0)] := hl
  refine lv_aload_n hx hb dX6_isKept_0 rfl (lv_at hl 0 rfl) ?_
  refine lv_iload_n hx hb dX6_isKept_1 rfl (lv_at hl 1 rfl) ?_
  refine ro_calli (va_runV (As := [.int p0]) (rest := []) ⟨hx, hb, hml, hown, hts⟩ (e_X6_isSlot l G ct a0 a1 a6 a7 n0_3 p0) (cwV 1 hts gX6_isKept_X6_isSlot rfl rfl rfl (by decide +kernel) ⟨Nat.le_of_ble_eq_true rfl, Nat.le_of_ble_eq_true rfl⟩) (ro_preV 6 0 hK (hP.sub [0] rfl) rfl rfl) rfl rfl hl.1 rfl (lv_room (Nat.le_of_ble_eq_true rfl)) dX6_isKept_2 ⟨Nat.zero_le _, Nat.zero_le _⟩) hS hP (fun r2 H locs wr2 hP hS => ?_)
  obtain ⟨p_1, p_2, p_3, -⟩ := wr2
  refine lv_if_eq (tgt := 24) hx hb dX6_isKept_5 (by decide) (fun c5 => ?_) (fun c5 => ?_)
  · have h_4 : rg 0 0 r2 := r_eq_l_i (e := 0) (f := 0) c5 p_1 (rgn 0 (x := 0) (by decide)) (by decide)
    refine lv_iconst (v := 0) hx hb dX6_isKept_24 (by decide) ?_
    exact W.zret (v := 0) (ty := .boolean) hx hb hr (rfl) (fun t ht hW => ⟨⟨0, (), rfl, ⟨(rg_w (c := 0) (d := 1) (rgn 0 (x := 0) (by decide)) (by decide)), (fun hq => absurd (req (rgn 0 (x := 0) (by decide)) (y := 0) (by decide)) hq), (fun hq => absurd (req (rgn 0 (x := 0) (by decide)) (y := 0) (by decide)) hq), (fun _ => Or.inl (p_3 (req h_4 (y := 0) (by decide)))), trivial⟩, trivial⟩, hS.F ht⟩) hS.2.2 dX6_isKept_25
  · have h_5 : rg 1 1 r2 := r_ne_lo_i c5 p_1 (by decide) (by decide)
    have h_6 : rg 0 3 p0 := (p_2 (rne h_5 (y := 0) (c := 0) (by decide) (by decide)))
    refine lv_aload_n hx hb dX6_isKept_8 rfl (lv_at hl 0 rfl) ?_
    refine va_get (D := G) (ci := 6) (v := .int n0_3) (C := RX6) (T := TX6) (N := 4) hx hb hts (by decide +kernel) hown hK.1 hP 0 rfl rfl 3 (by decide) (hts (.fieldLink RX6 27 "CardHolder$Rows" "keptSlots" "I") (by decide +kernel)) (fun _ h9 => h9) rfl dX6_isKept_9 ?_
    refine lv_iload_n hx hb dX6_isKept_12 rfl (lv_at hl 1 rfl) ?_
    refine ro_calli (va_runSN (As := [.int n0_3, .int p0]) (rest := []) ⟨hx, hb, hml, hown, hts⟩ (e_X10_bitOf l G ct n0_3 p0) ⟨va_cnB 2 hts gX6_isKept_X10_bitOf_n31 rfl rfl rfl (hK.2.1 (RX6, 31, yX10_bitOf, "CardHolder") (by decide +kernel)) (hts (.initialized RX10) (by decide +kernel)) (by decide +kernel) ⟨Nat.le_of_ble_eq_true rfl, Nat.le_of_ble_eq_true rfl⟩, hts (.static yX10_bitOf) (by decide +kernel), trivial⟩ (ro_pre hK (hP.sub [] rfl)) rfl rfl hl.1 rfl (lv_room (Nat.le_of_ble_eq_true rfl)) dX6_isKept_13 ⟨Nat.zero_le _, Nat.zero_le _⟩) hS hP (fun r13 H locs wr13 hP hS => ?_)
    obtain ⟨p_7, p_8, -⟩ := wr13
    refine lv_iconst (v := 1) hx hb dX6_isKept_16 (by decide) ?_
    refine lv_icmp_ne (tgt := 24) hx hb dX6_isKept_17 (by decide) (fun c17 => ?_) (fun c17 => ?_)
    · have h_9 : rg 0 0 r13 := r_ne_hi_i c17 p_7 (by decide) (by decide)
      refine lv_iconst (v := 0) hx hb dX6_isKept_24 (by decide) ?_
      exact W.zret (v := 0) (ty := .boolean) hx hb hr (rfl) (fun t ht hW => ⟨⟨0, (), rfl, ⟨(rg_w (c := 0) (d := 1) (rgn 0 (x := 0) (by decide)) (by decide)), (fun _ => h_6), (fun hq => absurd (req (rgn 0 (x := 0) (by decide)) (y := 0) (by decide)) hq), (fun _ => Or.inr (fun hq => c17 (p_8.trans hq))), trivial⟩, trivial⟩, hS.F ht⟩) hS.2.2 dX6_isKept_25
    · have h_10 : rg 1 1 r13 := r_eq_l_i (e := 1) (f := 1) c17 p_7 (rgn 1 (x := 1) (by decide)) (by decide)
      refine lv_iconst (v := 1) hx hb dX6_isKept_20 (by decide) ?_
      refine lv_goto (tgt := 25) hx hb dX6_isKept_21 (by decide) ?_
      exact W.zret (v := 1) (ty := .boolean) hx hb hr (rfl) (fun t ht hW => ⟨⟨1, (), rfl, ⟨(rg_w (c := 0) (d := 1) (rgn 1 (x := 1) (by decide)) (by decide)), (fun _ => h_6), (fun _ => p_8.symm.trans c17), (fun hq => absurd hq (rne (rgn 1 (x := 1) (by decide)) (y := 0) (c := 0) (by decide) (by decide))), trivial⟩, trivial⟩, hS.F ht⟩) hS.2.2 dX6_isKept_25

set_option maxHeartbeats 4000000 in
set_option maxRecDepth 100000 in
theorem e_X6_sizeOf (l : Launch) (G : va_G) (ct : Nat → ClassId) (a0 : Nat) (a1 : Nat) (a6 : Nat) (a7 : Nat) (n0_3 : Int32) (f7 : Nat → Int32) (p0 : Int32) (hp_f7 : ar 0 60 f7) : Met l yX6_sizeOf wsX6_sizeOf ({ frames := 1, cells := 0, slots := 0, locals := 21 }) (va_Pc [.ref a0, .int p0] (roP G ct [(a0, .inr (6, [.ref a1, .ref a6, .ref a7, .int n0_3])), (a7, .inl (ct 0, 4, .inl f7))])) (roQ (fun r => rg 0 60 r ∧ (¬ r = 0 → rg 0 3 p0) ∧ r = szA f7 p0 ∧ True)) 0 0 no := by
  refine Met.ofW (cc := cX6_sizeOf) (maxL := 2) (ret := (some .int)) (by decide) rfl ?_
  intro p e s m args below meth c s₁ B hml hv
  obtain ⟨rfl, hP, hK⟩ := hv
  have hx := B.exec
  have hb := B.bytes
  have hr := B.returns
  have hts := atoms_spec (ws := wsX6_sizeOf) B.pre
  have hown : s.vm.findClass RX6 = some m.cls := findClass_of_methodNamed B.named
  have hlocks := B.notSynchronized
  have hS : va_S no s.heap s.heap [] := va_S.rf
  have hl := lv_entry ([.ref a0, .int p0]) (n := 2) (Nat.le_of_ble_eq_true rfl)
  rw [lg_entry_eq]
  generalize (lg_sl ([.ref a0, .int p0]) ++ List.replicate (2 - (lg_sl ([.ref a0, .int p0])).length) Slot.unset).toArray = ls at hl ⊢
  have hl : lv_has ls 2 [(0, .ref a0), (1, .int p0)] := hl
  refine lv_aload_n hx hb dX6_sizeOf_0 rfl (lv_at hl 0 rfl) ?_
  refine lv_iload_n hx hb dX6_sizeOf_1 rfl (lv_at hl 1 rfl) ?_
  refine ro_calli (va_runV (As := [.int p0]) (rest := []) ⟨hx, hb, hml, hown, hts⟩ (e_X6_isSlot l G ct a0 a1 a6 a7 n0_3 p0) (cwV 1 hts gX6_sizeOf_X6_isSlot rfl rfl rfl (by decide +kernel) ⟨Nat.le_of_ble_eq_true rfl, Nat.le_of_ble_eq_true rfl⟩) (ro_preV 6 0 hK (hP.sub [0] rfl) rfl rfl) rfl rfl hl.1 rfl (lv_room (Nat.le_of_ble_eq_true rfl)) dX6_sizeOf_2 ⟨Nat.zero_le _, Nat.zero_le _⟩) hS hP (fun r2 H locs wr2 hP hS => ?_)
  obtain ⟨p_1, p_2, p_3, -⟩ := wr2
  refine lv_if_eq (tgt := 17) hx hb dX6_sizeOf_5 (by decide) (fun c5 => ?_) (fun c5 => ?_)
  · have h_4 : rg 0 0 r2 := r_eq_l_i (e := 0) (f := 0) c5 p_1 (rgn 0 (x := 0) (by decide)) (by decide)
    refine lv_iconst (v := 0) hx hb dX6_sizeOf_17 (by decide) ?_
    exact W.iret (v := 0) hx hb hr (fun t ht hW => ⟨⟨0, (), rfl, ⟨(rg_w (c := 0) (d := 60) (rgn 0 (x := 0) (by decide)) (by decide)), (fun hq => absurd (req (rgn 0 (x := 0) (by decide)) (y := 0) (by decide)) hq), (show (0 : Int32) = szA f7 p0 from (sz_n (by have := (p_3 (req h_4 (y := 0) (by decide))); have := congrArg Int32.toInt c5; have : (0 : Int32).toInt = 0 := (by decide); omega)).symm), trivial⟩, trivial⟩, hS.F ht⟩) hS.2.2 dX6_sizeOf_18
  · have h_5 : rg 1 1 r2 := r_ne_lo_i c5 p_1 (by decide) (by decide)
    have h_6 : rg 0 3 p0 := (p_2 (rne h_5 (y := 0) (c := 0) (by decide) (by decide)))
    refine lv_aload_n hx hb dX6_sizeOf_8 rfl (lv_at hl 0 rfl) ?_
    refine va_get (D := G) (ci := 6) (v := .ref a7) (C := RX6) (T := TX6) (N := 4) hx hb hts (by decide +kernel) hown hK.1 hP 0 rfl rfl 2 (by decide) (hts (.fieldLink RX6 20 "CardHolder$Rows" "sizes" "[I") (by decide +kernel)) (fun _ h9 => h9) rfl dX6_sizeOf_9 ?_
    refine lv_iload_n hx hb dX6_sizeOf_12 rfl (lv_at hl 1 rfl) ?_
    refine va_iald hx hb hK.1 hP 1 0 rfl rfl (in_rg h_6 (by decide)) dX6_sizeOf_13 ?_
    refine lv_topi (fun z13 gz13 => ?_)
    have hz13 : rg 0 60 z13 := by rw [gz13]; exact hp_f7 _
    refine lv_goto (tgt := 18) hx hb dX6_sizeOf_14 (by decide) ?_
    exact W.iret (v := z13) hx hb hr (fun t ht hW => ⟨⟨z13, (), rfl, ⟨hz13, (fun _ => h_6), (show z13 = szA f7 p0 by rw [sz_y (by have := h_6; have := i_ne c5; have : (0 : Int32).toInt = 0 := (by decide); omega)]; exact gz13), trivial⟩, trivial⟩, hS.F ht⟩) hS.2.2 dX6_sizeOf_18

set_option maxHeartbeats 4000000 in
set_option maxRecDepth 100000 in
theorem e_X6_hasPlaces (l : Launch) (G : va_G) (ct : Nat → ClassId) (a0 : Nat) (a1 : Nat) (a6 : Nat) (a7 : Nat) (n0_3 : Int32) (f7 : Nat → Int32) (p0 : Int32) (p1 : Int32) (p2 : Int32) (hp_f7 : ar 0 60 f7) : Met l yX6_hasPlaces wsX6_hasPlaces ({ frames := 2, cells := 0, slots := 0, locals := 42 }) (va_Pc [.ref a0, .int p0, .int p1, .int p2] (roP G ct [(a0, .inr (6, [.ref a1, .ref a6, .ref a7, .int n0_3])), (a7, .inl (ct 0, 4, .inl f7))])) (roQ (fun r => rg 0 1 r ∧ (¬ r = 0 → rg 0 60 p1) ∧ (¬ r = 0 → rg 0 60 p2) ∧ (¬ r = 0 → p1.toInt + p2.toInt ≤ 60) ∧ (¬ r = 0 → 0 ≤ p1.toInt ∧ 0 ≤ p2.toInt ∧ p1.toInt + p2.toInt ≤ (szA f7 p0).toInt) ∧ (r = 0 → p1.toInt < 0 ∨ p2.toInt < 0 ∨ (szA f7 p0).toInt < p1.toInt + p2.toInt) ∧ True)) 0 0 no := by
  refine Met.ofW (cc := cX6_hasPlaces) (maxL := 4) (ret := (some .boolean)) (by decide) rfl ?_
  intro p e s m args below meth c s₁ B hml hv
  obtain ⟨rfl, hP, hK⟩ := hv
  have hx := B.exec
  have hb := B.bytes
  have hr := B.returns
  have hts := atoms_spec (ws := wsX6_hasPlaces) B.pre
  have hown : s.vm.findClass RX6 = some m.cls := findClass_of_methodNamed B.named
  have hlocks := B.notSynchronized
  have hS : va_S no s.heap s.heap [] := va_S.rf
  have hl := lv_entry ([.ref a0, .int p0, .int p1, .int p2]) (n := 4) (Nat.le_of_ble_eq_true rfl)
  rw [lg_entry_eq]
  generalize (lg_sl ([.ref a0, .int p0, .int p1, .int p2]) ++ List.replicate (4 - (lg_sl ([.ref a0, .int p0, .int p1, .int p2])).length) Slot.unset).toArray = ls at hl ⊢
  have hl : lv_has ls 4 [(0, .ref a0), (1, .int p0), (2, .int p1), (3, .int p2)] := hl
  refine lv_iload_n hx hb dX6_hasPlaces_0 rfl (lv_at hl 2 rfl) ?_
  refine lv_if_lt (tgt := 32) hx hb dX6_hasPlaces_1 (by decide) (fun c1 => ?_) (fun c1 => ?_)
  · have h_1 : rg (-2147483648) (-1) p1 := r_lt_l_i c1 (rg_t p1) (rgn 0 (x := 0) (by decide)) (by decide)
    refine lv_iconst (v := 0) hx hb dX6_hasPlaces_32 (by decide) ?_
    exact W.zret (v := 0) (ty := .boolean) hx hb hr (rfl) (fun t ht hW => ⟨⟨0, (), rfl, ⟨(rg_w (c := 0) (d := 1) (rgn 0 (x := 0) (by decide)) (by decide)), (fun hq => absurd (req (rgn 0 (x := 0) (by decide)) (y := 0) (by decide)) hq), (fun hq => absurd (req (rgn 0 (x := 0) (by decide)) (y := 0) (by decide)) hq), (fun hq => absurd (req (rgn 0 (x := 0) (by decide)) (y := 0) (by decide)) hq), (fun hq => absurd (req (rgn 0 (x := 0) (by decide)) (y := 0) (by decide)) hq), (fun _ => by have := h_1; have := i_lt c1; have : (0 : Int32).toInt = 0 := (by decide); omega), trivial⟩, trivial⟩, hS.F ht⟩) hS.2.2 dX6_hasPlaces_33
  · have h_2 : rg 0 2147483647 p1 := r_le_r_i (nlt_i c1) (rgn 0 (x := 0) (by decide)) (rg_t p1)
    refine lv_iload_n hx hb dX6_hasPlaces_4 rfl (lv_at hl 3 rfl) ?_
    refine lv_if_lt (tgt := 32) hx hb dX6_hasPlaces_5 (by decide) (fun c5 => ?_) (fun c5 => ?_)
    · have h_3 : rg (-2147483648) (-1) p2 := r_lt_l_i c5 (rg_t p2) (rgn 0 (x := 0) (by decide)) (by decide)
      refine lv_iconst (v := 0) hx hb dX6_hasPlaces_32 (by decide) ?_
      exact W.zret (v := 0) (ty := .boolean) hx hb hr (rfl) (fun t ht hW => ⟨⟨0, (), rfl, ⟨(rg_w (c := 0) (d := 1) (rgn 0 (x := 0) (by decide)) (by decide)), (fun hq => absurd (req (rgn 0 (x := 0) (by decide)) (y := 0) (by decide)) hq), (fun hq => absurd (req (rgn 0 (x := 0) (by decide)) (y := 0) (by decide)) hq), (fun hq => absurd (req (rgn 0 (x := 0) (by decide)) (y := 0) (by decide)) hq), (fun hq => absurd (req (rgn 0 (x := 0) (by decide)) (y := 0) (by decide)) hq), (fun _ => by have := h_2; have := h_3; have := i_le (nlt_i c1); have := i_lt c5; have : (0 : Int32).toInt = 0 := (by decide); omega), trivial⟩, trivial⟩, hS.F ht⟩) hS.2.2 dX6_hasPlaces_33
    · have h_4 : rg 0 2147483647 p2 := r_le_r_i (nlt_i c5) (rgn 0 (x := 0) (by decide)) (rg_t p2)
      refine lv_iload_n hx hb dX6_hasPlaces_8 rfl (lv_at hl 3 rfl) ?_
      refine lv_aload_n hx hb dX6_hasPlaces_9 rfl (lv_at hl 0 rfl) ?_
      refine lv_iload_n hx hb dX6_hasPlaces_10 rfl (lv_at hl 1 rfl) ?_
      refine ro_calli (va_runV (As := [.int p0]) (rest := [.int p2]) ⟨hx, hb, hml, hown, hts⟩ (e_X6_sizeOf l G ct a0 a1 a6 a7 n0_3 f7 p0 hp_f7) (cwV 1 hts gX6_hasPlaces_X6_sizeOf rfl rfl rfl (by decide +kernel) ⟨Nat.le_of_ble_eq_true rfl, Nat.le_of_ble_eq_true rfl⟩) (ro_preV 6 0 hK (hP.sub [0, 1] rfl) rfl rfl) rfl rfl hl.1 rfl (lv_room (Nat.le_of_ble_eq_true rfl)) dX6_hasPlaces_11 ⟨Nat.zero_le _, Nat.zero_le _⟩) hS hP (fun r11 H locs wr11 hP hS => ?_)
      obtain ⟨p_5, p_6, p_7, -⟩ := wr11
      refine lv_icmp_gt (tgt := 32) hx hb dX6_hasPlaces_14 (by decide) (fun c14 => ?_) (fun c14 => ?_)
      · have h_8 : rg 1 2147483647 p2 := r_lt_r_i c14 p_5 h_4 (by decide)
        refine lv_iconst (v := 0) hx hb dX6_hasPlaces_32 (by decide) ?_
        exact W.zret (v := 0) (ty := .boolean) hx hb hr (rfl) (fun t ht hW => ⟨⟨0, (), rfl, ⟨(rg_w (c := 0) (d := 1) (rgn 0 (x := 0) (by decide)) (by decide)), (fun hq => absurd (req (rgn 0 (x := 0) (by decide)) (y := 0) (by decide)) hq), (fun hq => absurd (req (rgn 0 (x := 0) (by decide)) (y := 0) (by decide)) hq), (fun hq => absurd (req (rgn 0 (x := 0) (by decide)) (y := 0) (by decide)) hq), (fun hq => absurd (req (rgn 0 (x := 0) (by decide)) (y := 0) (by decide)) hq), (fun _ => by have := h_2; have := h_8; have := i_le (nlt_i c1); have := i_le (nlt_i c5); have := i_lt c14; have : (0 : Int32).toInt = 0 := (by decide); have := congrArg Int32.toInt p_7; omega), trivial⟩, trivial⟩, hS.F ht⟩) hS.2.2 dX6_hasPlaces_33
      · have h_9 : rg 0 60 p2 := r_le_l_i (nlt_i c14) h_4 p_5
        refine lv_iload_n hx hb dX6_hasPlaces_17 rfl (lv_at hl 2 rfl) ?_
        refine lv_aload_n hx hb dX6_hasPlaces_18 rfl (lv_at hl 0 rfl) ?_
        refine lv_iload_n hx hb dX6_hasPlaces_19 rfl (lv_at hl 1 rfl) ?_
        refine ro_calli (va_runV (As := [.int p0]) (rest := [.int p1]) ⟨hx, hb, hml, hown, hts⟩ (e_X6_sizeOf l G ct a0 a1 a6 a7 n0_3 f7 p0 hp_f7) (cwV 1 hts gX6_hasPlaces_X6_sizeOf rfl rfl rfl (by decide +kernel) ⟨Nat.le_of_ble_eq_true rfl, Nat.le_of_ble_eq_true rfl⟩) (ro_preV 6 0 hK (hP.sub [0, 1] rfl) rfl rfl) rfl rfl hl.1 rfl (lv_room (Nat.le_of_ble_eq_true rfl)) dX6_hasPlaces_20 ⟨Nat.zero_le _, Nat.zero_le _⟩) hS hP (fun r20 H locs wr20 hP hS => ?_)
        obtain ⟨p_10, p_11, p_12, -⟩ := wr20
        refine lv_iload_n hx hb dX6_hasPlaces_23 rfl (lv_at hl 3 rfl) ?_
        refine lv_isub hx hb dX6_hasPlaces_24 ?_
        refine nm_sub (e1 := (-60)) (f := 60) p_10 h_9 (by decide) (fun z24 hz24 ez24 => ?_)
        refine lv_icmp_gt (tgt := 32) hx hb dX6_hasPlaces_25 (by decide) (fun c25 => ?_) (fun c25 => ?_)
        · refine lv_iconst (v := 0) hx hb dX6_hasPlaces_32 (by decide) ?_
          exact W.zret (v := 0) (ty := .boolean) hx hb hr (rfl) (fun t ht hW => ⟨⟨0, (), rfl, ⟨(rg_w (c := 0) (d := 1) (rgn 0 (x := 0) (by decide)) (by decide)), (fun hq => absurd (req (rgn 0 (x := 0) (by decide)) (y := 0) (by decide)) hq), (fun _ => h_9), (fun hq => absurd (req (rgn 0 (x := 0) (by decide)) (y := 0) (by decide)) hq), (fun hq => absurd (req (rgn 0 (x := 0) (by decide)) (y := 0) (by decide)) hq), (fun _ => by have := h_2; have := h_9; have := i_le (nlt_i c1); have := i_le (nlt_i c5); have := i_le (nlt_i c14); have := i_lt c25; have : (0 : Int32).toInt = 0 := (by decide); have := congrArg Int32.toInt p_7; have := congrArg Int32.toInt p_12; have := ez24; omega), trivial⟩, trivial⟩, hS.F ht⟩) hS.2.2 dX6_hasPlaces_33
        · have h_13 : rg 0 60 p1 := r_le_l_i (nlt_i c25) h_2 hz24
          have h_14 : rg 0 60 z24 := r_le_r_i (nlt_i c25) h_2 hz24
          refine lv_iconst (v := 1) hx hb dX6_hasPlaces_28 (by decide) ?_
          refine lv_goto (tgt := 33) hx hb dX6_hasPlaces_29 (by decide) ?_
          exact W.zret (v := 1) (ty := .boolean) hx hb hr (rfl) (fun t ht hW => ⟨⟨1, (), rfl, ⟨(rg_w (c := 0) (d := 1) (rgn 1 (x := 1) (by decide)) (by decide)), (fun _ => h_13), (fun _ => h_9), (fun _ => by have := i_nlt c25; have := ez24; have := p_10; omega), (fun _ => by have := h_13; have := h_9; have := i_le (nlt_i c1); have := i_le (nlt_i c5); have := i_le (nlt_i c14); have := i_le (nlt_i c25); have : (0 : Int32).toInt = 0 := (by decide); have := congrArg Int32.toInt p_7; have := congrArg Int32.toInt p_12; have := ez24; omega), (fun hq => absurd hq (rne (rgn 1 (x := 1) (by decide)) (y := 0) (c := 0) (by decide) (by decide))), trivial⟩, trivial⟩, hS.F ht⟩) hS.2.2 dX6_hasPlaces_33

set_option maxHeartbeats 4000000 in
set_option maxRecDepth 100000 in
theorem e_X6_make (l : Launch) (G : va_G) (ct : Nat → ClassId) (a0 : Nat) (a1 : Nat) (a6 : Nat) (a7 : Nat) (n0_3 : Int32) (rr : Nat → Nat) (f2 : Nat → Int64) (f3 : Nat → Int64) (f4 : Nat → Int64) (f5 : Nat → Int64) (f6 : Nat → Int32) (f7 : Nat → Int32) (p0 : Int32) (p1 : Int32) (p2 : Int32) (hp_f7 : ar 0 60 f7) (hp_p2 : rg 0 60 p2) : Met l yX6_make wsX6_make ({ frames := 1, cells := 0, slots := 0, locals := 21 }) (va_Pc [.ref a0, .int p0, .int p1, .int p2] (wrP G ct [(a0, .inr (6, [.ref a1, .ref a6, .ref a7, .int n0_3])), (a1, .inl (ct 5, 4, .inr (.inr (.inr (.inr (fun i => if i < 4 then some (rr i) else none)))))), ((rr 0), .inl (ct 3, 60, .inr (.inl f2))), ((rr 1), .inl (ct 3, 60, .inr (.inl f3))), ((rr 2), .inl (ct 3, 60, .inr (.inl f4))), ((rr 3), .inl (ct 3, 60, .inr (.inl f5))), (a6, .inl (ct 0, 4, .inl f6)), (a7, .inl (ct 0, 4, .inl f7))])) (va_Qv (fun u : SU => ar 0 60 (u.2.1 1) ∧ (u.1 0) = mkK n0_3 p0 ∧ (u.2.1 0) = mkF f6 p0 p1 ∧ (u.2.1 1) = mkF f7 p0 p2 ∧ True) (fun u t => va_P G vwCl ((fun u : SU => [(a0, .inr (6, [.ref a1, .ref a6, .ref a7, .int (u.1 0)])), (a1, .inl (ct 5, 4, .inr (.inr (.inr (.inr (fun i => if i < 4 then some (rr i) else none)))))), ((rr 0), .inl (ct 3, 60, .inr (.inl (u.2.2 0)))), ((rr 1), .inl (ct 3, 60, .inr (.inl (u.2.2 1)))), ((rr 2), .inl (ct 3, 60, .inr (.inl (u.2.2 2)))), ((rr 3), .inl (ct 3, 60, .inr (.inl (u.2.2 3)))), (a6, .inl (ct 0, 4, .inl (u.2.1 0))), (a7, .inl (ct 0, 4, .inl (u.2.1 1)))]) u) t.heap) (aset [(a0, .inr (6, [.ref a1, .ref a6, .ref a7, .int n0_3])), (a1, .inl (ct 5, 4, .inr (.inr (.inr (.inr (fun i => if i < 4 then some (rr i) else none)))))), ((rr 0), .inl (ct 3, 60, .inr (.inl f2))), ((rr 1), .inl (ct 3, 60, .inr (.inl f3))), ((rr 2), .inl (ct 3, 60, .inr (.inl f4))), ((rr 3), .inl (ct 3, 60, .inr (.inl f5))), (a6, .inl (ct 0, 4, .inl f6)), (a7, .inl (ct 0, 4, .inl f7))])) 0 0 (aset [(a0, .inr (6, [.ref a1, .ref a6, .ref a7, .int n0_3])), (a1, .inl (ct 5, 4, .inr (.inr (.inr (.inr (fun i => if i < 4 then some (rr i) else none)))))), ((rr 0), .inl (ct 3, 60, .inr (.inl f2))), ((rr 1), .inl (ct 3, 60, .inr (.inl f3))), ((rr 2), .inl (ct 3, 60, .inr (.inl f4))), ((rr 3), .inl (ct 3, 60, .inr (.inl f5))), (a6, .inl (ct 0, 4, .inl f6)), (a7, .inl (ct 0, 4, .inl f7))]) := by
  refine Met.ofW (cc := cX6_make) (maxL := 5) (ret := none) (by decide) rfl ?_
  intro p e s m args below meth c s₁ B hml hv
  obtain ⟨rfl, hP, hK, hD0⟩ := hv
  have hx := B.exec
  have hb := B.bytes
  have hr := B.returns
  have hts := atoms_spec (ws := wsX6_make) B.pre
  have hown : s.vm.findClass RX6 = some m.cls := findClass_of_methodNamed B.named
  have hlocks := B.notSynchronized
  have hD := hD0.aself
  generalize hAe : aset [(a0, .inr (6, [.ref a1, .ref a6, .ref a7, .int n0_3])), (a1, .inl (ct 5, 4, .inr (.inr (.inr (.inr (fun i => if i < 4 then some (rr i) else none)))))), ((rr 0), .inl (ct 3, 60, .inr (.inl f2))), ((rr 1), .inl (ct 3, 60, .inr (.inl f3))), ((rr 2), .inl (ct 3, 60, .inr (.inl f4))), ((rr 3), .inl (ct 3, 60, .inr (.inl f5))), (a6, .inl (ct 0, 4, .inl f6)), (a7, .inl (ct 0, 4, .inl f7))] = A at hD ⊢
  have hS : va_S A s.heap s.heap [] := va_S.rf
  have hl := lv_entry ([.ref a0, .int p0, .int p1, .int p2]) (n := 5) (Nat.le_of_ble_eq_true rfl)
  rw [lg_entry_eq]
  generalize (lg_sl ([.ref a0, .int p0, .int p1, .int p2]) ++ List.replicate (5 - (lg_sl ([.ref a0, .int p0, .int p1, .int p2])).length) Slot.unset).toArray = ls at hl ⊢
  have hl : lv_has ls 5 [(0, .ref a0), (1, .int p0), (2, .int p1), (3, .int p2)] := hl
  refine lv_aload_n hx hb dX6_make_0 rfl (lv_at hl 0 rfl) ?_
  refine lv_iload_n hx hb dX6_make_1 rfl (lv_at hl 1 rfl) ?_
  refine ro_calli (va_runV (As := [.int p0]) (rest := []) ⟨hx, hb, hml, hown, hts⟩ (e_X6_isSlot l G ct a0 a1 a6 a7 n0_3 p0) (cwV 1 hts gX6_make_X6_isSlot rfl rfl rfl (by decide +kernel) ⟨Nat.le_of_ble_eq_true rfl, Nat.le_of_ble_eq_true rfl⟩) (ro_preV 6 0 hK (hP.sub [0] rfl) rfl rfl) rfl rfl hl.1 rfl (lv_room (Nat.le_of_ble_eq_true rfl)) dX6_make_2 ⟨Nat.zero_le _, Nat.zero_le _⟩) hS hP (fun r2 H locs wr2 hP hS => ?_)
  obtain ⟨p_1, p_2, p_3, -⟩ := wr2
  refine lv_if_ne (tgt := 9) hx hb dX6_make_5 (by decide) (fun c5 => ?_) (fun c5 => ?_)
  · have h_4 : rg 1 1 r2 := r_ne_lo_i c5 p_1 (by decide) (by decide)
    have h_5 : rg 0 3 p0 := (p_2 (rne h_4 (y := 0) (c := 0) (by decide) (by decide)))
    refine lv_aload_n hx hb dX6_make_9 rfl (lv_at hl 0 rfl) ?_
    refine lv_dup hx hb dX6_make_10 rfl ?_
    refine va_get (D := G) (ci := 6) (v := .int n0_3) (C := RX6) (T := TX6) (N := 4) hx hb hts (by decide +kernel) hown hK.1 hP 0 rfl rfl 3 (by decide) (hts (.fieldLink RX6 27 "CardHolder$Rows" "keptSlots" "I") (by decide +kernel)) (fun _ h9 => h9) rfl dX6_make_11 ?_
    refine lv_iconst (v := 1) hx hb dX6_make_14 (by decide) ?_
    refine lv_iload_n hx hb dX6_make_15 rfl (lv_at hl 1 rfl) ?_
    refine lv_ishl hx hb dX6_make_16 ?_
    refine lv_topi (fun z16 gz16 => ?_)
    refine lv_ior hx hb dX6_make_17 ?_
    refine lv_topi (fun z17 gz17 => ?_)
    refine va_put (D := G) (ci := 6) (v := .int z17) (ty := .int) (C := RX6) (T := TX6) (N := 4) hx hb hts (by decide +kernel) tyX6 tyX6_ok nmX6 hown hK.1 hP hD hS 0 rfl rfl 3 (by decide) (hts (.fieldLink RX6 27 "CardHolder$Rows" "keptSlots" "I") (by decide +kernel)) (fun _ h9 => h9) rfl (by decide +kernel) rfl rfl (Nat.le_of_ble_eq_true rfl) dX6_make_18 (fun H locs hP hD hS => ?_)
    refine lv_aload_n hx hb dX6_make_21 rfl (lv_at hl 0 rfl) ?_
    refine va_get (D := G) (ci := 6) (v := .ref a6) (C := RX6) (T := TX6) (N := 4) hx hb hts (by decide +kernel) hown hK.1 hP 0 rfl rfl 1 (by decide) (hts (.fieldLink RX6 16 "CardHolder$Rows" "widths" "[I") (by decide +kernel)) (fun _ h9 => h9) rfl dX6_make_22 ?_
    refine lv_iload_n hx hb dX6_make_25 rfl (lv_at hl 1 rfl) ?_
    refine lv_iload_n hx hb dX6_make_26 rfl (lv_at hl 2 rfl) ?_
    refine va_iast hx hb hK.1 hP hD hS 6 0 rfl rfl (in_rg h_5 (by decide)) dX6_make_27 (fun H locs hP hD hS => ?_)
    refine lv_aload_n hx hb dX6_make_28 rfl (lv_at hl 0 rfl) ?_
    refine va_get (D := G) (ci := 6) (v := .ref a7) (C := RX6) (T := TX6) (N := 4) hx hb hts (by decide +kernel) hown hK.1 hP 0 rfl rfl 2 (by decide) (hts (.fieldLink RX6 20 "CardHolder$Rows" "sizes" "[I") (by decide +kernel)) (fun _ h9 => h9) rfl dX6_make_29 ?_
    refine lv_iload_n hx hb dX6_make_32 rfl (lv_at hl 1 rfl) ?_
    refine lv_iload_n hx hb dX6_make_33 rfl (lv_at hl 3 rfl) ?_
    refine va_iast hx hb hK.1 hP hD hS 7 0 rfl rfl (in_rg h_5 (by decide)) dX6_make_34 (fun H locs hP hD hS => ?_)
    have h_6 : ar 0 60 (upd f7 p0.toNatClampNeg p2) := ar_u hp_f7 hp_p2
    refine lv_iconst (v := 0) hx hb dX6_make_35 (by decide) ?_
    refine lv_istore (lv' := [(4, .int 0), (0, .ref a0), (1, .int p0), (2, .int p1), (3, .int p2)]) hx hb dX6_make_36 hl (by decide) rfl (fun ls hl => ?_)
    have j38 : ∀ (n : Nat) (x38_4 : Int32) (f38_2 : Nat → Int64) (f38_3 : Nat → Int64) (f38_4 : Nat → Int64) (f38_5 : Nat → Int64) (H : Heap) (locs : List Loc) (ls : Array Slot), 2147483648 ≤ x38_4.toInt + (n : Int) → rg 0 60 x38_4 → va_P G vwCl [(a0, .inr (6, [.ref a1, .ref a6, .ref a7, .int z17])), (a1, .inl (ct 5, 4, .inr (.inr (.inr (.inr (fun i => if i < 4 then some (rr i) else none)))))), ((rr 0), .inl (ct 3, 60, .inr (.inl f38_2))), ((rr 1), .inl (ct 3, 60, .inr (.inl f38_3))), ((rr 2), .inl (ct 3, 60, .inr (.inl f38_4))), ((rr 3), .inl (ct 3, 60, .inr (.inl f38_5))), (a6, .inl (ct 0, 4, .inl (upd f6 p0.toNatClampNeg p1))), (a7, .inl (ct 0, 4, .inl (upd f7 p0.toNatClampNeg p2)))] H → va_D A [(a0, .inr (6, [.ref a1, .ref a6, .ref a7, .int z17])), (a1, .inl (ct 5, 4, .inr (.inr (.inr (.inr (fun i => if i < 4 then some (rr i) else none)))))), ((rr 0), .inl (ct 3, 60, .inr (.inl f38_2))), ((rr 1), .inl (ct 3, 60, .inr (.inl f38_3))), ((rr 2), .inl (ct 3, 60, .inr (.inl f38_4))), ((rr 3), .inl (ct 3, 60, .inr (.inl f38_5))), (a6, .inl (ct 0, 4, .inl (upd f6 p0.toNatClampNeg p1))), (a7, .inl (ct 0, 4, .inl (upd f7 p0.toNatClampNeg p2)))] → va_S A s.heap H locs → lv_has ls 5 [(0, .ref a0), (1, .int p0), (2, .int p1), (3, .int p2), (4, .int x38_4)] → W p l e (headSpec wsX6_make ({ frames := 1, cells := 0, slots := 0, locals := 21 })).room s m ([.ref a0, .int p0, .int p1, .int p2] : List Value).toArray below meth c H locs 0 0 (MQ below (va_Qv (fun u : SU => ar 0 60 (u.2.1 1) ∧ (u.1 0) = mkK n0_3 p0 ∧ (u.2.1 0) = mkF f6 p0 p1 ∧ (u.2.1 1) = mkF f7 p0 p2 ∧ True) (fun u t => va_P G vwCl ((fun u : SU => [(a0, .inr (6, [.ref a1, .ref a6, .ref a7, .int (u.1 0)])), (a1, .inl (ct 5, 4, .inr (.inr (.inr (.inr (fun i => if i < 4 then some (rr i) else none)))))), ((rr 0), .inl (ct 3, 60, .inr (.inl (u.2.2 0)))), ((rr 1), .inl (ct 3, 60, .inr (.inl (u.2.2 1)))), ((rr 2), .inl (ct 3, 60, .inr (.inl (u.2.2 2)))), ((rr 3), .inl (ct 3, 60, .inr (.inl (u.2.2 3)))), (a6, .inl (ct 0, 4, .inl (u.2.1 0))), (a7, .inl (ct 0, 4, .inl (u.2.1 1)))]) u) t.heap) A) ([.ref a0, .int p0, .int p1, .int p2] : List Value).toArray s 0 0 A) (F0 m 38 ls []) := by
      intro n
      induction n with
      | zero => intro x38_4 f38_2 f38_3 f38_4 f38_5 H locs ls hn38 hx38_4 hP hD hS hl; exact absurd hn38 (by have := Int32.toInt_lt x38_4; have := Int32.le_toInt x38_4; omega)
      | succ n ih38 =>
        intro x38_4 f38_2 f38_3 f38_4 f38_5 H locs ls hn38 hx38_4 hP hD hS hl
        refine lv_iload hx hb dX6_make_38 (lv_at hl 4 rfl) ?_
        refine lv_bipush (v := 60) hx hb dX6_make_40 (by decide) ?_
        refine lv_icmp_ge (tgt := 61) hx hb dX6_make_42 (by decide) (fun c42 => ?_) (fun c42 => ?_)
        · have h_7 : rg 60 60 x38_4 := r_le_r_i c42 (rgn 60 (x := 60) (by decide)) hx38_4
          exact W.vret hx hb hr (fun t ht hW => ⟨⟨(fun k => ([z17] : List Int32).getD k 0, fun k => ([upd f6 p0.toNatClampNeg p1, upd f7 p0.toNatClampNeg p2] : List (Nat → Int32)).getD k (fun _ => 0), fun k => ([f38_2, f38_3, f38_4, f38_5] : List (Nat → Int64)).getD k (fun _ => 0)), rfl, ⟨h_6, (show z17 = mkK n0_3 p0 by rw [mk_y (by have := h_5; have := hp_p2; have := i_ne c5; have := i_le c42; have : (0 : Int32).toInt = 0 := (by decide); have : (60 : Int32).toInt = 60 := (by decide); omega), gz17, gz16]), (show upd f6 p0.toNatClampNeg p1 = mkF f6 p0 p1 from (mf_y (by have := h_5; have := hp_p2; have := i_ne c5; have := i_le c42; have : (0 : Int32).toInt = 0 := (by decide); have : (60 : Int32).toInt = 60 := (by decide); omega)).symm), (show upd f7 p0.toNatClampNeg p2 = mkF f7 p0 p2 from (mf_y (by have := h_5; have := hp_p2; have := i_ne c5; have := i_le c42; have : (0 : Int32).toInt = 0 := (by decide); have : (60 : Int32).toInt = 60 := (by decide); omega)).symm), trivial⟩, hp_at ht hP⟩, hS.F ht⟩) hS.2.2 dX6_make_61
        · have h_8 : rg 0 59 x38_4 := r_lt_l_i (nle_i c42) hx38_4 (rgn 60 (x := 60) (by decide)) (by decide)
          refine lv_aload_n hx hb dX6_make_45 rfl (lv_at hl 0 rfl) ?_
          refine va_get (D := G) (ci := 6) (v := .ref a1) (C := RX6) (T := TX6) (N := 4) hx hb hts (by decide +kernel) hown hK.1 hP 0 rfl rfl 0 (by decide) (hts (.fieldLink RX6 11 "CardHolder$Rows" "numbers" "[[J") (by decide +kernel)) (fun _ h9 => h9) rfl dX6_make_46 ?_
          refine lv_iload_n hx hb dX6_make_49 rfl (lv_at hl 1 rfl) ?_
          rcases (sp4 h_5.1 (by have := h_5.2; omega)) with s50 | s50 | s50 | s50
          · refine ix_i (y := 0) s50 ?_
            have h_9 : rg 0 0 p0 := r_eq_l_i (e := 0) (f := 0) s50 h_5 (rgn 0 (x := 0) (by decide)) (by decide)
            refine va_aldL hx hb hK.1 hP 1 5 rfl rfl (in_lit (by decide)) dX6_make_50 ?_
            refine ix_r (y := .ref (rr 0)) rfl ?_
            refine lv_iload hx hb dX6_make_51 (lv_at hl 4 rfl) ?_
            refine lv_lconst (v := 0) hx hb dX6_make_53 (by decide) ?_
            refine va_last hx hb hK.1 hP hD hS 2 3 rfl rfl (in_rg h_8 (by decide)) dX6_make_54 (fun H locs hP hD hS => ?_)
            obtain ⟨z55, qz55⟩ : ∃ y : Int32, y = x38_4 + Int32.ofInt 1 := ⟨_, rfl⟩
            obtain ⟨hz55, ez55⟩ := inc_z (e := 1) (f := 60) h_8 qz55 (by decide)
            refine lv_iinc (v := z55) (lv' := [(4, .int z55), (0, .ref a0), (1, .int p0), (2, .int p1), (3, .int p2)]) hx hb dX6_make_55 hl (k := 4) rfl (qz55.symm) (by decide) rfl (fun ls hl => ?_)
            refine lv_goto (tgt := 38) hx hb dX6_make_58 (by decide) ?_
            exact ih38 z55 (vp_updL f38_2 x38_4.toNatClampNeg 0) f38_3 f38_4 f38_5 _ _ ls (by have q := hn38; have := ez55; omega) (rg_w (c := 0) (d := 60) hz55 (by decide)) hP hD hS (lv_sub hl [1, 2, 3, 4, 0] rfl)
          · refine ix_i (y := 1) s50 ?_
            have h_10 : rg 1 1 p0 := r_eq_l_i (e := 1) (f := 1) s50 h_5 (rgn 1 (x := 1) (by decide)) (by decide)
            refine va_aldL hx hb hK.1 hP 1 5 rfl rfl (in_lit (by decide)) dX6_make_50 ?_
            refine ix_r (y := .ref (rr 1)) rfl ?_
            refine lv_iload hx hb dX6_make_51 (lv_at hl 4 rfl) ?_
            refine lv_lconst (v := 0) hx hb dX6_make_53 (by decide) ?_
            refine va_last hx hb hK.1 hP hD hS 3 3 rfl rfl (in_rg h_8 (by decide)) dX6_make_54 (fun H locs hP hD hS => ?_)
            obtain ⟨z55, qz55⟩ : ∃ y : Int32, y = x38_4 + Int32.ofInt 1 := ⟨_, rfl⟩
            obtain ⟨hz55, ez55⟩ := inc_z (e := 1) (f := 60) h_8 qz55 (by decide)
            refine lv_iinc (v := z55) (lv' := [(4, .int z55), (0, .ref a0), (1, .int p0), (2, .int p1), (3, .int p2)]) hx hb dX6_make_55 hl (k := 4) rfl (qz55.symm) (by decide) rfl (fun ls hl => ?_)
            refine lv_goto (tgt := 38) hx hb dX6_make_58 (by decide) ?_
            exact ih38 z55 f38_2 (vp_updL f38_3 x38_4.toNatClampNeg 0) f38_4 f38_5 _ _ ls (by have q := hn38; have := ez55; omega) (rg_w (c := 0) (d := 60) hz55 (by decide)) hP hD hS (lv_sub hl [1, 2, 3, 4, 0] rfl)
          · refine ix_i (y := 2) s50 ?_
            have h_11 : rg 2 2 p0 := r_eq_l_i (e := 2) (f := 2) s50 h_5 (rgn 2 (x := 2) (by decide)) (by decide)
            refine va_aldL hx hb hK.1 hP 1 5 rfl rfl (in_lit (by decide)) dX6_make_50 ?_
            refine ix_r (y := .ref (rr 2)) rfl ?_
            refine lv_iload hx hb dX6_make_51 (lv_at hl 4 rfl) ?_
            refine lv_lconst (v := 0) hx hb dX6_make_53 (by decide) ?_
            refine va_last hx hb hK.1 hP hD hS 4 3 rfl rfl (in_rg h_8 (by decide)) dX6_make_54 (fun H locs hP hD hS => ?_)
            obtain ⟨z55, qz55⟩ : ∃ y : Int32, y = x38_4 + Int32.ofInt 1 := ⟨_, rfl⟩
            obtain ⟨hz55, ez55⟩ := inc_z (e := 1) (f := 60) h_8 qz55 (by decide)
            refine lv_iinc (v := z55) (lv' := [(4, .int z55), (0, .ref a0), (1, .int p0), (2, .int p1), (3, .int p2)]) hx hb dX6_make_55 hl (k := 4) rfl (qz55.symm) (by decide) rfl (fun ls hl => ?_)
            refine lv_goto (tgt := 38) hx hb dX6_make_58 (by decide) ?_
            exact ih38 z55 f38_2 f38_3 (vp_updL f38_4 x38_4.toNatClampNeg 0) f38_5 _ _ ls (by have q := hn38; have := ez55; omega) (rg_w (c := 0) (d := 60) hz55 (by decide)) hP hD hS (lv_sub hl [1, 2, 3, 4, 0] rfl)
          · refine ix_i (y := 3) s50 ?_
            have h_12 : rg 3 3 p0 := r_eq_l_i (e := 3) (f := 3) s50 h_5 (rgn 3 (x := 3) (by decide)) (by decide)
            refine va_aldL hx hb hK.1 hP 1 5 rfl rfl (in_lit (by decide)) dX6_make_50 ?_
            refine ix_r (y := .ref (rr 3)) rfl ?_
            refine lv_iload hx hb dX6_make_51 (lv_at hl 4 rfl) ?_
            refine lv_lconst (v := 0) hx hb dX6_make_53 (by decide) ?_
            refine va_last hx hb hK.1 hP hD hS 5 3 rfl rfl (in_rg h_8 (by decide)) dX6_make_54 (fun H locs hP hD hS => ?_)
            obtain ⟨z55, qz55⟩ : ∃ y : Int32, y = x38_4 + Int32.ofInt 1 := ⟨_, rfl⟩
            obtain ⟨hz55, ez55⟩ := inc_z (e := 1) (f := 60) h_8 qz55 (by decide)
            refine lv_iinc (v := z55) (lv' := [(4, .int z55), (0, .ref a0), (1, .int p0), (2, .int p1), (3, .int p2)]) hx hb dX6_make_55 hl (k := 4) rfl (qz55.symm) (by decide) rfl (fun ls hl => ?_)
            refine lv_goto (tgt := 38) hx hb dX6_make_58 (by decide) ?_
            exact ih38 z55 f38_2 f38_3 f38_4 (vp_updL f38_5 x38_4.toNatClampNeg 0) _ _ ls (by have q := hn38; have := ez55; omega) (rg_w (c := 0) (d := 60) hz55 (by decide)) hP hD hS (lv_sub hl [1, 2, 3, 4, 0] rfl)
    exact j38 4294967296 (0 : Int32) f2 f3 f4 f5 _ _ ls (ms_e (0 : Int32)) (rg_w (c := 0) (d := 60) (rgn 0 (x := 0) (by decide)) (by decide)) hP hD hS (lv_sub hl [1, 2, 3, 4, 0] rfl)
  · have h_13 : rg 0 0 r2 := r_eq_l_i (e := 0) (f := 0) c5 p_1 (rgn 0 (x := 0) (by decide)) (by decide)
    exact W.vret hx hb hr (fun t ht hW => ⟨⟨(fun k => ([n0_3] : List Int32).getD k 0, fun k => ([f6, f7] : List (Nat → Int32)).getD k (fun _ => 0), fun k => ([f2, f3, f4, f5] : List (Nat → Int64)).getD k (fun _ => 0)), rfl, ⟨hp_f7, (show n0_3 = mkK n0_3 p0 from (mk_n (by have := (p_3 (req h_13 (y := 0) (by decide))); have := hp_p2; have := congrArg Int32.toInt c5; have : (0 : Int32).toInt = 0 := (by decide); omega)).symm), (show f6 = mkF f6 p0 p1 from (mf_n (by have := (p_3 (req h_13 (y := 0) (by decide))); have := hp_p2; have := congrArg Int32.toInt c5; have : (0 : Int32).toInt = 0 := (by decide); omega)).symm), (show f7 = mkF f7 p0 p2 from (mf_n (by have := (p_3 (req h_13 (y := 0) (by decide))); have := hp_p2; have := congrArg Int32.toInt c5; have : (0 : Int32).toInt = 0 := (by decide); omega)).symm), trivial⟩, hp_at ht hP⟩, hS.F ht⟩) hS.2.2 dX6_make_8

set_option maxHeartbeats 4000000 in
set_option maxRecDepth 100000 in
theorem e_X10_row (l : Launch) (G : va_G) (ct : Nat → ClassId) (a0 : Nat) (a1 : Nat) (a3 : Nat) (a11 : Nat) (a25 : Nat) (a68 : Nat) (a69 : Nat) (a77 : Nat) (a82 : Nat) (a84 : Nat) (a88 : Nat) (a91 : Nat) (a70 : Nat) (a75 : Nat) (a76 : Nat) (n69_3 : Int32) (rr : Nat → Nat) (f71 : Nat → Int64) (f72 : Nat → Int64) (f73 : Nat → Int64) (f74 : Nat → Int64) (f75 : Nat → Int32) (f76 : Nat → Int32) (p0 : Int32) (p1 : Int32) (p2 : Int32) (hp_f76 : ar 0 60 f76) : Met l yX10_row wsX10_row ({ frames := 2, cells := 0, slots := 0, locals := 45 }) (va_Pc [.ref a0, .int p0, .int p1, .int p2] (wrP G ct [(a0, .inr (10, [.ref a1, .ref a3, .ref a11, .ref a25, .ref a68, .ref a69, .ref a77, .ref a82, .ref a84, .ref a88, .ref a91])), (a69, .inr (6, [.ref a70, .ref a75, .ref a76, .int n69_3])), (a70, .inl (ct 5, 4, .inr (.inr (.inr (.inr (fun i => if i < 4 then some (rr i) else none)))))), ((rr 0), .inl (ct 3, 60, .inr (.inl f71))), ((rr 1), .inl (ct 3, 60, .inr (.inl f72))), ((rr 2), .inl (ct 3, 60, .inr (.inl f73))), ((rr 3), .inl (ct 3, 60, .inr (.inl f74))), (a75, .inl (ct 0, 4, .inl f75)), (a76, .inl (ct 0, 4, .inl f76))])) (va_Qi (fun (r : Int32) (u : SU) => rg (-3) 0 r ∧ (r = 0 → rg 0 3 p0) ∧ (¬ r = (-2) → rg 0 3 p0) ∧ (r = 0 → rg 0 3 p1) ∧ (¬ r = (-2) → rg 0 3 p1) ∧ (r = 0 → rg 0 60 p2) ∧ (¬ r = (-2) → rg (-2147483648) 60 p2) ∧ ar 0 60 (u.2.1 1) ∧ r = rwA p0 p1 p2 ∧ (r = 0 → (u.1 0) = mkK n69_3 p0) ∧ (r = 0 → (u.2.1 0) = mkF f75 p0 p1) ∧ (r = 0 → (u.2.1 1) = mkF f76 p0 p2) ∧ (¬ r = 0 → (u.1 0) = n69_3) ∧ (¬ r = 0 → (u.2.1 0) = f75) ∧ (¬ r = 0 → (u.2.1 1) = f76) ∧ True) (fun u t => va_P G vwCl ((fun u : SU => [(a0, .inr (10, [.ref a1, .ref a3, .ref a11, .ref a25, .ref a68, .ref a69, .ref a77, .ref a82, .ref a84, .ref a88, .ref a91])), (a69, .inr (6, [.ref a70, .ref a75, .ref a76, .int (u.1 0)])), (a70, .inl (ct 5, 4, .inr (.inr (.inr (.inr (fun i => if i < 4 then some (rr i) else none)))))), ((rr 0), .inl (ct 3, 60, .inr (.inl (u.2.2 0)))), ((rr 1), .inl (ct 3, 60, .inr (.inl (u.2.2 1)))), ((rr 2), .inl (ct 3, 60, .inr (.inl (u.2.2 2)))), ((rr 3), .inl (ct 3, 60, .inr (.inl (u.2.2 3)))), (a75, .inl (ct 0, 4, .inl (u.2.1 0))), (a76, .inl (ct 0, 4, .inl (u.2.1 1)))]) u) t.heap) (aset [(a0, .inr (10, [.ref a1, .ref a3, .ref a11, .ref a25, .ref a68, .ref a69, .ref a77, .ref a82, .ref a84, .ref a88, .ref a91])), (a69, .inr (6, [.ref a70, .ref a75, .ref a76, .int n69_3])), (a70, .inl (ct 5, 4, .inr (.inr (.inr (.inr (fun i => if i < 4 then some (rr i) else none)))))), ((rr 0), .inl (ct 3, 60, .inr (.inl f71))), ((rr 1), .inl (ct 3, 60, .inr (.inl f72))), ((rr 2), .inl (ct 3, 60, .inr (.inl f73))), ((rr 3), .inl (ct 3, 60, .inr (.inl f74))), (a75, .inl (ct 0, 4, .inl f75)), (a76, .inl (ct 0, 4, .inl f76))])) 0 0 (aset [(a0, .inr (10, [.ref a1, .ref a3, .ref a11, .ref a25, .ref a68, .ref a69, .ref a77, .ref a82, .ref a84, .ref a88, .ref a91])), (a69, .inr (6, [.ref a70, .ref a75, .ref a76, .int n69_3])), (a70, .inl (ct 5, 4, .inr (.inr (.inr (.inr (fun i => if i < 4 then some (rr i) else none)))))), ((rr 0), .inl (ct 3, 60, .inr (.inl f71))), ((rr 1), .inl (ct 3, 60, .inr (.inl f72))), ((rr 2), .inl (ct 3, 60, .inr (.inl f73))), ((rr 3), .inl (ct 3, 60, .inr (.inl f74))), (a75, .inl (ct 0, 4, .inl f75)), (a76, .inl (ct 0, 4, .inl f76))]) := by
  refine Met.ofW (cc := cX10_row) (maxL := 4) (ret := (some .int)) (by decide) rfl ?_
  intro p e s m args below meth c s₁ B hml hv
  obtain ⟨rfl, hP, hK, hD0⟩ := hv
  have hx := B.exec
  have hb := B.bytes
  have hr := B.returns
  have hts := atoms_spec (ws := wsX10_row) B.pre
  have hown : s.vm.findClass RX10 = some m.cls := findClass_of_methodNamed B.named
  have hlocks := B.notSynchronized
  have hD := hD0.aself
  generalize hAe : aset [(a0, .inr (10, [.ref a1, .ref a3, .ref a11, .ref a25, .ref a68, .ref a69, .ref a77, .ref a82, .ref a84, .ref a88, .ref a91])), (a69, .inr (6, [.ref a70, .ref a75, .ref a76, .int n69_3])), (a70, .inl (ct 5, 4, .inr (.inr (.inr (.inr (fun i => if i < 4 then some (rr i) else none)))))), ((rr 0), .inl (ct 3, 60, .inr (.inl f71))), ((rr 1), .inl (ct 3, 60, .inr (.inl f72))), ((rr 2), .inl (ct 3, 60, .inr (.inl f73))), ((rr 3), .inl (ct 3, 60, .inr (.inl f74))), (a75, .inl (ct 0, 4, .inl f75)), (a76, .inl (ct 0, 4, .inl f76))] = A at hD ⊢
  have hS : va_S A s.heap s.heap [] := va_S.rf
  have hl := lv_entry ([.ref a0, .int p0, .int p1, .int p2]) (n := 4) (Nat.le_of_ble_eq_true rfl)
  rw [lg_entry_eq]
  generalize (lg_sl ([.ref a0, .int p0, .int p1, .int p2]) ++ List.replicate (4 - (lg_sl ([.ref a0, .int p0, .int p1, .int p2])).length) Slot.unset).toArray = ls at hl ⊢
  have hl : lv_has ls 4 [(0, .ref a0), (1, .int p0), (2, .int p1), (3, .int p2)] := hl
  refine lv_aload_n hx hb dX10_row_0 rfl (lv_at hl 0 rfl) ?_
  refine va_get (D := G) (ci := 10) (v := .ref a69) (C := RX10) (T := TX10) (N := 11) hx hb hts (by decide +kernel) hown hK.1 hP 0 rfl rfl 5 (by decide) (hts (.fieldLink RX10 43 "CardHolder" "rows" "LCardHolder$Rows;") (by decide +kernel)) (fun _ h9 => h9) rfl dX10_row_1 ?_
  refine lv_iload_n hx hb dX10_row_4 rfl (lv_at hl 1 rfl) ?_
  refine ro_calli (va_runV (As := [.int p0]) (rest := []) ⟨hx, hb, hml, hown, hts⟩ (e_X6_isSlot l G ct a69 a70 a75 a76 n69_3 p0) (cwV 1 hts gX10_row_X6_isSlot rfl rfl rfl (by decide +kernel) ⟨Nat.le_of_ble_eq_true rfl, Nat.le_of_ble_eq_true rfl⟩) (ro_preV 6 0 hK (hP.sub [1] rfl) rfl rfl) rfl rfl hl.1 rfl (lv_room (Nat.le_of_ble_eq_true rfl)) dX10_row_5 ⟨Nat.zero_le _, Nat.zero_le _⟩) hS hP (fun r5 H locs wr5 hP hS => ?_)
  obtain ⟨p_1, p_2, p_3, -⟩ := wr5
  refine lv_if_eq (tgt := 26) hx hb dX10_row_8 (by decide) (fun c8 => ?_) (fun c8 => ?_)
  · have h_4 : rg 0 0 r5 := r_eq_l_i (e := 0) (f := 0) c8 p_1 (rgn 0 (x := 0) (by decide)) (by decide)
    refine lv_bipush (v := (-2)) hx hb dX10_row_26 (by decide) ?_
    exact W.iret (v := (-2)) hx hb hr (fun t ht hW => ⟨⟨(-2), (fun k => ([n69_3] : List Int32).getD k 0, fun k => ([f75, f76] : List (Nat → Int32)).getD k (fun _ => 0), fun k => ([f71, f72, f73, f74] : List (Nat → Int64)).getD k (fun _ => 0)), rfl, ⟨(rg_w (c := (-3)) (d := 0) (rgn (-2) (x := (-2)) (by decide)) (by decide)), (fun hq => absurd hq (rne (rgn (-2) (x := (-2)) (by decide)) (y := 0) (c := 0) (by decide) (by decide))), (fun hq => absurd (req (rgn (-2) (x := (-2)) (by decide)) (y := (-2)) (by decide)) hq), (fun hq => absurd hq (rne (rgn (-2) (x := (-2)) (by decide)) (y := 0) (c := 0) (by decide) (by decide))), (fun hq => absurd (req (rgn (-2) (x := (-2)) (by decide)) (y := (-2)) (by decide)) hq), (fun hq => absurd hq (rne (rgn (-2) (x := (-2)) (by decide)) (y := 0) (c := 0) (by decide) (by decide))), (fun hq => absurd (req (rgn (-2) (x := (-2)) (by decide)) (y := (-2)) (by decide)) hq), hp_f76, (by show (-2) = rwA p0 p1 p2; unfold rwA; have h8 := p_3 (req h_4 (y := 0) (by decide)); (repeat' split) <;> first | rfl | (exfalso; omega)), (fun hq => absurd hq (by decide)), (fun hq => absurd hq (by decide)), (fun hq => absurd hq (by decide)), (fun _ => rfl), (fun _ => rfl), (fun _ => rfl), trivial⟩, hp_at ht hP⟩, hS.F ht⟩) hS.2.2 dX10_row_28
  · have h_5 : rg 1 1 r5 := r_ne_lo_i c8 p_1 (by decide) (by decide)
    have h_6 : rg 0 3 p0 := (p_2 (rne h_5 (y := 0) (c := 0) (by decide) (by decide)))
    refine lv_iload_n hx hb dX10_row_11 rfl (lv_at hl 2 rfl) ?_
    refine lv_if_lt (tgt := 26) hx hb dX10_row_12 (by decide) (fun c12 => ?_) (fun c12 => ?_)
    · have h_7 : rg (-2147483648) (-1) p1 := r_lt_l_i c12 (rg_t p1) (rgn 0 (x := 0) (by decide)) (by decide)
      refine lv_bipush (v := (-2)) hx hb dX10_row_26 (by decide) ?_
      exact W.iret (v := (-2)) hx hb hr (fun t ht hW => ⟨⟨(-2), (fun k => ([n69_3] : List Int32).getD k 0, fun k => ([f75, f76] : List (Nat → Int32)).getD k (fun _ => 0), fun k => ([f71, f72, f73, f74] : List (Nat → Int64)).getD k (fun _ => 0)), rfl, ⟨(rg_w (c := (-3)) (d := 0) (rgn (-2) (x := (-2)) (by decide)) (by decide)), (fun _ => h_6), (fun _ => h_6), (fun hq => absurd hq (rne (rgn (-2) (x := (-2)) (by decide)) (y := 0) (c := 0) (by decide) (by decide))), (fun hq => absurd (req (rgn (-2) (x := (-2)) (by decide)) (y := (-2)) (by decide)) hq), (fun hq => absurd hq (rne (rgn (-2) (x := (-2)) (by decide)) (y := 0) (c := 0) (by decide) (by decide))), (fun hq => absurd (req (rgn (-2) (x := (-2)) (by decide)) (y := (-2)) (by decide)) hq), hp_f76, (by show (-2) = rwA p0 p1 p2; unfold rwA; have := h_6; have := h_7; (repeat' split) <;> first | rfl | (exfalso; omega)), (fun hq => absurd hq (by decide)), (fun hq => absurd hq (by decide)), (fun hq => absurd hq (by decide)), (fun _ => rfl), (fun _ => rfl), (fun _ => rfl), trivial⟩, hp_at ht hP⟩, hS.F ht⟩) hS.2.2 dX10_row_28
    · have h_8 : rg 0 2147483647 p1 := r_le_r_i (nlt_i c12) (rgn 0 (x := 0) (by decide)) (rg_t p1)
      refine lv_iload_n hx hb dX10_row_15 rfl (lv_at hl 2 rfl) ?_
      refine lv_iconst (v := 3) hx hb dX10_row_16 (by decide) ?_
      refine lv_icmp_gt (tgt := 26) hx hb dX10_row_17 (by decide) (fun c17 => ?_) (fun c17 => ?_)
      · have h_9 : rg 4 2147483647 p1 := r_lt_r_i c17 (rgn 3 (x := 3) (by decide)) h_8 (by decide)
        refine lv_bipush (v := (-2)) hx hb dX10_row_26 (by decide) ?_
        exact W.iret (v := (-2)) hx hb hr (fun t ht hW => ⟨⟨(-2), (fun k => ([n69_3] : List Int32).getD k 0, fun k => ([f75, f76] : List (Nat → Int32)).getD k (fun _ => 0), fun k => ([f71, f72, f73, f74] : List (Nat → Int64)).getD k (fun _ => 0)), rfl, ⟨(rg_w (c := (-3)) (d := 0) (rgn (-2) (x := (-2)) (by decide)) (by decide)), (fun _ => h_6), (fun _ => h_6), (fun hq => absurd hq (rne (rgn (-2) (x := (-2)) (by decide)) (y := 0) (c := 0) (by decide) (by decide))), (fun hq => absurd (req (rgn (-2) (x := (-2)) (by decide)) (y := (-2)) (by decide)) hq), (fun hq => absurd hq (rne (rgn (-2) (x := (-2)) (by decide)) (y := 0) (c := 0) (by decide) (by decide))), (fun hq => absurd (req (rgn (-2) (x := (-2)) (by decide)) (y := (-2)) (by decide)) hq), hp_f76, (by show (-2) = rwA p0 p1 p2; unfold rwA; have := h_6; have := h_9; (repeat' split) <;> first | rfl | (exfalso; omega)), (fun hq => absurd hq (by decide)), (fun hq => absurd hq (by decide)), (fun hq => absurd hq (by decide)), (fun _ => rfl), (fun _ => rfl), (fun _ => rfl), trivial⟩, hp_at ht hP⟩, hS.F ht⟩) hS.2.2 dX10_row_28
      · have h_10 : rg 0 3 p1 := r_le_l_i (nlt_i c17) h_8 (rgn 3 (x := 3) (by decide))
        refine lv_iload_n hx hb dX10_row_20 rfl (lv_at hl 3 rfl) ?_
        refine lv_bipush (v := 60) hx hb dX10_row_21 (by decide) ?_
        refine lv_icmp_le (tgt := 29) hx hb dX10_row_23 (by decide) (fun c23 => ?_) (fun c23 => ?_)
        · have h_11 : rg (-2147483648) 60 p2 := r_le_l_i c23 (rg_t p2) (rgn 60 (x := 60) (by decide))
          refine lv_iload_n hx hb dX10_row_29 rfl (lv_at hl 3 rfl) ?_
          refine lv_if_ge (tgt := 36) hx hb dX10_row_30 (by decide) (fun c30 => ?_) (fun c30 => ?_)
          · have h_12 : rg 0 60 p2 := r_le_r_i c30 (rgn 0 (x := 0) (by decide)) h_11
            refine lv_aload_n hx hb dX10_row_36 rfl (lv_at hl 0 rfl) ?_
            refine va_get (D := G) (ci := 10) (v := .ref a69) (C := RX10) (T := TX10) (N := 11) hx hb hts (by decide +kernel) hown hK.1 hP 0 rfl rfl 5 (by decide) (hts (.fieldLink RX10 43 "CardHolder" "rows" "LCardHolder$Rows;") (by decide +kernel)) (fun _ h9 => h9) rfl dX10_row_37 ?_
            refine lv_iload_n hx hb dX10_row_40 rfl (lv_at hl 1 rfl) ?_
            refine lv_iload_n hx hb dX10_row_41 rfl (lv_at hl 2 rfl) ?_
            refine lv_iload_n hx hb dX10_row_42 rfl (lv_at hl 3 rfl) ?_
            refine wj_callv (wr := [(a0, .inr (10, [.ref a1, .ref a3, .ref a11, .ref a25, .ref a68, .ref a69, .ref a77, .ref a82, .ref a84, .ref a88, .ref a91]))]) (w1 := (fun u : SU => [(a69, .inr (6, [.ref a70, .ref a75, .ref a76, .int (u.1 0)])), (a70, .inl (ct 5, 4, .inr (.inr (.inr (.inr (fun i => if i < 4 then some (rr i) else none)))))), ((rr 0), .inl (ct 3, 60, .inr (.inl (u.2.2 0)))), ((rr 1), .inl (ct 3, 60, .inr (.inl (u.2.2 1)))), ((rr 2), .inl (ct 3, 60, .inr (.inl (u.2.2 2)))), ((rr 3), .inl (ct 3, 60, .inr (.inl (u.2.2 3)))), (a75, .inl (ct 0, 4, .inl (u.2.1 0))), (a76, .inl (ct 0, 4, .inl (u.2.1 1)))])) (va_runV (As := [.int p0, .int p1, .int p2]) (rest := []) ⟨hx, hb, hml, hown, hts⟩ (e_X6_make l G ct a69 a70 a75 a76 n69_3 rr f71 f72 f73 f74 f75 f76 p0 p1 p2 hp_f76 h_12) (cwV 3 hts gX10_row_X6_make rfl rfl rfl (by decide +kernel) ⟨Nat.le_of_ble_eq_true rfl, Nat.le_of_ble_eq_true rfl⟩) (wr_preV 6 0 hK (hP.sub [1, 2, 3, 4, 5, 6, 7, 8] rfl) (hD.sub [1, 2, 3, 4, 5, 6, 7, 8] (by decide) rfl) rfl rfl) rfl rfl hl.1 rfl (lv_room (Nat.le_of_ble_eq_true rfl)) dX10_row_43 ⟨Nat.zero_le _, Nat.zero_le _⟩) hS hP hD [1, 2, 3, 4, 5, 6, 7, 8] [0] rfl rfl (by decide) (fun _ => rfl) (fun ur43 H locs wr43 hP hD hS => ?_)
            have hP : va_P G vwCl [(a0, .inr (10, [.ref a1, .ref a3, .ref a11, .ref a25, .ref a68, .ref a69, .ref a77, .ref a82, .ref a84, .ref a88, .ref a91])), (a69, .inr (6, [.ref a70, .ref a75, .ref a76, .int (ur43.1 0)])), (a70, .inl (ct 5, 4, .inr (.inr (.inr (.inr (fun i => if i < 4 then some (rr i) else none)))))), ((rr 0), .inl (ct 3, 60, .inr (.inl (ur43.2.2 0)))), ((rr 1), .inl (ct 3, 60, .inr (.inl (ur43.2.2 1)))), ((rr 2), .inl (ct 3, 60, .inr (.inl (ur43.2.2 2)))), ((rr 3), .inl (ct 3, 60, .inr (.inl (ur43.2.2 3)))), (a75, .inl (ct 0, 4, .inl (ur43.2.1 0))), (a76, .inl (ct 0, 4, .inl (ur43.2.1 1)))] H := hP.sub [0, 1, 2, 3, 4, 5, 6, 7, 8] rfl
            have hD : va_D A [(a0, .inr (10, [.ref a1, .ref a3, .ref a11, .ref a25, .ref a68, .ref a69, .ref a77, .ref a82, .ref a84, .ref a88, .ref a91])), (a69, .inr (6, [.ref a70, .ref a75, .ref a76, .int (ur43.1 0)])), (a70, .inl (ct 5, 4, .inr (.inr (.inr (.inr (fun i => if i < 4 then some (rr i) else none)))))), ((rr 0), .inl (ct 3, 60, .inr (.inl (ur43.2.2 0)))), ((rr 1), .inl (ct 3, 60, .inr (.inl (ur43.2.2 1)))), ((rr 2), .inl (ct 3, 60, .inr (.inl (ur43.2.2 2)))), ((rr 3), .inl (ct 3, 60, .inr (.inl (ur43.2.2 3)))), (a75, .inl (ct 0, 4, .inl (ur43.2.1 0))), (a76, .inl (ct 0, 4, .inl (ur43.2.1 1)))] := hD.sub [0, 1, 2, 3, 4, 5, 6, 7, 8] (by decide) rfl
            obtain ⟨p_13, p_14, p_15, p_16, -⟩ := wr43
            refine lv_iconst (v := 0) hx hb dX10_row_46 (by decide) ?_
            exact W.iret (v := 0) hx hb hr (fun t ht hW => ⟨⟨0, (fun k => ([ur43.1 0] : List Int32).getD k 0, fun k => ([ur43.2.1 0, ur43.2.1 1] : List (Nat → Int32)).getD k (fun _ => 0), fun k => ([ur43.2.2 0, ur43.2.2 1, ur43.2.2 2, ur43.2.2 3] : List (Nat → Int64)).getD k (fun _ => 0)), rfl, ⟨(rg_w (c := (-3)) (d := 0) (rgn 0 (x := 0) (by decide)) (by decide)), (fun _ => h_6), (fun _ => h_6), (fun _ => h_10), (fun _ => h_10), (fun _ => h_12), (fun _ => (rg_w (c := (-2147483648)) (d := 60) h_12 (by decide))), p_13, (by show 0 = rwA p0 p1 p2; unfold rwA; have := h_6; have := h_10; have := h_12; (repeat' split) <;> first | rfl | (exfalso; omega)), (fun _ => p_14), (fun _ => p_15), (fun _ => p_16), (fun hq => absurd rfl hq), (fun hq => absurd rfl hq), (fun hq => absurd rfl hq), trivial⟩, hp_at ht hP⟩, hS.F ht⟩) hS.2.2 dX10_row_47
          · have h_17 : rg (-2147483648) (-1) p2 := r_lt_l_i (nle_i c30) h_11 (rgn 0 (x := 0) (by decide)) (by decide)
            refine lv_bipush (v := (-3)) hx hb dX10_row_33 (by decide) ?_
            exact W.iret (v := (-3)) hx hb hr (fun t ht hW => ⟨⟨(-3), (fun k => ([n69_3] : List Int32).getD k 0, fun k => ([f75, f76] : List (Nat → Int32)).getD k (fun _ => 0), fun k => ([f71, f72, f73, f74] : List (Nat → Int64)).getD k (fun _ => 0)), rfl, ⟨(rg_w (c := (-3)) (d := 0) (rgn (-3) (x := (-3)) (by decide)) (by decide)), (fun _ => h_6), (fun _ => h_6), (fun _ => h_10), (fun _ => h_10), (fun hq => absurd hq (rne (rgn (-3) (x := (-3)) (by decide)) (y := 0) (c := 0) (by decide) (by decide))), (fun _ => (rg_w (c := (-2147483648)) (d := 60) h_17 (by decide))), hp_f76, (by show (-3) = rwA p0 p1 p2; unfold rwA; have := h_6; have := h_10; have := h_17; (repeat' split) <;> first | rfl | (exfalso; omega)), (fun hq => absurd hq (by decide)), (fun hq => absurd hq (by decide)), (fun hq => absurd hq (by decide)), (fun _ => rfl), (fun _ => rfl), (fun _ => rfl), trivial⟩, hp_at ht hP⟩, hS.F ht⟩) hS.2.2 dX10_row_35
        · have h_18 : rg 61 2147483647 p2 := r_lt_r_i (nle_i c23) (rgn 60 (x := 60) (by decide)) (rg_t p2) (by decide)
          refine lv_bipush (v := (-2)) hx hb dX10_row_26 (by decide) ?_
          exact W.iret (v := (-2)) hx hb hr (fun t ht hW => ⟨⟨(-2), (fun k => ([n69_3] : List Int32).getD k 0, fun k => ([f75, f76] : List (Nat → Int32)).getD k (fun _ => 0), fun k => ([f71, f72, f73, f74] : List (Nat → Int64)).getD k (fun _ => 0)), rfl, ⟨(rg_w (c := (-3)) (d := 0) (rgn (-2) (x := (-2)) (by decide)) (by decide)), (fun _ => h_6), (fun _ => h_6), (fun _ => h_10), (fun _ => h_10), (fun hq => absurd hq (rne (rgn (-2) (x := (-2)) (by decide)) (y := 0) (c := 0) (by decide) (by decide))), (fun hq => absurd (req (rgn (-2) (x := (-2)) (by decide)) (y := (-2)) (by decide)) hq), hp_f76, (by show (-2) = rwA p0 p1 p2; unfold rwA; have := h_6; have := h_10; have := h_18; (repeat' split) <;> first | rfl | (exfalso; omega)), (fun hq => absurd hq (by decide)), (fun hq => absurd hq (by decide)), (fun hq => absurd hq (by decide)), (fun _ => rfl), (fun _ => rfl), (fun _ => rfl), trivial⟩, hp_at ht hP⟩, hS.F ht⟩) hS.2.2 dX10_row_28

set_option maxHeartbeats 4000000 in
set_option maxRecDepth 100000 in
theorem e_X11_row (l : Launch) (G : va_G) (ct : Nat → ClassId) (a0 : Nat) (n0_0 : Int32) (a1 : Nat) (a2 : Nat) (a3 : Nat) (a4 : Nat) (a5 : Nat) (n0_6 : Int32) (n0_7 : Int32) (n0_8 : Int32) (n0_9 : Int32) (n0_10 : Int32) (l0_11 : Int64) (n0_12 : Int32) (n0_13 : Int32) (n0_14 : Int32) (n0_15 : Int32) (a6 : Nat) (a7 : Nat) (a8 : Nat) (a9 : Nat) (a10 : Nat) (a11 : Nat) (a12 : Nat) (a13 : Nat) (n0_24 : Int32) (n0_25 : Int32) (n0_26 : Int32) (n0_27 : Int32) (a14 : Nat) (n0_29 : Int32) (n0_30 : Int32) (f1 : Nat → Int32) (f2 : Nat → Int32) (f3 : Nat → Int64) (p0 : Int32) (p1 : Int32) (p2 : Int32) (hp_f2 : ar 0 60 f2) (hp_n0_6 : rg 0 900 n0_6) : Met l yX11_row wsX11_row ({ frames := 2, cells := 0, slots := 0, locals := 45 }) (va_Pc [.ref a0, .int p0, .int p1, .int p2] (wrP G ct [(a0, .inr (11, [.int n0_0, .ref a1, .ref a2, .ref a3, .ref a4, .ref a5, .int n0_6, .int n0_7, .int n0_8, .int n0_9, .int n0_10, .long l0_11, .int n0_12, .int n0_13, .int n0_14, .int n0_15, .ref a6, .ref a7, .ref a8, .ref a9, .ref a10, .ref a11, .ref a12, .ref a13, .int n0_24, .int n0_25, .int n0_26, .int n0_27, .ref a14, .int n0_29, .int n0_30])), (a1, .inl (ct 0, 4, .inl f1)), (a2, .inl (ct 0, 4, .inl f2)), (a3, .inl (ct 3, 240, .inr (.inl f3)))])) (va_Qi (fun (r : Int32) (u : SU) => rg (-3) 0 r ∧ (r = 0 → rg 0 3 p0) ∧ (¬ r = (-2) → rg 0 3 p0) ∧ (r = 0 → rg 0 3 p1) ∧ (¬ r = (-2) → rg 0 3 p1) ∧ (r = 0 → rg 0 60 p2) ∧ (¬ r = (-2) → rg (-2147483648) 60 p2) ∧ ar 0 60 (u.2.1 1) ∧ rg 0 0 (u.1 0) ∧ r = rwA p0 p1 p2 ∧ (r = 0 → (u.2.1 0) = mkF f1 p0 p1) ∧ (r = 0 → (u.2.1 1) = mkF f2 p0 p2) ∧ (¬ r = 0 → (u.2.1 0) = f1) ∧ (¬ r = 0 → (u.2.1 1) = f2) ∧ True) (fun u t => va_P G vwCl ((fun u : SU => [(a0, .inr (11, [.int (u.1 0), .ref a1, .ref a2, .ref a3, .ref a4, .ref a5, .int n0_6, .int n0_7, .int n0_8, .int n0_9, .int n0_10, .long l0_11, .int n0_12, .int n0_13, .int n0_14, .int n0_15, .ref a6, .ref a7, .ref a8, .ref a9, .ref a10, .ref a11, .ref a12, .ref a13, .int n0_24, .int n0_25, .int n0_26, .int n0_27, .ref a14, .int n0_29, .int n0_30])), (a1, .inl (ct 0, 4, .inl (u.2.1 0))), (a2, .inl (ct 0, 4, .inl (u.2.1 1))), (a3, .inl (ct 3, 240, .inr (.inl (u.2.2 0))))]) u) t.heap) (aset [(a0, .inr (11, [.int n0_0, .ref a1, .ref a2, .ref a3, .ref a4, .ref a5, .int n0_6, .int n0_7, .int n0_8, .int n0_9, .int n0_10, .long l0_11, .int n0_12, .int n0_13, .int n0_14, .int n0_15, .ref a6, .ref a7, .ref a8, .ref a9, .ref a10, .ref a11, .ref a12, .ref a13, .int n0_24, .int n0_25, .int n0_26, .int n0_27, .ref a14, .int n0_29, .int n0_30])), (a1, .inl (ct 0, 4, .inl f1)), (a2, .inl (ct 0, 4, .inl f2)), (a3, .inl (ct 3, 240, .inr (.inl f3)))])) 0 0 (aset [(a0, .inr (11, [.int n0_0, .ref a1, .ref a2, .ref a3, .ref a4, .ref a5, .int n0_6, .int n0_7, .int n0_8, .int n0_9, .int n0_10, .long l0_11, .int n0_12, .int n0_13, .int n0_14, .int n0_15, .ref a6, .ref a7, .ref a8, .ref a9, .ref a10, .ref a11, .ref a12, .ref a13, .int n0_24, .int n0_25, .int n0_26, .int n0_27, .ref a14, .int n0_29, .int n0_30])), (a1, .inl (ct 0, 4, .inl f1)), (a2, .inl (ct 0, 4, .inl f2)), (a3, .inl (ct 3, 240, .inr (.inl f3)))]) := by
  refine Met.ofW (cc := cX11_row) (maxL := 5) (ret := (some .int)) (by decide) rfl ?_
  intro p e s m args below meth c s₁ B hml hv
  obtain ⟨rfl, hP, hK, hD0⟩ := hv
  have hx := B.exec
  have hb := B.bytes
  have hr := B.returns
  have hts := atoms_spec (ws := wsX11_row) B.pre
  have hown : s.vm.findClass RX11 = some m.cls := findClass_of_methodNamed B.named
  have hlocks := B.notSynchronized
  have hD := hD0.aself
  generalize hAe : aset [(a0, .inr (11, [.int n0_0, .ref a1, .ref a2, .ref a3, .ref a4, .ref a5, .int n0_6, .int n0_7, .int n0_8, .int n0_9, .int n0_10, .long l0_11, .int n0_12, .int n0_13, .int n0_14, .int n0_15, .ref a6, .ref a7, .ref a8, .ref a9, .ref a10, .ref a11, .ref a12, .ref a13, .int n0_24, .int n0_25, .int n0_26, .int n0_27, .ref a14, .int n0_29, .int n0_30])), (a1, .inl (ct 0, 4, .inl f1)), (a2, .inl (ct 0, 4, .inl f2)), (a3, .inl (ct 3, 240, .inr (.inl f3)))] = A at hD ⊢
  have hS : va_S A s.heap s.heap [] := va_S.rf
  have hl := lv_entry ([.ref a0, .int p0, .int p1, .int p2]) (n := 5) (Nat.le_of_ble_eq_true rfl)
  rw [lg_entry_eq]
  generalize (lg_sl ([.ref a0, .int p0, .int p1, .int p2]) ++ List.replicate (5 - (lg_sl ([.ref a0, .int p0, .int p1, .int p2])).length) Slot.unset).toArray = ls at hl ⊢
  have hl : lv_has ls 5 [(0, .ref a0), (1, .int p0), (2, .int p1), (3, .int p2)] := hl
  refine lv_aload_n hx hb dX11_row_0 rfl (lv_at hl 0 rfl) ?_
  refine lv_iconst (v := 0) hx hb dX11_row_1 (by decide) ?_
  refine va_put (D := G) (ci := 11) (v := .int 0) (ty := .int) (C := RX11) (T := TX11) (N := 31) hx hb hts (by decide +kernel) tyX11 tyX11_ok nmX11 hown hK.1 hP hD hS 0 rfl rfl 0 (by decide) (hts (.fieldLink RX11 59 "CardHolderModel" "thrown" "I") (by decide +kernel)) (fun _ h9 => h9) rfl (by decide +kernel) rfl rfl (Nat.le_of_ble_eq_true rfl) dX11_row_2 (fun H locs hP hD hS => ?_)
  refine lv_iload_n hx hb dX11_row_5 rfl (lv_at hl 1 rfl) ?_
  refine ro_calli (va_runS (As := [.int p0]) (rest := []) ⟨hx, hb, hml, hown, hts⟩ (e_X11_isSlot l G ct p0) (va_cwS 1 hts gX11_row_X11_isSlot rfl rfl rfl (by decide +kernel) ⟨Nat.le_of_ble_eq_true rfl, Nat.le_of_ble_eq_true rfl⟩) (ro_pre hK (hP.sub [] rfl)) rfl rfl hl.1 rfl (lv_room (Nat.le_of_ble_eq_true rfl)) dX11_row_6 ⟨Nat.zero_le _, Nat.zero_le _⟩) hS hP (fun r6 H locs wr6 hP hS => ?_)
  obtain ⟨p_1, p_2, p_3, -⟩ := wr6
  refine lv_if_eq (tgt := 30) hx hb dX11_row_9 (by decide) (fun c9 => ?_) (fun c9 => ?_)
  · have h_4 : rg 0 0 r6 := r_eq_l_i (e := 0) (f := 0) c9 p_1 (rgn 0 (x := 0) (by decide)) (by decide)
    refine lv_bipush (v := (-2)) hx hb dX11_row_30 (by decide) ?_
    exact W.iret (v := (-2)) hx hb hr (fun t ht hW => ⟨⟨(-2), (fun k => ([0] : List Int32).getD k 0, fun k => ([f1, f2] : List (Nat → Int32)).getD k (fun _ => 0), fun k => ([f3] : List (Nat → Int64)).getD k (fun _ => 0)), rfl, ⟨(rg_w (c := (-3)) (d := 0) (rgn (-2) (x := (-2)) (by decide)) (by decide)), (fun hq => absurd hq (rne (rgn (-2) (x := (-2)) (by decide)) (y := 0) (c := 0) (by decide) (by decide))), (fun hq => absurd (req (rgn (-2) (x := (-2)) (by decide)) (y := (-2)) (by decide)) hq), (fun hq => absurd hq (rne (rgn (-2) (x := (-2)) (by decide)) (y := 0) (c := 0) (by decide) (by decide))), (fun hq => absurd (req (rgn (-2) (x := (-2)) (by decide)) (y := (-2)) (by decide)) hq), (fun hq => absurd hq (rne (rgn (-2) (x := (-2)) (by decide)) (y := 0) (c := 0) (by decide) (by decide))), (fun hq => absurd (req (rgn (-2) (x := (-2)) (by decide)) (y := (-2)) (by decide)) hq), hp_f2, (rgn 0 (x := 0) (by decide)), (by show (-2) = rwA p0 p1 p2; unfold rwA; have h8 := p_3 (req h_4 (y := 0) (by decide)); (repeat' split) <;> first | rfl | (exfalso; omega)), (fun hq => absurd hq (by decide)), (fun hq => absurd hq (by decide)), (fun _ => rfl), (fun _ => rfl), trivial⟩, hp_at ht hP⟩, hS.F ht⟩) hS.2.2 dX11_row_32
  · have h_5 : rg 1 1 r6 := r_ne_lo_i c9 p_1 (by decide) (by decide)
    have h_6 : rg 0 3 p0 := (p_2 (rne h_5 (y := 0) (c := 0) (by decide) (by decide)))
    refine lv_iload_n hx hb dX11_row_12 rfl (lv_at hl 2 rfl) ?_
    refine lv_i2l hx hb dX11_row_13 rfl ?_
    refine nl_i2l (rg_t p1) (fun z13 hz13 ez13 => ?_)
    refine lv_lconst (v := 0) hx hb dX11_row_14 (by decide) ?_
    refine lv_ldc2 (own := RX11) (v := 3) hx hb hown (hts (.constantLong RX11 62 (3)) (by decide +kernel)) dX11_row_15 ?_
    refine ro_calli (va_runS (As := [.long z13, .long 0, .long 3]) (rest := []) ⟨hx, hb, hml, hown, hts⟩ (e_X11_in l G ct z13 (0 : Int64) (3 : Int64)) (va_cwS 3 hts gX11_row_X11_in rfl rfl rfl (by decide +kernel) ⟨Nat.le_of_ble_eq_true rfl, Nat.le_of_ble_eq_true rfl⟩) (ro_pre hK (hP.sub [] rfl)) rfl rfl hl.1 rfl (lv_room (Nat.le_of_ble_eq_true rfl)) dX11_row_18 ⟨Nat.zero_le _, Nat.zero_le _⟩) hS hP (fun r18 H locs wr18 hP hS => ?_)
    obtain ⟨p_7, p_8, p_9, p_10, -⟩ := wr18
    refine lv_if_eq (tgt := 30) hx hb dX11_row_21 (by decide) (fun c21 => ?_) (fun c21 => ?_)
    · have h_11 : rg 0 0 r18 := r_eq_l_i (e := 0) (f := 0) c21 p_7 (rgn 0 (x := 0) (by decide)) (by decide)
      refine lv_bipush (v := (-2)) hx hb dX11_row_30 (by decide) ?_
      exact W.iret (v := (-2)) hx hb hr (fun t ht hW => ⟨⟨(-2), (fun k => ([0] : List Int32).getD k 0, fun k => ([f1, f2] : List (Nat → Int32)).getD k (fun _ => 0), fun k => ([f3] : List (Nat → Int64)).getD k (fun _ => 0)), rfl, ⟨(rg_w (c := (-3)) (d := 0) (rgn (-2) (x := (-2)) (by decide)) (by decide)), (fun _ => h_6), (fun _ => h_6), (fun hq => absurd hq (rne (rgn (-2) (x := (-2)) (by decide)) (y := 0) (c := 0) (by decide) (by decide))), (fun hq => absurd (req (rgn (-2) (x := (-2)) (by decide)) (y := (-2)) (by decide)) hq), (fun hq => absurd hq (rne (rgn (-2) (x := (-2)) (by decide)) (y := 0) (c := 0) (by decide) (by decide))), (fun hq => absurd (req (rgn (-2) (x := (-2)) (by decide)) (y := (-2)) (by decide)) hq), hp_f2, (rgn 0 (x := 0) (by decide)), (by show (-2) = rwA p0 p1 p2; unfold rwA; have h9 := p_9 (req h_11 (y := 0) (by decide)); have := ez13; have : (0 : Int64).toInt = 0 := (by decide); have : (3 : Int64).toInt = 3 := (by decide); have := h_6; (repeat' split) <;> first | rfl | (exfalso; omega)), (fun hq => absurd hq (by decide)), (fun hq => absurd hq (by decide)), (fun _ => rfl), (fun _ => rfl), trivial⟩, hp_at ht hP⟩, hS.F ht⟩) hS.2.2 dX11_row_32
    · have h_12 : rg 1 1 r18 := r_ne_lo_i c21 p_7 (by decide) (by decide)
      have h_13 : rl 0 3 z13 := ((fun hq => in_im (p_8 hq) (rln 0 (x := 0) (by decide)) (rln 3 (x := 3) (by decide))) (rne h_12 (y := 0) (c := 0) (by decide) (by decide)))
      have h_14 : rg 0 3 p1 := bk_li (a := 0) (b := 3) ez13 h_13 (rg_t p1) (by decide)
      refine lv_iload_n hx hb dX11_row_24 rfl (lv_at hl 3 rfl) ?_
      refine lv_bipush (v := 60) hx hb dX11_row_25 (by decide) ?_
      refine lv_icmp_le (tgt := 33) hx hb dX11_row_27 (by decide) (fun c27 => ?_) (fun c27 => ?_)
      · have h_15 : rg (-2147483648) 60 p2 := r_le_l_i c27 (rg_t p2) (rgn 60 (x := 60) (by decide))
        refine lv_iload_n hx hb dX11_row_33 rfl (lv_at hl 3 rfl) ?_
        refine lv_if_ge (tgt := 40) hx hb dX11_row_34 (by decide) (fun c34 => ?_) (fun c34 => ?_)
        · have h_16 : rg 0 60 p2 := r_le_r_i c34 (rgn 0 (x := 0) (by decide)) h_15
          refine lv_aload_n hx hb dX11_row_40 rfl (lv_at hl 0 rfl) ?_
          refine va_get (D := G) (ci := 11) (v := .ref a1) (C := RX11) (T := TX11) (N := 31) hx hb hts (by decide +kernel) hown hK.1 hP 0 rfl rfl 1 (by decide) (hts (.fieldLink RX11 7 "CardHolderModel" "width" "[I") (by decide +kernel)) (fun _ h9 => h9) rfl dX11_row_41 ?_
          refine lv_iload_n hx hb dX11_row_44 rfl (lv_at hl 1 rfl) ?_
          refine lv_iload_n hx hb dX11_row_45 rfl (lv_at hl 2 rfl) ?_
          refine va_iast hx hb hK.1 hP hD hS 1 0 rfl rfl (in_rg h_6 (by decide)) dX11_row_46 (fun H locs hP hD hS => ?_)
          refine lv_aload_n hx hb dX11_row_47 rfl (lv_at hl 0 rfl) ?_
          refine va_get (D := G) (ci := 11) (v := .ref a2) (C := RX11) (T := TX11) (N := 31) hx hb hts (by decide +kernel) hown hK.1 hP 0 rfl rfl 2 (by decide) (hts (.fieldLink RX11 13 "CardHolderModel" "many" "[I") (by decide +kernel)) (fun _ h9 => h9) rfl dX11_row_48 ?_
          refine lv_iload_n hx hb dX11_row_51 rfl (lv_at hl 1 rfl) ?_
          refine lv_iload_n hx hb dX11_row_52 rfl (lv_at hl 3 rfl) ?_
          refine va_iast hx hb hK.1 hP hD hS 2 0 rfl rfl (in_rg h_6 (by decide)) dX11_row_53 (fun H locs hP hD hS => ?_)
          have h_17 : ar 0 60 (upd f2 p0.toNatClampNeg p2) := ar_u hp_f2 h_16
          refine lv_iconst (v := 0) hx hb dX11_row_54 (by decide) ?_
          refine lv_istore (lv' := [(4, .int 0), (0, .ref a0), (1, .int p0), (2, .int p1), (3, .int p2)]) hx hb dX11_row_55 hl (by decide) rfl (fun ls hl => ?_)
          have j57 : ∀ (n : Nat) (x57_4 : Int32) (f57_3 : Nat → Int64) (H : Heap) (locs : List Loc) (ls : Array Slot), 2147483648 ≤ x57_4.toInt + (n : Int) → rg 0 60 x57_4 → va_P G vwCl [(a0, .inr (11, [.int 0, .ref a1, .ref a2, .ref a3, .ref a4, .ref a5, .int n0_6, .int n0_7, .int n0_8, .int n0_9, .int n0_10, .long l0_11, .int n0_12, .int n0_13, .int n0_14, .int n0_15, .ref a6, .ref a7, .ref a8, .ref a9, .ref a10, .ref a11, .ref a12, .ref a13, .int n0_24, .int n0_25, .int n0_26, .int n0_27, .ref a14, .int n0_29, .int n0_30])), (a1, .inl (ct 0, 4, .inl (upd f1 p0.toNatClampNeg p1))), (a2, .inl (ct 0, 4, .inl (upd f2 p0.toNatClampNeg p2))), (a3, .inl (ct 3, 240, .inr (.inl f57_3)))] H → va_D A [(a0, .inr (11, [.int 0, .ref a1, .ref a2, .ref a3, .ref a4, .ref a5, .int n0_6, .int n0_7, .int n0_8, .int n0_9, .int n0_10, .long l0_11, .int n0_12, .int n0_13, .int n0_14, .int n0_15, .ref a6, .ref a7, .ref a8, .ref a9, .ref a10, .ref a11, .ref a12, .ref a13, .int n0_24, .int n0_25, .int n0_26, .int n0_27, .ref a14, .int n0_29, .int n0_30])), (a1, .inl (ct 0, 4, .inl (upd f1 p0.toNatClampNeg p1))), (a2, .inl (ct 0, 4, .inl (upd f2 p0.toNatClampNeg p2))), (a3, .inl (ct 3, 240, .inr (.inl f57_3)))] → va_S A s.heap H locs → lv_has ls 5 [(0, .ref a0), (1, .int p0), (2, .int p1), (3, .int p2), (4, .int x57_4)] → W p l e (headSpec wsX11_row ({ frames := 2, cells := 0, slots := 0, locals := 45 })).room s m ([.ref a0, .int p0, .int p1, .int p2] : List Value).toArray below meth c H locs 0 0 (MQ below (va_Qi (fun (r : Int32) (u : SU) => rg (-3) 0 r ∧ (r = 0 → rg 0 3 p0) ∧ (¬ r = (-2) → rg 0 3 p0) ∧ (r = 0 → rg 0 3 p1) ∧ (¬ r = (-2) → rg 0 3 p1) ∧ (r = 0 → rg 0 60 p2) ∧ (¬ r = (-2) → rg (-2147483648) 60 p2) ∧ ar 0 60 (u.2.1 1) ∧ rg 0 0 (u.1 0) ∧ r = rwA p0 p1 p2 ∧ (r = 0 → (u.2.1 0) = mkF f1 p0 p1) ∧ (r = 0 → (u.2.1 1) = mkF f2 p0 p2) ∧ (¬ r = 0 → (u.2.1 0) = f1) ∧ (¬ r = 0 → (u.2.1 1) = f2) ∧ True) (fun u t => va_P G vwCl ((fun u : SU => [(a0, .inr (11, [.int (u.1 0), .ref a1, .ref a2, .ref a3, .ref a4, .ref a5, .int n0_6, .int n0_7, .int n0_8, .int n0_9, .int n0_10, .long l0_11, .int n0_12, .int n0_13, .int n0_14, .int n0_15, .ref a6, .ref a7, .ref a8, .ref a9, .ref a10, .ref a11, .ref a12, .ref a13, .int n0_24, .int n0_25, .int n0_26, .int n0_27, .ref a14, .int n0_29, .int n0_30])), (a1, .inl (ct 0, 4, .inl (u.2.1 0))), (a2, .inl (ct 0, 4, .inl (u.2.1 1))), (a3, .inl (ct 3, 240, .inr (.inl (u.2.2 0))))]) u) t.heap) A) ([.ref a0, .int p0, .int p1, .int p2] : List Value).toArray s 0 0 A) (F0 m 57 ls []) := by
            intro n
            induction n with
            | zero => intro x57_4 f57_3 H locs ls hn57 hx57_4 hP hD hS hl; exact absurd hn57 (by have := Int32.toInt_lt x57_4; have := Int32.le_toInt x57_4; omega)
            | succ n ih57 =>
              intro x57_4 f57_3 H locs ls hn57 hx57_4 hP hD hS hl
              refine lv_iload hx hb dX11_row_57 (lv_at hl 4 rfl) ?_
              refine lv_iload_n hx hb dX11_row_59 rfl (lv_at hl 3 rfl) ?_
              refine lv_icmp_ge (tgt := 82) hx hb dX11_row_60 (by decide) (fun c60 => ?_) (fun c60 => ?_)
              · refine lv_iconst (v := 0) hx hb dX11_row_82 (by decide) ?_
                exact W.iret (v := 0) hx hb hr (fun t ht hW => ⟨⟨0, (fun k => ([0] : List Int32).getD k 0, fun k => ([upd f1 p0.toNatClampNeg p1, upd f2 p0.toNatClampNeg p2] : List (Nat → Int32)).getD k (fun _ => 0), fun k => ([f57_3] : List (Nat → Int64)).getD k (fun _ => 0)), rfl, ⟨(rg_w (c := (-3)) (d := 0) (rgn 0 (x := 0) (by decide)) (by decide)), (fun _ => h_6), (fun _ => h_6), (fun _ => h_14), (fun _ => h_14), (fun _ => h_16), (fun _ => (rg_w (c := (-2147483648)) (d := 60) h_16 (by decide))), h_17, (rgn 0 (x := 0) (by decide)), (by show 0 = rwA p0 p1 p2; unfold rwA; have := h_6; have := h_14; have := h_16; (repeat' split) <;> first | rfl | (exfalso; omega)), (fun _ => (show upd f1 p0.toNatClampNeg p1 = mkF f1 p0 p1 from (mf_y (by have := h_6; have := h_14; have := h_16; have := i_ne c9; have := i_ne c21; have := i_le c27; have := i_le c34; have := i_le c60; have : (0 : Int32).toInt = 0 := (by decide); have : (60 : Int32).toInt = 60 := (by decide); omega)).symm)), (fun _ => (show upd f2 p0.toNatClampNeg p2 = mkF f2 p0 p2 from (mf_y (by have := h_6; have := h_14; have := h_16; have := i_ne c9; have := i_ne c21; have := i_le c27; have := i_le c34; have := i_le c60; have : (0 : Int32).toInt = 0 := (by decide); have : (60 : Int32).toInt = 60 := (by decide); omega)).symm)), (fun hq => absurd rfl hq), (fun hq => absurd rfl hq), trivial⟩, hp_at ht hP⟩, hS.F ht⟩) hS.2.2 dX11_row_83
              · have h_18 : rg 0 59 x57_4 := r_lt_l_i (nle_i c60) hx57_4 h_16 (by decide)
                have h_19 : rg 1 60 p2 := r_lt_r_i (nle_i c60) hx57_4 h_16 (by decide)
                refine lv_aload_n hx hb dX11_row_63 rfl (lv_at hl 0 rfl) ?_
                refine va_get (D := G) (ci := 11) (v := .ref a3) (C := RX11) (T := TX11) (N := 31) hx hb hts (by decide +kernel) hown hK.1 hP 0 rfl rfl 3 (by decide) (hts (.fieldLink RX11 16 "CardHolderModel" "cells" "[J") (by decide +kernel)) (fun _ h9 => h9) rfl dX11_row_64 ?_
                refine lv_bipush (v := 60) hx hb dX11_row_67 (by decide) ?_
                refine lv_iload_n hx hb dX11_row_69 rfl (lv_at hl 1 rfl) ?_
                refine lv_imul hx hb dX11_row_70 ?_
                refine nm_mul (e1 := 0) (f := 180) (rgn 60 (x := 60) (by decide)) h_6 (by decide) (fun z70 hz70 ez70 => ?_)
                refine lv_iload hx hb dX11_row_71 (lv_at hl 4 rfl) ?_
                refine lv_iadd hx hb dX11_row_73 ?_
                refine nm_add (e1 := 0) (f := 239) hz70 h_18 (by decide) (fun z73 hz73 ez73 => ?_)
                refine lv_lconst (v := 0) hx hb dX11_row_74 (by decide) ?_
                refine va_last hx hb hK.1 hP hD hS 3 3 rfl rfl (in_rg hz73 (by decide)) dX11_row_75 (fun H locs hP hD hS => ?_)
                obtain ⟨z76, qz76⟩ : ∃ y : Int32, y = x57_4 + Int32.ofInt 1 := ⟨_, rfl⟩
                obtain ⟨hz76, ez76⟩ := inc_z (e := 1) (f := 60) h_18 qz76 (by decide)
                refine lv_iinc (v := z76) (lv' := [(4, .int z76), (0, .ref a0), (1, .int p0), (2, .int p1), (3, .int p2)]) hx hb dX11_row_76 hl (k := 4) rfl (qz76.symm) (by decide) rfl (fun ls hl => ?_)
                refine lv_goto (tgt := 57) hx hb dX11_row_79 (by decide) ?_
                exact ih57 z76 (vp_updL f57_3 z73.toNatClampNeg 0) _ _ ls (by have q := hn57; have := ez76; omega) (rg_w (c := 0) (d := 60) hz76 (by decide)) hP hD hS (lv_sub hl [1, 2, 3, 4, 0] rfl)
          exact j57 4294967296 (0 : Int32) f3 _ _ ls (ms_e (0 : Int32)) (rg_w (c := 0) (d := 60) (rgn 0 (x := 0) (by decide)) (by decide)) hP hD hS (lv_sub hl [1, 2, 3, 4, 0] rfl)
        · have h_20 : rg (-2147483648) (-1) p2 := r_lt_l_i (nle_i c34) h_15 (rgn 0 (x := 0) (by decide)) (by decide)
          refine lv_bipush (v := (-3)) hx hb dX11_row_37 (by decide) ?_
          exact W.iret (v := (-3)) hx hb hr (fun t ht hW => ⟨⟨(-3), (fun k => ([0] : List Int32).getD k 0, fun k => ([f1, f2] : List (Nat → Int32)).getD k (fun _ => 0), fun k => ([f3] : List (Nat → Int64)).getD k (fun _ => 0)), rfl, ⟨(rg_w (c := (-3)) (d := 0) (rgn (-3) (x := (-3)) (by decide)) (by decide)), (fun _ => h_6), (fun _ => h_6), (fun _ => h_14), (fun _ => h_14), (fun hq => absurd hq (rne (rgn (-3) (x := (-3)) (by decide)) (y := 0) (c := 0) (by decide) (by decide))), (fun _ => (rg_w (c := (-2147483648)) (d := 60) h_20 (by decide))), hp_f2, (rgn 0 (x := 0) (by decide)), (by show (-3) = rwA p0 p1 p2; unfold rwA; have := h_6; have := h_14; have := h_20; (repeat' split) <;> first | rfl | (exfalso; omega)), (fun hq => absurd hq (by decide)), (fun hq => absurd hq (by decide)), (fun _ => rfl), (fun _ => rfl), trivial⟩, hp_at ht hP⟩, hS.F ht⟩) hS.2.2 dX11_row_39
      · have h_21 : rg 61 2147483647 p2 := r_lt_r_i (nle_i c27) (rgn 60 (x := 60) (by decide)) (rg_t p2) (by decide)
        refine lv_bipush (v := (-2)) hx hb dX11_row_30 (by decide) ?_
        exact W.iret (v := (-2)) hx hb hr (fun t ht hW => ⟨⟨(-2), (fun k => ([0] : List Int32).getD k 0, fun k => ([f1, f2] : List (Nat → Int32)).getD k (fun _ => 0), fun k => ([f3] : List (Nat → Int64)).getD k (fun _ => 0)), rfl, ⟨(rg_w (c := (-3)) (d := 0) (rgn (-2) (x := (-2)) (by decide)) (by decide)), (fun _ => h_6), (fun _ => h_6), (fun _ => h_14), (fun _ => h_14), (fun hq => absurd hq (rne (rgn (-2) (x := (-2)) (by decide)) (y := 0) (c := 0) (by decide) (by decide))), (fun hq => absurd (req (rgn (-2) (x := (-2)) (by decide)) (y := (-2)) (by decide)) hq), hp_f2, (rgn 0 (x := 0) (by decide)), (by show (-2) = rwA p0 p1 p2; unfold rwA; have := h_6; have := h_14; have := h_21; (repeat' split) <;> first | rfl | (exfalso; omega)), (fun hq => absurd hq (by decide)), (fun hq => absurd hq (by decide)), (fun _ => rfl), (fun _ => rfl), trivial⟩, hp_at ht hP⟩, hS.F ht⟩) hS.2.2 dX11_row_32

set_option maxHeartbeats 4000000 in
set_option maxRecDepth 100000 in
theorem e_X10_paste (l : Launch) (G : va_G) (ct : Nat → ClassId) (a0 : Nat) (a1 : Nat) (a3 : Nat) (a11 : Nat) (a25 : Nat) (a68 : Nat) (a69 : Nat) (a77 : Nat) (a82 : Nat) (a84 : Nat) (a88 : Nat) (a91 : Nat) (a70 : Nat) (a75 : Nat) (a76 : Nat) (n69_3 : Int32) (rr : Nat → Nat) (f71 : Nat → Int64) (f72 : Nat → Int64) (f73 : Nat → Int64) (f74 : Nat → Int64) (f75 : Nat → Int32) (f76 : Nat → Int32) (p0 : Int32) (p1 : Int32) (p2 : Int32) (p3 : Int32) (p4 : Int32) (hp_f76 : ar 0 60 f76) : Met l yX10_paste wsX10_paste ({ frames := 3, cells := 0, slots := 0, locals := 65 }) (va_Pc [.ref a0, .int p0, .int p1, .int p2, .int p3, .int p4] (wrP G ct [(a0, .inr (10, [.ref a1, .ref a3, .ref a11, .ref a25, .ref a68, .ref a69, .ref a77, .ref a82, .ref a84, .ref a88, .ref a91])), (a69, .inr (6, [.ref a70, .ref a75, .ref a76, .int n69_3])), (a70, .inl (ct 5, 4, .inr (.inr (.inr (.inr (fun i => if i < 4 then some (rr i) else none)))))), ((rr 0), .inl (ct 3, 60, .inr (.inl f71))), ((rr 1), .inl (ct 3, 60, .inr (.inl f72))), ((rr 2), .inl (ct 3, 60, .inr (.inl f73))), ((rr 3), .inl (ct 3, 60, .inr (.inl f74))), (a75, .inl (ct 0, 4, .inl f75)), (a76, .inl (ct 0, 4, .inl f76))])) (va_Qi (fun (r : Int32) (u : SU) => rg (-8) 0 r ∧ (r = 0 → rg 0 3 p0) ∧ (¬ r = (-2) → rg 0 3 p0) ∧ (r = 0 → rg 0 60 p1) ∧ (r = 0 → rg 0 3 p2) ∧ (¬ r = (-2) → rg 0 3 p2) ∧ (r = 0 → rg 0 60 p3) ∧ (r = 0 → rg 0 60 p4) ∧ r = psA p0 p1 p2 p3 p4 (decide (btA n69_3 p0 = 1)) (decide (btA n69_3 p2 = 1)) (decide (f75 p0.toNatClampNeg = f75 p2.toNatClampNeg)) (f76 p0.toNatClampNeg).toInt (f76 p2.toNatClampNeg).toInt ∧ True) (fun u t => va_P G vwCl ((fun u : SU => [(a0, .inr (10, [.ref a1, .ref a3, .ref a11, .ref a25, .ref a68, .ref a69, .ref a77, .ref a82, .ref a84, .ref a88, .ref a91])), (a69, .inr (6, [.ref a70, .ref a75, .ref a76, .int n69_3])), (a70, .inl (ct 5, 4, .inr (.inr (.inr (.inr (fun i => if i < 4 then some (rr i) else none)))))), ((rr 0), .inl (ct 3, 60, .inr (.inl (u.2.2 0)))), ((rr 1), .inl (ct 3, 60, .inr (.inl (u.2.2 1)))), ((rr 2), .inl (ct 3, 60, .inr (.inl (u.2.2 2)))), ((rr 3), .inl (ct 3, 60, .inr (.inl (u.2.2 3)))), (a75, .inl (ct 0, 4, .inl f75)), (a76, .inl (ct 0, 4, .inl f76))]) u) t.heap) (aset [(a0, .inr (10, [.ref a1, .ref a3, .ref a11, .ref a25, .ref a68, .ref a69, .ref a77, .ref a82, .ref a84, .ref a88, .ref a91])), (a69, .inr (6, [.ref a70, .ref a75, .ref a76, .int n69_3])), (a70, .inl (ct 5, 4, .inr (.inr (.inr (.inr (fun i => if i < 4 then some (rr i) else none)))))), ((rr 0), .inl (ct 3, 60, .inr (.inl f71))), ((rr 1), .inl (ct 3, 60, .inr (.inl f72))), ((rr 2), .inl (ct 3, 60, .inr (.inl f73))), ((rr 3), .inl (ct 3, 60, .inr (.inl f74))), (a75, .inl (ct 0, 4, .inl f75)), (a76, .inl (ct 0, 4, .inl f76))])) 0 0 (aset [(a0, .inr (10, [.ref a1, .ref a3, .ref a11, .ref a25, .ref a68, .ref a69, .ref a77, .ref a82, .ref a84, .ref a88, .ref a91])), (a69, .inr (6, [.ref a70, .ref a75, .ref a76, .int n69_3])), (a70, .inl (ct 5, 4, .inr (.inr (.inr (.inr (fun i => if i < 4 then some (rr i) else none)))))), ((rr 0), .inl (ct 3, 60, .inr (.inl f71))), ((rr 1), .inl (ct 3, 60, .inr (.inl f72))), ((rr 2), .inl (ct 3, 60, .inr (.inl f73))), ((rr 3), .inl (ct 3, 60, .inr (.inl f74))), (a75, .inl (ct 0, 4, .inl f75)), (a76, .inl (ct 0, 4, .inl f76))]) := by
  refine Met.ofW (cc := cX10_paste) (maxL := 6) (ret := (some .int)) (by decide) rfl ?_
  intro p e s m args below meth c s₁ B hml hv
  obtain ⟨rfl, hP, hK, hD0⟩ := hv
  have hx := B.exec
  have hb := B.bytes
  have hr := B.returns
  have hts := atoms_spec (ws := wsX10_paste) B.pre
  have hown : s.vm.findClass RX10 = some m.cls := findClass_of_methodNamed B.named
  have hlocks := B.notSynchronized
  have hD := hD0.aself
  generalize hAe : aset [(a0, .inr (10, [.ref a1, .ref a3, .ref a11, .ref a25, .ref a68, .ref a69, .ref a77, .ref a82, .ref a84, .ref a88, .ref a91])), (a69, .inr (6, [.ref a70, .ref a75, .ref a76, .int n69_3])), (a70, .inl (ct 5, 4, .inr (.inr (.inr (.inr (fun i => if i < 4 then some (rr i) else none)))))), ((rr 0), .inl (ct 3, 60, .inr (.inl f71))), ((rr 1), .inl (ct 3, 60, .inr (.inl f72))), ((rr 2), .inl (ct 3, 60, .inr (.inl f73))), ((rr 3), .inl (ct 3, 60, .inr (.inl f74))), (a75, .inl (ct 0, 4, .inl f75)), (a76, .inl (ct 0, 4, .inl f76))] = A at hD ⊢
  have hS : va_S A s.heap s.heap [] := va_S.rf
  have hl := lv_entry ([.ref a0, .int p0, .int p1, .int p2, .int p3, .int p4]) (n := 6) (Nat.le_of_ble_eq_true rfl)
  rw [lg_entry_eq]
  generalize (lg_sl ([.ref a0, .int p0, .int p1, .int p2, .int p3, .int p4]) ++ List.replicate (6 - (lg_sl ([.ref a0, .int p0, .int p1, .int p2, .int p3, .int p4])).length) Slot.unset).toArray = ls at hl ⊢
  have hl : lv_has ls 6 [(0, .ref a0), (1, .int p0), (2, .int p1), (3, .int p2), (4, .int p3), (5, .int p4)] := hl
  refine lv_aload_n hx hb dX10_paste_0 rfl (lv_at hl 0 rfl) ?_
  refine va_get (D := G) (ci := 10) (v := .ref a69) (C := RX10) (T := TX10) (N := 11) hx hb hts (by decide +kernel) hown hK.1 hP 0 rfl rfl 5 (by decide) (hts (.fieldLink RX10 43 "CardHolder" "rows" "LCardHolder$Rows;") (by decide +kernel)) (fun _ h9 => h9) rfl dX10_paste_1 ?_
  refine lv_iload_n hx hb dX10_paste_4 rfl (lv_at hl 1 rfl) ?_
  refine ro_calli (va_runV (As := [.int p0]) (rest := []) ⟨hx, hb, hml, hown, hts⟩ (e_X6_isSlot l G ct a69 a70 a75 a76 n69_3 p0) (cwV 1 hts gX10_paste_X6_isSlot rfl rfl rfl (by decide +kernel) ⟨Nat.le_of_ble_eq_true rfl, Nat.le_of_ble_eq_true rfl⟩) (ro_preV 6 0 hK (hP.sub [1] rfl) rfl rfl) rfl rfl hl.1 rfl (lv_room (Nat.le_of_ble_eq_true rfl)) dX10_paste_5 ⟨Nat.zero_le _, Nat.zero_le _⟩) hS hP (fun r5 H locs wr5 hP hS => ?_)
  obtain ⟨p_1, p_2, p_3, -⟩ := wr5
  refine lv_if_eq (tgt := 22) hx hb dX10_paste_8 (by decide) (fun c8 => ?_) (fun c8 => ?_)
  · have h_4 : rg 0 0 r5 := r_eq_l_i (e := 0) (f := 0) c8 p_1 (rgn 0 (x := 0) (by decide)) (by decide)
    refine lv_bipush (v := (-2)) hx hb dX10_paste_22 (by decide) ?_
    exact W.iret (v := (-2)) hx hb hr (fun t ht hW => ⟨⟨(-2), (fun k => ([] : List Int32).getD k 0, fun k => ([] : List (Nat → Int32)).getD k (fun _ => 0), fun k => ([f71, f72, f73, f74] : List (Nat → Int64)).getD k (fun _ => 0)), rfl, ⟨(rg_w (c := (-8)) (d := 0) (rgn (-2) (x := (-2)) (by decide)) (by decide)), (fun hq => absurd hq (rne (rgn (-2) (x := (-2)) (by decide)) (y := 0) (c := 0) (by decide) (by decide))), (fun hq => absurd (req (rgn (-2) (x := (-2)) (by decide)) (y := (-2)) (by decide)) hq), (fun hq => absurd hq (rne (rgn (-2) (x := (-2)) (by decide)) (y := 0) (c := 0) (by decide) (by decide))), (fun hq => absurd hq (rne (rgn (-2) (x := (-2)) (by decide)) (y := 0) (c := 0) (by decide) (by decide))), (fun hq => absurd (req (rgn (-2) (x := (-2)) (by decide)) (y := (-2)) (by decide)) hq), (fun hq => absurd hq (rne (rgn (-2) (x := (-2)) (by decide)) (y := 0) (c := 0) (by decide) (by decide))), (fun hq => absurd hq (rne (rgn (-2) (x := (-2)) (by decide)) (y := 0) (c := 0) (by decide) (by decide))), (ps_2 (by have := (p_3 (req h_4 (y := 0) (by decide))); have := congrArg Int32.toInt c8; have : (0 : Int32).toInt = 0 := (by decide); omega)), trivial⟩, hp_at ht hP⟩, hS.F ht⟩) hS.2.2 dX10_paste_24
  · have h_5 : rg 1 1 r5 := r_ne_lo_i c8 p_1 (by decide) (by decide)
    have h_6 : rg 0 3 p0 := (p_2 (rne h_5 (y := 0) (c := 0) (by decide) (by decide)))
    refine lv_aload_n hx hb dX10_paste_11 rfl (lv_at hl 0 rfl) ?_
    refine va_get (D := G) (ci := 10) (v := .ref a69) (C := RX10) (T := TX10) (N := 11) hx hb hts (by decide +kernel) hown hK.1 hP 0 rfl rfl 5 (by decide) (hts (.fieldLink RX10 43 "CardHolder" "rows" "LCardHolder$Rows;") (by decide +kernel)) (fun _ h9 => h9) rfl dX10_paste_12 ?_
    refine lv_iload_n hx hb dX10_paste_15 rfl (lv_at hl 3 rfl) ?_
    refine ro_calli (va_runV (As := [.int p2]) (rest := []) ⟨hx, hb, hml, hown, hts⟩ (e_X6_isSlot l G ct a69 a70 a75 a76 n69_3 p2) (cwV 1 hts gX10_paste_X6_isSlot rfl rfl rfl (by decide +kernel) ⟨Nat.le_of_ble_eq_true rfl, Nat.le_of_ble_eq_true rfl⟩) (ro_preV 6 0 hK (hP.sub [1] rfl) rfl rfl) rfl rfl hl.1 rfl (lv_room (Nat.le_of_ble_eq_true rfl)) dX10_paste_16 ⟨Nat.zero_le _, Nat.zero_le _⟩) hS hP (fun r16 H locs wr16 hP hS => ?_)
    obtain ⟨p_7, p_8, p_9, -⟩ := wr16
    refine lv_if_ne (tgt := 25) hx hb dX10_paste_19 (by decide) (fun c19 => ?_) (fun c19 => ?_)
    · have h_10 : rg 1 1 r16 := r_ne_lo_i c19 p_7 (by decide) (by decide)
      have h_11 : rg 0 3 p2 := (p_8 (rne h_10 (y := 0) (c := 0) (by decide) (by decide)))
      refine lv_aload_n hx hb dX10_paste_25 rfl (lv_at hl 0 rfl) ?_
      refine va_get (D := G) (ci := 10) (v := .ref a69) (C := RX10) (T := TX10) (N := 11) hx hb hts (by decide +kernel) hown hK.1 hP 0 rfl rfl 5 (by decide) (hts (.fieldLink RX10 43 "CardHolder" "rows" "LCardHolder$Rows;") (by decide +kernel)) (fun _ h9 => h9) rfl dX10_paste_26 ?_
      refine lv_iload_n hx hb dX10_paste_29 rfl (lv_at hl 1 rfl) ?_
      refine ro_calli (va_runV (As := [.int p0]) (rest := []) ⟨hx, hb, hml, hown, hts⟩ (e_X6_isKept l G ct a69 a70 a75 a76 n69_3 p0) (cwV 1 hts gX10_paste_X6_isKept rfl rfl rfl (by decide +kernel) ⟨Nat.le_of_ble_eq_true rfl, Nat.le_of_ble_eq_true rfl⟩) (ro_preV 6 0 hK (hP.sub [1] rfl) rfl rfl) rfl rfl hl.1 rfl (lv_room (Nat.le_of_ble_eq_true rfl)) dX10_paste_30 ⟨Nat.zero_le _, Nat.zero_le _⟩) hS hP (fun r30 H locs wr30 hP hS => ?_)
      obtain ⟨p_12, p_13, p_14, p_15, -⟩ := wr30
      refine lv_if_eq (tgt := 47) hx hb dX10_paste_33 (by decide) (fun c33 => ?_) (fun c33 => ?_)
      · have h_16 : rg 0 0 r30 := r_eq_l_i (e := 0) (f := 0) c33 p_12 (rgn 0 (x := 0) (by decide)) (by decide)
        refine lv_bipush (v := (-6)) hx hb dX10_paste_47 (by decide) ?_
        exact W.iret (v := (-6)) hx hb hr (fun t ht hW => ⟨⟨(-6), (fun k => ([] : List Int32).getD k 0, fun k => ([] : List (Nat → Int32)).getD k (fun _ => 0), fun k => ([f71, f72, f73, f74] : List (Nat → Int64)).getD k (fun _ => 0)), rfl, ⟨(rg_w (c := (-8)) (d := 0) (rgn (-6) (x := (-6)) (by decide)) (by decide)), (fun _ => h_6), (fun _ => h_6), (fun hq => absurd hq (rne (rgn (-6) (x := (-6)) (by decide)) (y := 0) (c := 0) (by decide) (by decide))), (fun _ => h_11), (fun _ => h_11), (fun hq => absurd hq (rne (rgn (-6) (x := (-6)) (by decide)) (y := 0) (c := 0) (by decide) (by decide))), (fun hq => absurd hq (rne (rgn (-6) (x := (-6)) (by decide)) (y := 0) (c := 0) (by decide) (by decide))), (ps_6 (by have := h_6; have := h_11; have := i_ne c8; have := i_ne c19; have := congrArg Int32.toInt c33; have : (0 : Int32).toInt = 0 := (by decide); omega) (fun hp => (fun hq => (p_15 (req h_16 (y := 0) (by decide))).elim (fun hz => by have := h_6; have := h_11; have := i_ne c8; have := i_ne c19; have := congrArg Int32.toInt c33; have : (0 : Int32).toInt = 0 := (by decide); omega) (fun hz => hz (of_decide_eq_true hq))) hp.1)), trivial⟩, hp_at ht hP⟩, hS.F ht⟩) hS.2.2 dX10_paste_49
      · have h_17 : rg 1 1 r30 := r_ne_lo_i c33 p_12 (by decide) (by decide)
        refine lv_aload_n hx hb dX10_paste_36 rfl (lv_at hl 0 rfl) ?_
        refine va_get (D := G) (ci := 10) (v := .ref a69) (C := RX10) (T := TX10) (N := 11) hx hb hts (by decide +kernel) hown hK.1 hP 0 rfl rfl 5 (by decide) (hts (.fieldLink RX10 43 "CardHolder" "rows" "LCardHolder$Rows;") (by decide +kernel)) (fun _ h9 => h9) rfl dX10_paste_37 ?_
        refine lv_iload_n hx hb dX10_paste_40 rfl (lv_at hl 3 rfl) ?_
        refine ro_calli (va_runV (As := [.int p2]) (rest := []) ⟨hx, hb, hml, hown, hts⟩ (e_X6_isKept l G ct a69 a70 a75 a76 n69_3 p2) (cwV 1 hts gX10_paste_X6_isKept rfl rfl rfl (by decide +kernel) ⟨Nat.le_of_ble_eq_true rfl, Nat.le_of_ble_eq_true rfl⟩) (ro_preV 6 0 hK (hP.sub [1] rfl) rfl rfl) rfl rfl hl.1 rfl (lv_room (Nat.le_of_ble_eq_true rfl)) dX10_paste_41 ⟨Nat.zero_le _, Nat.zero_le _⟩) hS hP (fun r41 H locs wr41 hP hS => ?_)
        obtain ⟨p_18, p_19, p_20, p_21, -⟩ := wr41
        refine lv_if_ne (tgt := 50) hx hb dX10_paste_44 (by decide) (fun c44 => ?_) (fun c44 => ?_)
        · have h_22 : rg 1 1 r41 := r_ne_lo_i c44 p_18 (by decide) (by decide)
          refine lv_aload_n hx hb dX10_paste_50 rfl (lv_at hl 0 rfl) ?_
          refine va_get (D := G) (ci := 10) (v := .ref a69) (C := RX10) (T := TX10) (N := 11) hx hb hts (by decide +kernel) hown hK.1 hP 0 rfl rfl 5 (by decide) (hts (.fieldLink RX10 43 "CardHolder" "rows" "LCardHolder$Rows;") (by decide +kernel)) (fun _ h9 => h9) rfl dX10_paste_51 ?_
          refine va_get (D := G) (ci := 6) (v := .ref a75) (C := RX6) (T := TX6) (N := 4) hx hb hts (by decide +kernel) hown hK.1 hP 1 rfl rfl 1 (by decide) (hts (.fieldLink RX10 415 "CardHolder$Rows" "widths" "[I") (by decide +kernel)) (fun _ h9 => h9) rfl dX10_paste_54 ?_
          refine lv_iload_n hx hb dX10_paste_57 rfl (lv_at hl 1 rfl) ?_
          refine va_iald hx hb hK.1 hP 7 0 rfl rfl (in_rg h_6 (by decide)) dX10_paste_58 ?_
          refine lv_topi (fun z58 gz58 => ?_)
          refine lv_aload_n hx hb dX10_paste_59 rfl (lv_at hl 0 rfl) ?_
          refine va_get (D := G) (ci := 10) (v := .ref a69) (C := RX10) (T := TX10) (N := 11) hx hb hts (by decide +kernel) hown hK.1 hP 0 rfl rfl 5 (by decide) (hts (.fieldLink RX10 43 "CardHolder" "rows" "LCardHolder$Rows;") (by decide +kernel)) (fun _ h9 => h9) rfl dX10_paste_60 ?_
          refine va_get (D := G) (ci := 6) (v := .ref a75) (C := RX6) (T := TX6) (N := 4) hx hb hts (by decide +kernel) hown hK.1 hP 1 rfl rfl 1 (by decide) (hts (.fieldLink RX10 415 "CardHolder$Rows" "widths" "[I") (by decide +kernel)) (fun _ h9 => h9) rfl dX10_paste_63 ?_
          refine lv_iload_n hx hb dX10_paste_66 rfl (lv_at hl 3 rfl) ?_
          refine va_iald hx hb hK.1 hP 7 0 rfl rfl (in_rg h_11 (by decide)) dX10_paste_67 ?_
          refine lv_topi (fun z67 gz67 => ?_)
          refine lv_icmp_eq (tgt := 74) hx hb dX10_paste_68 (by decide) (fun c68 => ?_) (fun c68 => ?_)
          · refine lv_aload_n hx hb dX10_paste_74 rfl (lv_at hl 0 rfl) ?_
            refine va_get (D := G) (ci := 10) (v := .ref a69) (C := RX10) (T := TX10) (N := 11) hx hb hts (by decide +kernel) hown hK.1 hP 0 rfl rfl 5 (by decide) (hts (.fieldLink RX10 43 "CardHolder" "rows" "LCardHolder$Rows;") (by decide +kernel)) (fun _ h9 => h9) rfl dX10_paste_75 ?_
            refine lv_iload_n hx hb dX10_paste_78 rfl (lv_at hl 1 rfl) ?_
            refine lv_iload_n hx hb dX10_paste_79 rfl (lv_at hl 2 rfl) ?_
            refine lv_iload hx hb dX10_paste_80 (lv_at hl 5 rfl) ?_
            refine ro_calli (va_runV (As := [.int p0, .int p1, .int p4]) (rest := []) ⟨hx, hb, hml, hown, hts⟩ (e_X6_hasPlaces l G ct a69 a70 a75 a76 n69_3 f76 p0 p1 p4 hp_f76) (cwV 3 hts gX10_paste_X6_hasPlaces rfl rfl rfl (by decide +kernel) ⟨Nat.le_of_ble_eq_true rfl, Nat.le_of_ble_eq_true rfl⟩) (ro_preV 6 0 hK (hP.sub [1, 8] rfl) rfl rfl) rfl rfl hl.1 rfl (lv_room (Nat.le_of_ble_eq_true rfl)) dX10_paste_82 ⟨Nat.zero_le _, Nat.zero_le _⟩) hS hP (fun r82 H locs wr82 hP hS => ?_)
            obtain ⟨p_23, p_24, p_25, p_26, p_27, p_28, -⟩ := wr82
            refine lv_if_eq (tgt := 103) hx hb dX10_paste_85 (by decide) (fun c85 => ?_) (fun c85 => ?_)
            · have h_29 : rg 0 0 r82 := r_eq_l_i (e := 0) (f := 0) c85 p_23 (rgn 0 (x := 0) (by decide)) (by decide)
              refine lv_bipush (v := (-7)) hx hb dX10_paste_103 (by decide) ?_
              exact W.iret (v := (-7)) hx hb hr (fun t ht hW => ⟨⟨(-7), (fun k => ([] : List Int32).getD k 0, fun k => ([] : List (Nat → Int32)).getD k (fun _ => 0), fun k => ([f71, f72, f73, f74] : List (Nat → Int64)).getD k (fun _ => 0)), rfl, ⟨(rg_w (c := (-8)) (d := 0) (rgn (-7) (x := (-7)) (by decide)) (by decide)), (fun _ => h_6), (fun _ => h_6), (fun hq => absurd hq (rne (rgn (-7) (x := (-7)) (by decide)) (y := 0) (c := 0) (by decide) (by decide))), (fun _ => h_11), (fun _ => h_11), (fun hq => absurd hq (rne (rgn (-7) (x := (-7)) (by decide)) (y := 0) (c := 0) (by decide) (by decide))), (fun hq => absurd hq (rne (rgn (-7) (x := (-7)) (by decide)) (y := 0) (c := 0) (by decide) (by decide))), (ps_7 (by have := h_6; have := h_11; have := i_ne c8; have := i_ne c19; have := i_ne c33; have := i_ne c44; have := congrArg Int32.toInt c68; have := congrArg Int32.toInt c85; have : (0 : Int32).toInt = 0 := (by decide); omega) ⟨(decide_eq_true (p_14 (rne h_17 (y := 0) (c := 0) (by decide) (by decide)))), (decide_eq_true (p_20 (rne h_22 (y := 0) (c := 0) (by decide) (by decide))))⟩ (decide_eq_true (by rw [← gz58, ← gz67]; exact c68)) (by have := (p_28 (req h_29 (y := 0) (by decide))); have := h_6; have := h_11; have := i_ne c8; have := i_ne c19; have := i_ne c33; have := i_ne c44; have := congrArg Int32.toInt c68; have := congrArg Int32.toInt c85; have : (0 : Int32).toInt = 0 := (by decide); have hsp0 := congrArg Int32.toInt (sz_y (f := f76) (p := p0) (by have := h_6; have := h_11; have := i_ne c8; have := i_ne c19; have := i_ne c33; have := i_ne c44; have := congrArg Int32.toInt c68; have := congrArg Int32.toInt c85; have : (0 : Int32).toInt = 0 := (by decide); omega)); have hsp2 := congrArg Int32.toInt (sz_y (f := f76) (p := p2) (by have := h_6; have := h_11; have := i_ne c8; have := i_ne c19; have := i_ne c33; have := i_ne c44; have := congrArg Int32.toInt c68; have := congrArg Int32.toInt c85; have : (0 : Int32).toInt = 0 := (by decide); omega)); omega)), trivial⟩, hp_at ht hP⟩, hS.F ht⟩) hS.2.2 dX10_paste_105
            · have h_30 : rg 1 1 r82 := r_ne_lo_i c85 p_23 (by decide) (by decide)
              have h_31 : rg 0 60 p1 := (p_24 (rne h_30 (y := 0) (c := 0) (by decide) (by decide)))
              have h_32 : rg 0 60 p4 := (p_25 (rne h_30 (y := 0) (c := 0) (by decide) (by decide)))
              refine lv_aload_n hx hb dX10_paste_88 rfl (lv_at hl 0 rfl) ?_
              refine va_get (D := G) (ci := 10) (v := .ref a69) (C := RX10) (T := TX10) (N := 11) hx hb hts (by decide +kernel) hown hK.1 hP 0 rfl rfl 5 (by decide) (hts (.fieldLink RX10 43 "CardHolder" "rows" "LCardHolder$Rows;") (by decide +kernel)) (fun _ h9 => h9) rfl dX10_paste_89 ?_
              refine lv_iload_n hx hb dX10_paste_92 rfl (lv_at hl 3 rfl) ?_
              refine lv_iload hx hb dX10_paste_93 (lv_at hl 4 rfl) ?_
              refine lv_iload hx hb dX10_paste_95 (lv_at hl 5 rfl) ?_
              refine ro_calli (va_runV (As := [.int p2, .int p3, .int p4]) (rest := []) ⟨hx, hb, hml, hown, hts⟩ (e_X6_hasPlaces l G ct a69 a70 a75 a76 n69_3 f76 p2 p3 p4 hp_f76) (cwV 3 hts gX10_paste_X6_hasPlaces rfl rfl rfl (by decide +kernel) ⟨Nat.le_of_ble_eq_true rfl, Nat.le_of_ble_eq_true rfl⟩) (ro_preV 6 0 hK (hP.sub [1, 8] rfl) rfl rfl) rfl rfl hl.1 rfl (lv_room (Nat.le_of_ble_eq_true rfl)) dX10_paste_97 ⟨Nat.zero_le _, Nat.zero_le _⟩) hS hP (fun r97 H locs wr97 hP hS => ?_)
              obtain ⟨p_33, p_34, p_35, p_36, p_37, p_38, -⟩ := wr97
              refine lv_if_ne (tgt := 106) hx hb dX10_paste_100 (by decide) (fun c100 => ?_) (fun c100 => ?_)
              · have h_39 : rg 1 1 r97 := r_ne_lo_i c100 p_33 (by decide) (by decide)
                have h_40 : rg 0 60 p3 := (p_34 (rne h_39 (y := 0) (c := 0) (by decide) (by decide)))
                refine lv_aload_n hx hb dX10_paste_106 rfl (lv_at hl 0 rfl) ?_
                refine va_get (D := G) (ci := 10) (v := .ref a69) (C := RX10) (T := TX10) (N := 11) hx hb hts (by decide +kernel) hown hK.1 hP 0 rfl rfl 5 (by decide) (hts (.fieldLink RX10 43 "CardHolder" "rows" "LCardHolder$Rows;") (by decide +kernel)) (fun _ h9 => h9) rfl dX10_paste_107 ?_
                refine va_get (D := G) (ci := 6) (v := .ref a70) (C := RX6) (T := TX6) (N := 4) hx hb hts (by decide +kernel) hown hK.1 hP 1 rfl rfl 0 (by decide) (hts (.fieldLink RX10 418 "CardHolder$Rows" "numbers" "[[J") (by decide +kernel)) (fun _ h9 => h9) rfl dX10_paste_110 ?_
                refine lv_iload_n hx hb dX10_paste_113 rfl (lv_at hl 1 rfl) ?_
                rcases (sp4 h_6.1 (by have := h_6.2; omega)) with s114 | s114 | s114 | s114
                · refine ix_i (y := 0) s114 ?_
                  have h_41 : rg 0 0 p0 := r_eq_l_i (e := 0) (f := 0) s114 h_6 (rgn 0 (x := 0) (by decide)) (by decide)
                  refine va_aldL hx hb hK.1 hP 2 5 rfl rfl (in_lit (by decide)) dX10_paste_114 ?_
                  refine ix_r (y := .ref (rr 0)) rfl ?_
                  refine lv_iload_n hx hb dX10_paste_115 rfl (lv_at hl 2 rfl) ?_
                  refine lv_aload_n hx hb dX10_paste_116 rfl (lv_at hl 0 rfl) ?_
                  refine va_get (D := G) (ci := 10) (v := .ref a69) (C := RX10) (T := TX10) (N := 11) hx hb hts (by decide +kernel) hown hK.1 hP 0 rfl rfl 5 (by decide) (hts (.fieldLink RX10 43 "CardHolder" "rows" "LCardHolder$Rows;") (by decide +kernel)) (fun _ h9 => h9) rfl dX10_paste_117 ?_
                  refine va_get (D := G) (ci := 6) (v := .ref a70) (C := RX6) (T := TX6) (N := 4) hx hb hts (by decide +kernel) hown hK.1 hP 1 rfl rfl 0 (by decide) (hts (.fieldLink RX10 418 "CardHolder$Rows" "numbers" "[[J") (by decide +kernel)) (fun _ h9 => h9) rfl dX10_paste_120 ?_
                  refine lv_iload_n hx hb dX10_paste_123 rfl (lv_at hl 3 rfl) ?_
                  rcases (sp4 h_11.1 (by have := h_11.2; omega)) with s124 | s124 | s124 | s124
                  · refine ix_i (y := 0) s124 ?_
                    have h_42 : rg 0 0 p2 := r_eq_l_i (e := 0) (f := 0) s124 h_11 (rgn 0 (x := 0) (by decide)) (by decide)
                    refine va_aldL hx hb hK.1 hP 2 5 rfl rfl (in_lit (by decide)) dX10_paste_124 ?_
                    refine ix_r (y := .ref (rr 0)) rfl ?_
                    refine lv_iload hx hb dX10_paste_125 (lv_at hl 4 rfl) ?_
                    refine lv_iload hx hb dX10_paste_127 (lv_at hl 5 rfl) ?_
                    refine va_copyl (ty := .long) hx hb (hml.trans hl.1.symm) hown (hts (.methodLink RX10 422 arraycopyName) (by decide +kernel)) (hts (.native arraycopyName) (by decide +kernel)) (hts (.static arraycopyName) (by decide +kernel)) (hts (.initialized "java/lang/System") (by decide +kernel)) hK.1 hP hD hS 3 3 3 3 rfl rfl rfl rfl rfl (nneg h_31 (by decide)) (nneg h_40 (by decide)) (nneg h_32 (by decide)) (cp_le h_31 h_32 (by decide) (p_26 (rne h_30 (y := 0) (c := 0) (by decide) (by decide)))) (cp_le h_40 h_32 (by decide) (p_36 (rne h_39 (y := 0) (c := 0) (by decide) (by decide)))) (fun _ _ => rfl) (Nat.le_of_ble_eq_true rfl) (Nat.le_of_ble_eq_true rfl) dX10_paste_129 (fun H locs hP hD hS => ?_)
                    refine lv_iconst (v := 0) hx hb dX10_paste_132 (by decide) ?_
                    exact W.iret (v := 0) hx hb hr (fun t ht hW => ⟨⟨0, (fun k => ([] : List Int32).getD k 0, fun k => ([] : List (Nat → Int32)).getD k (fun _ => 0), fun k => ([va_cpy f71 f71 p1.toNatClampNeg p3.toNatClampNeg p4.toNatClampNeg, f72, f73, f74] : List (Nat → Int64)).getD k (fun _ => 0)), rfl, ⟨(rg_w (c := (-8)) (d := 0) (rgn 0 (x := 0) (by decide)) (by decide)), (fun _ => (rg_w (c := 0) (d := 3) h_41 (by decide))), (fun _ => (rg_w (c := 0) (d := 3) h_41 (by decide))), (fun _ => h_31), (fun _ => (rg_w (c := 0) (d := 3) h_42 (by decide))), (fun _ => (rg_w (c := 0) (d := 3) h_42 (by decide))), (fun _ => h_40), (fun _ => h_32), (ps_0 (by have := h_41; have := h_31; have := h_42; have := h_40; have := h_32; have := i_ne c8; have := i_ne c19; have := i_ne c33; have := i_ne c44; have := congrArg Int32.toInt c68; have := i_ne c85; have := i_ne c100; have : (0 : Int32).toInt = 0 := (by decide); omega) ⟨(decide_eq_true (p_14 (rne h_17 (y := 0) (c := 0) (by decide) (by decide)))), (decide_eq_true (p_20 (rne h_22 (y := 0) (c := 0) (by decide) (by decide))))⟩ (decide_eq_true (by rw [← gz58, ← gz67]; exact c68)) (by have := (p_27 (rne h_30 (y := 0) (c := 0) (by decide) (by decide))); have := (p_37 (rne h_39 (y := 0) (c := 0) (by decide) (by decide))); have := h_41; have := h_31; have := h_42; have := h_40; have := h_32; have := i_ne c8; have := i_ne c19; have := i_ne c33; have := i_ne c44; have := congrArg Int32.toInt c68; have := i_ne c85; have := i_ne c100; have : (0 : Int32).toInt = 0 := (by decide); have hsp0 := congrArg Int32.toInt (sz_y (f := f76) (p := p0) (by have := h_41; have := h_31; have := h_42; have := h_40; have := h_32; have := i_ne c8; have := i_ne c19; have := i_ne c33; have := i_ne c44; have := congrArg Int32.toInt c68; have := i_ne c85; have := i_ne c100; have : (0 : Int32).toInt = 0 := (by decide); omega)); have hsp2 := congrArg Int32.toInt (sz_y (f := f76) (p := p2) (by have := h_41; have := h_31; have := h_42; have := h_40; have := h_32; have := i_ne c8; have := i_ne c19; have := i_ne c33; have := i_ne c44; have := congrArg Int32.toInt c68; have := i_ne c85; have := i_ne c100; have : (0 : Int32).toInt = 0 := (by decide); omega)); omega)), trivial⟩, hp_at ht hP⟩, hS.F ht⟩) hS.2.2 dX10_paste_133
                  · refine ix_i (y := 1) s124 ?_
                    have h_43 : rg 1 1 p2 := r_eq_l_i (e := 1) (f := 1) s124 h_11 (rgn 1 (x := 1) (by decide)) (by decide)
                    refine va_aldL hx hb hK.1 hP 2 5 rfl rfl (in_lit (by decide)) dX10_paste_124 ?_
                    refine ix_r (y := .ref (rr 1)) rfl ?_
                    refine lv_iload hx hb dX10_paste_125 (lv_at hl 4 rfl) ?_
                    refine lv_iload hx hb dX10_paste_127 (lv_at hl 5 rfl) ?_
                    refine va_copyl (ty := .long) hx hb (hml.trans hl.1.symm) hown (hts (.methodLink RX10 422 arraycopyName) (by decide +kernel)) (hts (.native arraycopyName) (by decide +kernel)) (hts (.static arraycopyName) (by decide +kernel)) (hts (.initialized "java/lang/System") (by decide +kernel)) hK.1 hP hD hS 3 4 3 3 rfl rfl rfl rfl rfl (nneg h_31 (by decide)) (nneg h_40 (by decide)) (nneg h_32 (by decide)) (cp_le h_31 h_32 (by decide) (p_26 (rne h_30 (y := 0) (c := 0) (by decide) (by decide)))) (cp_le h_40 h_32 (by decide) (p_36 (rne h_39 (y := 0) (c := 0) (by decide) (by decide)))) (fun _ _ => rfl) (Nat.le_of_ble_eq_true rfl) (Nat.le_of_ble_eq_true rfl) dX10_paste_129 (fun H locs hP hD hS => ?_)
                    refine lv_iconst (v := 0) hx hb dX10_paste_132 (by decide) ?_
                    exact W.iret (v := 0) hx hb hr (fun t ht hW => ⟨⟨0, (fun k => ([] : List Int32).getD k 0, fun k => ([] : List (Nat → Int32)).getD k (fun _ => 0), fun k => ([f71, va_cpy f71 f72 p1.toNatClampNeg p3.toNatClampNeg p4.toNatClampNeg, f73, f74] : List (Nat → Int64)).getD k (fun _ => 0)), rfl, ⟨(rg_w (c := (-8)) (d := 0) (rgn 0 (x := 0) (by decide)) (by decide)), (fun _ => (rg_w (c := 0) (d := 3) h_41 (by decide))), (fun _ => (rg_w (c := 0) (d := 3) h_41 (by decide))), (fun _ => h_31), (fun _ => (rg_w (c := 0) (d := 3) h_43 (by decide))), (fun _ => (rg_w (c := 0) (d := 3) h_43 (by decide))), (fun _ => h_40), (fun _ => h_32), (ps_0 (by have := h_41; have := h_31; have := h_43; have := h_40; have := h_32; have := i_ne c8; have := i_ne c19; have := i_ne c33; have := i_ne c44; have := congrArg Int32.toInt c68; have := i_ne c85; have := i_ne c100; have : (0 : Int32).toInt = 0 := (by decide); omega) ⟨(decide_eq_true (p_14 (rne h_17 (y := 0) (c := 0) (by decide) (by decide)))), (decide_eq_true (p_20 (rne h_22 (y := 0) (c := 0) (by decide) (by decide))))⟩ (decide_eq_true (by rw [← gz58, ← gz67]; exact c68)) (by have := (p_27 (rne h_30 (y := 0) (c := 0) (by decide) (by decide))); have := (p_37 (rne h_39 (y := 0) (c := 0) (by decide) (by decide))); have := h_41; have := h_31; have := h_43; have := h_40; have := h_32; have := i_ne c8; have := i_ne c19; have := i_ne c33; have := i_ne c44; have := congrArg Int32.toInt c68; have := i_ne c85; have := i_ne c100; have : (0 : Int32).toInt = 0 := (by decide); have hsp0 := congrArg Int32.toInt (sz_y (f := f76) (p := p0) (by have := h_41; have := h_31; have := h_43; have := h_40; have := h_32; have := i_ne c8; have := i_ne c19; have := i_ne c33; have := i_ne c44; have := congrArg Int32.toInt c68; have := i_ne c85; have := i_ne c100; have : (0 : Int32).toInt = 0 := (by decide); omega)); have hsp2 := congrArg Int32.toInt (sz_y (f := f76) (p := p2) (by have := h_41; have := h_31; have := h_43; have := h_40; have := h_32; have := i_ne c8; have := i_ne c19; have := i_ne c33; have := i_ne c44; have := congrArg Int32.toInt c68; have := i_ne c85; have := i_ne c100; have : (0 : Int32).toInt = 0 := (by decide); omega)); omega)), trivial⟩, hp_at ht hP⟩, hS.F ht⟩) hS.2.2 dX10_paste_133
                  · refine ix_i (y := 2) s124 ?_
                    have h_44 : rg 2 2 p2 := r_eq_l_i (e := 2) (f := 2) s124 h_11 (rgn 2 (x := 2) (by decide)) (by decide)
                    refine va_aldL hx hb hK.1 hP 2 5 rfl rfl (in_lit (by decide)) dX10_paste_124 ?_
                    refine ix_r (y := .ref (rr 2)) rfl ?_
                    refine lv_iload hx hb dX10_paste_125 (lv_at hl 4 rfl) ?_
                    refine lv_iload hx hb dX10_paste_127 (lv_at hl 5 rfl) ?_
                    refine va_copyl (ty := .long) hx hb (hml.trans hl.1.symm) hown (hts (.methodLink RX10 422 arraycopyName) (by decide +kernel)) (hts (.native arraycopyName) (by decide +kernel)) (hts (.static arraycopyName) (by decide +kernel)) (hts (.initialized "java/lang/System") (by decide +kernel)) hK.1 hP hD hS 3 5 3 3 rfl rfl rfl rfl rfl (nneg h_31 (by decide)) (nneg h_40 (by decide)) (nneg h_32 (by decide)) (cp_le h_31 h_32 (by decide) (p_26 (rne h_30 (y := 0) (c := 0) (by decide) (by decide)))) (cp_le h_40 h_32 (by decide) (p_36 (rne h_39 (y := 0) (c := 0) (by decide) (by decide)))) (fun _ _ => rfl) (Nat.le_of_ble_eq_true rfl) (Nat.le_of_ble_eq_true rfl) dX10_paste_129 (fun H locs hP hD hS => ?_)
                    refine lv_iconst (v := 0) hx hb dX10_paste_132 (by decide) ?_
                    exact W.iret (v := 0) hx hb hr (fun t ht hW => ⟨⟨0, (fun k => ([] : List Int32).getD k 0, fun k => ([] : List (Nat → Int32)).getD k (fun _ => 0), fun k => ([f71, f72, va_cpy f71 f73 p1.toNatClampNeg p3.toNatClampNeg p4.toNatClampNeg, f74] : List (Nat → Int64)).getD k (fun _ => 0)), rfl, ⟨(rg_w (c := (-8)) (d := 0) (rgn 0 (x := 0) (by decide)) (by decide)), (fun _ => (rg_w (c := 0) (d := 3) h_41 (by decide))), (fun _ => (rg_w (c := 0) (d := 3) h_41 (by decide))), (fun _ => h_31), (fun _ => (rg_w (c := 0) (d := 3) h_44 (by decide))), (fun _ => (rg_w (c := 0) (d := 3) h_44 (by decide))), (fun _ => h_40), (fun _ => h_32), (ps_0 (by have := h_41; have := h_31; have := h_44; have := h_40; have := h_32; have := i_ne c8; have := i_ne c19; have := i_ne c33; have := i_ne c44; have := congrArg Int32.toInt c68; have := i_ne c85; have := i_ne c100; have : (0 : Int32).toInt = 0 := (by decide); omega) ⟨(decide_eq_true (p_14 (rne h_17 (y := 0) (c := 0) (by decide) (by decide)))), (decide_eq_true (p_20 (rne h_22 (y := 0) (c := 0) (by decide) (by decide))))⟩ (decide_eq_true (by rw [← gz58, ← gz67]; exact c68)) (by have := (p_27 (rne h_30 (y := 0) (c := 0) (by decide) (by decide))); have := (p_37 (rne h_39 (y := 0) (c := 0) (by decide) (by decide))); have := h_41; have := h_31; have := h_44; have := h_40; have := h_32; have := i_ne c8; have := i_ne c19; have := i_ne c33; have := i_ne c44; have := congrArg Int32.toInt c68; have := i_ne c85; have := i_ne c100; have : (0 : Int32).toInt = 0 := (by decide); have hsp0 := congrArg Int32.toInt (sz_y (f := f76) (p := p0) (by have := h_41; have := h_31; have := h_44; have := h_40; have := h_32; have := i_ne c8; have := i_ne c19; have := i_ne c33; have := i_ne c44; have := congrArg Int32.toInt c68; have := i_ne c85; have := i_ne c100; have : (0 : Int32).toInt = 0 := (by decide); omega)); have hsp2 := congrArg Int32.toInt (sz_y (f := f76) (p := p2) (by have := h_41; have := h_31; have := h_44; have := h_40; have := h_32; have := i_ne c8; have := i_ne c19; have := i_ne c33; have := i_ne c44; have := congrArg Int32.toInt c68; have := i_ne c85; have := i_ne c100; have : (0 : Int32).toInt = 0 := (by decide); omega)); omega)), trivial⟩, hp_at ht hP⟩, hS.F ht⟩) hS.2.2 dX10_paste_133
                  · refine ix_i (y := 3) s124 ?_
                    have h_45 : rg 3 3 p2 := r_eq_l_i (e := 3) (f := 3) s124 h_11 (rgn 3 (x := 3) (by decide)) (by decide)
                    refine va_aldL hx hb hK.1 hP 2 5 rfl rfl (in_lit (by decide)) dX10_paste_124 ?_
                    refine ix_r (y := .ref (rr 3)) rfl ?_
                    refine lv_iload hx hb dX10_paste_125 (lv_at hl 4 rfl) ?_
                    refine lv_iload hx hb dX10_paste_127 (lv_at hl 5 rfl) ?_
                    refine va_copyl (ty := .long) hx hb (hml.trans hl.1.symm) hown (hts (.methodLink RX10 422 arraycopyName) (by decide +kernel)) (hts (.native arraycopyName) (by decide +kernel)) (hts (.static arraycopyName) (by decide +kernel)) (hts (.initialized "java/lang/System") (by decide +kernel)) hK.1 hP hD hS 3 6 3 3 rfl rfl rfl rfl rfl (nneg h_31 (by decide)) (nneg h_40 (by decide)) (nneg h_32 (by decide)) (cp_le h_31 h_32 (by decide) (p_26 (rne h_30 (y := 0) (c := 0) (by decide) (by decide)))) (cp_le h_40 h_32 (by decide) (p_36 (rne h_39 (y := 0) (c := 0) (by decide) (by decide)))) (fun _ _ => rfl) (Nat.le_of_ble_eq_true rfl) (Nat.le_of_ble_eq_true rfl) dX10_paste_129 (fun H locs hP hD hS => ?_)
                    refine lv_iconst (v := 0) hx hb dX10_paste_132 (by decide) ?_
                    exact W.iret (v := 0) hx hb hr (fun t ht hW => ⟨⟨0, (fun k => ([] : List Int32).getD k 0, fun k => ([] : List (Nat → Int32)).getD k (fun _ => 0), fun k => ([f71, f72, f73, va_cpy f71 f74 p1.toNatClampNeg p3.toNatClampNeg p4.toNatClampNeg] : List (Nat → Int64)).getD k (fun _ => 0)), rfl, ⟨(rg_w (c := (-8)) (d := 0) (rgn 0 (x := 0) (by decide)) (by decide)), (fun _ => (rg_w (c := 0) (d := 3) h_41 (by decide))), (fun _ => (rg_w (c := 0) (d := 3) h_41 (by decide))), (fun _ => h_31), (fun _ => (rg_w (c := 0) (d := 3) h_45 (by decide))), (fun _ => (rg_w (c := 0) (d := 3) h_45 (by decide))), (fun _ => h_40), (fun _ => h_32), (ps_0 (by have := h_41; have := h_31; have := h_45; have := h_40; have := h_32; have := i_ne c8; have := i_ne c19; have := i_ne c33; have := i_ne c44; have := congrArg Int32.toInt c68; have := i_ne c85; have := i_ne c100; have : (0 : Int32).toInt = 0 := (by decide); omega) ⟨(decide_eq_true (p_14 (rne h_17 (y := 0) (c := 0) (by decide) (by decide)))), (decide_eq_true (p_20 (rne h_22 (y := 0) (c := 0) (by decide) (by decide))))⟩ (decide_eq_true (by rw [← gz58, ← gz67]; exact c68)) (by have := (p_27 (rne h_30 (y := 0) (c := 0) (by decide) (by decide))); have := (p_37 (rne h_39 (y := 0) (c := 0) (by decide) (by decide))); have := h_41; have := h_31; have := h_45; have := h_40; have := h_32; have := i_ne c8; have := i_ne c19; have := i_ne c33; have := i_ne c44; have := congrArg Int32.toInt c68; have := i_ne c85; have := i_ne c100; have : (0 : Int32).toInt = 0 := (by decide); have hsp0 := congrArg Int32.toInt (sz_y (f := f76) (p := p0) (by have := h_41; have := h_31; have := h_45; have := h_40; have := h_32; have := i_ne c8; have := i_ne c19; have := i_ne c33; have := i_ne c44; have := congrArg Int32.toInt c68; have := i_ne c85; have := i_ne c100; have : (0 : Int32).toInt = 0 := (by decide); omega)); have hsp2 := congrArg Int32.toInt (sz_y (f := f76) (p := p2) (by have := h_41; have := h_31; have := h_45; have := h_40; have := h_32; have := i_ne c8; have := i_ne c19; have := i_ne c33; have := i_ne c44; have := congrArg Int32.toInt c68; have := i_ne c85; have := i_ne c100; have : (0 : Int32).toInt = 0 := (by decide); omega)); omega)), trivial⟩, hp_at ht hP⟩, hS.F ht⟩) hS.2.2 dX10_paste_133
                · refine ix_i (y := 1) s114 ?_
                  have h_46 : rg 1 1 p0 := r_eq_l_i (e := 1) (f := 1) s114 h_6 (rgn 1 (x := 1) (by decide)) (by decide)
                  refine va_aldL hx hb hK.1 hP 2 5 rfl rfl (in_lit (by decide)) dX10_paste_114 ?_
                  refine ix_r (y := .ref (rr 1)) rfl ?_
                  refine lv_iload_n hx hb dX10_paste_115 rfl (lv_at hl 2 rfl) ?_
                  refine lv_aload_n hx hb dX10_paste_116 rfl (lv_at hl 0 rfl) ?_
                  refine va_get (D := G) (ci := 10) (v := .ref a69) (C := RX10) (T := TX10) (N := 11) hx hb hts (by decide +kernel) hown hK.1 hP 0 rfl rfl 5 (by decide) (hts (.fieldLink RX10 43 "CardHolder" "rows" "LCardHolder$Rows;") (by decide +kernel)) (fun _ h9 => h9) rfl dX10_paste_117 ?_
                  refine va_get (D := G) (ci := 6) (v := .ref a70) (C := RX6) (T := TX6) (N := 4) hx hb hts (by decide +kernel) hown hK.1 hP 1 rfl rfl 0 (by decide) (hts (.fieldLink RX10 418 "CardHolder$Rows" "numbers" "[[J") (by decide +kernel)) (fun _ h9 => h9) rfl dX10_paste_120 ?_
                  refine lv_iload_n hx hb dX10_paste_123 rfl (lv_at hl 3 rfl) ?_
                  rcases (sp4 h_11.1 (by have := h_11.2; omega)) with s124 | s124 | s124 | s124
                  · refine ix_i (y := 0) s124 ?_
                    have h_47 : rg 0 0 p2 := r_eq_l_i (e := 0) (f := 0) s124 h_11 (rgn 0 (x := 0) (by decide)) (by decide)
                    refine va_aldL hx hb hK.1 hP 2 5 rfl rfl (in_lit (by decide)) dX10_paste_124 ?_
                    refine ix_r (y := .ref (rr 0)) rfl ?_
                    refine lv_iload hx hb dX10_paste_125 (lv_at hl 4 rfl) ?_
                    refine lv_iload hx hb dX10_paste_127 (lv_at hl 5 rfl) ?_
                    refine va_copyl (ty := .long) hx hb (hml.trans hl.1.symm) hown (hts (.methodLink RX10 422 arraycopyName) (by decide +kernel)) (hts (.native arraycopyName) (by decide +kernel)) (hts (.static arraycopyName) (by decide +kernel)) (hts (.initialized "java/lang/System") (by decide +kernel)) hK.1 hP hD hS 4 3 3 3 rfl rfl rfl rfl rfl (nneg h_31 (by decide)) (nneg h_40 (by decide)) (nneg h_32 (by decide)) (cp_le h_31 h_32 (by decide) (p_26 (rne h_30 (y := 0) (c := 0) (by decide) (by decide)))) (cp_le h_40 h_32 (by decide) (p_36 (rne h_39 (y := 0) (c := 0) (by decide) (by decide)))) (fun _ _ => rfl) (Nat.le_of_ble_eq_true rfl) (Nat.le_of_ble_eq_true rfl) dX10_paste_129 (fun H locs hP hD hS => ?_)
                    refine lv_iconst (v := 0) hx hb dX10_paste_132 (by decide) ?_
                    exact W.iret (v := 0) hx hb hr (fun t ht hW => ⟨⟨0, (fun k => ([] : List Int32).getD k 0, fun k => ([] : List (Nat → Int32)).getD k (fun _ => 0), fun k => ([va_cpy f72 f71 p1.toNatClampNeg p3.toNatClampNeg p4.toNatClampNeg, f72, f73, f74] : List (Nat → Int64)).getD k (fun _ => 0)), rfl, ⟨(rg_w (c := (-8)) (d := 0) (rgn 0 (x := 0) (by decide)) (by decide)), (fun _ => (rg_w (c := 0) (d := 3) h_46 (by decide))), (fun _ => (rg_w (c := 0) (d := 3) h_46 (by decide))), (fun _ => h_31), (fun _ => (rg_w (c := 0) (d := 3) h_47 (by decide))), (fun _ => (rg_w (c := 0) (d := 3) h_47 (by decide))), (fun _ => h_40), (fun _ => h_32), (ps_0 (by have := h_46; have := h_31; have := h_47; have := h_40; have := h_32; have := i_ne c8; have := i_ne c19; have := i_ne c33; have := i_ne c44; have := congrArg Int32.toInt c68; have := i_ne c85; have := i_ne c100; have : (0 : Int32).toInt = 0 := (by decide); omega) ⟨(decide_eq_true (p_14 (rne h_17 (y := 0) (c := 0) (by decide) (by decide)))), (decide_eq_true (p_20 (rne h_22 (y := 0) (c := 0) (by decide) (by decide))))⟩ (decide_eq_true (by rw [← gz58, ← gz67]; exact c68)) (by have := (p_27 (rne h_30 (y := 0) (c := 0) (by decide) (by decide))); have := (p_37 (rne h_39 (y := 0) (c := 0) (by decide) (by decide))); have := h_46; have := h_31; have := h_47; have := h_40; have := h_32; have := i_ne c8; have := i_ne c19; have := i_ne c33; have := i_ne c44; have := congrArg Int32.toInt c68; have := i_ne c85; have := i_ne c100; have : (0 : Int32).toInt = 0 := (by decide); have hsp0 := congrArg Int32.toInt (sz_y (f := f76) (p := p0) (by have := h_46; have := h_31; have := h_47; have := h_40; have := h_32; have := i_ne c8; have := i_ne c19; have := i_ne c33; have := i_ne c44; have := congrArg Int32.toInt c68; have := i_ne c85; have := i_ne c100; have : (0 : Int32).toInt = 0 := (by decide); omega)); have hsp2 := congrArg Int32.toInt (sz_y (f := f76) (p := p2) (by have := h_46; have := h_31; have := h_47; have := h_40; have := h_32; have := i_ne c8; have := i_ne c19; have := i_ne c33; have := i_ne c44; have := congrArg Int32.toInt c68; have := i_ne c85; have := i_ne c100; have : (0 : Int32).toInt = 0 := (by decide); omega)); omega)), trivial⟩, hp_at ht hP⟩, hS.F ht⟩) hS.2.2 dX10_paste_133
                  · refine ix_i (y := 1) s124 ?_
                    have h_48 : rg 1 1 p2 := r_eq_l_i (e := 1) (f := 1) s124 h_11 (rgn 1 (x := 1) (by decide)) (by decide)
                    refine va_aldL hx hb hK.1 hP 2 5 rfl rfl (in_lit (by decide)) dX10_paste_124 ?_
                    refine ix_r (y := .ref (rr 1)) rfl ?_
                    refine lv_iload hx hb dX10_paste_125 (lv_at hl 4 rfl) ?_
                    refine lv_iload hx hb dX10_paste_127 (lv_at hl 5 rfl) ?_
                    refine va_copyl (ty := .long) hx hb (hml.trans hl.1.symm) hown (hts (.methodLink RX10 422 arraycopyName) (by decide +kernel)) (hts (.native arraycopyName) (by decide +kernel)) (hts (.static arraycopyName) (by decide +kernel)) (hts (.initialized "java/lang/System") (by decide +kernel)) hK.1 hP hD hS 4 4 3 3 rfl rfl rfl rfl rfl (nneg h_31 (by decide)) (nneg h_40 (by decide)) (nneg h_32 (by decide)) (cp_le h_31 h_32 (by decide) (p_26 (rne h_30 (y := 0) (c := 0) (by decide) (by decide)))) (cp_le h_40 h_32 (by decide) (p_36 (rne h_39 (y := 0) (c := 0) (by decide) (by decide)))) (fun _ _ => rfl) (Nat.le_of_ble_eq_true rfl) (Nat.le_of_ble_eq_true rfl) dX10_paste_129 (fun H locs hP hD hS => ?_)
                    refine lv_iconst (v := 0) hx hb dX10_paste_132 (by decide) ?_
                    exact W.iret (v := 0) hx hb hr (fun t ht hW => ⟨⟨0, (fun k => ([] : List Int32).getD k 0, fun k => ([] : List (Nat → Int32)).getD k (fun _ => 0), fun k => ([f71, va_cpy f72 f72 p1.toNatClampNeg p3.toNatClampNeg p4.toNatClampNeg, f73, f74] : List (Nat → Int64)).getD k (fun _ => 0)), rfl, ⟨(rg_w (c := (-8)) (d := 0) (rgn 0 (x := 0) (by decide)) (by decide)), (fun _ => (rg_w (c := 0) (d := 3) h_46 (by decide))), (fun _ => (rg_w (c := 0) (d := 3) h_46 (by decide))), (fun _ => h_31), (fun _ => (rg_w (c := 0) (d := 3) h_48 (by decide))), (fun _ => (rg_w (c := 0) (d := 3) h_48 (by decide))), (fun _ => h_40), (fun _ => h_32), (ps_0 (by have := h_46; have := h_31; have := h_48; have := h_40; have := h_32; have := i_ne c8; have := i_ne c19; have := i_ne c33; have := i_ne c44; have := congrArg Int32.toInt c68; have := i_ne c85; have := i_ne c100; have : (0 : Int32).toInt = 0 := (by decide); omega) ⟨(decide_eq_true (p_14 (rne h_17 (y := 0) (c := 0) (by decide) (by decide)))), (decide_eq_true (p_20 (rne h_22 (y := 0) (c := 0) (by decide) (by decide))))⟩ (decide_eq_true (by rw [← gz58, ← gz67]; exact c68)) (by have := (p_27 (rne h_30 (y := 0) (c := 0) (by decide) (by decide))); have := (p_37 (rne h_39 (y := 0) (c := 0) (by decide) (by decide))); have := h_46; have := h_31; have := h_48; have := h_40; have := h_32; have := i_ne c8; have := i_ne c19; have := i_ne c33; have := i_ne c44; have := congrArg Int32.toInt c68; have := i_ne c85; have := i_ne c100; have : (0 : Int32).toInt = 0 := (by decide); have hsp0 := congrArg Int32.toInt (sz_y (f := f76) (p := p0) (by have := h_46; have := h_31; have := h_48; have := h_40; have := h_32; have := i_ne c8; have := i_ne c19; have := i_ne c33; have := i_ne c44; have := congrArg Int32.toInt c68; have := i_ne c85; have := i_ne c100; have : (0 : Int32).toInt = 0 := (by decide); omega)); have hsp2 := congrArg Int32.toInt (sz_y (f := f76) (p := p2) (by have := h_46; have := h_31; have := h_48; have := h_40; have := h_32; have := i_ne c8; have := i_ne c19; have := i_ne c33; have := i_ne c44; have := congrArg Int32.toInt c68; have := i_ne c85; have := i_ne c100; have : (0 : Int32).toInt = 0 := (by decide); omega)); omega)), trivial⟩, hp_at ht hP⟩, hS.F ht⟩) hS.2.2 dX10_paste_133
                  · refine ix_i (y := 2) s124 ?_
                    have h_49 : rg 2 2 p2 := r_eq_l_i (e := 2) (f := 2) s124 h_11 (rgn 2 (x := 2) (by decide)) (by decide)
                    refine va_aldL hx hb hK.1 hP 2 5 rfl rfl (in_lit (by decide)) dX10_paste_124 ?_
                    refine ix_r (y := .ref (rr 2)) rfl ?_
                    refine lv_iload hx hb dX10_paste_125 (lv_at hl 4 rfl) ?_
                    refine lv_iload hx hb dX10_paste_127 (lv_at hl 5 rfl) ?_
                    refine va_copyl (ty := .long) hx hb (hml.trans hl.1.symm) hown (hts (.methodLink RX10 422 arraycopyName) (by decide +kernel)) (hts (.native arraycopyName) (by decide +kernel)) (hts (.static arraycopyName) (by decide +kernel)) (hts (.initialized "java/lang/System") (by decide +kernel)) hK.1 hP hD hS 4 5 3 3 rfl rfl rfl rfl rfl (nneg h_31 (by decide)) (nneg h_40 (by decide)) (nneg h_32 (by decide)) (cp_le h_31 h_32 (by decide) (p_26 (rne h_30 (y := 0) (c := 0) (by decide) (by decide)))) (cp_le h_40 h_32 (by decide) (p_36 (rne h_39 (y := 0) (c := 0) (by decide) (by decide)))) (fun _ _ => rfl) (Nat.le_of_ble_eq_true rfl) (Nat.le_of_ble_eq_true rfl) dX10_paste_129 (fun H locs hP hD hS => ?_)
                    refine lv_iconst (v := 0) hx hb dX10_paste_132 (by decide) ?_
                    exact W.iret (v := 0) hx hb hr (fun t ht hW => ⟨⟨0, (fun k => ([] : List Int32).getD k 0, fun k => ([] : List (Nat → Int32)).getD k (fun _ => 0), fun k => ([f71, f72, va_cpy f72 f73 p1.toNatClampNeg p3.toNatClampNeg p4.toNatClampNeg, f74] : List (Nat → Int64)).getD k (fun _ => 0)), rfl, ⟨(rg_w (c := (-8)) (d := 0) (rgn 0 (x := 0) (by decide)) (by decide)), (fun _ => (rg_w (c := 0) (d := 3) h_46 (by decide))), (fun _ => (rg_w (c := 0) (d := 3) h_46 (by decide))), (fun _ => h_31), (fun _ => (rg_w (c := 0) (d := 3) h_49 (by decide))), (fun _ => (rg_w (c := 0) (d := 3) h_49 (by decide))), (fun _ => h_40), (fun _ => h_32), (ps_0 (by have := h_46; have := h_31; have := h_49; have := h_40; have := h_32; have := i_ne c8; have := i_ne c19; have := i_ne c33; have := i_ne c44; have := congrArg Int32.toInt c68; have := i_ne c85; have := i_ne c100; have : (0 : Int32).toInt = 0 := (by decide); omega) ⟨(decide_eq_true (p_14 (rne h_17 (y := 0) (c := 0) (by decide) (by decide)))), (decide_eq_true (p_20 (rne h_22 (y := 0) (c := 0) (by decide) (by decide))))⟩ (decide_eq_true (by rw [← gz58, ← gz67]; exact c68)) (by have := (p_27 (rne h_30 (y := 0) (c := 0) (by decide) (by decide))); have := (p_37 (rne h_39 (y := 0) (c := 0) (by decide) (by decide))); have := h_46; have := h_31; have := h_49; have := h_40; have := h_32; have := i_ne c8; have := i_ne c19; have := i_ne c33; have := i_ne c44; have := congrArg Int32.toInt c68; have := i_ne c85; have := i_ne c100; have : (0 : Int32).toInt = 0 := (by decide); have hsp0 := congrArg Int32.toInt (sz_y (f := f76) (p := p0) (by have := h_46; have := h_31; have := h_49; have := h_40; have := h_32; have := i_ne c8; have := i_ne c19; have := i_ne c33; have := i_ne c44; have := congrArg Int32.toInt c68; have := i_ne c85; have := i_ne c100; have : (0 : Int32).toInt = 0 := (by decide); omega)); have hsp2 := congrArg Int32.toInt (sz_y (f := f76) (p := p2) (by have := h_46; have := h_31; have := h_49; have := h_40; have := h_32; have := i_ne c8; have := i_ne c19; have := i_ne c33; have := i_ne c44; have := congrArg Int32.toInt c68; have := i_ne c85; have := i_ne c100; have : (0 : Int32).toInt = 0 := (by decide); omega)); omega)), trivial⟩, hp_at ht hP⟩, hS.F ht⟩) hS.2.2 dX10_paste_133
                  · refine ix_i (y := 3) s124 ?_
                    have h_50 : rg 3 3 p2 := r_eq_l_i (e := 3) (f := 3) s124 h_11 (rgn 3 (x := 3) (by decide)) (by decide)
                    refine va_aldL hx hb hK.1 hP 2 5 rfl rfl (in_lit (by decide)) dX10_paste_124 ?_
                    refine ix_r (y := .ref (rr 3)) rfl ?_
                    refine lv_iload hx hb dX10_paste_125 (lv_at hl 4 rfl) ?_
                    refine lv_iload hx hb dX10_paste_127 (lv_at hl 5 rfl) ?_
                    refine va_copyl (ty := .long) hx hb (hml.trans hl.1.symm) hown (hts (.methodLink RX10 422 arraycopyName) (by decide +kernel)) (hts (.native arraycopyName) (by decide +kernel)) (hts (.static arraycopyName) (by decide +kernel)) (hts (.initialized "java/lang/System") (by decide +kernel)) hK.1 hP hD hS 4 6 3 3 rfl rfl rfl rfl rfl (nneg h_31 (by decide)) (nneg h_40 (by decide)) (nneg h_32 (by decide)) (cp_le h_31 h_32 (by decide) (p_26 (rne h_30 (y := 0) (c := 0) (by decide) (by decide)))) (cp_le h_40 h_32 (by decide) (p_36 (rne h_39 (y := 0) (c := 0) (by decide) (by decide)))) (fun _ _ => rfl) (Nat.le_of_ble_eq_true rfl) (Nat.le_of_ble_eq_true rfl) dX10_paste_129 (fun H locs hP hD hS => ?_)
                    refine lv_iconst (v := 0) hx hb dX10_paste_132 (by decide) ?_
                    exact W.iret (v := 0) hx hb hr (fun t ht hW => ⟨⟨0, (fun k => ([] : List Int32).getD k 0, fun k => ([] : List (Nat → Int32)).getD k (fun _ => 0), fun k => ([f71, f72, f73, va_cpy f72 f74 p1.toNatClampNeg p3.toNatClampNeg p4.toNatClampNeg] : List (Nat → Int64)).getD k (fun _ => 0)), rfl, ⟨(rg_w (c := (-8)) (d := 0) (rgn 0 (x := 0) (by decide)) (by decide)), (fun _ => (rg_w (c := 0) (d := 3) h_46 (by decide))), (fun _ => (rg_w (c := 0) (d := 3) h_46 (by decide))), (fun _ => h_31), (fun _ => (rg_w (c := 0) (d := 3) h_50 (by decide))), (fun _ => (rg_w (c := 0) (d := 3) h_50 (by decide))), (fun _ => h_40), (fun _ => h_32), (ps_0 (by have := h_46; have := h_31; have := h_50; have := h_40; have := h_32; have := i_ne c8; have := i_ne c19; have := i_ne c33; have := i_ne c44; have := congrArg Int32.toInt c68; have := i_ne c85; have := i_ne c100; have : (0 : Int32).toInt = 0 := (by decide); omega) ⟨(decide_eq_true (p_14 (rne h_17 (y := 0) (c := 0) (by decide) (by decide)))), (decide_eq_true (p_20 (rne h_22 (y := 0) (c := 0) (by decide) (by decide))))⟩ (decide_eq_true (by rw [← gz58, ← gz67]; exact c68)) (by have := (p_27 (rne h_30 (y := 0) (c := 0) (by decide) (by decide))); have := (p_37 (rne h_39 (y := 0) (c := 0) (by decide) (by decide))); have := h_46; have := h_31; have := h_50; have := h_40; have := h_32; have := i_ne c8; have := i_ne c19; have := i_ne c33; have := i_ne c44; have := congrArg Int32.toInt c68; have := i_ne c85; have := i_ne c100; have : (0 : Int32).toInt = 0 := (by decide); have hsp0 := congrArg Int32.toInt (sz_y (f := f76) (p := p0) (by have := h_46; have := h_31; have := h_50; have := h_40; have := h_32; have := i_ne c8; have := i_ne c19; have := i_ne c33; have := i_ne c44; have := congrArg Int32.toInt c68; have := i_ne c85; have := i_ne c100; have : (0 : Int32).toInt = 0 := (by decide); omega)); have hsp2 := congrArg Int32.toInt (sz_y (f := f76) (p := p2) (by have := h_46; have := h_31; have := h_50; have := h_40; have := h_32; have := i_ne c8; have := i_ne c19; have := i_ne c33; have := i_ne c44; have := congrArg Int32.toInt c68; have := i_ne c85; have := i_ne c100; have : (0 : Int32).toInt = 0 := (by decide); omega)); omega)), trivial⟩, hp_at ht hP⟩, hS.F ht⟩) hS.2.2 dX10_paste_133
                · refine ix_i (y := 2) s114 ?_
                  have h_51 : rg 2 2 p0 := r_eq_l_i (e := 2) (f := 2) s114 h_6 (rgn 2 (x := 2) (by decide)) (by decide)
                  refine va_aldL hx hb hK.1 hP 2 5 rfl rfl (in_lit (by decide)) dX10_paste_114 ?_
                  refine ix_r (y := .ref (rr 2)) rfl ?_
                  refine lv_iload_n hx hb dX10_paste_115 rfl (lv_at hl 2 rfl) ?_
                  refine lv_aload_n hx hb dX10_paste_116 rfl (lv_at hl 0 rfl) ?_
                  refine va_get (D := G) (ci := 10) (v := .ref a69) (C := RX10) (T := TX10) (N := 11) hx hb hts (by decide +kernel) hown hK.1 hP 0 rfl rfl 5 (by decide) (hts (.fieldLink RX10 43 "CardHolder" "rows" "LCardHolder$Rows;") (by decide +kernel)) (fun _ h9 => h9) rfl dX10_paste_117 ?_
                  refine va_get (D := G) (ci := 6) (v := .ref a70) (C := RX6) (T := TX6) (N := 4) hx hb hts (by decide +kernel) hown hK.1 hP 1 rfl rfl 0 (by decide) (hts (.fieldLink RX10 418 "CardHolder$Rows" "numbers" "[[J") (by decide +kernel)) (fun _ h9 => h9) rfl dX10_paste_120 ?_
                  refine lv_iload_n hx hb dX10_paste_123 rfl (lv_at hl 3 rfl) ?_
                  rcases (sp4 h_11.1 (by have := h_11.2; omega)) with s124 | s124 | s124 | s124
                  · refine ix_i (y := 0) s124 ?_
                    have h_52 : rg 0 0 p2 := r_eq_l_i (e := 0) (f := 0) s124 h_11 (rgn 0 (x := 0) (by decide)) (by decide)
                    refine va_aldL hx hb hK.1 hP 2 5 rfl rfl (in_lit (by decide)) dX10_paste_124 ?_
                    refine ix_r (y := .ref (rr 0)) rfl ?_
                    refine lv_iload hx hb dX10_paste_125 (lv_at hl 4 rfl) ?_
                    refine lv_iload hx hb dX10_paste_127 (lv_at hl 5 rfl) ?_
                    refine va_copyl (ty := .long) hx hb (hml.trans hl.1.symm) hown (hts (.methodLink RX10 422 arraycopyName) (by decide +kernel)) (hts (.native arraycopyName) (by decide +kernel)) (hts (.static arraycopyName) (by decide +kernel)) (hts (.initialized "java/lang/System") (by decide +kernel)) hK.1 hP hD hS 5 3 3 3 rfl rfl rfl rfl rfl (nneg h_31 (by decide)) (nneg h_40 (by decide)) (nneg h_32 (by decide)) (cp_le h_31 h_32 (by decide) (p_26 (rne h_30 (y := 0) (c := 0) (by decide) (by decide)))) (cp_le h_40 h_32 (by decide) (p_36 (rne h_39 (y := 0) (c := 0) (by decide) (by decide)))) (fun _ _ => rfl) (Nat.le_of_ble_eq_true rfl) (Nat.le_of_ble_eq_true rfl) dX10_paste_129 (fun H locs hP hD hS => ?_)
                    refine lv_iconst (v := 0) hx hb dX10_paste_132 (by decide) ?_
                    exact W.iret (v := 0) hx hb hr (fun t ht hW => ⟨⟨0, (fun k => ([] : List Int32).getD k 0, fun k => ([] : List (Nat → Int32)).getD k (fun _ => 0), fun k => ([va_cpy f73 f71 p1.toNatClampNeg p3.toNatClampNeg p4.toNatClampNeg, f72, f73, f74] : List (Nat → Int64)).getD k (fun _ => 0)), rfl, ⟨(rg_w (c := (-8)) (d := 0) (rgn 0 (x := 0) (by decide)) (by decide)), (fun _ => (rg_w (c := 0) (d := 3) h_51 (by decide))), (fun _ => (rg_w (c := 0) (d := 3) h_51 (by decide))), (fun _ => h_31), (fun _ => (rg_w (c := 0) (d := 3) h_52 (by decide))), (fun _ => (rg_w (c := 0) (d := 3) h_52 (by decide))), (fun _ => h_40), (fun _ => h_32), (ps_0 (by have := h_51; have := h_31; have := h_52; have := h_40; have := h_32; have := i_ne c8; have := i_ne c19; have := i_ne c33; have := i_ne c44; have := congrArg Int32.toInt c68; have := i_ne c85; have := i_ne c100; have : (0 : Int32).toInt = 0 := (by decide); omega) ⟨(decide_eq_true (p_14 (rne h_17 (y := 0) (c := 0) (by decide) (by decide)))), (decide_eq_true (p_20 (rne h_22 (y := 0) (c := 0) (by decide) (by decide))))⟩ (decide_eq_true (by rw [← gz58, ← gz67]; exact c68)) (by have := (p_27 (rne h_30 (y := 0) (c := 0) (by decide) (by decide))); have := (p_37 (rne h_39 (y := 0) (c := 0) (by decide) (by decide))); have := h_51; have := h_31; have := h_52; have := h_40; have := h_32; have := i_ne c8; have := i_ne c19; have := i_ne c33; have := i_ne c44; have := congrArg Int32.toInt c68; have := i_ne c85; have := i_ne c100; have : (0 : Int32).toInt = 0 := (by decide); have hsp0 := congrArg Int32.toInt (sz_y (f := f76) (p := p0) (by have := h_51; have := h_31; have := h_52; have := h_40; have := h_32; have := i_ne c8; have := i_ne c19; have := i_ne c33; have := i_ne c44; have := congrArg Int32.toInt c68; have := i_ne c85; have := i_ne c100; have : (0 : Int32).toInt = 0 := (by decide); omega)); have hsp2 := congrArg Int32.toInt (sz_y (f := f76) (p := p2) (by have := h_51; have := h_31; have := h_52; have := h_40; have := h_32; have := i_ne c8; have := i_ne c19; have := i_ne c33; have := i_ne c44; have := congrArg Int32.toInt c68; have := i_ne c85; have := i_ne c100; have : (0 : Int32).toInt = 0 := (by decide); omega)); omega)), trivial⟩, hp_at ht hP⟩, hS.F ht⟩) hS.2.2 dX10_paste_133
                  · refine ix_i (y := 1) s124 ?_
                    have h_53 : rg 1 1 p2 := r_eq_l_i (e := 1) (f := 1) s124 h_11 (rgn 1 (x := 1) (by decide)) (by decide)
                    refine va_aldL hx hb hK.1 hP 2 5 rfl rfl (in_lit (by decide)) dX10_paste_124 ?_
                    refine ix_r (y := .ref (rr 1)) rfl ?_
                    refine lv_iload hx hb dX10_paste_125 (lv_at hl 4 rfl) ?_
                    refine lv_iload hx hb dX10_paste_127 (lv_at hl 5 rfl) ?_
                    refine va_copyl (ty := .long) hx hb (hml.trans hl.1.symm) hown (hts (.methodLink RX10 422 arraycopyName) (by decide +kernel)) (hts (.native arraycopyName) (by decide +kernel)) (hts (.static arraycopyName) (by decide +kernel)) (hts (.initialized "java/lang/System") (by decide +kernel)) hK.1 hP hD hS 5 4 3 3 rfl rfl rfl rfl rfl (nneg h_31 (by decide)) (nneg h_40 (by decide)) (nneg h_32 (by decide)) (cp_le h_31 h_32 (by decide) (p_26 (rne h_30 (y := 0) (c := 0) (by decide) (by decide)))) (cp_le h_40 h_32 (by decide) (p_36 (rne h_39 (y := 0) (c := 0) (by decide) (by decide)))) (fun _ _ => rfl) (Nat.le_of_ble_eq_true rfl) (Nat.le_of_ble_eq_true rfl) dX10_paste_129 (fun H locs hP hD hS => ?_)
                    refine lv_iconst (v := 0) hx hb dX10_paste_132 (by decide) ?_
                    exact W.iret (v := 0) hx hb hr (fun t ht hW => ⟨⟨0, (fun k => ([] : List Int32).getD k 0, fun k => ([] : List (Nat → Int32)).getD k (fun _ => 0), fun k => ([f71, va_cpy f73 f72 p1.toNatClampNeg p3.toNatClampNeg p4.toNatClampNeg, f73, f74] : List (Nat → Int64)).getD k (fun _ => 0)), rfl, ⟨(rg_w (c := (-8)) (d := 0) (rgn 0 (x := 0) (by decide)) (by decide)), (fun _ => (rg_w (c := 0) (d := 3) h_51 (by decide))), (fun _ => (rg_w (c := 0) (d := 3) h_51 (by decide))), (fun _ => h_31), (fun _ => (rg_w (c := 0) (d := 3) h_53 (by decide))), (fun _ => (rg_w (c := 0) (d := 3) h_53 (by decide))), (fun _ => h_40), (fun _ => h_32), (ps_0 (by have := h_51; have := h_31; have := h_53; have := h_40; have := h_32; have := i_ne c8; have := i_ne c19; have := i_ne c33; have := i_ne c44; have := congrArg Int32.toInt c68; have := i_ne c85; have := i_ne c100; have : (0 : Int32).toInt = 0 := (by decide); omega) ⟨(decide_eq_true (p_14 (rne h_17 (y := 0) (c := 0) (by decide) (by decide)))), (decide_eq_true (p_20 (rne h_22 (y := 0) (c := 0) (by decide) (by decide))))⟩ (decide_eq_true (by rw [← gz58, ← gz67]; exact c68)) (by have := (p_27 (rne h_30 (y := 0) (c := 0) (by decide) (by decide))); have := (p_37 (rne h_39 (y := 0) (c := 0) (by decide) (by decide))); have := h_51; have := h_31; have := h_53; have := h_40; have := h_32; have := i_ne c8; have := i_ne c19; have := i_ne c33; have := i_ne c44; have := congrArg Int32.toInt c68; have := i_ne c85; have := i_ne c100; have : (0 : Int32).toInt = 0 := (by decide); have hsp0 := congrArg Int32.toInt (sz_y (f := f76) (p := p0) (by have := h_51; have := h_31; have := h_53; have := h_40; have := h_32; have := i_ne c8; have := i_ne c19; have := i_ne c33; have := i_ne c44; have := congrArg Int32.toInt c68; have := i_ne c85; have := i_ne c100; have : (0 : Int32).toInt = 0 := (by decide); omega)); have hsp2 := congrArg Int32.toInt (sz_y (f := f76) (p := p2) (by have := h_51; have := h_31; have := h_53; have := h_40; have := h_32; have := i_ne c8; have := i_ne c19; have := i_ne c33; have := i_ne c44; have := congrArg Int32.toInt c68; have := i_ne c85; have := i_ne c100; have : (0 : Int32).toInt = 0 := (by decide); omega)); omega)), trivial⟩, hp_at ht hP⟩, hS.F ht⟩) hS.2.2 dX10_paste_133
                  · refine ix_i (y := 2) s124 ?_
                    have h_54 : rg 2 2 p2 := r_eq_l_i (e := 2) (f := 2) s124 h_11 (rgn 2 (x := 2) (by decide)) (by decide)
                    refine va_aldL hx hb hK.1 hP 2 5 rfl rfl (in_lit (by decide)) dX10_paste_124 ?_
                    refine ix_r (y := .ref (rr 2)) rfl ?_
                    refine lv_iload hx hb dX10_paste_125 (lv_at hl 4 rfl) ?_
                    refine lv_iload hx hb dX10_paste_127 (lv_at hl 5 rfl) ?_
                    refine va_copyl (ty := .long) hx hb (hml.trans hl.1.symm) hown (hts (.methodLink RX10 422 arraycopyName) (by decide +kernel)) (hts (.native arraycopyName) (by decide +kernel)) (hts (.static arraycopyName) (by decide +kernel)) (hts (.initialized "java/lang/System") (by decide +kernel)) hK.1 hP hD hS 5 5 3 3 rfl rfl rfl rfl rfl (nneg h_31 (by decide)) (nneg h_40 (by decide)) (nneg h_32 (by decide)) (cp_le h_31 h_32 (by decide) (p_26 (rne h_30 (y := 0) (c := 0) (by decide) (by decide)))) (cp_le h_40 h_32 (by decide) (p_36 (rne h_39 (y := 0) (c := 0) (by decide) (by decide)))) (fun _ _ => rfl) (Nat.le_of_ble_eq_true rfl) (Nat.le_of_ble_eq_true rfl) dX10_paste_129 (fun H locs hP hD hS => ?_)
                    refine lv_iconst (v := 0) hx hb dX10_paste_132 (by decide) ?_
                    exact W.iret (v := 0) hx hb hr (fun t ht hW => ⟨⟨0, (fun k => ([] : List Int32).getD k 0, fun k => ([] : List (Nat → Int32)).getD k (fun _ => 0), fun k => ([f71, f72, va_cpy f73 f73 p1.toNatClampNeg p3.toNatClampNeg p4.toNatClampNeg, f74] : List (Nat → Int64)).getD k (fun _ => 0)), rfl, ⟨(rg_w (c := (-8)) (d := 0) (rgn 0 (x := 0) (by decide)) (by decide)), (fun _ => (rg_w (c := 0) (d := 3) h_51 (by decide))), (fun _ => (rg_w (c := 0) (d := 3) h_51 (by decide))), (fun _ => h_31), (fun _ => (rg_w (c := 0) (d := 3) h_54 (by decide))), (fun _ => (rg_w (c := 0) (d := 3) h_54 (by decide))), (fun _ => h_40), (fun _ => h_32), (ps_0 (by have := h_51; have := h_31; have := h_54; have := h_40; have := h_32; have := i_ne c8; have := i_ne c19; have := i_ne c33; have := i_ne c44; have := congrArg Int32.toInt c68; have := i_ne c85; have := i_ne c100; have : (0 : Int32).toInt = 0 := (by decide); omega) ⟨(decide_eq_true (p_14 (rne h_17 (y := 0) (c := 0) (by decide) (by decide)))), (decide_eq_true (p_20 (rne h_22 (y := 0) (c := 0) (by decide) (by decide))))⟩ (decide_eq_true (by rw [← gz58, ← gz67]; exact c68)) (by have := (p_27 (rne h_30 (y := 0) (c := 0) (by decide) (by decide))); have := (p_37 (rne h_39 (y := 0) (c := 0) (by decide) (by decide))); have := h_51; have := h_31; have := h_54; have := h_40; have := h_32; have := i_ne c8; have := i_ne c19; have := i_ne c33; have := i_ne c44; have := congrArg Int32.toInt c68; have := i_ne c85; have := i_ne c100; have : (0 : Int32).toInt = 0 := (by decide); have hsp0 := congrArg Int32.toInt (sz_y (f := f76) (p := p0) (by have := h_51; have := h_31; have := h_54; have := h_40; have := h_32; have := i_ne c8; have := i_ne c19; have := i_ne c33; have := i_ne c44; have := congrArg Int32.toInt c68; have := i_ne c85; have := i_ne c100; have : (0 : Int32).toInt = 0 := (by decide); omega)); have hsp2 := congrArg Int32.toInt (sz_y (f := f76) (p := p2) (by have := h_51; have := h_31; have := h_54; have := h_40; have := h_32; have := i_ne c8; have := i_ne c19; have := i_ne c33; have := i_ne c44; have := congrArg Int32.toInt c68; have := i_ne c85; have := i_ne c100; have : (0 : Int32).toInt = 0 := (by decide); omega)); omega)), trivial⟩, hp_at ht hP⟩, hS.F ht⟩) hS.2.2 dX10_paste_133
                  · refine ix_i (y := 3) s124 ?_
                    have h_55 : rg 3 3 p2 := r_eq_l_i (e := 3) (f := 3) s124 h_11 (rgn 3 (x := 3) (by decide)) (by decide)
                    refine va_aldL hx hb hK.1 hP 2 5 rfl rfl (in_lit (by decide)) dX10_paste_124 ?_
                    refine ix_r (y := .ref (rr 3)) rfl ?_
                    refine lv_iload hx hb dX10_paste_125 (lv_at hl 4 rfl) ?_
                    refine lv_iload hx hb dX10_paste_127 (lv_at hl 5 rfl) ?_
                    refine va_copyl (ty := .long) hx hb (hml.trans hl.1.symm) hown (hts (.methodLink RX10 422 arraycopyName) (by decide +kernel)) (hts (.native arraycopyName) (by decide +kernel)) (hts (.static arraycopyName) (by decide +kernel)) (hts (.initialized "java/lang/System") (by decide +kernel)) hK.1 hP hD hS 5 6 3 3 rfl rfl rfl rfl rfl (nneg h_31 (by decide)) (nneg h_40 (by decide)) (nneg h_32 (by decide)) (cp_le h_31 h_32 (by decide) (p_26 (rne h_30 (y := 0) (c := 0) (by decide) (by decide)))) (cp_le h_40 h_32 (by decide) (p_36 (rne h_39 (y := 0) (c := 0) (by decide) (by decide)))) (fun _ _ => rfl) (Nat.le_of_ble_eq_true rfl) (Nat.le_of_ble_eq_true rfl) dX10_paste_129 (fun H locs hP hD hS => ?_)
                    refine lv_iconst (v := 0) hx hb dX10_paste_132 (by decide) ?_
                    exact W.iret (v := 0) hx hb hr (fun t ht hW => ⟨⟨0, (fun k => ([] : List Int32).getD k 0, fun k => ([] : List (Nat → Int32)).getD k (fun _ => 0), fun k => ([f71, f72, f73, va_cpy f73 f74 p1.toNatClampNeg p3.toNatClampNeg p4.toNatClampNeg] : List (Nat → Int64)).getD k (fun _ => 0)), rfl, ⟨(rg_w (c := (-8)) (d := 0) (rgn 0 (x := 0) (by decide)) (by decide)), (fun _ => (rg_w (c := 0) (d := 3) h_51 (by decide))), (fun _ => (rg_w (c := 0) (d := 3) h_51 (by decide))), (fun _ => h_31), (fun _ => (rg_w (c := 0) (d := 3) h_55 (by decide))), (fun _ => (rg_w (c := 0) (d := 3) h_55 (by decide))), (fun _ => h_40), (fun _ => h_32), (ps_0 (by have := h_51; have := h_31; have := h_55; have := h_40; have := h_32; have := i_ne c8; have := i_ne c19; have := i_ne c33; have := i_ne c44; have := congrArg Int32.toInt c68; have := i_ne c85; have := i_ne c100; have : (0 : Int32).toInt = 0 := (by decide); omega) ⟨(decide_eq_true (p_14 (rne h_17 (y := 0) (c := 0) (by decide) (by decide)))), (decide_eq_true (p_20 (rne h_22 (y := 0) (c := 0) (by decide) (by decide))))⟩ (decide_eq_true (by rw [← gz58, ← gz67]; exact c68)) (by have := (p_27 (rne h_30 (y := 0) (c := 0) (by decide) (by decide))); have := (p_37 (rne h_39 (y := 0) (c := 0) (by decide) (by decide))); have := h_51; have := h_31; have := h_55; have := h_40; have := h_32; have := i_ne c8; have := i_ne c19; have := i_ne c33; have := i_ne c44; have := congrArg Int32.toInt c68; have := i_ne c85; have := i_ne c100; have : (0 : Int32).toInt = 0 := (by decide); have hsp0 := congrArg Int32.toInt (sz_y (f := f76) (p := p0) (by have := h_51; have := h_31; have := h_55; have := h_40; have := h_32; have := i_ne c8; have := i_ne c19; have := i_ne c33; have := i_ne c44; have := congrArg Int32.toInt c68; have := i_ne c85; have := i_ne c100; have : (0 : Int32).toInt = 0 := (by decide); omega)); have hsp2 := congrArg Int32.toInt (sz_y (f := f76) (p := p2) (by have := h_51; have := h_31; have := h_55; have := h_40; have := h_32; have := i_ne c8; have := i_ne c19; have := i_ne c33; have := i_ne c44; have := congrArg Int32.toInt c68; have := i_ne c85; have := i_ne c100; have : (0 : Int32).toInt = 0 := (by decide); omega)); omega)), trivial⟩, hp_at ht hP⟩, hS.F ht⟩) hS.2.2 dX10_paste_133
                · refine ix_i (y := 3) s114 ?_
                  have h_56 : rg 3 3 p0 := r_eq_l_i (e := 3) (f := 3) s114 h_6 (rgn 3 (x := 3) (by decide)) (by decide)
                  refine va_aldL hx hb hK.1 hP 2 5 rfl rfl (in_lit (by decide)) dX10_paste_114 ?_
                  refine ix_r (y := .ref (rr 3)) rfl ?_
                  refine lv_iload_n hx hb dX10_paste_115 rfl (lv_at hl 2 rfl) ?_
                  refine lv_aload_n hx hb dX10_paste_116 rfl (lv_at hl 0 rfl) ?_
                  refine va_get (D := G) (ci := 10) (v := .ref a69) (C := RX10) (T := TX10) (N := 11) hx hb hts (by decide +kernel) hown hK.1 hP 0 rfl rfl 5 (by decide) (hts (.fieldLink RX10 43 "CardHolder" "rows" "LCardHolder$Rows;") (by decide +kernel)) (fun _ h9 => h9) rfl dX10_paste_117 ?_
                  refine va_get (D := G) (ci := 6) (v := .ref a70) (C := RX6) (T := TX6) (N := 4) hx hb hts (by decide +kernel) hown hK.1 hP 1 rfl rfl 0 (by decide) (hts (.fieldLink RX10 418 "CardHolder$Rows" "numbers" "[[J") (by decide +kernel)) (fun _ h9 => h9) rfl dX10_paste_120 ?_
                  refine lv_iload_n hx hb dX10_paste_123 rfl (lv_at hl 3 rfl) ?_
                  rcases (sp4 h_11.1 (by have := h_11.2; omega)) with s124 | s124 | s124 | s124
                  · refine ix_i (y := 0) s124 ?_
                    have h_57 : rg 0 0 p2 := r_eq_l_i (e := 0) (f := 0) s124 h_11 (rgn 0 (x := 0) (by decide)) (by decide)
                    refine va_aldL hx hb hK.1 hP 2 5 rfl rfl (in_lit (by decide)) dX10_paste_124 ?_
                    refine ix_r (y := .ref (rr 0)) rfl ?_
                    refine lv_iload hx hb dX10_paste_125 (lv_at hl 4 rfl) ?_
                    refine lv_iload hx hb dX10_paste_127 (lv_at hl 5 rfl) ?_
                    refine va_copyl (ty := .long) hx hb (hml.trans hl.1.symm) hown (hts (.methodLink RX10 422 arraycopyName) (by decide +kernel)) (hts (.native arraycopyName) (by decide +kernel)) (hts (.static arraycopyName) (by decide +kernel)) (hts (.initialized "java/lang/System") (by decide +kernel)) hK.1 hP hD hS 6 3 3 3 rfl rfl rfl rfl rfl (nneg h_31 (by decide)) (nneg h_40 (by decide)) (nneg h_32 (by decide)) (cp_le h_31 h_32 (by decide) (p_26 (rne h_30 (y := 0) (c := 0) (by decide) (by decide)))) (cp_le h_40 h_32 (by decide) (p_36 (rne h_39 (y := 0) (c := 0) (by decide) (by decide)))) (fun _ _ => rfl) (Nat.le_of_ble_eq_true rfl) (Nat.le_of_ble_eq_true rfl) dX10_paste_129 (fun H locs hP hD hS => ?_)
                    refine lv_iconst (v := 0) hx hb dX10_paste_132 (by decide) ?_
                    exact W.iret (v := 0) hx hb hr (fun t ht hW => ⟨⟨0, (fun k => ([] : List Int32).getD k 0, fun k => ([] : List (Nat → Int32)).getD k (fun _ => 0), fun k => ([va_cpy f74 f71 p1.toNatClampNeg p3.toNatClampNeg p4.toNatClampNeg, f72, f73, f74] : List (Nat → Int64)).getD k (fun _ => 0)), rfl, ⟨(rg_w (c := (-8)) (d := 0) (rgn 0 (x := 0) (by decide)) (by decide)), (fun _ => (rg_w (c := 0) (d := 3) h_56 (by decide))), (fun _ => (rg_w (c := 0) (d := 3) h_56 (by decide))), (fun _ => h_31), (fun _ => (rg_w (c := 0) (d := 3) h_57 (by decide))), (fun _ => (rg_w (c := 0) (d := 3) h_57 (by decide))), (fun _ => h_40), (fun _ => h_32), (ps_0 (by have := h_56; have := h_31; have := h_57; have := h_40; have := h_32; have := i_ne c8; have := i_ne c19; have := i_ne c33; have := i_ne c44; have := congrArg Int32.toInt c68; have := i_ne c85; have := i_ne c100; have : (0 : Int32).toInt = 0 := (by decide); omega) ⟨(decide_eq_true (p_14 (rne h_17 (y := 0) (c := 0) (by decide) (by decide)))), (decide_eq_true (p_20 (rne h_22 (y := 0) (c := 0) (by decide) (by decide))))⟩ (decide_eq_true (by rw [← gz58, ← gz67]; exact c68)) (by have := (p_27 (rne h_30 (y := 0) (c := 0) (by decide) (by decide))); have := (p_37 (rne h_39 (y := 0) (c := 0) (by decide) (by decide))); have := h_56; have := h_31; have := h_57; have := h_40; have := h_32; have := i_ne c8; have := i_ne c19; have := i_ne c33; have := i_ne c44; have := congrArg Int32.toInt c68; have := i_ne c85; have := i_ne c100; have : (0 : Int32).toInt = 0 := (by decide); have hsp0 := congrArg Int32.toInt (sz_y (f := f76) (p := p0) (by have := h_56; have := h_31; have := h_57; have := h_40; have := h_32; have := i_ne c8; have := i_ne c19; have := i_ne c33; have := i_ne c44; have := congrArg Int32.toInt c68; have := i_ne c85; have := i_ne c100; have : (0 : Int32).toInt = 0 := (by decide); omega)); have hsp2 := congrArg Int32.toInt (sz_y (f := f76) (p := p2) (by have := h_56; have := h_31; have := h_57; have := h_40; have := h_32; have := i_ne c8; have := i_ne c19; have := i_ne c33; have := i_ne c44; have := congrArg Int32.toInt c68; have := i_ne c85; have := i_ne c100; have : (0 : Int32).toInt = 0 := (by decide); omega)); omega)), trivial⟩, hp_at ht hP⟩, hS.F ht⟩) hS.2.2 dX10_paste_133
                  · refine ix_i (y := 1) s124 ?_
                    have h_58 : rg 1 1 p2 := r_eq_l_i (e := 1) (f := 1) s124 h_11 (rgn 1 (x := 1) (by decide)) (by decide)
                    refine va_aldL hx hb hK.1 hP 2 5 rfl rfl (in_lit (by decide)) dX10_paste_124 ?_
                    refine ix_r (y := .ref (rr 1)) rfl ?_
                    refine lv_iload hx hb dX10_paste_125 (lv_at hl 4 rfl) ?_
                    refine lv_iload hx hb dX10_paste_127 (lv_at hl 5 rfl) ?_
                    refine va_copyl (ty := .long) hx hb (hml.trans hl.1.symm) hown (hts (.methodLink RX10 422 arraycopyName) (by decide +kernel)) (hts (.native arraycopyName) (by decide +kernel)) (hts (.static arraycopyName) (by decide +kernel)) (hts (.initialized "java/lang/System") (by decide +kernel)) hK.1 hP hD hS 6 4 3 3 rfl rfl rfl rfl rfl (nneg h_31 (by decide)) (nneg h_40 (by decide)) (nneg h_32 (by decide)) (cp_le h_31 h_32 (by decide) (p_26 (rne h_30 (y := 0) (c := 0) (by decide) (by decide)))) (cp_le h_40 h_32 (by decide) (p_36 (rne h_39 (y := 0) (c := 0) (by decide) (by decide)))) (fun _ _ => rfl) (Nat.le_of_ble_eq_true rfl) (Nat.le_of_ble_eq_true rfl) dX10_paste_129 (fun H locs hP hD hS => ?_)
                    refine lv_iconst (v := 0) hx hb dX10_paste_132 (by decide) ?_
                    exact W.iret (v := 0) hx hb hr (fun t ht hW => ⟨⟨0, (fun k => ([] : List Int32).getD k 0, fun k => ([] : List (Nat → Int32)).getD k (fun _ => 0), fun k => ([f71, va_cpy f74 f72 p1.toNatClampNeg p3.toNatClampNeg p4.toNatClampNeg, f73, f74] : List (Nat → Int64)).getD k (fun _ => 0)), rfl, ⟨(rg_w (c := (-8)) (d := 0) (rgn 0 (x := 0) (by decide)) (by decide)), (fun _ => (rg_w (c := 0) (d := 3) h_56 (by decide))), (fun _ => (rg_w (c := 0) (d := 3) h_56 (by decide))), (fun _ => h_31), (fun _ => (rg_w (c := 0) (d := 3) h_58 (by decide))), (fun _ => (rg_w (c := 0) (d := 3) h_58 (by decide))), (fun _ => h_40), (fun _ => h_32), (ps_0 (by have := h_56; have := h_31; have := h_58; have := h_40; have := h_32; have := i_ne c8; have := i_ne c19; have := i_ne c33; have := i_ne c44; have := congrArg Int32.toInt c68; have := i_ne c85; have := i_ne c100; have : (0 : Int32).toInt = 0 := (by decide); omega) ⟨(decide_eq_true (p_14 (rne h_17 (y := 0) (c := 0) (by decide) (by decide)))), (decide_eq_true (p_20 (rne h_22 (y := 0) (c := 0) (by decide) (by decide))))⟩ (decide_eq_true (by rw [← gz58, ← gz67]; exact c68)) (by have := (p_27 (rne h_30 (y := 0) (c := 0) (by decide) (by decide))); have := (p_37 (rne h_39 (y := 0) (c := 0) (by decide) (by decide))); have := h_56; have := h_31; have := h_58; have := h_40; have := h_32; have := i_ne c8; have := i_ne c19; have := i_ne c33; have := i_ne c44; have := congrArg Int32.toInt c68; have := i_ne c85; have := i_ne c100; have : (0 : Int32).toInt = 0 := (by decide); have hsp0 := congrArg Int32.toInt (sz_y (f := f76) (p := p0) (by have := h_56; have := h_31; have := h_58; have := h_40; have := h_32; have := i_ne c8; have := i_ne c19; have := i_ne c33; have := i_ne c44; have := congrArg Int32.toInt c68; have := i_ne c85; have := i_ne c100; have : (0 : Int32).toInt = 0 := (by decide); omega)); have hsp2 := congrArg Int32.toInt (sz_y (f := f76) (p := p2) (by have := h_56; have := h_31; have := h_58; have := h_40; have := h_32; have := i_ne c8; have := i_ne c19; have := i_ne c33; have := i_ne c44; have := congrArg Int32.toInt c68; have := i_ne c85; have := i_ne c100; have : (0 : Int32).toInt = 0 := (by decide); omega)); omega)), trivial⟩, hp_at ht hP⟩, hS.F ht⟩) hS.2.2 dX10_paste_133
                  · refine ix_i (y := 2) s124 ?_
                    have h_59 : rg 2 2 p2 := r_eq_l_i (e := 2) (f := 2) s124 h_11 (rgn 2 (x := 2) (by decide)) (by decide)
                    refine va_aldL hx hb hK.1 hP 2 5 rfl rfl (in_lit (by decide)) dX10_paste_124 ?_
                    refine ix_r (y := .ref (rr 2)) rfl ?_
                    refine lv_iload hx hb dX10_paste_125 (lv_at hl 4 rfl) ?_
                    refine lv_iload hx hb dX10_paste_127 (lv_at hl 5 rfl) ?_
                    refine va_copyl (ty := .long) hx hb (hml.trans hl.1.symm) hown (hts (.methodLink RX10 422 arraycopyName) (by decide +kernel)) (hts (.native arraycopyName) (by decide +kernel)) (hts (.static arraycopyName) (by decide +kernel)) (hts (.initialized "java/lang/System") (by decide +kernel)) hK.1 hP hD hS 6 5 3 3 rfl rfl rfl rfl rfl (nneg h_31 (by decide)) (nneg h_40 (by decide)) (nneg h_32 (by decide)) (cp_le h_31 h_32 (by decide) (p_26 (rne h_30 (y := 0) (c := 0) (by decide) (by decide)))) (cp_le h_40 h_32 (by decide) (p_36 (rne h_39 (y := 0) (c := 0) (by decide) (by decide)))) (fun _ _ => rfl) (Nat.le_of_ble_eq_true rfl) (Nat.le_of_ble_eq_true rfl) dX10_paste_129 (fun H locs hP hD hS => ?_)
                    refine lv_iconst (v := 0) hx hb dX10_paste_132 (by decide) ?_
                    exact W.iret (v := 0) hx hb hr (fun t ht hW => ⟨⟨0, (fun k => ([] : List Int32).getD k 0, fun k => ([] : List (Nat → Int32)).getD k (fun _ => 0), fun k => ([f71, f72, va_cpy f74 f73 p1.toNatClampNeg p3.toNatClampNeg p4.toNatClampNeg, f74] : List (Nat → Int64)).getD k (fun _ => 0)), rfl, ⟨(rg_w (c := (-8)) (d := 0) (rgn 0 (x := 0) (by decide)) (by decide)), (fun _ => (rg_w (c := 0) (d := 3) h_56 (by decide))), (fun _ => (rg_w (c := 0) (d := 3) h_56 (by decide))), (fun _ => h_31), (fun _ => (rg_w (c := 0) (d := 3) h_59 (by decide))), (fun _ => (rg_w (c := 0) (d := 3) h_59 (by decide))), (fun _ => h_40), (fun _ => h_32), (ps_0 (by have := h_56; have := h_31; have := h_59; have := h_40; have := h_32; have := i_ne c8; have := i_ne c19; have := i_ne c33; have := i_ne c44; have := congrArg Int32.toInt c68; have := i_ne c85; have := i_ne c100; have : (0 : Int32).toInt = 0 := (by decide); omega) ⟨(decide_eq_true (p_14 (rne h_17 (y := 0) (c := 0) (by decide) (by decide)))), (decide_eq_true (p_20 (rne h_22 (y := 0) (c := 0) (by decide) (by decide))))⟩ (decide_eq_true (by rw [← gz58, ← gz67]; exact c68)) (by have := (p_27 (rne h_30 (y := 0) (c := 0) (by decide) (by decide))); have := (p_37 (rne h_39 (y := 0) (c := 0) (by decide) (by decide))); have := h_56; have := h_31; have := h_59; have := h_40; have := h_32; have := i_ne c8; have := i_ne c19; have := i_ne c33; have := i_ne c44; have := congrArg Int32.toInt c68; have := i_ne c85; have := i_ne c100; have : (0 : Int32).toInt = 0 := (by decide); have hsp0 := congrArg Int32.toInt (sz_y (f := f76) (p := p0) (by have := h_56; have := h_31; have := h_59; have := h_40; have := h_32; have := i_ne c8; have := i_ne c19; have := i_ne c33; have := i_ne c44; have := congrArg Int32.toInt c68; have := i_ne c85; have := i_ne c100; have : (0 : Int32).toInt = 0 := (by decide); omega)); have hsp2 := congrArg Int32.toInt (sz_y (f := f76) (p := p2) (by have := h_56; have := h_31; have := h_59; have := h_40; have := h_32; have := i_ne c8; have := i_ne c19; have := i_ne c33; have := i_ne c44; have := congrArg Int32.toInt c68; have := i_ne c85; have := i_ne c100; have : (0 : Int32).toInt = 0 := (by decide); omega)); omega)), trivial⟩, hp_at ht hP⟩, hS.F ht⟩) hS.2.2 dX10_paste_133
                  · refine ix_i (y := 3) s124 ?_
                    have h_60 : rg 3 3 p2 := r_eq_l_i (e := 3) (f := 3) s124 h_11 (rgn 3 (x := 3) (by decide)) (by decide)
                    refine va_aldL hx hb hK.1 hP 2 5 rfl rfl (in_lit (by decide)) dX10_paste_124 ?_
                    refine ix_r (y := .ref (rr 3)) rfl ?_
                    refine lv_iload hx hb dX10_paste_125 (lv_at hl 4 rfl) ?_
                    refine lv_iload hx hb dX10_paste_127 (lv_at hl 5 rfl) ?_
                    refine va_copyl (ty := .long) hx hb (hml.trans hl.1.symm) hown (hts (.methodLink RX10 422 arraycopyName) (by decide +kernel)) (hts (.native arraycopyName) (by decide +kernel)) (hts (.static arraycopyName) (by decide +kernel)) (hts (.initialized "java/lang/System") (by decide +kernel)) hK.1 hP hD hS 6 6 3 3 rfl rfl rfl rfl rfl (nneg h_31 (by decide)) (nneg h_40 (by decide)) (nneg h_32 (by decide)) (cp_le h_31 h_32 (by decide) (p_26 (rne h_30 (y := 0) (c := 0) (by decide) (by decide)))) (cp_le h_40 h_32 (by decide) (p_36 (rne h_39 (y := 0) (c := 0) (by decide) (by decide)))) (fun _ _ => rfl) (Nat.le_of_ble_eq_true rfl) (Nat.le_of_ble_eq_true rfl) dX10_paste_129 (fun H locs hP hD hS => ?_)
                    refine lv_iconst (v := 0) hx hb dX10_paste_132 (by decide) ?_
                    exact W.iret (v := 0) hx hb hr (fun t ht hW => ⟨⟨0, (fun k => ([] : List Int32).getD k 0, fun k => ([] : List (Nat → Int32)).getD k (fun _ => 0), fun k => ([f71, f72, f73, va_cpy f74 f74 p1.toNatClampNeg p3.toNatClampNeg p4.toNatClampNeg] : List (Nat → Int64)).getD k (fun _ => 0)), rfl, ⟨(rg_w (c := (-8)) (d := 0) (rgn 0 (x := 0) (by decide)) (by decide)), (fun _ => (rg_w (c := 0) (d := 3) h_56 (by decide))), (fun _ => (rg_w (c := 0) (d := 3) h_56 (by decide))), (fun _ => h_31), (fun _ => (rg_w (c := 0) (d := 3) h_60 (by decide))), (fun _ => (rg_w (c := 0) (d := 3) h_60 (by decide))), (fun _ => h_40), (fun _ => h_32), (ps_0 (by have := h_56; have := h_31; have := h_60; have := h_40; have := h_32; have := i_ne c8; have := i_ne c19; have := i_ne c33; have := i_ne c44; have := congrArg Int32.toInt c68; have := i_ne c85; have := i_ne c100; have : (0 : Int32).toInt = 0 := (by decide); omega) ⟨(decide_eq_true (p_14 (rne h_17 (y := 0) (c := 0) (by decide) (by decide)))), (decide_eq_true (p_20 (rne h_22 (y := 0) (c := 0) (by decide) (by decide))))⟩ (decide_eq_true (by rw [← gz58, ← gz67]; exact c68)) (by have := (p_27 (rne h_30 (y := 0) (c := 0) (by decide) (by decide))); have := (p_37 (rne h_39 (y := 0) (c := 0) (by decide) (by decide))); have := h_56; have := h_31; have := h_60; have := h_40; have := h_32; have := i_ne c8; have := i_ne c19; have := i_ne c33; have := i_ne c44; have := congrArg Int32.toInt c68; have := i_ne c85; have := i_ne c100; have : (0 : Int32).toInt = 0 := (by decide); have hsp0 := congrArg Int32.toInt (sz_y (f := f76) (p := p0) (by have := h_56; have := h_31; have := h_60; have := h_40; have := h_32; have := i_ne c8; have := i_ne c19; have := i_ne c33; have := i_ne c44; have := congrArg Int32.toInt c68; have := i_ne c85; have := i_ne c100; have : (0 : Int32).toInt = 0 := (by decide); omega)); have hsp2 := congrArg Int32.toInt (sz_y (f := f76) (p := p2) (by have := h_56; have := h_31; have := h_60; have := h_40; have := h_32; have := i_ne c8; have := i_ne c19; have := i_ne c33; have := i_ne c44; have := congrArg Int32.toInt c68; have := i_ne c85; have := i_ne c100; have : (0 : Int32).toInt = 0 := (by decide); omega)); omega)), trivial⟩, hp_at ht hP⟩, hS.F ht⟩) hS.2.2 dX10_paste_133
              · have h_61 : rg 0 0 r97 := r_eq_l_i (e := 0) (f := 0) c100 p_33 (rgn 0 (x := 0) (by decide)) (by decide)
                refine lv_bipush (v := (-7)) hx hb dX10_paste_103 (by decide) ?_
                exact W.iret (v := (-7)) hx hb hr (fun t ht hW => ⟨⟨(-7), (fun k => ([] : List Int32).getD k 0, fun k => ([] : List (Nat → Int32)).getD k (fun _ => 0), fun k => ([f71, f72, f73, f74] : List (Nat → Int64)).getD k (fun _ => 0)), rfl, ⟨(rg_w (c := (-8)) (d := 0) (rgn (-7) (x := (-7)) (by decide)) (by decide)), (fun _ => h_6), (fun _ => h_6), (fun _ => h_31), (fun _ => h_11), (fun _ => h_11), (fun hq => absurd hq (rne (rgn (-7) (x := (-7)) (by decide)) (y := 0) (c := 0) (by decide) (by decide))), (fun _ => h_32), (ps_7 (by have := h_6; have := h_31; have := h_11; have := h_32; have := i_ne c8; have := i_ne c19; have := i_ne c33; have := i_ne c44; have := congrArg Int32.toInt c68; have := i_ne c85; have := congrArg Int32.toInt c100; have : (0 : Int32).toInt = 0 := (by decide); omega) ⟨(decide_eq_true (p_14 (rne h_17 (y := 0) (c := 0) (by decide) (by decide)))), (decide_eq_true (p_20 (rne h_22 (y := 0) (c := 0) (by decide) (by decide))))⟩ (decide_eq_true (by rw [← gz58, ← gz67]; exact c68)) (by have := (p_27 (rne h_30 (y := 0) (c := 0) (by decide) (by decide))); have := (p_38 (req h_61 (y := 0) (by decide))); have := h_6; have := h_31; have := h_11; have := h_32; have := i_ne c8; have := i_ne c19; have := i_ne c33; have := i_ne c44; have := congrArg Int32.toInt c68; have := i_ne c85; have := congrArg Int32.toInt c100; have : (0 : Int32).toInt = 0 := (by decide); have hsp0 := congrArg Int32.toInt (sz_y (f := f76) (p := p0) (by have := h_6; have := h_31; have := h_11; have := h_32; have := i_ne c8; have := i_ne c19; have := i_ne c33; have := i_ne c44; have := congrArg Int32.toInt c68; have := i_ne c85; have := congrArg Int32.toInt c100; have : (0 : Int32).toInt = 0 := (by decide); omega)); have hsp2 := congrArg Int32.toInt (sz_y (f := f76) (p := p2) (by have := h_6; have := h_31; have := h_11; have := h_32; have := i_ne c8; have := i_ne c19; have := i_ne c33; have := i_ne c44; have := congrArg Int32.toInt c68; have := i_ne c85; have := congrArg Int32.toInt c100; have : (0 : Int32).toInt = 0 := (by decide); omega)); omega)), trivial⟩, hp_at ht hP⟩, hS.F ht⟩) hS.2.2 dX10_paste_105
          · refine lv_bipush (v := (-8)) hx hb dX10_paste_71 (by decide) ?_
            exact W.iret (v := (-8)) hx hb hr (fun t ht hW => ⟨⟨(-8), (fun k => ([] : List Int32).getD k 0, fun k => ([] : List (Nat → Int32)).getD k (fun _ => 0), fun k => ([f71, f72, f73, f74] : List (Nat → Int64)).getD k (fun _ => 0)), rfl, ⟨(rg_w (c := (-8)) (d := 0) (rgn (-8) (x := (-8)) (by decide)) (by decide)), (fun _ => h_6), (fun _ => h_6), (fun hq => absurd hq (rne (rgn (-8) (x := (-8)) (by decide)) (y := 0) (c := 0) (by decide) (by decide))), (fun _ => h_11), (fun _ => h_11), (fun hq => absurd hq (rne (rgn (-8) (x := (-8)) (by decide)) (y := 0) (c := 0) (by decide) (by decide))), (fun hq => absurd hq (rne (rgn (-8) (x := (-8)) (by decide)) (y := 0) (c := 0) (by decide) (by decide))), (ps_8 (by have := h_6; have := h_11; have := i_ne c8; have := i_ne c19; have := i_ne c33; have := i_ne c44; have := i_ne c68; have : (0 : Int32).toInt = 0 := (by decide); omega) ⟨(decide_eq_true (p_14 (rne h_17 (y := 0) (c := 0) (by decide) (by decide)))), (decide_eq_true (p_20 (rne h_22 (y := 0) (c := 0) (by decide) (by decide))))⟩ (fun hq => c68 (by rw [gz58, gz67]; exact of_decide_eq_true hq))), trivial⟩, hp_at ht hP⟩, hS.F ht⟩) hS.2.2 dX10_paste_73
        · have h_62 : rg 0 0 r41 := r_eq_l_i (e := 0) (f := 0) c44 p_18 (rgn 0 (x := 0) (by decide)) (by decide)
          refine lv_bipush (v := (-6)) hx hb dX10_paste_47 (by decide) ?_
          exact W.iret (v := (-6)) hx hb hr (fun t ht hW => ⟨⟨(-6), (fun k => ([] : List Int32).getD k 0, fun k => ([] : List (Nat → Int32)).getD k (fun _ => 0), fun k => ([f71, f72, f73, f74] : List (Nat → Int64)).getD k (fun _ => 0)), rfl, ⟨(rg_w (c := (-8)) (d := 0) (rgn (-6) (x := (-6)) (by decide)) (by decide)), (fun _ => h_6), (fun _ => h_6), (fun hq => absurd hq (rne (rgn (-6) (x := (-6)) (by decide)) (y := 0) (c := 0) (by decide) (by decide))), (fun _ => h_11), (fun _ => h_11), (fun hq => absurd hq (rne (rgn (-6) (x := (-6)) (by decide)) (y := 0) (c := 0) (by decide) (by decide))), (fun hq => absurd hq (rne (rgn (-6) (x := (-6)) (by decide)) (y := 0) (c := 0) (by decide) (by decide))), (ps_6 (by have := h_6; have := h_11; have := i_ne c8; have := i_ne c19; have := i_ne c33; have := congrArg Int32.toInt c44; have : (0 : Int32).toInt = 0 := (by decide); omega) (fun hp => (fun hq => (p_21 (req h_62 (y := 0) (by decide))).elim (fun hz => by have := h_6; have := h_11; have := i_ne c8; have := i_ne c19; have := i_ne c33; have := congrArg Int32.toInt c44; have : (0 : Int32).toInt = 0 := (by decide); omega) (fun hz => hz (of_decide_eq_true hq))) hp.2)), trivial⟩, hp_at ht hP⟩, hS.F ht⟩) hS.2.2 dX10_paste_49
    · have h_63 : rg 0 0 r16 := r_eq_l_i (e := 0) (f := 0) c19 p_7 (rgn 0 (x := 0) (by decide)) (by decide)
      refine lv_bipush (v := (-2)) hx hb dX10_paste_22 (by decide) ?_
      exact W.iret (v := (-2)) hx hb hr (fun t ht hW => ⟨⟨(-2), (fun k => ([] : List Int32).getD k 0, fun k => ([] : List (Nat → Int32)).getD k (fun _ => 0), fun k => ([f71, f72, f73, f74] : List (Nat → Int64)).getD k (fun _ => 0)), rfl, ⟨(rg_w (c := (-8)) (d := 0) (rgn (-2) (x := (-2)) (by decide)) (by decide)), (fun _ => h_6), (fun _ => h_6), (fun hq => absurd hq (rne (rgn (-2) (x := (-2)) (by decide)) (y := 0) (c := 0) (by decide) (by decide))), (fun hq => absurd hq (rne (rgn (-2) (x := (-2)) (by decide)) (y := 0) (c := 0) (by decide) (by decide))), (fun hq => absurd (req (rgn (-2) (x := (-2)) (by decide)) (y := (-2)) (by decide)) hq), (fun hq => absurd hq (rne (rgn (-2) (x := (-2)) (by decide)) (y := 0) (c := 0) (by decide) (by decide))), (fun hq => absurd hq (rne (rgn (-2) (x := (-2)) (by decide)) (y := 0) (c := 0) (by decide) (by decide))), (ps_2 (by have := (p_9 (req h_63 (y := 0) (by decide))); have := h_6; have := i_ne c8; have := congrArg Int32.toInt c19; have : (0 : Int32).toInt = 0 := (by decide); omega)), trivial⟩, hp_at ht hP⟩, hS.F ht⟩) hS.2.2 dX10_paste_24

set_option maxHeartbeats 4000000 in
set_option maxRecDepth 100000 in
theorem e_X11_paste (l : Launch) (G : va_G) (ct : Nat → ClassId) (a0 : Nat) (n0_0 : Int32) (a1 : Nat) (a2 : Nat) (a3 : Nat) (a4 : Nat) (a5 : Nat) (n0_6 : Int32) (n0_7 : Int32) (n0_8 : Int32) (n0_9 : Int32) (n0_10 : Int32) (l0_11 : Int64) (n0_12 : Int32) (n0_13 : Int32) (n0_14 : Int32) (n0_15 : Int32) (a6 : Nat) (a7 : Nat) (a8 : Nat) (a9 : Nat) (a10 : Nat) (a11 : Nat) (a12 : Nat) (a13 : Nat) (n0_24 : Int32) (n0_25 : Int32) (n0_26 : Int32) (n0_27 : Int32) (a14 : Nat) (n0_29 : Int32) (n0_30 : Int32) (f1 : Nat → Int32) (f2 : Nat → Int32) (f3 : Nat → Int64) (f4 : Nat → Int64) (p0 : Int32) (p1 : Int32) (p2 : Int32) (p3 : Int32) (p4 : Int32) (hp_f2 : ar 0 60 f2) (hp_n0_6 : rg 0 900 n0_6) : Met l yX11_paste wsX11_paste ({ frames := 2, cells := 0, slots := 0, locals := 45 }) (va_Pc [.ref a0, .int p0, .int p1, .int p2, .int p3, .int p4] (wrP G ct [(a0, .inr (11, [.int n0_0, .ref a1, .ref a2, .ref a3, .ref a4, .ref a5, .int n0_6, .int n0_7, .int n0_8, .int n0_9, .int n0_10, .long l0_11, .int n0_12, .int n0_13, .int n0_14, .int n0_15, .ref a6, .ref a7, .ref a8, .ref a9, .ref a10, .ref a11, .ref a12, .ref a13, .int n0_24, .int n0_25, .int n0_26, .int n0_27, .ref a14, .int n0_29, .int n0_30])), (a1, .inl (ct 0, 4, .inl f1)), (a2, .inl (ct 0, 4, .inl f2)), (a3, .inl (ct 3, 240, .inr (.inl f3))), (a4, .inl (ct 3, 60, .inr (.inl f4)))])) (va_Qi (fun (r : Int32) (u : SU) => rg (-8) 0 r ∧ (r = 0 → rg 0 3 p0) ∧ (¬ r = (-2) → rg 0 3 p0) ∧ (r = 0 → rg 0 60 p1) ∧ (r = 0 → rg 0 3 p2) ∧ (¬ r = (-2) → rg 0 3 p2) ∧ (r = 0 → rg 0 60 p3) ∧ (r = 0 → rg 0 60 p4) ∧ rg 0 0 (u.1 0) ∧ r = psA p0 p1 p2 p3 p4 (decide (¬ f1 p0.toNatClampNeg = -1)) (decide (¬ f1 p2.toNatClampNeg = -1)) (decide (f1 p0.toNatClampNeg = f1 p2.toNatClampNeg)) (f2 p0.toNatClampNeg).toInt (f2 p2.toNatClampNeg).toInt ∧ True) (fun u t => va_P G vwCl ((fun u : SU => [(a0, .inr (11, [.int (u.1 0), .ref a1, .ref a2, .ref a3, .ref a4, .ref a5, .int n0_6, .int n0_7, .int n0_8, .int n0_9, .int n0_10, .long l0_11, .int n0_12, .int n0_13, .int n0_14, .int n0_15, .ref a6, .ref a7, .ref a8, .ref a9, .ref a10, .ref a11, .ref a12, .ref a13, .int n0_24, .int n0_25, .int n0_26, .int n0_27, .ref a14, .int n0_29, .int n0_30])), (a1, .inl (ct 0, 4, .inl f1)), (a2, .inl (ct 0, 4, .inl f2)), (a3, .inl (ct 3, 240, .inr (.inl (u.2.2 0)))), (a4, .inl (ct 3, 60, .inr (.inl (u.2.2 1))))]) u) t.heap) (aset [(a0, .inr (11, [.int n0_0, .ref a1, .ref a2, .ref a3, .ref a4, .ref a5, .int n0_6, .int n0_7, .int n0_8, .int n0_9, .int n0_10, .long l0_11, .int n0_12, .int n0_13, .int n0_14, .int n0_15, .ref a6, .ref a7, .ref a8, .ref a9, .ref a10, .ref a11, .ref a12, .ref a13, .int n0_24, .int n0_25, .int n0_26, .int n0_27, .ref a14, .int n0_29, .int n0_30])), (a1, .inl (ct 0, 4, .inl f1)), (a2, .inl (ct 0, 4, .inl f2)), (a3, .inl (ct 3, 240, .inr (.inl f3))), (a4, .inl (ct 3, 60, .inr (.inl f4)))])) 0 0 (aset [(a0, .inr (11, [.int n0_0, .ref a1, .ref a2, .ref a3, .ref a4, .ref a5, .int n0_6, .int n0_7, .int n0_8, .int n0_9, .int n0_10, .long l0_11, .int n0_12, .int n0_13, .int n0_14, .int n0_15, .ref a6, .ref a7, .ref a8, .ref a9, .ref a10, .ref a11, .ref a12, .ref a13, .int n0_24, .int n0_25, .int n0_26, .int n0_27, .ref a14, .int n0_29, .int n0_30])), (a1, .inl (ct 0, 4, .inl f1)), (a2, .inl (ct 0, 4, .inl f2)), (a3, .inl (ct 3, 240, .inr (.inl f3))), (a4, .inl (ct 3, 60, .inr (.inl f4)))]) := by
  refine Met.ofW (cc := cX11_paste) (maxL := 7) (ret := (some .int)) (by decide) rfl ?_
  intro p e s m args below meth c s₁ B hml hv
  obtain ⟨rfl, hP, hK, hD0⟩ := hv
  have hx := B.exec
  have hb := B.bytes
  have hr := B.returns
  have hts := atoms_spec (ws := wsX11_paste) B.pre
  have hown : s.vm.findClass RX11 = some m.cls := findClass_of_methodNamed B.named
  have hlocks := B.notSynchronized
  have hD := hD0.aself
  generalize hAe : aset [(a0, .inr (11, [.int n0_0, .ref a1, .ref a2, .ref a3, .ref a4, .ref a5, .int n0_6, .int n0_7, .int n0_8, .int n0_9, .int n0_10, .long l0_11, .int n0_12, .int n0_13, .int n0_14, .int n0_15, .ref a6, .ref a7, .ref a8, .ref a9, .ref a10, .ref a11, .ref a12, .ref a13, .int n0_24, .int n0_25, .int n0_26, .int n0_27, .ref a14, .int n0_29, .int n0_30])), (a1, .inl (ct 0, 4, .inl f1)), (a2, .inl (ct 0, 4, .inl f2)), (a3, .inl (ct 3, 240, .inr (.inl f3))), (a4, .inl (ct 3, 60, .inr (.inl f4)))] = A at hD ⊢
  have hS : va_S A s.heap s.heap [] := va_S.rf
  have hl := lv_entry ([.ref a0, .int p0, .int p1, .int p2, .int p3, .int p4]) (n := 7) (Nat.le_of_ble_eq_true rfl)
  rw [lg_entry_eq]
  generalize (lg_sl ([.ref a0, .int p0, .int p1, .int p2, .int p3, .int p4]) ++ List.replicate (7 - (lg_sl ([.ref a0, .int p0, .int p1, .int p2, .int p3, .int p4])).length) Slot.unset).toArray = ls at hl ⊢
  have hl : lv_has ls 7 [(0, .ref a0), (1, .int p0), (2, .int p1), (3, .int p2), (4, .int p3), (5, .int p4)] := hl
  refine lv_aload_n hx hb dX11_paste_0 rfl (lv_at hl 0 rfl) ?_
  refine lv_iconst (v := 0) hx hb dX11_paste_1 (by decide) ?_
  refine va_put (D := G) (ci := 11) (v := .int 0) (ty := .int) (C := RX11) (T := TX11) (N := 31) hx hb hts (by decide +kernel) tyX11 tyX11_ok nmX11 hown hK.1 hP hD hS 0 rfl rfl 0 (by decide) (hts (.fieldLink RX11 59 "CardHolderModel" "thrown" "I") (by decide +kernel)) (fun _ h9 => h9) rfl (by decide +kernel) rfl rfl (Nat.le_of_ble_eq_true rfl) dX11_paste_2 (fun H locs hP hD hS => ?_)
  refine lv_iload_n hx hb dX11_paste_5 rfl (lv_at hl 1 rfl) ?_
  refine ro_calli (va_runS (As := [.int p0]) (rest := []) ⟨hx, hb, hml, hown, hts⟩ (e_X11_isSlot l G ct p0) (va_cwS 1 hts gX11_paste_X11_isSlot rfl rfl rfl (by decide +kernel) ⟨Nat.le_of_ble_eq_true rfl, Nat.le_of_ble_eq_true rfl⟩) (ro_pre hK (hP.sub [] rfl)) rfl rfl hl.1 rfl (lv_room (Nat.le_of_ble_eq_true rfl)) dX11_paste_6 ⟨Nat.zero_le _, Nat.zero_le _⟩) hS hP (fun r6 H locs wr6 hP hS => ?_)
  obtain ⟨p_1, p_2, p_3, -⟩ := wr6
  refine lv_if_eq (tgt := 19) hx hb dX11_paste_9 (by decide) (fun c9 => ?_) (fun c9 => ?_)
  · have h_4 : rg 0 0 r6 := r_eq_l_i (e := 0) (f := 0) c9 p_1 (rgn 0 (x := 0) (by decide)) (by decide)
    refine lv_bipush (v := (-2)) hx hb dX11_paste_19 (by decide) ?_
    exact W.iret (v := (-2)) hx hb hr (fun t ht hW => ⟨⟨(-2), (fun k => ([0] : List Int32).getD k 0, fun k => ([] : List (Nat → Int32)).getD k (fun _ => 0), fun k => ([f3, f4] : List (Nat → Int64)).getD k (fun _ => 0)), rfl, ⟨(rg_w (c := (-8)) (d := 0) (rgn (-2) (x := (-2)) (by decide)) (by decide)), (fun hq => absurd hq (rne (rgn (-2) (x := (-2)) (by decide)) (y := 0) (c := 0) (by decide) (by decide))), (fun hq => absurd (req (rgn (-2) (x := (-2)) (by decide)) (y := (-2)) (by decide)) hq), (fun hq => absurd hq (rne (rgn (-2) (x := (-2)) (by decide)) (y := 0) (c := 0) (by decide) (by decide))), (fun hq => absurd hq (rne (rgn (-2) (x := (-2)) (by decide)) (y := 0) (c := 0) (by decide) (by decide))), (fun hq => absurd (req (rgn (-2) (x := (-2)) (by decide)) (y := (-2)) (by decide)) hq), (fun hq => absurd hq (rne (rgn (-2) (x := (-2)) (by decide)) (y := 0) (c := 0) (by decide) (by decide))), (fun hq => absurd hq (rne (rgn (-2) (x := (-2)) (by decide)) (y := 0) (c := 0) (by decide) (by decide))), (rgn 0 (x := 0) (by decide)), (ps_2 (by have := (p_3 (req h_4 (y := 0) (by decide))); have := congrArg Int32.toInt c9; have : (0 : Int32).toInt = 0 := (by decide); omega)), trivial⟩, hp_at ht hP⟩, hS.F ht⟩) hS.2.2 dX11_paste_21
  · have h_5 : rg 1 1 r6 := r_ne_lo_i c9 p_1 (by decide) (by decide)
    have h_6 : rg 0 3 p0 := (p_2 (rne h_5 (y := 0) (c := 0) (by decide) (by decide)))
    refine lv_iload_n hx hb dX11_paste_12 rfl (lv_at hl 3 rfl) ?_
    refine ro_calli (va_runS (As := [.int p2]) (rest := []) ⟨hx, hb, hml, hown, hts⟩ (e_X11_isSlot l G ct p2) (va_cwS 1 hts gX11_paste_X11_isSlot rfl rfl rfl (by decide +kernel) ⟨Nat.le_of_ble_eq_true rfl, Nat.le_of_ble_eq_true rfl⟩) (ro_pre hK (hP.sub [] rfl)) rfl rfl hl.1 rfl (lv_room (Nat.le_of_ble_eq_true rfl)) dX11_paste_13 ⟨Nat.zero_le _, Nat.zero_le _⟩) hS hP (fun r13 H locs wr13 hP hS => ?_)
    obtain ⟨p_7, p_8, p_9, -⟩ := wr13
    refine lv_if_ne (tgt := 22) hx hb dX11_paste_16 (by decide) (fun c16 => ?_) (fun c16 => ?_)
    · have h_10 : rg 1 1 r13 := r_ne_lo_i c16 p_7 (by decide) (by decide)
      have h_11 : rg 0 3 p2 := (p_8 (rne h_10 (y := 0) (c := 0) (by decide) (by decide)))
      refine lv_aload_n hx hb dX11_paste_22 rfl (lv_at hl 0 rfl) ?_
      refine va_get (D := G) (ci := 11) (v := .ref a1) (C := RX11) (T := TX11) (N := 31) hx hb hts (by decide +kernel) hown hK.1 hP 0 rfl rfl 1 (by decide) (hts (.fieldLink RX11 7 "CardHolderModel" "width" "[I") (by decide +kernel)) (fun _ h9 => h9) rfl dX11_paste_23 ?_
      refine lv_iload_n hx hb dX11_paste_26 rfl (lv_at hl 1 rfl) ?_
      refine va_iald hx hb hK.1 hP 1 0 rfl rfl (in_rg h_6 (by decide)) dX11_paste_27 ?_
      refine lv_topi (fun z27 gz27 => ?_)
      refine lv_iconst (v := (-1)) hx hb dX11_paste_28 (by decide) ?_
      refine lv_icmp_eq (tgt := 42) hx hb dX11_paste_29 (by decide) (fun c29 => ?_) (fun c29 => ?_)
      · have h_12 : rg (-1) (-1) z27 := r_eq_l_i (e := (-1)) (f := (-1)) c29 (rg_t z27) (rgn (-1) (x := (-1)) (by decide)) (by decide)
        refine lv_bipush (v := (-6)) hx hb dX11_paste_42 (by decide) ?_
        exact W.iret (v := (-6)) hx hb hr (fun t ht hW => ⟨⟨(-6), (fun k => ([0] : List Int32).getD k 0, fun k => ([] : List (Nat → Int32)).getD k (fun _ => 0), fun k => ([f3, f4] : List (Nat → Int64)).getD k (fun _ => 0)), rfl, ⟨(rg_w (c := (-8)) (d := 0) (rgn (-6) (x := (-6)) (by decide)) (by decide)), (fun _ => h_6), (fun _ => h_6), (fun hq => absurd hq (rne (rgn (-6) (x := (-6)) (by decide)) (y := 0) (c := 0) (by decide) (by decide))), (fun _ => h_11), (fun _ => h_11), (fun hq => absurd hq (rne (rgn (-6) (x := (-6)) (by decide)) (y := 0) (c := 0) (by decide) (by decide))), (fun hq => absurd hq (rne (rgn (-6) (x := (-6)) (by decide)) (y := 0) (c := 0) (by decide) (by decide))), (rgn 0 (x := 0) (by decide)), (ps_6 (by have := h_6; have := h_11; have := i_ne c9; have := i_ne c16; have := congrArg Int32.toInt c29; have : ((-1) : Int32).toInt = (-1) := (by decide); have : (0 : Int32).toInt = 0 := (by decide); omega) (fun hp => of_decide_eq_true hp.1 (by rw [← gz27]; exact c29))), trivial⟩, hp_at ht hP⟩, hS.F ht⟩) hS.2.2 dX11_paste_44
      · refine lv_aload_n hx hb dX11_paste_32 rfl (lv_at hl 0 rfl) ?_
        refine va_get (D := G) (ci := 11) (v := .ref a1) (C := RX11) (T := TX11) (N := 31) hx hb hts (by decide +kernel) hown hK.1 hP 0 rfl rfl 1 (by decide) (hts (.fieldLink RX11 7 "CardHolderModel" "width" "[I") (by decide +kernel)) (fun _ h9 => h9) rfl dX11_paste_33 ?_
        refine lv_iload_n hx hb dX11_paste_36 rfl (lv_at hl 3 rfl) ?_
        refine va_iald hx hb hK.1 hP 1 0 rfl rfl (in_rg h_11 (by decide)) dX11_paste_37 ?_
        refine lv_topi (fun z37 gz37 => ?_)
        refine lv_iconst (v := (-1)) hx hb dX11_paste_38 (by decide) ?_
        refine lv_icmp_ne (tgt := 45) hx hb dX11_paste_39 (by decide) (fun c39 => ?_) (fun c39 => ?_)
        · refine lv_aload_n hx hb dX11_paste_45 rfl (lv_at hl 0 rfl) ?_
          refine va_get (D := G) (ci := 11) (v := .ref a1) (C := RX11) (T := TX11) (N := 31) hx hb hts (by decide +kernel) hown hK.1 hP 0 rfl rfl 1 (by decide) (hts (.fieldLink RX11 7 "CardHolderModel" "width" "[I") (by decide +kernel)) (fun _ h9 => h9) rfl dX11_paste_46 ?_
          refine lv_iload_n hx hb dX11_paste_49 rfl (lv_at hl 1 rfl) ?_
          refine va_iald hx hb hK.1 hP 1 0 rfl rfl (in_rg h_6 (by decide)) dX11_paste_50 ?_
          refine ix_i (y := z27) gz27.symm ?_
          refine lv_aload_n hx hb dX11_paste_51 rfl (lv_at hl 0 rfl) ?_
          refine va_get (D := G) (ci := 11) (v := .ref a1) (C := RX11) (T := TX11) (N := 31) hx hb hts (by decide +kernel) hown hK.1 hP 0 rfl rfl 1 (by decide) (hts (.fieldLink RX11 7 "CardHolderModel" "width" "[I") (by decide +kernel)) (fun _ h9 => h9) rfl dX11_paste_52 ?_
          refine lv_iload_n hx hb dX11_paste_55 rfl (lv_at hl 3 rfl) ?_
          refine va_iald hx hb hK.1 hP 1 0 rfl rfl (in_rg h_11 (by decide)) dX11_paste_56 ?_
          refine ix_i (y := z37) gz37.symm ?_
          refine lv_icmp_eq (tgt := 63) hx hb dX11_paste_57 (by decide) (fun c57 => ?_) (fun c57 => ?_)
          · refine lv_iload_n hx hb dX11_paste_63 rfl (lv_at hl 2 rfl) ?_
            refine lv_if_lt (tgt := 112) hx hb dX11_paste_64 (by decide) (fun c64 => ?_) (fun c64 => ?_)
            · have h_13 : rg (-2147483648) (-1) p1 := r_lt_l_i c64 (rg_t p1) (rgn 0 (x := 0) (by decide)) (by decide)
              refine lv_bipush (v := (-7)) hx hb dX11_paste_112 (by decide) ?_
              exact W.iret (v := (-7)) hx hb hr (fun t ht hW => ⟨⟨(-7), (fun k => ([0] : List Int32).getD k 0, fun k => ([] : List (Nat → Int32)).getD k (fun _ => 0), fun k => ([f3, f4] : List (Nat → Int64)).getD k (fun _ => 0)), rfl, ⟨(rg_w (c := (-8)) (d := 0) (rgn (-7) (x := (-7)) (by decide)) (by decide)), (fun _ => h_6), (fun _ => h_6), (fun hq => absurd hq (rne (rgn (-7) (x := (-7)) (by decide)) (y := 0) (c := 0) (by decide) (by decide))), (fun _ => h_11), (fun _ => h_11), (fun hq => absurd hq (rne (rgn (-7) (x := (-7)) (by decide)) (y := 0) (c := 0) (by decide) (by decide))), (fun hq => absurd hq (rne (rgn (-7) (x := (-7)) (by decide)) (y := 0) (c := 0) (by decide) (by decide))), (rgn 0 (x := 0) (by decide)), (ps_7 (by have := h_6; have := h_13; have := h_11; have := i_ne c9; have := i_ne c16; have := i_ne c29; have := i_ne c39; have := congrArg Int32.toInt c57; have := i_lt c64; have : ((-1) : Int32).toInt = (-1) := (by decide); have : (0 : Int32).toInt = 0 := (by decide); omega) ⟨decide_eq_true (fun hq => c29 (by rw [gz27]; exact hq)), decide_eq_true (fun hq => c39 (by rw [gz37]; exact hq))⟩ (decide_eq_true (by rw [← gz27, ← gz37]; exact c57)) (by have := h_6; have := h_13; have := h_11; have := i_ne c9; have := i_ne c16; have := i_ne c29; have := i_ne c39; have := congrArg Int32.toInt c57; have := i_lt c64; have : ((-1) : Int32).toInt = (-1) := (by decide); have : (0 : Int32).toInt = 0 := (by decide); omega)), trivial⟩, hp_at ht hP⟩, hS.F ht⟩) hS.2.2 dX11_paste_114
            · have h_14 : rg 0 2147483647 p1 := r_le_r_i (nlt_i c64) (rgn 0 (x := 0) (by decide)) (rg_t p1)
              refine lv_iload hx hb dX11_paste_67 (lv_at hl 4 rfl) ?_
              refine lv_if_lt (tgt := 112) hx hb dX11_paste_69 (by decide) (fun c69 => ?_) (fun c69 => ?_)
              · have h_15 : rg (-2147483648) (-1) p3 := r_lt_l_i c69 (rg_t p3) (rgn 0 (x := 0) (by decide)) (by decide)
                refine lv_bipush (v := (-7)) hx hb dX11_paste_112 (by decide) ?_
                exact W.iret (v := (-7)) hx hb hr (fun t ht hW => ⟨⟨(-7), (fun k => ([0] : List Int32).getD k 0, fun k => ([] : List (Nat → Int32)).getD k (fun _ => 0), fun k => ([f3, f4] : List (Nat → Int64)).getD k (fun _ => 0)), rfl, ⟨(rg_w (c := (-8)) (d := 0) (rgn (-7) (x := (-7)) (by decide)) (by decide)), (fun _ => h_6), (fun _ => h_6), (fun hq => absurd hq (rne (rgn (-7) (x := (-7)) (by decide)) (y := 0) (c := 0) (by decide) (by decide))), (fun _ => h_11), (fun _ => h_11), (fun hq => absurd hq (rne (rgn (-7) (x := (-7)) (by decide)) (y := 0) (c := 0) (by decide) (by decide))), (fun hq => absurd hq (rne (rgn (-7) (x := (-7)) (by decide)) (y := 0) (c := 0) (by decide) (by decide))), (rgn 0 (x := 0) (by decide)), (ps_7 (by have := h_6; have := h_14; have := h_11; have := h_15; have := i_ne c9; have := i_ne c16; have := i_ne c29; have := i_ne c39; have := congrArg Int32.toInt c57; have := i_le (nlt_i c64); have := i_lt c69; have : ((-1) : Int32).toInt = (-1) := (by decide); have : (0 : Int32).toInt = 0 := (by decide); omega) ⟨decide_eq_true (fun hq => c29 (by rw [gz27]; exact hq)), decide_eq_true (fun hq => c39 (by rw [gz37]; exact hq))⟩ (decide_eq_true (by rw [← gz27, ← gz37]; exact c57)) (by have := h_6; have := h_14; have := h_11; have := h_15; have := i_ne c9; have := i_ne c16; have := i_ne c29; have := i_ne c39; have := congrArg Int32.toInt c57; have := i_le (nlt_i c64); have := i_lt c69; have : ((-1) : Int32).toInt = (-1) := (by decide); have : (0 : Int32).toInt = 0 := (by decide); omega)), trivial⟩, hp_at ht hP⟩, hS.F ht⟩) hS.2.2 dX11_paste_114
              · have h_16 : rg 0 2147483647 p3 := r_le_r_i (nlt_i c69) (rgn 0 (x := 0) (by decide)) (rg_t p3)
                refine lv_iload hx hb dX11_paste_72 (lv_at hl 5 rfl) ?_
                refine lv_if_lt (tgt := 112) hx hb dX11_paste_74 (by decide) (fun c74 => ?_) (fun c74 => ?_)
                · have h_17 : rg (-2147483648) (-1) p4 := r_lt_l_i c74 (rg_t p4) (rgn 0 (x := 0) (by decide)) (by decide)
                  refine lv_bipush (v := (-7)) hx hb dX11_paste_112 (by decide) ?_
                  exact W.iret (v := (-7)) hx hb hr (fun t ht hW => ⟨⟨(-7), (fun k => ([0] : List Int32).getD k 0, fun k => ([] : List (Nat → Int32)).getD k (fun _ => 0), fun k => ([f3, f4] : List (Nat → Int64)).getD k (fun _ => 0)), rfl, ⟨(rg_w (c := (-8)) (d := 0) (rgn (-7) (x := (-7)) (by decide)) (by decide)), (fun _ => h_6), (fun _ => h_6), (fun hq => absurd hq (rne (rgn (-7) (x := (-7)) (by decide)) (y := 0) (c := 0) (by decide) (by decide))), (fun _ => h_11), (fun _ => h_11), (fun hq => absurd hq (rne (rgn (-7) (x := (-7)) (by decide)) (y := 0) (c := 0) (by decide) (by decide))), (fun hq => absurd hq (rne (rgn (-7) (x := (-7)) (by decide)) (y := 0) (c := 0) (by decide) (by decide))), (rgn 0 (x := 0) (by decide)), (ps_7 (by have := h_6; have := h_14; have := h_11; have := h_16; have := h_17; have := i_ne c9; have := i_ne c16; have := i_ne c29; have := i_ne c39; have := congrArg Int32.toInt c57; have := i_le (nlt_i c64); have := i_le (nlt_i c69); have := i_lt c74; have : ((-1) : Int32).toInt = (-1) := (by decide); have : (0 : Int32).toInt = 0 := (by decide); omega) ⟨decide_eq_true (fun hq => c29 (by rw [gz27]; exact hq)), decide_eq_true (fun hq => c39 (by rw [gz37]; exact hq))⟩ (decide_eq_true (by rw [← gz27, ← gz37]; exact c57)) (by have := h_6; have := h_14; have := h_11; have := h_16; have := h_17; have := i_ne c9; have := i_ne c16; have := i_ne c29; have := i_ne c39; have := congrArg Int32.toInt c57; have := i_le (nlt_i c64); have := i_le (nlt_i c69); have := i_lt c74; have : ((-1) : Int32).toInt = (-1) := (by decide); have : (0 : Int32).toInt = 0 := (by decide); omega)), trivial⟩, hp_at ht hP⟩, hS.F ht⟩) hS.2.2 dX11_paste_114
                · have h_18 : rg 0 2147483647 p4 := r_le_r_i (nlt_i c74) (rgn 0 (x := 0) (by decide)) (rg_t p4)
                  refine lv_iload_n hx hb dX11_paste_77 rfl (lv_at hl 2 rfl) ?_
                  refine lv_i2l hx hb dX11_paste_78 rfl ?_
                  refine nl_i2l h_14 (fun z78 hz78 ez78 => ?_)
                  refine lv_iload hx hb dX11_paste_79 (lv_at hl 5 rfl) ?_
                  refine lv_i2l hx hb dX11_paste_81 rfl ?_
                  refine nl_i2l h_18 (fun z81 hz81 ez81 => ?_)
                  refine lv_ladd hx hb dX11_paste_82 ?_
                  refine nl_add (e1 := 0) (f := 4294967294) hz78 hz81 (by decide) (fun z82 hz82 ez82 => ?_)
                  refine lv_aload_n hx hb dX11_paste_83 rfl (lv_at hl 0 rfl) ?_
                  refine va_get (D := G) (ci := 11) (v := .ref a2) (C := RX11) (T := TX11) (N := 31) hx hb hts (by decide +kernel) hown hK.1 hP 0 rfl rfl 2 (by decide) (hts (.fieldLink RX11 13 "CardHolderModel" "many" "[I") (by decide +kernel)) (fun _ h9 => h9) rfl dX11_paste_84 ?_
                  refine lv_iload_n hx hb dX11_paste_87 rfl (lv_at hl 1 rfl) ?_
                  refine va_iald hx hb hK.1 hP 2 0 rfl rfl (in_rg h_6 (by decide)) dX11_paste_88 ?_
                  refine lv_topi (fun z88 gz88 => ?_)
                  have hz88 : rg 0 60 z88 := by rw [gz88]; exact hp_f2 _
                  refine lv_i2l hx hb dX11_paste_89 rfl ?_
                  refine nl_i2l hz88 (fun z89 hz89 ez89 => ?_)
                  refine W.lcmp hx hb dX11_paste_90 ?_
                  refine lb_gt (tgt := 112) hx hb dX11_paste_91 (by decide) (fun c91 => ?_) (fun c91 => ?_)
                  · have h_19 : rl 1 4294967294 z82 := r_lt_r_l c91 hz89 hz82 (by decide)
                    refine lv_bipush (v := (-7)) hx hb dX11_paste_112 (by decide) ?_
                    exact W.iret (v := (-7)) hx hb hr (fun t ht hW => ⟨⟨(-7), (fun k => ([0] : List Int32).getD k 0, fun k => ([] : List (Nat → Int32)).getD k (fun _ => 0), fun k => ([f3, f4] : List (Nat → Int64)).getD k (fun _ => 0)), rfl, ⟨(rg_w (c := (-8)) (d := 0) (rgn (-7) (x := (-7)) (by decide)) (by decide)), (fun _ => h_6), (fun _ => h_6), (fun hq => absurd hq (rne (rgn (-7) (x := (-7)) (by decide)) (y := 0) (c := 0) (by decide) (by decide))), (fun _ => h_11), (fun _ => h_11), (fun hq => absurd hq (rne (rgn (-7) (x := (-7)) (by decide)) (y := 0) (c := 0) (by decide) (by decide))), (fun hq => absurd hq (rne (rgn (-7) (x := (-7)) (by decide)) (y := 0) (c := 0) (by decide) (by decide))), (rgn 0 (x := 0) (by decide)), (ps_7 (by have := h_6; have := h_14; have := h_11; have := h_16; have := h_18; have := i_ne c9; have := i_ne c16; have := i_ne c29; have := i_ne c39; have := congrArg Int32.toInt c57; have := i_le (nlt_i c64); have := i_le (nlt_i c69); have := i_le (nlt_i c74); have := l_lt c91; have : ((-1) : Int32).toInt = (-1) := (by decide); have : (0 : Int32).toInt = 0 := (by decide); omega) ⟨decide_eq_true (fun hq => c29 (by rw [gz27]; exact hq)), decide_eq_true (fun hq => c39 (by rw [gz37]; exact hq))⟩ (decide_eq_true (by rw [← gz27, ← gz37]; exact c57)) (by have := h_6; have := h_14; have := h_11; have := h_16; have := h_18; have := i_ne c9; have := i_ne c16; have := i_ne c29; have := i_ne c39; have := congrArg Int32.toInt c57; have := i_le (nlt_i c64); have := i_le (nlt_i c69); have := i_le (nlt_i c74); have := l_lt c91; have : ((-1) : Int32).toInt = (-1) := (by decide); have : (0 : Int32).toInt = 0 := (by decide); have := ez78; have := ez81; have := ez82; have := ez89; have := congrArg Int32.toInt gz88; omega)), trivial⟩, hp_at ht hP⟩, hS.F ht⟩) hS.2.2 dX11_paste_114
                  · have h_20 : rl 0 60 z82 := r_le_l_l (nlt_l c91) hz82 hz89
                    have h_21 : rg 0 60 p4 := by have := l_nlt c91; have := ez82; have := ez78; have := ez81; have := ez89; have := h_14; have := h_18; have := hz88; omega
                    have h_22 : rg 0 60 p1 := by have := l_nlt c91; have := ez82; have := ez78; have := ez81; have := ez89; have := h_14; have := h_21; have := hz88; omega
                    refine lv_iload hx hb dX11_paste_94 (lv_at hl 4 rfl) ?_
                    refine lv_i2l hx hb dX11_paste_96 rfl ?_
                    refine nl_i2l h_16 (fun z96 hz96 ez96 => ?_)
                    refine lv_iload hx hb dX11_paste_97 (lv_at hl 5 rfl) ?_
                    refine lv_i2l hx hb dX11_paste_99 rfl ?_
                    refine nl_i2l h_21 (fun z99 hz99 ez99 => ?_)
                    refine lv_ladd hx hb dX11_paste_100 ?_
                    refine nl_add (e1 := 0) (f := 2147483707) hz96 hz99 (by decide) (fun z100 hz100 ez100 => ?_)
                    refine lv_aload_n hx hb dX11_paste_101 rfl (lv_at hl 0 rfl) ?_
                    refine va_get (D := G) (ci := 11) (v := .ref a2) (C := RX11) (T := TX11) (N := 31) hx hb hts (by decide +kernel) hown hK.1 hP 0 rfl rfl 2 (by decide) (hts (.fieldLink RX11 13 "CardHolderModel" "many" "[I") (by decide +kernel)) (fun _ h9 => h9) rfl dX11_paste_102 ?_
                    refine lv_iload_n hx hb dX11_paste_105 rfl (lv_at hl 3 rfl) ?_
                    refine va_iald hx hb hK.1 hP 2 0 rfl rfl (in_rg h_11 (by decide)) dX11_paste_106 ?_
                    refine lv_topi (fun z106 gz106 => ?_)
                    have hz106 : rg 0 60 z106 := by rw [gz106]; exact hp_f2 _
                    refine lv_i2l hx hb dX11_paste_107 rfl ?_
                    refine nl_i2l hz106 (fun z107 hz107 ez107 => ?_)
                    refine W.lcmp hx hb dX11_paste_108 ?_
                    refine lb_le (tgt := 115) hx hb dX11_paste_109 (by decide) (fun c109 => ?_) (fun c109 => ?_)
                    · have h_23 : rl 0 60 z100 := r_le_l_l c109 hz100 hz107
                      have h_24 : rg 0 60 p3 := by have := l_le c109; have := ez100; have := ez96; have := ez99; have := ez107; have := h_16; have := h_21; have := hz106; omega
                      refine lv_iconst (v := 0) hx hb dX11_paste_115 (by decide) ?_
                      refine lv_istore (lv' := [(6, .int 0), (0, .ref a0), (1, .int p0), (2, .int p1), (3, .int p2), (4, .int p3), (5, .int p4)]) hx hb dX11_paste_116 hl (by decide) rfl (fun ls hl => ?_)
                      have j118 : ∀ (n : Nat) (x118_6 : Int32) (f118_4 : Nat → Int64) (H : Heap) (locs : List Loc) (ls : Array Slot), 2147483648 ≤ x118_6.toInt + (n : Int) → rg 0 60 x118_6 → va_P G vwCl [(a0, .inr (11, [.int 0, .ref a1, .ref a2, .ref a3, .ref a4, .ref a5, .int n0_6, .int n0_7, .int n0_8, .int n0_9, .int n0_10, .long l0_11, .int n0_12, .int n0_13, .int n0_14, .int n0_15, .ref a6, .ref a7, .ref a8, .ref a9, .ref a10, .ref a11, .ref a12, .ref a13, .int n0_24, .int n0_25, .int n0_26, .int n0_27, .ref a14, .int n0_29, .int n0_30])), (a1, .inl (ct 0, 4, .inl f1)), (a2, .inl (ct 0, 4, .inl f2)), (a3, .inl (ct 3, 240, .inr (.inl f3))), (a4, .inl (ct 3, 60, .inr (.inl f118_4)))] H → va_D A [(a0, .inr (11, [.int 0, .ref a1, .ref a2, .ref a3, .ref a4, .ref a5, .int n0_6, .int n0_7, .int n0_8, .int n0_9, .int n0_10, .long l0_11, .int n0_12, .int n0_13, .int n0_14, .int n0_15, .ref a6, .ref a7, .ref a8, .ref a9, .ref a10, .ref a11, .ref a12, .ref a13, .int n0_24, .int n0_25, .int n0_26, .int n0_27, .ref a14, .int n0_29, .int n0_30])), (a1, .inl (ct 0, 4, .inl f1)), (a2, .inl (ct 0, 4, .inl f2)), (a3, .inl (ct 3, 240, .inr (.inl f3))), (a4, .inl (ct 3, 60, .inr (.inl f118_4)))] → va_S A s.heap H locs → lv_has ls 7 [(0, .ref a0), (1, .int p0), (2, .int p1), (3, .int p2), (4, .int p3), (5, .int p4), (6, .int x118_6)] → W p l e (headSpec wsX11_paste ({ frames := 2, cells := 0, slots := 0, locals := 45 })).room s m ([.ref a0, .int p0, .int p1, .int p2, .int p3, .int p4] : List Value).toArray below meth c H locs 0 0 (MQ below (va_Qi (fun (r : Int32) (u : SU) => rg (-8) 0 r ∧ (r = 0 → rg 0 3 p0) ∧ (¬ r = (-2) → rg 0 3 p0) ∧ (r = 0 → rg 0 60 p1) ∧ (r = 0 → rg 0 3 p2) ∧ (¬ r = (-2) → rg 0 3 p2) ∧ (r = 0 → rg 0 60 p3) ∧ (r = 0 → rg 0 60 p4) ∧ rg 0 0 (u.1 0) ∧ r = psA p0 p1 p2 p3 p4 (decide (¬ f1 p0.toNatClampNeg = -1)) (decide (¬ f1 p2.toNatClampNeg = -1)) (decide (f1 p0.toNatClampNeg = f1 p2.toNatClampNeg)) (f2 p0.toNatClampNeg).toInt (f2 p2.toNatClampNeg).toInt ∧ True) (fun u t => va_P G vwCl ((fun u : SU => [(a0, .inr (11, [.int (u.1 0), .ref a1, .ref a2, .ref a3, .ref a4, .ref a5, .int n0_6, .int n0_7, .int n0_8, .int n0_9, .int n0_10, .long l0_11, .int n0_12, .int n0_13, .int n0_14, .int n0_15, .ref a6, .ref a7, .ref a8, .ref a9, .ref a10, .ref a11, .ref a12, .ref a13, .int n0_24, .int n0_25, .int n0_26, .int n0_27, .ref a14, .int n0_29, .int n0_30])), (a1, .inl (ct 0, 4, .inl f1)), (a2, .inl (ct 0, 4, .inl f2)), (a3, .inl (ct 3, 240, .inr (.inl (u.2.2 0)))), (a4, .inl (ct 3, 60, .inr (.inl (u.2.2 1))))]) u) t.heap) A) ([.ref a0, .int p0, .int p1, .int p2, .int p3, .int p4] : List Value).toArray s 0 0 A) (F0 m 118 ls []) := by
                        intro n
                        induction n with
                        | zero => intro x118_6 f118_4 H locs ls hn118 hx118_6 hP hD hS hl; exact absurd hn118 (by have := Int32.toInt_lt x118_6; have := Int32.le_toInt x118_6; omega)
                        | succ n ih118 =>
                          intro x118_6 f118_4 H locs ls hn118 hx118_6 hP hD hS hl
                          refine lv_iload hx hb dX11_paste_118 (lv_at hl 6 rfl) ?_
                          refine lv_iload hx hb dX11_paste_120 (lv_at hl 5 rfl) ?_
                          refine lv_icmp_ge (tgt := 152) hx hb dX11_paste_122 (by decide) (fun c122 => ?_) (fun c122 => ?_)
                          · refine lv_iconst (v := 0) hx hb dX11_paste_152 (by decide) ?_
                            refine lv_istore (lv' := [(6, .int 0), (0, .ref a0), (1, .int p0), (2, .int p1), (3, .int p2), (4, .int p3), (5, .int p4)]) hx hb dX11_paste_153 hl (by decide) rfl (fun ls hl => ?_)
                            have j155 : ∀ (n : Nat) (x155_6 : Int32) (f155_3 : Nat → Int64) (H : Heap) (locs : List Loc) (ls : Array Slot), 2147483648 ≤ x155_6.toInt + (n : Int) → rg 0 60 x155_6 → va_P G vwCl [(a0, .inr (11, [.int 0, .ref a1, .ref a2, .ref a3, .ref a4, .ref a5, .int n0_6, .int n0_7, .int n0_8, .int n0_9, .int n0_10, .long l0_11, .int n0_12, .int n0_13, .int n0_14, .int n0_15, .ref a6, .ref a7, .ref a8, .ref a9, .ref a10, .ref a11, .ref a12, .ref a13, .int n0_24, .int n0_25, .int n0_26, .int n0_27, .ref a14, .int n0_29, .int n0_30])), (a1, .inl (ct 0, 4, .inl f1)), (a2, .inl (ct 0, 4, .inl f2)), (a3, .inl (ct 3, 240, .inr (.inl f155_3))), (a4, .inl (ct 3, 60, .inr (.inl f118_4)))] H → va_D A [(a0, .inr (11, [.int 0, .ref a1, .ref a2, .ref a3, .ref a4, .ref a5, .int n0_6, .int n0_7, .int n0_8, .int n0_9, .int n0_10, .long l0_11, .int n0_12, .int n0_13, .int n0_14, .int n0_15, .ref a6, .ref a7, .ref a8, .ref a9, .ref a10, .ref a11, .ref a12, .ref a13, .int n0_24, .int n0_25, .int n0_26, .int n0_27, .ref a14, .int n0_29, .int n0_30])), (a1, .inl (ct 0, 4, .inl f1)), (a2, .inl (ct 0, 4, .inl f2)), (a3, .inl (ct 3, 240, .inr (.inl f155_3))), (a4, .inl (ct 3, 60, .inr (.inl f118_4)))] → va_S A s.heap H locs → lv_has ls 7 [(0, .ref a0), (1, .int p0), (2, .int p1), (3, .int p2), (4, .int p3), (5, .int p4), (6, .int x155_6)] → W p l e (headSpec wsX11_paste ({ frames := 2, cells := 0, slots := 0, locals := 45 })).room s m ([.ref a0, .int p0, .int p1, .int p2, .int p3, .int p4] : List Value).toArray below meth c H locs 0 0 (MQ below (va_Qi (fun (r : Int32) (u : SU) => rg (-8) 0 r ∧ (r = 0 → rg 0 3 p0) ∧ (¬ r = (-2) → rg 0 3 p0) ∧ (r = 0 → rg 0 60 p1) ∧ (r = 0 → rg 0 3 p2) ∧ (¬ r = (-2) → rg 0 3 p2) ∧ (r = 0 → rg 0 60 p3) ∧ (r = 0 → rg 0 60 p4) ∧ rg 0 0 (u.1 0) ∧ r = psA p0 p1 p2 p3 p4 (decide (¬ f1 p0.toNatClampNeg = -1)) (decide (¬ f1 p2.toNatClampNeg = -1)) (decide (f1 p0.toNatClampNeg = f1 p2.toNatClampNeg)) (f2 p0.toNatClampNeg).toInt (f2 p2.toNatClampNeg).toInt ∧ True) (fun u t => va_P G vwCl ((fun u : SU => [(a0, .inr (11, [.int (u.1 0), .ref a1, .ref a2, .ref a3, .ref a4, .ref a5, .int n0_6, .int n0_7, .int n0_8, .int n0_9, .int n0_10, .long l0_11, .int n0_12, .int n0_13, .int n0_14, .int n0_15, .ref a6, .ref a7, .ref a8, .ref a9, .ref a10, .ref a11, .ref a12, .ref a13, .int n0_24, .int n0_25, .int n0_26, .int n0_27, .ref a14, .int n0_29, .int n0_30])), (a1, .inl (ct 0, 4, .inl f1)), (a2, .inl (ct 0, 4, .inl f2)), (a3, .inl (ct 3, 240, .inr (.inl (u.2.2 0)))), (a4, .inl (ct 3, 60, .inr (.inl (u.2.2 1))))]) u) t.heap) A) ([.ref a0, .int p0, .int p1, .int p2, .int p3, .int p4] : List Value).toArray s 0 0 A) (F0 m 155 ls []) := by
                              intro n
                              induction n with
                              | zero => intro x155_6 f155_3 H locs ls hn155 hx155_6 hP hD hS hl; exact absurd hn155 (by have := Int32.toInt_lt x155_6; have := Int32.le_toInt x155_6; omega)
                              | succ n ih155 =>
                                intro x155_6 f155_3 H locs ls hn155 hx155_6 hP hD hS hl
                                refine lv_iload hx hb dX11_paste_155 (lv_at hl 6 rfl) ?_
                                refine lv_iload hx hb dX11_paste_157 (lv_at hl 5 rfl) ?_
                                refine lv_icmp_ge (tgt := 190) hx hb dX11_paste_159 (by decide) (fun c159 => ?_) (fun c159 => ?_)
                                · refine lv_iconst (v := 0) hx hb dX11_paste_190 (by decide) ?_
                                  exact W.iret (v := 0) hx hb hr (fun t ht hW => ⟨⟨0, (fun k => ([0] : List Int32).getD k 0, fun k => ([] : List (Nat → Int32)).getD k (fun _ => 0), fun k => ([f155_3, f118_4] : List (Nat → Int64)).getD k (fun _ => 0)), rfl, ⟨(rg_w (c := (-8)) (d := 0) (rgn 0 (x := 0) (by decide)) (by decide)), (fun _ => h_6), (fun _ => h_6), (fun _ => h_22), (fun _ => h_11), (fun _ => h_11), (fun _ => h_24), (fun _ => h_21), (rgn 0 (x := 0) (by decide)), (ps_0 (by have := h_6; have := h_22; have := h_11; have := h_24; have := h_21; have := i_ne c9; have := i_ne c16; have := i_ne c29; have := i_ne c39; have := congrArg Int32.toInt c57; have := i_le (nlt_i c64); have := i_le (nlt_i c69); have := i_le (nlt_i c74); have := l_le (nlt_l c91); have := l_le c109; have := i_le c122; have := i_le c159; have : ((-1) : Int32).toInt = (-1) := (by decide); have : (0 : Int32).toInt = 0 := (by decide); omega) ⟨decide_eq_true (fun hq => c29 (by rw [gz27]; exact hq)), decide_eq_true (fun hq => c39 (by rw [gz37]; exact hq))⟩ (decide_eq_true (by rw [← gz27, ← gz37]; exact c57)) (by have := h_6; have := h_22; have := h_11; have := h_24; have := h_21; have := i_ne c9; have := i_ne c16; have := i_ne c29; have := i_ne c39; have := congrArg Int32.toInt c57; have := i_le (nlt_i c64); have := i_le (nlt_i c69); have := i_le (nlt_i c74); have := l_le (nlt_l c91); have := l_le c109; have := i_le c122; have := i_le c159; have : ((-1) : Int32).toInt = (-1) := (by decide); have : (0 : Int32).toInt = 0 := (by decide); have := ez78; have := ez81; have := ez82; have := ez89; have := ez96; have := ez99; have := ez100; have := ez107; have := congrArg Int32.toInt gz88; have := congrArg Int32.toInt gz106; omega)), trivial⟩, hp_at ht hP⟩, hS.F ht⟩) hS.2.2 dX11_paste_191
                                · have h_25 : rg 0 59 x155_6 := r_lt_l_i (nle_i c159) hx155_6 h_21 (by decide)
                                  have h_26 : rg 1 60 p4 := r_lt_r_i (nle_i c159) hx155_6 h_21 (by decide)
                                  refine lv_aload_n hx hb dX11_paste_162 rfl (lv_at hl 0 rfl) ?_
                                  refine va_get (D := G) (ci := 11) (v := .ref a3) (C := RX11) (T := TX11) (N := 31) hx hb hts (by decide +kernel) hown hK.1 hP 0 rfl rfl 3 (by decide) (hts (.fieldLink RX11 16 "CardHolderModel" "cells" "[J") (by decide +kernel)) (fun _ h9 => h9) rfl dX11_paste_163 ?_
                                  refine lv_bipush (v := 60) hx hb dX11_paste_166 (by decide) ?_
                                  refine lv_iload_n hx hb dX11_paste_168 rfl (lv_at hl 3 rfl) ?_
                                  refine lv_imul hx hb dX11_paste_169 ?_
                                  refine nm_mul (e1 := 0) (f := 180) (rgn 60 (x := 60) (by decide)) h_11 (by decide) (fun z169 hz169 ez169 => ?_)
                                  refine lv_iload hx hb dX11_paste_170 (lv_at hl 4 rfl) ?_
                                  refine lv_iadd hx hb dX11_paste_172 ?_
                                  refine nm_add (e1 := 0) (f := 240) hz169 h_24 (by decide) (fun z172 hz172 ez172 => ?_)
                                  refine lv_iload hx hb dX11_paste_173 (lv_at hl 6 rfl) ?_
                                  refine lv_iadd hx hb dX11_paste_175 ?_
                                  refine nm_add (e1 := 0) (f := 299) hz172 h_25 (by decide) (fun z175 hz175 ez175 => ?_)
                                  refine lv_aload_n hx hb dX11_paste_176 rfl (lv_at hl 0 rfl) ?_
                                  refine va_get (D := G) (ci := 11) (v := .ref a4) (C := RX11) (T := TX11) (N := 31) hx hb hts (by decide +kernel) hown hK.1 hP 0 rfl rfl 4 (by decide) (hts (.fieldLink RX11 20 "CardHolderModel" "moved" "[J") (by decide +kernel)) (fun _ h9 => h9) rfl dX11_paste_177 ?_
                                  refine lv_iload hx hb dX11_paste_180 (lv_at hl 6 rfl) ?_
                                  refine va_lald hx hb hK.1 hP 4 3 rfl rfl (in_rg h_25 (by decide)) dX11_paste_182 ?_
                                  refine lv_topl (fun z182 gz182 => ?_)
                                  refine va_last hx hb hK.1 hP hD hS 3 3 rfl rfl (in_of (by have := hz175.1; omega) (by have := l_le c109; have := ez100; have := ez96; have := ez99; have := ez107; have := ez175; have := ez172; have := ez169; have h60 : (60 : Int32).toInt = 60 := (by decide); rw [h60] at *; have := i_nle c159; have := h_11; have := h_24; have := hz106; omega)) dX11_paste_183 (fun H locs hP hD hS => ?_)
                                  obtain ⟨z184, qz184⟩ : ∃ y : Int32, y = x155_6 + Int32.ofInt 1 := ⟨_, rfl⟩
                                  obtain ⟨hz184, ez184⟩ := inc_z (e := 1) (f := 60) h_25 qz184 (by decide)
                                  refine lv_iinc (v := z184) (lv' := [(6, .int z184), (0, .ref a0), (1, .int p0), (2, .int p1), (3, .int p2), (4, .int p3), (5, .int p4)]) hx hb dX11_paste_184 hl (k := 6) rfl (qz184.symm) (by decide) rfl (fun ls hl => ?_)
                                  refine lv_goto (tgt := 155) hx hb dX11_paste_187 (by decide) ?_
                                  exact ih155 z184 (vp_updL f155_3 z175.toNatClampNeg z182) _ _ ls (by have q := hn155; have := ez184; omega) (rg_w (c := 0) (d := 60) hz184 (by decide)) hP hD hS (lv_sub hl [1, 2, 3, 4, 5, 6, 0] rfl)
                            exact j155 4294967296 (0 : Int32) f3 _ _ ls (ms_e (0 : Int32)) (rg_w (c := 0) (d := 60) (rgn 0 (x := 0) (by decide)) (by decide)) hP hD hS (lv_sub hl [1, 2, 3, 4, 5, 6, 0] rfl)
                          · have h_27 : rg 0 59 x118_6 := r_lt_l_i (nle_i c122) hx118_6 h_21 (by decide)
                            have h_28 : rg 1 60 p4 := r_lt_r_i (nle_i c122) hx118_6 h_21 (by decide)
                            refine lv_aload_n hx hb dX11_paste_125 rfl (lv_at hl 0 rfl) ?_
                            refine va_get (D := G) (ci := 11) (v := .ref a4) (C := RX11) (T := TX11) (N := 31) hx hb hts (by decide +kernel) hown hK.1 hP 0 rfl rfl 4 (by decide) (hts (.fieldLink RX11 20 "CardHolderModel" "moved" "[J") (by decide +kernel)) (fun _ h9 => h9) rfl dX11_paste_126 ?_
                            refine lv_iload hx hb dX11_paste_129 (lv_at hl 6 rfl) ?_
                            refine lv_aload_n hx hb dX11_paste_131 rfl (lv_at hl 0 rfl) ?_
                            refine va_get (D := G) (ci := 11) (v := .ref a3) (C := RX11) (T := TX11) (N := 31) hx hb hts (by decide +kernel) hown hK.1 hP 0 rfl rfl 3 (by decide) (hts (.fieldLink RX11 16 "CardHolderModel" "cells" "[J") (by decide +kernel)) (fun _ h9 => h9) rfl dX11_paste_132 ?_
                            refine lv_bipush (v := 60) hx hb dX11_paste_135 (by decide) ?_
                            refine lv_iload_n hx hb dX11_paste_137 rfl (lv_at hl 1 rfl) ?_
                            refine lv_imul hx hb dX11_paste_138 ?_
                            refine nm_mul (e1 := 0) (f := 180) (rgn 60 (x := 60) (by decide)) h_6 (by decide) (fun z138 hz138 ez138 => ?_)
                            refine lv_iload_n hx hb dX11_paste_139 rfl (lv_at hl 2 rfl) ?_
                            refine lv_iadd hx hb dX11_paste_140 ?_
                            refine nm_add (e1 := 0) (f := 240) hz138 h_22 (by decide) (fun z140 hz140 ez140 => ?_)
                            refine lv_iload hx hb dX11_paste_141 (lv_at hl 6 rfl) ?_
                            refine lv_iadd hx hb dX11_paste_143 ?_
                            refine nm_add (e1 := 0) (f := 299) hz140 h_27 (by decide) (fun z143 hz143 ez143 => ?_)
                            refine va_lald hx hb hK.1 hP 3 3 rfl rfl (in_of (by have := hz143.1; omega) (by have := l_nlt c91; have := ez82; have := ez78; have := ez81; have := ez89; have := ez143; have := ez140; have := ez138; have h60 : (60 : Int32).toInt = 60 := (by decide); rw [h60] at *; have := i_nle c122; have := h_6; have := h_22; have := hz88; omega)) dX11_paste_144 ?_
                            refine lv_topl (fun z144 gz144 => ?_)
                            refine va_last hx hb hK.1 hP hD hS 4 3 rfl rfl (in_rg h_27 (by decide)) dX11_paste_145 (fun H locs hP hD hS => ?_)
                            obtain ⟨z146, qz146⟩ : ∃ y : Int32, y = x118_6 + Int32.ofInt 1 := ⟨_, rfl⟩
                            obtain ⟨hz146, ez146⟩ := inc_z (e := 1) (f := 60) h_27 qz146 (by decide)
                            refine lv_iinc (v := z146) (lv' := [(6, .int z146), (0, .ref a0), (1, .int p0), (2, .int p1), (3, .int p2), (4, .int p3), (5, .int p4)]) hx hb dX11_paste_146 hl (k := 6) rfl (qz146.symm) (by decide) rfl (fun ls hl => ?_)
                            refine lv_goto (tgt := 118) hx hb dX11_paste_149 (by decide) ?_
                            exact ih118 z146 (vp_updL f118_4 x118_6.toNatClampNeg z144) _ _ ls (by have q := hn118; have := ez146; omega) (rg_w (c := 0) (d := 60) hz146 (by decide)) hP hD hS (lv_sub hl [1, 2, 3, 4, 5, 6, 0] rfl)
                      exact j118 4294967296 (0 : Int32) f4 _ _ ls (ms_e (0 : Int32)) (rg_w (c := 0) (d := 60) (rgn 0 (x := 0) (by decide)) (by decide)) hP hD hS (lv_sub hl [1, 2, 3, 4, 5, 6, 0] rfl)
                    · have h_29 : rl 1 2147483707 z100 := r_lt_r_l (nle_l c109) hz107 hz100 (by decide)
                      refine lv_bipush (v := (-7)) hx hb dX11_paste_112 (by decide) ?_
                      exact W.iret (v := (-7)) hx hb hr (fun t ht hW => ⟨⟨(-7), (fun k => ([0] : List Int32).getD k 0, fun k => ([] : List (Nat → Int32)).getD k (fun _ => 0), fun k => ([f3, f4] : List (Nat → Int64)).getD k (fun _ => 0)), rfl, ⟨(rg_w (c := (-8)) (d := 0) (rgn (-7) (x := (-7)) (by decide)) (by decide)), (fun _ => h_6), (fun _ => h_6), (fun _ => h_22), (fun _ => h_11), (fun _ => h_11), (fun hq => absurd hq (rne (rgn (-7) (x := (-7)) (by decide)) (y := 0) (c := 0) (by decide) (by decide))), (fun _ => h_21), (rgn 0 (x := 0) (by decide)), (ps_7 (by have := h_6; have := h_22; have := h_11; have := h_16; have := h_21; have := i_ne c9; have := i_ne c16; have := i_ne c29; have := i_ne c39; have := congrArg Int32.toInt c57; have := i_le (nlt_i c64); have := i_le (nlt_i c69); have := i_le (nlt_i c74); have := l_le (nlt_l c91); have := l_lt (nle_l c109); have : ((-1) : Int32).toInt = (-1) := (by decide); have : (0 : Int32).toInt = 0 := (by decide); omega) ⟨decide_eq_true (fun hq => c29 (by rw [gz27]; exact hq)), decide_eq_true (fun hq => c39 (by rw [gz37]; exact hq))⟩ (decide_eq_true (by rw [← gz27, ← gz37]; exact c57)) (by have := h_6; have := h_22; have := h_11; have := h_16; have := h_21; have := i_ne c9; have := i_ne c16; have := i_ne c29; have := i_ne c39; have := congrArg Int32.toInt c57; have := i_le (nlt_i c64); have := i_le (nlt_i c69); have := i_le (nlt_i c74); have := l_le (nlt_l c91); have := l_lt (nle_l c109); have : ((-1) : Int32).toInt = (-1) := (by decide); have : (0 : Int32).toInt = 0 := (by decide); have := ez78; have := ez81; have := ez82; have := ez89; have := ez96; have := ez99; have := ez100; have := ez107; have := congrArg Int32.toInt gz88; have := congrArg Int32.toInt gz106; omega)), trivial⟩, hp_at ht hP⟩, hS.F ht⟩) hS.2.2 dX11_paste_114
          · refine lv_bipush (v := (-8)) hx hb dX11_paste_60 (by decide) ?_
            exact W.iret (v := (-8)) hx hb hr (fun t ht hW => ⟨⟨(-8), (fun k => ([0] : List Int32).getD k 0, fun k => ([] : List (Nat → Int32)).getD k (fun _ => 0), fun k => ([f3, f4] : List (Nat → Int64)).getD k (fun _ => 0)), rfl, ⟨(rg_w (c := (-8)) (d := 0) (rgn (-8) (x := (-8)) (by decide)) (by decide)), (fun _ => h_6), (fun _ => h_6), (fun hq => absurd hq (rne (rgn (-8) (x := (-8)) (by decide)) (y := 0) (c := 0) (by decide) (by decide))), (fun _ => h_11), (fun _ => h_11), (fun hq => absurd hq (rne (rgn (-8) (x := (-8)) (by decide)) (y := 0) (c := 0) (by decide) (by decide))), (fun hq => absurd hq (rne (rgn (-8) (x := (-8)) (by decide)) (y := 0) (c := 0) (by decide) (by decide))), (rgn 0 (x := 0) (by decide)), (ps_8 (by have := h_6; have := h_11; have := i_ne c9; have := i_ne c16; have := i_ne c29; have := i_ne c39; have := i_ne c57; have : ((-1) : Int32).toInt = (-1) := (by decide); have : (0 : Int32).toInt = 0 := (by decide); omega) ⟨decide_eq_true (fun hq => c29 (by rw [gz27]; exact hq)), decide_eq_true (fun hq => c39 (by rw [gz37]; exact hq))⟩ (fun hq => c57 (by rw [gz27, gz37]; exact of_decide_eq_true hq))), trivial⟩, hp_at ht hP⟩, hS.F ht⟩) hS.2.2 dX11_paste_62
        · have h_30 : rg (-1) (-1) z37 := r_eq_l_i (e := (-1)) (f := (-1)) c39 (rg_t z37) (rgn (-1) (x := (-1)) (by decide)) (by decide)
          refine lv_bipush (v := (-6)) hx hb dX11_paste_42 (by decide) ?_
          exact W.iret (v := (-6)) hx hb hr (fun t ht hW => ⟨⟨(-6), (fun k => ([0] : List Int32).getD k 0, fun k => ([] : List (Nat → Int32)).getD k (fun _ => 0), fun k => ([f3, f4] : List (Nat → Int64)).getD k (fun _ => 0)), rfl, ⟨(rg_w (c := (-8)) (d := 0) (rgn (-6) (x := (-6)) (by decide)) (by decide)), (fun _ => h_6), (fun _ => h_6), (fun hq => absurd hq (rne (rgn (-6) (x := (-6)) (by decide)) (y := 0) (c := 0) (by decide) (by decide))), (fun _ => h_11), (fun _ => h_11), (fun hq => absurd hq (rne (rgn (-6) (x := (-6)) (by decide)) (y := 0) (c := 0) (by decide) (by decide))), (fun hq => absurd hq (rne (rgn (-6) (x := (-6)) (by decide)) (y := 0) (c := 0) (by decide) (by decide))), (rgn 0 (x := 0) (by decide)), (ps_6 (by have := h_6; have := h_11; have := i_ne c9; have := i_ne c16; have := i_ne c29; have := congrArg Int32.toInt c39; have : ((-1) : Int32).toInt = (-1) := (by decide); have : (0 : Int32).toInt = 0 := (by decide); omega) (fun hp => of_decide_eq_true hp.2 (by rw [← gz37]; exact c39))), trivial⟩, hp_at ht hP⟩, hS.F ht⟩) hS.2.2 dX11_paste_44
    · have h_31 : rg 0 0 r13 := r_eq_l_i (e := 0) (f := 0) c16 p_7 (rgn 0 (x := 0) (by decide)) (by decide)
      refine lv_bipush (v := (-2)) hx hb dX11_paste_19 (by decide) ?_
      exact W.iret (v := (-2)) hx hb hr (fun t ht hW => ⟨⟨(-2), (fun k => ([0] : List Int32).getD k 0, fun k => ([] : List (Nat → Int32)).getD k (fun _ => 0), fun k => ([f3, f4] : List (Nat → Int64)).getD k (fun _ => 0)), rfl, ⟨(rg_w (c := (-8)) (d := 0) (rgn (-2) (x := (-2)) (by decide)) (by decide)), (fun _ => h_6), (fun _ => h_6), (fun hq => absurd hq (rne (rgn (-2) (x := (-2)) (by decide)) (y := 0) (c := 0) (by decide) (by decide))), (fun hq => absurd hq (rne (rgn (-2) (x := (-2)) (by decide)) (y := 0) (c := 0) (by decide) (by decide))), (fun hq => absurd (req (rgn (-2) (x := (-2)) (by decide)) (y := (-2)) (by decide)) hq), (fun hq => absurd hq (rne (rgn (-2) (x := (-2)) (by decide)) (y := 0) (c := 0) (by decide) (by decide))), (fun hq => absurd hq (rne (rgn (-2) (x := (-2)) (by decide)) (y := 0) (c := 0) (by decide) (by decide))), (rgn 0 (x := 0) (by decide)), (ps_2 (by have := (p_9 (req h_31 (y := 0) (by decide))); have := h_6; have := i_ne c9; have := congrArg Int32.toInt c16; have : (0 : Int32).toInt = 0 := (by decide); omega)), trivial⟩, hp_at ht hP⟩, hS.F ht⟩) hS.2.2 dX11_paste_21

