theorem dX0_init_0 : decode cX0_init 0 = .ok (.aload_n 0, 1) := by decide +kernel
theorem dX0_init_1 : decode cX0_init 1 = .ok (.invokespecial 3, 3) := by decide +kernel
theorem dX0_init_4 : decode cX0_init 4 = .ok (.aload_n 0, 1) := by decide +kernel
theorem dX0_init_5 : decode cX0_init 5 = .ok (.bipush 8, 2) := by decide +kernel
theorem dX0_init_7 : decode cX0_init 7 = .ok (.newarray .int, 2) := by decide +kernel
theorem dX0_init_9 : decode cX0_init 9 = .ok (.putfield 9, 3) := by decide +kernel
theorem dX0_init_12 : decode cX0_init 12 = .ok (.return_, 1) := by decide +kernel
theorem dX9_init_0 : decode cX9_init 0 = .ok (.aload_n 0, 1) := by decide +kernel
theorem dX9_init_1 : decode cX9_init 1 = .ok (.invokespecial 3, 3) := by decide +kernel
theorem dX9_init_4 : decode cX9_init 4 = .ok (.aload_n 0, 1) := by decide +kernel
theorem dX9_init_5 : decode cX9_init 5 = .ok (.new 9, 3) := by decide +kernel
theorem dX9_init_8 : decode cX9_init 8 = .ok (.dup, 1) := by decide +kernel
set_option maxRecDepth 20000 in
theorem ggX9_init_X0_init : GoodIn wsX9_init wsX0_init := goodIn_r _ [14, 15, 2, 3, 8, 16, 17, 18] (by rfl) (by decide +kernel)
set_option maxRecDepth 20000 in
theorem gX9_init_X0_init_n11 : GoodIn wsX9_init (wsX0_init) := ggX9_init_X0_init
theorem dX9_init_9 : decode cX9_init 9 = .ok (.invokespecial 11, 3) := by decide +kernel
theorem dX9_init_12 : decode cX9_init 12 = .ok (.putfield 12, 3) := by decide +kernel
theorem dX9_init_15 : decode cX9_init 15 = .ok (.aload_n 0, 1) := by decide +kernel
theorem dX9_init_16 : decode cX9_init 16 = .ok (.bipush 8, 2) := by decide +kernel
theorem dX9_init_18 : decode cX9_init 18 = .ok (.newarray .int, 2) := by decide +kernel
theorem dX9_init_20 : decode cX9_init 20 = .ok (.putfield 18, 3) := by decide +kernel
theorem dX9_init_23 : decode cX9_init 23 = .ok (.aload_n 0, 1) := by decide +kernel
theorem dX9_init_24 : decode cX9_init 24 = .ok (.bipush 8, 2) := by decide +kernel
theorem dX9_init_26 : decode cX9_init 26 = .ok (.newarray .int, 2) := by decide +kernel
theorem dX9_init_28 : decode cX9_init 28 = .ok (.putfield 22, 3) := by decide +kernel
theorem dX9_init_31 : decode cX9_init 31 = .ok (.aload_n 0, 1) := by decide +kernel
theorem dX9_init_32 : decode cX9_init 32 = .ok (.bipush 8, 2) := by decide +kernel
theorem dX9_init_34 : decode cX9_init 34 = .ok (.newarray .int, 2) := by decide +kernel
theorem dX9_init_36 : decode cX9_init 36 = .ok (.putfield 25, 3) := by decide +kernel
theorem dX9_init_39 : decode cX9_init 39 = .ok (.aload_n 0, 1) := by decide +kernel
theorem dX9_init_40 : decode cX9_init 40 = .ok (.bipush 8, 2) := by decide +kernel
theorem dX9_init_42 : decode cX9_init 42 = .ok (.newarray .int, 2) := by decide +kernel
theorem dX9_init_44 : decode cX9_init 44 = .ok (.putfield 28, 3) := by decide +kernel
theorem dX9_init_47 : decode cX9_init 47 = .ok (.return_, 1) := by decide +kernel
theorem dX8_init_0 : decode cX8_init 0 = .ok (.aload_n 0, 1) := by decide +kernel
theorem dX8_init_1 : decode cX8_init 1 = .ok (.invokespecial 3, 3) := by decide +kernel
theorem dX8_init_4 : decode cX8_init 4 = .ok (.aload_n 0, 1) := by decide +kernel
theorem dX8_init_5 : decode cX8_init 5 = .ok (.sipush 900, 3) := by decide +kernel
theorem dX8_init_8 : decode cX8_init 8 = .ok (.newarray .byte, 2) := by decide +kernel
theorem dX8_init_10 : decode cX8_init 10 = .ok (.putfield 9, 3) := by decide +kernel
theorem dX8_init_13 : decode cX8_init 13 = .ok (.return_, 1) := by decide +kernel
theorem dX2_init_0 : decode cX2_init 0 = .ok (.aload_n 0, 1) := by decide +kernel
theorem dX2_init_1 : decode cX2_init 1 = .ok (.invokespecial 3, 3) := by decide +kernel
theorem dX2_init_4 : decode cX2_init 4 = .ok (.aload_n 0, 1) := by decide +kernel
theorem dX2_init_5 : decode cX2_init 5 = .ok (.new 9, 3) := by decide +kernel
theorem dX2_init_8 : decode cX2_init 8 = .ok (.dup, 1) := by decide +kernel
set_option maxRecDepth 20000 in
theorem ggX2_init_X0_init : GoodIn wsX2_init wsX0_init := goodIn_r _ [13, 14, 2, 3, 8, 15, 16, 17] (by rfl) (by decide +kernel)
set_option maxRecDepth 20000 in
theorem gX2_init_X0_init_n11 : GoodIn wsX2_init (wsX0_init) := ggX2_init_X0_init
theorem dX2_init_9 : decode cX2_init 9 = .ok (.invokespecial 11, 3) := by decide +kernel
theorem dX2_init_12 : decode cX2_init 12 = .ok (.putfield 12, 3) := by decide +kernel
theorem dX2_init_15 : decode cX2_init 15 = .ok (.aload_n 0, 1) := by decide +kernel
theorem dX2_init_16 : decode cX2_init 16 = .ok (.bipush 8, 2) := by decide +kernel
theorem dX2_init_18 : decode cX2_init 18 = .ok (.newarray .int, 2) := by decide +kernel
theorem dX2_init_20 : decode cX2_init 20 = .ok (.putfield 18, 3) := by decide +kernel
theorem dX2_init_23 : decode cX2_init 23 = .ok (.aload_n 0, 1) := by decide +kernel
theorem dX2_init_24 : decode cX2_init 24 = .ok (.bipush 8, 2) := by decide +kernel
theorem dX2_init_26 : decode cX2_init 26 = .ok (.newarray .int, 2) := by decide +kernel
theorem dX2_init_28 : decode cX2_init 28 = .ok (.putfield 22, 3) := by decide +kernel
theorem dX2_init_31 : decode cX2_init 31 = .ok (.aload_n 0, 1) := by decide +kernel
theorem dX2_init_32 : decode cX2_init 32 = .ok (.aload_n 1, 1) := by decide +kernel
theorem dX2_init_33 : decode cX2_init 33 = .ok (.putfield 25, 3) := by decide +kernel
theorem dX2_init_36 : decode cX2_init 36 = .ok (.return_, 1) := by decide +kernel
theorem dX4_init_0 : decode cX4_init 0 = .ok (.aload_n 0, 1) := by decide +kernel
theorem dX4_init_1 : decode cX4_init 1 = .ok (.invokespecial 3, 3) := by decide +kernel
theorem dX4_init_4 : decode cX4_init 4 = .ok (.aload_n 0, 1) := by decide +kernel
theorem dX4_init_5 : decode cX4_init 5 = .ok (.new 9, 3) := by decide +kernel
theorem dX4_init_8 : decode cX4_init 8 = .ok (.dup, 1) := by decide +kernel
set_option maxRecDepth 20000 in
theorem ggX4_init_X9_init : GoodIn wsX4_init wsX9_init := goodIn_r _ [15, 16, 2, 3, 17, 18, 19, 20, 12, 21, 22, 23, 24, 25, 26, 27, 28, 57, 58, 38, 39, 40, 41, 42, 43, 44] (by rfl) (by decide +kernel)
set_option maxRecDepth 20000 in
theorem gX4_init_X9_init_n11 : GoodIn wsX4_init (wsX9_init) := ggX4_init_X9_init
theorem dX4_init_9 : decode cX4_init 9 = .ok (.invokespecial 11, 3) := by decide +kernel
theorem dX4_init_12 : decode cX4_init 12 = .ok (.putfield 12, 3) := by decide +kernel
theorem dX4_init_15 : decode cX4_init 15 = .ok (.aload_n 0, 1) := by decide +kernel
theorem dX4_init_16 : decode cX4_init 16 = .ok (.new 18, 3) := by decide +kernel
theorem dX4_init_19 : decode cX4_init 19 = .ok (.dup, 1) := by decide +kernel
theorem dX4_init_20 : decode cX4_init 20 = .ok (.aload_n 0, 1) := by decide +kernel
theorem dX4_init_21 : decode cX4_init 21 = .ok (.getfield 12, 3) := by decide +kernel
set_option maxRecDepth 20000 in
theorem ggX4_init_X2_init : GoodIn wsX4_init wsX2_init := goodIn_r _ [31, 32, 2, 3, 33, 18, 19, 34, 12, 35, 36, 37, 25, 26, 27, 28, 57, 58, 49, 50, 51, 52, 53, 54, 55, 56] (by rfl) (by decide +kernel)
set_option maxRecDepth 20000 in
theorem gX4_init_X2_init : GoodIn wsX4_init (wsX2_init) := ggX4_init_X2_init
theorem dX4_init_24 : decode cX4_init 24 = .ok (.invokespecial 20, 3) := by decide +kernel
theorem dX4_init_27 : decode cX4_init 27 = .ok (.putfield 23, 3) := by decide +kernel
theorem dX4_init_30 : decode cX4_init 30 = .ok (.aload_n 0, 1) := by decide +kernel
theorem dX4_init_31 : decode cX4_init 31 = .ok (.bipush 40, 2) := by decide +kernel
theorem dX4_init_33 : decode cX4_init 33 = .ok (.newarray .int, 2) := by decide +kernel
theorem dX4_init_35 : decode cX4_init 35 = .ok (.putfield 27, 3) := by decide +kernel
theorem dX4_init_38 : decode cX4_init 38 = .ok (.return_, 1) := by decide +kernel
theorem dX5_init_0 : decode cX5_init 0 = .ok (.aload_n 0, 1) := by decide +kernel
theorem dX5_init_1 : decode cX5_init 1 = .ok (.invokespecial 3, 3) := by decide +kernel
theorem dX5_init_4 : decode cX5_init 4 = .ok (.aload_n 0, 1) := by decide +kernel
theorem dX5_init_5 : decode cX5_init 5 = .ok (.new 9, 3) := by decide +kernel
theorem dX5_init_8 : decode cX5_init 8 = .ok (.dup, 1) := by decide +kernel
set_option maxRecDepth 20000 in
theorem ggX5_init_X9_init : GoodIn wsX5_init wsX9_init := goodIn_r _ [11, 12, 2, 3, 13, 14, 15, 16, 17, 18, 19, 20, 21, 22, 23, 24, 25, 41, 42, 26, 27, 28, 29, 30, 31, 32] (by rfl) (by decide +kernel)
set_option maxRecDepth 20000 in
theorem gX5_init_X9_init_n11 : GoodIn wsX5_init (wsX9_init) := ggX5_init_X9_init
theorem dX5_init_9 : decode cX5_init 9 = .ok (.invokespecial 11, 3) := by decide +kernel
theorem dX5_init_12 : decode cX5_init 12 = .ok (.putfield 12, 3) := by decide +kernel
theorem dX5_init_15 : decode cX5_init 15 = .ok (.aload_n 0, 1) := by decide +kernel
theorem dX5_init_16 : decode cX5_init 16 = .ok (.iconst (-1), 1) := by decide +kernel
theorem dX5_init_17 : decode cX5_init 17 = .ok (.putfield 18, 3) := by decide +kernel
theorem dX5_init_20 : decode cX5_init 20 = .ok (.aload_n 0, 1) := by decide +kernel
theorem dX5_init_21 : decode cX5_init 21 = .ok (.aload_n 1, 1) := by decide +kernel
theorem dX5_init_22 : decode cX5_init 22 = .ok (.putfield 22, 3) := by decide +kernel
theorem dX5_init_25 : decode cX5_init 25 = .ok (.return_, 1) := by decide +kernel
theorem dX7_init_0 : decode cX7_init 0 = .ok (.aload_n 0, 1) := by decide +kernel
theorem dX7_init_1 : decode cX7_init 1 = .ok (.invokespecial 3, 3) := by decide +kernel
theorem dX7_init_4 : decode cX7_init 4 = .ok (.aload_n 0, 1) := by decide +kernel
theorem dX7_init_5 : decode cX7_init 5 = .ok (.new 9, 3) := by decide +kernel
theorem dX7_init_8 : decode cX7_init 8 = .ok (.dup, 1) := by decide +kernel
set_option maxRecDepth 20000 in
theorem ggX7_init_X0_init : GoodIn wsX7_init wsX0_init := goodIn_r _ [11, 12, 2, 3, 8, 13, 14, 15] (by rfl) (by decide +kernel)
set_option maxRecDepth 20000 in
theorem gX7_init_X0_init_n11 : GoodIn wsX7_init (wsX0_init) := ggX7_init_X0_init
theorem dX7_init_9 : decode cX7_init 9 = .ok (.invokespecial 11, 3) := by decide +kernel
theorem dX7_init_12 : decode cX7_init 12 = .ok (.putfield 12, 3) := by decide +kernel
theorem dX7_init_15 : decode cX7_init 15 = .ok (.aload_n 0, 1) := by decide +kernel
theorem dX7_init_16 : decode cX7_init 16 = .ok (.bipush 8, 2) := by decide +kernel
theorem dX7_init_18 : decode cX7_init 18 = .ok (.newarray .int, 2) := by decide +kernel
theorem dX7_init_20 : decode cX7_init 20 = .ok (.putfield 18, 3) := by decide +kernel
theorem dX7_init_23 : decode cX7_init 23 = .ok (.return_, 1) := by decide +kernel
theorem dX1_init_0 : decode cX1_init 0 = .ok (.aload_n 0, 1) := by decide +kernel
theorem dX1_init_1 : decode cX1_init 1 = .ok (.invokespecial 3, 3) := by decide +kernel
theorem dX1_init_4 : decode cX1_init 4 = .ok (.aload_n 0, 1) := by decide +kernel
theorem dX1_init_5 : decode cX1_init 5 = .ok (.sipush 256, 3) := by decide +kernel
theorem dX1_init_8 : decode cX1_init 8 = .ok (.newarray .int, 2) := by decide +kernel
theorem dX1_init_10 : decode cX1_init 10 = .ok (.putfield 9, 3) := by decide +kernel
theorem dX1_init_13 : decode cX1_init 13 = .ok (.aload_n 0, 1) := by decide +kernel
theorem dX1_init_14 : decode cX1_init 14 = .ok (.sipush 256, 3) := by decide +kernel
theorem dX1_init_17 : decode cX1_init 17 = .ok (.newarray .int, 2) := by decide +kernel
theorem dX1_init_19 : decode cX1_init 19 = .ok (.putfield 15, 3) := by decide +kernel
theorem dX1_init_22 : decode cX1_init 22 = .ok (.aload_n 0, 1) := by decide +kernel
theorem dX1_init_23 : decode cX1_init 23 = .ok (.iconst 1, 1) := by decide +kernel
theorem dX1_init_24 : decode cX1_init 24 = .ok (.putfield 18, 3) := by decide +kernel
theorem dX1_init_27 : decode cX1_init 27 = .ok (.return_, 1) := by decide +kernel
theorem dX3_init_0 : decode cX3_init 0 = .ok (.aload_n 0, 1) := by decide +kernel
theorem dX3_init_1 : decode cX3_init 1 = .ok (.invokespecial 3, 3) := by decide +kernel
theorem dX3_init_4 : decode cX3_init 4 = .ok (.aload_n 0, 1) := by decide +kernel
theorem dX3_init_5 : decode cX3_init 5 = .ok (.bipush 8, 2) := by decide +kernel
theorem dX3_init_7 : decode cX3_init 7 = .ok (.newarray .int, 2) := by decide +kernel
theorem dX3_init_9 : decode cX3_init 9 = .ok (.putfield 9, 3) := by decide +kernel
theorem dX3_init_12 : decode cX3_init 12 = .ok (.aload_n 0, 1) := by decide +kernel
theorem dX3_init_13 : decode cX3_init 13 = .ok (.bipush 8, 2) := by decide +kernel
theorem dX3_init_15 : decode cX3_init 15 = .ok (.newarray .int, 2) := by decide +kernel
theorem dX3_init_17 : decode cX3_init 17 = .ok (.putfield 15, 3) := by decide +kernel
theorem dX3_init_20 : decode cX3_init 20 = .ok (.aload_n 0, 1) := by decide +kernel
theorem dX3_init_21 : decode cX3_init 21 = .ok (.bipush 8, 2) := by decide +kernel
theorem dX3_init_23 : decode cX3_init 23 = .ok (.newarray .int, 2) := by decide +kernel
theorem dX3_init_25 : decode cX3_init 25 = .ok (.putfield 18, 3) := by decide +kernel
theorem dX3_init_28 : decode cX3_init 28 = .ok (.return_, 1) := by decide +kernel
theorem dX6_init_0 : decode cX6_init 0 = .ok (.aload_n 0, 1) := by decide +kernel
theorem dX6_init_1 : decode cX6_init 1 = .ok (.invokespecial 3, 3) := by decide +kernel
theorem dX6_init_4 : decode cX6_init 4 = .ok (.aload_n 0, 1) := by decide +kernel
theorem dX6_init_5 : decode cX6_init 5 = .ok (.iconst 4, 1) := by decide +kernel
theorem dX6_init_6 : decode cX6_init 6 = .ok (.bipush 60, 2) := by decide +kernel
theorem dX6_init_8 : decode cX6_init 8 = .ok (.multianewarray 9 2, 4) := by decide +kernel
theorem dX6_init_12 : decode cX6_init 12 = .ok (.putfield 11, 3) := by decide +kernel
theorem dX6_init_15 : decode cX6_init 15 = .ok (.aload_n 0, 1) := by decide +kernel
theorem dX6_init_16 : decode cX6_init 16 = .ok (.iconst 4, 1) := by decide +kernel
theorem dX6_init_17 : decode cX6_init 17 = .ok (.newarray .int, 2) := by decide +kernel
theorem dX6_init_19 : decode cX6_init 19 = .ok (.putfield 16, 3) := by decide +kernel
theorem dX6_init_22 : decode cX6_init 22 = .ok (.aload_n 0, 1) := by decide +kernel
theorem dX6_init_23 : decode cX6_init 23 = .ok (.iconst 4, 1) := by decide +kernel
theorem dX6_init_24 : decode cX6_init 24 = .ok (.newarray .int, 2) := by decide +kernel
theorem dX6_init_26 : decode cX6_init 26 = .ok (.putfield 20, 3) := by decide +kernel
theorem dX6_init_29 : decode cX6_init 29 = .ok (.return_, 1) := by decide +kernel
theorem va_P.last {G : va_G} {wr : va_W} {x : Nat × va_E} {H : Heap} (h : va_P G vwCl (wr ++ [x]) H) : va_P G vwCl [x] H := fun k q hq => by
  have hk : k < 1 := (List.getElem?_eq_some_iff.mp hq).1
  have e : k = 0 := by omega
  subst e
  exact h wr.length q (by rw [List.getElem?_append_right (Nat.le_refl _), Nat.sub_self]; exact hq)
theorem va_D.last {A : Nat → Prop} {wr : va_W} {x : Nat × va_E} (h : va_D A (wr ++ [x])) : va_D A [x] := by
  refine ⟨fun i j p q hi hj _ => ?_, fun k q hq => ?_⟩
  · have h1 : i < 1 := (List.getElem?_eq_some_iff.mp hi).1
    have h2 : j < 1 := (List.getElem?_eq_some_iff.mp hj).1
    omega
  · have hk : k < 1 := (List.getElem?_eq_some_iff.mp hq).1
    have e : k = 0 := by omega
    subst e
    exact h.2 wr.length q (by rw [List.getElem?_append_right (Nat.le_refl _), Nat.sub_self]; exact hq)
theorem mna_z (c9 : ClassId) : Jvm.Free.Multi.innerC c9 60 (defaultValue .long) = vp_cell c9 (60, .inr (.inl (fun _ => 0))) := by
  rw [vp_cell_l, ← arrV_new]
  rfl
theorem mna_rows {X : va_W} {y : Nat × va_E} {f : Nat → va_E} {r : Nat → Nat} {v : va_E} : (X ++ [y]) ++ va_pl ([] ++ (List.range 4).map r) (vr_up f ((List.range 4).map r) v) = (X ++ [y]) ++ [(r 0, v), (r 1, v), (r 2, v), (r 3, v)] := by
  simp [va_pl, vr_up, List.range_succ]
section RWN
variable {p : Program} {l : Launch} {e : Env} {R : Room} {s : State} {m : MethodId} {args : Array Value} {below : List Frame} {meth : Method} {c : Code} {H : Heap} {locs : List Loc} {cells slots : Nat} {Q : State → Prop}
variable {pc : Nat} {ls : Array Slot} {rest st0 : List Value} {a : Array Value} {A0 : Nat → Prop} {H0 : Heap} {G : va_G}
theorem nl_callv {S : Type} {post : S → Prop} {w1 : S → va_W} {wr : va_W} {x : Nat × va_E} {mc ms : Nat} (hr : va_Run p l e R s m args below meth c H locs cells slots mc ms (F0 m pc ls st0) rest (va_Qv post (fun u t => va_P G vwCl (w1 u) t.heap ∧ va_D (va_A [x] H.size) (w1 u)) (va_A [x] H.size) a) (va_A [x] H.size)) (hS : va_S A0 H0 H locs) (hA : ∀ q, H0.size ≤ q → A0 q) (hP : va_P G vwCl (wr ++ [x]) H) (hD : va_D A0 (wr ++ [x]))
    (kk : ∀ (u : S) (H1 : Heap) (locs1 : List Loc), post u → va_P G vwCl (wr ++ w1 u) H1 → va_D A0 (wr ++ w1 u) → va_S A0 H0 H1 locs1 → W p l e R s m args below meth c H1 locs1 (cells + mc) (slots + ms) Q (F0 m (pc + 3) ls rest)) : W p l e R s m args below meth c H locs cells slots Q (F0 m pc ls st0) := by
  have hx : (wr ++ [x])[wr.length]? = some x := by rw [List.getElem?_append_right (Nat.le_refl _), Nat.sub_self]; rfl
  have hF : ∀ q, va_A [x] H.size q → A0 q := fun q h => by
    rcases h with ⟨k, e, h⟩ | h
    · have hk : k < 1 := (List.getElem?_eq_some_iff.mp h).1
      have e1 : k = 0 := by omega
      subst e1
      have e2 : x = (q, e) := Option.some.inj h
      have := hD.2 wr.length x hx
      rw [e2] at this
      exact this
    · exact hA q (Nat.le_trans hS.1 h)
  refine va_callv hr hS (fun q _ h => hF q h) hF (fun u t H1 locs1 ht hvm hw hB hz hk hS1 => ?_)
  have hap : ∀ (k : Nat) (q : Nat × va_E), wr[k]? = some q → q.1 < H.size ∧ ¬ va_A [x] H.size q.1 := fun k q hq => by
    have hlt : k < wr.length := (List.getElem?_eq_some_iff.mp hq).1
    have g : (wr ++ [x])[k]? = some q := by rw [List.getElem?_append_left hlt]; exact hq
    have hl := (hP k q g).lt
    refine ⟨hl, fun h => ?_⟩
    rcases h with ⟨j, e, h⟩ | h
    · have hj : j < 1 := (List.getElem?_eq_some_iff.mp h).1
      have e1 : j = 0 := by omega
      subst e1
      have e2 : x = (q.1, e) := Option.some.inj h
      have := hD.1 k wr.length q x g hx (by rw [e2])
      omega
    · omega
  refine kk u H1 locs1 hw (va_P.app (fun k q hq => ?_) (by rw [← ht]; exact hB.1)) (va_D.app ⟨fun i j a b hi hj hab => ?_, fun k q hq => ?_⟩ (hB.2.weaken (fun _ q _ h => hF q.1 h)) (fun i j a b hi hj hab => ?_)) hS1
  · have hlt : k < wr.length := (List.getElem?_eq_some_iff.mp hq).1
    exact (hP k q (by rw [List.getElem?_append_left hlt]; exact hq)).kept (hk q.1 (hap k q hq).1 (hap k q hq).2)
  · have h1 : i < wr.length := (List.getElem?_eq_some_iff.mp hi).1
    have h2 : j < wr.length := (List.getElem?_eq_some_iff.mp hj).1
    exact hD.1 i j a b (by rw [List.getElem?_append_left h1]; exact hi) (by rw [List.getElem?_append_left h2]; exact hj) hab
  · have h1 : k < wr.length := (List.getElem?_eq_some_iff.mp hq).1
    exact hD.2 k q (by rw [List.getElem?_append_left h1]; exact hq)
  · exact (hap i a hi).2 (by rw [hab]; exact hB.2.2 j b hj)
end RWN

set_option maxHeartbeats 4000000 in
set_option maxRecDepth 100000 in
theorem c_X0_init (l : Launch) (G : va_G) (ct : Nat → ClassId) (h0 : Nat) (sz : Nat)  : Met l yX0_init wsX0_init ({ frames := 1, cells := 1, slots := 8, locals := 60 }) (va_Pc [.ref h0] (nwP G ct [(h0, .inr (0, [.null, .int 0]))] sz)) (va_Qv (fun u : Nat → Nat => True) (fun u t => va_P G vwCl ((fun u : Nat → Nat => [(h0, .inr (0, [.ref (u 1), .int 0])), ((u 1), .inl (ct 0, 8, .inl (fun _ => 0)))]) u) t.heap ∧ va_D (va_A [(h0, .inr (0, [.null, .int 0]))] sz) ((fun u : Nat → Nat => [(h0, .inr (0, [.ref (u 1), .int 0])), ((u 1), .inl (ct 0, 8, .inl (fun _ => 0)))]) u)) (va_A [(h0, .inr (0, [.null, .int 0]))] sz)) 1 8 (va_A [(h0, .inr (0, [.null, .int 0]))] sz) := by
  refine Met.ofW (cc := cX0_init) (maxL := 1) (ret := none) (by decide) rfl ?_
  intro p e s m args below meth c s₁ B hml hv
  obtain ⟨rfl, hsz, hP, hK, hD0⟩ := hv
  have hx := B.exec
  have hb := B.bytes
  have hr := B.returns
  have hts := atoms_spec (ws := wsX0_init) B.pre
  have hown : s.vm.findClass RX0 = some m.cls := findClass_of_methodNamed B.named
  have hlocks := B.notSynchronized
  have hin : meth.name = "<init>" := (name_of_methodNamed B.named B.method).1
  subst hsz
  have hD := hD0.self (sz := s.heap.size)
  generalize hAe : va_A [(h0, .inr (0, [.null, .int 0]))] s.heap.size = A at hD ⊢
  have hA : ∀ q : Nat, s.heap.size ≤ q → A q := fun q h => by rw [← hAe]; exact Or.inr h
  have hS : va_S A s.heap s.heap [] := va_S.rf
  have hP : va_P G vwCl [(h0, .inr (0, [.null, .int 0]))] s.heap := hP
  have hl := lv_entry ([.ref h0]) (n := 1) (Nat.le_of_ble_eq_true rfl)
  rw [lg_entry_eq]
  generalize (lg_sl ([.ref h0]) ++ List.replicate (1 - (lg_sl ([.ref h0])).length) Slot.unset).toArray = ls at hl ⊢
  have hl : lv_has ls 1 [(0, .ref h0)] := hl
  refine lv_aload_n hx hb dX0_init_0 rfl (lv_at hl 0 rfl) ?_
  refine W.objInit hx hb hown (hts (.methodLink RX0 3 objectInit) (by decide +kernel)) (hts (.instanceMethod objectInit) (by decide +kernel)) (hts (.code objectInit ⟨#[0xb1]⟩ 1 none) (List.mem_of_getElem? (i := 3) rfl)) rfl (hl.1.trans hml.symm) rfl dX0_init_1 (Nat.le_of_ble_eq_true rfl) (Nat.le_of_ble_eq_true rfl) ?_
  show W p l e _ s m _ below meth c _ _ _ _ _ (F0 m 4 ls [])
  refine lv_aload_n hx hb dX0_init_4 rfl (lv_at hl 0 rfl) ?_
  refine lv_bipush (v := 8) hx hb dX0_init_5 (by decide) ?_
  refine va_newa (D := G) (atype := .int) (ty := .int) (a0 := (8, .inl (fun _ => 0))) (N' := 8) hx hb (hts (.arrayClass .int) (by decide +kernel)) rfl hK.1 hP hD hS hA (fun _ => rfl) (by decide) (by decide) (by decide +kernel) (Nat.le_of_ble_eq_true rfl) (Nat.le_of_ble_eq_true rfl) dX0_init_7 (fun q_1 cA H hK2 hP hD hS => ?_)
  obtain rfl := ty_one hK2 (i := 6) (j := 0) rfl rfl
  refine W.widen (k := 1) (n := 8) (Nat.le_of_ble_eq_true rfl) (Nat.le_of_ble_eq_true rfl) ?_
  refine va_putF (D := G) (ci := 0) (v := .ref q_1) (ty := .array .int) (C := RX0) (T := TX0) (N := 2) hx hb hts (by decide +kernel) tyX0 tyX0_ok nmX0 hown hK.1 hP hD hS 0 rfl rfl 0 (by decide) (hts (.fieldLink RX0 9 "CardHolder$Bonds" "holders" "[I") (by decide +kernel)) (fun _ h9 => h9) rfl hin rfl (by decide +kernel) rfl rfl (Nat.le_of_ble_eq_true rfl) dX0_init_9 (fun H locs hP hD hS => ?_)
  have hP : va_P G vwCl [(h0, .inr (0, [.ref q_1, .int 0])), (q_1, .inl (ct 0, 8, .inl (fun _ => 0)))] H := hP
  have hD : va_D A [(h0, .inr (0, [.ref q_1, .int 0])), (q_1, .inl (ct 0, 8, .inl (fun _ => 0)))] := hD
  refine W.widen (k := 1) (n := 8) (Nat.le_of_ble_eq_true rfl) (Nat.le_of_ble_eq_true rfl) ?_
  exact W.vret hx hb hr (fun t ht hW => ⟨⟨(fun k => ([h0, q_1] : List Nat).getD k 0), rfl, trivial, hp_at ht hP, hD⟩, hS.F ht⟩) hS.2.2 dX0_init_12

set_option maxHeartbeats 4000000 in
set_option maxRecDepth 100000 in
theorem c_X9_init (l : Launch) (G : va_G) (ct : Nat → ClassId) (h0 : Nat) (sz : Nat)  : Met l yX9_init wsX9_init ({ frames := 2, cells := 6, slots := 42, locals := 80 }) (va_Pc [.ref h0] (nwP G ct [(h0, .inr (9, [.null, .null, .null, .null, .null, .int 0, .int 0]))] sz)) (va_Qv (fun u : Nat → Nat => True) (fun u t => va_P G vwCl ((fun u : Nat → Nat => [(h0, .inr (9, [.ref (u 1), .ref (u 3), .ref (u 4), .ref (u 5), .ref (u 6), .int 0, .int 0])), ((u 1), .inr (0, [.ref (u 2), .int 0])), ((u 2), .inl (ct 0, 8, .inl (fun _ => 0))), ((u 3), .inl (ct 0, 8, .inl (fun _ => 0))), ((u 4), .inl (ct 0, 8, .inl (fun _ => 0))), ((u 5), .inl (ct 0, 8, .inl (fun _ => 0))), ((u 6), .inl (ct 0, 8, .inl (fun _ => 0)))]) u) t.heap ∧ va_D (va_A [(h0, .inr (9, [.null, .null, .null, .null, .null, .int 0, .int 0]))] sz) ((fun u : Nat → Nat => [(h0, .inr (9, [.ref (u 1), .ref (u 3), .ref (u 4), .ref (u 5), .ref (u 6), .int 0, .int 0])), ((u 1), .inr (0, [.ref (u 2), .int 0])), ((u 2), .inl (ct 0, 8, .inl (fun _ => 0))), ((u 3), .inl (ct 0, 8, .inl (fun _ => 0))), ((u 4), .inl (ct 0, 8, .inl (fun _ => 0))), ((u 5), .inl (ct 0, 8, .inl (fun _ => 0))), ((u 6), .inl (ct 0, 8, .inl (fun _ => 0)))]) u)) (va_A [(h0, .inr (9, [.null, .null, .null, .null, .null, .int 0, .int 0]))] sz)) 6 42 (va_A [(h0, .inr (9, [.null, .null, .null, .null, .null, .int 0, .int 0]))] sz) := by
  refine Met.ofW (cc := cX9_init) (maxL := 1) (ret := none) (by decide) rfl ?_
  intro p e s m args below meth c s₁ B hml hv
  obtain ⟨rfl, hsz, hP, hK, hD0⟩ := hv
  have hx := B.exec
  have hb := B.bytes
  have hr := B.returns
  have hts := atoms_spec (ws := wsX9_init) B.pre
  have hown : s.vm.findClass RX9 = some m.cls := findClass_of_methodNamed B.named
  have hlocks := B.notSynchronized
  have hin : meth.name = "<init>" := (name_of_methodNamed B.named B.method).1
  subst hsz
  have hD := hD0.self (sz := s.heap.size)
  generalize hAe : va_A [(h0, .inr (9, [.null, .null, .null, .null, .null, .int 0, .int 0]))] s.heap.size = A at hD ⊢
  have hA : ∀ q : Nat, s.heap.size ≤ q → A q := fun q h => by rw [← hAe]; exact Or.inr h
  have hS : va_S A s.heap s.heap [] := va_S.rf
  have hP : va_P G vwCl [(h0, .inr (9, [.null, .null, .null, .null, .null, .int 0, .int 0]))] s.heap := hP
  have hl := lv_entry ([.ref h0]) (n := 1) (Nat.le_of_ble_eq_true rfl)
  rw [lg_entry_eq]
  generalize (lg_sl ([.ref h0]) ++ List.replicate (1 - (lg_sl ([.ref h0])).length) Slot.unset).toArray = ls at hl ⊢
  have hl : lv_has ls 1 [(0, .ref h0)] := hl
  refine lv_aload_n hx hb dX9_init_0 rfl (lv_at hl 0 rfl) ?_
  refine W.objInit hx hb hown (hts (.methodLink RX9 3 objectInit) (by decide +kernel)) (hts (.instanceMethod objectInit) (by decide +kernel)) (hts (.code objectInit ⟨#[0xb1]⟩ 1 none) (List.mem_of_getElem? (i := 3) rfl)) rfl (hl.1.trans hml.symm) rfl dX9_init_1 (Nat.le_of_ble_eq_true rfl) (Nat.le_of_ble_eq_true rfl) ?_
  show W p l e _ s m _ below meth c _ _ _ _ _ (F0 m 4 ls [])
  refine lv_aload_n hx hb dX9_init_4 rfl (lv_at hl 0 rfl) ?_
  refine va_new (D := G) (ci := 0) (fs := [.null, .int 0]) (C := RX0) (T := TX0) (N := 2) hx hb hts (by decide +kernel) tyX0 tyX0_ok hown (hts (.classLink RX9 9 RX0) (by decide +kernel)) (hts (.instantiable RX0 2) (by decide +kernel)) (hts (.initialized RX0) (by decide +kernel)) hK.1 hP hD hS hA rfl (fun j hj => by rcases (show j = 0 ∨ j = 1 by omega) with rfl | rfl <;> rfl) (Nat.le_of_ble_eq_true rfl) (Nat.le_of_ble_eq_true rfl) dX9_init_5 (fun q_1 H hP hD hS => ?_)
  refine W.widen (k := 1) (n := 2) (Nat.le_of_ble_eq_true rfl) (Nat.le_of_ble_eq_true rfl) ?_
  refine lv_dup hx hb dX9_init_8 rfl ?_
  refine nl_callv (w1 := (fun u : Nat → Nat => [(q_1, .inr (0, [.ref (u 1), .int 0])), ((u 1), .inl (ct 0, 8, .inl (fun _ => 0)))])) (va_runIN (As := []) (rest := [.ref q_1, .ref h0]) ⟨hx, hb, hml, hown, hts⟩ (c_X0_init l G ct q_1 H.size) ⟨va_cnB 0 hts gX9_init_X0_init_n11 rfl rfl rfl (hK.2.1 (RX9, 11, yX0_init, "CardHolder") (by decide +kernel)) (hts (.initialized RX0) (by decide +kernel)) (by decide +kernel) ⟨Nat.le_of_ble_eq_true rfl, Nat.le_of_ble_eq_true rfl⟩, rfl, hts (.instanceMethod yX0_init) (by decide +kernel)⟩ (nw_pre hK hP.last hD.last) rfl rfl hl.1 rfl (lv_room (Nat.le_of_ble_eq_true rfl)) dX9_init_9 ⟨Nat.le_of_ble_eq_true rfl, Nat.le_of_ble_eq_true rfl⟩) hS hA hP hD (fun u_2 H locs _ hP hD hS => ?_)
  refine W.widen (k := 2) (n := 10) (Nat.le_of_ble_eq_true rfl) (Nat.le_of_ble_eq_true rfl) ?_
  have hP : va_P G vwCl [(h0, .inr (9, [.null, .null, .null, .null, .null, .int 0, .int 0])), (q_1, .inr (0, [.ref (u_2 1), .int 0])), ((u_2 1), .inl (ct 0, 8, .inl (fun _ => 0)))] H := hP
  have hD : va_D A [(h0, .inr (9, [.null, .null, .null, .null, .null, .int 0, .int 0])), (q_1, .inr (0, [.ref (u_2 1), .int 0])), ((u_2 1), .inl (ct 0, 8, .inl (fun _ => 0)))] := hD
  refine va_putF (D := G) (ci := 9) (v := .ref q_1) (ty := .object "CardHolder$Bonds") (C := RX9) (T := TX9) (N := 7) hx hb hts (by decide +kernel) tyX9 tyX9_ok nmX9 hown hK.1 hP hD hS 0 rfl rfl 0 (by decide) (hts (.fieldLink RX9 12 "CardHolder$Town" "bonds" "LCardHolder$Bonds;") (by decide +kernel)) (fun _ h9 => h9) rfl hin rfl (by decide +kernel) rfl rfl (Nat.le_of_ble_eq_true rfl) dX9_init_12 (fun H locs hP hD hS => ?_)
  have hP : va_P G vwCl [(h0, .inr (9, [.ref q_1, .null, .null, .null, .null, .int 0, .int 0])), (q_1, .inr (0, [.ref (u_2 1), .int 0])), ((u_2 1), .inl (ct 0, 8, .inl (fun _ => 0)))] H := hP
  have hD : va_D A [(h0, .inr (9, [.ref q_1, .null, .null, .null, .null, .int 0, .int 0])), (q_1, .inr (0, [.ref (u_2 1), .int 0])), ((u_2 1), .inl (ct 0, 8, .inl (fun _ => 0)))] := hD
  refine lv_aload_n hx hb dX9_init_15 rfl (lv_at hl 0 rfl) ?_
  refine lv_bipush (v := 8) hx hb dX9_init_16 (by decide) ?_
  refine va_newa (D := G) (atype := .int) (ty := .int) (a0 := (8, .inl (fun _ => 0))) (N' := 8) hx hb (hts (.arrayClass .int) (by decide +kernel)) rfl hK.1 hP hD hS hA (fun _ => rfl) (by decide) (by decide) (by decide +kernel) (Nat.le_of_ble_eq_true rfl) (Nat.le_of_ble_eq_true rfl) dX9_init_18 (fun q_3 cA H hK2 hP hD hS => ?_)
  obtain rfl := ty_one hK2 (i := 6) (j := 0) rfl rfl
  refine W.widen (k := 3) (n := 18) (Nat.le_of_ble_eq_true rfl) (Nat.le_of_ble_eq_true rfl) ?_
  refine va_putF (D := G) (ci := 9) (v := .ref q_3) (ty := .array .int) (C := RX9) (T := TX9) (N := 7) hx hb hts (by decide +kernel) tyX9 tyX9_ok nmX9 hown hK.1 hP hD hS 0 rfl rfl 1 (by decide) (hts (.fieldLink RX9 18 "CardHolder$Town" "worths" "[I") (by decide +kernel)) (fun _ h9 => h9) rfl hin rfl (by decide +kernel) rfl rfl (Nat.le_of_ble_eq_true rfl) dX9_init_20 (fun H locs hP hD hS => ?_)
  have hP : va_P G vwCl [(h0, .inr (9, [.ref q_1, .ref q_3, .null, .null, .null, .int 0, .int 0])), (q_1, .inr (0, [.ref (u_2 1), .int 0])), ((u_2 1), .inl (ct 0, 8, .inl (fun _ => 0))), (q_3, .inl (ct 0, 8, .inl (fun _ => 0)))] H := hP
  have hD : va_D A [(h0, .inr (9, [.ref q_1, .ref q_3, .null, .null, .null, .int 0, .int 0])), (q_1, .inr (0, [.ref (u_2 1), .int 0])), ((u_2 1), .inl (ct 0, 8, .inl (fun _ => 0))), (q_3, .inl (ct 0, 8, .inl (fun _ => 0)))] := hD
  refine lv_aload_n hx hb dX9_init_23 rfl (lv_at hl 0 rfl) ?_
  refine lv_bipush (v := 8) hx hb dX9_init_24 (by decide) ?_
  refine va_newa (D := G) (atype := .int) (ty := .int) (a0 := (8, .inl (fun _ => 0))) (N' := 8) hx hb (hts (.arrayClass .int) (by decide +kernel)) rfl hK.1 hP hD hS hA (fun _ => rfl) (by decide) (by decide) (by decide +kernel) (Nat.le_of_ble_eq_true rfl) (Nat.le_of_ble_eq_true rfl) dX9_init_26 (fun q_4 cA H hK2 hP hD hS => ?_)
  obtain rfl := ty_one hK2 (i := 6) (j := 0) rfl rfl
  refine W.widen (k := 4) (n := 26) (Nat.le_of_ble_eq_true rfl) (Nat.le_of_ble_eq_true rfl) ?_
  refine va_putF (D := G) (ci := 9) (v := .ref q_4) (ty := .array .int) (C := RX9) (T := TX9) (N := 7) hx hb hts (by decide +kernel) tyX9 tyX9_ok nmX9 hown hK.1 hP hD hS 0 rfl rfl 2 (by decide) (hts (.fieldLink RX9 22 "CardHolder$Town" "does" "[I") (by decide +kernel)) (fun _ h9 => h9) rfl hin rfl (by decide +kernel) rfl rfl (Nat.le_of_ble_eq_true rfl) dX9_init_28 (fun H locs hP hD hS => ?_)
  have hP : va_P G vwCl [(h0, .inr (9, [.ref q_1, .ref q_3, .ref q_4, .null, .null, .int 0, .int 0])), (q_1, .inr (0, [.ref (u_2 1), .int 0])), ((u_2 1), .inl (ct 0, 8, .inl (fun _ => 0))), (q_3, .inl (ct 0, 8, .inl (fun _ => 0))), (q_4, .inl (ct 0, 8, .inl (fun _ => 0)))] H := hP
  have hD : va_D A [(h0, .inr (9, [.ref q_1, .ref q_3, .ref q_4, .null, .null, .int 0, .int 0])), (q_1, .inr (0, [.ref (u_2 1), .int 0])), ((u_2 1), .inl (ct 0, 8, .inl (fun _ => 0))), (q_3, .inl (ct 0, 8, .inl (fun _ => 0))), (q_4, .inl (ct 0, 8, .inl (fun _ => 0)))] := hD
  refine lv_aload_n hx hb dX9_init_31 rfl (lv_at hl 0 rfl) ?_
  refine lv_bipush (v := 8) hx hb dX9_init_32 (by decide) ?_
  refine va_newa (D := G) (atype := .int) (ty := .int) (a0 := (8, .inl (fun _ => 0))) (N' := 8) hx hb (hts (.arrayClass .int) (by decide +kernel)) rfl hK.1 hP hD hS hA (fun _ => rfl) (by decide) (by decide) (by decide +kernel) (Nat.le_of_ble_eq_true rfl) (Nat.le_of_ble_eq_true rfl) dX9_init_34 (fun q_5 cA H hK2 hP hD hS => ?_)
  obtain rfl := ty_one hK2 (i := 6) (j := 0) rfl rfl
  refine W.widen (k := 5) (n := 34) (Nat.le_of_ble_eq_true rfl) (Nat.le_of_ble_eq_true rfl) ?_
  refine va_putF (D := G) (ci := 9) (v := .ref q_5) (ty := .array .int) (C := RX9) (T := TX9) (N := 7) hx hb hts (by decide +kernel) tyX9 tyX9_ok nmX9 hown hK.1 hP hD hS 0 rfl rfl 3 (by decide) (hts (.fieldLink RX9 25 "CardHolder$Town" "wishes" "[I") (by decide +kernel)) (fun _ h9 => h9) rfl hin rfl (by decide +kernel) rfl rfl (Nat.le_of_ble_eq_true rfl) dX9_init_36 (fun H locs hP hD hS => ?_)
  have hP : va_P G vwCl [(h0, .inr (9, [.ref q_1, .ref q_3, .ref q_4, .ref q_5, .null, .int 0, .int 0])), (q_1, .inr (0, [.ref (u_2 1), .int 0])), ((u_2 1), .inl (ct 0, 8, .inl (fun _ => 0))), (q_3, .inl (ct 0, 8, .inl (fun _ => 0))), (q_4, .inl (ct 0, 8, .inl (fun _ => 0))), (q_5, .inl (ct 0, 8, .inl (fun _ => 0)))] H := hP
  have hD : va_D A [(h0, .inr (9, [.ref q_1, .ref q_3, .ref q_4, .ref q_5, .null, .int 0, .int 0])), (q_1, .inr (0, [.ref (u_2 1), .int 0])), ((u_2 1), .inl (ct 0, 8, .inl (fun _ => 0))), (q_3, .inl (ct 0, 8, .inl (fun _ => 0))), (q_4, .inl (ct 0, 8, .inl (fun _ => 0))), (q_5, .inl (ct 0, 8, .inl (fun _ => 0)))] := hD
  refine lv_aload_n hx hb dX9_init_39 rfl (lv_at hl 0 rfl) ?_
  refine lv_bipush (v := 8) hx hb dX9_init_40 (by decide) ?_
  refine va_newa (D := G) (atype := .int) (ty := .int) (a0 := (8, .inl (fun _ => 0))) (N' := 8) hx hb (hts (.arrayClass .int) (by decide +kernel)) rfl hK.1 hP hD hS hA (fun _ => rfl) (by decide) (by decide) (by decide +kernel) (Nat.le_of_ble_eq_true rfl) (Nat.le_of_ble_eq_true rfl) dX9_init_42 (fun q_6 cA H hK2 hP hD hS => ?_)
  obtain rfl := ty_one hK2 (i := 6) (j := 0) rfl rfl
  refine W.widen (k := 6) (n := 42) (Nat.le_of_ble_eq_true rfl) (Nat.le_of_ble_eq_true rfl) ?_
  refine va_putF (D := G) (ci := 9) (v := .ref q_6) (ty := .array .int) (C := RX9) (T := TX9) (N := 7) hx hb hts (by decide +kernel) tyX9 tyX9_ok nmX9 hown hK.1 hP hD hS 0 rfl rfl 4 (by decide) (hts (.fieldLink RX9 28 "CardHolder$Town" "forged" "[I") (by decide +kernel)) (fun _ h9 => h9) rfl hin rfl (by decide +kernel) rfl rfl (Nat.le_of_ble_eq_true rfl) dX9_init_44 (fun H locs hP hD hS => ?_)
  have hP : va_P G vwCl [(h0, .inr (9, [.ref q_1, .ref q_3, .ref q_4, .ref q_5, .ref q_6, .int 0, .int 0])), (q_1, .inr (0, [.ref (u_2 1), .int 0])), ((u_2 1), .inl (ct 0, 8, .inl (fun _ => 0))), (q_3, .inl (ct 0, 8, .inl (fun _ => 0))), (q_4, .inl (ct 0, 8, .inl (fun _ => 0))), (q_5, .inl (ct 0, 8, .inl (fun _ => 0))), (q_6, .inl (ct 0, 8, .inl (fun _ => 0)))] H := hP
  have hD : va_D A [(h0, .inr (9, [.ref q_1, .ref q_3, .ref q_4, .ref q_5, .ref q_6, .int 0, .int 0])), (q_1, .inr (0, [.ref (u_2 1), .int 0])), ((u_2 1), .inl (ct 0, 8, .inl (fun _ => 0))), (q_3, .inl (ct 0, 8, .inl (fun _ => 0))), (q_4, .inl (ct 0, 8, .inl (fun _ => 0))), (q_5, .inl (ct 0, 8, .inl (fun _ => 0))), (q_6, .inl (ct 0, 8, .inl (fun _ => 0)))] := hD
  refine W.widen (k := 6) (n := 42) (Nat.le_of_ble_eq_true rfl) (Nat.le_of_ble_eq_true rfl) ?_
  exact W.vret hx hb hr (fun t ht hW => ⟨⟨(fun k => ([h0, q_1, (u_2 1), q_3, q_4, q_5, q_6] : List Nat).getD k 0), rfl, trivial, hp_at ht hP, hD⟩, hS.F ht⟩) hS.2.2 dX9_init_47

set_option maxHeartbeats 4000000 in
set_option maxRecDepth 100000 in
theorem c_X8_init (l : Launch) (G : va_G) (ct : Nat → ClassId) (h0 : Nat) (sz : Nat)  : Met l yX8_init wsX8_init ({ frames := 1, cells := 1, slots := 900, locals := 60 }) (va_Pc [.ref h0] (nwP G ct [(h0, .inr (8, [.null, .int 0]))] sz)) (va_Qv (fun u : Nat → Nat => True) (fun u t => va_P G vwCl ((fun u : Nat → Nat => [(h0, .inr (8, [.ref (u 1), .int 0])), ((u 1), .inl (ct 1, 900, .inl (fun _ => 0)))]) u) t.heap ∧ va_D (va_A [(h0, .inr (8, [.null, .int 0]))] sz) ((fun u : Nat → Nat => [(h0, .inr (8, [.ref (u 1), .int 0])), ((u 1), .inl (ct 1, 900, .inl (fun _ => 0)))]) u)) (va_A [(h0, .inr (8, [.null, .int 0]))] sz)) 1 900 (va_A [(h0, .inr (8, [.null, .int 0]))] sz) := by
  refine Met.ofW (cc := cX8_init) (maxL := 1) (ret := none) (by decide) rfl ?_
  intro p e s m args below meth c s₁ B hml hv
  obtain ⟨rfl, hsz, hP, hK, hD0⟩ := hv
  have hx := B.exec
  have hb := B.bytes
  have hr := B.returns
  have hts := atoms_spec (ws := wsX8_init) B.pre
  have hown : s.vm.findClass RX8 = some m.cls := findClass_of_methodNamed B.named
  have hlocks := B.notSynchronized
  have hin : meth.name = "<init>" := (name_of_methodNamed B.named B.method).1
  subst hsz
  have hD := hD0.self (sz := s.heap.size)
  generalize hAe : va_A [(h0, .inr (8, [.null, .int 0]))] s.heap.size = A at hD ⊢
  have hA : ∀ q : Nat, s.heap.size ≤ q → A q := fun q h => by rw [← hAe]; exact Or.inr h
  have hS : va_S A s.heap s.heap [] := va_S.rf
  have hP : va_P G vwCl [(h0, .inr (8, [.null, .int 0]))] s.heap := hP
  have hl := lv_entry ([.ref h0]) (n := 1) (Nat.le_of_ble_eq_true rfl)
  rw [lg_entry_eq]
  generalize (lg_sl ([.ref h0]) ++ List.replicate (1 - (lg_sl ([.ref h0])).length) Slot.unset).toArray = ls at hl ⊢
  have hl : lv_has ls 1 [(0, .ref h0)] := hl
  refine lv_aload_n hx hb dX8_init_0 rfl (lv_at hl 0 rfl) ?_
  refine W.objInit hx hb hown (hts (.methodLink RX8 3 objectInit) (by decide +kernel)) (hts (.instanceMethod objectInit) (by decide +kernel)) (hts (.code objectInit ⟨#[0xb1]⟩ 1 none) (List.mem_of_getElem? (i := 3) rfl)) rfl (hl.1.trans hml.symm) rfl dX8_init_1 (Nat.le_of_ble_eq_true rfl) (Nat.le_of_ble_eq_true rfl) ?_
  show W p l e _ s m _ below meth c _ _ _ _ _ (F0 m 4 ls [])
  refine lv_aload_n hx hb dX8_init_4 rfl (lv_at hl 0 rfl) ?_
  refine lv_sipush (v := 900) hx hb dX8_init_5 (by decide) ?_
  refine va_newa (D := G) (atype := .byte) (ty := .byte) (a0 := (900, .inl (fun _ => 0))) (N' := 900) hx hb (hts (.arrayClass .byte) (by decide +kernel)) rfl hK.1 hP hD hS hA (fun _ => rfl) (by decide) (by decide) (by decide +kernel) (Nat.le_of_ble_eq_true rfl) (Nat.le_of_ble_eq_true rfl) dX8_init_8 (fun q_1 cA H hK2 hP hD hS => ?_)
  obtain rfl := ty_one hK2 (i := 6) (j := 1) rfl rfl
  refine W.widen (k := 1) (n := 900) (Nat.le_of_ble_eq_true rfl) (Nat.le_of_ble_eq_true rfl) ?_
  refine va_putF (D := G) (ci := 8) (v := .ref q_1) (ty := .array .byte) (C := RX8) (T := TX8) (N := 2) hx hb hts (by decide +kernel) tyX8 tyX8_ok nmX8 hown hK.1 hP hD hS 0 rfl rfl 0 (by decide) (hts (.fieldLink RX8 9 "CardHolder$Tape" "bytes" "[B") (by decide +kernel)) (fun _ h9 => h9) rfl hin rfl (by decide +kernel) rfl rfl (Nat.le_of_ble_eq_true rfl) dX8_init_10 (fun H locs hP hD hS => ?_)
  have hP : va_P G vwCl [(h0, .inr (8, [.ref q_1, .int 0])), (q_1, .inl (ct 1, 900, .inl (fun _ => 0)))] H := hP
  have hD : va_D A [(h0, .inr (8, [.ref q_1, .int 0])), (q_1, .inl (ct 1, 900, .inl (fun _ => 0)))] := hD
  refine W.widen (k := 1) (n := 900) (Nat.le_of_ble_eq_true rfl) (Nat.le_of_ble_eq_true rfl) ?_
  exact W.vret hx hb hr (fun t ht hW => ⟨⟨(fun k => ([h0, q_1] : List Nat).getD k 0), rfl, trivial, hp_at ht hP, hD⟩, hS.F ht⟩) hS.2.2 dX8_init_13

set_option maxHeartbeats 4000000 in
set_option maxRecDepth 100000 in
theorem c_X2_init (l : Launch) (G : va_G) (ct : Nat → ClassId) (h0 : Nat) (t9 : Nat) (sz : Nat)  : Met l yX2_init wsX2_init ({ frames := 2, cells := 4, slots := 26, locals := 80 }) (va_Pc [.ref h0, .ref t9] (nwP G ct [(h0, .inr (2, [.null, .null, .null, .null, .int 0, .int 0, .int 0, .int 0]))] sz)) (va_Qv (fun u : Nat → Nat => True) (fun u t => va_P G vwCl ((fun u : Nat → Nat => [(h0, .inr (2, [.ref t9, .ref (u 1), .ref (u 3), .ref (u 4), .int 0, .int 0, .int 0, .int 0])), ((u 1), .inr (0, [.ref (u 2), .int 0])), ((u 2), .inl (ct 0, 8, .inl (fun _ => 0))), ((u 3), .inl (ct 0, 8, .inl (fun _ => 0))), ((u 4), .inl (ct 0, 8, .inl (fun _ => 0)))]) u) t.heap ∧ va_D (va_A [(h0, .inr (2, [.null, .null, .null, .null, .int 0, .int 0, .int 0, .int 0]))] sz) ((fun u : Nat → Nat => [(h0, .inr (2, [.ref t9, .ref (u 1), .ref (u 3), .ref (u 4), .int 0, .int 0, .int 0, .int 0])), ((u 1), .inr (0, [.ref (u 2), .int 0])), ((u 2), .inl (ct 0, 8, .inl (fun _ => 0))), ((u 3), .inl (ct 0, 8, .inl (fun _ => 0))), ((u 4), .inl (ct 0, 8, .inl (fun _ => 0)))]) u)) (va_A [(h0, .inr (2, [.null, .null, .null, .null, .int 0, .int 0, .int 0, .int 0]))] sz)) 4 26 (va_A [(h0, .inr (2, [.null, .null, .null, .null, .int 0, .int 0, .int 0, .int 0]))] sz) := by
  refine Met.ofW (cc := cX2_init) (maxL := 2) (ret := none) (by decide) rfl ?_
  intro p e s m args below meth c s₁ B hml hv
  obtain ⟨rfl, hsz, hP, hK, hD0⟩ := hv
  have hx := B.exec
  have hb := B.bytes
  have hr := B.returns
  have hts := atoms_spec (ws := wsX2_init) B.pre
  have hown : s.vm.findClass RX2 = some m.cls := findClass_of_methodNamed B.named
  have hlocks := B.notSynchronized
  have hin : meth.name = "<init>" := (name_of_methodNamed B.named B.method).1
  subst hsz
  have hD := hD0.self (sz := s.heap.size)
  generalize hAe : va_A [(h0, .inr (2, [.null, .null, .null, .null, .int 0, .int 0, .int 0, .int 0]))] s.heap.size = A at hD ⊢
  have hA : ∀ q : Nat, s.heap.size ≤ q → A q := fun q h => by rw [← hAe]; exact Or.inr h
  have hS : va_S A s.heap s.heap [] := va_S.rf
  have hP : va_P G vwCl [(h0, .inr (2, [.null, .null, .null, .null, .int 0, .int 0, .int 0, .int 0]))] s.heap := hP
  have hl := lv_entry ([.ref h0, .ref t9]) (n := 2) (Nat.le_of_ble_eq_true rfl)
  rw [lg_entry_eq]
  generalize (lg_sl ([.ref h0, .ref t9]) ++ List.replicate (2 - (lg_sl ([.ref h0, .ref t9])).length) Slot.unset).toArray = ls at hl ⊢
  have hl : lv_has ls 2 [(0, .ref h0), (1, .ref t9)] := hl
  refine lv_aload_n hx hb dX2_init_0 rfl (lv_at hl 0 rfl) ?_
  refine W.objInit hx hb hown (hts (.methodLink RX2 3 objectInit) (by decide +kernel)) (hts (.instanceMethod objectInit) (by decide +kernel)) (hts (.code objectInit ⟨#[0xb1]⟩ 1 none) (List.mem_of_getElem? (i := 3) rfl)) rfl (hl.1.trans hml.symm) rfl dX2_init_1 (Nat.le_of_ble_eq_true rfl) (Nat.le_of_ble_eq_true rfl) ?_
  show W p l e _ s m _ below meth c _ _ _ _ _ (F0 m 4 ls [])
  refine lv_aload_n hx hb dX2_init_4 rfl (lv_at hl 0 rfl) ?_
  refine va_new (D := G) (ci := 0) (fs := [.null, .int 0]) (C := RX0) (T := TX0) (N := 2) hx hb hts (by decide +kernel) tyX0 tyX0_ok hown (hts (.classLink RX2 9 RX0) (by decide +kernel)) (hts (.instantiable RX0 2) (by decide +kernel)) (hts (.initialized RX0) (by decide +kernel)) hK.1 hP hD hS hA rfl (fun j hj => by rcases (show j = 0 ∨ j = 1 by omega) with rfl | rfl <;> rfl) (Nat.le_of_ble_eq_true rfl) (Nat.le_of_ble_eq_true rfl) dX2_init_5 (fun q_1 H hP hD hS => ?_)
  refine W.widen (k := 1) (n := 2) (Nat.le_of_ble_eq_true rfl) (Nat.le_of_ble_eq_true rfl) ?_
  refine lv_dup hx hb dX2_init_8 rfl ?_
  refine nl_callv (w1 := (fun u : Nat → Nat => [(q_1, .inr (0, [.ref (u 1), .int 0])), ((u 1), .inl (ct 0, 8, .inl (fun _ => 0)))])) (va_runIN (As := []) (rest := [.ref q_1, .ref h0]) ⟨hx, hb, hml, hown, hts⟩ (c_X0_init l G ct q_1 H.size) ⟨va_cnB 0 hts gX2_init_X0_init_n11 rfl rfl rfl (hK.2.1 (RX2, 11, yX0_init, "CardHolder") (by decide +kernel)) (hts (.initialized RX0) (by decide +kernel)) (by decide +kernel) ⟨Nat.le_of_ble_eq_true rfl, Nat.le_of_ble_eq_true rfl⟩, rfl, hts (.instanceMethod yX0_init) (by decide +kernel)⟩ (nw_pre hK hP.last hD.last) rfl rfl hl.1 rfl (lv_room (Nat.le_of_ble_eq_true rfl)) dX2_init_9 ⟨Nat.le_of_ble_eq_true rfl, Nat.le_of_ble_eq_true rfl⟩) hS hA hP hD (fun u_2 H locs _ hP hD hS => ?_)
  refine W.widen (k := 2) (n := 10) (Nat.le_of_ble_eq_true rfl) (Nat.le_of_ble_eq_true rfl) ?_
  have hP : va_P G vwCl [(h0, .inr (2, [.null, .null, .null, .null, .int 0, .int 0, .int 0, .int 0])), (q_1, .inr (0, [.ref (u_2 1), .int 0])), ((u_2 1), .inl (ct 0, 8, .inl (fun _ => 0)))] H := hP
  have hD : va_D A [(h0, .inr (2, [.null, .null, .null, .null, .int 0, .int 0, .int 0, .int 0])), (q_1, .inr (0, [.ref (u_2 1), .int 0])), ((u_2 1), .inl (ct 0, 8, .inl (fun _ => 0)))] := hD
  refine va_putF (D := G) (ci := 2) (v := .ref q_1) (ty := .object "CardHolder$Bonds") (C := RX2) (T := TX2) (N := 8) hx hb hts (by decide +kernel) tyX2 tyX2_ok nmX2 hown hK.1 hP hD hS 0 rfl rfl 1 (by decide) (hts (.fieldLink RX2 12 "CardHolder$Hands" "bonds" "LCardHolder$Bonds;") (by decide +kernel)) (fun _ h9 => h9) rfl hin rfl (by decide +kernel) rfl rfl (Nat.le_of_ble_eq_true rfl) dX2_init_12 (fun H locs hP hD hS => ?_)
  have hP : va_P G vwCl [(h0, .inr (2, [.null, .ref q_1, .null, .null, .int 0, .int 0, .int 0, .int 0])), (q_1, .inr (0, [.ref (u_2 1), .int 0])), ((u_2 1), .inl (ct 0, 8, .inl (fun _ => 0)))] H := hP
  have hD : va_D A [(h0, .inr (2, [.null, .ref q_1, .null, .null, .int 0, .int 0, .int 0, .int 0])), (q_1, .inr (0, [.ref (u_2 1), .int 0])), ((u_2 1), .inl (ct 0, 8, .inl (fun _ => 0)))] := hD
  refine lv_aload_n hx hb dX2_init_15 rfl (lv_at hl 0 rfl) ?_
  refine lv_bipush (v := 8) hx hb dX2_init_16 (by decide) ?_
  refine va_newa (D := G) (atype := .int) (ty := .int) (a0 := (8, .inl (fun _ => 0))) (N' := 8) hx hb (hts (.arrayClass .int) (by decide +kernel)) rfl hK.1 hP hD hS hA (fun _ => rfl) (by decide) (by decide) (by decide +kernel) (Nat.le_of_ble_eq_true rfl) (Nat.le_of_ble_eq_true rfl) dX2_init_18 (fun q_3 cA H hK2 hP hD hS => ?_)
  obtain rfl := ty_one hK2 (i := 6) (j := 0) rfl rfl
  refine W.widen (k := 3) (n := 18) (Nat.le_of_ble_eq_true rfl) (Nat.le_of_ble_eq_true rfl) ?_
  refine va_putF (D := G) (ci := 2) (v := .ref q_3) (ty := .array .int) (C := RX2) (T := TX2) (N := 8) hx hb hts (by decide +kernel) tyX2 tyX2_ok nmX2 hown hK.1 hP hD hS 0 rfl rfl 2 (by decide) (hts (.fieldLink RX2 18 "CardHolder$Hands" "worn" "[I") (by decide +kernel)) (fun _ h9 => h9) rfl hin rfl (by decide +kernel) rfl rfl (Nat.le_of_ble_eq_true rfl) dX2_init_20 (fun H locs hP hD hS => ?_)
  have hP : va_P G vwCl [(h0, .inr (2, [.null, .ref q_1, .ref q_3, .null, .int 0, .int 0, .int 0, .int 0])), (q_1, .inr (0, [.ref (u_2 1), .int 0])), ((u_2 1), .inl (ct 0, 8, .inl (fun _ => 0))), (q_3, .inl (ct 0, 8, .inl (fun _ => 0)))] H := hP
  have hD : va_D A [(h0, .inr (2, [.null, .ref q_1, .ref q_3, .null, .int 0, .int 0, .int 0, .int 0])), (q_1, .inr (0, [.ref (u_2 1), .int 0])), ((u_2 1), .inl (ct 0, 8, .inl (fun _ => 0))), (q_3, .inl (ct 0, 8, .inl (fun _ => 0)))] := hD
  refine lv_aload_n hx hb dX2_init_23 rfl (lv_at hl 0 rfl) ?_
  refine lv_bipush (v := 8) hx hb dX2_init_24 (by decide) ?_
  refine va_newa (D := G) (atype := .int) (ty := .int) (a0 := (8, .inl (fun _ => 0))) (N' := 8) hx hb (hts (.arrayClass .int) (by decide +kernel)) rfl hK.1 hP hD hS hA (fun _ => rfl) (by decide) (by decide) (by decide +kernel) (Nat.le_of_ble_eq_true rfl) (Nat.le_of_ble_eq_true rfl) dX2_init_26 (fun q_4 cA H hK2 hP hD hS => ?_)
  obtain rfl := ty_one hK2 (i := 6) (j := 0) rfl rfl
  refine W.widen (k := 4) (n := 26) (Nat.le_of_ble_eq_true rfl) (Nat.le_of_ble_eq_true rfl) ?_
  refine va_putF (D := G) (ci := 2) (v := .ref q_4) (ty := .array .int) (C := RX2) (T := TX2) (N := 8) hx hb hts (by decide +kernel) tyX2 tyX2_ok nmX2 hown hK.1 hP hD hS 0 rfl rfl 3 (by decide) (hts (.fieldLink RX2 22 "CardHolder$Hands" "robbed" "[I") (by decide +kernel)) (fun _ h9 => h9) rfl hin rfl (by decide +kernel) rfl rfl (Nat.le_of_ble_eq_true rfl) dX2_init_28 (fun H locs hP hD hS => ?_)
  have hP : va_P G vwCl [(h0, .inr (2, [.null, .ref q_1, .ref q_3, .ref q_4, .int 0, .int 0, .int 0, .int 0])), (q_1, .inr (0, [.ref (u_2 1), .int 0])), ((u_2 1), .inl (ct 0, 8, .inl (fun _ => 0))), (q_3, .inl (ct 0, 8, .inl (fun _ => 0))), (q_4, .inl (ct 0, 8, .inl (fun _ => 0)))] H := hP
  have hD : va_D A [(h0, .inr (2, [.null, .ref q_1, .ref q_3, .ref q_4, .int 0, .int 0, .int 0, .int 0])), (q_1, .inr (0, [.ref (u_2 1), .int 0])), ((u_2 1), .inl (ct 0, 8, .inl (fun _ => 0))), (q_3, .inl (ct 0, 8, .inl (fun _ => 0))), (q_4, .inl (ct 0, 8, .inl (fun _ => 0)))] := hD
  refine lv_aload_n hx hb dX2_init_31 rfl (lv_at hl 0 rfl) ?_
  refine lv_aload_n hx hb dX2_init_32 rfl (lv_at hl 1 rfl) ?_
  refine va_putF (D := G) (ci := 2) (v := .ref t9) (ty := .object "CardHolder$Town") (C := RX2) (T := TX2) (N := 8) hx hb hts (by decide +kernel) tyX2 tyX2_ok nmX2 hown hK.1 hP hD hS 0 rfl rfl 0 (by decide) (hts (.fieldLink RX2 25 "CardHolder$Hands" "town" "LCardHolder$Town;") (by decide +kernel)) (fun _ h9 => h9) rfl hin rfl (by decide +kernel) rfl rfl (Nat.le_of_ble_eq_true rfl) dX2_init_33 (fun H locs hP hD hS => ?_)
  have hP : va_P G vwCl [(h0, .inr (2, [.ref t9, .ref q_1, .ref q_3, .ref q_4, .int 0, .int 0, .int 0, .int 0])), (q_1, .inr (0, [.ref (u_2 1), .int 0])), ((u_2 1), .inl (ct 0, 8, .inl (fun _ => 0))), (q_3, .inl (ct 0, 8, .inl (fun _ => 0))), (q_4, .inl (ct 0, 8, .inl (fun _ => 0)))] H := hP
  have hD : va_D A [(h0, .inr (2, [.ref t9, .ref q_1, .ref q_3, .ref q_4, .int 0, .int 0, .int 0, .int 0])), (q_1, .inr (0, [.ref (u_2 1), .int 0])), ((u_2 1), .inl (ct 0, 8, .inl (fun _ => 0))), (q_3, .inl (ct 0, 8, .inl (fun _ => 0))), (q_4, .inl (ct 0, 8, .inl (fun _ => 0)))] := hD
  refine W.widen (k := 4) (n := 26) (Nat.le_of_ble_eq_true rfl) (Nat.le_of_ble_eq_true rfl) ?_
  exact W.vret hx hb hr (fun t ht hW => ⟨⟨(fun k => ([h0, q_1, (u_2 1), q_3, q_4] : List Nat).getD k 0), rfl, trivial, hp_at ht hP, hD⟩, hS.F ht⟩) hS.2.2 dX2_init_36

set_option maxHeartbeats 4000000 in
set_option maxRecDepth 100000 in
theorem c_X4_init (l : Launch) (G : va_G) (ct : Nat → ClassId) (h0 : Nat) (sz : Nat)  : Met l yX4_init wsX4_init ({ frames := 3, cells := 13, slots := 123, locals := 101 }) (va_Pc [.ref h0] (nwP G ct [(h0, .inr (4, [.null, .null, .null, .int 0]))] sz)) (va_Qv (fun u : Nat → Nat => True) (fun u t => va_P G vwCl ((fun u : Nat → Nat => [(h0, .inr (4, [.ref (u 1), .ref (u 8), .ref (u 13), .int 0])), ((u 1), .inr (9, [.ref (u 2), .ref (u 4), .ref (u 5), .ref (u 6), .ref (u 7), .int 0, .int 0])), ((u 2), .inr (0, [.ref (u 3), .int 0])), ((u 3), .inl (ct 0, 8, .inl (fun _ => 0))), ((u 4), .inl (ct 0, 8, .inl (fun _ => 0))), ((u 5), .inl (ct 0, 8, .inl (fun _ => 0))), ((u 6), .inl (ct 0, 8, .inl (fun _ => 0))), ((u 7), .inl (ct 0, 8, .inl (fun _ => 0))), ((u 8), .inr (2, [.ref (u 1), .ref (u 9), .ref (u 11), .ref (u 12), .int 0, .int 0, .int 0, .int 0])), ((u 9), .inr (0, [.ref (u 10), .int 0])), ((u 10), .inl (ct 0, 8, .inl (fun _ => 0))), ((u 11), .inl (ct 0, 8, .inl (fun _ => 0))), ((u 12), .inl (ct 0, 8, .inl (fun _ => 0))), ((u 13), .inl (ct 0, 40, .inl (fun _ => 0)))]) u) t.heap ∧ va_D (va_A [(h0, .inr (4, [.null, .null, .null, .int 0]))] sz) ((fun u : Nat → Nat => [(h0, .inr (4, [.ref (u 1), .ref (u 8), .ref (u 13), .int 0])), ((u 1), .inr (9, [.ref (u 2), .ref (u 4), .ref (u 5), .ref (u 6), .ref (u 7), .int 0, .int 0])), ((u 2), .inr (0, [.ref (u 3), .int 0])), ((u 3), .inl (ct 0, 8, .inl (fun _ => 0))), ((u 4), .inl (ct 0, 8, .inl (fun _ => 0))), ((u 5), .inl (ct 0, 8, .inl (fun _ => 0))), ((u 6), .inl (ct 0, 8, .inl (fun _ => 0))), ((u 7), .inl (ct 0, 8, .inl (fun _ => 0))), ((u 8), .inr (2, [.ref (u 1), .ref (u 9), .ref (u 11), .ref (u 12), .int 0, .int 0, .int 0, .int 0])), ((u 9), .inr (0, [.ref (u 10), .int 0])), ((u 10), .inl (ct 0, 8, .inl (fun _ => 0))), ((u 11), .inl (ct 0, 8, .inl (fun _ => 0))), ((u 12), .inl (ct 0, 8, .inl (fun _ => 0))), ((u 13), .inl (ct 0, 40, .inl (fun _ => 0)))]) u)) (va_A [(h0, .inr (4, [.null, .null, .null, .int 0]))] sz)) 13 123 (va_A [(h0, .inr (4, [.null, .null, .null, .int 0]))] sz) := by
  refine Met.ofW (cc := cX4_init) (maxL := 1) (ret := none) (by decide) rfl ?_
  intro p e s m args below meth c s₁ B hml hv
  obtain ⟨rfl, hsz, hP, hK, hD0⟩ := hv
  have hx := B.exec
  have hb := B.bytes
  have hr := B.returns
  have hts := atoms_spec (ws := wsX4_init) B.pre
  have hown : s.vm.findClass RX4 = some m.cls := findClass_of_methodNamed B.named
  have hlocks := B.notSynchronized
  have hin : meth.name = "<init>" := (name_of_methodNamed B.named B.method).1
  subst hsz
  have hD := hD0.self (sz := s.heap.size)
  generalize hAe : va_A [(h0, .inr (4, [.null, .null, .null, .int 0]))] s.heap.size = A at hD ⊢
  have hA : ∀ q : Nat, s.heap.size ≤ q → A q := fun q h => by rw [← hAe]; exact Or.inr h
  have hS : va_S A s.heap s.heap [] := va_S.rf
  have hP : va_P G vwCl [(h0, .inr (4, [.null, .null, .null, .int 0]))] s.heap := hP
  have hl := lv_entry ([.ref h0]) (n := 1) (Nat.le_of_ble_eq_true rfl)
  rw [lg_entry_eq]
  generalize (lg_sl ([.ref h0]) ++ List.replicate (1 - (lg_sl ([.ref h0])).length) Slot.unset).toArray = ls at hl ⊢
  have hl : lv_has ls 1 [(0, .ref h0)] := hl
  refine lv_aload_n hx hb dX4_init_0 rfl (lv_at hl 0 rfl) ?_
  refine W.objInit hx hb hown (hts (.methodLink RX4 3 objectInit) (by decide +kernel)) (hts (.instanceMethod objectInit) (by decide +kernel)) (hts (.code objectInit ⟨#[0xb1]⟩ 1 none) (List.mem_of_getElem? (i := 3) rfl)) rfl (hl.1.trans hml.symm) rfl dX4_init_1 (Nat.le_of_ble_eq_true rfl) (Nat.le_of_ble_eq_true rfl) ?_
  show W p l e _ s m _ below meth c _ _ _ _ _ (F0 m 4 ls [])
  refine lv_aload_n hx hb dX4_init_4 rfl (lv_at hl 0 rfl) ?_
  refine va_new (D := G) (ci := 9) (fs := [.null, .null, .null, .null, .null, .int 0, .int 0]) (C := RX9) (T := TX9) (N := 7) hx hb hts (by decide +kernel) tyX9 tyX9_ok hown (hts (.classLink RX4 9 RX9) (by decide +kernel)) (hts (.instantiable RX9 7) (by decide +kernel)) (hts (.initialized RX9) (by decide +kernel)) hK.1 hP hD hS hA rfl (fun j hj => by rcases (show j = 0 ∨ j = 1 ∨ j = 2 ∨ j = 3 ∨ j = 4 ∨ j = 5 ∨ j = 6 by omega) with rfl | rfl | rfl | rfl | rfl | rfl | rfl <;> rfl) (Nat.le_of_ble_eq_true rfl) (Nat.le_of_ble_eq_true rfl) dX4_init_5 (fun q_1 H hP hD hS => ?_)
  refine W.widen (k := 1) (n := 7) (Nat.le_of_ble_eq_true rfl) (Nat.le_of_ble_eq_true rfl) ?_
  refine lv_dup hx hb dX4_init_8 rfl ?_
  refine nl_callv (w1 := (fun u : Nat → Nat => [(q_1, .inr (9, [.ref (u 1), .ref (u 3), .ref (u 4), .ref (u 5), .ref (u 6), .int 0, .int 0])), ((u 1), .inr (0, [.ref (u 2), .int 0])), ((u 2), .inl (ct 0, 8, .inl (fun _ => 0))), ((u 3), .inl (ct 0, 8, .inl (fun _ => 0))), ((u 4), .inl (ct 0, 8, .inl (fun _ => 0))), ((u 5), .inl (ct 0, 8, .inl (fun _ => 0))), ((u 6), .inl (ct 0, 8, .inl (fun _ => 0)))])) (va_runIN (As := []) (rest := [.ref q_1, .ref h0]) ⟨hx, hb, hml, hown, hts⟩ (c_X9_init l G ct q_1 H.size) ⟨va_cnB 0 hts gX4_init_X9_init_n11 rfl rfl rfl (hK.2.1 (RX4, 11, yX9_init, "CardHolder") (by decide +kernel)) (hts (.initialized RX9) (by decide +kernel)) (by decide +kernel) ⟨Nat.le_of_ble_eq_true rfl, Nat.le_of_ble_eq_true rfl⟩, rfl, hts (.instanceMethod yX9_init) (by decide +kernel)⟩ (nw_pre hK hP.last hD.last) rfl rfl hl.1 rfl (lv_room (Nat.le_of_ble_eq_true rfl)) dX4_init_9 ⟨Nat.le_of_ble_eq_true rfl, Nat.le_of_ble_eq_true rfl⟩) hS hA hP hD (fun u_2 H locs _ hP hD hS => ?_)
  refine W.widen (k := 7) (n := 49) (Nat.le_of_ble_eq_true rfl) (Nat.le_of_ble_eq_true rfl) ?_
  have hP : va_P G vwCl [(h0, .inr (4, [.null, .null, .null, .int 0])), (q_1, .inr (9, [.ref (u_2 1), .ref (u_2 3), .ref (u_2 4), .ref (u_2 5), .ref (u_2 6), .int 0, .int 0])), ((u_2 1), .inr (0, [.ref (u_2 2), .int 0])), ((u_2 2), .inl (ct 0, 8, .inl (fun _ => 0))), ((u_2 3), .inl (ct 0, 8, .inl (fun _ => 0))), ((u_2 4), .inl (ct 0, 8, .inl (fun _ => 0))), ((u_2 5), .inl (ct 0, 8, .inl (fun _ => 0))), ((u_2 6), .inl (ct 0, 8, .inl (fun _ => 0)))] H := hP
  have hD : va_D A [(h0, .inr (4, [.null, .null, .null, .int 0])), (q_1, .inr (9, [.ref (u_2 1), .ref (u_2 3), .ref (u_2 4), .ref (u_2 5), .ref (u_2 6), .int 0, .int 0])), ((u_2 1), .inr (0, [.ref (u_2 2), .int 0])), ((u_2 2), .inl (ct 0, 8, .inl (fun _ => 0))), ((u_2 3), .inl (ct 0, 8, .inl (fun _ => 0))), ((u_2 4), .inl (ct 0, 8, .inl (fun _ => 0))), ((u_2 5), .inl (ct 0, 8, .inl (fun _ => 0))), ((u_2 6), .inl (ct 0, 8, .inl (fun _ => 0)))] := hD
  refine va_putF (D := G) (ci := 4) (v := .ref q_1) (ty := .object "CardHolder$Town") (C := RX4) (T := TX4) (N := 4) hx hb hts (by decide +kernel) tyX4 tyX4_ok nmX4 hown hK.1 hP hD hS 0 rfl rfl 0 (by decide) (hts (.fieldLink RX4 12 "CardHolder$Play" "town" "LCardHolder$Town;") (by decide +kernel)) (fun _ h9 => h9) rfl hin rfl (by decide +kernel) rfl rfl (Nat.le_of_ble_eq_true rfl) dX4_init_12 (fun H locs hP hD hS => ?_)
  have hP : va_P G vwCl [(h0, .inr (4, [.ref q_1, .null, .null, .int 0])), (q_1, .inr (9, [.ref (u_2 1), .ref (u_2 3), .ref (u_2 4), .ref (u_2 5), .ref (u_2 6), .int 0, .int 0])), ((u_2 1), .inr (0, [.ref (u_2 2), .int 0])), ((u_2 2), .inl (ct 0, 8, .inl (fun _ => 0))), ((u_2 3), .inl (ct 0, 8, .inl (fun _ => 0))), ((u_2 4), .inl (ct 0, 8, .inl (fun _ => 0))), ((u_2 5), .inl (ct 0, 8, .inl (fun _ => 0))), ((u_2 6), .inl (ct 0, 8, .inl (fun _ => 0)))] H := hP
  have hD : va_D A [(h0, .inr (4, [.ref q_1, .null, .null, .int 0])), (q_1, .inr (9, [.ref (u_2 1), .ref (u_2 3), .ref (u_2 4), .ref (u_2 5), .ref (u_2 6), .int 0, .int 0])), ((u_2 1), .inr (0, [.ref (u_2 2), .int 0])), ((u_2 2), .inl (ct 0, 8, .inl (fun _ => 0))), ((u_2 3), .inl (ct 0, 8, .inl (fun _ => 0))), ((u_2 4), .inl (ct 0, 8, .inl (fun _ => 0))), ((u_2 5), .inl (ct 0, 8, .inl (fun _ => 0))), ((u_2 6), .inl (ct 0, 8, .inl (fun _ => 0)))] := hD
  refine lv_aload_n hx hb dX4_init_15 rfl (lv_at hl 0 rfl) ?_
  refine va_new (D := G) (ci := 2) (fs := [.null, .null, .null, .null, .int 0, .int 0, .int 0, .int 0]) (C := RX2) (T := TX2) (N := 8) hx hb hts (by decide +kernel) tyX2 tyX2_ok hown (hts (.classLink RX4 18 RX2) (by decide +kernel)) (hts (.instantiable RX2 8) (by decide +kernel)) (hts (.initialized RX2) (by decide +kernel)) hK.1 hP hD hS hA rfl (fun j hj => by rcases (show j = 0 ∨ j = 1 ∨ j = 2 ∨ j = 3 ∨ j = 4 ∨ j = 5 ∨ j = 6 ∨ j = 7 by omega) with rfl | rfl | rfl | rfl | rfl | rfl | rfl | rfl <;> rfl) (Nat.le_of_ble_eq_true rfl) (Nat.le_of_ble_eq_true rfl) dX4_init_16 (fun q_3 H hP hD hS => ?_)
  refine W.widen (k := 8) (n := 57) (Nat.le_of_ble_eq_true rfl) (Nat.le_of_ble_eq_true rfl) ?_
  refine lv_dup hx hb dX4_init_19 rfl ?_
  refine lv_aload_n hx hb dX4_init_20 rfl (lv_at hl 0 rfl) ?_
  refine va_get (D := G) (ci := 4) (v := .ref q_1) (C := RX4) (T := TX4) (N := 4) hx hb hts (by decide +kernel) hown hK.1 hP 0 rfl rfl 0 (by decide) (hts (.fieldLink RX4 12 "CardHolder$Play" "town" "LCardHolder$Town;") (by decide +kernel)) (fun _ h9 => h9) rfl dX4_init_21 ?_
  refine nl_callv (w1 := (fun u : Nat → Nat => [(q_3, .inr (2, [.ref q_1, .ref (u 1), .ref (u 3), .ref (u 4), .int 0, .int 0, .int 0, .int 0])), ((u 1), .inr (0, [.ref (u 2), .int 0])), ((u 2), .inl (ct 0, 8, .inl (fun _ => 0))), ((u 3), .inl (ct 0, 8, .inl (fun _ => 0))), ((u 4), .inl (ct 0, 8, .inl (fun _ => 0)))])) (va_runI (As := [.ref q_1]) (rest := [.ref q_3, .ref h0]) ⟨hx, hb, hml, hown, hts⟩ (c_X2_init l G ct q_3 q_1 H.size) (cwI 1 hts gX4_init_X2_init rfl rfl rfl (hts (.initialized RX2) (by decide +kernel)) (hts (.methodLink RX4 20 yX2_init) (by decide +kernel)) (hts (.instanceMethod yX2_init) (by decide +kernel)) rfl (by decide +kernel) ⟨Nat.le_of_ble_eq_true rfl, Nat.le_of_ble_eq_true rfl⟩) (nw_pre hK hP.last hD.last) rfl rfl hl.1 rfl (lv_room (Nat.le_of_ble_eq_true rfl)) dX4_init_24 ⟨Nat.le_of_ble_eq_true rfl, Nat.le_of_ble_eq_true rfl⟩) hS hA hP hD (fun u_4 H locs _ hP hD hS => ?_)
  refine W.widen (k := 12) (n := 83) (Nat.le_of_ble_eq_true rfl) (Nat.le_of_ble_eq_true rfl) ?_
  have hP : va_P G vwCl [(h0, .inr (4, [.ref q_1, .null, .null, .int 0])), (q_1, .inr (9, [.ref (u_2 1), .ref (u_2 3), .ref (u_2 4), .ref (u_2 5), .ref (u_2 6), .int 0, .int 0])), ((u_2 1), .inr (0, [.ref (u_2 2), .int 0])), ((u_2 2), .inl (ct 0, 8, .inl (fun _ => 0))), ((u_2 3), .inl (ct 0, 8, .inl (fun _ => 0))), ((u_2 4), .inl (ct 0, 8, .inl (fun _ => 0))), ((u_2 5), .inl (ct 0, 8, .inl (fun _ => 0))), ((u_2 6), .inl (ct 0, 8, .inl (fun _ => 0))), (q_3, .inr (2, [.ref q_1, .ref (u_4 1), .ref (u_4 3), .ref (u_4 4), .int 0, .int 0, .int 0, .int 0])), ((u_4 1), .inr (0, [.ref (u_4 2), .int 0])), ((u_4 2), .inl (ct 0, 8, .inl (fun _ => 0))), ((u_4 3), .inl (ct 0, 8, .inl (fun _ => 0))), ((u_4 4), .inl (ct 0, 8, .inl (fun _ => 0)))] H := hP
  have hD : va_D A [(h0, .inr (4, [.ref q_1, .null, .null, .int 0])), (q_1, .inr (9, [.ref (u_2 1), .ref (u_2 3), .ref (u_2 4), .ref (u_2 5), .ref (u_2 6), .int 0, .int 0])), ((u_2 1), .inr (0, [.ref (u_2 2), .int 0])), ((u_2 2), .inl (ct 0, 8, .inl (fun _ => 0))), ((u_2 3), .inl (ct 0, 8, .inl (fun _ => 0))), ((u_2 4), .inl (ct 0, 8, .inl (fun _ => 0))), ((u_2 5), .inl (ct 0, 8, .inl (fun _ => 0))), ((u_2 6), .inl (ct 0, 8, .inl (fun _ => 0))), (q_3, .inr (2, [.ref q_1, .ref (u_4 1), .ref (u_4 3), .ref (u_4 4), .int 0, .int 0, .int 0, .int 0])), ((u_4 1), .inr (0, [.ref (u_4 2), .int 0])), ((u_4 2), .inl (ct 0, 8, .inl (fun _ => 0))), ((u_4 3), .inl (ct 0, 8, .inl (fun _ => 0))), ((u_4 4), .inl (ct 0, 8, .inl (fun _ => 0)))] := hD
  refine va_putF (D := G) (ci := 4) (v := .ref q_3) (ty := .object "CardHolder$Hands") (C := RX4) (T := TX4) (N := 4) hx hb hts (by decide +kernel) tyX4 tyX4_ok nmX4 hown hK.1 hP hD hS 0 rfl rfl 1 (by decide) (hts (.fieldLink RX4 23 "CardHolder$Play" "hands" "LCardHolder$Hands;") (by decide +kernel)) (fun _ h9 => h9) rfl hin rfl (by decide +kernel) rfl rfl (Nat.le_of_ble_eq_true rfl) dX4_init_27 (fun H locs hP hD hS => ?_)
  have hP : va_P G vwCl [(h0, .inr (4, [.ref q_1, .ref q_3, .null, .int 0])), (q_1, .inr (9, [.ref (u_2 1), .ref (u_2 3), .ref (u_2 4), .ref (u_2 5), .ref (u_2 6), .int 0, .int 0])), ((u_2 1), .inr (0, [.ref (u_2 2), .int 0])), ((u_2 2), .inl (ct 0, 8, .inl (fun _ => 0))), ((u_2 3), .inl (ct 0, 8, .inl (fun _ => 0))), ((u_2 4), .inl (ct 0, 8, .inl (fun _ => 0))), ((u_2 5), .inl (ct 0, 8, .inl (fun _ => 0))), ((u_2 6), .inl (ct 0, 8, .inl (fun _ => 0))), (q_3, .inr (2, [.ref q_1, .ref (u_4 1), .ref (u_4 3), .ref (u_4 4), .int 0, .int 0, .int 0, .int 0])), ((u_4 1), .inr (0, [.ref (u_4 2), .int 0])), ((u_4 2), .inl (ct 0, 8, .inl (fun _ => 0))), ((u_4 3), .inl (ct 0, 8, .inl (fun _ => 0))), ((u_4 4), .inl (ct 0, 8, .inl (fun _ => 0)))] H := hP
  have hD : va_D A [(h0, .inr (4, [.ref q_1, .ref q_3, .null, .int 0])), (q_1, .inr (9, [.ref (u_2 1), .ref (u_2 3), .ref (u_2 4), .ref (u_2 5), .ref (u_2 6), .int 0, .int 0])), ((u_2 1), .inr (0, [.ref (u_2 2), .int 0])), ((u_2 2), .inl (ct 0, 8, .inl (fun _ => 0))), ((u_2 3), .inl (ct 0, 8, .inl (fun _ => 0))), ((u_2 4), .inl (ct 0, 8, .inl (fun _ => 0))), ((u_2 5), .inl (ct 0, 8, .inl (fun _ => 0))), ((u_2 6), .inl (ct 0, 8, .inl (fun _ => 0))), (q_3, .inr (2, [.ref q_1, .ref (u_4 1), .ref (u_4 3), .ref (u_4 4), .int 0, .int 0, .int 0, .int 0])), ((u_4 1), .inr (0, [.ref (u_4 2), .int 0])), ((u_4 2), .inl (ct 0, 8, .inl (fun _ => 0))), ((u_4 3), .inl (ct 0, 8, .inl (fun _ => 0))), ((u_4 4), .inl (ct 0, 8, .inl (fun _ => 0)))] := hD
  refine lv_aload_n hx hb dX4_init_30 rfl (lv_at hl 0 rfl) ?_
  refine lv_bipush (v := 40) hx hb dX4_init_31 (by decide) ?_
  refine va_newa (D := G) (atype := .int) (ty := .int) (a0 := (40, .inl (fun _ => 0))) (N' := 40) hx hb (hts (.arrayClass .int) (by decide +kernel)) rfl hK.1 hP hD hS hA (fun _ => rfl) (by decide) (by decide) (by decide +kernel) (Nat.le_of_ble_eq_true rfl) (Nat.le_of_ble_eq_true rfl) dX4_init_33 (fun q_5 cA H hK2 hP hD hS => ?_)
  obtain rfl := ty_one hK2 (i := 6) (j := 0) rfl rfl
  refine W.widen (k := 13) (n := 123) (Nat.le_of_ble_eq_true rfl) (Nat.le_of_ble_eq_true rfl) ?_
  refine va_putF (D := G) (ci := 4) (v := .ref q_5) (ty := .array .int) (C := RX4) (T := TX4) (N := 4) hx hb hts (by decide +kernel) tyX4 tyX4_ok nmX4 hown hK.1 hP hD hS 0 rfl rfl 2 (by decide) (hts (.fieldLink RX4 27 "CardHolder$Play" "log" "[I") (by decide +kernel)) (fun _ h9 => h9) rfl hin rfl (by decide +kernel) rfl rfl (Nat.le_of_ble_eq_true rfl) dX4_init_35 (fun H locs hP hD hS => ?_)
  have hP : va_P G vwCl [(h0, .inr (4, [.ref q_1, .ref q_3, .ref q_5, .int 0])), (q_1, .inr (9, [.ref (u_2 1), .ref (u_2 3), .ref (u_2 4), .ref (u_2 5), .ref (u_2 6), .int 0, .int 0])), ((u_2 1), .inr (0, [.ref (u_2 2), .int 0])), ((u_2 2), .inl (ct 0, 8, .inl (fun _ => 0))), ((u_2 3), .inl (ct 0, 8, .inl (fun _ => 0))), ((u_2 4), .inl (ct 0, 8, .inl (fun _ => 0))), ((u_2 5), .inl (ct 0, 8, .inl (fun _ => 0))), ((u_2 6), .inl (ct 0, 8, .inl (fun _ => 0))), (q_3, .inr (2, [.ref q_1, .ref (u_4 1), .ref (u_4 3), .ref (u_4 4), .int 0, .int 0, .int 0, .int 0])), ((u_4 1), .inr (0, [.ref (u_4 2), .int 0])), ((u_4 2), .inl (ct 0, 8, .inl (fun _ => 0))), ((u_4 3), .inl (ct 0, 8, .inl (fun _ => 0))), ((u_4 4), .inl (ct 0, 8, .inl (fun _ => 0))), (q_5, .inl (ct 0, 40, .inl (fun _ => 0)))] H := hP
  have hD : va_D A [(h0, .inr (4, [.ref q_1, .ref q_3, .ref q_5, .int 0])), (q_1, .inr (9, [.ref (u_2 1), .ref (u_2 3), .ref (u_2 4), .ref (u_2 5), .ref (u_2 6), .int 0, .int 0])), ((u_2 1), .inr (0, [.ref (u_2 2), .int 0])), ((u_2 2), .inl (ct 0, 8, .inl (fun _ => 0))), ((u_2 3), .inl (ct 0, 8, .inl (fun _ => 0))), ((u_2 4), .inl (ct 0, 8, .inl (fun _ => 0))), ((u_2 5), .inl (ct 0, 8, .inl (fun _ => 0))), ((u_2 6), .inl (ct 0, 8, .inl (fun _ => 0))), (q_3, .inr (2, [.ref q_1, .ref (u_4 1), .ref (u_4 3), .ref (u_4 4), .int 0, .int 0, .int 0, .int 0])), ((u_4 1), .inr (0, [.ref (u_4 2), .int 0])), ((u_4 2), .inl (ct 0, 8, .inl (fun _ => 0))), ((u_4 3), .inl (ct 0, 8, .inl (fun _ => 0))), ((u_4 4), .inl (ct 0, 8, .inl (fun _ => 0))), (q_5, .inl (ct 0, 40, .inl (fun _ => 0)))] := hD
  refine W.widen (k := 13) (n := 123) (Nat.le_of_ble_eq_true rfl) (Nat.le_of_ble_eq_true rfl) ?_
  exact W.vret hx hb hr (fun t ht hW => ⟨⟨(fun k => ([h0, q_1, (u_2 1), (u_2 2), (u_2 3), (u_2 4), (u_2 5), (u_2 6), q_3, (u_4 1), (u_4 2), (u_4 3), (u_4 4), q_5] : List Nat).getD k 0), rfl, trivial, hp_at ht hP, hD⟩, hS.F ht⟩) hS.2.2 dX4_init_38

set_option maxHeartbeats 4000000 in
set_option maxRecDepth 100000 in
theorem c_X5_init (l : Launch) (G : va_G) (ct : Nat → ClassId) (h0 : Nat) (y9 : Nat) (sz : Nat)  : Met l yX5_init wsX5_init ({ frames := 3, cells := 7, slots := 49, locals := 100 }) (va_Pc [.ref h0, .ref y9] (nwP G ct [(h0, .inr (5, [.null, .null, .int 0, .int 0, .int 0, .int 0, .int 0, .int 0]))] sz)) (va_Qv (fun u : Nat → Nat => True) (fun u t => va_P G vwCl ((fun u : Nat → Nat => [(h0, .inr (5, [.ref y9, .ref (u 1), .int 0, .int (-1), .int 0, .int 0, .int 0, .int 0])), ((u 1), .inr (9, [.ref (u 2), .ref (u 4), .ref (u 5), .ref (u 6), .ref (u 7), .int 0, .int 0])), ((u 2), .inr (0, [.ref (u 3), .int 0])), ((u 3), .inl (ct 0, 8, .inl (fun _ => 0))), ((u 4), .inl (ct 0, 8, .inl (fun _ => 0))), ((u 5), .inl (ct 0, 8, .inl (fun _ => 0))), ((u 6), .inl (ct 0, 8, .inl (fun _ => 0))), ((u 7), .inl (ct 0, 8, .inl (fun _ => 0)))]) u) t.heap ∧ va_D (va_A [(h0, .inr (5, [.null, .null, .int 0, .int 0, .int 0, .int 0, .int 0, .int 0]))] sz) ((fun u : Nat → Nat => [(h0, .inr (5, [.ref y9, .ref (u 1), .int 0, .int (-1), .int 0, .int 0, .int 0, .int 0])), ((u 1), .inr (9, [.ref (u 2), .ref (u 4), .ref (u 5), .ref (u 6), .ref (u 7), .int 0, .int 0])), ((u 2), .inr (0, [.ref (u 3), .int 0])), ((u 3), .inl (ct 0, 8, .inl (fun _ => 0))), ((u 4), .inl (ct 0, 8, .inl (fun _ => 0))), ((u 5), .inl (ct 0, 8, .inl (fun _ => 0))), ((u 6), .inl (ct 0, 8, .inl (fun _ => 0))), ((u 7), .inl (ct 0, 8, .inl (fun _ => 0)))]) u)) (va_A [(h0, .inr (5, [.null, .null, .int 0, .int 0, .int 0, .int 0, .int 0, .int 0]))] sz)) 7 49 (va_A [(h0, .inr (5, [.null, .null, .int 0, .int 0, .int 0, .int 0, .int 0, .int 0]))] sz) := by
  refine Met.ofW (cc := cX5_init) (maxL := 2) (ret := none) (by decide) rfl ?_
  intro p e s m args below meth c s₁ B hml hv
  obtain ⟨rfl, hsz, hP, hK, hD0⟩ := hv
  have hx := B.exec
  have hb := B.bytes
  have hr := B.returns
  have hts := atoms_spec (ws := wsX5_init) B.pre
  have hown : s.vm.findClass RX5 = some m.cls := findClass_of_methodNamed B.named
  have hlocks := B.notSynchronized
  have hin : meth.name = "<init>" := (name_of_methodNamed B.named B.method).1
  subst hsz
  have hD := hD0.self (sz := s.heap.size)
  generalize hAe : va_A [(h0, .inr (5, [.null, .null, .int 0, .int 0, .int 0, .int 0, .int 0, .int 0]))] s.heap.size = A at hD ⊢
  have hA : ∀ q : Nat, s.heap.size ≤ q → A q := fun q h => by rw [← hAe]; exact Or.inr h
  have hS : va_S A s.heap s.heap [] := va_S.rf
  have hP : va_P G vwCl [(h0, .inr (5, [.null, .null, .int 0, .int 0, .int 0, .int 0, .int 0, .int 0]))] s.heap := hP
  have hl := lv_entry ([.ref h0, .ref y9]) (n := 2) (Nat.le_of_ble_eq_true rfl)
  rw [lg_entry_eq]
  generalize (lg_sl ([.ref h0, .ref y9]) ++ List.replicate (2 - (lg_sl ([.ref h0, .ref y9])).length) Slot.unset).toArray = ls at hl ⊢
  have hl : lv_has ls 2 [(0, .ref h0), (1, .ref y9)] := hl
  refine lv_aload_n hx hb dX5_init_0 rfl (lv_at hl 0 rfl) ?_
  refine W.objInit hx hb hown (hts (.methodLink RX5 3 objectInit) (by decide +kernel)) (hts (.instanceMethod objectInit) (by decide +kernel)) (hts (.code objectInit ⟨#[0xb1]⟩ 1 none) (List.mem_of_getElem? (i := 3) rfl)) rfl (hl.1.trans hml.symm) rfl dX5_init_1 (Nat.le_of_ble_eq_true rfl) (Nat.le_of_ble_eq_true rfl) ?_
  show W p l e _ s m _ below meth c _ _ _ _ _ (F0 m 4 ls [])
  refine lv_aload_n hx hb dX5_init_4 rfl (lv_at hl 0 rfl) ?_
  refine va_new (D := G) (ci := 9) (fs := [.null, .null, .null, .null, .null, .int 0, .int 0]) (C := RX9) (T := TX9) (N := 7) hx hb hts (by decide +kernel) tyX9 tyX9_ok hown (hts (.classLink RX5 9 RX9) (by decide +kernel)) (hts (.instantiable RX9 7) (by decide +kernel)) (hts (.initialized RX9) (by decide +kernel)) hK.1 hP hD hS hA rfl (fun j hj => by rcases (show j = 0 ∨ j = 1 ∨ j = 2 ∨ j = 3 ∨ j = 4 ∨ j = 5 ∨ j = 6 by omega) with rfl | rfl | rfl | rfl | rfl | rfl | rfl <;> rfl) (Nat.le_of_ble_eq_true rfl) (Nat.le_of_ble_eq_true rfl) dX5_init_5 (fun q_1 H hP hD hS => ?_)
  refine W.widen (k := 1) (n := 7) (Nat.le_of_ble_eq_true rfl) (Nat.le_of_ble_eq_true rfl) ?_
  refine lv_dup hx hb dX5_init_8 rfl ?_
  refine nl_callv (w1 := (fun u : Nat → Nat => [(q_1, .inr (9, [.ref (u 1), .ref (u 3), .ref (u 4), .ref (u 5), .ref (u 6), .int 0, .int 0])), ((u 1), .inr (0, [.ref (u 2), .int 0])), ((u 2), .inl (ct 0, 8, .inl (fun _ => 0))), ((u 3), .inl (ct 0, 8, .inl (fun _ => 0))), ((u 4), .inl (ct 0, 8, .inl (fun _ => 0))), ((u 5), .inl (ct 0, 8, .inl (fun _ => 0))), ((u 6), .inl (ct 0, 8, .inl (fun _ => 0)))])) (va_runIN (As := []) (rest := [.ref q_1, .ref h0]) ⟨hx, hb, hml, hown, hts⟩ (c_X9_init l G ct q_1 H.size) ⟨va_cnB 0 hts gX5_init_X9_init_n11 rfl rfl rfl (hK.2.1 (RX5, 11, yX9_init, "CardHolder") (by decide +kernel)) (hts (.initialized RX9) (by decide +kernel)) (by decide +kernel) ⟨Nat.le_of_ble_eq_true rfl, Nat.le_of_ble_eq_true rfl⟩, rfl, hts (.instanceMethod yX9_init) (by decide +kernel)⟩ (nw_pre hK hP.last hD.last) rfl rfl hl.1 rfl (lv_room (Nat.le_of_ble_eq_true rfl)) dX5_init_9 ⟨Nat.le_of_ble_eq_true rfl, Nat.le_of_ble_eq_true rfl⟩) hS hA hP hD (fun u_2 H locs _ hP hD hS => ?_)
  refine W.widen (k := 7) (n := 49) (Nat.le_of_ble_eq_true rfl) (Nat.le_of_ble_eq_true rfl) ?_
  have hP : va_P G vwCl [(h0, .inr (5, [.null, .null, .int 0, .int 0, .int 0, .int 0, .int 0, .int 0])), (q_1, .inr (9, [.ref (u_2 1), .ref (u_2 3), .ref (u_2 4), .ref (u_2 5), .ref (u_2 6), .int 0, .int 0])), ((u_2 1), .inr (0, [.ref (u_2 2), .int 0])), ((u_2 2), .inl (ct 0, 8, .inl (fun _ => 0))), ((u_2 3), .inl (ct 0, 8, .inl (fun _ => 0))), ((u_2 4), .inl (ct 0, 8, .inl (fun _ => 0))), ((u_2 5), .inl (ct 0, 8, .inl (fun _ => 0))), ((u_2 6), .inl (ct 0, 8, .inl (fun _ => 0)))] H := hP
  have hD : va_D A [(h0, .inr (5, [.null, .null, .int 0, .int 0, .int 0, .int 0, .int 0, .int 0])), (q_1, .inr (9, [.ref (u_2 1), .ref (u_2 3), .ref (u_2 4), .ref (u_2 5), .ref (u_2 6), .int 0, .int 0])), ((u_2 1), .inr (0, [.ref (u_2 2), .int 0])), ((u_2 2), .inl (ct 0, 8, .inl (fun _ => 0))), ((u_2 3), .inl (ct 0, 8, .inl (fun _ => 0))), ((u_2 4), .inl (ct 0, 8, .inl (fun _ => 0))), ((u_2 5), .inl (ct 0, 8, .inl (fun _ => 0))), ((u_2 6), .inl (ct 0, 8, .inl (fun _ => 0)))] := hD
  refine va_putF (D := G) (ci := 5) (v := .ref q_1) (ty := .object "CardHolder$Town") (C := RX5) (T := TX5) (N := 8) hx hb hts (by decide +kernel) tyX5 tyX5_ok nmX5 hown hK.1 hP hD hS 0 rfl rfl 1 (by decide) (hts (.fieldLink RX5 12 "CardHolder$Reader" "draft" "LCardHolder$Town;") (by decide +kernel)) (fun _ h9 => h9) rfl hin rfl (by decide +kernel) rfl rfl (Nat.le_of_ble_eq_true rfl) dX5_init_12 (fun H locs hP hD hS => ?_)
  have hP : va_P G vwCl [(h0, .inr (5, [.null, .ref q_1, .int 0, .int 0, .int 0, .int 0, .int 0, .int 0])), (q_1, .inr (9, [.ref (u_2 1), .ref (u_2 3), .ref (u_2 4), .ref (u_2 5), .ref (u_2 6), .int 0, .int 0])), ((u_2 1), .inr (0, [.ref (u_2 2), .int 0])), ((u_2 2), .inl (ct 0, 8, .inl (fun _ => 0))), ((u_2 3), .inl (ct 0, 8, .inl (fun _ => 0))), ((u_2 4), .inl (ct 0, 8, .inl (fun _ => 0))), ((u_2 5), .inl (ct 0, 8, .inl (fun _ => 0))), ((u_2 6), .inl (ct 0, 8, .inl (fun _ => 0)))] H := hP
  have hD : va_D A [(h0, .inr (5, [.null, .ref q_1, .int 0, .int 0, .int 0, .int 0, .int 0, .int 0])), (q_1, .inr (9, [.ref (u_2 1), .ref (u_2 3), .ref (u_2 4), .ref (u_2 5), .ref (u_2 6), .int 0, .int 0])), ((u_2 1), .inr (0, [.ref (u_2 2), .int 0])), ((u_2 2), .inl (ct 0, 8, .inl (fun _ => 0))), ((u_2 3), .inl (ct 0, 8, .inl (fun _ => 0))), ((u_2 4), .inl (ct 0, 8, .inl (fun _ => 0))), ((u_2 5), .inl (ct 0, 8, .inl (fun _ => 0))), ((u_2 6), .inl (ct 0, 8, .inl (fun _ => 0)))] := hD
  refine lv_aload_n hx hb dX5_init_15 rfl (lv_at hl 0 rfl) ?_
  refine lv_iconst (v := (-1)) hx hb dX5_init_16 (by decide) ?_
  refine va_put (D := G) (ci := 5) (v := .int (-1)) (ty := .int) (C := RX5) (T := TX5) (N := 8) hx hb hts (by decide +kernel) tyX5 tyX5_ok nmX5 hown hK.1 hP hD hS 0 rfl rfl 3 (by decide) (hts (.fieldLink RX5 18 "CardHolder$Reader" "wrongPlace" "I") (by decide +kernel)) (fun _ h9 => h9) rfl (by decide +kernel) rfl rfl (Nat.le_of_ble_eq_true rfl) dX5_init_17 (fun H locs hP hD hS => ?_)
  have hP : va_P G vwCl [(h0, .inr (5, [.null, .ref q_1, .int 0, .int (-1), .int 0, .int 0, .int 0, .int 0])), (q_1, .inr (9, [.ref (u_2 1), .ref (u_2 3), .ref (u_2 4), .ref (u_2 5), .ref (u_2 6), .int 0, .int 0])), ((u_2 1), .inr (0, [.ref (u_2 2), .int 0])), ((u_2 2), .inl (ct 0, 8, .inl (fun _ => 0))), ((u_2 3), .inl (ct 0, 8, .inl (fun _ => 0))), ((u_2 4), .inl (ct 0, 8, .inl (fun _ => 0))), ((u_2 5), .inl (ct 0, 8, .inl (fun _ => 0))), ((u_2 6), .inl (ct 0, 8, .inl (fun _ => 0)))] H := hP
  have hD : va_D A [(h0, .inr (5, [.null, .ref q_1, .int 0, .int (-1), .int 0, .int 0, .int 0, .int 0])), (q_1, .inr (9, [.ref (u_2 1), .ref (u_2 3), .ref (u_2 4), .ref (u_2 5), .ref (u_2 6), .int 0, .int 0])), ((u_2 1), .inr (0, [.ref (u_2 2), .int 0])), ((u_2 2), .inl (ct 0, 8, .inl (fun _ => 0))), ((u_2 3), .inl (ct 0, 8, .inl (fun _ => 0))), ((u_2 4), .inl (ct 0, 8, .inl (fun _ => 0))), ((u_2 5), .inl (ct 0, 8, .inl (fun _ => 0))), ((u_2 6), .inl (ct 0, 8, .inl (fun _ => 0)))] := hD
  refine lv_aload_n hx hb dX5_init_20 rfl (lv_at hl 0 rfl) ?_
  refine lv_aload_n hx hb dX5_init_21 rfl (lv_at hl 1 rfl) ?_
  refine va_putF (D := G) (ci := 5) (v := .ref y9) (ty := .object "CardHolder$Tape") (C := RX5) (T := TX5) (N := 8) hx hb hts (by decide +kernel) tyX5 tyX5_ok nmX5 hown hK.1 hP hD hS 0 rfl rfl 0 (by decide) (hts (.fieldLink RX5 22 "CardHolder$Reader" "tape" "LCardHolder$Tape;") (by decide +kernel)) (fun _ h9 => h9) rfl hin rfl (by decide +kernel) rfl rfl (Nat.le_of_ble_eq_true rfl) dX5_init_22 (fun H locs hP hD hS => ?_)
  have hP : va_P G vwCl [(h0, .inr (5, [.ref y9, .ref q_1, .int 0, .int (-1), .int 0, .int 0, .int 0, .int 0])), (q_1, .inr (9, [.ref (u_2 1), .ref (u_2 3), .ref (u_2 4), .ref (u_2 5), .ref (u_2 6), .int 0, .int 0])), ((u_2 1), .inr (0, [.ref (u_2 2), .int 0])), ((u_2 2), .inl (ct 0, 8, .inl (fun _ => 0))), ((u_2 3), .inl (ct 0, 8, .inl (fun _ => 0))), ((u_2 4), .inl (ct 0, 8, .inl (fun _ => 0))), ((u_2 5), .inl (ct 0, 8, .inl (fun _ => 0))), ((u_2 6), .inl (ct 0, 8, .inl (fun _ => 0)))] H := hP
  have hD : va_D A [(h0, .inr (5, [.ref y9, .ref q_1, .int 0, .int (-1), .int 0, .int 0, .int 0, .int 0])), (q_1, .inr (9, [.ref (u_2 1), .ref (u_2 3), .ref (u_2 4), .ref (u_2 5), .ref (u_2 6), .int 0, .int 0])), ((u_2 1), .inr (0, [.ref (u_2 2), .int 0])), ((u_2 2), .inl (ct 0, 8, .inl (fun _ => 0))), ((u_2 3), .inl (ct 0, 8, .inl (fun _ => 0))), ((u_2 4), .inl (ct 0, 8, .inl (fun _ => 0))), ((u_2 5), .inl (ct 0, 8, .inl (fun _ => 0))), ((u_2 6), .inl (ct 0, 8, .inl (fun _ => 0)))] := hD
  refine W.widen (k := 7) (n := 49) (Nat.le_of_ble_eq_true rfl) (Nat.le_of_ble_eq_true rfl) ?_
  exact W.vret hx hb hr (fun t ht hW => ⟨⟨(fun k => ([h0, q_1, (u_2 1), (u_2 2), (u_2 3), (u_2 4), (u_2 5), (u_2 6)] : List Nat).getD k 0), rfl, trivial, hp_at ht hP, hD⟩, hS.F ht⟩) hS.2.2 dX5_init_25

set_option maxHeartbeats 4000000 in
set_option maxRecDepth 100000 in
theorem c_X7_init (l : Launch) (G : va_G) (ct : Nat → ClassId) (h0 : Nat) (sz : Nat)  : Met l yX7_init wsX7_init ({ frames := 2, cells := 3, slots := 18, locals := 80 }) (va_Pc [.ref h0] (nwP G ct [(h0, .inr (7, [.null, .null, .long 0]))] sz)) (va_Qv (fun u : Nat → Nat => True) (fun u t => va_P G vwCl ((fun u : Nat → Nat => [(h0, .inr (7, [.ref (u 1), .ref (u 3), .long 0])), ((u 1), .inr (0, [.ref (u 2), .int 0])), ((u 2), .inl (ct 0, 8, .inl (fun _ => 0))), ((u 3), .inl (ct 0, 8, .inl (fun _ => 0)))]) u) t.heap ∧ va_D (va_A [(h0, .inr (7, [.null, .null, .long 0]))] sz) ((fun u : Nat → Nat => [(h0, .inr (7, [.ref (u 1), .ref (u 3), .long 0])), ((u 1), .inr (0, [.ref (u 2), .int 0])), ((u 2), .inl (ct 0, 8, .inl (fun _ => 0))), ((u 3), .inl (ct 0, 8, .inl (fun _ => 0)))]) u)) (va_A [(h0, .inr (7, [.null, .null, .long 0]))] sz)) 3 18 (va_A [(h0, .inr (7, [.null, .null, .long 0]))] sz) := by
  refine Met.ofW (cc := cX7_init) (maxL := 1) (ret := none) (by decide) rfl ?_
  intro p e s m args below meth c s₁ B hml hv
  obtain ⟨rfl, hsz, hP, hK, hD0⟩ := hv
  have hx := B.exec
  have hb := B.bytes
  have hr := B.returns
  have hts := atoms_spec (ws := wsX7_init) B.pre
  have hown : s.vm.findClass RX7 = some m.cls := findClass_of_methodNamed B.named
  have hlocks := B.notSynchronized
  have hin : meth.name = "<init>" := (name_of_methodNamed B.named B.method).1
  subst hsz
  have hD := hD0.self (sz := s.heap.size)
  generalize hAe : va_A [(h0, .inr (7, [.null, .null, .long 0]))] s.heap.size = A at hD ⊢
  have hA : ∀ q : Nat, s.heap.size ≤ q → A q := fun q h => by rw [← hAe]; exact Or.inr h
  have hS : va_S A s.heap s.heap [] := va_S.rf
  have hP : va_P G vwCl [(h0, .inr (7, [.null, .null, .long 0]))] s.heap := hP
  have hl := lv_entry ([.ref h0]) (n := 1) (Nat.le_of_ble_eq_true rfl)
  rw [lg_entry_eq]
  generalize (lg_sl ([.ref h0]) ++ List.replicate (1 - (lg_sl ([.ref h0])).length) Slot.unset).toArray = ls at hl ⊢
  have hl : lv_has ls 1 [(0, .ref h0)] := hl
  refine lv_aload_n hx hb dX7_init_0 rfl (lv_at hl 0 rfl) ?_
  refine W.objInit hx hb hown (hts (.methodLink RX7 3 objectInit) (by decide +kernel)) (hts (.instanceMethod objectInit) (by decide +kernel)) (hts (.code objectInit ⟨#[0xb1]⟩ 1 none) (List.mem_of_getElem? (i := 3) rfl)) rfl (hl.1.trans hml.symm) rfl dX7_init_1 (Nat.le_of_ble_eq_true rfl) (Nat.le_of_ble_eq_true rfl) ?_
  show W p l e _ s m _ below meth c _ _ _ _ _ (F0 m 4 ls [])
  refine lv_aload_n hx hb dX7_init_4 rfl (lv_at hl 0 rfl) ?_
  refine va_new (D := G) (ci := 0) (fs := [.null, .int 0]) (C := RX0) (T := TX0) (N := 2) hx hb hts (by decide +kernel) tyX0 tyX0_ok hown (hts (.classLink RX7 9 RX0) (by decide +kernel)) (hts (.instantiable RX0 2) (by decide +kernel)) (hts (.initialized RX0) (by decide +kernel)) hK.1 hP hD hS hA rfl (fun j hj => by rcases (show j = 0 ∨ j = 1 by omega) with rfl | rfl <;> rfl) (Nat.le_of_ble_eq_true rfl) (Nat.le_of_ble_eq_true rfl) dX7_init_5 (fun q_1 H hP hD hS => ?_)
  refine W.widen (k := 1) (n := 2) (Nat.le_of_ble_eq_true rfl) (Nat.le_of_ble_eq_true rfl) ?_
  refine lv_dup hx hb dX7_init_8 rfl ?_
  refine nl_callv (w1 := (fun u : Nat → Nat => [(q_1, .inr (0, [.ref (u 1), .int 0])), ((u 1), .inl (ct 0, 8, .inl (fun _ => 0)))])) (va_runIN (As := []) (rest := [.ref q_1, .ref h0]) ⟨hx, hb, hml, hown, hts⟩ (c_X0_init l G ct q_1 H.size) ⟨va_cnB 0 hts gX7_init_X0_init_n11 rfl rfl rfl (hK.2.1 (RX7, 11, yX0_init, "CardHolder") (by decide +kernel)) (hts (.initialized RX0) (by decide +kernel)) (by decide +kernel) ⟨Nat.le_of_ble_eq_true rfl, Nat.le_of_ble_eq_true rfl⟩, rfl, hts (.instanceMethod yX0_init) (by decide +kernel)⟩ (nw_pre hK hP.last hD.last) rfl rfl hl.1 rfl (lv_room (Nat.le_of_ble_eq_true rfl)) dX7_init_9 ⟨Nat.le_of_ble_eq_true rfl, Nat.le_of_ble_eq_true rfl⟩) hS hA hP hD (fun u_2 H locs _ hP hD hS => ?_)
  refine W.widen (k := 2) (n := 10) (Nat.le_of_ble_eq_true rfl) (Nat.le_of_ble_eq_true rfl) ?_
  have hP : va_P G vwCl [(h0, .inr (7, [.null, .null, .long 0])), (q_1, .inr (0, [.ref (u_2 1), .int 0])), ((u_2 1), .inl (ct 0, 8, .inl (fun _ => 0)))] H := hP
  have hD : va_D A [(h0, .inr (7, [.null, .null, .long 0])), (q_1, .inr (0, [.ref (u_2 1), .int 0])), ((u_2 1), .inl (ct 0, 8, .inl (fun _ => 0)))] := hD
  refine va_putF (D := G) (ci := 7) (v := .ref q_1) (ty := .object "CardHolder$Bonds") (C := RX7) (T := TX7) (N := 3) hx hb hts (by decide +kernel) tyX7 tyX7_ok nmX7 hown hK.1 hP hD hS 0 rfl rfl 0 (by decide) (hts (.fieldLink RX7 12 "CardHolder$Square" "dealt" "LCardHolder$Bonds;") (by decide +kernel)) (fun _ h9 => h9) rfl hin rfl (by decide +kernel) rfl rfl (Nat.le_of_ble_eq_true rfl) dX7_init_12 (fun H locs hP hD hS => ?_)
  have hP : va_P G vwCl [(h0, .inr (7, [.ref q_1, .null, .long 0])), (q_1, .inr (0, [.ref (u_2 1), .int 0])), ((u_2 1), .inl (ct 0, 8, .inl (fun _ => 0)))] H := hP
  have hD : va_D A [(h0, .inr (7, [.ref q_1, .null, .long 0])), (q_1, .inr (0, [.ref (u_2 1), .int 0])), ((u_2 1), .inl (ct 0, 8, .inl (fun _ => 0)))] := hD
  refine lv_aload_n hx hb dX7_init_15 rfl (lv_at hl 0 rfl) ?_
  refine lv_bipush (v := 8) hx hb dX7_init_16 (by decide) ?_
  refine va_newa (D := G) (atype := .int) (ty := .int) (a0 := (8, .inl (fun _ => 0))) (N' := 8) hx hb (hts (.arrayClass .int) (by decide +kernel)) rfl hK.1 hP hD hS hA (fun _ => rfl) (by decide) (by decide) (by decide +kernel) (Nat.le_of_ble_eq_true rfl) (Nat.le_of_ble_eq_true rfl) dX7_init_18 (fun q_3 cA H hK2 hP hD hS => ?_)
  obtain rfl := ty_one hK2 (i := 6) (j := 0) rfl rfl
  refine W.widen (k := 3) (n := 18) (Nat.le_of_ble_eq_true rfl) (Nat.le_of_ble_eq_true rfl) ?_
  refine va_putF (D := G) (ci := 7) (v := .ref q_3) (ty := .array .int) (C := RX7) (T := TX7) (N := 3) hx hb hts (by decide +kernel) tyX7 tyX7_ok nmX7 hown hK.1 hP hD hS 0 rfl rfl 1 (by decide) (hts (.fieldLink RX7 18 "CardHolder$Square" "places" "[I") (by decide +kernel)) (fun _ h9 => h9) rfl hin rfl (by decide +kernel) rfl rfl (Nat.le_of_ble_eq_true rfl) dX7_init_20 (fun H locs hP hD hS => ?_)
  have hP : va_P G vwCl [(h0, .inr (7, [.ref q_1, .ref q_3, .long 0])), (q_1, .inr (0, [.ref (u_2 1), .int 0])), ((u_2 1), .inl (ct 0, 8, .inl (fun _ => 0))), (q_3, .inl (ct 0, 8, .inl (fun _ => 0)))] H := hP
  have hD : va_D A [(h0, .inr (7, [.ref q_1, .ref q_3, .long 0])), (q_1, .inr (0, [.ref (u_2 1), .int 0])), ((u_2 1), .inl (ct 0, 8, .inl (fun _ => 0))), (q_3, .inl (ct 0, 8, .inl (fun _ => 0)))] := hD
  refine W.widen (k := 3) (n := 18) (Nat.le_of_ble_eq_true rfl) (Nat.le_of_ble_eq_true rfl) ?_
  exact W.vret hx hb hr (fun t ht hW => ⟨⟨(fun k => ([h0, q_1, (u_2 1), q_3] : List Nat).getD k 0), rfl, trivial, hp_at ht hP, hD⟩, hS.F ht⟩) hS.2.2 dX7_init_23

set_option maxHeartbeats 4000000 in
set_option maxRecDepth 100000 in
theorem c_X1_init (l : Launch) (G : va_G) (ct : Nat → ClassId) (h0 : Nat) (sz : Nat)  : Met l yX1_init wsX1_init ({ frames := 1, cells := 2, slots := 512, locals := 60 }) (va_Pc [.ref h0] (nwP G ct [(h0, .inr (1, [.null, .null, .int 0]))] sz)) (va_Qv (fun u : Nat → Nat => True) (fun u t => va_P G vwCl ((fun u : Nat → Nat => [(h0, .inr (1, [.ref (u 1), .ref (u 2), .int 1])), ((u 1), .inl (ct 0, 256, .inl (fun _ => 0))), ((u 2), .inl (ct 0, 256, .inl (fun _ => 0)))]) u) t.heap ∧ va_D (va_A [(h0, .inr (1, [.null, .null, .int 0]))] sz) ((fun u : Nat → Nat => [(h0, .inr (1, [.ref (u 1), .ref (u 2), .int 1])), ((u 1), .inl (ct 0, 256, .inl (fun _ => 0))), ((u 2), .inl (ct 0, 256, .inl (fun _ => 0)))]) u)) (va_A [(h0, .inr (1, [.null, .null, .int 0]))] sz)) 2 512 (va_A [(h0, .inr (1, [.null, .null, .int 0]))] sz) := by
  refine Met.ofW (cc := cX1_init) (maxL := 1) (ret := none) (by decide) rfl ?_
  intro p e s m args below meth c s₁ B hml hv
  obtain ⟨rfl, hsz, hP, hK, hD0⟩ := hv
  have hx := B.exec
  have hb := B.bytes
  have hr := B.returns
  have hts := atoms_spec (ws := wsX1_init) B.pre
  have hown : s.vm.findClass RX1 = some m.cls := findClass_of_methodNamed B.named
  have hlocks := B.notSynchronized
  have hin : meth.name = "<init>" := (name_of_methodNamed B.named B.method).1
  subst hsz
  have hD := hD0.self (sz := s.heap.size)
  generalize hAe : va_A [(h0, .inr (1, [.null, .null, .int 0]))] s.heap.size = A at hD ⊢
  have hA : ∀ q : Nat, s.heap.size ≤ q → A q := fun q h => by rw [← hAe]; exact Or.inr h
  have hS : va_S A s.heap s.heap [] := va_S.rf
  have hP : va_P G vwCl [(h0, .inr (1, [.null, .null, .int 0]))] s.heap := hP
  have hl := lv_entry ([.ref h0]) (n := 1) (Nat.le_of_ble_eq_true rfl)
  rw [lg_entry_eq]
  generalize (lg_sl ([.ref h0]) ++ List.replicate (1 - (lg_sl ([.ref h0])).length) Slot.unset).toArray = ls at hl ⊢
  have hl : lv_has ls 1 [(0, .ref h0)] := hl
  refine lv_aload_n hx hb dX1_init_0 rfl (lv_at hl 0 rfl) ?_
  refine W.objInit hx hb hown (hts (.methodLink RX1 3 objectInit) (by decide +kernel)) (hts (.instanceMethod objectInit) (by decide +kernel)) (hts (.code objectInit ⟨#[0xb1]⟩ 1 none) (List.mem_of_getElem? (i := 3) rfl)) rfl (hl.1.trans hml.symm) rfl dX1_init_1 (Nat.le_of_ble_eq_true rfl) (Nat.le_of_ble_eq_true rfl) ?_
  show W p l e _ s m _ below meth c _ _ _ _ _ (F0 m 4 ls [])
  refine lv_aload_n hx hb dX1_init_4 rfl (lv_at hl 0 rfl) ?_
  refine lv_sipush (v := 256) hx hb dX1_init_5 (by decide) ?_
  refine va_newa (D := G) (atype := .int) (ty := .int) (a0 := (256, .inl (fun _ => 0))) (N' := 256) hx hb (hts (.arrayClass .int) (by decide +kernel)) rfl hK.1 hP hD hS hA (fun _ => rfl) (by decide) (by decide) (by decide +kernel) (Nat.le_of_ble_eq_true rfl) (Nat.le_of_ble_eq_true rfl) dX1_init_8 (fun q_1 cA H hK2 hP hD hS => ?_)
  obtain rfl := ty_one hK2 (i := 6) (j := 0) rfl rfl
  refine W.widen (k := 1) (n := 256) (Nat.le_of_ble_eq_true rfl) (Nat.le_of_ble_eq_true rfl) ?_
  refine va_putF (D := G) (ci := 1) (v := .ref q_1) (ty := .array .int) (C := RX1) (T := TX1) (N := 3) hx hb hts (by decide +kernel) tyX1 tyX1_ok nmX1 hown hK.1 hP hD hS 0 rfl rfl 0 (by decide) (hts (.fieldLink RX1 9 "CardHolder$Choice" "costs" "[I") (by decide +kernel)) (fun _ h9 => h9) rfl hin rfl (by decide +kernel) rfl rfl (Nat.le_of_ble_eq_true rfl) dX1_init_10 (fun H locs hP hD hS => ?_)
  have hP : va_P G vwCl [(h0, .inr (1, [.ref q_1, .null, .int 0])), (q_1, .inl (ct 0, 256, .inl (fun _ => 0)))] H := hP
  have hD : va_D A [(h0, .inr (1, [.ref q_1, .null, .int 0])), (q_1, .inl (ct 0, 256, .inl (fun _ => 0)))] := hD
  refine lv_aload_n hx hb dX1_init_13 rfl (lv_at hl 0 rfl) ?_
  refine lv_sipush (v := 256) hx hb dX1_init_14 (by decide) ?_
  refine va_newa (D := G) (atype := .int) (ty := .int) (a0 := (256, .inl (fun _ => 0))) (N' := 256) hx hb (hts (.arrayClass .int) (by decide +kernel)) rfl hK.1 hP hD hS hA (fun _ => rfl) (by decide) (by decide) (by decide +kernel) (Nat.le_of_ble_eq_true rfl) (Nat.le_of_ble_eq_true rfl) dX1_init_17 (fun q_2 cA H hK2 hP hD hS => ?_)
  obtain rfl := ty_one hK2 (i := 6) (j := 0) rfl rfl
  refine W.widen (k := 2) (n := 512) (Nat.le_of_ble_eq_true rfl) (Nat.le_of_ble_eq_true rfl) ?_
  refine va_putF (D := G) (ci := 1) (v := .ref q_2) (ty := .array .int) (C := RX1) (T := TX1) (N := 3) hx hb hts (by decide +kernel) tyX1 tyX1_ok nmX1 hown hK.1 hP hD hS 0 rfl rfl 1 (by decide) (hts (.fieldLink RX1 15 "CardHolder$Choice" "does" "[I") (by decide +kernel)) (fun _ h9 => h9) rfl hin rfl (by decide +kernel) rfl rfl (Nat.le_of_ble_eq_true rfl) dX1_init_19 (fun H locs hP hD hS => ?_)
  have hP : va_P G vwCl [(h0, .inr (1, [.ref q_1, .ref q_2, .int 0])), (q_1, .inl (ct 0, 256, .inl (fun _ => 0))), (q_2, .inl (ct 0, 256, .inl (fun _ => 0)))] H := hP
  have hD : va_D A [(h0, .inr (1, [.ref q_1, .ref q_2, .int 0])), (q_1, .inl (ct 0, 256, .inl (fun _ => 0))), (q_2, .inl (ct 0, 256, .inl (fun _ => 0)))] := hD
  refine lv_aload_n hx hb dX1_init_22 rfl (lv_at hl 0 rfl) ?_
  refine lv_iconst (v := 1) hx hb dX1_init_23 (by decide) ?_
  refine va_put (D := G) (ci := 1) (v := .int 1) (ty := .int) (C := RX1) (T := TX1) (N := 3) hx hb hts (by decide +kernel) tyX1 tyX1_ok nmX1 hown hK.1 hP hD hS 0 rfl rfl 2 (by decide) (hts (.fieldLink RX1 18 "CardHolder$Choice" "sets" "I") (by decide +kernel)) (fun _ h9 => h9) rfl (by decide +kernel) rfl rfl (Nat.le_of_ble_eq_true rfl) dX1_init_24 (fun H locs hP hD hS => ?_)
  have hP : va_P G vwCl [(h0, .inr (1, [.ref q_1, .ref q_2, .int 1])), (q_1, .inl (ct 0, 256, .inl (fun _ => 0))), (q_2, .inl (ct 0, 256, .inl (fun _ => 0)))] H := hP
  have hD : va_D A [(h0, .inr (1, [.ref q_1, .ref q_2, .int 1])), (q_1, .inl (ct 0, 256, .inl (fun _ => 0))), (q_2, .inl (ct 0, 256, .inl (fun _ => 0)))] := hD
  refine W.widen (k := 2) (n := 512) (Nat.le_of_ble_eq_true rfl) (Nat.le_of_ble_eq_true rfl) ?_
  exact W.vret hx hb hr (fun t ht hW => ⟨⟨(fun k => ([h0, q_1, q_2] : List Nat).getD k 0), rfl, trivial, hp_at ht hP, hD⟩, hS.F ht⟩) hS.2.2 dX1_init_27

set_option maxHeartbeats 4000000 in
set_option maxRecDepth 100000 in
theorem c_X3_init (l : Launch) (G : va_G) (ct : Nat → ClassId) (h0 : Nat) (sz : Nat)  : Met l yX3_init wsX3_init ({ frames := 1, cells := 3, slots := 24, locals := 60 }) (va_Pc [.ref h0] (nwP G ct [(h0, .inr (3, [.null, .null, .null, .int 0]))] sz)) (va_Qv (fun u : Nat → Nat => True) (fun u t => va_P G vwCl ((fun u : Nat → Nat => [(h0, .inr (3, [.ref (u 1), .ref (u 2), .ref (u 3), .int 0])), ((u 1), .inl (ct 0, 8, .inl (fun _ => 0))), ((u 2), .inl (ct 0, 8, .inl (fun _ => 0))), ((u 3), .inl (ct 0, 8, .inl (fun _ => 0)))]) u) t.heap ∧ va_D (va_A [(h0, .inr (3, [.null, .null, .null, .int 0]))] sz) ((fun u : Nat → Nat => [(h0, .inr (3, [.ref (u 1), .ref (u 2), .ref (u 3), .int 0])), ((u 1), .inl (ct 0, 8, .inl (fun _ => 0))), ((u 2), .inl (ct 0, 8, .inl (fun _ => 0))), ((u 3), .inl (ct 0, 8, .inl (fun _ => 0)))]) u)) (va_A [(h0, .inr (3, [.null, .null, .null, .int 0]))] sz)) 3 24 (va_A [(h0, .inr (3, [.null, .null, .null, .int 0]))] sz) := by
  refine Met.ofW (cc := cX3_init) (maxL := 1) (ret := none) (by decide) rfl ?_
  intro p e s m args below meth c s₁ B hml hv
  obtain ⟨rfl, hsz, hP, hK, hD0⟩ := hv
  have hx := B.exec
  have hb := B.bytes
  have hr := B.returns
  have hts := atoms_spec (ws := wsX3_init) B.pre
  have hown : s.vm.findClass RX3 = some m.cls := findClass_of_methodNamed B.named
  have hlocks := B.notSynchronized
  have hin : meth.name = "<init>" := (name_of_methodNamed B.named B.method).1
  subst hsz
  have hD := hD0.self (sz := s.heap.size)
  generalize hAe : va_A [(h0, .inr (3, [.null, .null, .null, .int 0]))] s.heap.size = A at hD ⊢
  have hA : ∀ q : Nat, s.heap.size ≤ q → A q := fun q h => by rw [← hAe]; exact Or.inr h
  have hS : va_S A s.heap s.heap [] := va_S.rf
  have hP : va_P G vwCl [(h0, .inr (3, [.null, .null, .null, .int 0]))] s.heap := hP
  have hl := lv_entry ([.ref h0]) (n := 1) (Nat.le_of_ble_eq_true rfl)
  rw [lg_entry_eq]
  generalize (lg_sl ([.ref h0]) ++ List.replicate (1 - (lg_sl ([.ref h0])).length) Slot.unset).toArray = ls at hl ⊢
  have hl : lv_has ls 1 [(0, .ref h0)] := hl
  refine lv_aload_n hx hb dX3_init_0 rfl (lv_at hl 0 rfl) ?_
  refine W.objInit hx hb hown (hts (.methodLink RX3 3 objectInit) (by decide +kernel)) (hts (.instanceMethod objectInit) (by decide +kernel)) (hts (.code objectInit ⟨#[0xb1]⟩ 1 none) (List.mem_of_getElem? (i := 3) rfl)) rfl (hl.1.trans hml.symm) rfl dX3_init_1 (Nat.le_of_ble_eq_true rfl) (Nat.le_of_ble_eq_true rfl) ?_
  show W p l e _ s m _ below meth c _ _ _ _ _ (F0 m 4 ls [])
  refine lv_aload_n hx hb dX3_init_4 rfl (lv_at hl 0 rfl) ?_
  refine lv_bipush (v := 8) hx hb dX3_init_5 (by decide) ?_
  refine va_newa (D := G) (atype := .int) (ty := .int) (a0 := (8, .inl (fun _ => 0))) (N' := 8) hx hb (hts (.arrayClass .int) (by decide +kernel)) rfl hK.1 hP hD hS hA (fun _ => rfl) (by decide) (by decide) (by decide +kernel) (Nat.le_of_ble_eq_true rfl) (Nat.le_of_ble_eq_true rfl) dX3_init_7 (fun q_1 cA H hK2 hP hD hS => ?_)
  obtain rfl := ty_one hK2 (i := 6) (j := 0) rfl rfl
  refine W.widen (k := 1) (n := 8) (Nat.le_of_ble_eq_true rfl) (Nat.le_of_ble_eq_true rfl) ?_
  refine va_putF (D := G) (ci := 3) (v := .ref q_1) (ty := .array .int) (C := RX3) (T := TX3) (N := 4) hx hb hts (by decide +kernel) tyX3 tyX3_ok nmX3 hown hK.1 hP hD hS 0 rfl rfl 0 (by decide) (hts (.fieldLink RX3 9 "CardHolder$Peace" "worths" "[I") (by decide +kernel)) (fun _ h9 => h9) rfl hin rfl (by decide +kernel) rfl rfl (Nat.le_of_ble_eq_true rfl) dX3_init_9 (fun H locs hP hD hS => ?_)
  have hP : va_P G vwCl [(h0, .inr (3, [.ref q_1, .null, .null, .int 0])), (q_1, .inl (ct 0, 8, .inl (fun _ => 0)))] H := hP
  have hD : va_D A [(h0, .inr (3, [.ref q_1, .null, .null, .int 0])), (q_1, .inl (ct 0, 8, .inl (fun _ => 0)))] := hD
  refine lv_aload_n hx hb dX3_init_12 rfl (lv_at hl 0 rfl) ?_
  refine lv_bipush (v := 8) hx hb dX3_init_13 (by decide) ?_
  refine va_newa (D := G) (atype := .int) (ty := .int) (a0 := (8, .inl (fun _ => 0))) (N' := 8) hx hb (hts (.arrayClass .int) (by decide +kernel)) rfl hK.1 hP hD hS hA (fun _ => rfl) (by decide) (by decide) (by decide +kernel) (Nat.le_of_ble_eq_true rfl) (Nat.le_of_ble_eq_true rfl) dX3_init_15 (fun q_2 cA H hK2 hP hD hS => ?_)
  obtain rfl := ty_one hK2 (i := 6) (j := 0) rfl rfl
  refine W.widen (k := 2) (n := 16) (Nat.le_of_ble_eq_true rfl) (Nat.le_of_ble_eq_true rfl) ?_
  refine va_putF (D := G) (ci := 3) (v := .ref q_2) (ty := .array .int) (C := RX3) (T := TX3) (N := 4) hx hb hts (by decide +kernel) tyX3 tyX3_ok nmX3 hown hK.1 hP hD hS 0 rfl rfl 1 (by decide) (hts (.fieldLink RX3 15 "CardHolder$Peace" "losses" "[I") (by decide +kernel)) (fun _ h9 => h9) rfl hin rfl (by decide +kernel) rfl rfl (Nat.le_of_ble_eq_true rfl) dX3_init_17 (fun H locs hP hD hS => ?_)
  have hP : va_P G vwCl [(h0, .inr (3, [.ref q_1, .ref q_2, .null, .int 0])), (q_1, .inl (ct 0, 8, .inl (fun _ => 0))), (q_2, .inl (ct 0, 8, .inl (fun _ => 0)))] H := hP
  have hD : va_D A [(h0, .inr (3, [.ref q_1, .ref q_2, .null, .int 0])), (q_1, .inl (ct 0, 8, .inl (fun _ => 0))), (q_2, .inl (ct 0, 8, .inl (fun _ => 0)))] := hD
  refine lv_aload_n hx hb dX3_init_20 rfl (lv_at hl 0 rfl) ?_
  refine lv_bipush (v := 8) hx hb dX3_init_21 (by decide) ?_
  refine va_newa (D := G) (atype := .int) (ty := .int) (a0 := (8, .inl (fun _ => 0))) (N' := 8) hx hb (hts (.arrayClass .int) (by decide +kernel)) rfl hK.1 hP hD hS hA (fun _ => rfl) (by decide) (by decide) (by decide +kernel) (Nat.le_of_ble_eq_true rfl) (Nat.le_of_ble_eq_true rfl) dX3_init_23 (fun q_3 cA H hK2 hP hD hS => ?_)
  obtain rfl := ty_one hK2 (i := 6) (j := 0) rfl rfl
  refine W.widen (k := 3) (n := 24) (Nat.le_of_ble_eq_true rfl) (Nat.le_of_ble_eq_true rfl) ?_
  refine va_putF (D := G) (ci := 3) (v := .ref q_3) (ty := .array .int) (C := RX3) (T := TX3) (N := 4) hx hb hts (by decide +kernel) tyX3 tyX3_ok nmX3 hown hK.1 hP hD hS 0 rfl rfl 2 (by decide) (hts (.fieldLink RX3 18 "CardHolder$Peace" "givers" "[I") (by decide +kernel)) (fun _ h9 => h9) rfl hin rfl (by decide +kernel) rfl rfl (Nat.le_of_ble_eq_true rfl) dX3_init_25 (fun H locs hP hD hS => ?_)
  have hP : va_P G vwCl [(h0, .inr (3, [.ref q_1, .ref q_2, .ref q_3, .int 0])), (q_1, .inl (ct 0, 8, .inl (fun _ => 0))), (q_2, .inl (ct 0, 8, .inl (fun _ => 0))), (q_3, .inl (ct 0, 8, .inl (fun _ => 0)))] H := hP
  have hD : va_D A [(h0, .inr (3, [.ref q_1, .ref q_2, .ref q_3, .int 0])), (q_1, .inl (ct 0, 8, .inl (fun _ => 0))), (q_2, .inl (ct 0, 8, .inl (fun _ => 0))), (q_3, .inl (ct 0, 8, .inl (fun _ => 0)))] := hD
  refine W.widen (k := 3) (n := 24) (Nat.le_of_ble_eq_true rfl) (Nat.le_of_ble_eq_true rfl) ?_
  exact W.vret hx hb hr (fun t ht hW => ⟨⟨(fun k => ([h0, q_1, q_2, q_3] : List Nat).getD k 0), rfl, trivial, hp_at ht hP, hD⟩, hS.F ht⟩) hS.2.2 dX3_init_28

set_option maxHeartbeats 4000000 in
set_option maxRecDepth 100000 in
theorem c_X6_init (l : Launch) (G : va_G) (ct : Nat → ClassId) (h0 : Nat) (sz : Nat)  : Met l yX6_init wsX6_init ({ frames := 1, cells := 7, slots := 252, locals := 60 }) (va_Pc [.ref h0] (nwP G ct [(h0, .inr (6, [.null, .null, .null, .int 0]))] sz)) (va_Qv (fun u : (Nat → Nat) × (Nat → Nat) => True) (fun u t => va_P G vwCl ((fun u : (Nat → Nat) × (Nat → Nat) => [(h0, .inr (6, [.ref (u.1 1), .ref (u.1 6), .ref (u.1 7), .int 0])), ((u.1 1), .inl (ct 5, 4, .inr (.inr (.inr (.inr (fun i => if i < 4 then some (u.2 i) else none)))))), ((u.2 0), .inl (ct 3, 60, .inr (.inl (fun _ => 0)))), ((u.2 1), .inl (ct 3, 60, .inr (.inl (fun _ => 0)))), ((u.2 2), .inl (ct 3, 60, .inr (.inl (fun _ => 0)))), ((u.2 3), .inl (ct 3, 60, .inr (.inl (fun _ => 0)))), ((u.1 6), .inl (ct 0, 4, .inl (fun _ => 0))), ((u.1 7), .inl (ct 0, 4, .inl (fun _ => 0)))]) u) t.heap ∧ va_D (va_A [(h0, .inr (6, [.null, .null, .null, .int 0]))] sz) ((fun u : (Nat → Nat) × (Nat → Nat) => [(h0, .inr (6, [.ref (u.1 1), .ref (u.1 6), .ref (u.1 7), .int 0])), ((u.1 1), .inl (ct 5, 4, .inr (.inr (.inr (.inr (fun i => if i < 4 then some (u.2 i) else none)))))), ((u.2 0), .inl (ct 3, 60, .inr (.inl (fun _ => 0)))), ((u.2 1), .inl (ct 3, 60, .inr (.inl (fun _ => 0)))), ((u.2 2), .inl (ct 3, 60, .inr (.inl (fun _ => 0)))), ((u.2 3), .inl (ct 3, 60, .inr (.inl (fun _ => 0)))), ((u.1 6), .inl (ct 0, 4, .inl (fun _ => 0))), ((u.1 7), .inl (ct 0, 4, .inl (fun _ => 0)))]) u)) (va_A [(h0, .inr (6, [.null, .null, .null, .int 0]))] sz)) 7 252 (va_A [(h0, .inr (6, [.null, .null, .null, .int 0]))] sz) := by
  refine Met.ofW (cc := cX6_init) (maxL := 1) (ret := none) (by decide) rfl ?_
  intro p e s m args below meth c s₁ B hml hv
  obtain ⟨rfl, hsz, hP, hK, hD0⟩ := hv
  have hx := B.exec
  have hb := B.bytes
  have hr := B.returns
  have hts := atoms_spec (ws := wsX6_init) B.pre
  have hown : s.vm.findClass RX6 = some m.cls := findClass_of_methodNamed B.named
  have hlocks := B.notSynchronized
  have hin : meth.name = "<init>" := (name_of_methodNamed B.named B.method).1
  subst hsz
  have hD := hD0.self (sz := s.heap.size)
  generalize hAe : va_A [(h0, .inr (6, [.null, .null, .null, .int 0]))] s.heap.size = A at hD ⊢
  have hA : ∀ q : Nat, s.heap.size ≤ q → A q := fun q h => by rw [← hAe]; exact Or.inr h
  have hS : va_S A s.heap s.heap [] := va_S.rf
  have hP : va_P G vwCl [(h0, .inr (6, [.null, .null, .null, .int 0]))] s.heap := hP
  have hl := lv_entry ([.ref h0]) (n := 1) (Nat.le_of_ble_eq_true rfl)
  rw [lg_entry_eq]
  generalize (lg_sl ([.ref h0]) ++ List.replicate (1 - (lg_sl ([.ref h0])).length) Slot.unset).toArray = ls at hl ⊢
  have hl : lv_has ls 1 [(0, .ref h0)] := hl
  refine lv_aload_n hx hb dX6_init_0 rfl (lv_at hl 0 rfl) ?_
  refine W.objInit hx hb hown (hts (.methodLink RX6 3 objectInit) (by decide +kernel)) (hts (.instanceMethod objectInit) (by decide +kernel)) (hts (.code objectInit ⟨#[0xb1]⟩ 1 none) (List.mem_of_getElem? (i := 3) rfl)) rfl (hl.1.trans hml.symm) rfl dX6_init_1 (Nat.le_of_ble_eq_true rfl) (Nat.le_of_ble_eq_true rfl) ?_
  show W p l e _ s m _ below meth c _ _ _ _ _ (F0 m 4 ls [])
  refine lv_aload_n hx hb dX6_init_4 rfl (lv_at hl 0 rfl) ?_
  refine lv_iconst (v := 4) hx hb dX6_init_5 (by decide) ?_
  refine lv_bipush (v := 60) hx hb dX6_init_6 (by decide) ?_
  refine va_mna (D := G) (X := [(h0, .inr (6, [.null, .null, .null, .int 0]))]) (L := []) (f := fun _ => .inr (0, [])) (ty := .long) (cy := ct 3) (z := (60, .inr (.inl (fun _ => 0)))) (N' := 4) (K' := 60) hx hb hown (hts (.classLink RX6 9 "[[J") (by decide +kernel)) hK.2.2.2 (hts (.arrayClass .long) (by decide +kernel)) (hK.1.2 3 (ct 3, .long) rfl).2 hK.1 hP hD hS hA (by decide) (by decide) (by decide) (by decide) (by decide +kernel) (by decide +kernel) (by decide +kernel) rfl rfl (Nat.le_of_ble_eq_true rfl) (Nat.le_of_ble_eq_true rfl) (fun c9 => mna_z c9) dX6_init_8 (fun q_1 r_2 cA H _ _ hK2 hP hD hS => ?_)
  obtain rfl := ty_one hK2 (i := 6) (j := 5) rfl rfl
  rw [mna_rows] at hP hD
  refine W.widen (k := 5) (n := 244) (Nat.le_of_ble_eq_true rfl) (Nat.le_of_ble_eq_true rfl) ?_
  have hP : va_P G vwCl [(h0, .inr (6, [.null, .null, .null, .int 0])), (q_1, .inl (ct 5, 4, .inr (.inr (.inr (.inr (fun i => if i < 4 then some (r_2 i) else none)))))), ((r_2 0), .inl (ct 3, 60, .inr (.inl (fun _ => 0)))), ((r_2 1), .inl (ct 3, 60, .inr (.inl (fun _ => 0)))), ((r_2 2), .inl (ct 3, 60, .inr (.inl (fun _ => 0)))), ((r_2 3), .inl (ct 3, 60, .inr (.inl (fun _ => 0))))] H := hP
  have hD : va_D A [(h0, .inr (6, [.null, .null, .null, .int 0])), (q_1, .inl (ct 5, 4, .inr (.inr (.inr (.inr (fun i => if i < 4 then some (r_2 i) else none)))))), ((r_2 0), .inl (ct 3, 60, .inr (.inl (fun _ => 0)))), ((r_2 1), .inl (ct 3, 60, .inr (.inl (fun _ => 0)))), ((r_2 2), .inl (ct 3, 60, .inr (.inl (fun _ => 0)))), ((r_2 3), .inl (ct 3, 60, .inr (.inl (fun _ => 0))))] := hD
  refine va_putF (D := G) (ci := 6) (v := .ref q_1) (ty := .array (.array .long)) (C := RX6) (T := TX6) (N := 4) hx hb hts (by decide +kernel) tyX6 tyX6_ok nmX6 hown hK.1 hP hD hS 0 rfl rfl 0 (by decide) (hts (.fieldLink RX6 11 "CardHolder$Rows" "numbers" "[[J") (by decide +kernel)) (fun _ h9 => h9) rfl hin rfl (by decide +kernel) rfl rfl (Nat.le_of_ble_eq_true rfl) dX6_init_12 (fun H locs hP hD hS => ?_)
  have hP : va_P G vwCl [(h0, .inr (6, [.ref q_1, .null, .null, .int 0])), (q_1, .inl (ct 5, 4, .inr (.inr (.inr (.inr (fun i => if i < 4 then some (r_2 i) else none)))))), ((r_2 0), .inl (ct 3, 60, .inr (.inl (fun _ => 0)))), ((r_2 1), .inl (ct 3, 60, .inr (.inl (fun _ => 0)))), ((r_2 2), .inl (ct 3, 60, .inr (.inl (fun _ => 0)))), ((r_2 3), .inl (ct 3, 60, .inr (.inl (fun _ => 0))))] H := hP
  have hD : va_D A [(h0, .inr (6, [.ref q_1, .null, .null, .int 0])), (q_1, .inl (ct 5, 4, .inr (.inr (.inr (.inr (fun i => if i < 4 then some (r_2 i) else none)))))), ((r_2 0), .inl (ct 3, 60, .inr (.inl (fun _ => 0)))), ((r_2 1), .inl (ct 3, 60, .inr (.inl (fun _ => 0)))), ((r_2 2), .inl (ct 3, 60, .inr (.inl (fun _ => 0)))), ((r_2 3), .inl (ct 3, 60, .inr (.inl (fun _ => 0))))] := hD
  refine lv_aload_n hx hb dX6_init_15 rfl (lv_at hl 0 rfl) ?_
  refine lv_iconst (v := 4) hx hb dX6_init_16 (by decide) ?_
  refine va_newa (D := G) (atype := .int) (ty := .int) (a0 := (4, .inl (fun _ => 0))) (N' := 4) hx hb (hts (.arrayClass .int) (by decide +kernel)) rfl hK.1 hP hD hS hA (fun _ => rfl) (by decide) (by decide) (by decide +kernel) (Nat.le_of_ble_eq_true rfl) (Nat.le_of_ble_eq_true rfl) dX6_init_17 (fun q_3 cA H hK2 hP hD hS => ?_)
  obtain rfl := ty_one hK2 (i := 6) (j := 0) rfl rfl
  refine W.widen (k := 6) (n := 248) (Nat.le_of_ble_eq_true rfl) (Nat.le_of_ble_eq_true rfl) ?_
  refine va_putF (D := G) (ci := 6) (v := .ref q_3) (ty := .array .int) (C := RX6) (T := TX6) (N := 4) hx hb hts (by decide +kernel) tyX6 tyX6_ok nmX6 hown hK.1 hP hD hS 0 rfl rfl 1 (by decide) (hts (.fieldLink RX6 16 "CardHolder$Rows" "widths" "[I") (by decide +kernel)) (fun _ h9 => h9) rfl hin rfl (by decide +kernel) rfl rfl (Nat.le_of_ble_eq_true rfl) dX6_init_19 (fun H locs hP hD hS => ?_)
  have hP : va_P G vwCl [(h0, .inr (6, [.ref q_1, .ref q_3, .null, .int 0])), (q_1, .inl (ct 5, 4, .inr (.inr (.inr (.inr (fun i => if i < 4 then some (r_2 i) else none)))))), ((r_2 0), .inl (ct 3, 60, .inr (.inl (fun _ => 0)))), ((r_2 1), .inl (ct 3, 60, .inr (.inl (fun _ => 0)))), ((r_2 2), .inl (ct 3, 60, .inr (.inl (fun _ => 0)))), ((r_2 3), .inl (ct 3, 60, .inr (.inl (fun _ => 0)))), (q_3, .inl (ct 0, 4, .inl (fun _ => 0)))] H := hP
  have hD : va_D A [(h0, .inr (6, [.ref q_1, .ref q_3, .null, .int 0])), (q_1, .inl (ct 5, 4, .inr (.inr (.inr (.inr (fun i => if i < 4 then some (r_2 i) else none)))))), ((r_2 0), .inl (ct 3, 60, .inr (.inl (fun _ => 0)))), ((r_2 1), .inl (ct 3, 60, .inr (.inl (fun _ => 0)))), ((r_2 2), .inl (ct 3, 60, .inr (.inl (fun _ => 0)))), ((r_2 3), .inl (ct 3, 60, .inr (.inl (fun _ => 0)))), (q_3, .inl (ct 0, 4, .inl (fun _ => 0)))] := hD
  refine lv_aload_n hx hb dX6_init_22 rfl (lv_at hl 0 rfl) ?_
  refine lv_iconst (v := 4) hx hb dX6_init_23 (by decide) ?_
  refine va_newa (D := G) (atype := .int) (ty := .int) (a0 := (4, .inl (fun _ => 0))) (N' := 4) hx hb (hts (.arrayClass .int) (by decide +kernel)) rfl hK.1 hP hD hS hA (fun _ => rfl) (by decide) (by decide) (by decide +kernel) (Nat.le_of_ble_eq_true rfl) (Nat.le_of_ble_eq_true rfl) dX6_init_24 (fun q_4 cA H hK2 hP hD hS => ?_)
  obtain rfl := ty_one hK2 (i := 6) (j := 0) rfl rfl
  refine W.widen (k := 7) (n := 252) (Nat.le_of_ble_eq_true rfl) (Nat.le_of_ble_eq_true rfl) ?_
  refine va_putF (D := G) (ci := 6) (v := .ref q_4) (ty := .array .int) (C := RX6) (T := TX6) (N := 4) hx hb hts (by decide +kernel) tyX6 tyX6_ok nmX6 hown hK.1 hP hD hS 0 rfl rfl 2 (by decide) (hts (.fieldLink RX6 20 "CardHolder$Rows" "sizes" "[I") (by decide +kernel)) (fun _ h9 => h9) rfl hin rfl (by decide +kernel) rfl rfl (Nat.le_of_ble_eq_true rfl) dX6_init_26 (fun H locs hP hD hS => ?_)
  have hP : va_P G vwCl [(h0, .inr (6, [.ref q_1, .ref q_3, .ref q_4, .int 0])), (q_1, .inl (ct 5, 4, .inr (.inr (.inr (.inr (fun i => if i < 4 then some (r_2 i) else none)))))), ((r_2 0), .inl (ct 3, 60, .inr (.inl (fun _ => 0)))), ((r_2 1), .inl (ct 3, 60, .inr (.inl (fun _ => 0)))), ((r_2 2), .inl (ct 3, 60, .inr (.inl (fun _ => 0)))), ((r_2 3), .inl (ct 3, 60, .inr (.inl (fun _ => 0)))), (q_3, .inl (ct 0, 4, .inl (fun _ => 0))), (q_4, .inl (ct 0, 4, .inl (fun _ => 0)))] H := hP
  have hD : va_D A [(h0, .inr (6, [.ref q_1, .ref q_3, .ref q_4, .int 0])), (q_1, .inl (ct 5, 4, .inr (.inr (.inr (.inr (fun i => if i < 4 then some (r_2 i) else none)))))), ((r_2 0), .inl (ct 3, 60, .inr (.inl (fun _ => 0)))), ((r_2 1), .inl (ct 3, 60, .inr (.inl (fun _ => 0)))), ((r_2 2), .inl (ct 3, 60, .inr (.inl (fun _ => 0)))), ((r_2 3), .inl (ct 3, 60, .inr (.inl (fun _ => 0)))), (q_3, .inl (ct 0, 4, .inl (fun _ => 0))), (q_4, .inl (ct 0, 4, .inl (fun _ => 0)))] := hD
  refine W.widen (k := 7) (n := 252) (Nat.le_of_ble_eq_true rfl) (Nat.le_of_ble_eq_true rfl) ?_
  exact W.vret hx hb hr (fun t ht hW => ⟨⟨(fun k => ([h0, q_1, 0, 0, 0, 0, q_3, q_4] : List Nat).getD k 0, r_2), rfl, trivial, hp_at ht hP, hD⟩, hS.F ht⟩) hS.2.2 dX6_init_29

