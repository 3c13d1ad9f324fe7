def TY (ct : Nat → ClassId) : List (ClassId × FieldType) := [(ct 0, .int), (ct 1, .byte), (ct 2, .boolean), (ct 3, .long), (ct 4, .object "CardHolder$Play"), (ct 5, .array .long)]
def NL : List (String × Nat × MethodName × String) := [(RX10, 9, yX8_init, "CardHolder"), (RX10, 27, yX4_init, "CardHolder"), (RX10, 42, yX6_init, "CardHolder"), (RX10, 62, yX0_init, "CardHolder"), (RX10, 69, yX7_init, "CardHolder"), (RX10, 76, yX1_init, "CardHolder"), (RX10, 83, yX3_init, "CardHolder"), (RX2, 11, yX0_init, "CardHolder"), (RX2, 56, yX10_bitOf, "CardHolder"), (RX3, 66, yX10_bitOf, "CardHolder"), (RX4, 11, yX9_init, "CardHolder"), (RX4, 99, yX10_bitOf, "CardHolder"), (RX5, 11, yX9_init, "CardHolder"), (RX6, 31, yX10_bitOf, "CardHolder"), (RX7, 11, yX0_init, "CardHolder"), (RX9, 11, yX0_init, "CardHolder"), (RX9, 63, yX10_bitOf, "CardHolder")]
def KK (G : va_G) (ct : Nat → ClassId) (U : State) : Prop := va_K G vwCl (TY ct) U ∧ (∀ q ∈ NL, va_Nw (.methodLinkNest q.1 q.2.1 q.2.2.1 q.2.2.2) U) ∧ va_AO "CardHolder$Play" U ∧ va_AOA .long U
theorem KK.warm {G : va_G} {ct : Nat → ClassId} {s U : State} (hW : s.WarmedH U.vm) (h : KK G ct s) : KK G ct U := ⟨va_K.moved hW.alike h.1, fun q hq => va_Nw.warmM hW (h.2.1 q hq), va_AO.moved hW.alike h.2.2.1, va_AOA.moved hW.alike h.2.2.2⟩
theorem KK.call {G : va_G} {ct : Nat → ClassId} {U : State} (g : JFrame) (mk : MethodId) (a : Array Value) (h : KK G ct U) : KK G ct (U.calling g mk a) := ⟨va_K.moved (u := U) (U := U.calling g mk a) (Vm.Alike.refl U.vm) h.1, fun q hq => va_Nw.same rfl (u := U) (U := U.calling g mk a) rfl (h.2.1 q hq), va_AO.moved (u := U) (U := U.calling g mk a) (Vm.Alike.refl U.vm) h.2.2.1, va_AOA.moved (u := U) (U := U.calling g mk a) (Vm.Alike.refl U.vm) h.2.2.2⟩
def aset (ws : va_W) : Nat → Prop := fun q => ∃ (k : Nat) (e : va_E), ws[k]? = some (q, e)
theorem va_D.aself {ws : va_W} {A : Nat → Prop} (h : va_D A ws) : va_D (aset ws) ws := ⟨h.1, fun k q hk => ⟨k, q.2, hk⟩⟩
theorem va_D.true {ws : va_W} {A : Nat → Prop} (h : va_D A ws) : va_D (fun _ => True) ws := h.weaken (fun _ _ _ _ => trivial)
abbrev roP (G : va_G) (ct : Nat → ClassId) (ws : va_W) : State → Prop := fun U => va_P G vwCl ws U.heap ∧ KK G ct U
abbrev wrP (G : va_G) (ct : Nat → ClassId) (ws : va_W) : State → Prop := fun U => va_P G vwCl ws U.heap ∧ KK G ct U ∧ va_D (fun _ => True) ws
abbrev nwP (G : va_G) (ct : Nat → ClassId) (ws : va_W) (sz : Nat) : State → Prop := fun U => U.heap.size = sz ∧ va_P G vwCl ws U.heap ∧ KK G ct U ∧ va_D (fun _ => True) ws
abbrev roQ (post : Int32 → Prop) : Array Value → State → Outcome → State → Prop := va_Qi (fun (r : Int32) (_ : Unit) => post r) (fun _ _ => True) (fun _ => False)
abbrev roQl (post : Int64 → Prop) : Array Value → State → Outcome → State → Prop := va_Ql (fun (r : Int64) (_ : Unit) => post r) (fun _ _ => True) (fun _ => False)
abbrev roQr (x : Nat) : Array Value → State → Outcome → State → Prop := va_Qr (fun _ : Unit => True) (fun _ ad _ => ad = x) (fun _ => False)
abbrev no : Nat → Prop := fun _ => False
theorem hp_at {G : va_G} {t : State} {H : Heap} {ws : va_W} (ht : t.heap = H) (hP : va_P G vwCl ws H) : va_P G vwCl ws t.heap := by rw [ht]; exact hP
theorem ro_pre {G : va_G} {ct : Nat → ClassId} {s : State} {H : Heap} {wc : va_W} {av : List Value} (hK : KK G ct s) (hP : va_P G vwCl wc H) : PreS s H (va_Pc av (roP G ct wc)) av := ⟨fun a U g mk q => ⟨q.1, q.2.1, q.2.2.call g mk a⟩, fun U hU hW => ⟨rfl, by rw [hU]; exact hP, hK.warm hW⟩⟩
theorem ro_preV {G : va_G} {ct : Nat → ClassId} {s : State} {H : Heap} {wc : va_W} {b : Nat} {As : List Value} (ci q0 : Nat) {q : vw_C} {fs : List Value} (hK : KK G ct s) (hP : va_P G vwCl wc H) (hc : vwCl[ci]? = some q) (he : wc[q0]? = some (b, .inr (ci, fs))) : PreV s H q.1 b (va_Pc (.ref b :: As) (roP G ct wc)) As := ⟨(ro_pre hK hP).1, va_recv hK.1 hP hc he, (ro_pre hK hP).2⟩
theorem wr_pre {G : va_G} {ct : Nat → ClassId} {s : State} {H : Heap} {wc : va_W} {av : List Value} {A : Nat → Prop} (hK : KK G ct s) (hP : va_P G vwCl wc H) (hD : va_D A wc) : PreS s H (va_Pc av (wrP G ct wc)) av := ⟨fun a U g mk q => ⟨q.1, q.2.1, q.2.2.1.call g mk a, q.2.2.2⟩, fun U hU hW => ⟨rfl, by rw [hU]; exact hP, hK.warm hW, hD.true⟩⟩
theorem wr_preV {G : va_G} {ct : Nat → ClassId} {s : State} {H : Heap} {wc : va_W} {b : Nat} {As : List Value} {A : Nat → Prop} (ci q0 : Nat) {q : vw_C} {fs : List Value} (hK : KK G ct s) (hP : va_P G vwCl wc H) (hD : va_D A wc) (hc : vwCl[ci]? = some q) (he : wc[q0]? = some (b, .inr (ci, fs))) : PreV s H q.1 b (va_Pc (.ref b :: As) (wrP G ct wc)) As := ⟨(wr_pre hK hP hD).1, va_recv hK.1 hP hc he, (wr_pre hK hP hD).2⟩
theorem nw_pre {G : va_G} {ct : Nat → ClassId} {s : State} {H : Heap} {wc : va_W} {av : List Value} {A : Nat → Prop} (hK : KK G ct s) (hP : va_P G vwCl wc H) (hD : va_D A wc) : PreS s H (va_Pc av (nwP G ct wc H.size)) av := ⟨fun a U g mk q => ⟨q.1, q.2.1, q.2.2.1, q.2.2.2.1.call g mk a, q.2.2.2.2⟩, fun U hU hW => ⟨rfl, by rw [hU], by rw [hU]; exact hP, hK.warm hW, hD.true⟩⟩
def wsets : va_W → List Nat → va_W → va_W
  | ws, i :: is, x :: xs => wsets (ws.set i x) is xs
  | ws, _, _ => ws
theorem wsets_get : ∀ (is : List Nat) (xs ws : va_W), is.length = xs.length → ∀ (k : Nat) (q : Nat × va_E), (wsets ws is xs)[k]? = some q → (∃ j : Nat, is[j]? = some k ∧ xs[j]? = some q) ∨ (ws[k]? = some q ∧ k ∉ is)
  | [], [], ws, _, k, q, h => Or.inr ⟨h, fun h2 => by cases h2⟩
  | i :: is, x :: xs, ws, hl, k, q, h => by
    rcases wsets_get is xs (ws.set i x) (by simpa using hl) k q h with ⟨j, h1, h2⟩ | ⟨h1, h2⟩
    · exact Or.inl ⟨j + 1, by simpa using h1, by simpa using h2⟩
    · by_cases e : i = k
      · subst e
        rw [List.getElem?_set] at h1
        by_cases hlt : i < ws.length
        · simp [hlt] at h1
          exact Or.inl ⟨0, by simp, by simp [h1]⟩
        · simp [hlt] at h1
      · rw [List.getElem?_set_ne e] at h1
        exact Or.inr ⟨h1, fun h3 => by
          rcases List.mem_cons.mp h3 with h4 | h4
          · exact e h4.symm
          · exact h2 h4⟩
theorem wsets_ad : ∀ (is : List Nat) (xs ws : va_W), is.map (fun i => (ws[i]?).map (·.1)) = xs.map (fun x => some x.1) → (wsets ws is xs).map (·.1) = ws.map (·.1)
  | [], _, ws, _ => by simp [wsets]
  | i :: is, [], ws, h => by simp at h
  | i :: is, x :: xs, ws, h => by
    simp only [List.map_cons, List.cons.injEq] at h
    have e1 : (ws.set i x).map (·.1) = ws.map (·.1) := by
      apply List.ext_getElem?
      intro k
      rw [List.getElem?_map, List.getElem?_map, List.getElem?_set]
      by_cases e : i = k
      · subst e
        by_cases hlt : i < ws.length
        · simp only [hlt, if_true, Option.map_some]
          exact h.1.symm
        · simp [hlt]
      · simp [e]
    have e2 : ∀ j : Nat, ((ws.set i x)[j]?).map (·.1) = (ws[j]?).map (·.1) := fun j => by
      have h9 := congrArg (fun l : List Nat => l[j]?) e1
      rw [List.getElem?_map, List.getElem?_map] at h9
      exact h9
    have h2 := wsets_ad is xs (ws.set i x) (by
      rw [← h.2]
      apply List.map_congr_left
      intro j _
      exact e2 j)
    show (wsets (ws.set i x) is xs).map (·.1) = ws.map (·.1)
    rw [h2, e1]
theorem va_D.ad {A : Nat → Prop} {ws ws' : va_W} (h : va_D A ws) (e : ws'.map (·.1) = ws.map (·.1)) : va_D A ws' := by
  have g : ∀ (k : Nat) (q : Nat × va_E), ws'[k]? = some q → ∃ r : Nat × va_E, ws[k]? = some r ∧ r.1 = q.1 := fun k q hq => by
    have h1 : (ws'.map (·.1))[k]? = some q.1 := by rw [List.getElem?_map, hq]; rfl
    rw [e, List.getElem?_map] at h1
    cases hr : ws[k]? with
    | none => rw [hr] at h1; cases h1
    | some r => rw [hr] at h1; exact ⟨r, rfl, Option.some.inj h1⟩
  refine ⟨fun i j x y hx hy hxy => ?_, fun k q hk => ?_⟩
  · obtain ⟨r1, h1, e1⟩ := g i x hx
    obtain ⟨r2, h2, e2⟩ := g j y hy
    exact h.1 i j r1 r2 h1 h2 (by rw [e1, e2, hxy])
  · obtain ⟨r1, h1, e1⟩ := g k q hk
    rw [← e1]
    exact h.2 k r1 h1
theorem aset_in {A : Nat → Prop} {ws wc : va_W} (hD : va_D A ws) (is : List Nat) (hC : is.map (fun i => ws[i]?) = wc.map some) : ∀ q, aset wc q → A q := fun q h => by
  obtain ⟨k, e, h⟩ := h
  have h1 : (is.map (fun i => ws[i]?))[k]? = some (some (q, e)) := by rw [hC, List.getElem?_map, h]; rfl
  rw [List.getElem?_map] at h1
  cases hi : is[k]? with
  | none => rw [hi] at h1; cases h1
  | some i => rw [hi] at h1; exact hD.2 i (q, e) (Option.some.inj h1)
theorem wr_back {G : va_G} {A : Nat → Prop} {ws wc w1 : va_W} {H H1 : Heap} (hP : va_P G vwCl ws H) (hD : va_D A ws) (is : List Nat) (hC : is.map (fun i => ws[i]?) = wc.map some) (ha : w1.map (·.1) = wc.map (·.1)) (hk : ∀ q : Nat, q < H.size → ¬ aset wc q → H1[q]? = H[q]?) (hP1 : va_P G vwCl w1 H1) : va_P G vwCl (wsets ws is w1) H1 ∧ va_D A (wsets ws is w1) := by
  have hlen : is.length = w1.length := by
    have h1 := congrArg List.length hC
    have h2 := congrArg List.length ha
    simp only [List.length_map] at h1 h2
    omega
  refine ⟨fun k q hq => ?_, hD.ad (wsets_ad is w1 ws ?_)⟩
  · rcases wsets_get is w1 ws hlen k q hq with ⟨j, -, h2⟩ | ⟨h1, h2⟩
    · exact hP1 j q h2
    · refine (hP k q h1).kept (hk q.1 (hP k q h1).lt (fun h => ?_))
      obtain ⟨j, e, hj⟩ := h
      have h3 : (is.map (fun i => ws[i]?))[j]? = some (some (q.1, e)) := by rw [hC, List.getElem?_map, hj]; rfl
      rw [List.getElem?_map] at h3
      cases hi : is[j]? with
      | none => rw [hi] at h3; cases h3
      | some i =>
        rw [hi] at h3
        have h4 := hD.1 k i q (q.1, e) h1 (Option.some.inj h3) rfl
        subst h4
        exact h2 (List.mem_of_getElem? hi)
  · have h1 : is.map (fun i => (ws[i]?).map (·.1)) = (is.map (fun i => ws[i]?)).map (fun o => o.map (·.1)) := by rw [List.map_map]; rfl
    rw [h1, hC, List.map_map]
    have h2 : w1.map (fun x => some x.1) = (w1.map (·.1)).map some := by rw [List.map_map]; rfl
    rw [h2, ha, List.map_map]
    rfl
section RWC
variable {p : Program} {l : Launch} {e : Env} {R : Room} {s : State} {m : MethodId} {args : Array Value} {below : List Frame} {meth : Method} {c : Code} {H : Heap} {locs : List Loc} {cells slots : Nat} {Q : State → Prop}
variable {pc : Nat} {ls : Array Slot} {rest st0 : List Value} {a : Array Value} {A0 : Nat → Prop} {H0 : Heap} {G : va_G}
theorem ix_i {x y : Int32} (h : x = y) (k : W p l e R s m args below meth c H locs cells slots Q (F0 m pc ls (.int y :: rest))) : W p l e R s m args below meth c H locs cells slots Q (F0 m pc ls (.int x :: rest)) := by rw [h]; exact k
theorem ix_l {x y : Int64} (h : x = y) (k : W p l e R s m args below meth c H locs cells slots Q (F0 m pc ls (.long y :: rest))) : W p l e R s m args below meth c H locs cells slots Q (F0 m pc ls (.long x :: rest)) := by rw [h]; exact k
theorem ix_r {x y : Value} (h : x = y) (k : W p l e R s m args below meth c H locs cells slots Q (F0 m pc ls (y :: rest))) : W p l e R s m args below meth c H locs cells slots Q (F0 m pc ls (x :: rest)) := by rw [h]; exact k
theorem ro_calli {post : Int32 → Prop} {ws : va_W} (hr : va_Run p l e R s m args below meth c H locs cells slots 0 0 (F0 m pc ls st0) rest (roQ post a) no) (hS : va_S A0 H0 H locs) (hP : va_P G vwCl ws H)
    (kk : ∀ (r : Int32) (H1 : Heap) (locs1 : List Loc), post r → va_P G vwCl ws H1 → va_S A0 H0 H1 locs1 → W p l e R s m args below meth c H1 locs1 cells slots Q (F0 m (pc + 3) ls (.int r :: rest))) : W p l e R s m args below meth c H locs cells slots Q (F0 m pc ls st0) :=
  va_calli hr hS (fun q _ h => h.elim) (fun q h => h.elim) (fun r u t H1 locs1 ht hvm hw hB hz hk hS1 => kk r H1 locs1 hw (hP.kept (fun k q h => hk _ (hP k q h).lt id)) hS1)
theorem ro_calll {post : Int64 → Prop} {ws : va_W} (hr : va_Run p l e R s m args below meth c H locs cells slots 0 0 (F0 m pc ls st0) rest (roQl post a) no) (hS : va_S A0 H0 H locs) (hP : va_P G vwCl ws H)
    (kk : ∀ (r : Int64) (H1 : Heap) (locs1 : List Loc), post r → va_P G vwCl ws H1 → va_S A0 H0 H1 locs1 → W p l e R s m args below meth c H1 locs1 cells slots Q (F0 m (pc + 3) ls (.long r :: rest))) : W p l e R s m args below meth c H locs cells slots Q (F0 m pc ls st0) :=
  va_calll hr hS (fun q _ h => h.elim) (fun q h => h.elim) (fun r u t H1 locs1 ht hvm hw hB hz hk hS1 => kk r H1 locs1 hw (hP.kept (fun k q h => hk _ (hP k q h).lt id)) hS1)
theorem ro_callr {x : Nat} {ws : va_W} (hr : va_Run p l e R s m args below meth c H locs cells slots 0 0 (F0 m pc ls st0) rest (roQr x a) no) (hS : va_S A0 H0 H locs) (hP : va_P G vwCl ws H)
    (kk : ∀ (H1 : Heap) (locs1 : List Loc), va_P G vwCl ws H1 → va_S A0 H0 H1 locs1 → W p l e R s m args below meth c H1 locs1 cells slots Q (F0 m (pc + 3) ls (.ref x :: rest))) : W p l e R s m args below meth c H locs cells slots Q (F0 m pc ls st0) :=
  va_callr hr hS (fun q _ h => h.elim) (fun q h => h.elim) (fun u ra t H1 locs1 ht hvm hw hB hz hk hS1 => by
    have hB : ra = x := hB
    subst hB
    exact kk H1 locs1 (hP.kept (fun k q h => hk _ (hP k q h).lt id)) hS1)
theorem wr_calli {S : Type} {post : Int32 → S → Prop} {w1 : S → va_W} {ws wc : va_W} (hr : va_Run p l e R s m args below meth c H locs cells slots 0 0 (F0 m pc ls st0) rest (va_Qi post (fun u t => va_P G vwCl (w1 u) t.heap) (aset wc) a) (aset wc)) (hS : va_S A0 H0 H locs) (hP : va_P G vwCl ws H) (hD : va_D A0 ws) (is : List Nat) (hC : is.map (fun i => ws[i]?) = wc.map some) (ha : ∀ u, (w1 u).map (·.1) = wc.map (·.1))
    (kk : ∀ (r : Int32) (u : S) (H1 : Heap) (locs1 : List Loc), post r u → va_P G vwCl (wsets ws is (w1 u)) H1 → va_D A0 (wsets ws is (w1 u)) → va_S A0 H0 H1 locs1 → W p l e R s m args below meth c H1 locs1 cells slots Q (F0 m (pc + 3) ls (.int r :: rest))) : W p l e R s m args below meth c H locs cells slots Q (F0 m pc ls st0) :=
  va_calli hr hS (fun q _ h => aset_in hD is hC q h) (fun q h => aset_in hD is hC q h) (fun r u t H1 locs1 ht hvm hw hB hz hk hS1 => by
    have hb := wr_back hP hD is hC (ha u) hk (by rw [← ht]; exact hB)
    exact kk r u H1 locs1 hw hb.1 hb.2 hS1)
theorem wr_callv {S : Type} {post : S → Prop} {w1 : S → va_W} {ws wc : va_W} (hr : va_Run p l e R s m args below meth c H locs cells slots 0 0 (F0 m pc ls st0) rest (va_Qv post (fun u t => va_P G vwCl (w1 u) t.heap) (aset wc) a) (aset wc)) (hS : va_S A0 H0 H locs) (hP : va_P G vwCl ws H) (hD : va_D A0 ws) (is : List Nat) (hC : is.map (fun i => ws[i]?) = wc.map some) (ha : ∀ u, (w1 u).map (·.1) = wc.map (·.1))
    (kk : ∀ (u : S) (H1 : Heap) (locs1 : List Loc), post u → va_P G vwCl (wsets ws is (w1 u)) H1 → va_D A0 (wsets ws is (w1 u)) → va_S A0 H0 H1 locs1 → W p l e R s m args below meth c H1 locs1 cells slots Q (F0 m (pc + 3) ls rest)) : W p l e R s m args below meth c H locs cells slots Q (F0 m pc ls st0) :=
  va_callv hr hS (fun q _ h => aset_in hD is hC q h) (fun q h => aset_in hD is hC q h) (fun u t H1 locs1 ht hvm hw hB hz hk hS1 => by
    have hb := wr_back hP hD is hC (ha u) hk (by rw [← ht]; exact hB)
    exact kk u H1 locs1 hw hb.1 hb.2 hS1)
theorem va_aldL {cc : ByteArray} {tys : List (ClassId × FieldType)} {ws : va_W} {ad : Nat} (hexec : p.tables.exec = Jvm.exec) (hb : c.code = cc) (hK : va_K G vwCl tys s) (hP : va_P G vwCl ws H) (q0 t0 : Nat) {cA : ClassId} {n : Nat} {f : Nat → Option Nat} (ha : ws[q0]? = some (ad, .inl (cA, n, .inr (.inr (.inr (.inr f)))))) (ht : tys[t0]? = some (cA, .array .long)) {i : Int32} (hin : vp_in i n) (hdg : decode cc pc = .ok (.aaload, 1))
    (kk : W p l e R s m args below meth c H locs cells slots Q (F0 m (pc + 1) ls (va_rf (f i.toNatClampNeg) :: rest))) : W p l e R s m args below meth c H locs cells slots Q (F0 m pc ls (.int i :: .ref ad :: rest)) := by
  have hlt : i.toNatClampNeg < n := Nat.not_le.mp fun q => hin (Or.inr q)
  exact W.aald (v := va_rf (f i.toNatClampNeg)) (ty := .array .long) hexec hb (hP q0 _ ha) ((hK.2 t0 _ ht).1 n (fun j => va_rf (f j))) rfl (fun q => by cases q) (by show ¬ (i < 0 ∨ (arrV _ _ _).slots.size ≤ _); rw [arrV_size]; exact hin) (by show (arrV _ _ _).slots[_]? = _; rw [arrV_read _ _ hlt]) rfl rfl hdg kk
theorem wq_calli {post : Int32 → Prop} {wc : va_W} (hr : va_Run p l e R s m args below meth c H locs cells slots 0 0 (F0 m pc ls st0) rest (va_Qi (fun (r : Int32) (_ : Unit) => post r) (fun _ _ => True) (aset wc) a) (aset wc)) (hS : va_S A0 H0 H locs) (hA : ∀ q, aset wc q → A0 q)
    (kk : ∀ (r : Int32) (H1 : Heap) (locs1 : List Loc), post r → (∀ q : Nat, q < H.size → ¬ aset wc q → H1[q]? = H[q]?) → va_S A0 H0 H1 locs1 → W p l e R s m args below meth c H1 locs1 cells slots Q (F0 m (pc + 3) ls (.int r :: rest))) : W p l e R s m args below meth c H locs cells slots Q (F0 m pc ls st0) :=
  va_calli hr hS (fun q _ h => hA q h) hA (fun r u t H1 locs1 ht hvm hw hB hz hk hS1 => kk r H1 locs1 hw hk hS1)
theorem wq_callv {wc : va_W} (hr : va_Run p l e R s m args below meth c H locs cells slots 0 0 (F0 m pc ls st0) rest (va_Qv (fun _ : Unit => True) (fun _ _ => True) (aset wc) a) (aset wc)) (hS : va_S A0 H0 H locs) (hA : ∀ q, aset wc q → A0 q)
    (kk : ∀ (H1 : Heap) (locs1 : List Loc), (∀ q : Nat, q < H.size → ¬ aset wc q → H1[q]? = H[q]?) → va_S A0 H0 H1 locs1 → W p l e R s m args below meth c H1 locs1 cells slots Q (F0 m (pc + 3) ls rest)) : W p l e R s m args below meth c H locs cells slots Q (F0 m pc ls st0) :=
  va_callv hr hS (fun q _ h => hA q h) hA (fun u t H1 locs1 ht hvm hw hB hz hk hS1 => kk H1 locs1 hk hS1)
theorem lb_lt {cc : ByteArray} (hexec : p.tables.exec = Jvm.exec) (hb : c.code = cc) {x y : Int64} {off : Int} {tgt : Nat} (hdg : decode cc pc = .ok (.ifCond .lt off, 3)) (ht : (pc : Int) + off = (tgt : Int)) (kt : x < y → W p l e R s m args below meth c H locs cells slots Q (F0 m tgt ls rest)) (kf : ¬ x < y → W p l e R s m args below meth c H locs cells slots Q (F0 m (pc + 3) ls rest)) : W p l e R s m args below meth c H locs cells slots Q (F0 m pc ls (.int (lg_cmp x y) :: rest)) := lv_if_lt hexec hb hdg ht (fun h => kt ((lg_cmp_lt x y).mp h)) (fun h => kf (fun q => h ((lg_cmp_lt x y).mpr q)))
theorem lb_ge {cc : ByteArray} (hexec : p.tables.exec = Jvm.exec) (hb : c.code = cc) {x y : Int64} {off : Int} {tgt : Nat} (hdg : decode cc pc = .ok (.ifCond .ge off, 3)) (ht : (pc : Int) + off = (tgt : Int)) (kt : y ≤ x → W p l e R s m args below meth c H locs cells slots Q (F0 m tgt ls rest)) (kf : ¬ y ≤ x → W p l e R s m args below meth c H locs cells slots Q (F0 m (pc + 3) ls rest)) : W p l e R s m args below meth c H locs cells slots Q (F0 m pc ls (.int (lg_cmp x y) :: rest)) := lv_if_ge hexec hb hdg ht (fun h => kt ((lg_cmp_ge x y).mp h)) (fun h => kf (fun q => h ((lg_cmp_ge x y).mpr q)))
theorem lb_gt {cc : ByteArray} (hexec : p.tables.exec = Jvm.exec) (hb : c.code = cc) {x y : Int64} {off : Int} {tgt : Nat} (hdg : decode cc pc = .ok (.ifCond .gt off, 3)) (ht : (pc : Int) + off = (tgt : Int)) (kt : y < x → W p l e R s m args below meth c H locs cells slots Q (F0 m tgt ls rest)) (kf : ¬ y < x → W p l e R s m args below meth c H locs cells slots Q (F0 m (pc + 3) ls rest)) : W p l e R s m args below meth c H locs cells slots Q (F0 m pc ls (.int (lg_cmp x y) :: rest)) := lv_if_gt hexec hb hdg ht (fun h => kt ((lg_cmp_gt x y).mp h)) (fun h => kf (fun q => h ((lg_cmp_gt x y).mpr q)))
theorem lb_le {cc : ByteArray} (hexec : p.tables.exec = Jvm.exec) (hb : c.code = cc) {x y : Int64} {off : Int} {tgt : Nat} (hdg : decode cc pc = .ok (.ifCond .le off, 3)) (ht : (pc : Int) + off = (tgt : Int)) (kt : x ≤ y → W p l e R s m args below meth c H locs cells slots Q (F0 m tgt ls rest)) (kf : ¬ x ≤ y → W p l e R s m args below meth c H locs cells slots Q (F0 m (pc + 3) ls rest)) : W p l e R s m args below meth c H locs cells slots Q (F0 m pc ls (.int (lg_cmp x y) :: rest)) := lv_if_le hexec hb hdg ht (fun h => kt ((lg_cmp_le x y).mp h)) (fun h => kf (fun q => h ((lg_cmp_le x y).mpr q)))
theorem lb_eq {cc : ByteArray} (hexec : p.tables.exec = Jvm.exec) (hb : c.code = cc) {x y : Int64} {off : Int} {tgt : Nat} (hdg : decode cc pc = .ok (.ifCond .eq off, 3)) (ht : (pc : Int) + off = (tgt : Int)) (kt : x = y → W p l e R s m args below meth c H locs cells slots Q (F0 m tgt ls rest)) (kf : ¬ x = y → W p l e R s m args below meth c H locs cells slots Q (F0 m (pc + 3) ls rest)) : W p l e R s m args below meth c H locs cells slots Q (F0 m pc ls (.int (lg_cmp x y) :: rest)) := lv_if_eq hexec hb hdg ht (fun h => kt ((lg_cmp_eq x y).mp h)) (fun h => kf (fun q => h ((lg_cmp_eq x y).mpr q)))
theorem lb_ne {cc : ByteArray} (hexec : p.tables.exec = Jvm.exec) (hb : c.code = cc) {x y : Int64} {off : Int} {tgt : Nat} (hdg : decode cc pc = .ok (.ifCond .ne off, 3)) (ht : (pc : Int) + off = (tgt : Int)) (kt : ¬ x = y → W p l e R s m args below meth c H locs cells slots Q (F0 m tgt ls rest)) (kf : x = y → W p l e R s m args below meth c H locs cells slots Q (F0 m (pc + 3) ls rest)) : W p l e R s m args below meth c H locs cells slots Q (F0 m pc ls (.int (lg_cmp x y) :: rest)) := lv_if_ne hexec hb hdg ht (fun h => kt (fun q => h ((lg_cmp_eq x y).mpr q))) (fun h => kf ((lg_cmp_eq x y).mp h))
end RWC
theorem ty_one {G : va_G} {tys : List (ClassId × FieldType)} {U : State} {i j : Nat} {c1 c2 : ClassId} {ty : FieldType} (hK : va_K G vwCl tys U) (h1 : tys[i]? = some (c1, ty)) (h2 : tys[j]? = some (c2, ty)) : c1 = c2 := by
  have g1 := (hK.2 i _ h1).2
  have g2 := (hK.2 j _ h2).2
  cases ty with
  | object C =>
    obtain ⟨_, _, _, _, _, e1⟩ := g1
    obtain ⟨_, _, _, _, _, e2⟩ := g2
    exact Option.some.inj (e1.symm.trans e2)
  | _ => exact Option.some.inj (Eq.trans (Eq.symm g1) g2)
theorem i_lt {x y : Int32} (h : x < y) : x.toInt < y.toInt := Int32.lt_iff_toInt_lt.mp h
theorem i_nlt {x y : Int32} (h : ¬ x < y) : y.toInt ≤ x.toInt := by rw [Int32.lt_iff_toInt_lt] at h; omega
theorem i_le {x y : Int32} (h : x ≤ y) : x.toInt ≤ y.toInt := Int32.le_iff_toInt_le.mp h
theorem i_nle {x y : Int32} (h : ¬ x ≤ y) : y.toInt < x.toInt := by rw [Int32.le_iff_toInt_le] at h; omega
theorem i_eq {x y : Int32} (h : x = y) : x.toInt = y.toInt := by rw [h]
theorem i_ne {x y : Int32} (h : ¬ x = y) : x.toInt ≠ y.toInt := fun q => h (Int32.toInt_inj.mp q)
theorem l_lt {x y : Int64} (h : x < y) : x.toInt < y.toInt := Int64.lt_iff_toInt_lt.mp h
theorem l_nlt {x y : Int64} (h : ¬ x < y) : y.toInt ≤ x.toInt := by rw [Int64.lt_iff_toInt_lt] at h; omega
theorem l_le {x y : Int64} (h : x ≤ y) : x.toInt ≤ y.toInt := Int64.le_iff_toInt_le.mp h
theorem l_nle {x y : Int64} (h : ¬ x ≤ y) : y.toInt < x.toInt := by rw [Int64.le_iff_toInt_le] at h; omega
theorem l_eq {x y : Int64} (h : x = y) : x.toInt = y.toInt := by rw [h]
theorem l_ne {x y : Int64} (h : ¬ x = y) : x.toInt ≠ y.toInt := fun q => h (Int64.toInt_inj.mp q)
theorem e_of {x y : Int32} (h : x.toInt = y.toInt) : x = y := Int32.toInt_inj.mp h
theorem sp3 {x : Int32} (h0 : 0 ≤ x.toInt) (h1 : x.toInt < 3) : x = 0 ∨ x = 1 ∨ x = 2 := by
  rcases (show x.toInt = 0 ∨ x.toInt = 1 ∨ x.toInt = 2 by omega) with h | h | h
  · exact Or.inl (e_of h)
  · exact Or.inr (Or.inl (e_of h))
  · exact Or.inr (Or.inr (e_of h))
theorem sp4 {x : Int32} (h0 : 0 ≤ x.toInt) (h1 : x.toInt < 4) : x = 0 ∨ x = 1 ∨ x = 2 ∨ x = 3 := by
  rcases (show x.toInt = 0 ∨ x.toInt = 1 ∨ x.toInt = 2 ∨ x.toInt = 3 by omega) with h | h | h | h
  · exact Or.inl (e_of h)
  · exact Or.inr (Or.inl (e_of h))
  · exact Or.inr (Or.inr (Or.inl (e_of h)))
  · exact Or.inr (Or.inr (Or.inr (e_of h)))
theorem inc1 (k : Nat) : nI k + Int32.ofInt 1 = nI (k + 1) := nI_add k 1
theorem inc3 (k : Nat) : nI k + Int32.ofInt 3 = nI (k + 3) := nI_add k 3
theorem inc6 (k : Nat) : nI k + Int32.ofInt 6 = nI (k + 6) := nI_add k 6
theorem in_lit {x : Int32} {n : Nat} (h : ¬ (x < 0 ∨ n ≤ x.toNatClampNeg)) : vp_in x n := h
theorem in_of {x : Int32} {n : Nat} (h0 : 0 ≤ x.toInt) (h1 : x.toInt < n) : vp_in x n := vp_in_iff.mpr ⟨h0, h1⟩
