
theorem wj_back {G : va_G} {A : Nat → Prop} {ws wc wr w1 : va_W} {H H1 : Heap} (hP : va_P G vwCl ws H) (hD : va_D A ws) (isC isR : List Nat) (hC : isC.map (fun i => ws[i]?) = wc.map some) (hR : isR.map (fun i => ws[i]?) = wr.map some) (hn : va_nd (isR ++ isC) = true) (ha : w1.map (·.1) = wc.map (·.1)) (hk : ∀ q : Nat, q < H.size → ¬ aset wc q → H1[q]? = H[q]?) (hP1 : va_P G vwCl w1 H1) : va_P G vwCl (wr ++ w1) H1 ∧ va_D A (wr ++ w1) := by
  have hDD : va_D A (wr ++ wc) := hD.sub (isR ++ isC) hn (by rw [List.map_append, hR, hC, List.map_append])
  refine ⟨va_P.app (fun k q hq => ?_) hP1, hDD.ad (by rw [List.map_append, List.map_append, ha])⟩
  have h1 : (isR.map (fun i => ws[i]?))[k]? = some (some q) := by rw [hR, List.getElem?_map, hq]; rfl
  rw [List.getElem?_map] at h1
  cases hi : isR[k]? with
  | none => rw [hi] at h1; cases h1
  | some i =>
    rw [hi] at h1
    have h2 := hP i q (Option.some.inj h1)
    refine h2.kept (hk q.1 h2.lt (fun h => ?_))
    obtain ⟨j, e, hj⟩ := h
    have hlt : k < wr.length := (List.getElem?_eq_some_iff.mp hq).1
    have g1 : (wr ++ wc)[k]? = some q := by rw [List.getElem?_append_left hlt]; exact hq
    have g2 : (wr ++ wc)[wr.length + j]? = some (q.1, e) := by rw [List.getElem?_append_right (by omega)]; rw [show wr.length + j - wr.length = j by omega]; exact hj
    have := hDD.1 k (wr.length + j) q (q.1, e) g1 g2 rfl
    omega
section RWJ
variable {p : Program} {l : Launch} {e : Env} {R : Room} {s : State} {m : MethodId} {args : Array Value} {below : List Frame} {meth : Method} {c : Code} {H : Heap} {locs : List Loc} {cells slots : Nat} {Q : State → Prop}
variable {pc : Nat} {ls : Array Slot} {rest st0 : List Value} {a : Array Value} {A0 : Nat → Prop} {H0 : Heap} {G : va_G}
theorem wj_calli {S : Type} {post : Int32 → S → Prop} {w1 : S → va_W} {ws wc wr : va_W} (hr : va_Run p l e R s m args below meth c H locs cells slots 0 0 (F0 m pc ls st0) rest (va_Qi post (fun u t => va_P G vwCl (w1 u) t.heap) (aset wc) a) (aset wc)) (hS : va_S A0 H0 H locs) (hP : va_P G vwCl ws H) (hD : va_D A0 ws) (isC isR : List Nat) (hC : isC.map (fun i => ws[i]?) = wc.map some) (hR : isR.map (fun i => ws[i]?) = wr.map some) (hn : va_nd (isR ++ isC) = true) (ha : ∀ u, (w1 u).map (·.1) = wc.map (·.1))
    (kk : ∀ (r : Int32) (u : S) (H1 : Heap) (locs1 : List Loc), post r u → va_P G vwCl (wr ++ w1 u) H1 → va_D A0 (wr ++ w1 u) → va_S A0 H0 H1 locs1 → W p l e R s m args below meth c H1 locs1 cells slots Q (F0 m (pc + 3) ls (.int r :: rest))) : W p l e R s m args below meth c H locs cells slots Q (F0 m pc ls st0) :=
  va_calli hr hS (fun q _ h => aset_in hD isC hC q h) (fun q h => aset_in hD isC hC q h) (fun r u t H1 locs1 ht hvm hw hB hz hk hS1 => by
    have hb := wj_back hP hD isC isR hC hR hn (ha u) hk (by rw [← ht]; exact hB)
    exact kk r u H1 locs1 hw hb.1 hb.2 hS1)
theorem wj_callv {S : Type} {post : S → Prop} {w1 : S → va_W} {ws wc wr : va_W} (hr : va_Run p l e R s m args below meth c H locs cells slots 0 0 (F0 m pc ls st0) rest (va_Qv post (fun u t => va_P G vwCl (w1 u) t.heap) (aset wc) a) (aset wc)) (hS : va_S A0 H0 H locs) (hP : va_P G vwCl ws H) (hD : va_D A0 ws) (isC isR : List Nat) (hC : isC.map (fun i => ws[i]?) = wc.map some) (hR : isR.map (fun i => ws[i]?) = wr.map some) (hn : va_nd (isR ++ isC) = true) (ha : ∀ u, (w1 u).map (·.1) = wc.map (·.1))
    (kk : ∀ (u : S) (H1 : Heap) (locs1 : List Loc), post u → va_P G vwCl (wr ++ w1 u) H1 → va_D A0 (wr ++ w1 u) → va_S A0 H0 H1 locs1 → W p l e R s m args below meth c H1 locs1 cells slots Q (F0 m (pc + 3) ls rest)) : W p l e R s m args below meth c H locs cells slots Q (F0 m pc ls st0) :=
  va_callv hr hS (fun q _ h => aset_in hD isC hC q h) (fun q h => aset_in hD isC hC q h) (fun u t H1 locs1 ht hvm hw hB hz hk hS1 => by
    have hb := wj_back hP hD isC isR hC hR hn (ha u) hk (by rw [← ht]; exact hB)
    exact kk u H1 locs1 hw hb.1 hb.2 hS1)
end RWJ
