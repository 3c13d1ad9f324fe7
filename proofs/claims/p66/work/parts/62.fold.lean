
def uv (v : Nat → Nat → Int32) : List (Nat × Nat × Int32) → Nat → Nat → Int32
  | [] => v
  | q :: L => fun a b => if a = q.1 then (if b = q.2.1 then q.2.2 else uv v L a b) else uv v L a b
def uf {α : Type} (f : Nat → α) : List (Nat × α) → Nat → α
  | [] => f
  | q :: L => fun a => if a = q.1 then q.2 else uf f L a
theorem uv_no {v : Nat → Nat → Int32} {k : Nat} : ∀ {L : List (Nat × Nat × Int32)}, L.all (fun q => !(q.1 == k)) = true → uv v L k = v k
  | [], _ => rfl
  | q :: L, h => by
    rw [List.all_cons, Bool.and_eq_true] at h
    funext b
    show (if k = q.1 then _ else uv v L k b) = _
    rw [if_neg (fun e => by rw [e] at h; simp at h), uv_no h.2]
theorem uf_no {α : Type} {f : Nat → α} {k : Nat} : ∀ {L : List (Nat × α)}, L.all (fun q => !(q.1 == k)) = true → uf f L k = f k
  | [], _ => rfl
  | q :: L, h => by
    rw [List.all_cons, Bool.and_eq_true] at h
    show (if k = q.1 then _ else uf f L k) = _
    rw [if_neg (fun e => by rw [e] at h; simp at h), uf_no h.2]
theorem uv_st {v : Nat → Nat → Int32} {k : Nat} {I : List Nat} (hk : I.contains k = false) : ∀ {L : List (Nat × Nat × Int32)}, L.all (fun q => I.contains q.1) = true → uv v L k = v k
  | [], _ => rfl
  | q :: L, h => by
    rw [List.all_cons, Bool.and_eq_true] at h
    funext b
    show (if k = q.1 then _ else uv v L k b) = _
    rw [if_neg (fun e => by rw [e, h.1] at hk; cases hk), uv_st hk h.2]
theorem uf_st {α : Type} {f : Nat → α} {k : Nat} {I : List Nat} (hk : I.contains k = false) : ∀ {L : List (Nat × α)}, L.all (fun q => I.contains q.1) = true → uf f L k = f k
  | [], _ => rfl
  | q :: L, h => by
    rw [List.all_cons, Bool.and_eq_true] at h
    show (if k = q.1 then _ else uf f L k) = _
    rw [if_neg (fun e => by rw [e, h.1] at hk; cases hk), uf_st hk h.2]
theorem xW_ad (a rr : Nat → Nat) (ct : Nat → ClassId) (v v9 : Nat → Nat → Int32) (f f9 : Nat → Nat → Int32) (g g9 : Nat → Nat → Int64) : (xW a rr ct v9 f9 g9).map (·.1) = (xW a rr ct v f g).map (·.1) := rfl
theorem mW_ad (bm : Nat → Nat) (ct : Nat → ClassId) (v v9 : Nat → Nat → Int32) (f f9 : Nat → Nat → Int32) (g g9 : Nat → Nat → Int64) : (mW bm ct v9 f9 g9).map (·.1) = (mW bm ct v f g).map (·.1) := rfl
theorem xW_same (a rr : Nat → Nat) (ct : Nat → ClassId) (v v' : Nat → Nat → Int32) (f f' : Nat → Nat → Int32) (g g' : Nat → Nat → Int64) (k : Nat) (hv : v' k = v k) (hf : f' k = f k) (hg : g' k = g k) : (xW a rr ct v' f' g')[k]? = (xW a rr ct v f g)[k]? := by
  match k, hv, hf, hg with
  | 0, hv, hf, hg => show some _ = some _; rfl
  | 1, hv, hf, hg => show some _ = some _; rw [hv]
  | 2, hv, hf, hg => show some _ = some _; rw [hf]
  | 3, hv, hf, hg => show some _ = some _; rw [hv]
  | 4, hv, hf, hg => show some _ = some _; rw [hv]
  | 5, hv, hf, hg => show some _ = some _; rw [hv]
  | 6, hv, hf, hg => show some _ = some _; rw [hf]
  | 7, hv, hf, hg => show some _ = some _; rw [hf]
  | 8, hv, hf, hg => show some _ = some _; rw [hf]
  | 9, hv, hf, hg => show some _ = some _; rw [hf]
  | 10, hv, hf, hg => show some _ = some _; rw [hf]
  | 11, hv, hf, hg => show some _ = some _; rw [hv]
  | 12, hv, hf, hg => show some _ = some _; rw [hv]
  | 13, hv, hf, hg => show some _ = some _; rw [hv]
  | 14, hv, hf, hg => show some _ = some _; rw [hf]
  | 15, hv, hf, hg => show some _ = some _; rw [hf]
  | 16, hv, hf, hg => show some _ = some _; rw [hf]
  | 17, hv, hf, hg => show some _ = some _; rw [hf]
  | 18, hv, hf, hg => show some _ = some _; rw [hf]
  | 19, hv, hf, hg => show some _ = some _; rw [hv]
  | 20, hv, hf, hg => show some _ = some _; rw [hv]
  | 21, hv, hf, hg => show some _ = some _; rw [hf]
  | 22, hv, hf, hg => show some _ = some _; rw [hf]
  | 23, hv, hf, hg => show some _ = some _; rw [hf]
  | 24, hv, hf, hg => show some _ = some _; rw [hf]
  | 25, hv, hf, hg => show some _ = some _; rfl
  | 26, hv, hf, hg => show some _ = some _; rw [hv]
  | 27, hv, hf, hg => show some _ = some _; rw [hv]
  | 28, hv, hf, hg => show some _ = some _; rw [hv]
  | 29, hv, hf, hg => show some _ = some _; rw [hf]
  | 30, hv, hf, hg => show some _ = some _; rw [hf]
  | 31, hv, hf, hg => show some _ = some _; rw [hf]
  | 32, hv, hf, hg => show some _ = some _; rw [hf]
  | 33, hv, hf, hg => show some _ = some _; rw [hf]
  | 34, hv, hf, hg => show some _ = some _; rw [hv]
  | 35, hv, hf, hg => show some _ = some _; rw [hv]
  | 36, hv, hf, hg => show some _ = some _; rw [hf]
  | 37, hv, hf, hg => show some _ = some _; rw [hf]
  | 38, hv, hf, hg => show some _ = some _; rw [hf]
  | 39, hv, hf, hg => show some _ = some _; rw [hf]
  | 40, hv, hf, hg => show some _ = some _; rw [hv]
  | 41, hv, hf, hg => show some _ = some _; rw [hv]
  | 42, hv, hf, hg => show some _ = some _; rw [hv]
  | 43, hv, hf, hg => show some _ = some _; rw [hf]
  | 44, hv, hf, hg => show some _ = some _; rw [hf]
  | 45, hv, hf, hg => show some _ = some _; rw [hf]
  | 46, hv, hf, hg => show some _ = some _; rw [hf]
  | 47, hv, hf, hg => show some _ = some _; rw [hf]
  | 48, hv, hf, hg => show some _ = some _; rw [hv]
  | 49, hv, hf, hg => show some _ = some _; rw [hv]
  | 50, hv, hf, hg => show some _ = some _; rw [hf]
  | 51, hv, hf, hg => show some _ = some _; rw [hf]
  | 52, hv, hf, hg => show some _ = some _; rw [hf]
  | 53, hv, hf, hg => show some _ = some _; rw [hf]
  | 54, hv, hf, hg => show some _ = some _; rw [hv]
  | 55, hv, hf, hg => show some _ = some _; rw [hv]
  | 56, hv, hf, hg => show some _ = some _; rw [hv]
  | 57, hv, hf, hg => show some _ = some _; rw [hf]
  | 58, hv, hf, hg => show some _ = some _; rw [hf]
  | 59, hv, hf, hg => show some _ = some _; rw [hf]
  | 60, hv, hf, hg => show some _ = some _; rw [hf]
  | 61, hv, hf, hg => show some _ = some _; rw [hf]
  | 62, hv, hf, hg => show some _ = some _; rw [hv]
  | 63, hv, hf, hg => show some _ = some _; rw [hv]
  | 64, hv, hf, hg => show some _ = some _; rw [hf]
  | 65, hv, hf, hg => show some _ = some _; rw [hf]
  | 66, hv, hf, hg => show some _ = some _; rw [hf]
  | 67, hv, hf, hg => show some _ = some _; rw [hf]
  | 68, hv, hf, hg => show some _ = some _; rw [hf]
  | 69, hv, hf, hg => show some _ = some _; rw [hv]
  | 70, hv, hf, hg => show some _ = some _; rfl
  | 71, hv, hf, hg => show some _ = some _; rw [hg]
  | 72, hv, hf, hg => show some _ = some _; rw [hg]
  | 73, hv, hf, hg => show some _ = some _; rw [hg]
  | 74, hv, hf, hg => show some _ = some _; rw [hg]
  | 75, hv, hf, hg => show some _ = some _; rw [hf]
  | 76, hv, hf, hg => show some _ = some _; rw [hf]
  | 77, hv, hf, hg => show some _ = some _; rw [hv]
  | 78, hv, hf, hg => show some _ = some _; rw [hv]
  | 79, hv, hf, hg => show some _ = some _; rw [hf]
  | 80, hv, hf, hg => show some _ = some _; rw [hf]
  | 81, hv, hf, hg => show some _ = some _; rw [hf]
  | 82, hv, hf, hg => show some _ = some _; rw [hv]
  | 83, hv, hf, hg => show some _ = some _; rw [hf]
  | 84, hv, hf, hg => show some _ = some _; rw [hg]
  | 85, hv, hf, hg => show some _ = some _; rw [hv]
  | 86, hv, hf, hg => show some _ = some _; rw [hf]
  | 87, hv, hf, hg => show some _ = some _; rw [hf]
  | 88, hv, hf, hg => show some _ = some _; rw [hv]
  | 89, hv, hf, hg => show some _ = some _; rw [hf]
  | 90, hv, hf, hg => show some _ = some _; rw [hf]
  | 91, hv, hf, hg => show some _ = some _; rw [hv]
  | 92, hv, hf, hg => show some _ = some _; rw [hf]
  | 93, hv, hf, hg => show some _ = some _; rw [hf]
  | 94, hv, hf, hg => show some _ = some _; rw [hf]
  | k + 95, _, _, _ => rfl
theorem mW_same (bm : Nat → Nat) (ct : Nat → ClassId) (v v' : Nat → Nat → Int32) (f f' : Nat → Nat → Int32) (g g' : Nat → Nat → Int64) (k : Nat) (hv : v' k = v k) (hf : f' k = f k) (hg : g' k = g k) : (mW bm ct v' f' g')[k]? = (mW bm ct v f g)[k]? := by
  match k, hv, hf, hg with
  | 0, hv, hf, hg => show some _ = some _; rw [hv, hg]
  | 1, hv, hf, hg => show some _ = some _; rw [hf]
  | 2, hv, hf, hg => show some _ = some _; rw [hf]
  | 3, hv, hf, hg => show some _ = some _; rw [hg]
  | 4, hv, hf, hg => show some _ = some _; rw [hg]
  | 5, hv, hf, hg => show some _ = some _; rw [hf]
  | 6, hv, hf, hg => show some _ = some _; rw [hf]
  | 7, hv, hf, hg => show some _ = some _; rw [hf]
  | 8, hv, hf, hg => show some _ = some _; rw [hf]
  | 9, hv, hf, hg => show some _ = some _; rw [hf]
  | 10, hv, hf, hg => show some _ = some _; rw [hf]
  | 11, hv, hf, hg => show some _ = some _; rw [hf]
  | 12, hv, hf, hg => show some _ = some _; rw [hf]
  | 13, hv, hf, hg => show some _ = some _; rw [hf]
  | 14, hv, hf, hg => show some _ = some _; rw [hf]
  | k + 15, _, _, _ => rfl
theorem va_P.left {G : va_G} {w1 w2 : va_W} {H : Heap} (h : va_P G vwCl (w1 ++ w2) H) : va_P G vwCl w1 H := fun k q hq => h k q (by rw [List.getElem?_append_left (List.getElem?_eq_some_iff.mp hq).1]; exact hq)
theorem va_P.right {G : va_G} {w1 w2 : va_W} {H : Heap} (h : va_P G vwCl (w1 ++ w2) H) : va_P G vwCl w2 H := fun k q hq => h (w1.length + k) q (by rw [List.getElem?_append_right (by omega), show w1.length + k - w1.length = k by omega]; exact hq)
def wset (a rr bm : Nat → Nat) (ct : Nat → ClassId) : Prop := ∀ q : Nat, aset (xW a rr ct (fun _ _ => 0) (fun _ _ => 0) (fun _ _ => 0)) q → ¬ aset (mW bm ct (fun _ _ => 0) (fun _ _ => 0) (fun _ _ => 0)) q
theorem aset_ad {w w' : va_W} (h : w'.map (·.1) = w.map (·.1)) {q : Nat} (hq : aset w' q) : aset w q := by
  obtain ⟨k, x, hk⟩ := hq
  have h1 : (w'.map (·.1))[k]? = some q := by rw [List.getElem?_map, hk]; rfl
  rw [h, List.getElem?_map] at h1
  cases hz : w[k]? with
  | none => rw [hz] at h1; cases h1
  | some z =>
    rw [hz] at h1
    have h2 : z.1 = q := Option.some.inj h1
    exact ⟨k, z.2, by rw [hz, ← h2]⟩
theorem fold_x {G : va_G} {A : Nat → Prop} {ws ws' wc w1 : va_W} {H H1 : Heap} (hP : va_P G vwCl ws H) (hD : va_D A ws) (isC : List Nat) (hC : isC.map (fun i => ws[i]?) = wc.map some) (hk : ∀ q : Nat, q < H.size → ¬ aset wc q → H1[q]? = H[q]?) (hP1 : va_P G vwCl w1 H1) (h1 : isC.map (fun i => ws'[i]?) = w1.map some) (h2 : ∀ k : Nat, isC.contains k = false → ws'[k]? = ws[k]?) : va_P G vwCl ws' H1 := by
  refine fun k q hq => ?_
  by_cases hm : k ∈ isC
  · obtain ⟨j, hj⟩ := List.getElem?_of_mem hm
    have e1 : (isC.map (fun i => ws'[i]?))[j]? = some (some q) := by rw [List.getElem?_map, hj]; simp [hq]
    rw [h1, List.getElem?_map] at e1
    cases hw : w1[j]? with
    | none => rw [hw] at e1; cases e1
    | some z => rw [hw] at e1; cases e1; exact hP1 j q hw
  · have e2 : ws[k]? = some q := by rw [← h2 k (by simpa using hm)]; exact hq
    refine (hP k q e2).kept (hk q.1 (hP k q e2).lt (fun h => ?_))
    obtain ⟨i, x, hi⟩ := h
    have e3 : (isC.map (fun i => ws[i]?))[i]? = some (some (q.1, x)) := by rw [hC, List.getElem?_map, hi]; rfl
    rw [List.getElem?_map] at e3
    cases hz : isC[i]? with
    | none => rw [hz] at e3; cases e3
    | some y =>
      rw [hz] at e3
      have e4 := hD.1 k y q (q.1, x) e2 (by simpa using e3) rfl
      subst e4
      exact hm (List.mem_of_getElem? hz)
section LWC
variable {p : Program} {l : Launch} {e : Env} {R : Room} {s : State} {m : MethodId} {args : Array Value} {below : List Frame} {meth : Method} {c : Code} {H : Heap} {locs : List Loc} {cells slots : Nat} {Q : State → Prop}
variable {pc : Nat} {ls : Array Slot} {rest st0 : List Value} {a : Array Value} {A0 : Nat → Prop} {H0 : Heap} {G : va_G}
theorem lw_callx {S : Type} {post : Int32 → S → Prop} {w1 : S → va_W} {ws wc wo : va_W} (hr : va_Run p l e R s m args below meth c H locs cells slots 0 0 (F0 m pc ls st0) rest (va_Qi post (fun u t => va_P G vwCl (w1 u) t.heap) (aset wc) a) (aset wc)) (hS : va_S A0 H0 H locs) (hP : va_P G vwCl ws H) (hD : va_D A0 ws) (hO : va_P G vwCl wo H) (hap : ∀ q, aset ws q → ¬ aset wo q) (isC : List Nat) (hC : isC.map (fun i => ws[i]?) = wc.map some)
    (kk : ∀ (r : Int32) (u : S) (H1 : Heap) (locs1 : List Loc), post r u → va_P G vwCl wo H1 → (∀ (ws' : va_W), isC.map (fun i => ws'[i]?) = (w1 u).map some → (∀ k : Nat, isC.contains k = false → ws'[k]? = ws[k]?) → va_P G vwCl ws' H1) → va_S A0 H0 H1 locs1 → W p l e R s m args below meth c H1 locs1 cells slots Q (F0 m (pc + 3) ls (.int r :: rest))) : W p l e R s m args below meth c H locs cells slots Q (F0 m pc ls st0) :=
  va_calli hr hS (fun q _ h => aset_in hD isC hC q h) (fun q h => aset_in hD isC hC q h) (fun r u t H1 locs1 ht hvm hw hB hz hk hS1 => kk r u H1 locs1 hw (hO.kept (fun k q h => hk q.1 (hO k q h).lt (fun z => by
    obtain ⟨i, x, hi⟩ := z
    have e3 : (isC.map (fun i => ws[i]?))[i]? = some (some (q.1, x)) := by rw [hC, List.getElem?_map, hi]; rfl
    rw [List.getElem?_map] at e3
    cases hy : isC[i]? with
    | none => rw [hy] at e3; cases e3
    | some y =>
      rw [hy] at e3
      exact hap q.1 ⟨y, x, by simpa using e3⟩ ⟨k, q.2, h⟩))) (fun ws' h1 h2 => fold_x hP hD isC hC hk (by rw [← ht]; exact hB) h1 h2) hS1)
end LWC
