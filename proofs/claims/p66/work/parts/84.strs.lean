
set_option maxHeartbeats 8000000 in
set_option maxRecDepth 100000 in
theorem law_strs {s : State} {b : Nat} (hts : ∀ w ∈ lw_tbl, w.before #[Value.ref b] s = true) (hgv : (Jvm.Cond.and given_1 narrow_1).before #[Value.ref b] s = true) : ∃ adK adV : Nat → Nat, SS adK adV (fun q : Nat => s.heap.size ≤ q) s s.heap := by
  have hs := flat_of_before _ hgv
  have hA : ∀ a : Nat, a < s.heap.size → ¬ (fun q : Nat => s.heap.size ≤ q) a := fun a h => Nat.not_le.mpr h
  have hex : ∀ i : Nat, i < 9 → (Cond.exactly (Term.string RX5 (sIx i)) "java/lang/String").before #[Value.ref b] s = true := fun i hi => by
    match i, hi with
    | 0, _ => exact hs (Cond.exactly (Term.string "CardHolder$Reader" 47) "java/lang/String") (by decide +kernel)
    | 1, _ => exact hs (Cond.exactly (Term.string "CardHolder$Reader" 56) "java/lang/String") (by decide +kernel)
    | 2, _ => exact hs (Cond.exactly (Term.string "CardHolder$Reader" 68) "java/lang/String") (by decide +kernel)
    | 3, _ => exact hs (Cond.exactly (Term.string "CardHolder$Reader" 74) "java/lang/String") (by decide +kernel)
    | 4, _ => exact hs (Cond.exactly (Term.string "CardHolder$Reader" 91) "java/lang/String") (by decide +kernel)
    | 5, _ => exact hs (Cond.exactly (Term.string "CardHolder$Reader" 93) "java/lang/String") (by decide +kernel)
    | 6, _ => exact hs (Cond.exactly (Term.string "CardHolder$Reader" 99) "java/lang/String") (by decide +kernel)
    | 7, _ => exact hs (Cond.exactly (Term.string "CardHolder$Reader" 112) "java/lang/String") (by decide +kernel)
    | 8, _ => exact hs (Cond.exactly (Term.string "CardHolder$Reader" 122) "java/lang/String") (by decide +kernel)
    | i + 9, hi => exact absurd hi (by omega)
  have hco : ∀ i : Nat, i < 9 → (Cond.eq (.field (Term.string RX5 (sIx i)) "java/lang/String" "coder" "B") (.int 0)).before #[Value.ref b] s = true := fun i hi => by
    match i, hi with
    | 0, _ => exact hs (Cond.eq (.field (Term.string "CardHolder$Reader" 47) "java/lang/String" "coder" "B") (.int 0)) (by decide +kernel)
    | 1, _ => exact hs (Cond.eq (.field (Term.string "CardHolder$Reader" 56) "java/lang/String" "coder" "B") (.int 0)) (by decide +kernel)
    | 2, _ => exact hs (Cond.eq (.field (Term.string "CardHolder$Reader" 68) "java/lang/String" "coder" "B") (.int 0)) (by decide +kernel)
    | 3, _ => exact hs (Cond.eq (.field (Term.string "CardHolder$Reader" 74) "java/lang/String" "coder" "B") (.int 0)) (by decide +kernel)
    | 4, _ => exact hs (Cond.eq (.field (Term.string "CardHolder$Reader" 91) "java/lang/String" "coder" "B") (.int 0)) (by decide +kernel)
    | 5, _ => exact hs (Cond.eq (.field (Term.string "CardHolder$Reader" 93) "java/lang/String" "coder" "B") (.int 0)) (by decide +kernel)
    | 6, _ => exact hs (Cond.eq (.field (Term.string "CardHolder$Reader" 99) "java/lang/String" "coder" "B") (.int 0)) (by decide +kernel)
    | 7, _ => exact hs (Cond.eq (.field (Term.string "CardHolder$Reader" 112) "java/lang/String" "coder" "B") (.int 0)) (by decide +kernel)
    | 8, _ => exact hs (Cond.eq (.field (Term.string "CardHolder$Reader" 122) "java/lang/String" "coder" "B") (.int 0)) (by decide +kernel)
    | i + 9, hi => exact absurd hi (by omega)
  have har : ∀ i : Nat, i < 9 → (Cond.arrayOf (.field (Term.string RX5 (sIx i)) "java/lang/String" "value" "[B") .byte).before #[Value.ref b] s = true := fun i hi => by
    match i, hi with
    | 0, _ => exact hs (Cond.arrayOf (.field (Term.string "CardHolder$Reader" 47) "java/lang/String" "value" "[B") .byte) (by decide +kernel)
    | 1, _ => exact hs (Cond.arrayOf (.field (Term.string "CardHolder$Reader" 56) "java/lang/String" "value" "[B") .byte) (by decide +kernel)
    | 2, _ => exact hs (Cond.arrayOf (.field (Term.string "CardHolder$Reader" 68) "java/lang/String" "value" "[B") .byte) (by decide +kernel)
    | 3, _ => exact hs (Cond.arrayOf (.field (Term.string "CardHolder$Reader" 74) "java/lang/String" "value" "[B") .byte) (by decide +kernel)
    | 4, _ => exact hs (Cond.arrayOf (.field (Term.string "CardHolder$Reader" 91) "java/lang/String" "value" "[B") .byte) (by decide +kernel)
    | 5, _ => exact hs (Cond.arrayOf (.field (Term.string "CardHolder$Reader" 93) "java/lang/String" "value" "[B") .byte) (by decide +kernel)
    | 6, _ => exact hs (Cond.arrayOf (.field (Term.string "CardHolder$Reader" 99) "java/lang/String" "value" "[B") .byte) (by decide +kernel)
    | 7, _ => exact hs (Cond.arrayOf (.field (Term.string "CardHolder$Reader" 112) "java/lang/String" "value" "[B") .byte) (by decide +kernel)
    | 8, _ => exact hs (Cond.arrayOf (.field (Term.string "CardHolder$Reader" 122) "java/lang/String" "value" "[B") .byte) (by decide +kernel)
    | i + 9, hi => exact absurd hi (by omega)
  have hle : ∀ i : Nat, i < 9 → (Cond.eq (.length (.field (Term.string RX5 (sIx i)) "java/lang/String" "value" "[B")) (.int (Int32.ofNat (sLen.getD i 0)))).before #[Value.ref b] s = true := fun i hi => by
    match i, hi with
    | 0, _ => exact hs (Cond.eq (.length (.field (Term.string "CardHolder$Reader" 47) "java/lang/String" "value" "[B")) (.int 6)) (by decide +kernel)
    | 1, _ => exact hs (Cond.eq (.length (.field (Term.string "CardHolder$Reader" 56) "java/lang/String" "value" "[B")) (.int 4)) (by decide +kernel)
    | 2, _ => exact hs (Cond.eq (.length (.field (Term.string "CardHolder$Reader" 68) "java/lang/String" "value" "[B")) (.int 4)) (by decide +kernel)
    | 3, _ => exact hs (Cond.eq (.length (.field (Term.string "CardHolder$Reader" 74) "java/lang/String" "value" "[B")) (.int 4)) (by decide +kernel)
    | 4, _ => exact hs (Cond.eq (.length (.field (Term.string "CardHolder$Reader" 91) "java/lang/String" "value" "[B")) (.int 5)) (by decide +kernel)
    | 5, _ => exact hs (Cond.eq (.length (.field (Term.string "CardHolder$Reader" 93) "java/lang/String" "value" "[B")) (.int 4)) (by decide +kernel)
    | 6, _ => exact hs (Cond.eq (.length (.field (Term.string "CardHolder$Reader" 99) "java/lang/String" "value" "[B")) (.int 6)) (by decide +kernel)
    | 7, _ => exact hs (Cond.eq (.length (.field (Term.string "CardHolder$Reader" 112) "java/lang/String" "value" "[B")) (.int 2)) (by decide +kernel)
    | 8, _ => exact hs (Cond.eq (.length (.field (Term.string "CardHolder$Reader" 122) "java/lang/String" "value" "[B")) (.int 6)) (by decide +kernel)
    | i + 9, hi => exact absurd hi (by omega)
  have hel : ∀ i : Nat, i < 9 → ∀ j : Nat, j < sLen.getD i 0 → (Cond.eq (.elem (.field (Term.string RX5 (sIx i)) "java/lang/String" "value" "[B") (.int (Int32.ofNat j))) (.int ((sByt.getD i []).getD j 0))).before #[Value.ref b] s = true := fun i hi => by
    match i, hi with
    | 0, _ =>
      intro j hj
      match j, hj with
      | 0, _ => exact hs (Cond.eq (.elem (.field (Term.string "CardHolder$Reader" 47) "java/lang/String" "value" "[B") (.int 0)) (.int 112)) (by decide +kernel)
      | 1, _ => exact hs (Cond.eq (.elem (.field (Term.string "CardHolder$Reader" 47) "java/lang/String" "value" "[B") (.int 1)) (.int 101)) (by decide +kernel)
      | 2, _ => exact hs (Cond.eq (.elem (.field (Term.string "CardHolder$Reader" 47) "java/lang/String" "value" "[B") (.int 2)) (.int 114)) (by decide +kernel)
      | 3, _ => exact hs (Cond.eq (.elem (.field (Term.string "CardHolder$Reader" 47) "java/lang/String" "value" "[B") (.int 3)) (.int 115)) (by decide +kernel)
      | 4, _ => exact hs (Cond.eq (.elem (.field (Term.string "CardHolder$Reader" 47) "java/lang/String" "value" "[B") (.int 4)) (.int 111)) (by decide +kernel)
      | 5, _ => exact hs (Cond.eq (.elem (.field (Term.string "CardHolder$Reader" 47) "java/lang/String" "value" "[B") (.int 5)) (.int 110)) (by decide +kernel)
      | j + 6, hj => exact absurd (show j + 6 < 6 from hj) (by omega)
    | 1, _ =>
      intro j hj
      match j, hj with
      | 0, _ => exact hs (Cond.eq (.elem (.field (Term.string "CardHolder$Reader" 56) "java/lang/String" "value" "[B") (.int 0)) (.int 99)) (by decide +kernel)
      | 1, _ => exact hs (Cond.eq (.elem (.field (Term.string "CardHolder$Reader" 56) "java/lang/String" "value" "[B") (.int 1)) (.int 97)) (by decide +kernel)
      | 2, _ => exact hs (Cond.eq (.elem (.field (Term.string "CardHolder$Reader" 56) "java/lang/String" "value" "[B") (.int 2)) (.int 114)) (by decide +kernel)
      | 3, _ => exact hs (Cond.eq (.elem (.field (Term.string "CardHolder$Reader" 56) "java/lang/String" "value" "[B") (.int 3)) (.int 100)) (by decide +kernel)
      | j + 4, hj => exact absurd (show j + 4 < 4 from hj) (by omega)
    | 2, _ =>
      intro j hj
      match j, hj with
      | 0, _ => exact hs (Cond.eq (.elem (.field (Term.string "CardHolder$Reader" 68) "java/lang/String" "value" "[B") (.int 0)) (.int 99)) (by decide +kernel)
      | 1, _ => exact hs (Cond.eq (.elem (.field (Term.string "CardHolder$Reader" 68) "java/lang/String" "value" "[B") (.int 1)) (.int 105)) (by decide +kernel)
      | 2, _ => exact hs (Cond.eq (.elem (.field (Term.string "CardHolder$Reader" 68) "java/lang/String" "value" "[B") (.int 2)) (.int 116)) (by decide +kernel)
      | 3, _ => exact hs (Cond.eq (.elem (.field (Term.string "CardHolder$Reader" 68) "java/lang/String" "value" "[B") (.int 3)) (.int 121)) (by decide +kernel)
      | j + 4, hj => exact absurd (show j + 4 < 4 from hj) (by omega)
    | 3, _ =>
      intro j hj
      match j, hj with
      | 0, _ => exact hs (Cond.eq (.elem (.field (Term.string "CardHolder$Reader" 74) "java/lang/String" "value" "[B") (.int 0)) (.int 119)) (by decide +kernel)
      | 1, _ => exact hs (Cond.eq (.elem (.field (Term.string "CardHolder$Reader" 74) "java/lang/String" "value" "[B") (.int 1)) (.int 101)) (by decide +kernel)
      | 2, _ => exact hs (Cond.eq (.elem (.field (Term.string "CardHolder$Reader" 74) "java/lang/String" "value" "[B") (.int 2)) (.int 97)) (by decide +kernel)
      | 3, _ => exact hs (Cond.eq (.elem (.field (Term.string "CardHolder$Reader" 74) "java/lang/String" "value" "[B") (.int 3)) (.int 114)) (by decide +kernel)
      | j + 4, hj => exact absurd (show j + 4 < 4 from hj) (by omega)
    | 4, _ =>
      intro j hj
      match j, hj with
      | 0, _ => exact hs (Cond.eq (.elem (.field (Term.string "CardHolder$Reader" 91) "java/lang/String" "value" "[B") (.int 0)) (.int 119)) (by decide +kernel)
      | 1, _ => exact hs (Cond.eq (.elem (.field (Term.string "CardHolder$Reader" 91) "java/lang/String" "value" "[B") (.int 1)) (.int 111)) (by decide +kernel)
      | 2, _ => exact hs (Cond.eq (.elem (.field (Term.string "CardHolder$Reader" 91) "java/lang/String" "value" "[B") (.int 2)) (.int 114)) (by decide +kernel)
      | 3, _ => exact hs (Cond.eq (.elem (.field (Term.string "CardHolder$Reader" 91) "java/lang/String" "value" "[B") (.int 3)) (.int 116)) (by decide +kernel)
      | 4, _ => exact hs (Cond.eq (.elem (.field (Term.string "CardHolder$Reader" 91) "java/lang/String" "value" "[B") (.int 4)) (.int 104)) (by decide +kernel)
      | j + 5, hj => exact absurd (show j + 5 < 5 from hj) (by omega)
    | 5, _ =>
      intro j hj
      match j, hj with
      | 0, _ => exact hs (Cond.eq (.elem (.field (Term.string "CardHolder$Reader" 93) "java/lang/String" "value" "[B") (.int 0)) (.int 100)) (by decide +kernel)
      | 1, _ => exact hs (Cond.eq (.elem (.field (Term.string "CardHolder$Reader" 93) "java/lang/String" "value" "[B") (.int 1)) (.int 111)) (by decide +kernel)
      | 2, _ => exact hs (Cond.eq (.elem (.field (Term.string "CardHolder$Reader" 93) "java/lang/String" "value" "[B") (.int 2)) (.int 101)) (by decide +kernel)
      | 3, _ => exact hs (Cond.eq (.elem (.field (Term.string "CardHolder$Reader" 93) "java/lang/String" "value" "[B") (.int 3)) (.int 115)) (by decide +kernel)
      | j + 4, hj => exact absurd (show j + 4 < 4 from hj) (by omega)
    | 6, _ =>
      intro j hj
      match j, hj with
      | 0, _ => exact hs (Cond.eq (.elem (.field (Term.string "CardHolder$Reader" 99) "java/lang/String" "value" "[B") (.int 0)) (.int 119)) (by decide +kernel)
      | 1, _ => exact hs (Cond.eq (.elem (.field (Term.string "CardHolder$Reader" 99) "java/lang/String" "value" "[B") (.int 1)) (.int 105)) (by decide +kernel)
      | 2, _ => exact hs (Cond.eq (.elem (.field (Term.string "CardHolder$Reader" 99) "java/lang/String" "value" "[B") (.int 2)) (.int 115)) (by decide +kernel)
      | 3, _ => exact hs (Cond.eq (.elem (.field (Term.string "CardHolder$Reader" 99) "java/lang/String" "value" "[B") (.int 3)) (.int 104)) (by decide +kernel)
      | 4, _ => exact hs (Cond.eq (.elem (.field (Term.string "CardHolder$Reader" 99) "java/lang/String" "value" "[B") (.int 4)) (.int 101)) (by decide +kernel)
      | 5, _ => exact hs (Cond.eq (.elem (.field (Term.string "CardHolder$Reader" 99) "java/lang/String" "value" "[B") (.int 5)) (.int 115)) (by decide +kernel)
      | j + 6, hj => exact absurd (show j + 6 < 6 from hj) (by omega)
    | 7, _ =>
      intro j hj
      match j, hj with
      | 0, _ => exact hs (Cond.eq (.elem (.field (Term.string "CardHolder$Reader" 112) "java/lang/String" "value" "[B") (.int 0)) (.int 116)) (by decide +kernel)
      | 1, _ => exact hs (Cond.eq (.elem (.field (Term.string "CardHolder$Reader" 112) "java/lang/String" "value" "[B") (.int 1)) (.int 111)) (by decide +kernel)
      | j + 2, hj => exact absurd (show j + 2 < 2 from hj) (by omega)
    | 8, _ =>
      intro j hj
      match j, hj with
      | 0, _ => exact hs (Cond.eq (.elem (.field (Term.string "CardHolder$Reader" 122) "java/lang/String" "value" "[B") (.int 0)) (.int 102)) (by decide +kernel)
      | 1, _ => exact hs (Cond.eq (.elem (.field (Term.string "CardHolder$Reader" 122) "java/lang/String" "value" "[B") (.int 1)) (.int 111)) (by decide +kernel)
      | 2, _ => exact hs (Cond.eq (.elem (.field (Term.string "CardHolder$Reader" 122) "java/lang/String" "value" "[B") (.int 2)) (.int 114)) (by decide +kernel)
      | 3, _ => exact hs (Cond.eq (.elem (.field (Term.string "CardHolder$Reader" 122) "java/lang/String" "value" "[B") (.int 3)) (.int 103)) (by decide +kernel)
      | 4, _ => exact hs (Cond.eq (.elem (.field (Term.string "CardHolder$Reader" 122) "java/lang/String" "value" "[B") (.int 4)) (.int 101)) (by decide +kernel)
      | 5, _ => exact hs (Cond.eq (.elem (.field (Term.string "CardHolder$Reader" 122) "java/lang/String" "value" "[B") (.int 5)) (.int 100)) (by decide +kernel)
      | j + 6, hj => exact absurd (show j + 6 < 6 from hj) (by omega)
    | i + 9, hi => exact absurd hi (by omega)
  have hne : ∀ i j : Nat, i < 9 → j < 9 → i ≠ j → (Cond.not (Cond.eq (Term.string RX5 (sIx i)) (Term.string RX5 (sIx j)))).before #[Value.ref b] s = true ∨ (Cond.not (Cond.eq (Term.string RX5 (sIx j)) (Term.string RX5 (sIx i)))).before #[Value.ref b] s = true := fun i j hi hj hij => by
    match i, hi, j, hj with
    | 0, _, 0, _ => exact absurd rfl hij
    | 0, _, 1, _ => exact Or.inl (hs (Cond.not (Cond.eq (Term.string "CardHolder$Reader" 47) (Term.string "CardHolder$Reader" 56))) (by decide +kernel))
    | 0, _, 2, _ => exact Or.inr (hs (Cond.not (Cond.eq (Term.string "CardHolder$Reader" 68) (Term.string "CardHolder$Reader" 47))) (by decide +kernel))
    | 0, _, 3, _ => exact Or.inr (hs (Cond.not (Cond.eq (Term.string "CardHolder$Reader" 74) (Term.string "CardHolder$Reader" 47))) (by decide +kernel))
    | 0, _, 4, _ => exact Or.inl (hs (Cond.not (Cond.eq (Term.string "CardHolder$Reader" 47) (Term.string "CardHolder$Reader" 91))) (by decide +kernel))
    | 0, _, 5, _ => exact Or.inl (hs (Cond.not (Cond.eq (Term.string "CardHolder$Reader" 47) (Term.string "CardHolder$Reader" 93))) (by decide +kernel))
    | 0, _, 6, _ => exact Or.inl (hs (Cond.not (Cond.eq (Term.string "CardHolder$Reader" 47) (Term.string "CardHolder$Reader" 99))) (by decide +kernel))
    | 0, _, 7, _ => exact Or.inl (hs (Cond.not (Cond.eq (Term.string "CardHolder$Reader" 47) (Term.string "CardHolder$Reader" 112))) (by decide +kernel))
    | 0, _, 8, _ => exact Or.inl (hs (Cond.not (Cond.eq (Term.string "CardHolder$Reader" 47) (Term.string "CardHolder$Reader" 122))) (by decide +kernel))
    | 1, _, 0, _ => exact Or.inr (hs (Cond.not (Cond.eq (Term.string "CardHolder$Reader" 47) (Term.string "CardHolder$Reader" 56))) (by decide +kernel))
    | 1, _, 1, _ => exact absurd rfl hij
    | 1, _, 2, _ => exact Or.inr (hs (Cond.not (Cond.eq (Term.string "CardHolder$Reader" 68) (Term.string "CardHolder$Reader" 56))) (by decide +kernel))
    | 1, _, 3, _ => exact Or.inr (hs (Cond.not (Cond.eq (Term.string "CardHolder$Reader" 74) (Term.string "CardHolder$Reader" 56))) (by decide +kernel))
    | 1, _, 4, _ => exact Or.inr (hs (Cond.not (Cond.eq (Term.string "CardHolder$Reader" 91) (Term.string "CardHolder$Reader" 56))) (by decide +kernel))
    | 1, _, 5, _ => exact Or.inr (hs (Cond.not (Cond.eq (Term.string "CardHolder$Reader" 93) (Term.string "CardHolder$Reader" 56))) (by decide +kernel))
    | 1, _, 6, _ => exact Or.inr (hs (Cond.not (Cond.eq (Term.string "CardHolder$Reader" 99) (Term.string "CardHolder$Reader" 56))) (by decide +kernel))
    | 1, _, 7, _ => exact Or.inl (hs (Cond.not (Cond.eq (Term.string "CardHolder$Reader" 56) (Term.string "CardHolder$Reader" 112))) (by decide +kernel))
    | 1, _, 8, _ => exact Or.inl (hs (Cond.not (Cond.eq (Term.string "CardHolder$Reader" 56) (Term.string "CardHolder$Reader" 122))) (by decide +kernel))
    | 2, _, 0, _ => exact Or.inl (hs (Cond.not (Cond.eq (Term.string "CardHolder$Reader" 68) (Term.string "CardHolder$Reader" 47))) (by decide +kernel))
    | 2, _, 1, _ => exact Or.inl (hs (Cond.not (Cond.eq (Term.string "CardHolder$Reader" 68) (Term.string "CardHolder$Reader" 56))) (by decide +kernel))
    | 2, _, 2, _ => exact absurd rfl hij
    | 2, _, 3, _ => exact Or.inl (hs (Cond.not (Cond.eq (Term.string "CardHolder$Reader" 68) (Term.string "CardHolder$Reader" 74))) (by decide +kernel))
    | 2, _, 4, _ => exact Or.inl (hs (Cond.not (Cond.eq (Term.string "CardHolder$Reader" 68) (Term.string "CardHolder$Reader" 91))) (by decide +kernel))
    | 2, _, 5, _ => exact Or.inl (hs (Cond.not (Cond.eq (Term.string "CardHolder$Reader" 68) (Term.string "CardHolder$Reader" 93))) (by decide +kernel))
    | 2, _, 6, _ => exact Or.inl (hs (Cond.not (Cond.eq (Term.string "CardHolder$Reader" 68) (Term.string "CardHolder$Reader" 99))) (by decide +kernel))
    | 2, _, 7, _ => exact Or.inl (hs (Cond.not (Cond.eq (Term.string "CardHolder$Reader" 68) (Term.string "CardHolder$Reader" 112))) (by decide +kernel))
    | 2, _, 8, _ => exact Or.inl (hs (Cond.not (Cond.eq (Term.string "CardHolder$Reader" 68) (Term.string "CardHolder$Reader" 122))) (by decide +kernel))
    | 3, _, 0, _ => exact Or.inl (hs (Cond.not (Cond.eq (Term.string "CardHolder$Reader" 74) (Term.string "CardHolder$Reader" 47))) (by decide +kernel))
    | 3, _, 1, _ => exact Or.inl (hs (Cond.not (Cond.eq (Term.string "CardHolder$Reader" 74) (Term.string "CardHolder$Reader" 56))) (by decide +kernel))
    | 3, _, 2, _ => exact Or.inr (hs (Cond.not (Cond.eq (Term.string "CardHolder$Reader" 68) (Term.string "CardHolder$Reader" 74))) (by decide +kernel))
    | 3, _, 3, _ => exact absurd rfl hij
    | 3, _, 4, _ => exact Or.inl (hs (Cond.not (Cond.eq (Term.string "CardHolder$Reader" 74) (Term.string "CardHolder$Reader" 91))) (by decide +kernel))
    | 3, _, 5, _ => exact Or.inl (hs (Cond.not (Cond.eq (Term.string "CardHolder$Reader" 74) (Term.string "CardHolder$Reader" 93))) (by decide +kernel))
    | 3, _, 6, _ => exact Or.inl (hs (Cond.not (Cond.eq (Term.string "CardHolder$Reader" 74) (Term.string "CardHolder$Reader" 99))) (by decide +kernel))
    | 3, _, 7, _ => exact Or.inl (hs (Cond.not (Cond.eq (Term.string "CardHolder$Reader" 74) (Term.string "CardHolder$Reader" 112))) (by decide +kernel))
    | 3, _, 8, _ => exact Or.inl (hs (Cond.not (Cond.eq (Term.string "CardHolder$Reader" 74) (Term.string "CardHolder$Reader" 122))) (by decide +kernel))
    | 4, _, 0, _ => exact Or.inr (hs (Cond.not (Cond.eq (Term.string "CardHolder$Reader" 47) (Term.string "CardHolder$Reader" 91))) (by decide +kernel))
    | 4, _, 1, _ => exact Or.inl (hs (Cond.not (Cond.eq (Term.string "CardHolder$Reader" 91) (Term.string "CardHolder$Reader" 56))) (by decide +kernel))
    | 4, _, 2, _ => exact Or.inr (hs (Cond.not (Cond.eq (Term.string "CardHolder$Reader" 68) (Term.string "CardHolder$Reader" 91))) (by decide +kernel))
    | 4, _, 3, _ => exact Or.inr (hs (Cond.not (Cond.eq (Term.string "CardHolder$Reader" 74) (Term.string "CardHolder$Reader" 91))) (by decide +kernel))
    | 4, _, 4, _ => exact absurd rfl hij
    | 4, _, 5, _ => exact Or.inl (hs (Cond.not (Cond.eq (Term.string "CardHolder$Reader" 91) (Term.string "CardHolder$Reader" 93))) (by decide +kernel))
    | 4, _, 6, _ => exact Or.inl (hs (Cond.not (Cond.eq (Term.string "CardHolder$Reader" 91) (Term.string "CardHolder$Reader" 99))) (by decide +kernel))
    | 4, _, 7, _ => exact Or.inl (hs (Cond.not (Cond.eq (Term.string "CardHolder$Reader" 91) (Term.string "CardHolder$Reader" 112))) (by decide +kernel))
    | 4, _, 8, _ => exact Or.inl (hs (Cond.not (Cond.eq (Term.string "CardHolder$Reader" 91) (Term.string "CardHolder$Reader" 122))) (by decide +kernel))
    | 5, _, 0, _ => exact Or.inr (hs (Cond.not (Cond.eq (Term.string "CardHolder$Reader" 47) (Term.string "CardHolder$Reader" 93))) (by decide +kernel))
    | 5, _, 1, _ => exact Or.inl (hs (Cond.not (Cond.eq (Term.string "CardHolder$Reader" 93) (Term.string "CardHolder$Reader" 56))) (by decide +kernel))
    | 5, _, 2, _ => exact Or.inr (hs (Cond.not (Cond.eq (Term.string "CardHolder$Reader" 68) (Term.string "CardHolder$Reader" 93))) (by decide +kernel))
    | 5, _, 3, _ => exact Or.inr (hs (Cond.not (Cond.eq (Term.string "CardHolder$Reader" 74) (Term.string "CardHolder$Reader" 93))) (by decide +kernel))
    | 5, _, 4, _ => exact Or.inr (hs (Cond.not (Cond.eq (Term.string "CardHolder$Reader" 91) (Term.string "CardHolder$Reader" 93))) (by decide +kernel))
    | 5, _, 5, _ => exact absurd rfl hij
    | 5, _, 6, _ => exact Or.inl (hs (Cond.not (Cond.eq (Term.string "CardHolder$Reader" 93) (Term.string "CardHolder$Reader" 99))) (by decide +kernel))
    | 5, _, 7, _ => exact Or.inl (hs (Cond.not (Cond.eq (Term.string "CardHolder$Reader" 93) (Term.string "CardHolder$Reader" 112))) (by decide +kernel))
    | 5, _, 8, _ => exact Or.inl (hs (Cond.not (Cond.eq (Term.string "CardHolder$Reader" 93) (Term.string "CardHolder$Reader" 122))) (by decide +kernel))
    | 6, _, 0, _ => exact Or.inr (hs (Cond.not (Cond.eq (Term.string "CardHolder$Reader" 47) (Term.string "CardHolder$Reader" 99))) (by decide +kernel))
    | 6, _, 1, _ => exact Or.inl (hs (Cond.not (Cond.eq (Term.string "CardHolder$Reader" 99) (Term.string "CardHolder$Reader" 56))) (by decide +kernel))
    | 6, _, 2, _ => exact Or.inr (hs (Cond.not (Cond.eq (Term.string "CardHolder$Reader" 68) (Term.string "CardHolder$Reader" 99))) (by decide +kernel))
    | 6, _, 3, _ => exact Or.inr (hs (Cond.not (Cond.eq (Term.string "CardHolder$Reader" 74) (Term.string "CardHolder$Reader" 99))) (by decide +kernel))
    | 6, _, 4, _ => exact Or.inr (hs (Cond.not (Cond.eq (Term.string "CardHolder$Reader" 91) (Term.string "CardHolder$Reader" 99))) (by decide +kernel))
    | 6, _, 5, _ => exact Or.inr (hs (Cond.not (Cond.eq (Term.string "CardHolder$Reader" 93) (Term.string "CardHolder$Reader" 99))) (by decide +kernel))
    | 6, _, 6, _ => exact absurd rfl hij
    | 6, _, 7, _ => exact Or.inl (hs (Cond.not (Cond.eq (Term.string "CardHolder$Reader" 99) (Term.string "CardHolder$Reader" 112))) (by decide +kernel))
    | 6, _, 8, _ => exact Or.inl (hs (Cond.not (Cond.eq (Term.string "CardHolder$Reader" 99) (Term.string "CardHolder$Reader" 122))) (by decide +kernel))
    | 7, _, 0, _ => exact Or.inr (hs (Cond.not (Cond.eq (Term.string "CardHolder$Reader" 47) (Term.string "CardHolder$Reader" 112))) (by decide +kernel))
    | 7, _, 1, _ => exact Or.inr (hs (Cond.not (Cond.eq (Term.string "CardHolder$Reader" 56) (Term.string "CardHolder$Reader" 112))) (by decide +kernel))
    | 7, _, 2, _ => exact Or.inr (hs (Cond.not (Cond.eq (Term.string "CardHolder$Reader" 68) (Term.string "CardHolder$Reader" 112))) (by decide +kernel))
    | 7, _, 3, _ => exact Or.inr (hs (Cond.not (Cond.eq (Term.string "CardHolder$Reader" 74) (Term.string "CardHolder$Reader" 112))) (by decide +kernel))
    | 7, _, 4, _ => exact Or.inr (hs (Cond.not (Cond.eq (Term.string "CardHolder$Reader" 91) (Term.string "CardHolder$Reader" 112))) (by decide +kernel))
    | 7, _, 5, _ => exact Or.inr (hs (Cond.not (Cond.eq (Term.string "CardHolder$Reader" 93) (Term.string "CardHolder$Reader" 112))) (by decide +kernel))
    | 7, _, 6, _ => exact Or.inr (hs (Cond.not (Cond.eq (Term.string "CardHolder$Reader" 99) (Term.string "CardHolder$Reader" 112))) (by decide +kernel))
    | 7, _, 7, _ => exact absurd rfl hij
    | 7, _, 8, _ => exact Or.inl (hs (Cond.not (Cond.eq (Term.string "CardHolder$Reader" 112) (Term.string "CardHolder$Reader" 122))) (by decide +kernel))
    | 8, _, 0, _ => exact Or.inr (hs (Cond.not (Cond.eq (Term.string "CardHolder$Reader" 47) (Term.string "CardHolder$Reader" 122))) (by decide +kernel))
    | 8, _, 1, _ => exact Or.inr (hs (Cond.not (Cond.eq (Term.string "CardHolder$Reader" 56) (Term.string "CardHolder$Reader" 122))) (by decide +kernel))
    | 8, _, 2, _ => exact Or.inr (hs (Cond.not (Cond.eq (Term.string "CardHolder$Reader" 68) (Term.string "CardHolder$Reader" 122))) (by decide +kernel))
    | 8, _, 3, _ => exact Or.inr (hs (Cond.not (Cond.eq (Term.string "CardHolder$Reader" 74) (Term.string "CardHolder$Reader" 122))) (by decide +kernel))
    | 8, _, 4, _ => exact Or.inr (hs (Cond.not (Cond.eq (Term.string "CardHolder$Reader" 91) (Term.string "CardHolder$Reader" 122))) (by decide +kernel))
    | 8, _, 5, _ => exact Or.inr (hs (Cond.not (Cond.eq (Term.string "CardHolder$Reader" 93) (Term.string "CardHolder$Reader" 122))) (by decide +kernel))
    | 8, _, 6, _ => exact Or.inr (hs (Cond.not (Cond.eq (Term.string "CardHolder$Reader" 99) (Term.string "CardHolder$Reader" 122))) (by decide +kernel))
    | 8, _, 7, _ => exact Or.inr (hs (Cond.not (Cond.eq (Term.string "CardHolder$Reader" 112) (Term.string "CardHolder$Reader" 122))) (by decide +kernel))
    | 8, _, 8, _ => exact absurd rfl hij
    | i + 9, hi, _, _ => exact absurd hi (by omega)
    | _, _, j + 9, hj => exact absurd hj (by omega)
  obtain ⟨adK, adV, hV, hE⟩ := vk_Sof (A := (fun q : Nat => s.heap.size ≤ q)) (N := 9) (tm := fun i => Term.string RX5 (sIx i)) (len := sLen) (byt := sByt) (fun i hi => by have := len_6 i hi; omega) hex hco har hle hel hne hA
  refine ⟨adK, adV, hV, va_Zof (hts (.laysStatic "java/lang/String" "COMPACT_STRINGS" "Z") (by decide +kernel)) (hts (.initialized "java/lang/String") (by decide +kernel)) (va_eqt (hs (Cond.eq (Term.static "java/lang/String" "COMPACT_STRINGS" "Z") (.int 1)) (by decide +kernel))) hA, va_Zqof (hts (.laysStatic "jdk/internal/util/Preconditions" "SIOOBE_FORMATTER" "Ljava/util/function/BiFunction;") (by decide +kernel)) (hts (.initialized "jdk/internal/util/Preconditions") (by decide +kernel)) (hs (Cond.isRef (Term.static "jdk/internal/util/Preconditions" "SIOOBE_FORMATTER" "Ljava/util/function/BiFunction;")) (by decide +kernel)) hA, fun k hk => ?_⟩
  have h1 : (Cond.stringRef RX5 (sIx k) (sTx k)).before #[Value.ref b] s = true := by
    match k, hk with
    | 0, _ => exact hts (.stringRef "CardHolder$Reader" 47 "person") (by decide +kernel)
    | 1, _ => exact hts (.stringRef "CardHolder$Reader" 56 "card") (by decide +kernel)
    | 2, _ => exact hts (.stringRef "CardHolder$Reader" 68 "city") (by decide +kernel)
    | 3, _ => exact hts (.stringRef "CardHolder$Reader" 74 "wear") (by decide +kernel)
    | 4, _ => exact hts (.stringRef "CardHolder$Reader" 91 "worth") (by decide +kernel)
    | 5, _ => exact hts (.stringRef "CardHolder$Reader" 93 "does") (by decide +kernel)
    | 6, _ => exact hts (.stringRef "CardHolder$Reader" 99 "wishes") (by decide +kernel)
    | 7, _ => exact hts (.stringRef "CardHolder$Reader" 112 "to") (by decide +kernel)
    | 8, _ => exact hts (.stringRef "CardHolder$Reader" 122 "forged") (by decide +kernel)
    | k + 9, hk => exact absurd hk (by omega)
  exact vk_R.of h1 (hE k hk)
