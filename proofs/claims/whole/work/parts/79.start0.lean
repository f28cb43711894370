/-! ===== the law's start: what the Statement gives ===== -/
def tmS (i : Nat) : Term := Term.string "FloeToFloe$Telling" ([70, 72, 74, 76, 78, 80].getD i 0)
set_option maxHeartbeats 8000000 in
set_option maxRecDepth 100000 in
theorem ex_start {s : State} {b : Nat} (hts : ∀ w ∈ lw_tbl, w.before #[Value.ref b] s = true) (hgv : (Jvm.Cond.and given_1 narrow_1).before #[Value.ref b] s = true) : ∃ sk : (Nat → Nat) × (Nat → Nat), EX sk (AW s) s s.heap := by
  have hs := flat_of_before _ hgv
  have hA : ∀ a : Nat, a < s.heap.size → ¬ AW s a := fun a h => Nat.not_le.mpr h
  have hex : ∀ i : Nat, i < 6 → (Cond.exactly (tmS i) "java/lang/String").before #[Value.ref b] s = true := by
    intro i hi
    match i, hi with
    | 0, _ => exact hs (Cond.exactly (Term.string "FloeToFloe$Telling" 70) "java/lang/String") (by decide +kernel)
    | 1, _ => exact hs (Cond.exactly (Term.string "FloeToFloe$Telling" 72) "java/lang/String") (by decide +kernel)
    | 2, _ => exact hs (Cond.exactly (Term.string "FloeToFloe$Telling" 74) "java/lang/String") (by decide +kernel)
    | 3, _ => exact hs (Cond.exactly (Term.string "FloeToFloe$Telling" 76) "java/lang/String") (by decide +kernel)
    | 4, _ => exact hs (Cond.exactly (Term.string "FloeToFloe$Telling" 78) "java/lang/String") (by decide +kernel)
    | 5, _ => exact hs (Cond.exactly (Term.string "FloeToFloe$Telling" 80) "java/lang/String") (by decide +kernel)
    | n + 6, hi => exact absurd hi (by omega)
  have hco : ∀ i : Nat, i < 6 → (Cond.eq (.field (tmS i) "java/lang/String" "coder" "B") (.int 0)).before #[Value.ref b] s = true := by
    intro i hi
    match i, hi with
    | 0, _ => exact hs (Cond.eq (.field (Term.string "FloeToFloe$Telling" 70) "java/lang/String" "coder" "B") (.int 0)) (by decide +kernel)
    | 1, _ => exact hs (Cond.eq (.field (Term.string "FloeToFloe$Telling" 72) "java/lang/String" "coder" "B") (.int 0)) (by decide +kernel)
    | 2, _ => exact hs (Cond.eq (.field (Term.string "FloeToFloe$Telling" 74) "java/lang/String" "coder" "B") (.int 0)) (by decide +kernel)
    | 3, _ => exact hs (Cond.eq (.field (Term.string "FloeToFloe$Telling" 76) "java/lang/String" "coder" "B") (.int 0)) (by decide +kernel)
    | 4, _ => exact hs (Cond.eq (.field (Term.string "FloeToFloe$Telling" 78) "java/lang/String" "coder" "B") (.int 0)) (by decide +kernel)
    | 5, _ => exact hs (Cond.eq (.field (Term.string "FloeToFloe$Telling" 80) "java/lang/String" "coder" "B") (.int 0)) (by decide +kernel)
    | n + 6, hi => exact absurd hi (by omega)
  have har : ∀ i : Nat, i < 6 → (Cond.arrayOf (.field (tmS i) "java/lang/String" "value" "[B") .byte).before #[Value.ref b] s = true := by
    intro i hi
    match i, hi with
    | 0, _ => exact hs (Cond.arrayOf (.field (Term.string "FloeToFloe$Telling" 70) "java/lang/String" "value" "[B") .byte) (by decide +kernel)
    | 1, _ => exact hs (Cond.arrayOf (.field (Term.string "FloeToFloe$Telling" 72) "java/lang/String" "value" "[B") .byte) (by decide +kernel)
    | 2, _ => exact hs (Cond.arrayOf (.field (Term.string "FloeToFloe$Telling" 74) "java/lang/String" "value" "[B") .byte) (by decide +kernel)
    | 3, _ => exact hs (Cond.arrayOf (.field (Term.string "FloeToFloe$Telling" 76) "java/lang/String" "value" "[B") .byte) (by decide +kernel)
    | 4, _ => exact hs (Cond.arrayOf (.field (Term.string "FloeToFloe$Telling" 78) "java/lang/String" "value" "[B") .byte) (by decide +kernel)
    | 5, _ => exact hs (Cond.arrayOf (.field (Term.string "FloeToFloe$Telling" 80) "java/lang/String" "value" "[B") .byte) (by decide +kernel)
    | n + 6, hi => exact absurd hi (by omega)
  have hle : ∀ i : Nat, i < 6 → (Cond.eq (.length (.field (tmS i) "java/lang/String" "value" "[B")) (.int (Int32.ofNat (lenS.getD i 0)))).before #[Value.ref b] s = true := by
    intro i hi
    match i, hi with
    | 0, _ => exact hs (Cond.eq (.length (.field (Term.string "FloeToFloe$Telling" 70) "java/lang/String" "value" "[B")) (.int 3)) (by decide +kernel)
    | 1, _ => exact hs (Cond.eq (.length (.field (Term.string "FloeToFloe$Telling" 72) "java/lang/String" "value" "[B")) (.int 8)) (by decide +kernel)
    | 2, _ => exact hs (Cond.eq (.length (.field (Term.string "FloeToFloe$Telling" 74) "java/lang/String" "value" "[B")) (.int 4)) (by decide +kernel)
    | 3, _ => exact hs (Cond.eq (.length (.field (Term.string "FloeToFloe$Telling" 76) "java/lang/String" "value" "[B")) (.int 3)) (by decide +kernel)
    | 4, _ => exact hs (Cond.eq (.length (.field (Term.string "FloeToFloe$Telling" 78) "java/lang/String" "value" "[B")) (.int 1)) (by decide +kernel)
    | 5, _ => exact hs (Cond.eq (.length (.field (Term.string "FloeToFloe$Telling" 80) "java/lang/String" "value" "[B")) (.int 6)) (by decide +kernel)
    | n + 6, hi => exact absurd hi (by omega)
  have hel : ∀ i : Nat, i < 6 → ∀ j : Nat, j < lenS.getD i 0 → (Cond.eq (.elem (.field (tmS i) "java/lang/String" "value" "[B") (.int (Int32.ofNat j))) (.int ((bytS.getD i []).getD j 0))).before #[Value.ref b] s = true := by
    intro i hi
    match i, hi with
    | 0, _ =>
      intro j hj
      match j, hj with
      | 0, _ => exact hs (Cond.eq (.elem (.field (Term.string "FloeToFloe$Telling" 70) "java/lang/String" "value" "[B") (.int 0)) (.int 114)) (by decide +kernel)
      | 1, _ => exact hs (Cond.eq (.elem (.field (Term.string "FloeToFloe$Telling" 70) "java/lang/String" "value" "[B") (.int 1)) (.int 100)) (by decide +kernel)
      | 2, _ => exact hs (Cond.eq (.elem (.field (Term.string "FloeToFloe$Telling" 70) "java/lang/String" "value" "[B") (.int 2)) (.int 59)) (by decide +kernel)
      | n + 3, hj => exact absurd hj (by show ¬ n + 3 < 3; omega)
    | 1, _ =>
      intro j hj
      match j, hj with
      | 0, _ => exact hs (Cond.eq (.elem (.field (Term.string "FloeToFloe$Telling" 72) "java/lang/String" "value" "[B") (.int 0)) (.int 102)) (by decide +kernel)
      | 1, _ => exact hs (Cond.eq (.elem (.field (Term.string "FloeToFloe$Telling" 72) "java/lang/String" "value" "[B") (.int 1)) (.int 107)) (by decide +kernel)
      | 2, _ => exact hs (Cond.eq (.elem (.field (Term.string "FloeToFloe$Telling" 72) "java/lang/String" "value" "[B") (.int 2)) (.int 100)) (by decide +kernel)
      | 3, _ => exact hs (Cond.eq (.elem (.field (Term.string "FloeToFloe$Telling" 72) "java/lang/String" "value" "[B") (.int 3)) (.int 100)) (by decide +kernel)
      | 4, _ => exact hs (Cond.eq (.elem (.field (Term.string "FloeToFloe$Telling" 72) "java/lang/String" "value" "[B") (.int 4)) (.int 115)) (by decide +kernel)
      | 5, _ => exact hs (Cond.eq (.elem (.field (Term.string "FloeToFloe$Telling" 72) "java/lang/String" "value" "[B") (.int 5)) (.int 100)) (by decide +kernel)
      | 6, _ => exact hs (Cond.eq (.elem (.field (Term.string "FloeToFloe$Telling" 72) "java/lang/String" "value" "[B") (.int 6)) (.int 100)) (by decide +kernel)
      | 7, _ => exact hs (Cond.eq (.elem (.field (Term.string "FloeToFloe$Telling" 72) "java/lang/String" "value" "[B") (.int 7)) (.int 59)) (by decide +kernel)
      | n + 8, hj => exact absurd hj (by show ¬ n + 8 < 8; omega)
    | 2, _ =>
      intro j hj
      match j, hj with
      | 0, _ => exact hs (Cond.eq (.elem (.field (Term.string "FloeToFloe$Telling" 74) "java/lang/String" "value" "[B") (.int 0)) (.int 109)) (by decide +kernel)
      | 1, _ => exact hs (Cond.eq (.elem (.field (Term.string "FloeToFloe$Telling" 74) "java/lang/String" "value" "[B") (.int 1)) (.int 100)) (by decide +kernel)
      | 2, _ => exact hs (Cond.eq (.elem (.field (Term.string "FloeToFloe$Telling" 74) "java/lang/String" "value" "[B") (.int 2)) (.int 100)) (by decide +kernel)
      | 3, _ => exact hs (Cond.eq (.elem (.field (Term.string "FloeToFloe$Telling" 74) "java/lang/String" "value" "[B") (.int 3)) (.int 59)) (by decide +kernel)
      | n + 4, hj => exact absurd hj (by show ¬ n + 4 < 4; omega)
    | 3, _ =>
      intro j hj
      match j, hj with
      | 0, _ => exact hs (Cond.eq (.elem (.field (Term.string "FloeToFloe$Telling" 76) "java/lang/String" "value" "[B") (.int 0)) (.int 109)) (by decide +kernel)
      | 1, _ => exact hs (Cond.eq (.elem (.field (Term.string "FloeToFloe$Telling" 76) "java/lang/String" "value" "[B") (.int 1)) (.int 100)) (by decide +kernel)
      | 2, _ => exact hs (Cond.eq (.elem (.field (Term.string "FloeToFloe$Telling" 76) "java/lang/String" "value" "[B") (.int 2)) (.int 59)) (by decide +kernel)
      | n + 3, hj => exact absurd hj (by show ¬ n + 3 < 3; omega)
    | 4, _ =>
      intro j hj
      match j, hj with
      | 0, _ => exact hs (Cond.eq (.elem (.field (Term.string "FloeToFloe$Telling" 78) "java/lang/String" "value" "[B") (.int 0)) (.int 63)) (by decide +kernel)
      | n + 1, hj => exact absurd hj (by show ¬ n + 1 < 1; omega)
    | 5, _ =>
      intro j hj
      match j, hj with
      | 0, _ => exact hs (Cond.eq (.elem (.field (Term.string "FloeToFloe$Telling" 80) "java/lang/String" "value" "[B") (.int 0)) (.int 102)) (by decide +kernel)
      | 1, _ => exact hs (Cond.eq (.elem (.field (Term.string "FloeToFloe$Telling" 80) "java/lang/String" "value" "[B") (.int 1)) (.int 109)) (by decide +kernel)
      | 2, _ => exact hs (Cond.eq (.elem (.field (Term.string "FloeToFloe$Telling" 80) "java/lang/String" "value" "[B") (.int 2)) (.int 103)) (by decide +kernel)
      | 3, _ => exact hs (Cond.eq (.elem (.field (Term.string "FloeToFloe$Telling" 80) "java/lang/String" "value" "[B") (.int 3)) (.int 116)) (by decide +kernel)
      | 4, _ => exact hs (Cond.eq (.elem (.field (Term.string "FloeToFloe$Telling" 80) "java/lang/String" "value" "[B") (.int 4)) (.int 104)) (by decide +kernel)
      | 5, _ => exact hs (Cond.eq (.elem (.field (Term.string "FloeToFloe$Telling" 80) "java/lang/String" "value" "[B") (.int 5)) (.int 115)) (by decide +kernel)
      | n + 6, hj => exact absurd hj (by show ¬ n + 6 < 6; omega)
    | n + 6, hi => exact absurd hi (by omega)
  have hne : ∀ i j : Nat, i < 6 → j < 6 → i ≠ j → (Cond.not (Cond.eq (tmS i) (tmS j))).before #[Value.ref b] s = true ∨ (Cond.not (Cond.eq (tmS j) (tmS i))).before #[Value.ref b] s = true := by
    intro i j hi hj hij
    match i, j, hi, hj, hij with
    | 0, 0, _, _, h => exact absurd rfl h
    | 0, 1, _, _, _ => exact Or.inl (hs (Cond.not (Cond.eq (Term.string "FloeToFloe$Telling" 70) (Term.string "FloeToFloe$Telling" 72))) (by decide +kernel))
    | 0, 2, _, _, _ => exact Or.inl (hs (Cond.not (Cond.eq (Term.string "FloeToFloe$Telling" 70) (Term.string "FloeToFloe$Telling" 74))) (by decide +kernel))
    | 0, 3, _, _, _ => exact Or.inl (hs (Cond.not (Cond.eq (Term.string "FloeToFloe$Telling" 70) (Term.string "FloeToFloe$Telling" 76))) (by decide +kernel))
    | 0, 4, _, _, _ => exact Or.inl (hs (Cond.not (Cond.eq (Term.string "FloeToFloe$Telling" 70) (Term.string "FloeToFloe$Telling" 78))) (by decide +kernel))
    | 0, 5, _, _, _ => exact Or.inl (hs (Cond.not (Cond.eq (Term.string "FloeToFloe$Telling" 70) (Term.string "FloeToFloe$Telling" 80))) (by decide +kernel))
    | 1, 0, _, _, _ => exact Or.inr (hs (Cond.not (Cond.eq (Term.string "FloeToFloe$Telling" 70) (Term.string "FloeToFloe$Telling" 72))) (by decide +kernel))
    | 1, 1, _, _, h => exact absurd rfl h
    | 1, 2, _, _, _ => exact Or.inl (hs (Cond.not (Cond.eq (Term.string "FloeToFloe$Telling" 72) (Term.string "FloeToFloe$Telling" 74))) (by decide +kernel))
    | 1, 3, _, _, _ => exact Or.inl (hs (Cond.not (Cond.eq (Term.string "FloeToFloe$Telling" 72) (Term.string "FloeToFloe$Telling" 76))) (by decide +kernel))
    | 1, 4, _, _, _ => exact Or.inl (hs (Cond.not (Cond.eq (Term.string "FloeToFloe$Telling" 72) (Term.string "FloeToFloe$Telling" 78))) (by decide +kernel))
    | 1, 5, _, _, _ => exact Or.inl (hs (Cond.not (Cond.eq (Term.string "FloeToFloe$Telling" 72) (Term.string "FloeToFloe$Telling" 80))) (by decide +kernel))
    | 2, 0, _, _, _ => exact Or.inr (hs (Cond.not (Cond.eq (Term.string "FloeToFloe$Telling" 70) (Term.string "FloeToFloe$Telling" 74))) (by decide +kernel))
    | 2, 1, _, _, _ => exact Or.inr (hs (Cond.not (Cond.eq (Term.string "FloeToFloe$Telling" 72) (Term.string "FloeToFloe$Telling" 74))) (by decide +kernel))
    | 2, 2, _, _, h => exact absurd rfl h
    | 2, 3, _, _, _ => exact Or.inl (hs (Cond.not (Cond.eq (Term.string "FloeToFloe$Telling" 74) (Term.string "FloeToFloe$Telling" 76))) (by decide +kernel))
    | 2, 4, _, _, _ => exact Or.inl (hs (Cond.not (Cond.eq (Term.string "FloeToFloe$Telling" 74) (Term.string "FloeToFloe$Telling" 78))) (by decide +kernel))
    | 2, 5, _, _, _ => exact Or.inr (hs (Cond.not (Cond.eq (Term.string "FloeToFloe$Telling" 80) (Term.string "FloeToFloe$Telling" 74))) (by decide +kernel))
    | 3, 0, _, _, _ => exact Or.inr (hs (Cond.not (Cond.eq (Term.string "FloeToFloe$Telling" 70) (Term.string "FloeToFloe$Telling" 76))) (by decide +kernel))
    | 3, 1, _, _, _ => exact Or.inr (hs (Cond.not (Cond.eq (Term.string "FloeToFloe$Telling" 72) (Term.string "FloeToFloe$Telling" 76))) (by decide +kernel))
    | 3, 2, _, _, _ => exact Or.inr (hs (Cond.not (Cond.eq (Term.string "FloeToFloe$Telling" 74) (Term.string "FloeToFloe$Telling" 76))) (by decide +kernel))
    | 3, 3, _, _, h => exact absurd rfl h
    | 3, 4, _, _, _ => exact Or.inl (hs (Cond.not (Cond.eq (Term.string "FloeToFloe$Telling" 76) (Term.string "FloeToFloe$Telling" 78))) (by decide +kernel))
    | 3, 5, _, _, _ => exact Or.inr (hs (Cond.not (Cond.eq (Term.string "FloeToFloe$Telling" 80) (Term.string "FloeToFloe$Telling" 76))) (by decide +kernel))
    | 4, 0, _, _, _ => exact Or.inr (hs (Cond.not (Cond.eq (Term.string "FloeToFloe$Telling" 70) (Term.string "FloeToFloe$Telling" 78))) (by decide +kernel))
    | 4, 1, _, _, _ => exact Or.inr (hs (Cond.not (Cond.eq (Term.string "FloeToFloe$Telling" 72) (Term.string "FloeToFloe$Telling" 78))) (by decide +kernel))
    | 4, 2, _, _, _ => exact Or.inr (hs (Cond.not (Cond.eq (Term.string "FloeToFloe$Telling" 74) (Term.string "FloeToFloe$Telling" 78))) (by decide +kernel))
    | 4, 3, _, _, _ => exact Or.inr (hs (Cond.not (Cond.eq (Term.string "FloeToFloe$Telling" 76) (Term.string "FloeToFloe$Telling" 78))) (by decide +kernel))
    | 4, 4, _, _, h => exact absurd rfl h
    | 4, 5, _, _, _ => exact Or.inr (hs (Cond.not (Cond.eq (Term.string "FloeToFloe$Telling" 80) (Term.string "FloeToFloe$Telling" 78))) (by decide +kernel))
    | 5, 0, _, _, _ => exact Or.inr (hs (Cond.not (Cond.eq (Term.string "FloeToFloe$Telling" 70) (Term.string "FloeToFloe$Telling" 80))) (by decide +kernel))
    | 5, 1, _, _, _ => exact Or.inr (hs (Cond.not (Cond.eq (Term.string "FloeToFloe$Telling" 72) (Term.string "FloeToFloe$Telling" 80))) (by decide +kernel))
    | 5, 2, _, _, _ => exact Or.inl (hs (Cond.not (Cond.eq (Term.string "FloeToFloe$Telling" 80) (Term.string "FloeToFloe$Telling" 74))) (by decide +kernel))
    | 5, 3, _, _, _ => exact Or.inl (hs (Cond.not (Cond.eq (Term.string "FloeToFloe$Telling" 80) (Term.string "FloeToFloe$Telling" 76))) (by decide +kernel))
    | 5, 4, _, _, _ => exact Or.inl (hs (Cond.not (Cond.eq (Term.string "FloeToFloe$Telling" 80) (Term.string "FloeToFloe$Telling" 78))) (by decide +kernel))
    | 5, 5, _, _, h => exact absurd rfl h
    | n + 6, _, hi, _, _ => exact absurd hi (by omega)
    | 0, n + 6, _, hj, _ => exact absurd hj (by omega)
    | 1, n + 6, _, hj, _ => exact absurd hj (by omega)
    | 2, n + 6, _, hj, _ => exact absurd hj (by omega)
    | 3, n + 6, _, hj, _ => exact absurd hj (by omega)
    | 4, n + 6, _, hj, _ => exact absurd hj (by omega)
    | 5, n + 6, _, hj, _ => exact absurd hj (by omega)
  obtain ⟨adK, adV, hV, hev⟩ := vk_Sof (N := 6) (tm := tmS) (len := lenS) (byt := bytS) (A := AW s) (by decide) hex hco har hle hel hne hA
  have hNW : NWs s := by
    intro k w hk
    match k, hk with
    | 0, hk => cases hk; exact va_Nw.of rfl (hts (.fieldLinkNest "FloeToFloe$Walk" 103 "FloeToFloe$River" "lanes" "I" "FloeToFloe") (by decide +kernel))
    | 1, hk => cases hk; exact va_Nw.of rfl (hts (.fieldLinkNest "FloeToFloe" 164 "FloeToFloe$River" "lanes" "I" "FloeToFloe") (by decide +kernel))
    | 2, hk => cases hk; exact va_Nw.of rfl (hts (.fieldLinkNest "FloeToFloe" 100 "FloeToFloe$River" "floes" "I" "FloeToFloe") (by decide +kernel))
    | 3, hk => cases hk; exact va_Nw.of rfl (hts (.fieldLinkNest "FloeToFloe$Walk" 45 "FloeToFloe$River" "minute" "I" "FloeToFloe") (by decide +kernel))
    | 4, hk => cases hk; exact va_Nw.of rfl (hts (.fieldLinkNest "FloeToFloe" 86 "FloeToFloe$River" "minute" "I" "FloeToFloe") (by decide +kernel))
    | 5, hk => cases hk; exact va_Nw.of rfl (hts (.fieldLinkNest "FloeToFloe" 50 "FloeToFloe$Telling" "size" "I" "FloeToFloe") (by decide +kernel))
    | 6, hk => cases hk; exact va_Nw.of rfl (hts (.fieldLinkNest "FloeToFloe" 148 "FloeToFloe$Walk" "done" "I" "FloeToFloe") (by decide +kernel))
    | 7, hk => cases hk; exact va_Nw.of rfl (hts (.methodLinkNest "FloeToFloe" 25 yX0_init "FloeToFloe") (by decide +kernel))
    | 8, hk => cases hk; exact va_Nw.of rfl (hts (.methodLinkNest "FloeToFloe" 34 yX1_init "FloeToFloe") (by decide +kernel))
    | 9, hk => cases hk; exact va_Nw.of rfl (hts (.methodLinkNest "FloeToFloe$River" 41 yX3_isCell "FloeToFloe") (by decide +kernel))
    | 10, hk => cases hk; exact va_Nw.of rfl (hts (.methodLinkNest "FloeToFloe$Walk" 59 yX3_southCell "FloeToFloe") (by decide +kernel))
    | 11, hk => cases hk; exact va_Nw.of rfl (hts (.fieldLinkNest "FloeToFloe" 16 "FloeToFloe$Walk" "river" "LFloeToFloe$River;" "FloeToFloe") (by decide +kernel))
    | 12, hk => cases hk; exact va_Nw.of rfl (hts (.methodLinkNest "FloeToFloe$Walk" 11 yX0_init "FloeToFloe") (by decide +kernel))
    | 13, hk => cases hk; exact va_Nw.of rfl (hts (.methodLinkNest "FloeToFloe" 11 yX2_init "FloeToFloe") (by decide +kernel))
    | n + 14, hk => cases hk
  have hR : vkRs (adK, adV) s := by
    intro k q hk
    match k, hk with
    | 0, hk => cases hk; exact vk_R.of (hts (.stringRef "FloeToFloe$Telling" 70 "rd;") (by decide +kernel)) (hev 0 (by omega))
    | 1, hk => cases hk; exact vk_R.of (hts (.stringRef "FloeToFloe$Telling" 72 "fkddsdd;") (by decide +kernel)) (hev 1 (by omega))
    | 2, hk => cases hk; exact vk_R.of (hts (.stringRef "FloeToFloe$Telling" 74 "mdd;") (by decide +kernel)) (hev 2 (by omega))
    | 3, hk => cases hk; exact vk_R.of (hts (.stringRef "FloeToFloe$Telling" 76 "md;") (by decide +kernel)) (hev 3 (by omega))
    | 4, hk => cases hk; exact vk_R.of (hts (.stringRef "FloeToFloe$Telling" 78 "?") (by decide +kernel)) (hev 4 (by omega))
    | 5, hk => cases hk; exact vk_R.of (hts (.stringRef "FloeToFloe$Telling" 80 "fmgths") (by decide +kernel)) (hev 5 (by omega))
    | n + 6, hk => cases hk
  have hZ1 : va_Z "java/lang/String" "COMPACT_STRINGS" "Z" (.int 1) (AW s) s s.heap := va_Zof (hts (.laysStatic "java/lang/String" "COMPACT_STRINGS" "Z") (by decide +kernel)) (hts (.initialized "java/lang/String") (by decide +kernel)) (va_eqt (hs (Cond.eq (.static "java/lang/String" "COMPACT_STRINGS" "Z") (.int 1)) (by decide +kernel))) hA
  have hZ2 : va_Zq "jdk/internal/util/Preconditions" "SIOOBE_FORMATTER" "Ljava/util/function/BiFunction;" (AW s) s s.heap := va_Zqof (hts (.laysStatic "jdk/internal/util/Preconditions" "SIOOBE_FORMATTER" "Ljava/util/function/BiFunction;") (by decide +kernel)) (hts (.initialized "jdk/internal/util/Preconditions") (by decide +kernel)) (hs (Cond.isRef (.static "jdk/internal/util/Preconditions" "SIOOBE_FORMATTER" "Ljava/util/function/BiFunction;")) (by decide +kernel)) hA
  exact ⟨(adK, adV), hNW, hV, hR, hZ1, hZ2⟩
theorem arr_start {s : State} {ar : Array Value} {ty : FieldType} (h : (Cond.arrayClass ty).before ar s = true) : ∃ cA : ClassId, ArrOfT s cA ty ∧ s.vm.findClass ("[" ++ ty.toString) = some cA := by
  obtain ⟨cA, kA, comp, h1, h2, h3⟩ := Cond.arrayClass_spec (args := ar) (first := s) (o := none) (s := s) (idx := []) h
  exact ⟨cA, fun n z => ⟨fun k h => (by cases h), kA, h2, comp, h3⟩, h1⟩
