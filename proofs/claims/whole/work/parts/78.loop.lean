set_option maxHeartbeats 8000000 in
set_option maxRecDepth 100000 in
theorem law_loop {p : Program} {l : Launch} {e : Env} {s : State} {m : MethodId} {below : List Frame} {meth : Method} {c : Code} {dC : Nat → ClassId} {dI : Nat → Nat → Nat} {cI cC : ClassId} {sk : (Nat → Nat) × (Nat → Nat)} {b L : Nat} {xs : Nat → Int32} {f g : Nat → Nat} (B : LB p s m c dC dI cI cC sk b L xs) (hr : meth.sig.returnType = ret) (hlocks : meth.locks = false) : ∀ (n i : Nat), i ≤ L + 3 → L + 5 ≤ i + n → ∀ (x : XT) (w : MT), INV x w → ∀ (H : Heap) (locs : List Loc), va_P (dC, dI) vwCl (XW cI cC f x ++ MW cI cC g w) H → va_D (AW s) (XW cI cC f x ++ MW cI cC g w) → va_S (AW s) s.heap H locs → ∀ (ls : Array Slot), lv_has ls 4 [(0, .ref b), (1, .ref (f 0)), (2, .ref (g 0)), (3, .int (nI i))] → W p l e room_1 s m #[Value.ref b] below meth c H locs 43 4025 (lw_Z below #[Value.ref b] s) (F0 m 18 ls []) := by
  obtain ⟨hx, hb, hml, hown, hts, hX, hbl, hL, hE, hK⟩ := id B
  have hA : ∀ q, s.heap.size ≤ q → AW s q := fun _ h => h
  have hbA : ¬ AW s b := Nat.not_le.mpr hbl
  intro n
  induction n with
  | zero => intro i h1 h2; exact absurd h2 (by omega)
  | succ n ih =>
    intro i h1 h2 x w hI H locs hP hD hS ls hl
    refine lv_iload_n hx hb dL_law_18 rfl (lv_at hl 3 rfl) ?_
    refine lv_aload_n hx hb dL_law_19 rfl (lv_at hl 0 rfl) ?_
    refine va_slen hx hb hX hbl hbA hS dL_law_20 ?_
    refine lv_iconst (v := (4 : Int32)) hx hb dL_law_21 (by decide) ?_
    refine lv_isub hx hb dL_law_22 ?_
    have hd : (Int32.ofNat L - (4 : Int32)).toInt = (L : Int) - 4 := pk_sub_toInt (a := L) (b := 4) (by omega) (by decide)
    refine lv_icmp_gt (tgt := 866) hx hb dL_law_23 (by decide) (fun c9 => ?_) (fun c9 => ?_)
    · refine lv_iconst (v := (1 : Int32)) hx hb dL_law_866 (by decide) ?_
      refine va_forget (fun q hq => hS.2.2 q hq) ?_
      exact lw_ret hx hb hr hlocks dL_law_867
    · have hi : i + 4 ≤ L := by
        rw [i_lt, hd, ti_n (by omega)] at c9
        omega
      have h_in0 : vp_in (nI i) L := vp_in_nI (by omega) (by omega)
      refine lv_aload_n hx hb dL_law_26 rfl (lv_at hl 0 rfl) ?_
      refine lv_iload_n hx hb dL_law_27 rfl (lv_at hl 3 rfl) ?_
      refine va_sld hx hb hX hbl hbA hS h_in0 dL_law_28 ?_
      refine lv_bipush (v := (31 : Int32)) hx hb dL_law_29 (by decide) ?_
      refine lv_iand hx hb dL_law_31 ?_
      obtain ⟨j, hj, ej⟩ := pk_andE (xs (nI i).toNatClampNeg) (m := (31 : Int32)) 5 (by decide)
      rw [ej]
      have kk : ∀ (x : XT) (w : MT) (H : Heap) (locs : List Loc), INV x w → va_P (dC, dI) vwCl (XW cI cC f x ++ MW cI cC g w) H → va_D (AW s) (XW cI cC f x ++ MW cI cC g w) → va_S (AW s) s.heap H locs → W p l e room_1 s m #[Value.ref b] below meth c H locs 43 4025 (lw_Z below #[Value.ref b] s) (F0 m 860 ls []) := by
        intro x w H locs hI hP hD hS
        refine lv_iinc (v := (nI i + (4 : Int32))) (lv' := [(3, .int (nI i + (4 : Int32))), (0, .ref b), (1, .ref (f 0)), (2, .ref (g 0))]) hx hb dL_law_860 hl (k := 3) rfl rfl (by decide) rfl (fun ls hl => ?_)
        rw [show nI i + (4 : Int32) = nI (i + 4) from nI_add i 4] at hl
        refine lv_goto (tgt := 18) hx hb dL_law_863 (by decide) ?_
        exact ih (i + 4) (by omega) (by omega) x w hI H locs hP hD hS ls (lv_sub hl [1, 2, 3, 0] rfl)
      by_cases h0 : j = 0
      · subst h0
        refine lv_tableIn (off := 120) (tgt := 152) hx hb dL_law_32 (by decide) (by decide) (by decide) (by decide) ?_
        exact lc_letter B hi hI hP hD hS hl kk
      by_cases h1 : j = 1
      · subst h1
        refine lv_tableIn (off := 143) (tgt := 175) hx hb dL_law_32 (by decide) (by decide) (by decide) (by decide) ?_
        exact lc_river B hi hI hP hD hS hl kk
      by_cases h2 : j = 2
      · subst h2
        refine lv_tableIn (off := 156) (tgt := 188) hx hb dL_law_32 (by decide) (by decide) (by decide) (by decide) ?_
        exact lc_floe B hi hI hP hD hS hl kk
      by_cases h3 : j = 3
      · subst h3
        refine lv_tableIn (off := 189) (tgt := 221) hx hb dL_law_32 (by decide) (by decide) (by decide) (by decide) ?_
        exact lc_is B hi hI hP hD hS hl kk
      by_cases h4 : j = 4
      · subst h4
        refine lv_tableIn (off := 222) (tgt := 254) hx hb dL_law_32 (by decide) (by decide) (by decide) (by decide) ?_
        exact lc_bears B hi hI hP hD hS hl kk
      by_cases h5 : j = 5
      · subst h5
        refine lv_tableIn (off := 255) (tgt := 287) hx hb dL_law_32 (by decide) (by decide) (by decide) (by decide) ?_
        exact lc_pass B hi hI hP hD hS hl kk
      by_cases h6 : j = 6
      · subst h6
        refine lv_tableIn (off := 278) (tgt := 310) hx hb dL_law_32 (by decide) (by decide) (by decide) (by decide) ?_
        exact lc_next B hi hI hP hD hS hl kk
      by_cases h7 : j = 7
      · subst h7
        refine lv_tableIn (off := 301) (tgt := 333) hx hb dL_law_32 (by decide) (by decide) (by decide) (by decide) ?_
        exact lc_crowd B hi hI hP hD hS hl kk
      by_cases h8 : j = 8
      · subst h8
        refine lv_tableIn (off := 324) (tgt := 356) hx hb dL_law_32 (by decide) (by decide) (by decide) (by decide) ?_
        exact lc_soonest B hi hI hP hD hS hl kk
      by_cases h9 : j = 9
      · subst h9
        refine lv_tableIn (off := 357) (tgt := 389) hx hb dL_law_32 (by decide) (by decide) (by decide) (by decide) ?_
        exact lc_leaps B hi hI hP hD hS hl kk
      by_cases h10 : j = 10
      · subst h10
        refine lv_tableIn (off := 390) (tgt := 422) hx hb dL_law_32 (by decide) (by decide) (by decide) (by decide) ?_
        exact lc_reach B hi hI hP hD hS hl kk
      by_cases h11 : j = 11
      · subst h11
        refine lv_tableIn (off := 433) (tgt := 465) hx hb dL_law_32 (by decide) (by decide) (by decide) (by decide) ?_
        exact lc_await B hi hI hP hD hS hl kk
      by_cases h12 : j = 12
      · subst h12
        refine lv_tableIn (off := 466) (tgt := 498) hx hb dL_law_32 (by decide) (by decide) (by decide) (by decide) ?_
        exact lc_heaviest B hi hI hP hD hS hl kk
      by_cases h13 : j = 13
      · subst h13
        refine lv_tableIn (off := 489) (tgt := 521) hx hb dL_law_32 (by decide) (by decide) (by decide) (by decide) ?_
        exact lc_needed B hi hI hP hD hS hl kk
      by_cases h14 : j = 14
      · subst h14
        refine lv_tableIn (off := 522) (tgt := 554) hx hb dL_law_32 (by decide) (by decide) (by decide) (by decide) ?_
        exact lc_poles B hi hI hP hD hS hl kk
      by_cases h15 : j = 15
      · subst h15
        refine lv_tableIn (off := 555) (tgt := 587) hx hb dL_law_32 (by decide) (by decide) (by decide) (by decide) ?_
        exact lc_from B hi hI hP hD hS hl kk
      by_cases h16 : j = 16
      · subst h16
        refine lv_tableIn (off := 578) (tgt := 610) hx hb dL_law_32 (by decide) (by decide) (by decide) (by decide) ?_
        exact lc_byNow B hi hI hP hD hS hl kk
      by_cases h17 : j = 17
      · subst h17
        refine lv_tableIn (off := 621) (tgt := 653) hx hb dL_law_32 (by decide) (by decide) (by decide) (by decide) ?_
        exact lc_row B hi hI hP hD hS hl kk
      by_cases h18 : j = 18
      · subst h18
        refine lv_tableIn (off := 644) (tgt := 676) hx hb dL_law_32 (by decide) (by decide) (by decide) (by decide) ?_
        exact lc_fitting B hi hI hP hD hS hl kk
      by_cases h19 : j = 19
      · subst h19
        refine lv_tableIn (off := 667) (tgt := 699) hx hb dL_law_32 (by decide) (by decide) (by decide) (by decide) ?_
        exact lc_judge B hi hI hP hD hS hl kk
      by_cases h20 : j = 20
      · subst h20
        refine lv_tableIn (off := 700) (tgt := 732) hx hb dL_law_32 (by decide) (by decide) (by decide) (by decide) ?_
        exact lc_ends B hi hI hP hD hS hl kk
      by_cases h21 : j = 21
      · subst h21
        refine lv_tableIn (off := 733) (tgt := 765) hx hb dL_law_32 (by decide) (by decide) (by decide) (by decide) ?_
        exact lc_clear B hi hI hP hD hS hl kk
      by_cases h22 : j = 22
      · subst h22
        refine lv_tableIn (off := 746) (tgt := 778) hx hb dL_law_32 (by decide) (by decide) (by decide) (by decide) ?_
        exact lc_seeds B hi hI hP hD hS hl kk
      by_cases h23 : j = 23
      · subst h23
        refine lv_tableIn (off := 779) (tgt := 811) hx hb dL_law_32 (by decide) (by decide) (by decide) (by decide) ?_
        exact lc_image B hi hI hP hD hS hl kk
      by_cases h24 : j = 24
      · subst h24
        refine lv_tableIn (off := 792) (tgt := 824) hx hb dL_law_32 (by decide) (by decide) (by decide) (by decide) ?_
        exact lc_on B hi hI hP hD hS hl kk
      by_cases h25 : j = 25
      · subst h25
        refine lv_tableIn (off := 805) (tgt := 837) hx hb dL_law_32 (by decide) (by decide) (by decide) (by decide) ?_
        exact lc_count B hi hI hP hD hS hl kk
      refine lv_tableOut (tgt := 860) hx hb dL_law_32 (Or.inr (by rw [ti_n (by omega)]; omega)) (by decide) ?_
      exact kk x w H locs hI hP hD hS
