theorem dX3_needed_0 : decode cX3_needed 0 = .ok (.iload_n 1, 1) := by decide +kernel
theorem dX3_needed_1 : decode cX3_needed 1 = .ok (.iload_n 2, 1) := by decide +kernel
theorem dX3_needed_2 : decode cX3_needed 2 = .ok (.invokestatic 107, 3) := by decide +kernel
theorem dX3_needed_5 : decode cX3_needed 5 = .ok (.istore_n 3, 1) := by decide +kernel
theorem dX3_needed_6 : decode cX3_needed 6 = .ok (.iload_n 3, 1) := by decide +kernel
theorem dX3_needed_7 : decode cX3_needed 7 = .ok (.ifCond .eq 9, 3) := by decide +kernel
theorem dX3_needed_10 : decode cX3_needed 10 = .ok (.aload_n 0, 1) := by decide +kernel
theorem dX3_needed_11 : decode cX3_needed 11 = .ok (.iload_n 3, 1) := by decide +kernel
theorem dX3_needed_12 : decode cX3_needed 12 = .ok (.invokevirtual 54, 3) := by decide +kernel
theorem dX3_needed_15 : decode cX3_needed 15 = .ok (.ireturn, 1) := by decide +kernel
theorem dX3_needed_16 : decode cX3_needed 16 = .ok (.iconst 0, 1) := by decide +kernel
theorem dX3_needed_17 : decode cX3_needed 17 = .ok (.istore 4, 2) := by decide +kernel
theorem dX3_needed_19 : decode cX3_needed 19 = .ok (.aload_n 0, 1) := by decide +kernel
theorem dX3_needed_20 : decode cX3_needed 20 = .ok (.iload_n 1, 1) := by decide +kernel
theorem dX3_needed_21 : decode cX3_needed 21 = .ok (.iload_n 2, 1) := by decide +kernel
theorem dX3_needed_22 : decode cX3_needed 22 = .ok (.iconst 0, 1) := by decide +kernel
theorem dX3_needed_23 : decode cX3_needed 23 = .ok (.iconst 0, 1) := by decide +kernel
theorem dX3_needed_24 : decode cX3_needed 24 = .ok (.invokevirtual 129, 3) := by decide +kernel
theorem dX3_needed_27 : decode cX3_needed 27 = .ok (.ifCond .ne 6, 3) := by decide +kernel
theorem dX3_needed_30 : decode cX3_needed 30 = .ok (.iload 4, 2) := by decide +kernel
theorem dX3_needed_32 : decode cX3_needed 32 = .ok (.ireturn, 1) := by decide +kernel
theorem dX3_needed_33 : decode cX3_needed 33 = .ok (.iconst 0, 1) := by decide +kernel
theorem dX3_needed_34 : decode cX3_needed 34 = .ok (.istore 5, 2) := by decide +kernel
theorem dX3_needed_36 : decode cX3_needed 36 = .ok (.iload 5, 2) := by decide +kernel
theorem dX3_needed_38 : decode cX3_needed 38 = .ok (.aload_n 0, 1) := by decide +kernel
theorem dX3_needed_39 : decode cX3_needed 39 = .ok (.getfield 20, 3) := by decide +kernel
theorem dX3_needed_42 : decode cX3_needed 42 = .ok (.getfield 100, 3) := by decide +kernel
theorem dX3_needed_45 : decode cX3_needed 45 = .ok (.if_icmp .ge 32, 3) := by decide +kernel
theorem dX3_needed_48 : decode cX3_needed 48 = .ok (.aload_n 0, 1) := by decide +kernel
theorem dX3_needed_49 : decode cX3_needed 49 = .ok (.iload_n 1, 1) := by decide +kernel
theorem dX3_needed_50 : decode cX3_needed 50 = .ok (.iload_n 2, 1) := by decide +kernel
theorem dX3_needed_51 : decode cX3_needed 51 = .ok (.iconst 1, 1) := by decide +kernel
theorem dX3_needed_52 : decode cX3_needed 52 = .ok (.iload 5, 2) := by decide +kernel
theorem dX3_needed_54 : decode cX3_needed 54 = .ok (.ishl, 1) := by decide +kernel
theorem dX3_needed_55 : decode cX3_needed 55 = .ok (.iconst 0, 1) := by decide +kernel
theorem dX3_needed_56 : decode cX3_needed 56 = .ok (.invokevirtual 129, 3) := by decide +kernel
theorem dX3_needed_59 : decode cX3_needed 59 = .ok (.ifCond .ne 12, 3) := by decide +kernel
theorem dX3_needed_62 : decode cX3_needed 62 = .ok (.iload 4, 2) := by decide +kernel
theorem dX3_needed_64 : decode cX3_needed 64 = .ok (.iconst 1, 1) := by decide +kernel
theorem dX3_needed_65 : decode cX3_needed 65 = .ok (.iload 5, 2) := by decide +kernel
theorem dX3_needed_67 : decode cX3_needed 67 = .ok (.ishl, 1) := by decide +kernel
theorem dX3_needed_68 : decode cX3_needed 68 = .ok (.ior, 1) := by decide +kernel
theorem dX3_needed_69 : decode cX3_needed 69 = .ok (.istore 4, 2) := by decide +kernel
theorem dX3_needed_71 : decode cX3_needed 71 = .ok (.iinc 5 1, 3) := by decide +kernel
theorem dX3_needed_74 : decode cX3_needed 74 = .ok (.goto (-38), 3) := by decide +kernel
theorem dX3_needed_77 : decode cX3_needed 77 = .ok (.iload 4, 2) := by decide +kernel
theorem dX3_needed_79 : decode cX3_needed 79 = .ok (.ireturn, 1) := by decide +kernel
set_option maxRecDepth 20000 in
theorem ggX3_needed_X3_faultOfWalker : GoodIn wsX3_needed wsX3_faultOfWalker := goodIn_r _ [5, 6, 7, 4, 8, 9, 10, 11] (by decide +kernel) (by decide +kernel)
set_option maxRecDepth 20000 in
theorem gX3_needed_X3_faultOfWalker : GoodIn wsX3_needed (va_wsS RX3 107 yX3_faultOfWalker wsX3_faultOfWalker) := goodIn_app (goodIn_of _ (by decide +kernel)) ggX3_needed_X3_faultOfWalker
set_option maxRecDepth 20000 in
theorem ggX3_needed_X3_refuse : GoodIn wsX3_needed wsX3_refuse := goodIn_r _ [15, 16, 112, 113, 114, 115, 116, 117, 118, 119, 120] (by decide +kernel) (by decide +kernel)
set_option maxRecDepth 20000 in
theorem gX3_needed_X3_refuse : GoodIn wsX3_needed (wsV RX3 54 RX3 yX3_refuse wsX3_refuse) := goodIn_app (goodIn_of _ (by decide +kernel)) ggX3_needed_X3_refuse
set_option maxRecDepth 20000 in
theorem ggX3_needed_X3_comesOver : GoodIn wsX3_needed wsX3_comesOver := goodIn_r _ [20, 21, 1, 22, 23, 24, 25, 26, 27, 28, 29, 30, 31, 32, 33, 34, 4, 35, 36, 37, 38, 39, 40, 41, 42, 43, 44, 45, 46, 47, 48, 49, 50, 51, 52, 53, 54, 55, 56, 57, 58, 59, 60, 61, 62, 63, 64, 65, 66, 67, 68, 69, 70, 71, 72, 73, 74, 75, 76, 77, 78, 79, 80, 81, 82, 83, 84, 85, 86, 87, 88, 89, 90, 91, 92, 93, 94, 95, 96, 97, 98, 99, 100, 101, 102, 103, 104, 105, 106, 107, 108, 109, 110, 111, 112, 113, 114, 115, 116, 117, 118, 119, 120, 121, 122, 123, 124, 125, 126, 127, 128, 129, 130, 131, 132, 133, 134, 135, 136, 137] (by decide +kernel) (by decide +kernel)
set_option maxRecDepth 20000 in
theorem gX3_needed_X3_comesOver : GoodIn wsX3_needed (wsV RX3 129 RX3 yX3_comesOver wsX3_comesOver) := goodIn_app (goodIn_of _ (by decide +kernel)) ggX3_needed_X3_comesOver
set_option maxHeartbeats 4000000 in
set_option maxRecDepth 100000 in
theorem mX3_needed (l : Launch) (dC : Nat → ClassId) (dI : Nat → Nat → Nat) (cI cC : ClassId) (sk : (Nat → Nat) × (Nat → Nat)) (f : Nat → Nat) (sz : Nat) (p1 : Int32) (p2 : Int32) (c_lanes : AR) (c_spots : AR) (c_byLeaps : AR) (c_load : Int32) (c_gone : Int32) (c_held : Int32) (c_strong : Int32) (c_done : Int32) (c_rn : RT) (c_rt : RT) (c_letters : AR) (c_size : Int32) (c_rp : RT) (c_seen : AR) (c_refs : AR) (c_inRow : Int32) (c_isPic : Int32) (z : Int32 × AR × AR × Int32 × Int32 × Int32 × Int32 × AR) (h : fX3_needed p1 p2 c_lanes c_spots c_load c_gone c_held c_strong c_rn c_refs = some z) : cRW l yX3_needed wsX3_needed (RMk 6 141) sk (dC, dI) (tyz cI cC) sz (zwX cI cC f c_lanes c_spots c_byLeaps c_load c_gone c_held c_strong c_done c_rn c_rt c_letters c_size c_rp c_seen c_refs c_inRow c_isPic) (zwX cI cC f z.2.1 z.2.2.1 c_byLeaps z.2.2.2.1 z.2.2.2.2.1 z.2.2.2.2.2.1 z.2.2.2.2.2.2.1 c_done c_rn c_rt c_letters c_size c_rp c_seen z.2.2.2.2.2.2.2 c_inRow c_isPic) [.ref (f 0), .int p1, .int p2] z.1 := by
  refine ofRW (cc := cX3_needed) (maxL := 6) (ret := (some .int)) (own := RX3) (plainFor_of_name (by decide)) rfl rfl (Nat.le_of_ble_eq_true rfl) ?_
  intro p e s m args below meth c A hA hx hb hml hr hts hown hlocks hE hK hP hD hS ls hl
  generalize hQ : qRW _ _ _ _ _ _ _ = Q
  have hl : lv_has ls 6 [(0, .ref (f 0)), (1, .int p1), (2, .int p2)] := hl
  have hiX0 : ∀ w ∈ wsX00, w ∈ wsX3_needed := fun w h => List.mem_cons_of_mem _ (List.mem_append_left _ (List.mem_append_right _ h))
  have hiX3 : ∀ w ∈ wsX30, w ∈ wsX3_needed := fun w h => List.mem_cons_of_mem _ (List.mem_append_left _ (List.mem_append_left _ (List.mem_append_right _ h)))
  have hw1 := hts (Cond.fieldLink RX3 20 "FloeToFloe" "now" "LFloeToFloe$River;") (List.mem_of_getElem? (i := 1) rfl)
  have hnw2 : (Cond.fieldLinkNest "FloeToFloe" 100 "FloeToFloe$River" "floes" "I" "FloeToFloe").before args s = true := va_Nw.use rfl (hE.1 2 _ rfl)
  rw [fX3_needed] at h
  refine lv_iload_n hx hb dX3_needed_0 rfl (lv_at hl 1 rfl) ?_
  refine lv_iload_n hx hb dX3_needed_1 rfl (lv_at hl 2 rfl) ?_
  obtain ⟨q2, e2, h⟩ := bd_some h
  refine g_roS (wc := ([] : va_W)) ⟨hx, hb, hml, hown, hts⟩ hE hK hP hS [] rfl (mX3_faultOfWalker l dC dI cI cC sk  p1 p2 q2 e2) (va_cwS 2 hts gX3_needed_X3_faultOfWalker rfl rfl rfl (by decide +kernel) ⟨Nat.le_of_ble_eq_true rfl, Nat.le_of_ble_eq_true rfl⟩) (As := [.int p1, .int p2]) (rest := []) rfl hl.1 rfl (Nat.le_of_ble_eq_true rfl) dX3_needed_2 ⟨Nat.zero_le _, Nat.zero_le _⟩ (fun H locs hP hS => ?_)
  refine lv_istore_n (lv' := [(3, .int q2), (0, .ref (f 0)), (1, .int p1), (2, .int p2)]) hx hb dX3_needed_5 rfl hl (by decide) rfl (fun ls hl => ?_)
  refine lv_iload_n hx hb dX3_needed_6 rfl (lv_at hl 0 rfl) ?_
  refine lv_if_eq (tgt := 16) hx hb dX3_needed_7 (by decide) (fun c7 => ?_) (fun c7 => ?_)
  · have h := itT c7 h
    refine lv_iconst (v := (0 : Int32)) hx hb dX3_needed_16 (by decide) ?_
    refine lv_istore (lv' := [(4, .int (0 : Int32)), (3, .int q2), (0, .ref (f 0)), (1, .int p1), (2, .int p2)]) hx hb dX3_needed_17 hl (by decide) rfl (fun ls hl => ?_)
    refine lv_aload_n hx hb dX3_needed_19 rfl (lv_at hl 2 rfl) ?_
    refine lv_iload_n hx hb dX3_needed_20 rfl (lv_at hl 3 rfl) ?_
    refine lv_iload_n hx hb dX3_needed_21 rfl (lv_at hl 4 rfl) ?_
    refine lv_iconst (v := (0 : Int32)) hx hb dX3_needed_22 (by decide) ?_
    refine lv_iconst (v := (0 : Int32)) hx hb dX3_needed_23 (by decide) ?_
    obtain ⟨q24, e24, h⟩ := bd_some h
    refine g_rwA (wc := (zwX cI cC f c_lanes c_spots c_byLeaps c_load c_gone c_held c_strong c_done c_rn c_rt c_letters c_size c_rp c_seen c_refs c_inRow c_isPic)) (wc' := (zwX cI cC f q24.2.1 q24.2.2.1 c_byLeaps q24.2.2.2.1 q24.2.2.2.2.1 q24.2.2.2.2.2.1 q24.2.2.2.2.2.2 c_done c_rn c_rt c_letters c_size c_rp c_seen c_refs c_inRow c_isPic)) ⟨hx, hb, hml, hown, hts⟩ hE hK hA hP hD hS rfl (mX3_comesOver l dC dI cI cC sk f H.size p1 p2 (0 : Int32) (0 : Int32) c_lanes c_spots c_byLeaps c_load c_gone c_held c_strong c_done c_rn c_rt c_letters c_size c_rp c_seen c_refs c_inRow c_isPic q24 e24) (cwV 4 hts gX3_needed_X3_comesOver rfl rfl rfl (by decide +kernel) ⟨Nat.le_of_ble_eq_true rfl, Nat.le_of_ble_eq_true rfl⟩) (va_recv hK hP (ci := 3) (q0 := 0) rfl rfl) (As := [.int p1, .int p2, .int (0 : Int32), .int (0 : Int32)]) (rest := []) rfl hl.1 rfl (Nat.le_of_ble_eq_true rfl) dX3_needed_24 ⟨Nat.zero_le _, Nat.zero_le _⟩ (fun H locs hP hD hS => ?_)
    have hP : va_P (dC, dI) vwCl (zwX cI cC f q24.2.1 q24.2.2.1 c_byLeaps q24.2.2.2.1 q24.2.2.2.2.1 q24.2.2.2.2.2.1 q24.2.2.2.2.2.2 c_done c_rn c_rt c_letters c_size c_rp c_seen c_refs c_inRow c_isPic) H := hP
    have hD : va_D A (zwX cI cC f q24.2.1 q24.2.2.1 c_byLeaps q24.2.2.2.1 q24.2.2.2.2.1 q24.2.2.2.2.2.1 q24.2.2.2.2.2.2 c_done c_rn c_rt c_letters c_size c_rp c_seen c_refs c_inRow c_isPic) := hD
    refine lv_if_ne (tgt := 33) hx hb dX3_needed_27 (by decide) (fun c27 => ?_) (fun c27 => ?_)
    · have h := itF c27 h
      refine lv_iconst (v := (0 : Int32)) hx hb dX3_needed_33 (by decide) ?_
      refine lv_istore (lv' := [(5, .int (0 : Int32)), (4, .int (0 : Int32)), (3, .int q2), (0, .ref (f 0)), (1, .int p1), (2, .int p2)]) hx hb dX3_needed_34 hl (by decide) rfl (fun ls hl => ?_)
      have L36 : ∀ (K36 : Int32 → AR → AR → Int32 → Int32 → Int32 → Int32 → Option (Int32 × AR × AR × Int32 × Int32 × Int32 × Int32 × AR)), (∀ (k36_4 : Int32) (k36_lanes : AR) (k36_spots : AR) (k36_load : Int32) (k36_gone : Int32) (k36_held : Int32) (k36_strong : Int32), K36 k36_4 k36_lanes k36_spots k36_load k36_gone k36_held k36_strong = some z → ∀ (H : Heap) (locs : List Loc) (ls : Array Slot), va_P (dC, dI) vwCl (zwX cI cC f k36_lanes k36_spots c_byLeaps k36_load k36_gone k36_held k36_strong c_done c_rn c_rt c_letters c_size c_rp c_seen c_refs c_inRow c_isPic) H → va_D A (zwX cI cC f k36_lanes k36_spots c_byLeaps k36_load k36_gone k36_held k36_strong c_done c_rn c_rt c_letters c_size c_rp c_seen c_refs c_inRow c_isPic) → va_S A s.heap H locs → lv_has ls 6 [(4, .int k36_4)] → W p l e (RMk 6 141) s m args below meth c H locs 0 0 Q (F0 m 77 ls [])) → ∀ (n : Nat) (x36_4 : Int32) (x36_5 : Int32) (x36_lanes : AR) (x36_spots : AR) (x36_load : Int32) (x36_gone : Int32) (x36_held : Int32) (x36_strong : Int32), fX3_needed_L36 c_rn p1 p2 K36 n x36_4 x36_5 x36_lanes x36_spots x36_load x36_gone x36_held x36_strong = some z → ∀ (H : Heap) (locs : List Loc) (ls : Array Slot), va_P (dC, dI) vwCl (zwX cI cC f x36_lanes x36_spots c_byLeaps x36_load x36_gone x36_held x36_strong c_done c_rn c_rt c_letters c_size c_rp c_seen c_refs c_inRow c_isPic) H → va_D A (zwX cI cC f x36_lanes x36_spots c_byLeaps x36_load x36_gone x36_held x36_strong c_done c_rn c_rt c_letters c_size c_rp c_seen c_refs c_inRow c_isPic) → va_S A s.heap H locs → lv_has ls 6 [(0, .ref (f 0)), (1, .int p1), (2, .int p2), (4, .int x36_4), (5, .int x36_5)] → W p l e (RMk 6 141) s m args below meth c H locs 0 0 Q (F0 m 36 ls []) := by
        intro K36 kx36 n
        induction n with
        | zero => intro x36_4 x36_5 x36_lanes x36_spots x36_load x36_gone x36_held x36_strong h; rw [fX3_needed_L36] at h; cases h
        | succ n ih36 =>
          intro x36_4 x36_5 x36_lanes x36_spots x36_load x36_gone x36_held x36_strong h H locs ls hP hD hS hl
          rw [fX3_needed_L36] at h
          refine lv_iload hx hb dX3_needed_36 (lv_at hl 4 rfl) ?_
          refine lv_aload_n hx hb dX3_needed_38 rfl (lv_at hl 0 rfl) ?_
          refine va_get (D := (dC, dI)) (ci := 3) (v := .ref (f 5)) (C := RX3) (T := TX3) (N := 9) hx hb hts hiX3 hown hK hP 0 rfl rfl 1 (by decide) hw1 (fun _ h9 => h9) rfl dX3_needed_39 ?_
          refine va_getN (D := (dC, dI)) (ci := 0) (v := .int (R_floes c_rn)) (C := RX0) (T := TX0) (N := 8) hx hb hts hiX0 hown hK hP 5 rfl rfl 6 (by decide) hnw2 (fun _ h9 => h9) rfl dX3_needed_42 ?_
          refine lv_icmp_ge (tgt := 77) hx hb dX3_needed_45 (by decide) (fun c45 => ?_) (fun c45 => ?_)
          · have h := itT c45 h
            exact kx36 _ _ _ _ _ _ _ h _ _ _ hP hD hS (lv_sub hl [3] rfl)
          have h := itF c45 h
          refine lv_aload_n hx hb dX3_needed_48 rfl (lv_at hl 0 rfl) ?_
          refine lv_iload_n hx hb dX3_needed_49 rfl (lv_at hl 1 rfl) ?_
          refine lv_iload_n hx hb dX3_needed_50 rfl (lv_at hl 2 rfl) ?_
          refine lv_iconst (v := (1 : Int32)) hx hb dX3_needed_51 (by decide) ?_
          refine lv_iload hx hb dX3_needed_52 (lv_at hl 4 rfl) ?_
          refine lv_ishl hx hb dX3_needed_54 ?_
          refine lv_iconst (v := (0 : Int32)) hx hb dX3_needed_55 (by decide) ?_
          obtain ⟨q56, e56, h⟩ := bd_some h
          refine g_rwA (wc := (zwX cI cC f x36_lanes x36_spots c_byLeaps x36_load x36_gone x36_held x36_strong c_done c_rn c_rt c_letters c_size c_rp c_seen c_refs c_inRow c_isPic)) (wc' := (zwX cI cC f q56.2.1 q56.2.2.1 c_byLeaps q56.2.2.2.1 q56.2.2.2.2.1 q56.2.2.2.2.2.1 q56.2.2.2.2.2.2 c_done c_rn c_rt c_letters c_size c_rp c_seen c_refs c_inRow c_isPic)) ⟨hx, hb, hml, hown, hts⟩ hE hK hA hP hD hS rfl (mX3_comesOver l dC dI cI cC sk f H.size p1 p2 ((1 : Int32) <<< (x36_5 &&& 31)) (0 : Int32) x36_lanes x36_spots c_byLeaps x36_load x36_gone x36_held x36_strong c_done c_rn c_rt c_letters c_size c_rp c_seen c_refs c_inRow c_isPic q56 e56) (cwV 4 hts gX3_needed_X3_comesOver rfl rfl rfl (by decide +kernel) ⟨Nat.le_of_ble_eq_true rfl, Nat.le_of_ble_eq_true rfl⟩) (va_recv hK hP (ci := 3) (q0 := 0) rfl rfl) (As := [.int p1, .int p2, .int ((1 : Int32) <<< (x36_5 &&& 31)), .int (0 : Int32)]) (rest := []) rfl hl.1 rfl (Nat.le_of_ble_eq_true rfl) dX3_needed_56 ⟨Nat.zero_le _, Nat.zero_le _⟩ (fun H locs hP hD hS => ?_)
          have hP : va_P (dC, dI) vwCl (zwX cI cC f q56.2.1 q56.2.2.1 c_byLeaps q56.2.2.2.1 q56.2.2.2.2.1 q56.2.2.2.2.2.1 q56.2.2.2.2.2.2 c_done c_rn c_rt c_letters c_size c_rp c_seen c_refs c_inRow c_isPic) H := hP
          have hD : va_D A (zwX cI cC f q56.2.1 q56.2.2.1 c_byLeaps q56.2.2.2.1 q56.2.2.2.2.1 q56.2.2.2.2.2.1 q56.2.2.2.2.2.2 c_done c_rn c_rt c_letters c_size c_rp c_seen c_refs c_inRow c_isPic) := hD
          refine lv_if_ne (tgt := 71) hx hb dX3_needed_59 (by decide) (fun c59 => ?_) (fun c59 => ?_)
          · have h := itF c59 h
            refine lv_iinc (v := (x36_5 + (1 : Int32))) (lv' := [(5, .int (x36_5 + (1 : Int32))), (0, .ref (f 0)), (1, .int p1), (2, .int p2), (4, .int x36_4)]) hx hb dX3_needed_71 hl (k := 4) rfl rfl (by decide) rfl (fun ls hl => ?_)
            refine lv_goto (tgt := 36) hx hb dX3_needed_74 (by decide) ?_
            exact ih36 _ _ _ _ _ _ _ _ h _ _ _ hP hD hS (lv_sub hl [1, 2, 3, 4, 0] rfl)
          have h := itT c59 h
          refine lv_iload hx hb dX3_needed_62 (lv_at hl 3 rfl) ?_
          refine lv_iconst (v := (1 : Int32)) hx hb dX3_needed_64 (by decide) ?_
          refine lv_iload hx hb dX3_needed_65 (lv_at hl 4 rfl) ?_
          refine lv_ishl hx hb dX3_needed_67 ?_
          refine lv_ior hx hb dX3_needed_68 ?_
          refine lv_istore (lv' := [(4, .int (x36_4 ||| ((1 : Int32) <<< (x36_5 &&& 31)))), (0, .ref (f 0)), (1, .int p1), (2, .int p2), (5, .int x36_5)]) hx hb dX3_needed_69 hl (by decide) rfl (fun ls hl => ?_)
          refine lv_iinc (v := (x36_5 + (1 : Int32))) (lv' := [(5, .int (x36_5 + (1 : Int32))), (4, .int (x36_4 ||| ((1 : Int32) <<< (x36_5 &&& 31)))), (0, .ref (f 0)), (1, .int p1), (2, .int p2)]) hx hb dX3_needed_71 hl (k := 4) rfl rfl (by decide) rfl (fun ls hl => ?_)
          refine lv_goto (tgt := 36) hx hb dX3_needed_74 (by decide) ?_
          exact ih36 _ _ _ _ _ _ _ _ h _ _ _ hP hD hS (lv_sub hl [2, 3, 4, 1, 0] rfl)
      refine L36 _ (fun k36_4 k36_lanes k36_spots k36_load k36_gone k36_held k36_strong h H locs ls hP hD hS hl => ?_) _ _ _ _ _ _ _ _ _ h _ _ _ hP hD hS (lv_sub hl [3, 4, 5, 1, 0] rfl)
      refine lv_iload hx hb dX3_needed_77 (lv_at hl 0 rfl) ?_
      subst hQ
      exact retRW (zz := ((k36_4, k36_lanes, k36_spots, k36_load, k36_gone, k36_held, k36_strong, c_refs) : Int32 × AR × AR × Int32 × Int32 × Int32 × Int32 × AR)) (fun z => z.1) (fun z => (zwX cI cC f z.2.1 z.2.2.1 c_byLeaps z.2.2.2.1 z.2.2.2.2.1 z.2.2.2.2.2.1 z.2.2.2.2.2.2.1 c_done c_rn c_rt c_letters c_size c_rp c_seen z.2.2.2.2.2.2.2 c_inRow c_isPic)) hx hb hr hlocks rfl hS h rfl hP dX3_needed_79
    have h := itT c27 h
    refine lv_iload hx hb dX3_needed_30 (lv_at hl 0 rfl) ?_
    subst hQ
    exact retRW (zz := (((0 : Int32), q24.2.1, q24.2.2.1, q24.2.2.2.1, q24.2.2.2.2.1, q24.2.2.2.2.2.1, q24.2.2.2.2.2.2, c_refs) : Int32 × AR × AR × Int32 × Int32 × Int32 × Int32 × AR)) (fun z => z.1) (fun z => (zwX cI cC f z.2.1 z.2.2.1 c_byLeaps z.2.2.2.1 z.2.2.2.2.1 z.2.2.2.2.2.1 z.2.2.2.2.2.2.1 c_done c_rn c_rt c_letters c_size c_rp c_seen z.2.2.2.2.2.2.2 c_inRow c_isPic)) hx hb hr hlocks rfl hS h rfl hP dX3_needed_32
  have h := itF c7 h
  refine lv_aload_n hx hb dX3_needed_10 rfl (lv_at hl 1 rfl) ?_
  refine lv_iload_n hx hb dX3_needed_11 rfl (lv_at hl 0 rfl) ?_
  obtain ⟨q12, e12, h⟩ := bd_some h
  refine g_rwA (wc := (zwX cI cC f c_lanes c_spots c_byLeaps c_load c_gone c_held c_strong c_done c_rn c_rt c_letters c_size c_rp c_seen c_refs c_inRow c_isPic)) (wc' := (zwX cI cC f c_lanes c_spots c_byLeaps c_load c_gone c_held c_strong c_done c_rn c_rt c_letters c_size c_rp c_seen q12.2 c_inRow c_isPic)) ⟨hx, hb, hml, hown, hts⟩ hE hK hA hP hD hS rfl (mX3_refuse l dC dI cI cC sk f H.size q2 c_lanes c_spots c_byLeaps c_load c_gone c_held c_strong c_done c_rn c_rt c_letters c_size c_rp c_seen c_refs c_inRow c_isPic q12 e12) (cwV 1 hts gX3_needed_X3_refuse rfl rfl rfl (by decide +kernel) ⟨Nat.le_of_ble_eq_true rfl, Nat.le_of_ble_eq_true rfl⟩) (va_recv hK hP (ci := 3) (q0 := 0) rfl rfl) (As := [.int q2]) (rest := []) rfl hl.1 rfl (Nat.le_of_ble_eq_true rfl) dX3_needed_12 ⟨Nat.zero_le _, Nat.zero_le _⟩ (fun H locs hP hD hS => ?_)
  have hP : va_P (dC, dI) vwCl (zwX cI cC f c_lanes c_spots c_byLeaps c_load c_gone c_held c_strong c_done c_rn c_rt c_letters c_size c_rp c_seen q12.2 c_inRow c_isPic) H := hP
  have hD : va_D A (zwX cI cC f c_lanes c_spots c_byLeaps c_load c_gone c_held c_strong c_done c_rn c_rt c_letters c_size c_rp c_seen q12.2 c_inRow c_isPic) := hD
  subst hQ
  exact retRW (zz := ((q12.1, c_lanes, c_spots, c_load, c_gone, c_held, c_strong, q12.2) : Int32 × AR × AR × Int32 × Int32 × Int32 × Int32 × AR)) (fun z => z.1) (fun z => (zwX cI cC f z.2.1 z.2.2.1 c_byLeaps z.2.2.2.1 z.2.2.2.2.1 z.2.2.2.2.2.1 z.2.2.2.2.2.2.1 c_done c_rn c_rt c_letters c_size c_rp c_seen z.2.2.2.2.2.2.2 c_inRow c_isPic)) hx hb hr hlocks rfl hS h rfl hP dX3_needed_15
