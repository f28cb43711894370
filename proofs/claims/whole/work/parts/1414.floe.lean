theorem dX3_poles_0 : decode cX3_poles 0 = .ok (.iload_n 1, 1) := by decide +kernel
theorem dX3_poles_1 : decode cX3_poles 1 = .ok (.iload_n 2, 1) := by decide +kernel
theorem dX3_poles_2 : decode cX3_poles 2 = .ok (.invokestatic 107, 3) := by decide +kernel
theorem dX3_poles_5 : decode cX3_poles 5 = .ok (.istore_n 3, 1) := by decide +kernel
theorem dX3_poles_6 : decode cX3_poles 6 = .ok (.iload_n 3, 1) := by decide +kernel
theorem dX3_poles_7 : decode cX3_poles 7 = .ok (.ifCond .eq 9, 3) := by decide +kernel
theorem dX3_poles_10 : decode cX3_poles 10 = .ok (.aload_n 0, 1) := by decide +kernel
theorem dX3_poles_11 : decode cX3_poles 11 = .ok (.iload_n 3, 1) := by decide +kernel
theorem dX3_poles_12 : decode cX3_poles 12 = .ok (.invokevirtual 54, 3) := by decide +kernel
theorem dX3_poles_15 : decode cX3_poles 15 = .ok (.ireturn, 1) := by decide +kernel
theorem dX3_poles_16 : decode cX3_poles 16 = .ok (.iconst 0, 1) := by decide +kernel
theorem dX3_poles_17 : decode cX3_poles 17 = .ok (.istore 4, 2) := by decide +kernel
theorem dX3_poles_19 : decode cX3_poles 19 = .ok (.iload 4, 2) := by decide +kernel
theorem dX3_poles_21 : decode cX3_poles 21 = .ok (.aload_n 0, 1) := by decide +kernel
theorem dX3_poles_22 : decode cX3_poles 22 = .ok (.getfield 20, 3) := by decide +kernel
theorem dX3_poles_25 : decode cX3_poles 25 = .ok (.getfield 100, 3) := by decide +kernel
theorem dX3_poles_28 : decode cX3_poles 28 = .ok (.if_icmp .gt 57, 3) := by decide +kernel
theorem dX3_poles_31 : decode cX3_poles 31 = .ok (.iconst 0, 1) := by decide +kernel
theorem dX3_poles_32 : decode cX3_poles 32 = .ok (.istore 5, 2) := by decide +kernel
theorem dX3_poles_34 : decode cX3_poles 34 = .ok (.iload 5, 2) := by decide +kernel
theorem dX3_poles_36 : decode cX3_poles 36 = .ok (.iconst 1, 1) := by decide +kernel
theorem dX3_poles_37 : decode cX3_poles 37 = .ok (.aload_n 0, 1) := by decide +kernel
theorem dX3_poles_38 : decode cX3_poles 38 = .ok (.getfield 20, 3) := by decide +kernel
theorem dX3_poles_41 : decode cX3_poles 41 = .ok (.getfield 100, 3) := by decide +kernel
theorem dX3_poles_44 : decode cX3_poles 44 = .ok (.ishl, 1) := by decide +kernel
theorem dX3_poles_45 : decode cX3_poles 45 = .ok (.if_icmp .ge 34, 3) := by decide +kernel
theorem dX3_poles_48 : decode cX3_poles 48 = .ok (.iload 5, 2) := by decide +kernel
theorem dX3_poles_50 : decode cX3_poles 50 = .ok (.invokestatic 133, 3) := by decide +kernel
theorem dX3_poles_53 : decode cX3_poles 53 = .ok (.iload 4, 2) := by decide +kernel
theorem dX3_poles_55 : decode cX3_poles 55 = .ok (.if_icmp .ne 18, 3) := by decide +kernel
theorem dX3_poles_58 : decode cX3_poles 58 = .ok (.aload_n 0, 1) := by decide +kernel
theorem dX3_poles_59 : decode cX3_poles 59 = .ok (.iload_n 1, 1) := by decide +kernel
theorem dX3_poles_60 : decode cX3_poles 60 = .ok (.iload_n 2, 1) := by decide +kernel
theorem dX3_poles_61 : decode cX3_poles 61 = .ok (.iconst 0, 1) := by decide +kernel
theorem dX3_poles_62 : decode cX3_poles 62 = .ok (.iload 5, 2) := by decide +kernel
theorem dX3_poles_64 : decode cX3_poles 64 = .ok (.invokevirtual 129, 3) := by decide +kernel
theorem dX3_poles_67 : decode cX3_poles 67 = .ok (.ifCond .eq 6, 3) := by decide +kernel
theorem dX3_poles_70 : decode cX3_poles 70 = .ok (.iload 5, 2) := by decide +kernel
theorem dX3_poles_72 : decode cX3_poles 72 = .ok (.ireturn, 1) := by decide +kernel
theorem dX3_poles_73 : decode cX3_poles 73 = .ok (.iinc 5 1, 3) := by decide +kernel
theorem dX3_poles_76 : decode cX3_poles 76 = .ok (.goto (-42), 3) := by decide +kernel
theorem dX3_poles_79 : decode cX3_poles 79 = .ok (.iinc 4 1, 3) := by decide +kernel
theorem dX3_poles_82 : decode cX3_poles 82 = .ok (.goto (-63), 3) := by decide +kernel
theorem dX3_poles_85 : decode cX3_poles 85 = .ok (.bipush (-9), 2) := by decide +kernel
theorem dX3_poles_87 : decode cX3_poles 87 = .ok (.ireturn, 1) := by decide +kernel
set_option maxRecDepth 20000 in
theorem ggX3_poles_X3_faultOfWalker : GoodIn wsX3_poles wsX3_faultOfWalker := goodIn_r _ [5, 6, 7, 4, 8, 9, 10, 11] (by decide +kernel) (by decide +kernel)
set_option maxRecDepth 20000 in
theorem gX3_poles_X3_faultOfWalker : GoodIn wsX3_poles (va_wsS RX3 107 yX3_faultOfWalker wsX3_faultOfWalker) := goodIn_app (goodIn_of _ (by decide +kernel)) ggX3_poles_X3_faultOfWalker
set_option maxRecDepth 20000 in
theorem ggX3_poles_X3_refuse : GoodIn wsX3_poles wsX3_refuse := goodIn_r _ [15, 16, 119, 120, 121, 122, 123, 124, 125, 126, 127] (by decide +kernel) (by decide +kernel)
set_option maxRecDepth 20000 in
theorem gX3_poles_X3_refuse : GoodIn wsX3_poles (wsV RX3 54 RX3 yX3_refuse wsX3_refuse) := goodIn_app (goodIn_of _ (by decide +kernel)) ggX3_poles_X3_refuse
set_option maxRecDepth 20000 in
theorem ggX3_poles_J6_bitCount_0f7a4 : GoodIn wsX3_poles wsJ6_bitCount_0f7a4 := goodIn_r _ [20, 21, 22, 23] (by decide +kernel) (by decide +kernel)
set_option maxRecDepth 20000 in
theorem gX3_poles_J6_bitCount_0f7a4 : GoodIn wsX3_poles (va_wsS RX3 133 yJ6_bitCount_0f7a4 wsJ6_bitCount_0f7a4) := goodIn_app (goodIn_of _ (by decide +kernel)) ggX3_poles_J6_bitCount_0f7a4
set_option maxRecDepth 20000 in
theorem ggX3_poles_X3_comesOver : GoodIn wsX3_poles wsX3_comesOver := goodIn_r _ [27, 28, 1, 29, 30, 31, 32, 33, 34, 35, 36, 37, 38, 39, 40, 41, 4, 42, 43, 44, 45, 46, 47, 48, 49, 50, 51, 52, 53, 54, 55, 56, 57, 58, 59, 60, 61, 62, 63, 64, 65, 66, 67, 68, 69, 70, 71, 72, 73, 74, 75, 76, 77, 78, 79, 80, 81, 82, 83, 84, 85, 86, 87, 88, 89, 90, 91, 92, 93, 94, 95, 96, 97, 98, 99, 100, 101, 102, 103, 104, 105, 106, 107, 108, 109, 110, 111, 112, 113, 114, 115, 116, 117, 118, 119, 120, 121, 122, 123, 124, 125, 126, 127, 128, 129, 130, 131, 132, 133, 134, 135, 136, 137, 138, 139, 140, 141, 142, 143, 144] (by decide +kernel) (by decide +kernel)
set_option maxRecDepth 20000 in
theorem gX3_poles_X3_comesOver : GoodIn wsX3_poles (wsV RX3 129 RX3 yX3_comesOver wsX3_comesOver) := goodIn_app (goodIn_of _ (by decide +kernel)) ggX3_poles_X3_comesOver
set_option maxHeartbeats 4000000 in
set_option maxRecDepth 100000 in
theorem mX3_poles (l : Launch) (dC : Nat → ClassId) (dI : Nat → Nat → Nat) (cI cC : ClassId) (sk : (Nat → Nat) × (Nat → Nat)) (f : Nat → Nat) (sz : Nat) (p1 : Int32) (p2 : Int32) (c_lanes : AR) (c_spots : AR) (c_byLeaps : AR) (c_load : Int32) (c_gone : Int32) (c_held : Int32) (c_strong : Int32) (c_done : Int32) (c_rn : RT) (c_rt : RT) (c_letters : AR) (c_size : Int32) (c_rp : RT) (c_seen : AR) (c_refs : AR) (c_inRow : Int32) (c_isPic : Int32) (z : Int32 × AR × AR × Int32 × Int32 × Int32 × Int32 × AR) (h : fX3_poles p1 p2 c_lanes c_spots c_load c_gone c_held c_strong c_rn c_refs = some z) : cRW l yX3_poles wsX3_poles (RMk 6 141) sk (dC, dI) (tyz cI cC) sz (zwX cI cC f c_lanes c_spots c_byLeaps c_load c_gone c_held c_strong c_done c_rn c_rt c_letters c_size c_rp c_seen c_refs c_inRow c_isPic) (zwX cI cC f z.2.1 z.2.2.1 c_byLeaps z.2.2.2.1 z.2.2.2.2.1 z.2.2.2.2.2.1 z.2.2.2.2.2.2.1 c_done c_rn c_rt c_letters c_size c_rp c_seen z.2.2.2.2.2.2.2 c_inRow c_isPic) [.ref (f 0), .int p1, .int p2] z.1 := by
  refine ofRW (cc := cX3_poles) (maxL := 6) (ret := (some .int)) (own := RX3) (plainFor_of_name (by decide)) rfl rfl (Nat.le_of_ble_eq_true rfl) ?_
  intro p e s m args below meth c A hA hx hb hml hr hts hown hlocks hE hK hP hD hS ls hl
  generalize hQ : qRW _ _ _ _ _ _ _ = Q
  have hl : lv_has ls 6 [(0, .ref (f 0)), (1, .int p1), (2, .int p2)] := hl
  have hiX0 : ∀ w ∈ wsX00, w ∈ wsX3_poles := fun w h => List.mem_cons_of_mem _ (List.mem_append_left _ (List.mem_append_right _ h))
  have hiX3 : ∀ w ∈ wsX30, w ∈ wsX3_poles := fun w h => List.mem_cons_of_mem _ (List.mem_append_left _ (List.mem_append_left _ (List.mem_append_right _ h)))
  have hw1 := hts (Cond.fieldLink RX3 20 "FloeToFloe" "now" "LFloeToFloe$River;") (List.mem_of_getElem? (i := 1) rfl)
  have hnw2 : (Cond.fieldLinkNest "FloeToFloe" 100 "FloeToFloe$River" "floes" "I" "FloeToFloe").before args s = true := va_Nw.use rfl (hE.1 2 _ rfl)
  rw [fX3_poles] at h
  refine lv_iload_n hx hb dX3_poles_0 rfl (lv_at hl 1 rfl) ?_
  refine lv_iload_n hx hb dX3_poles_1 rfl (lv_at hl 2 rfl) ?_
  obtain ⟨q2, e2, h⟩ := bd_some h
  refine g_roS (wc := ([] : va_W)) ⟨hx, hb, hml, hown, hts⟩ hE hK hP hS [] rfl (mX3_faultOfWalker l dC dI cI cC sk  p1 p2 q2 e2) (va_cwS 2 hts gX3_poles_X3_faultOfWalker rfl rfl rfl (by decide +kernel) ⟨Nat.le_of_ble_eq_true rfl, Nat.le_of_ble_eq_true rfl⟩) (As := [.int p1, .int p2]) (rest := []) rfl hl.1 rfl (Nat.le_of_ble_eq_true rfl) dX3_poles_2 ⟨Nat.zero_le _, Nat.zero_le _⟩ (fun H locs hP hS => ?_)
  refine lv_istore_n (lv' := [(3, .int q2), (0, .ref (f 0)), (1, .int p1), (2, .int p2)]) hx hb dX3_poles_5 rfl hl (by decide) rfl (fun ls hl => ?_)
  refine lv_iload_n hx hb dX3_poles_6 rfl (lv_at hl 0 rfl) ?_
  refine lv_if_eq (tgt := 16) hx hb dX3_poles_7 (by decide) (fun c7 => ?_) (fun c7 => ?_)
  · have h := itT c7 h
    refine lv_iconst (v := (0 : Int32)) hx hb dX3_poles_16 (by decide) ?_
    refine lv_istore (lv' := [(4, .int (0 : Int32)), (3, .int q2), (0, .ref (f 0)), (1, .int p1), (2, .int p2)]) hx hb dX3_poles_17 hl (by decide) rfl (fun ls hl => ?_)
    have L19 : ∀ (K19 : AR → AR → Int32 → Int32 → Int32 → Int32 → Option (Int32 × AR × AR × Int32 × Int32 × Int32 × Int32 × AR)), (∀ (k19_lanes : AR) (k19_spots : AR) (k19_load : Int32) (k19_gone : Int32) (k19_held : Int32) (k19_strong : Int32), K19 k19_lanes k19_spots k19_load k19_gone k19_held k19_strong = some z → ∀ (H : Heap) (locs : List Loc) (ls : Array Slot), va_P (dC, dI) vwCl (zwX cI cC f k19_lanes k19_spots c_byLeaps k19_load k19_gone k19_held k19_strong c_done c_rn c_rt c_letters c_size c_rp c_seen c_refs c_inRow c_isPic) H → va_D A (zwX cI cC f k19_lanes k19_spots c_byLeaps k19_load k19_gone k19_held k19_strong c_done c_rn c_rt c_letters c_size c_rp c_seen c_refs c_inRow c_isPic) → va_S A s.heap H locs → lv_has ls 6 [] → W p l e (RMk 6 141) s m args below meth c H locs 0 0 Q (F0 m 85 ls [])) → ∀ (n : Nat) (x19_4 : Int32) (x19_lanes : AR) (x19_spots : AR) (x19_load : Int32) (x19_gone : Int32) (x19_held : Int32) (x19_strong : Int32), fX3_poles_L19 c_refs c_rn p1 p2 K19 n x19_4 x19_lanes x19_spots x19_load x19_gone x19_held x19_strong = some z → ∀ (H : Heap) (locs : List Loc) (ls : Array Slot), va_P (dC, dI) vwCl (zwX cI cC f x19_lanes x19_spots c_byLeaps x19_load x19_gone x19_held x19_strong c_done c_rn c_rt c_letters c_size c_rp c_seen c_refs c_inRow c_isPic) H → va_D A (zwX cI cC f x19_lanes x19_spots c_byLeaps x19_load x19_gone x19_held x19_strong c_done c_rn c_rt c_letters c_size c_rp c_seen c_refs c_inRow c_isPic) → va_S A s.heap H locs → lv_has ls 6 [(0, .ref (f 0)), (1, .int p1), (2, .int p2), (4, .int x19_4)] → W p l e (RMk 6 141) s m args below meth c H locs 0 0 Q (F0 m 19 ls []) := by
      intro K19 kx19 n
      induction n with
      | zero => intro x19_4 x19_lanes x19_spots x19_load x19_gone x19_held x19_strong h; rw [fX3_poles_L19] at h; cases h
      | succ n ih19 =>
        intro x19_4 x19_lanes x19_spots x19_load x19_gone x19_held x19_strong h H locs ls hP hD hS hl
        rw [fX3_poles_L19] at h
        refine lv_iload hx hb dX3_poles_19 (lv_at hl 3 rfl) ?_
        refine lv_aload_n hx hb dX3_poles_21 rfl (lv_at hl 0 rfl) ?_
        refine va_get (D := (dC, dI)) (ci := 3) (v := .ref (f 5)) (C := RX3) (T := TX3) (N := 9) hx hb hts hiX3 hown hK hP 0 rfl rfl 1 (by decide) hw1 (fun _ h9 => h9) rfl dX3_poles_22 ?_
        refine va_getN (D := (dC, dI)) (ci := 0) (v := .int (R_floes c_rn)) (C := RX0) (T := TX0) (N := 8) hx hb hts hiX0 hown hK hP 5 rfl rfl 6 (by decide) hnw2 (fun _ h9 => h9) rfl dX3_poles_25 ?_
        refine lv_icmp_gt (tgt := 85) hx hb dX3_poles_28 (by decide) (fun c28 => ?_) (fun c28 => ?_)
        · have h := itT c28 h
          exact kx19 _ _ _ _ _ _ h _ _ _ hP hD hS (lv_sub hl [] rfl)
        have h := itF c28 h
        refine lv_iconst (v := (0 : Int32)) hx hb dX3_poles_31 (by decide) ?_
        refine lv_istore (lv' := [(5, .int (0 : Int32)), (0, .ref (f 0)), (1, .int p1), (2, .int p2), (4, .int x19_4)]) hx hb dX3_poles_32 hl (by decide) rfl (fun ls hl => ?_)
        have L34 : ∀ (K34 : AR → AR → Int32 → Int32 → Int32 → Int32 → Option (Int32 × AR × AR × Int32 × Int32 × Int32 × Int32 × AR)), (∀ (k34_lanes : AR) (k34_spots : AR) (k34_load : Int32) (k34_gone : Int32) (k34_held : Int32) (k34_strong : Int32), K34 k34_lanes k34_spots k34_load k34_gone k34_held k34_strong = some z → ∀ (H : Heap) (locs : List Loc) (ls : Array Slot), va_P (dC, dI) vwCl (zwX cI cC f k34_lanes k34_spots c_byLeaps k34_load k34_gone k34_held k34_strong c_done c_rn c_rt c_letters c_size c_rp c_seen c_refs c_inRow c_isPic) H → va_D A (zwX cI cC f k34_lanes k34_spots c_byLeaps k34_load k34_gone k34_held k34_strong c_done c_rn c_rt c_letters c_size c_rp c_seen c_refs c_inRow c_isPic) → va_S A s.heap H locs → lv_has ls 6 [(0, .ref (f 0)), (1, .int p1), (2, .int p2), (4, .int x19_4)] → W p l e (RMk 6 141) s m args below meth c H locs 0 0 Q (F0 m 79 ls [])) → ∀ (n : Nat) (x34_5 : Int32) (x34_lanes : AR) (x34_spots : AR) (x34_load : Int32) (x34_gone : Int32) (x34_held : Int32) (x34_strong : Int32), fX3_poles_L34 c_refs c_rn p1 p2 x19_4 K34 n x34_5 x34_lanes x34_spots x34_load x34_gone x34_held x34_strong = some z → ∀ (H : Heap) (locs : List Loc) (ls : Array Slot), va_P (dC, dI) vwCl (zwX cI cC f x34_lanes x34_spots c_byLeaps x34_load x34_gone x34_held x34_strong c_done c_rn c_rt c_letters c_size c_rp c_seen c_refs c_inRow c_isPic) H → va_D A (zwX cI cC f x34_lanes x34_spots c_byLeaps x34_load x34_gone x34_held x34_strong c_done c_rn c_rt c_letters c_size c_rp c_seen c_refs c_inRow c_isPic) → va_S A s.heap H locs → lv_has ls 6 [(0, .ref (f 0)), (1, .int p1), (2, .int p2), (4, .int x19_4), (5, .int x34_5)] → W p l e (RMk 6 141) s m args below meth c H locs 0 0 Q (F0 m 34 ls []) := by
          intro K34 kx34 n
          induction n with
          | zero => intro x34_5 x34_lanes x34_spots x34_load x34_gone x34_held x34_strong h; rw [fX3_poles_L34] at h; cases h
          | succ n ih34 =>
            intro x34_5 x34_lanes x34_spots x34_load x34_gone x34_held x34_strong h H locs ls hP hD hS hl
            rw [fX3_poles_L34] at h
            refine lv_iload hx hb dX3_poles_34 (lv_at hl 4 rfl) ?_
            refine lv_iconst (v := (1 : Int32)) hx hb dX3_poles_36 (by decide) ?_
            refine lv_aload_n hx hb dX3_poles_37 rfl (lv_at hl 0 rfl) ?_
            refine va_get (D := (dC, dI)) (ci := 3) (v := .ref (f 5)) (C := RX3) (T := TX3) (N := 9) hx hb hts hiX3 hown hK hP 0 rfl rfl 1 (by decide) hw1 (fun _ h9 => h9) rfl dX3_poles_38 ?_
            refine va_getN (D := (dC, dI)) (ci := 0) (v := .int (R_floes c_rn)) (C := RX0) (T := TX0) (N := 8) hx hb hts hiX0 hown hK hP 5 rfl rfl 6 (by decide) hnw2 (fun _ h9 => h9) rfl dX3_poles_41 ?_
            refine lv_ishl hx hb dX3_poles_44 ?_
            refine lv_icmp_ge (tgt := 79) hx hb dX3_poles_45 (by decide) (fun c45 => ?_) (fun c45 => ?_)
            · have h := itT c45 h
              exact kx34 _ _ _ _ _ _ h _ _ _ hP hD hS (lv_sub hl [0, 1, 2, 3] rfl)
            have h := itF c45 h
            refine lv_iload hx hb dX3_poles_48 (lv_at hl 4 rfl) ?_
            obtain ⟨q50, e50, h⟩ := bd_some h
            refine g_roS (wc := ([] : va_W)) ⟨hx, hb, hml, hown, hts⟩ hE hK hP hS [] rfl (mJ6_bitCount_0f7a4 l dC dI cI cC sk  x34_5 q50 e50) (va_cwS 1 hts gX3_poles_J6_bitCount_0f7a4 rfl rfl rfl (by decide +kernel) ⟨Nat.le_of_ble_eq_true rfl, Nat.le_of_ble_eq_true rfl⟩) (As := [.int x34_5]) (rest := []) rfl hl.1 rfl (Nat.le_of_ble_eq_true rfl) dX3_poles_50 ⟨Nat.zero_le _, Nat.zero_le _⟩ (fun H locs hP hS => ?_)
            refine lv_iload hx hb dX3_poles_53 (lv_at hl 3 rfl) ?_
            refine lv_icmp_ne (tgt := 73) hx hb dX3_poles_55 (by decide) (fun c55 => ?_) (fun c55 => ?_)
            · have h := itF c55 h
              refine lv_iinc (v := (x34_5 + (1 : Int32))) (lv' := [(5, .int (x34_5 + (1 : Int32))), (0, .ref (f 0)), (1, .int p1), (2, .int p2), (4, .int x19_4)]) hx hb dX3_poles_73 hl (k := 4) rfl rfl (by decide) rfl (fun ls hl => ?_)
              refine lv_goto (tgt := 34) hx hb dX3_poles_76 (by decide) ?_
              exact ih34 _ _ _ _ _ _ _ h _ _ _ hP hD hS (lv_sub hl [1, 2, 3, 4, 0] rfl)
            have h := itT c55 h
            refine lv_aload_n hx hb dX3_poles_58 rfl (lv_at hl 0 rfl) ?_
            refine lv_iload_n hx hb dX3_poles_59 rfl (lv_at hl 1 rfl) ?_
            refine lv_iload_n hx hb dX3_poles_60 rfl (lv_at hl 2 rfl) ?_
            refine lv_iconst (v := (0 : Int32)) hx hb dX3_poles_61 (by decide) ?_
            refine lv_iload hx hb dX3_poles_62 (lv_at hl 4 rfl) ?_
            obtain ⟨q64, e64, h⟩ := bd_some h
            refine g_rwA (wc := (zwX cI cC f x34_lanes x34_spots c_byLeaps x34_load x34_gone x34_held x34_strong c_done c_rn c_rt c_letters c_size c_rp c_seen c_refs c_inRow c_isPic)) (wc' := (zwX cI cC f q64.2.1 q64.2.2.1 c_byLeaps q64.2.2.2.1 q64.2.2.2.2.1 q64.2.2.2.2.2.1 q64.2.2.2.2.2.2 c_done c_rn c_rt c_letters c_size c_rp c_seen c_refs c_inRow c_isPic)) ⟨hx, hb, hml, hown, hts⟩ hE hK hA hP hD hS rfl (mX3_comesOver l dC dI cI cC sk f H.size p1 p2 (0 : Int32) x34_5 x34_lanes x34_spots c_byLeaps x34_load x34_gone x34_held x34_strong c_done c_rn c_rt c_letters c_size c_rp c_seen c_refs c_inRow c_isPic q64 e64) (cwV 4 hts gX3_poles_X3_comesOver rfl rfl rfl (by decide +kernel) ⟨Nat.le_of_ble_eq_true rfl, Nat.le_of_ble_eq_true rfl⟩) (va_recv hK hP (ci := 3) (q0 := 0) rfl rfl) (As := [.int p1, .int p2, .int (0 : Int32), .int x34_5]) (rest := []) rfl hl.1 rfl (Nat.le_of_ble_eq_true rfl) dX3_poles_64 ⟨Nat.zero_le _, Nat.zero_le _⟩ (fun H locs hP hD hS => ?_)
            have hP : va_P (dC, dI) vwCl (zwX cI cC f q64.2.1 q64.2.2.1 c_byLeaps q64.2.2.2.1 q64.2.2.2.2.1 q64.2.2.2.2.2.1 q64.2.2.2.2.2.2 c_done c_rn c_rt c_letters c_size c_rp c_seen c_refs c_inRow c_isPic) H := hP
            have hD : va_D A (zwX cI cC f q64.2.1 q64.2.2.1 c_byLeaps q64.2.2.2.1 q64.2.2.2.2.1 q64.2.2.2.2.2.1 q64.2.2.2.2.2.2 c_done c_rn c_rt c_letters c_size c_rp c_seen c_refs c_inRow c_isPic) := hD
            refine lv_if_eq (tgt := 73) hx hb dX3_poles_67 (by decide) (fun c67 => ?_) (fun c67 => ?_)
            · have h := itT c67 h
              refine lv_iinc (v := (x34_5 + (1 : Int32))) (lv' := [(5, .int (x34_5 + (1 : Int32))), (0, .ref (f 0)), (1, .int p1), (2, .int p2), (4, .int x19_4)]) hx hb dX3_poles_73 hl (k := 4) rfl rfl (by decide) rfl (fun ls hl => ?_)
              refine lv_goto (tgt := 34) hx hb dX3_poles_76 (by decide) ?_
              exact ih34 _ _ _ _ _ _ _ h _ _ _ hP hD hS (lv_sub hl [1, 2, 3, 4, 0] rfl)
            have h := itF c67 h
            refine lv_iload hx hb dX3_poles_70 (lv_at hl 4 rfl) ?_
            subst hQ
            exact retRW (zz := ((x34_5, q64.2.1, q64.2.2.1, q64.2.2.2.1, q64.2.2.2.2.1, q64.2.2.2.2.2.1, q64.2.2.2.2.2.2, c_refs) : Int32 × AR × AR × Int32 × Int32 × Int32 × Int32 × AR)) (fun z => z.1) (fun z => (zwX cI cC f z.2.1 z.2.2.1 c_byLeaps z.2.2.2.1 z.2.2.2.2.1 z.2.2.2.2.2.1 z.2.2.2.2.2.2.1 c_done c_rn c_rt c_letters c_size c_rp c_seen z.2.2.2.2.2.2.2 c_inRow c_isPic)) hx hb hr hlocks rfl hS h rfl hP dX3_poles_72
        refine L34 _ (fun k34_lanes k34_spots k34_load k34_gone k34_held k34_strong h H locs ls hP hD hS hl => ?_) _ _ _ _ _ _ _ _ h _ _ _ hP hD hS (lv_sub hl [1, 2, 3, 4, 0] rfl)
        refine lv_iinc (v := (x19_4 + (1 : Int32))) (lv' := [(4, .int (x19_4 + (1 : Int32))), (0, .ref (f 0)), (1, .int p1), (2, .int p2)]) hx hb dX3_poles_79 hl (k := 3) rfl rfl (by decide) rfl (fun ls hl => ?_)
        refine lv_goto (tgt := 19) hx hb dX3_poles_82 (by decide) ?_
        exact ih19 _ _ _ _ _ _ _ h _ _ _ hP hD hS (lv_sub hl [1, 2, 3, 0] rfl)
    refine L19 _ (fun k19_lanes k19_spots k19_load k19_gone k19_held k19_strong h H locs ls hP hD hS hl => ?_) _ _ _ _ _ _ _ _ h _ _ _ hP hD hS (lv_sub hl [2, 3, 4, 0] rfl)
    refine lv_bipush (v := (-9 : Int32)) hx hb dX3_poles_85 (by decide) ?_
    subst hQ
    exact retRW (zz := (((-9 : Int32), k19_lanes, k19_spots, k19_load, k19_gone, k19_held, k19_strong, c_refs) : Int32 × AR × AR × Int32 × Int32 × Int32 × Int32 × AR)) (fun z => z.1) (fun z => (zwX cI cC f z.2.1 z.2.2.1 c_byLeaps z.2.2.2.1 z.2.2.2.2.1 z.2.2.2.2.2.1 z.2.2.2.2.2.2.1 c_done c_rn c_rt c_letters c_size c_rp c_seen z.2.2.2.2.2.2.2 c_inRow c_isPic)) hx hb hr hlocks rfl hS h rfl hP dX3_poles_87
  have h := itF c7 h
  refine lv_aload_n hx hb dX3_poles_10 rfl (lv_at hl 1 rfl) ?_
  refine lv_iload_n hx hb dX3_poles_11 rfl (lv_at hl 0 rfl) ?_
  obtain ⟨q12, e12, h⟩ := bd_some h
  refine g_rwA (wc := (zwX cI cC f c_lanes c_spots c_byLeaps c_load c_gone c_held c_strong c_done c_rn c_rt c_letters c_size c_rp c_seen c_refs c_inRow c_isPic)) (wc' := (zwX cI cC f c_lanes c_spots c_byLeaps c_load c_gone c_held c_strong c_done c_rn c_rt c_letters c_size c_rp c_seen q12.2 c_inRow c_isPic)) ⟨hx, hb, hml, hown, hts⟩ hE hK hA hP hD hS rfl (mX3_refuse l dC dI cI cC sk f H.size q2 c_lanes c_spots c_byLeaps c_load c_gone c_held c_strong c_done c_rn c_rt c_letters c_size c_rp c_seen c_refs c_inRow c_isPic q12 e12) (cwV 1 hts gX3_poles_X3_refuse rfl rfl rfl (by decide +kernel) ⟨Nat.le_of_ble_eq_true rfl, Nat.le_of_ble_eq_true rfl⟩) (va_recv hK hP (ci := 3) (q0 := 0) rfl rfl) (As := [.int q2]) (rest := []) rfl hl.1 rfl (Nat.le_of_ble_eq_true rfl) dX3_poles_12 ⟨Nat.zero_le _, Nat.zero_le _⟩ (fun H locs hP hD hS => ?_)
  have hP : va_P (dC, dI) vwCl (zwX cI cC f c_lanes c_spots c_byLeaps c_load c_gone c_held c_strong c_done c_rn c_rt c_letters c_size c_rp c_seen q12.2 c_inRow c_isPic) H := hP
  have hD : va_D A (zwX cI cC f c_lanes c_spots c_byLeaps c_load c_gone c_held c_strong c_done c_rn c_rt c_letters c_size c_rp c_seen q12.2 c_inRow c_isPic) := hD
  subst hQ
  exact retRW (zz := ((q12.1, c_lanes, c_spots, c_load, c_gone, c_held, c_strong, q12.2) : Int32 × AR × AR × Int32 × Int32 × Int32 × Int32 × AR)) (fun z => z.1) (fun z => (zwX cI cC f z.2.1 z.2.2.1 c_byLeaps z.2.2.2.1 z.2.2.2.2.1 z.2.2.2.2.2.1 z.2.2.2.2.2.2.1 c_done c_rn c_rt c_letters c_size c_rp c_seen z.2.2.2.2.2.2.2 c_inRow c_isPic)) hx hb hr hlocks rfl hS h rfl hP dX3_poles_15
