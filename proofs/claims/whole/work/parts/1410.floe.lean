theorem dX3_await_0 : decode cX3_await 0 = .ok (.iload_n 1, 1) := by decide +kernel
theorem dX3_await_1 : decode cX3_await 1 = .ok (.iload_n 2, 1) := by decide +kernel
theorem dX3_await_2 : decode cX3_await 2 = .ok (.invokestatic 107, 3) := by decide +kernel
theorem dX3_await_5 : decode cX3_await 5 = .ok (.istore_n 3, 1) := by decide +kernel
theorem dX3_await_6 : decode cX3_await 6 = .ok (.iload_n 3, 1) := by decide +kernel
theorem dX3_await_7 : decode cX3_await 7 = .ok (.ifCond .eq 9, 3) := by decide +kernel
theorem dX3_await_10 : decode cX3_await 10 = .ok (.aload_n 0, 1) := by decide +kernel
theorem dX3_await_11 : decode cX3_await 11 = .ok (.iload_n 3, 1) := by decide +kernel
theorem dX3_await_12 : decode cX3_await 12 = .ok (.invokevirtual 54, 3) := by decide +kernel
theorem dX3_await_15 : decode cX3_await 15 = .ok (.ireturn, 1) := by decide +kernel
theorem dX3_await_16 : decode cX3_await 16 = .ok (.aload_n 0, 1) := by decide +kernel
theorem dX3_await_17 : decode cX3_await 17 = .ok (.getfield 12, 3) := by decide +kernel
theorem dX3_await_20 : decode cX3_await 20 = .ok (.iload_n 1, 1) := by decide +kernel
theorem dX3_await_21 : decode cX3_await 21 = .ok (.iconst 0, 1) := by decide +kernel
theorem dX3_await_22 : decode cX3_await 22 = .ok (.iconst 0, 1) := by decide +kernel
theorem dX3_await_23 : decode cX3_await 23 = .ok (.invokevirtual 89, 3) := by decide +kernel
theorem dX3_await_26 : decode cX3_await 26 = .ok (.bipush 40, 2) := by decide +kernel
theorem dX3_await_28 : decode cX3_await 28 = .ok (.istore 4, 2) := by decide +kernel
theorem dX3_await_30 : decode cX3_await 30 = .ok (.iload 4, 2) := by decide +kernel
theorem dX3_await_32 : decode cX3_await 32 = .ok (.ifCond .lt 35, 3) := by decide +kernel
theorem dX3_await_35 : decode cX3_await 35 = .ok (.aload_n 0, 1) := by decide +kernel
theorem dX3_await_36 : decode cX3_await 36 = .ok (.getfield 12, 3) := by decide +kernel
theorem dX3_await_39 : decode cX3_await 39 = .ok (.iload_n 2, 1) := by decide +kernel
theorem dX3_await_40 : decode cX3_await 40 = .ok (.aload_n 0, 1) := by decide +kernel
theorem dX3_await_41 : decode cX3_await 41 = .ok (.getfield 20, 3) := by decide +kernel
theorem dX3_await_44 : decode cX3_await 44 = .ok (.getfield 86, 3) := by decide +kernel
theorem dX3_await_47 : decode cX3_await 47 = .ok (.iload 4, 2) := by decide +kernel
theorem dX3_await_49 : decode cX3_await 49 = .ok (.iadd, 1) := by decide +kernel
theorem dX3_await_50 : decode cX3_await 50 = .ok (.invokevirtual 110, 3) := by decide +kernel
theorem dX3_await_53 : decode cX3_await 53 = .ok (.bipush (-9), 2) := by decide +kernel
theorem dX3_await_55 : decode cX3_await 55 = .ok (.if_icmp .eq 6, 3) := by decide +kernel
theorem dX3_await_58 : decode cX3_await 58 = .ok (.iload 4, 2) := by decide +kernel
theorem dX3_await_60 : decode cX3_await 60 = .ok (.ireturn, 1) := by decide +kernel
theorem dX3_await_61 : decode cX3_await 61 = .ok (.iinc 4 (-1), 3) := by decide +kernel
theorem dX3_await_64 : decode cX3_await 64 = .ok (.goto (-34), 3) := by decide +kernel
theorem dX3_await_67 : decode cX3_await 67 = .ok (.bipush (-9), 2) := by decide +kernel
theorem dX3_await_69 : decode cX3_await 69 = .ok (.ireturn, 1) := by decide +kernel
set_option maxRecDepth 20000 in
theorem ggX3_await_X3_faultOfWalker : GoodIn wsX3_await wsX3_faultOfWalker := goodIn_r _ [6, 7, 8, 5, 9, 10, 11, 12] (by decide +kernel) (by decide +kernel)
set_option maxRecDepth 20000 in
theorem gX3_await_X3_faultOfWalker : GoodIn wsX3_await (va_wsS RX3 107 yX3_faultOfWalker wsX3_faultOfWalker) := goodIn_app (goodIn_of _ (by decide +kernel)) ggX3_await_X3_faultOfWalker
set_option maxRecDepth 20000 in
theorem ggX3_await_X3_refuse : GoodIn wsX3_await wsX3_refuse := goodIn_r _ [16, 17, 108, 109, 110, 111, 112, 113, 114, 115, 116] (by decide +kernel) (by decide +kernel)
set_option maxRecDepth 20000 in
theorem gX3_await_X3_refuse : GoodIn wsX3_await (wsV RX3 54 RX3 yX3_refuse wsX3_refuse) := goodIn_app (goodIn_of _ (by decide +kernel)) ggX3_await_X3_refuse
set_option maxRecDepth 20000 in
theorem ggX3_await_X2_begin : GoodIn wsX3_await wsX2_begin := goodIn_r _ [22, 23, 24, 25, 125, 126, 127, 128, 129, 130, 131, 132, 133] (by decide +kernel) (by decide +kernel)
set_option maxRecDepth 20000 in
theorem gX3_await_X2_begin : GoodIn wsX3_await (wsV RX3 89 RX2 yX2_begin wsX2_begin) := goodIn_app (goodIn_of _ (by decide +kernel)) ggX3_await_X2_begin
set_option maxRecDepth 20000 in
theorem ggX3_await_X2_minutesOver : GoodIn wsX3_await wsX2_minutesOver := goodIn_r _ [29, 30, 5, 31, 32, 33, 34, 21, 35, 36, 25, 37, 38, 39, 24, 23, 40, 41, 42, 43, 44, 45, 46, 47, 48, 49, 50, 51, 52, 53, 54, 55, 56, 57, 58, 59, 60, 61, 62, 63, 64, 65, 66, 67, 68, 69, 70, 71, 72, 73, 74, 75, 76, 77, 78, 79, 80, 81, 82, 83, 84, 85, 86, 87, 88, 89, 90, 91, 92, 93, 94, 95, 96, 97, 98, 99, 100, 101, 102, 103, 104, 105, 106, 107, 125, 126, 127, 128, 129, 130, 131, 132, 133, 117, 118, 119, 120, 121, 122, 123, 124] (by decide +kernel) (by decide +kernel)
set_option maxRecDepth 20000 in
theorem gX3_await_X2_minutesOver : GoodIn wsX3_await (wsV RX3 110 RX2 yX2_minutesOver wsX2_minutesOver) := goodIn_app (goodIn_of _ (by decide +kernel)) ggX3_await_X2_minutesOver
set_option maxHeartbeats 4000000 in
set_option maxRecDepth 100000 in
theorem mX3_await (l : Launch) (dC : Nat → ClassId) (dI : Nat → Nat → Nat) (cI cC : ClassId) (sk : (Nat → Nat) × (Nat → Nat)) (f : Nat → Nat) (sz : Nat) (p1 : Int32) (p2 : Int32) (c_lanes : AR) (c_spots : AR) (c_byLeaps : AR) (c_load : Int32) (c_gone : Int32) (c_held : Int32) (c_strong : Int32) (c_done : Int32) (c_rn : RT) (c_rt : RT) (c_letters : AR) (c_size : Int32) (c_rp : RT) (c_seen : AR) (c_refs : AR) (c_inRow : Int32) (c_isPic : Int32) (z : Int32 × AR × AR × Int32 × Int32 × Int32 × Int32 × AR) (h : fX3_await p1 p2 c_lanes c_spots c_load c_gone c_held c_strong c_rn c_refs = some z) : cRW l yX3_await wsX3_await (RMk 5 117) sk (dC, dI) (tyz cI cC) sz (zwX cI cC f c_lanes c_spots c_byLeaps c_load c_gone c_held c_strong c_done c_rn c_rt c_letters c_size c_rp c_seen c_refs c_inRow c_isPic) (zwX cI cC f z.2.1 z.2.2.1 c_byLeaps z.2.2.2.1 z.2.2.2.2.1 z.2.2.2.2.2.1 z.2.2.2.2.2.2.1 c_done c_rn c_rt c_letters c_size c_rp c_seen z.2.2.2.2.2.2.2 c_inRow c_isPic) [.ref (f 0), .int p1, .int p2] z.1 := by
  refine ofRW (cc := cX3_await) (maxL := 5) (ret := (some .int)) (own := RX3) (plainFor_of_name (by decide)) rfl rfl (Nat.le_of_ble_eq_true rfl) ?_
  intro p e s m args below meth c A hA hx hb hml hr hts hown hlocks hE hK hP hD hS ls hl
  generalize hQ : qRW _ _ _ _ _ _ _ = Q
  have hl : lv_has ls 5 [(0, .ref (f 0)), (1, .int p1), (2, .int p2)] := hl
  have hiX0 : ∀ w ∈ wsX00, w ∈ wsX3_await := fun w h => List.mem_cons_of_mem _ (List.mem_append_left _ (List.mem_append_right _ h))
  have hiX3 : ∀ w ∈ wsX30, w ∈ wsX3_await := fun w h => List.mem_cons_of_mem _ (List.mem_append_left _ (List.mem_append_left _ (List.mem_append_right _ h)))
  have hw1 := hts (Cond.fieldLink RX3 12 "FloeToFloe" "walk" "LFloeToFloe$Walk;") (List.mem_of_getElem? (i := 1) rfl)
  have hw2 := hts (Cond.fieldLink RX3 20 "FloeToFloe" "now" "LFloeToFloe$River;") (List.mem_of_getElem? (i := 2) rfl)
  have hnw4 : (Cond.fieldLinkNest "FloeToFloe" 86 "FloeToFloe$River" "minute" "I" "FloeToFloe").before args s = true := va_Nw.use rfl (hE.1 4 _ rfl)
  rw [fX3_await] at h
  refine lv_iload_n hx hb dX3_await_0 rfl (lv_at hl 1 rfl) ?_
  refine lv_iload_n hx hb dX3_await_1 rfl (lv_at hl 2 rfl) ?_
  obtain ⟨q2, e2, h⟩ := bd_some h
  refine g_roS (wc := ([] : va_W)) ⟨hx, hb, hml, hown, hts⟩ hE hK hP hS [] rfl (mX3_faultOfWalker l dC dI cI cC sk  p1 p2 q2 e2) (va_cwS 2 hts gX3_await_X3_faultOfWalker rfl rfl rfl (by decide +kernel) ⟨Nat.le_of_ble_eq_true rfl, Nat.le_of_ble_eq_true rfl⟩) (As := [.int p1, .int p2]) (rest := []) rfl hl.1 rfl (Nat.le_of_ble_eq_true rfl) dX3_await_2 ⟨Nat.zero_le _, Nat.zero_le _⟩ (fun H locs hP hS => ?_)
  refine lv_istore_n (lv' := [(3, .int q2), (0, .ref (f 0)), (1, .int p1), (2, .int p2)]) hx hb dX3_await_5 rfl hl (by decide) rfl (fun ls hl => ?_)
  refine lv_iload_n hx hb dX3_await_6 rfl (lv_at hl 0 rfl) ?_
  refine lv_if_eq (tgt := 16) hx hb dX3_await_7 (by decide) (fun c7 => ?_) (fun c7 => ?_)
  · have h := itT c7 h
    refine lv_aload_n hx hb dX3_await_16 rfl (lv_at hl 1 rfl) ?_
    refine va_get (D := (dC, dI)) (ci := 3) (v := .ref (f 1)) (C := RX3) (T := TX3) (N := 9) hx hb hts hiX3 hown hK hP 0 rfl rfl 0 (by decide) hw1 (fun _ h9 => h9) rfl dX3_await_17 ?_
    refine lv_iload_n hx hb dX3_await_20 rfl (lv_at hl 2 rfl) ?_
    refine lv_iconst (v := (0 : Int32)) hx hb dX3_await_21 (by decide) ?_
    refine lv_iconst (v := (0 : Int32)) hx hb dX3_await_22 (by decide) ?_
    obtain ⟨q23, e23, h⟩ := bd_some h
    refine g_rvV (wc := (zwV cI cC (fun k => f (k + 1)) c_lanes c_spots c_byLeaps c_load c_gone c_held c_strong c_done c_rn)) (wc' := (zwV cI cC (fun k => f (k + 1)) c_lanes c_spots c_byLeaps q23.1 q23.2.1 q23.2.2 c_strong c_done c_rn)) (ws' := (zwX cI cC f c_lanes c_spots c_byLeaps q23.1 q23.2.1 q23.2.2 c_strong c_done c_rn c_rt c_letters c_size c_rp c_seen c_refs c_inRow c_isPic)) (wr := [(f 0, .inr (3, [.ref (f 1), .ref (f 5), .ref (f 11), .ref (f 19), .ref (f 17), .ref (f 25), .ref (f 26), .int c_inRow, .int c_isPic])), (f 11, .inr (0, [.ref (f 12), .ref (f 13), .ref (f 14), .ref (f 15), .ref (f 16), .int (R_lanes c_rt), .int (R_floes c_rt), .int (R_minute c_rt)])), (f 12, .inl (cI, 8, .inl (R_kinds c_rt))), (f 13, .inl (cI, 8, .inl (R_homes c_rt))), (f 14, .inl (cI, 8, .inl (R_cells c_rt))), (f 15, .inl (cI, 8, .inl (R_paces c_rt))), (f 16, .inl (cI, 8, .inl (R_strengths c_rt))), (f 17, .inr (1, [.ref (f 18), .int c_size])), (f 18, .inl (cC, 80, .inl c_letters)), (f 19, .inr (0, [.ref (f 20), .ref (f 21), .ref (f 22), .ref (f 23), .ref (f 24), .int (R_lanes c_rp), .int (R_floes c_rp), .int (R_minute c_rp)])), (f 20, .inl (cI, 8, .inl (R_kinds c_rp))), (f 21, .inl (cI, 8, .inl (R_homes c_rp))), (f 22, .inl (cI, 8, .inl (R_cells c_rp))), (f 23, .inl (cI, 8, .inl (R_paces c_rp))), (f 24, .inl (cI, 8, .inl (R_strengths c_rp))), (f 25, .inl (cI, 12, .inl c_seen)), (f 26, .inl (cI, 7, .inl c_refs))]) (nw := 27) ⟨hx, hb, hml, hown, hts⟩ hE hK hA hP hD hS [1, 2, 3, 4, 5, 6, 7, 8, 9, 10] [0, 11, 12, 13, 14, 15, 16, 17, 18, 19, 20, 21, 22, 23, 24, 25, 26] rfl rfl rfl rfl rfl rfl (by decide +kernel) rfl (mX2_begin l dC dI cI cC sk (fun k => f (k + 1)) H.size p1 (0 : Int32) (0 : Int32) c_lanes c_spots c_byLeaps c_load c_gone c_held c_strong c_done c_rn q23 e23) (cwV 3 hts gX3_await_X2_begin rfl rfl rfl (by decide +kernel) ⟨Nat.le_of_ble_eq_true rfl, Nat.le_of_ble_eq_true rfl⟩) (va_recv hK hP (ci := 2) (q0 := 1) rfl rfl) (As := [.int p1, .int (0 : Int32), .int (0 : Int32)]) (rest := []) rfl hl.1 rfl (Nat.le_of_ble_eq_true rfl) dX3_await_23 ⟨Nat.zero_le _, Nat.zero_le _⟩ (fun H locs hP hD hS => ?_)
    refine lv_bipush (v := (40 : Int32)) hx hb dX3_await_26 (by decide) ?_
    refine lv_istore (lv' := [(4, .int (40 : Int32)), (3, .int q2), (0, .ref (f 0)), (1, .int p1), (2, .int p2)]) hx hb dX3_await_28 hl (by decide) rfl (fun ls hl => ?_)
    have L30 : ∀ (K30 : AR → AR → Int32 → Option (Int32 × AR × AR × Int32 × Int32 × Int32 × Int32 × AR)), (∀ (k30_lanes : AR) (k30_spots : AR) (k30_strong : Int32), K30 k30_lanes k30_spots k30_strong = some z → ∀ (H : Heap) (locs : List Loc) (ls : Array Slot), va_P (dC, dI) vwCl (zwX cI cC f k30_lanes k30_spots c_byLeaps q23.1 q23.2.1 q23.2.2 k30_strong c_done c_rn c_rt c_letters c_size c_rp c_seen c_refs c_inRow c_isPic) H → va_D A (zwX cI cC f k30_lanes k30_spots c_byLeaps q23.1 q23.2.1 q23.2.2 k30_strong c_done c_rn c_rt c_letters c_size c_rp c_seen c_refs c_inRow c_isPic) → va_S A s.heap H locs → lv_has ls 5 [] → W p l e (RMk 5 117) s m args below meth c H locs 0 0 Q (F0 m 67 ls [])) → ∀ (n : Nat) (x30_4 : Int32) (x30_lanes : AR) (x30_spots : AR) (x30_strong : Int32), fX3_await_L30 c_refs c_rn p2 q23 K30 n x30_4 x30_lanes x30_spots x30_strong = some z → ∀ (H : Heap) (locs : List Loc) (ls : Array Slot), va_P (dC, dI) vwCl (zwX cI cC f x30_lanes x30_spots c_byLeaps q23.1 q23.2.1 q23.2.2 x30_strong c_done c_rn c_rt c_letters c_size c_rp c_seen c_refs c_inRow c_isPic) H → va_D A (zwX cI cC f x30_lanes x30_spots c_byLeaps q23.1 q23.2.1 q23.2.2 x30_strong c_done c_rn c_rt c_letters c_size c_rp c_seen c_refs c_inRow c_isPic) → va_S A s.heap H locs → lv_has ls 5 [(0, .ref (f 0)), (2, .int p2), (4, .int x30_4)] → W p l e (RMk 5 117) s m args below meth c H locs 0 0 Q (F0 m 30 ls []) := by
      intro K30 kx30 n
      induction n with
      | zero => intro x30_4 x30_lanes x30_spots x30_strong h; rw [fX3_await_L30] at h; cases h
      | succ n ih30 =>
        intro x30_4 x30_lanes x30_spots x30_strong h H locs ls hP hD hS hl
        rw [fX3_await_L30] at h
        refine lv_iload hx hb dX3_await_30 (lv_at hl 2 rfl) ?_
        refine lv_if_lt (tgt := 67) hx hb dX3_await_32 (by decide) (fun c32 => ?_) (fun c32 => ?_)
        · have h := itT c32 h
          exact kx30 _ _ _ h _ _ _ hP hD hS (lv_sub hl [] rfl)
        have h := itF c32 h
        refine lv_aload_n hx hb dX3_await_35 rfl (lv_at hl 0 rfl) ?_
        refine va_get (D := (dC, dI)) (ci := 3) (v := .ref (f 1)) (C := RX3) (T := TX3) (N := 9) hx hb hts hiX3 hown hK hP 0 rfl rfl 0 (by decide) hw1 (fun _ h9 => h9) rfl dX3_await_36 ?_
        refine lv_iload_n hx hb dX3_await_39 rfl (lv_at hl 1 rfl) ?_
        refine lv_aload_n hx hb dX3_await_40 rfl (lv_at hl 0 rfl) ?_
        refine va_get (D := (dC, dI)) (ci := 3) (v := .ref (f 5)) (C := RX3) (T := TX3) (N := 9) hx hb hts hiX3 hown hK hP 0 rfl rfl 1 (by decide) hw2 (fun _ h9 => h9) rfl dX3_await_41 ?_
        refine va_getN (D := (dC, dI)) (ci := 0) (v := .int (R_minute c_rn)) (C := RX0) (T := TX0) (N := 8) hx hb hts hiX0 hown hK hP 5 rfl rfl 7 (by decide) hnw4 (fun _ h9 => h9) rfl dX3_await_44 ?_
        refine lv_iload hx hb dX3_await_47 (lv_at hl 2 rfl) ?_
        refine lv_iadd hx hb dX3_await_49 ?_
        obtain ⟨q50, e50, h⟩ := bd_some h
        refine g_rwV (wc := (zwV cI cC (fun k => f (k + 1)) x30_lanes x30_spots c_byLeaps q23.1 q23.2.1 q23.2.2 x30_strong c_done c_rn)) (wc' := (zwV cI cC (fun k => f (k + 1)) q50.2.1 q50.2.2.1 c_byLeaps q23.1 q23.2.1 q23.2.2 q50.2.2.2 c_done c_rn)) (ws' := (zwX cI cC f q50.2.1 q50.2.2.1 c_byLeaps q23.1 q23.2.1 q23.2.2 q50.2.2.2 c_done c_rn c_rt c_letters c_size c_rp c_seen c_refs c_inRow c_isPic)) (wr := [(f 0, .inr (3, [.ref (f 1), .ref (f 5), .ref (f 11), .ref (f 19), .ref (f 17), .ref (f 25), .ref (f 26), .int c_inRow, .int c_isPic])), (f 11, .inr (0, [.ref (f 12), .ref (f 13), .ref (f 14), .ref (f 15), .ref (f 16), .int (R_lanes c_rt), .int (R_floes c_rt), .int (R_minute c_rt)])), (f 12, .inl (cI, 8, .inl (R_kinds c_rt))), (f 13, .inl (cI, 8, .inl (R_homes c_rt))), (f 14, .inl (cI, 8, .inl (R_cells c_rt))), (f 15, .inl (cI, 8, .inl (R_paces c_rt))), (f 16, .inl (cI, 8, .inl (R_strengths c_rt))), (f 17, .inr (1, [.ref (f 18), .int c_size])), (f 18, .inl (cC, 80, .inl c_letters)), (f 19, .inr (0, [.ref (f 20), .ref (f 21), .ref (f 22), .ref (f 23), .ref (f 24), .int (R_lanes c_rp), .int (R_floes c_rp), .int (R_minute c_rp)])), (f 20, .inl (cI, 8, .inl (R_kinds c_rp))), (f 21, .inl (cI, 8, .inl (R_homes c_rp))), (f 22, .inl (cI, 8, .inl (R_cells c_rp))), (f 23, .inl (cI, 8, .inl (R_paces c_rp))), (f 24, .inl (cI, 8, .inl (R_strengths c_rp))), (f 25, .inl (cI, 12, .inl c_seen)), (f 26, .inl (cI, 7, .inl c_refs))]) (nw := 27) ⟨hx, hb, hml, hown, hts⟩ hE hK hA hP hD hS [1, 2, 3, 4, 5, 6, 7, 8, 9, 10] [0, 11, 12, 13, 14, 15, 16, 17, 18, 19, 20, 21, 22, 23, 24, 25, 26] rfl rfl rfl rfl rfl rfl (by decide +kernel) rfl (mX2_minutesOver l dC dI cI cC sk (fun k => f (k + 1)) H.size p2 ((R_minute c_rn) + x30_4) x30_lanes x30_spots c_byLeaps q23.1 q23.2.1 q23.2.2 x30_strong c_done c_rn q50 e50) (cwV 2 hts gX3_await_X2_minutesOver rfl rfl rfl (by decide +kernel) ⟨Nat.le_of_ble_eq_true rfl, Nat.le_of_ble_eq_true rfl⟩) (va_recv hK hP (ci := 2) (q0 := 1) rfl rfl) (As := [.int p2, .int ((R_minute c_rn) + x30_4)]) (rest := []) rfl hl.1 rfl (Nat.le_of_ble_eq_true rfl) dX3_await_50 ⟨Nat.zero_le _, Nat.zero_le _⟩ (fun H locs hP hD hS => ?_)
        refine lv_bipush (v := (-9 : Int32)) hx hb dX3_await_53 (by decide) ?_
        refine lv_icmp_eq (tgt := 61) hx hb dX3_await_55 (by decide) (fun c55 => ?_) (fun c55 => ?_)
        · have h := itT c55 h
          refine lv_iinc (v := (x30_4 + (-1 : Int32))) (lv' := [(4, .int (x30_4 + (-1 : Int32))), (0, .ref (f 0)), (2, .int p2)]) hx hb dX3_await_61 hl (k := 2) rfl rfl (by decide) rfl (fun ls hl => ?_)
          refine lv_goto (tgt := 30) hx hb dX3_await_64 (by decide) ?_
          exact ih30 _ _ _ _ h _ _ _ hP hD hS (lv_sub hl [1, 2, 0] rfl)
        have h := itF c55 h
        refine lv_iload hx hb dX3_await_58 (lv_at hl 2 rfl) ?_
        subst hQ
        exact retRW (zz := ((x30_4, q50.2.1, q50.2.2.1, q23.1, q23.2.1, q23.2.2, q50.2.2.2, c_refs) : Int32 × AR × AR × Int32 × Int32 × Int32 × Int32 × AR)) (fun z => z.1) (fun z => (zwX cI cC f z.2.1 z.2.2.1 c_byLeaps z.2.2.2.1 z.2.2.2.2.1 z.2.2.2.2.2.1 z.2.2.2.2.2.2.1 c_done c_rn c_rt c_letters c_size c_rp c_seen z.2.2.2.2.2.2.2 c_inRow c_isPic)) hx hb hr hlocks rfl hS h rfl hP dX3_await_60
    refine L30 _ (fun k30_lanes k30_spots k30_strong h H locs ls hP hD hS hl => ?_) _ _ _ _ _ h _ _ _ hP hD hS (lv_sub hl [2, 4, 0] rfl)
    refine lv_bipush (v := (-9 : Int32)) hx hb dX3_await_67 (by decide) ?_
    subst hQ
    exact retRW (zz := (((-9 : Int32), k30_lanes, k30_spots, q23.1, q23.2.1, q23.2.2, k30_strong, c_refs) : Int32 × AR × AR × Int32 × Int32 × Int32 × Int32 × AR)) (fun z => z.1) (fun z => (zwX cI cC f z.2.1 z.2.2.1 c_byLeaps z.2.2.2.1 z.2.2.2.2.1 z.2.2.2.2.2.1 z.2.2.2.2.2.2.1 c_done c_rn c_rt c_letters c_size c_rp c_seen z.2.2.2.2.2.2.2 c_inRow c_isPic)) hx hb hr hlocks rfl hS h rfl hP dX3_await_69
  have h := itF c7 h
  refine lv_aload_n hx hb dX3_await_10 rfl (lv_at hl 1 rfl) ?_
  refine lv_iload_n hx hb dX3_await_11 rfl (lv_at hl 0 rfl) ?_
  obtain ⟨q12, e12, h⟩ := bd_some h
  refine g_rwA (wc := (zwX cI cC f c_lanes c_spots c_byLeaps c_load c_gone c_held c_strong c_done c_rn c_rt c_letters c_size c_rp c_seen c_refs c_inRow c_isPic)) (wc' := (zwX cI cC f c_lanes c_spots c_byLeaps c_load c_gone c_held c_strong c_done c_rn c_rt c_letters c_size c_rp c_seen q12.2 c_inRow c_isPic)) ⟨hx, hb, hml, hown, hts⟩ hE hK hA hP hD hS rfl (mX3_refuse l dC dI cI cC sk f H.size q2 c_lanes c_spots c_byLeaps c_load c_gone c_held c_strong c_done c_rn c_rt c_letters c_size c_rp c_seen c_refs c_inRow c_isPic q12 e12) (cwV 1 hts gX3_await_X3_refuse rfl rfl rfl (by decide +kernel) ⟨Nat.le_of_ble_eq_true rfl, Nat.le_of_ble_eq_true rfl⟩) (va_recv hK hP (ci := 3) (q0 := 0) rfl rfl) (As := [.int q2]) (rest := []) rfl hl.1 rfl (Nat.le_of_ble_eq_true rfl) dX3_await_12 ⟨Nat.zero_le _, Nat.zero_le _⟩ (fun H locs hP hD hS => ?_)
  have hP : va_P (dC, dI) vwCl (zwX cI cC f c_lanes c_spots c_byLeaps c_load c_gone c_held c_strong c_done c_rn c_rt c_letters c_size c_rp c_seen q12.2 c_inRow c_isPic) H := hP
  have hD : va_D A (zwX cI cC f c_lanes c_spots c_byLeaps c_load c_gone c_held c_strong c_done c_rn c_rt c_letters c_size c_rp c_seen q12.2 c_inRow c_isPic) := hD
  subst hQ
  exact retRW (zz := ((q12.1, c_lanes, c_spots, c_load, c_gone, c_held, c_strong, q12.2) : Int32 × AR × AR × Int32 × Int32 × Int32 × Int32 × AR)) (fun z => z.1) (fun z => (zwX cI cC f z.2.1 z.2.2.1 c_byLeaps z.2.2.2.1 z.2.2.2.2.1 z.2.2.2.2.2.1 z.2.2.2.2.2.2.1 c_done c_rn c_rt c_letters c_size c_rp c_seen z.2.2.2.2.2.2.2 c_inRow c_isPic)) hx hb hr hlocks rfl hS h rfl hP dX3_await_15
