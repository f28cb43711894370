theorem dX3_await_0 : decode cX3_await 0 = .ok (.iload_n 1, 1) := by decide +kernel
theorem dX3_await_1 : decode cX3_await 1 = .ok (.iload_n 2, 1) := by decide +kernel
theorem dX3_await_2 : decode cX3_await 2 = .ok (.invokestatic 105, 3) := by decide +kernel
theorem dX3_await_5 : decode cX3_await 5 = .ok (.istore_n 3, 1) := by decide +kernel
theorem dX3_await_6 : decode cX3_await 6 = .ok (.iload_n 3, 1) := by decide +kernel
theorem dX3_await_7 : decode cX3_await 7 = .ok (.ifCond .eq 9, 3) := by decide +kernel
theorem dX3_await_10 : decode cX3_await 10 = .ok (.aload_n 0, 1) := by decide +kernel
theorem dX3_await_11 : decode cX3_await 11 = .ok (.iload_n 3, 1) := by decide +kernel
theorem dX3_await_12 : decode cX3_await 12 = .ok (.invokevirtual 53, 3) := by decide +kernel
theorem dX3_await_15 : decode cX3_await 15 = .ok (.ireturn, 1) := by decide +kernel
theorem dX3_await_16 : decode cX3_await 16 = .ok (.aload_n 0, 1) := by decide +kernel
theorem dX3_await_17 : decode cX3_await 17 = .ok (.getfield 34, 3) := by decide +kernel
theorem dX3_await_20 : decode cX3_await 20 = .ok (.iload_n 1, 1) := by decide +kernel
theorem dX3_await_21 : decode cX3_await 21 = .ok (.iconst 0, 1) := by decide +kernel
theorem dX3_await_22 : decode cX3_await 22 = .ok (.iconst 0, 1) := by decide +kernel
theorem dX3_await_23 : decode cX3_await 23 = .ok (.invokevirtual 87, 3) := by decide +kernel
theorem dX3_await_26 : decode cX3_await 26 = .ok (.bipush 40, 2) := by decide +kernel
theorem dX3_await_28 : decode cX3_await 28 = .ok (.istore 4, 2) := by decide +kernel
theorem dX3_await_30 : decode cX3_await 30 = .ok (.iload 4, 2) := by decide +kernel
theorem dX3_await_32 : decode cX3_await 32 = .ok (.ifCond .lt 35, 3) := by decide +kernel
theorem dX3_await_35 : decode cX3_await 35 = .ok (.aload_n 0, 1) := by decide +kernel
theorem dX3_await_36 : decode cX3_await 36 = .ok (.getfield 34, 3) := by decide +kernel
theorem dX3_await_39 : decode cX3_await 39 = .ok (.iload_n 2, 1) := by decide +kernel
theorem dX3_await_40 : decode cX3_await 40 = .ok (.aload_n 0, 1) := by decide +kernel
theorem dX3_await_41 : decode cX3_await 41 = .ok (.getfield 12, 3) := by decide +kernel
theorem dX3_await_44 : decode cX3_await 44 = .ok (.getfield 84, 3) := by decide +kernel
theorem dX3_await_47 : decode cX3_await 47 = .ok (.iload 4, 2) := by decide +kernel
theorem dX3_await_49 : decode cX3_await 49 = .ok (.iadd, 1) := by decide +kernel
theorem dX3_await_50 : decode cX3_await 50 = .ok (.invokevirtual 108, 3) := by decide +kernel
theorem dX3_await_53 : decode cX3_await 53 = .ok (.bipush (-9), 2) := by decide +kernel
theorem dX3_await_55 : decode cX3_await 55 = .ok (.if_icmp .eq 6, 3) := by decide +kernel
theorem dX3_await_58 : decode cX3_await 58 = .ok (.iload 4, 2) := by decide +kernel
theorem dX3_await_60 : decode cX3_await 60 = .ok (.ireturn, 1) := by decide +kernel
theorem dX3_await_61 : decode cX3_await 61 = .ok (.iinc 4 (-1), 3) := by decide +kernel
theorem dX3_await_64 : decode cX3_await 64 = .ok (.goto (-34), 3) := by decide +kernel
theorem dX3_await_67 : decode cX3_await 67 = .ok (.bipush (-9), 2) := by decide +kernel
theorem dX3_await_69 : decode cX3_await 69 = .ok (.ireturn, 1) := by decide +kernel
set_option maxRecDepth 20000 in
theorem ggX3_await_X3_faultOfWalker : GoodIn wsX3_await wsX3_faultOfWalker := goodIn_r _ [6, 7, 8, 5, 9, 10, 11, 12] (by decide +kernel) (by decide +kernel)
set_option maxRecDepth 20000 in
theorem gX3_await_X3_faultOfWalker : GoodIn wsX3_await (va_wsS RX3 105 yX3_faultOfWalker wsX3_faultOfWalker) := goodIn_app (goodIn_of _ (by decide +kernel)) ggX3_await_X3_faultOfWalker
set_option maxRecDepth 20000 in
theorem ggX3_await_X3_refuse : GoodIn wsX3_await wsX3_refuse := goodIn_r _ [16, 17, 108, 109, 110, 111, 112, 113, 114, 115, 116] (by decide +kernel) (by decide +kernel)
set_option maxRecDepth 20000 in
theorem gX3_await_X3_refuse : GoodIn wsX3_await (wsV RX3 53 RX3 yX3_refuse wsX3_refuse) := goodIn_app (goodIn_of _ (by decide +kernel)) ggX3_await_X3_refuse
set_option maxRecDepth 20000 in
theorem ggX3_await_X2_begin : GoodIn wsX3_await wsX2_begin := goodIn_r _ [22, 23, 24, 25, 125, 126, 127, 128, 129, 130, 131, 132, 133] (by decide +kernel) (by decide +kernel)
set_option maxRecDepth 20000 in
theorem gX3_await_X2_begin : GoodIn wsX3_await (wsV RX3 87 RX2 yX2_begin wsX2_begin) := goodIn_app (goodIn_of _ (by decide +kernel)) ggX3_await_X2_begin
set_option maxRecDepth 20000 in
theorem ggX3_await_X2_minutesOver : GoodIn wsX3_await wsX2_minutesOver := goodIn_r _ [29, 30, 5, 31, 32, 33, 34, 21, 35, 36, 25, 37, 38, 39, 24, 23, 40, 41, 42, 43, 44, 45, 46, 47, 48, 49, 50, 51, 52, 53, 54, 55, 56, 57, 58, 59, 60, 61, 62, 63, 64, 65, 66, 67, 68, 69, 70, 71, 72, 73, 74, 75, 76, 77, 78, 79, 80, 81, 82, 83, 84, 85, 86, 87, 88, 89, 90, 91, 92, 93, 94, 95, 96, 97, 98, 99, 100, 101, 102, 103, 104, 105, 106, 107, 125, 126, 127, 128, 129, 130, 131, 132, 133, 117, 118, 119, 120, 121, 122, 123, 124] (by decide +kernel) (by decide +kernel)
set_option maxRecDepth 20000 in
theorem gX3_await_X2_minutesOver : GoodIn wsX3_await (wsV RX3 108 RX2 yX2_minutesOver wsX2_minutesOver) := goodIn_app (goodIn_of _ (by decide +kernel)) ggX3_await_X2_minutesOver
set_option maxHeartbeats 4000000 in
set_option maxRecDepth 100000 in
theorem mX3_await (l : Launch) (dC : Nat → ClassId) (dI : Nat → Nat → Nat) (cI cC : ClassId) (sk : (Nat → Nat) × (Nat → Nat)) (f : Nat → Nat) (sz : Nat) (p1 : Int32) (p2 : Int32) (c_lanes : AR) (c_spots : AR) (c_byLeaps : AR) (c_load : Int32) (c_gone : Int32) (c_held : Int32) (c_strong : Int32) (c_done : Int32) (c_rn : RT) (c_rt : RT) (c_letters : AR) (c_size : Int32) (c_rp : RT) (c_seen : AR) (c_refs : AR) (c_inRow : Int32) (c_isPic : Int32) (z : Int32 × AR × AR × Int32 × Int32 × Int32 × Int32 × AR) (h : fX3_await p1 p2 c_lanes c_spots c_load c_gone c_held c_strong c_rn c_refs = some z) : cRW l yX3_await wsX3_await (RMk 5 117) sk (dC, dI) (tyz cI cC) sz (zwX cI cC f c_lanes c_spots c_byLeaps c_load c_gone c_held c_strong c_done c_rn c_rt c_letters c_size c_rp c_seen c_refs c_inRow c_isPic) (zwX cI cC f z.2.1 z.2.2.1 c_byLeaps z.2.2.2.1 z.2.2.2.2.1 z.2.2.2.2.2.1 z.2.2.2.2.2.2.1 c_done c_rn c_rt c_letters c_size c_rp c_seen z.2.2.2.2.2.2.2 c_inRow c_isPic) [.ref (f 0), .int p1, .int p2] z.1 := by
  refine ofRW (cc := cX3_await) (maxL := 5) (ret := (some .int)) (own := RX3) (plainFor_of_name (by decide)) rfl rfl (Nat.le_of_ble_eq_true rfl) ?_
  intro p e s m args below meth c A hA hx hb hml hr hts hown hlocks hE hK hP hD hS ls hl
  generalize hQ : qRW _ _ _ _ _ _ _ = Q
  have hl : lv_has ls 5 [(0, .ref (f 0)), (1, .int p1), (2, .int p2)] := hl
  have hiX0 : ∀ w ∈ wsX00, w ∈ wsX3_await := fun w h => List.mem_cons_of_mem _ (List.mem_append_left _ (List.mem_append_right _ h))
  have hiX3 : ∀ w ∈ wsX30, w ∈ wsX3_await := fun w h => List.mem_cons_of_mem _ (List.mem_append_left _ (List.mem_append_left _ (List.mem_append_right _ h)))
  have hw1 := hts (Cond.fieldLink RX3 34 "FloeToFloe" "walk" "LFloeToFloe$Walk;") (List.mem_of_getElem? (i := 1) rfl)
  have hw2 := hts (Cond.fieldLink RX3 12 "FloeToFloe" "now" "LFloeToFloe$River;") (List.mem_of_getElem? (i := 2) rfl)
  have hnw4 : (Cond.fieldLinkNest "FloeToFloe" 84 "FloeToFloe$River" "minute" "I" "FloeToFloe").before args s = true := va_Nw.use rfl (hE.1 4 _ rfl)
  rw [fX3_await] at h
  refine lv_iload_n hx hb dX3_await_0 rfl (lv_at hl 1 rfl) ?_
  refine lv_iload_n hx hb dX3_await_1 rfl (lv_at hl 2 rfl) ?_
  obtain ⟨q2, e2, h⟩ := bd_some h
  refine g_roS (wc := ([] : va_W)) ⟨hx, hb, hml, hown, hts⟩ hE hK hP hS [] rfl (mX3_faultOfWalker l dC dI cI cC sk  p1 p2 q2 e2) (va_cwS 2 hts gX3_await_X3_faultOfWalker rfl rfl rfl (by decide +kernel) ⟨Nat.le_of_ble_eq_true rfl, Nat.le_of_ble_eq_true rfl⟩) (As := [.int p1, .int p2]) (rest := []) rfl hl.1 rfl (Nat.le_of_ble_eq_true rfl) dX3_await_2 ⟨Nat.zero_le _, Nat.zero_le _⟩ (fun H locs hP hS => ?_)
  refine lv_istore_n (lv' := [(3, .int q2), (0, .ref (f 0)), (1, .int p1), (2, .int p2)]) hx hb dX3_await_5 rfl hl (by decide) rfl (fun ls hl => ?_)
  refine lv_iload_n hx hb dX3_await_6 rfl (lv_at hl 0 rfl) ?_
  refine lv_if_eq (tgt := 16) hx hb dX3_await_7 (by decide) (fun c7 => ?_) (fun c7 => ?_)
  · have h := itT c7 h
    refine lv_aload_n hx hb dX3_await_16 rfl (lv_at hl 1 rfl) ?_
    refine va_get (D := (dC, dI)) (ci := 3) (v := .ref (f 1)) (C := RX3) (T := TX3) (N := 9) hx hb hts hiX3 hown hK hP 0 rfl rfl 4 (by decide) hw1 (fun _ h9 => h9) rfl dX3_await_17 ?_
    refine lv_iload_n hx hb dX3_await_20 rfl (lv_at hl 2 rfl) ?_
    refine lv_iconst (v := (0 : Int32)) hx hb dX3_await_21 (by decide) ?_
    refine lv_iconst (v := (0 : Int32)) hx hb dX3_await_22 (by decide) ?_
    obtain ⟨q23, e23, h⟩ := bd_some h
    refine g_rvV (wc := (zwV cI cC (fun k => f (k + 1)) c_lanes c_spots c_byLeaps c_load c_gone c_held c_strong c_done c_rn)) (wc' := (zwV cI cC (fun k => f (k + 1)) c_lanes c_spots c_byLeaps q23.1 q23.2.1 q23.2.2 c_strong c_done c_rn)) ⟨hx, hb, hml, hown, hts⟩ hE hK hA hP hD hS [1, 2, 3, 4, 5, 6, 7, 8, 9, 10] rfl rfl rfl (mX2_begin l dC dI cI cC sk (fun k => f (k + 1)) H.size p1 (0 : Int32) (0 : Int32) c_lanes c_spots c_byLeaps c_load c_gone c_held c_strong c_done c_rn q23 e23) (cwV 3 hts gX3_await_X2_begin rfl rfl rfl (by decide +kernel) ⟨Nat.le_of_ble_eq_true rfl, Nat.le_of_ble_eq_true rfl⟩) (va_recv hK hP (ci := 2) (q0 := 1) rfl rfl) (As := [.int p1, .int (0 : Int32), .int (0 : Int32)]) (rest := []) rfl hl.1 rfl (Nat.le_of_ble_eq_true rfl) dX3_await_23 ⟨Nat.zero_le _, Nat.zero_le _⟩ (fun H locs hP hD hS => ?_)
    have hP : va_P (dC, dI) vwCl (zwX cI cC f c_lanes c_spots c_byLeaps q23.1 q23.2.1 q23.2.2 c_strong c_done c_rn c_rt c_letters c_size c_rp c_seen c_refs c_inRow c_isPic) H := hP
    have hD : va_D A (zwX cI cC f c_lanes c_spots c_byLeaps q23.1 q23.2.1 q23.2.2 c_strong c_done c_rn c_rt c_letters c_size c_rp c_seen c_refs c_inRow c_isPic) := hD
    refine lv_bipush (v := (40 : Int32)) hx hb dX3_await_26 (by decide) ?_
    refine lv_istore (lv' := [(4, .int (40 : Int32)), (3, .int q2), (0, .ref (f 0)), (1, .int p1), (2, .int p2)]) hx hb dX3_await_28 hl (by decide) rfl (fun ls hl => ?_)
    have L30 : ∀ (K30 : AR → AR → Int32 → Option (Int32 × AR × AR × Int32 × Int32 × Int32 × Int32 × AR)), (∀ (k30_lanes : AR) (k30_spots : AR) (k30_strong : Int32), K30 k30_lanes k30_spots k30_strong = some z → ∀ (H : Heap) (locs : List Loc) (ls : Array Slot), va_P (dC, dI) vwCl (zwX cI cC f k30_lanes k30_spots c_byLeaps q23.1 q23.2.1 q23.2.2 k30_strong c_done c_rn c_rt c_letters c_size c_rp c_seen c_refs c_inRow c_isPic) H → va_D A (zwX cI cC f k30_lanes k30_spots c_byLeaps q23.1 q23.2.1 q23.2.2 k30_strong c_done c_rn c_rt c_letters c_size c_rp c_seen c_refs c_inRow c_isPic) → va_S A s.heap H locs → lv_has ls 5 [] → W p l e (RMk 5 117) s m args below meth c H locs 0 0 Q (F0 m 67 ls [])) → ∀ (n : Nat) (x30_4 : Int32) (x30_lanes : AR) (x30_spots : AR) (x30_strong : Int32), fX3_await_L30 c_refs c_rn p2 q23 K30 n x30_4 x30_lanes x30_spots x30_strong = some z → ∀ (H : Heap) (locs : List Loc) (ls : Array Slot), va_P (dC, dI) vwCl (zwX cI cC f x30_lanes x30_spots c_byLeaps q23.1 q23.2.1 q23.2.2 x30_strong c_done c_rn c_rt c_letters c_size c_rp c_seen c_refs c_inRow c_isPic) H → va_D A (zwX cI cC f x30_lanes x30_spots c_byLeaps q23.1 q23.2.1 q23.2.2 x30_strong c_done c_rn c_rt c_letters c_size c_rp c_seen c_refs c_inRow c_isPic) → va_S A s.heap H locs → lv_has ls 5 [(0, .ref (f 0)), (2, .int p2), (4, .int x30_4)] → W p l e (RMk 5 117) s m args below meth c H locs 0 0 Q (F0 m 30 ls []) := by
      intro K30 kx30 n
      induction n with
      | zero => intro x30_4 x30_lanes x30_spots x30_strong h; rw [fX3_await_L30] at h; cases h
      | succ n ih30 =>
        intro x30_4 x30_lanes x30_spots x30_strong h H locs ls hP hD hS hl
        rw [fX3_await_L30] at h
        refine lv_iload hx hb dX3_await_30 (lv_at hl 2 rfl) ?_
        refine lv_if_lt (tgt := 67) hx hb dX3_await_32 (by decide) (fun c32 => ?_) (fun c32 => ?_)
        · have h := itT c32 h
          exact kx30 _ _ _ h _ _ _ hP hD hS (lv_sub hl [] rfl)
        have h := itF c32 h
        refine lv_aload_n hx hb dX3_await_35 rfl (lv_at hl 0 rfl) ?_
        refine va_get (D := (dC, dI)) (ci := 3) (v := .ref (f 1)) (C := RX3) (T := TX3) (N := 9) hx hb hts hiX3 hown hK hP 0 rfl rfl 4 (by decide) hw1 (fun _ h9 => h9) rfl dX3_await_36 ?_
        refine lv_iload_n hx hb dX3_await_39 rfl (lv_at hl 1 rfl) ?_
        refine lv_aload_n hx hb dX3_await_40 rfl (lv_at hl 0 rfl) ?_
        refine va_get (D := (dC, dI)) (ci := 3) (v := .ref (f 5)) (C := RX3) (T := TX3) (N := 9) hx hb hts hiX3 hown hK hP 0 rfl rfl 0 (by decide) hw2 (fun _ h9 => h9) rfl dX3_await_41 ?_
        refine va_getN (D := (dC, dI)) (ci := 0) (v := .int (R_minute c_rn)) (C := RX0) (T := TX0) (N := 8) hx hb hts hiX0 hown hK hP 5 rfl rfl 7 (by decide) hnw4 (fun _ h9 => h9) rfl dX3_await_44 ?_
        refine lv_iload hx hb dX3_await_47 (lv_at hl 2 rfl) ?_
        refine lv_iadd hx hb dX3_await_49 ?_
        obtain ⟨q50, e50, h⟩ := bd_some h
        refine g_rwV (wc := (zwV cI cC (fun k => f (k + 1)) x30_lanes x30_spots c_byLeaps q23.1 q23.2.1 q23.2.2 x30_strong c_done c_rn)) (wc' := (zwV cI cC (fun k => f (k + 1)) q50.2.1 q50.2.2.1 c_byLeaps q23.1 q23.2.1 q23.2.2 q50.2.2.2 c_done c_rn)) ⟨hx, hb, hml, hown, hts⟩ hE hK hA hP hD hS [1, 2, 3, 4, 5, 6, 7, 8, 9, 10] rfl rfl rfl (mX2_minutesOver l dC dI cI cC sk (fun k => f (k + 1)) H.size p2 ((R_minute c_rn) + x30_4) x30_lanes x30_spots c_byLeaps q23.1 q23.2.1 q23.2.2 x30_strong c_done c_rn q50 e50) (cwV 2 hts gX3_await_X2_minutesOver rfl rfl rfl (by decide +kernel) ⟨Nat.le_of_ble_eq_true rfl, Nat.le_of_ble_eq_true rfl⟩) (va_recv hK hP (ci := 2) (q0 := 1) rfl rfl) (As := [.int p2, .int ((R_minute c_rn) + x30_4)]) (rest := []) rfl hl.1 rfl (Nat.le_of_ble_eq_true rfl) dX3_await_50 ⟨Nat.zero_le _, Nat.zero_le _⟩ (fun H locs hP hD hS => ?_)
        have hP : va_P (dC, dI) vwCl (zwX cI cC f q50.2.1 q50.2.2.1 c_byLeaps q23.1 q23.2.1 q23.2.2 q50.2.2.2 c_done c_rn c_rt c_letters c_size c_rp c_seen c_refs c_inRow c_isPic) H := hP
        have hD : va_D A (zwX cI cC f q50.2.1 q50.2.2.1 c_byLeaps q23.1 q23.2.1 q23.2.2 q50.2.2.2 c_done c_rn c_rt c_letters c_size c_rp c_seen c_refs c_inRow c_isPic) := hD
        refine lv_bipush (v := (-9 : Int32)) hx hb dX3_await_53 (by decide) ?_
        refine lv_icmp_eq (tgt := 61) hx hb dX3_await_55 (by decide) (fun c55 => ?_) (fun c55 => ?_)
        · have h := itT c55 h
          refine lv_iinc (v := (x30_4 + (-1 : Int32))) (lv' := [(4, .int (x30_4 + (-1 : Int32))), (0, .ref (f 0)), (2, .int p2)]) hx hb dX3_await_61 hl (k := 2) rfl rfl (by decide) rfl (fun ls hl => ?_)
          refine lv_goto (tgt := 30) hx hb dX3_await_64 (by decide) ?_
          exact ih30 _ _ _ _ h _ _ _ hP hD hS (lv_sub hl [1, 2, 0] rfl)
        have h := itF c55 h
        refine lv_iload hx hb dX3_await_58 (lv_at hl 2 rfl) ?_
        subst hQ
        exact retRW (zz := ((x30_4, q50.2.1, q50.2.2.1, q23.1, q23.2.1, q23.2.2, q50.2.2.2, c_refs) : Int32 × AR × AR × Int32 × Int32 × Int32 × Int32 × AR)) (fun z => z.1) (fun z => (zwX cI cC f z.2.1 z.2.2.1 c_byLeaps z.2.2.2.1 z.2.2.2.2.1 z.2.2.2.2.2.1 z.2.2.2.2.2.2.1 c_done c_rn c_rt c_letters c_size c_rp c_seen z.2.2.2.2.2.2.2 c_inRow c_isPic)) hx hb hr hlocks rfl hS h rfl hP dX3_await_60
    refine L30 _ (fun k30_lanes k30_spots k30_strong h H locs ls hP hD hS hl => ?_) _ _ _ _ _ h _ _ _ hP hD hS (lv_sub hl [2, 4, 0] rfl)
    refine lv_bipush (v := (-9 : Int32)) hx hb dX3_await_67 (by decide) ?_
    subst hQ
    exact retRW (zz := (((-9 : Int32), k30_lanes, k30_spots, q23.1, q23.2.1, q23.2.2, k30_strong, c_refs) : Int32 × AR × AR × Int32 × Int32 × Int32 × Int32 × AR)) (fun z => z.1) (fun z => (zwX cI cC f z.2.1 z.2.2.1 c_byLeaps z.2.2.2.1 z.2.2.2.2.1 z.2.2.2.2.2.1 z.2.2.2.2.2.2.1 c_done c_rn c_rt c_letters c_size c_rp c_seen z.2.2.2.2.2.2.2 c_inRow c_isPic)) hx hb hr hlocks rfl hS h rfl hP dX3_await_69
  have h := itF c7 h
  refine lv_aload_n hx hb dX3_await_10 rfl (lv_at hl 1 rfl) ?_
  refine lv_iload_n hx hb dX3_await_11 rfl (lv_at hl 0 rfl) ?_
  obtain ⟨q12, e12, h⟩ := bd_some h
  refine g_rwV (wc := (zwX cI cC f c_lanes c_spots c_byLeaps c_load c_gone c_held c_strong c_done c_rn c_rt c_letters c_size c_rp c_seen c_refs c_inRow c_isPic)) (wc' := (zwX cI cC f c_lanes c_spots c_byLeaps c_load c_gone c_held c_strong c_done c_rn c_rt c_letters c_size c_rp c_seen q12.2 c_inRow c_isPic)) ⟨hx, hb, hml, hown, hts⟩ hE hK hA hP hD hS [0, 1, 2, 3, 4, 5, 6, 7, 8, 9, 10, 11, 12, 13, 14, 15, 16, 17, 18, 19, 20, 21, 22, 23, 24, 25, 26] rfl rfl rfl (mX3_refuse l dC dI cI cC sk f H.size q2 c_lanes c_spots c_byLeaps c_load c_gone c_held c_strong c_done c_rn c_rt c_letters c_size c_rp c_seen c_refs c_inRow c_isPic q12 e12) (cwV 1 hts gX3_await_X3_refuse rfl rfl rfl (by decide +kernel) ⟨Nat.le_of_ble_eq_true rfl, Nat.le_of_ble_eq_true rfl⟩) (va_recv hK hP (ci := 3) (q0 := 0) rfl rfl) (As := [.int q2]) (rest := []) rfl hl.1 rfl (Nat.le_of_ble_eq_true rfl) dX3_await_12 ⟨Nat.zero_le _, Nat.zero_le _⟩ (fun H locs hP hD hS => ?_)
  have hP : va_P (dC, dI) vwCl (zwX cI cC f c_lanes c_spots c_byLeaps c_load c_gone c_held c_strong c_done c_rn c_rt c_letters c_size c_rp c_seen q12.2 c_inRow c_isPic) H := hP
  have hD : va_D A (zwX cI cC f c_lanes c_spots c_byLeaps c_load c_gone c_held c_strong c_done c_rn c_rt c_letters c_size c_rp c_seen q12.2 c_inRow c_isPic) := hD
  subst hQ
  exact retRW (zz := ((q12.1, c_lanes, c_spots, c_load, c_gone, c_held, c_strong, q12.2) : Int32 × AR × AR × Int32 × Int32 × Int32 × Int32 × AR)) (fun z => z.1) (fun z => (zwX cI cC f z.2.1 z.2.2.1 c_byLeaps z.2.2.2.1 z.2.2.2.2.1 z.2.2.2.2.2.1 z.2.2.2.2.2.2.1 c_done c_rn c_rt c_letters c_size c_rp c_seen z.2.2.2.2.2.2.2 c_inRow c_isPic)) hx hb hr hlocks rfl hS h rfl hP dX3_await_15
theorem dX3_comesOver_0 : decode cX3_comesOver 0 = .ok (.aload_n 0, 1) := by decide +kernel
theorem dX3_comesOver_1 : decode cX3_comesOver 1 = .ok (.getfield 34, 3) := by decide +kernel
theorem dX3_comesOver_4 : decode cX3_comesOver 4 = .ok (.iload_n 1, 1) := by decide +kernel
theorem dX3_comesOver_5 : decode cX3_comesOver 5 = .ok (.iload_n 3, 1) := by decide +kernel
theorem dX3_comesOver_6 : decode cX3_comesOver 6 = .ok (.iload 4, 2) := by decide +kernel
theorem dX3_comesOver_8 : decode cX3_comesOver 8 = .ok (.invokevirtual 87, 3) := by decide +kernel
theorem dX3_comesOver_11 : decode cX3_comesOver 11 = .ok (.aload_n 0, 1) := by decide +kernel
theorem dX3_comesOver_12 : decode cX3_comesOver 12 = .ok (.getfield 34, 3) := by decide +kernel
theorem dX3_comesOver_15 : decode cX3_comesOver 15 = .ok (.iload_n 2, 1) := by decide +kernel
theorem dX3_comesOver_16 : decode cX3_comesOver 16 = .ok (.aload_n 0, 1) := by decide +kernel
theorem dX3_comesOver_17 : decode cX3_comesOver 17 = .ok (.getfield 12, 3) := by decide +kernel
theorem dX3_comesOver_20 : decode cX3_comesOver 20 = .ok (.getfield 84, 3) := by decide +kernel
theorem dX3_comesOver_23 : decode cX3_comesOver 23 = .ok (.invokevirtual 108, 3) := by decide +kernel
theorem dX3_comesOver_26 : decode cX3_comesOver 26 = .ok (.bipush (-9), 2) := by decide +kernel
theorem dX3_comesOver_28 : decode cX3_comesOver 28 = .ok (.if_icmp .eq 7, 3) := by decide +kernel
theorem dX3_comesOver_31 : decode cX3_comesOver 31 = .ok (.iconst 1, 1) := by decide +kernel
theorem dX3_comesOver_32 : decode cX3_comesOver 32 = .ok (.goto 4, 3) := by decide +kernel
theorem dX3_comesOver_35 : decode cX3_comesOver 35 = .ok (.iconst 0, 1) := by decide +kernel
theorem dX3_comesOver_36 : decode cX3_comesOver 36 = .ok (.ireturn, 1) := by decide +kernel
set_option maxRecDepth 20000 in
theorem ggX3_comesOver_X2_begin : GoodIn wsX3_comesOver wsX2_begin := goodIn_r _ [7, 8, 9, 10, 111, 112, 113, 114, 115, 116, 117, 118, 119] (by decide +kernel) (by decide +kernel)
set_option maxRecDepth 20000 in
theorem gX3_comesOver_X2_begin : GoodIn wsX3_comesOver (wsV RX3 87 RX2 yX2_begin wsX2_begin) := goodIn_app (goodIn_of _ (by decide +kernel)) ggX3_comesOver_X2_begin
set_option maxRecDepth 20000 in
theorem ggX3_comesOver_X2_minutesOver : GoodIn wsX3_comesOver wsX2_minutesOver := goodIn_r _ [14, 15, 16, 17, 18, 19, 20, 6, 21, 22, 10, 23, 24, 25, 9, 8, 26, 27, 28, 29, 30, 31, 32, 33, 34, 35, 36, 37, 38, 39, 40, 41, 42, 43, 44, 45, 46, 47, 48, 49, 50, 51, 52, 53, 54, 55, 56, 57, 58, 59, 60, 61, 62, 63, 64, 65, 66, 67, 68, 69, 70, 71, 72, 73, 74, 75, 76, 77, 78, 79, 80, 81, 82, 83, 84, 85, 86, 87, 88, 89, 90, 91, 92, 93, 111, 112, 113, 114, 115, 116, 117, 118, 119, 103, 104, 105, 106, 107, 108, 109, 110] (by decide +kernel) (by decide +kernel)
set_option maxRecDepth 20000 in
theorem gX3_comesOver_X2_minutesOver : GoodIn wsX3_comesOver (wsV RX3 108 RX2 yX2_minutesOver wsX2_minutesOver) := goodIn_app (goodIn_of _ (by decide +kernel)) ggX3_comesOver_X2_minutesOver
set_option maxHeartbeats 4000000 in
set_option maxRecDepth 100000 in
theorem mX3_comesOver (l : Launch) (dC : Nat → ClassId) (dI : Nat → Nat → Nat) (cI cC : ClassId) (sk : (Nat → Nat) × (Nat → Nat)) (f : Nat → Nat) (sz : Nat) (p1 : Int32) (p2 : Int32) (p3 : Int32) (p4 : Int32) (c_lanes : AR) (c_spots : AR) (c_byLeaps : AR) (c_load : Int32) (c_gone : Int32) (c_held : Int32) (c_strong : Int32) (c_done : Int32) (c_rn : RT) (c_rt : RT) (c_letters : AR) (c_size : Int32) (c_rp : RT) (c_seen : AR) (c_refs : AR) (c_inRow : Int32) (c_isPic : Int32) (z : Int32 × AR × AR × Int32 × Int32 × Int32 × Int32) (h : fX3_comesOver p1 p2 p3 p4 c_lanes c_spots c_strong c_rn = some z) : cRW l yX3_comesOver wsX3_comesOver (RMk 5 117) sk (dC, dI) (tyz cI cC) sz (zwX cI cC f c_lanes c_spots c_byLeaps c_load c_gone c_held c_strong c_done c_rn c_rt c_letters c_size c_rp c_seen c_refs c_inRow c_isPic) (zwX cI cC f z.2.1 z.2.2.1 c_byLeaps z.2.2.2.1 z.2.2.2.2.1 z.2.2.2.2.2.1 z.2.2.2.2.2.2 c_done c_rn c_rt c_letters c_size c_rp c_seen c_refs c_inRow c_isPic) [.ref (f 0), .int p1, .int p2, .int p3, .int p4] z.1 := by
  refine ofRW (cc := cX3_comesOver) (maxL := 5) (ret := (some .boolean)) (own := RX3) (plainFor_of_name (by decide)) rfl rfl (Nat.le_of_ble_eq_true rfl) ?_
  intro p e s m args below meth c A hA hx hb hml hr hts hown hlocks hE hK hP hD hS ls hl
  generalize hQ : qRW _ _ _ _ _ _ _ = Q
  have hl : lv_has ls 5 [(0, .ref (f 0)), (1, .int p1), (2, .int p2), (3, .int p3), (4, .int p4)] := hl
  have hiX0 : ∀ w ∈ wsX00, w ∈ wsX3_comesOver := fun w h => List.mem_cons_of_mem _ (List.mem_append_left _ (List.mem_append_right _ h))
  have hiX3 : ∀ w ∈ wsX30, w ∈ wsX3_comesOver := fun w h => List.mem_cons_of_mem _ (List.mem_append_left _ (List.mem_append_left _ (List.mem_append_right _ h)))
  have hw1 := hts (Cond.fieldLink RX3 34 "FloeToFloe" "walk" "LFloeToFloe$Walk;") (List.mem_of_getElem? (i := 1) rfl)
  have hw2 := hts (Cond.fieldLink RX3 12 "FloeToFloe" "now" "LFloeToFloe$River;") (List.mem_of_getElem? (i := 2) rfl)
  have hnw4 : (Cond.fieldLinkNest "FloeToFloe" 84 "FloeToFloe$River" "minute" "I" "FloeToFloe").before args s = true := va_Nw.use rfl (hE.1 4 _ rfl)
  rw [fX3_comesOver] at h
  refine lv_aload_n hx hb dX3_comesOver_0 rfl (lv_at hl 0 rfl) ?_
  refine va_get (D := (dC, dI)) (ci := 3) (v := .ref (f 1)) (C := RX3) (T := TX3) (N := 9) hx hb hts hiX3 hown hK hP 0 rfl rfl 4 (by decide) hw1 (fun _ h9 => h9) rfl dX3_comesOver_1 ?_
  refine lv_iload_n hx hb dX3_comesOver_4 rfl (lv_at hl 1 rfl) ?_
  refine lv_iload_n hx hb dX3_comesOver_5 rfl (lv_at hl 3 rfl) ?_
  refine lv_iload hx hb dX3_comesOver_6 (lv_at hl 4 rfl) ?_
  obtain ⟨q8, e8, h⟩ := bd_some h
  refine g_rvV (wc := (zwV cI cC (fun k => f (k + 1)) c_lanes c_spots c_byLeaps c_load c_gone c_held c_strong c_done c_rn)) (wc' := (zwV cI cC (fun k => f (k + 1)) c_lanes c_spots c_byLeaps q8.1 q8.2.1 q8.2.2 c_strong c_done c_rn)) ⟨hx, hb, hml, hown, hts⟩ hE hK hA hP hD hS [1, 2, 3, 4, 5, 6, 7, 8, 9, 10] rfl rfl rfl (mX2_begin l dC dI cI cC sk (fun k => f (k + 1)) H.size p1 p3 p4 c_lanes c_spots c_byLeaps c_load c_gone c_held c_strong c_done c_rn q8 e8) (cwV 3 hts gX3_comesOver_X2_begin rfl rfl rfl (by decide +kernel) ⟨Nat.le_of_ble_eq_true rfl, Nat.le_of_ble_eq_true rfl⟩) (va_recv hK hP (ci := 2) (q0 := 1) rfl rfl) (As := [.int p1, .int p3, .int p4]) (rest := []) rfl hl.1 rfl (Nat.le_of_ble_eq_true rfl) dX3_comesOver_8 ⟨Nat.zero_le _, Nat.zero_le _⟩ (fun H locs hP hD hS => ?_)
  have hP : va_P (dC, dI) vwCl (zwX cI cC f c_lanes c_spots c_byLeaps q8.1 q8.2.1 q8.2.2 c_strong c_done c_rn c_rt c_letters c_size c_rp c_seen c_refs c_inRow c_isPic) H := hP
  have hD : va_D A (zwX cI cC f c_lanes c_spots c_byLeaps q8.1 q8.2.1 q8.2.2 c_strong c_done c_rn c_rt c_letters c_size c_rp c_seen c_refs c_inRow c_isPic) := hD
  refine lv_aload_n hx hb dX3_comesOver_11 rfl (lv_at hl 0 rfl) ?_
  refine va_get (D := (dC, dI)) (ci := 3) (v := .ref (f 1)) (C := RX3) (T := TX3) (N := 9) hx hb hts hiX3 hown hK hP 0 rfl rfl 4 (by decide) hw1 (fun _ h9 => h9) rfl dX3_comesOver_12 ?_
  refine lv_iload_n hx hb dX3_comesOver_15 rfl (lv_at hl 2 rfl) ?_
  refine lv_aload_n hx hb dX3_comesOver_16 rfl (lv_at hl 0 rfl) ?_
  refine va_get (D := (dC, dI)) (ci := 3) (v := .ref (f 5)) (C := RX3) (T := TX3) (N := 9) hx hb hts hiX3 hown hK hP 0 rfl rfl 0 (by decide) hw2 (fun _ h9 => h9) rfl dX3_comesOver_17 ?_
  refine va_getN (D := (dC, dI)) (ci := 0) (v := .int (R_minute c_rn)) (C := RX0) (T := TX0) (N := 8) hx hb hts hiX0 hown hK hP 5 rfl rfl 7 (by decide) hnw4 (fun _ h9 => h9) rfl dX3_comesOver_20 ?_
  obtain ⟨q23, e23, h⟩ := bd_some h
  refine g_rwV (wc := (zwV cI cC (fun k => f (k + 1)) c_lanes c_spots c_byLeaps q8.1 q8.2.1 q8.2.2 c_strong c_done c_rn)) (wc' := (zwV cI cC (fun k => f (k + 1)) q23.2.1 q23.2.2.1 c_byLeaps q8.1 q8.2.1 q8.2.2 q23.2.2.2 c_done c_rn)) ⟨hx, hb, hml, hown, hts⟩ hE hK hA hP hD hS [1, 2, 3, 4, 5, 6, 7, 8, 9, 10] rfl rfl rfl (mX2_minutesOver l dC dI cI cC sk (fun k => f (k + 1)) H.size p2 (R_minute c_rn) c_lanes c_spots c_byLeaps q8.1 q8.2.1 q8.2.2 c_strong c_done c_rn q23 e23) (cwV 2 hts gX3_comesOver_X2_minutesOver rfl rfl rfl (by decide +kernel) ⟨Nat.le_of_ble_eq_true rfl, Nat.le_of_ble_eq_true rfl⟩) (va_recv hK hP (ci := 2) (q0 := 1) rfl rfl) (As := [.int p2, .int (R_minute c_rn)]) (rest := []) rfl hl.1 rfl (Nat.le_of_ble_eq_true rfl) dX3_comesOver_23 ⟨Nat.zero_le _, Nat.zero_le _⟩ (fun H locs hP hD hS => ?_)
  have hP : va_P (dC, dI) vwCl (zwX cI cC f q23.2.1 q23.2.2.1 c_byLeaps q8.1 q8.2.1 q8.2.2 q23.2.2.2 c_done c_rn c_rt c_letters c_size c_rp c_seen c_refs c_inRow c_isPic) H := hP
  have hD : va_D A (zwX cI cC f q23.2.1 q23.2.2.1 c_byLeaps q8.1 q8.2.1 q8.2.2 q23.2.2.2 c_done c_rn c_rt c_letters c_size c_rp c_seen c_refs c_inRow c_isPic) := hD
  refine lv_bipush (v := (-9 : Int32)) hx hb dX3_comesOver_26 (by decide) ?_
  refine lv_icmp_eq (tgt := 35) hx hb dX3_comesOver_28 (by decide) (fun c28 => ?_) (fun c28 => ?_)
  · have h := itT c28 h
    refine lv_iconst (v := (0 : Int32)) hx hb dX3_comesOver_35 (by decide) ?_
    subst hQ
    exact retRW (zz := (((0 : Int32), q23.2.1, q23.2.2.1, q8.1, q8.2.1, q8.2.2, q23.2.2.2) : Int32 × AR × AR × Int32 × Int32 × Int32 × Int32)) (fun z => z.1) (fun z => (zwX cI cC f z.2.1 z.2.2.1 c_byLeaps z.2.2.2.1 z.2.2.2.2.1 z.2.2.2.2.2.1 z.2.2.2.2.2.2 c_done c_rn c_rt c_letters c_size c_rp c_seen c_refs c_inRow c_isPic)) hx hb hr hlocks rfl hS h rfl hP dX3_comesOver_36
  have h := itF c28 h
  refine lv_iconst (v := (1 : Int32)) hx hb dX3_comesOver_31 (by decide) ?_
  refine lv_goto (tgt := 36) hx hb dX3_comesOver_32 (by decide) ?_
  subst hQ
  exact retRW (zz := (((1 : Int32), q23.2.1, q23.2.2.1, q8.1, q8.2.1, q8.2.2, q23.2.2.2) : Int32 × AR × AR × Int32 × Int32 × Int32 × Int32)) (fun z => z.1) (fun z => (zwX cI cC f z.2.1 z.2.2.1 c_byLeaps z.2.2.2.1 z.2.2.2.2.1 z.2.2.2.2.2.1 z.2.2.2.2.2.2 c_done c_rn c_rt c_letters c_size c_rp c_seen c_refs c_inRow c_isPic)) hx hb hr hlocks rfl hS h rfl hP dX3_comesOver_36
theorem dX3_heaviest_0 : decode cX3_heaviest 0 = .ok (.iload_n 1, 1) := by decide +kernel
theorem dX3_heaviest_1 : decode cX3_heaviest 1 = .ok (.invokestatic 114, 3) := by decide +kernel
theorem dX3_heaviest_4 : decode cX3_heaviest 4 = .ok (.ifCond .ne 9, 3) := by decide +kernel
theorem dX3_heaviest_7 : decode cX3_heaviest 7 = .ok (.aload_n 0, 1) := by decide +kernel
theorem dX3_heaviest_8 : decode cX3_heaviest 8 = .ok (.iconst (-1), 1) := by decide +kernel
theorem dX3_heaviest_9 : decode cX3_heaviest 9 = .ok (.invokevirtual 53, 3) := by decide +kernel
theorem dX3_heaviest_12 : decode cX3_heaviest 12 = .ok (.ireturn, 1) := by decide +kernel
theorem dX3_heaviest_13 : decode cX3_heaviest 13 = .ok (.bipush 9, 2) := by decide +kernel
theorem dX3_heaviest_15 : decode cX3_heaviest 15 = .ok (.istore_n 2, 1) := by decide +kernel
theorem dX3_heaviest_16 : decode cX3_heaviest 16 = .ok (.iload_n 2, 1) := by decide +kernel
theorem dX3_heaviest_17 : decode cX3_heaviest 17 = .ok (.ifCond .le 22, 3) := by decide +kernel
theorem dX3_heaviest_20 : decode cX3_heaviest 20 = .ok (.aload_n 0, 1) := by decide +kernel
theorem dX3_heaviest_21 : decode cX3_heaviest 21 = .ok (.iload_n 2, 1) := by decide +kernel
theorem dX3_heaviest_22 : decode cX3_heaviest 22 = .ok (.iload_n 1, 1) := by decide +kernel
theorem dX3_heaviest_23 : decode cX3_heaviest 23 = .ok (.iconst 0, 1) := by decide +kernel
theorem dX3_heaviest_24 : decode cX3_heaviest 24 = .ok (.iconst 0, 1) := by decide +kernel
theorem dX3_heaviest_25 : decode cX3_heaviest 25 = .ok (.invokevirtual 127, 3) := by decide +kernel
theorem dX3_heaviest_28 : decode cX3_heaviest 28 = .ok (.ifCond .eq 5, 3) := by decide +kernel
theorem dX3_heaviest_31 : decode cX3_heaviest 31 = .ok (.iload_n 2, 1) := by decide +kernel
theorem dX3_heaviest_32 : decode cX3_heaviest 32 = .ok (.ireturn, 1) := by decide +kernel
theorem dX3_heaviest_33 : decode cX3_heaviest 33 = .ok (.iinc 2 (-1), 3) := by decide +kernel
theorem dX3_heaviest_36 : decode cX3_heaviest 36 = .ok (.goto (-20), 3) := by decide +kernel
theorem dX3_heaviest_39 : decode cX3_heaviest 39 = .ok (.iconst 0, 1) := by decide +kernel
theorem dX3_heaviest_40 : decode cX3_heaviest 40 = .ok (.ireturn, 1) := by decide +kernel
set_option maxRecDepth 20000 in
theorem ggX3_heaviest_X3_isCell : GoodIn wsX3_heaviest wsX3_isCell := goodIn_r _ [4] (by decide +kernel) (by decide +kernel)
set_option maxRecDepth 20000 in
theorem gX3_heaviest_X3_isCell : GoodIn wsX3_heaviest (va_wsS RX3 114 yX3_isCell wsX3_isCell) := goodIn_app (goodIn_of _ (by decide +kernel)) ggX3_heaviest_X3_isCell
set_option maxRecDepth 20000 in
theorem ggX3_heaviest_X3_refuse : GoodIn wsX3_heaviest wsX3_refuse := goodIn_r _ [8, 9, 106, 107, 108, 109, 110, 111, 112, 113, 114] (by decide +kernel) (by decide +kernel)
set_option maxRecDepth 20000 in
theorem gX3_heaviest_X3_refuse : GoodIn wsX3_heaviest (wsV RX3 53 RX3 yX3_refuse wsX3_refuse) := goodIn_app (goodIn_of _ (by decide +kernel)) ggX3_heaviest_X3_refuse
set_option maxRecDepth 20000 in
theorem ggX3_heaviest_X3_comesOver : GoodIn wsX3_heaviest wsX3_comesOver := goodIn_r _ [13, 14, 15, 16, 17, 18, 19, 20, 21, 22, 23, 24, 25, 26, 27, 28, 3, 29, 30, 31, 32, 33, 34, 35, 36, 37, 38, 39, 40, 41, 42, 43, 44, 45, 46, 47, 48, 49, 50, 51, 52, 53, 54, 55, 56, 57, 58, 59, 60, 61, 62, 63, 64, 65, 66, 67, 68, 69, 70, 71, 72, 73, 74, 75, 76, 77, 78, 79, 80, 81, 82, 83, 84, 85, 86, 87, 88, 89, 90, 91, 92, 93, 94, 95, 96, 97, 98, 99, 100, 101, 102, 103, 104, 105, 106, 107, 108, 109, 110, 111, 112, 113, 114, 115, 116, 117, 118, 119, 120, 121, 122, 123, 124, 125, 126, 127, 128, 129, 130, 131] (by decide +kernel) (by decide +kernel)
set_option maxRecDepth 20000 in
theorem gX3_heaviest_X3_comesOver : GoodIn wsX3_heaviest (wsV RX3 127 RX3 yX3_comesOver wsX3_comesOver) := goodIn_app (goodIn_of _ (by decide +kernel)) ggX3_heaviest_X3_comesOver
set_option maxHeartbeats 4000000 in
set_option maxRecDepth 100000 in
theorem mX3_heaviest (l : Launch) (dC : Nat → ClassId) (dI : Nat → Nat → Nat) (cI cC : ClassId) (sk : (Nat → Nat) × (Nat → Nat)) (f : Nat → Nat) (sz : Nat) (p1 : Int32) (c_lanes : AR) (c_spots : AR) (c_byLeaps : AR) (c_load : Int32) (c_gone : Int32) (c_held : Int32) (c_strong : Int32) (c_done : Int32) (c_rn : RT) (c_rt : RT) (c_letters : AR) (c_size : Int32) (c_rp : RT) (c_seen : AR) (c_refs : AR) (c_inRow : Int32) (c_isPic : Int32) (z : Int32 × AR × AR × Int32 × Int32 × Int32 × Int32 × AR) (h : fX3_heaviest p1 c_lanes c_spots c_load c_gone c_held c_strong c_rn c_refs = some z) : cRW l yX3_heaviest wsX3_heaviest (RMk 6 141) sk (dC, dI) (tyz cI cC) sz (zwX cI cC f c_lanes c_spots c_byLeaps c_load c_gone c_held c_strong c_done c_rn c_rt c_letters c_size c_rp c_seen c_refs c_inRow c_isPic) (zwX cI cC f z.2.1 z.2.2.1 c_byLeaps z.2.2.2.1 z.2.2.2.2.1 z.2.2.2.2.2.1 z.2.2.2.2.2.2.1 c_done c_rn c_rt c_letters c_size c_rp c_seen z.2.2.2.2.2.2.2 c_inRow c_isPic) [.ref (f 0), .int p1] z.1 := by
  refine ofRW (cc := cX3_heaviest) (maxL := 3) (ret := (some .int)) (own := RX3) (plainFor_of_name (by decide)) rfl rfl (Nat.le_of_ble_eq_true rfl) ?_
  intro p e s m args below meth c A hA hx hb hml hr hts hown hlocks hE hK hP hD hS ls hl
  generalize hQ : qRW _ _ _ _ _ _ _ = Q
  have hl : lv_has ls 3 [(0, .ref (f 0)), (1, .int p1)] := hl
  rw [fX3_heaviest] at h
  refine lv_iload_n hx hb dX3_heaviest_0 rfl (lv_at hl 1 rfl) ?_
  obtain ⟨q1, e1, h⟩ := bd_some h
  refine g_roS (wc := ([] : va_W)) ⟨hx, hb, hml, hown, hts⟩ hE hK hP hS [] rfl (mX3_isCell l dC dI cI cC sk  p1 q1 e1) (va_cwS 1 hts gX3_heaviest_X3_isCell rfl rfl rfl (by decide +kernel) ⟨Nat.le_of_ble_eq_true rfl, Nat.le_of_ble_eq_true rfl⟩) (As := [.int p1]) (rest := []) rfl hl.1 rfl (Nat.le_of_ble_eq_true rfl) dX3_heaviest_1 ⟨Nat.zero_le _, Nat.zero_le _⟩ (fun H locs hP hS => ?_)
  refine lv_if_ne (tgt := 13) hx hb dX3_heaviest_4 (by decide) (fun c4 => ?_) (fun c4 => ?_)
  · have h := itF c4 h
    refine lv_bipush (v := (9 : Int32)) hx hb dX3_heaviest_13 (by decide) ?_
    refine lv_istore_n (lv' := [(2, .int (9 : Int32)), (0, .ref (f 0)), (1, .int p1)]) hx hb dX3_heaviest_15 rfl hl (by decide) rfl (fun ls hl => ?_)
    have L16 : ∀ (K16 : AR → AR → Int32 → Int32 → Int32 → Int32 → Option (Int32 × AR × AR × Int32 × Int32 × Int32 × Int32 × AR)), (∀ (k16_lanes : AR) (k16_spots : AR) (k16_load : Int32) (k16_gone : Int32) (k16_held : Int32) (k16_strong : Int32), K16 k16_lanes k16_spots k16_load k16_gone k16_held k16_strong = some z → ∀ (H : Heap) (locs : List Loc) (ls : Array Slot), va_P (dC, dI) vwCl (zwX cI cC f k16_lanes k16_spots c_byLeaps k16_load k16_gone k16_held k16_strong c_done c_rn c_rt c_letters c_size c_rp c_seen c_refs c_inRow c_isPic) H → va_D A (zwX cI cC f k16_lanes k16_spots c_byLeaps k16_load k16_gone k16_held k16_strong c_done c_rn c_rt c_letters c_size c_rp c_seen c_refs c_inRow c_isPic) → va_S A s.heap H locs → lv_has ls 3 [] → W p l e (RMk 6 141) s m args below meth c H locs 0 0 Q (F0 m 39 ls [])) → ∀ (n : Nat) (x16_2 : Int32) (x16_lanes : AR) (x16_spots : AR) (x16_load : Int32) (x16_gone : Int32) (x16_held : Int32) (x16_strong : Int32), fX3_heaviest_L16 c_refs c_rn p1 K16 n x16_2 x16_lanes x16_spots x16_load x16_gone x16_held x16_strong = some z → ∀ (H : Heap) (locs : List Loc) (ls : Array Slot), va_P (dC, dI) vwCl (zwX cI cC f x16_lanes x16_spots c_byLeaps x16_load x16_gone x16_held x16_strong c_done c_rn c_rt c_letters c_size c_rp c_seen c_refs c_inRow c_isPic) H → va_D A (zwX cI cC f x16_lanes x16_spots c_byLeaps x16_load x16_gone x16_held x16_strong c_done c_rn c_rt c_letters c_size c_rp c_seen c_refs c_inRow c_isPic) → va_S A s.heap H locs → lv_has ls 3 [(0, .ref (f 0)), (1, .int p1), (2, .int x16_2)] → W p l e (RMk 6 141) s m args below meth c H locs 0 0 Q (F0 m 16 ls []) := by
      intro K16 kx16 n
      induction n with
      | zero => intro x16_2 x16_lanes x16_spots x16_load x16_gone x16_held x16_strong h; rw [fX3_heaviest_L16] at h; cases h
      | succ n ih16 =>
        intro x16_2 x16_lanes x16_spots x16_load x16_gone x16_held x16_strong h H locs ls hP hD hS hl
        rw [fX3_heaviest_L16] at h
        refine lv_iload_n hx hb dX3_heaviest_16 rfl (lv_at hl 2 rfl) ?_
        refine lv_if_le (tgt := 39) hx hb dX3_heaviest_17 (by decide) (fun c17 => ?_) (fun c17 => ?_)
        · have h := itT c17 h
          exact kx16 _ _ _ _ _ _ h _ _ _ hP hD hS (lv_sub hl [] rfl)
        have h := itF c17 h
        refine lv_aload_n hx hb dX3_heaviest_20 rfl (lv_at hl 0 rfl) ?_
        refine lv_iload_n hx hb dX3_heaviest_21 rfl (lv_at hl 2 rfl) ?_
        refine lv_iload_n hx hb dX3_heaviest_22 rfl (lv_at hl 1 rfl) ?_
        refine lv_iconst (v := (0 : Int32)) hx hb dX3_heaviest_23 (by decide) ?_
        refine lv_iconst (v := (0 : Int32)) hx hb dX3_heaviest_24 (by decide) ?_
        obtain ⟨q25, e25, h⟩ := bd_some h
        refine g_rwV (wc := (zwX cI cC f x16_lanes x16_spots c_byLeaps x16_load x16_gone x16_held x16_strong c_done c_rn c_rt c_letters c_size c_rp c_seen c_refs c_inRow c_isPic)) (wc' := (zwX cI cC f q25.2.1 q25.2.2.1 c_byLeaps q25.2.2.2.1 q25.2.2.2.2.1 q25.2.2.2.2.2.1 q25.2.2.2.2.2.2 c_done c_rn c_rt c_letters c_size c_rp c_seen c_refs c_inRow c_isPic)) ⟨hx, hb, hml, hown, hts⟩ hE hK hA hP hD hS [0, 1, 2, 3, 4, 5, 6, 7, 8, 9, 10, 11, 12, 13, 14, 15, 16, 17, 18, 19, 20, 21, 22, 23, 24, 25, 26] rfl rfl rfl (mX3_comesOver l dC dI cI cC sk f H.size x16_2 p1 (0 : Int32) (0 : Int32) x16_lanes x16_spots c_byLeaps x16_load x16_gone x16_held x16_strong c_done c_rn c_rt c_letters c_size c_rp c_seen c_refs c_inRow c_isPic q25 e25) (cwV 4 hts gX3_heaviest_X3_comesOver rfl rfl rfl (by decide +kernel) ⟨Nat.le_of_ble_eq_true rfl, Nat.le_of_ble_eq_true rfl⟩) (va_recv hK hP (ci := 3) (q0 := 0) rfl rfl) (As := [.int x16_2, .int p1, .int (0 : Int32), .int (0 : Int32)]) (rest := []) rfl hl.1 rfl (Nat.le_of_ble_eq_true rfl) dX3_heaviest_25 ⟨Nat.zero_le _, Nat.zero_le _⟩ (fun H locs hP hD hS => ?_)
        have hP : va_P (dC, dI) vwCl (zwX cI cC f q25.2.1 q25.2.2.1 c_byLeaps q25.2.2.2.1 q25.2.2.2.2.1 q25.2.2.2.2.2.1 q25.2.2.2.2.2.2 c_done c_rn c_rt c_letters c_size c_rp c_seen c_refs c_inRow c_isPic) H := hP
        have hD : va_D A (zwX cI cC f q25.2.1 q25.2.2.1 c_byLeaps q25.2.2.2.1 q25.2.2.2.2.1 q25.2.2.2.2.2.1 q25.2.2.2.2.2.2 c_done c_rn c_rt c_letters c_size c_rp c_seen c_refs c_inRow c_isPic) := hD
        refine lv_if_eq (tgt := 33) hx hb dX3_heaviest_28 (by decide) (fun c28 => ?_) (fun c28 => ?_)
        · have h := itT c28 h
          refine lv_iinc (v := (x16_2 + (-1 : Int32))) (lv' := [(2, .int (x16_2 + (-1 : Int32))), (0, .ref (f 0)), (1, .int p1)]) hx hb dX3_heaviest_33 hl (k := 2) rfl rfl (by decide) rfl (fun ls hl => ?_)
          refine lv_goto (tgt := 16) hx hb dX3_heaviest_36 (by decide) ?_
          exact ih16 _ _ _ _ _ _ _ h _ _ _ hP hD hS (lv_sub hl [1, 2, 0] rfl)
        have h := itF c28 h
        refine lv_iload_n hx hb dX3_heaviest_31 rfl (lv_at hl 2 rfl) ?_
        subst hQ
        exact retRW (zz := ((x16_2, q25.2.1, q25.2.2.1, q25.2.2.2.1, q25.2.2.2.2.1, q25.2.2.2.2.2.1, q25.2.2.2.2.2.2, c_refs) : Int32 × AR × AR × Int32 × Int32 × Int32 × Int32 × AR)) (fun z => z.1) (fun z => (zwX cI cC f z.2.1 z.2.2.1 c_byLeaps z.2.2.2.1 z.2.2.2.2.1 z.2.2.2.2.2.1 z.2.2.2.2.2.2.1 c_done c_rn c_rt c_letters c_size c_rp c_seen z.2.2.2.2.2.2.2 c_inRow c_isPic)) hx hb hr hlocks rfl hS h rfl hP dX3_heaviest_32
    refine L16 _ (fun k16_lanes k16_spots k16_load k16_gone k16_held k16_strong h H locs ls hP hD hS hl => ?_) _ _ _ _ _ _ _ _ h _ _ _ hP hD hS (lv_sub hl [1, 2, 0] rfl)
    refine lv_iconst (v := (0 : Int32)) hx hb dX3_heaviest_39 (by decide) ?_
    subst hQ
    exact retRW (zz := (((0 : Int32), k16_lanes, k16_spots, k16_load, k16_gone, k16_held, k16_strong, c_refs) : Int32 × AR × AR × Int32 × Int32 × Int32 × Int32 × AR)) (fun z => z.1) (fun z => (zwX cI cC f z.2.1 z.2.2.1 c_byLeaps z.2.2.2.1 z.2.2.2.2.1 z.2.2.2.2.2.1 z.2.2.2.2.2.2.1 c_done c_rn c_rt c_letters c_size c_rp c_seen z.2.2.2.2.2.2.2 c_inRow c_isPic)) hx hb hr hlocks rfl hS h rfl hP dX3_heaviest_40
  have h := itT c4 h
  refine lv_aload_n hx hb dX3_heaviest_7 rfl (lv_at hl 0 rfl) ?_
  refine lv_iconst (v := (-1 : Int32)) hx hb dX3_heaviest_8 (by decide) ?_
  obtain ⟨q9, e9, h⟩ := bd_some h
  refine g_rwV (wc := (zwX cI cC f c_lanes c_spots c_byLeaps c_load c_gone c_held c_strong c_done c_rn c_rt c_letters c_size c_rp c_seen c_refs c_inRow c_isPic)) (wc' := (zwX cI cC f c_lanes c_spots c_byLeaps c_load c_gone c_held c_strong c_done c_rn c_rt c_letters c_size c_rp c_seen q9.2 c_inRow c_isPic)) ⟨hx, hb, hml, hown, hts⟩ hE hK hA hP hD hS [0, 1, 2, 3, 4, 5, 6, 7, 8, 9, 10, 11, 12, 13, 14, 15, 16, 17, 18, 19, 20, 21, 22, 23, 24, 25, 26] rfl rfl rfl (mX3_refuse l dC dI cI cC sk f H.size (-1 : Int32) c_lanes c_spots c_byLeaps c_load c_gone c_held c_strong c_done c_rn c_rt c_letters c_size c_rp c_seen c_refs c_inRow c_isPic q9 e9) (cwV 1 hts gX3_heaviest_X3_refuse rfl rfl rfl (by decide +kernel) ⟨Nat.le_of_ble_eq_true rfl, Nat.le_of_ble_eq_true rfl⟩) (va_recv hK hP (ci := 3) (q0 := 0) rfl rfl) (As := [.int (-1 : Int32)]) (rest := []) rfl hl.1 rfl (Nat.le_of_ble_eq_true rfl) dX3_heaviest_9 ⟨Nat.zero_le _, Nat.zero_le _⟩ (fun H locs hP hD hS => ?_)
  have hP : va_P (dC, dI) vwCl (zwX cI cC f c_lanes c_spots c_byLeaps c_load c_gone c_held c_strong c_done c_rn c_rt c_letters c_size c_rp c_seen q9.2 c_inRow c_isPic) H := hP
  have hD : va_D A (zwX cI cC f c_lanes c_spots c_byLeaps c_load c_gone c_held c_strong c_done c_rn c_rt c_letters c_size c_rp c_seen q9.2 c_inRow c_isPic) := hD
  subst hQ
  exact retRW (zz := ((q9.1, c_lanes, c_spots, c_load, c_gone, c_held, c_strong, q9.2) : Int32 × AR × AR × Int32 × Int32 × Int32 × Int32 × AR)) (fun z => z.1) (fun z => (zwX cI cC f z.2.1 z.2.2.1 c_byLeaps z.2.2.2.1 z.2.2.2.2.1 z.2.2.2.2.2.1 z.2.2.2.2.2.2.1 c_done c_rn c_rt c_letters c_size c_rp c_seen z.2.2.2.2.2.2.2 c_inRow c_isPic)) hx hb hr hlocks rfl hS h rfl hP dX3_heaviest_12
theorem dX3_needed_0 : decode cX3_needed 0 = .ok (.iload_n 1, 1) := by decide +kernel
theorem dX3_needed_1 : decode cX3_needed 1 = .ok (.iload_n 2, 1) := by decide +kernel
theorem dX3_needed_2 : decode cX3_needed 2 = .ok (.invokestatic 105, 3) := by decide +kernel
theorem dX3_needed_5 : decode cX3_needed 5 = .ok (.istore_n 3, 1) := by decide +kernel
theorem dX3_needed_6 : decode cX3_needed 6 = .ok (.iload_n 3, 1) := by decide +kernel
theorem dX3_needed_7 : decode cX3_needed 7 = .ok (.ifCond .eq 9, 3) := by decide +kernel
theorem dX3_needed_10 : decode cX3_needed 10 = .ok (.aload_n 0, 1) := by decide +kernel
theorem dX3_needed_11 : decode cX3_needed 11 = .ok (.iload_n 3, 1) := by decide +kernel
theorem dX3_needed_12 : decode cX3_needed 12 = .ok (.invokevirtual 53, 3) := by decide +kernel
theorem dX3_needed_15 : decode cX3_needed 15 = .ok (.ireturn, 1) := by decide +kernel
theorem dX3_needed_16 : decode cX3_needed 16 = .ok (.iconst 0, 1) := by decide +kernel
theorem dX3_needed_17 : decode cX3_needed 17 = .ok (.istore 4, 2) := by decide +kernel
theorem dX3_needed_19 : decode cX3_needed 19 = .ok (.aload_n 0, 1) := by decide +kernel
theorem dX3_needed_20 : decode cX3_needed 20 = .ok (.iload_n 1, 1) := by decide +kernel
theorem dX3_needed_21 : decode cX3_needed 21 = .ok (.iload_n 2, 1) := by decide +kernel
theorem dX3_needed_22 : decode cX3_needed 22 = .ok (.iconst 0, 1) := by decide +kernel
theorem dX3_needed_23 : decode cX3_needed 23 = .ok (.iconst 0, 1) := by decide +kernel
theorem dX3_needed_24 : decode cX3_needed 24 = .ok (.invokevirtual 127, 3) := by decide +kernel
theorem dX3_needed_27 : decode cX3_needed 27 = .ok (.ifCond .ne 6, 3) := by decide +kernel
theorem dX3_needed_30 : decode cX3_needed 30 = .ok (.iload 4, 2) := by decide +kernel
theorem dX3_needed_32 : decode cX3_needed 32 = .ok (.ireturn, 1) := by decide +kernel
theorem dX3_needed_33 : decode cX3_needed 33 = .ok (.iconst 0, 1) := by decide +kernel
theorem dX3_needed_34 : decode cX3_needed 34 = .ok (.istore 5, 2) := by decide +kernel
theorem dX3_needed_36 : decode cX3_needed 36 = .ok (.iload 5, 2) := by decide +kernel
theorem dX3_needed_38 : decode cX3_needed 38 = .ok (.aload_n 0, 1) := by decide +kernel
theorem dX3_needed_39 : decode cX3_needed 39 = .ok (.getfield 12, 3) := by decide +kernel
theorem dX3_needed_42 : decode cX3_needed 42 = .ok (.getfield 98, 3) := by decide +kernel
theorem dX3_needed_45 : decode cX3_needed 45 = .ok (.if_icmp .ge 32, 3) := by decide +kernel
theorem dX3_needed_48 : decode cX3_needed 48 = .ok (.aload_n 0, 1) := by decide +kernel
theorem dX3_needed_49 : decode cX3_needed 49 = .ok (.iload_n 1, 1) := by decide +kernel
theorem dX3_needed_50 : decode cX3_needed 50 = .ok (.iload_n 2, 1) := by decide +kernel
theorem dX3_needed_51 : decode cX3_needed 51 = .ok (.iconst 1, 1) := by decide +kernel
theorem dX3_needed_52 : decode cX3_needed 52 = .ok (.iload 5, 2) := by decide +kernel
theorem dX3_needed_54 : decode cX3_needed 54 = .ok (.ishl, 1) := by decide +kernel
theorem dX3_needed_55 : decode cX3_needed 55 = .ok (.iconst 0, 1) := by decide +kernel
theorem dX3_needed_56 : decode cX3_needed 56 = .ok (.invokevirtual 127, 3) := by decide +kernel
theorem dX3_needed_59 : decode cX3_needed 59 = .ok (.ifCond .ne 12, 3) := by decide +kernel
theorem dX3_needed_62 : decode cX3_needed 62 = .ok (.iload 4, 2) := by decide +kernel
theorem dX3_needed_64 : decode cX3_needed 64 = .ok (.iconst 1, 1) := by decide +kernel
theorem dX3_needed_65 : decode cX3_needed 65 = .ok (.iload 5, 2) := by decide +kernel
theorem dX3_needed_67 : decode cX3_needed 67 = .ok (.ishl, 1) := by decide +kernel
theorem dX3_needed_68 : decode cX3_needed 68 = .ok (.ior, 1) := by decide +kernel
theorem dX3_needed_69 : decode cX3_needed 69 = .ok (.istore 4, 2) := by decide +kernel
theorem dX3_needed_71 : decode cX3_needed 71 = .ok (.iinc 5 1, 3) := by decide +kernel
theorem dX3_needed_74 : decode cX3_needed 74 = .ok (.goto (-38), 3) := by decide +kernel
theorem dX3_needed_77 : decode cX3_needed 77 = .ok (.iload 4, 2) := by decide +kernel
theorem dX3_needed_79 : decode cX3_needed 79 = .ok (.ireturn, 1) := by decide +kernel
set_option maxRecDepth 20000 in
theorem ggX3_needed_X3_faultOfWalker : GoodIn wsX3_needed wsX3_faultOfWalker := goodIn_r _ [5, 6, 7, 4, 8, 9, 10, 11] (by decide +kernel) (by decide +kernel)
set_option maxRecDepth 20000 in
theorem gX3_needed_X3_faultOfWalker : GoodIn wsX3_needed (va_wsS RX3 105 yX3_faultOfWalker wsX3_faultOfWalker) := goodIn_app (goodIn_of _ (by decide +kernel)) ggX3_needed_X3_faultOfWalker
set_option maxRecDepth 20000 in
theorem ggX3_needed_X3_refuse : GoodIn wsX3_needed wsX3_refuse := goodIn_r _ [15, 16, 112, 113, 114, 115, 116, 117, 118, 119, 120] (by decide +kernel) (by decide +kernel)
set_option maxRecDepth 20000 in
theorem gX3_needed_X3_refuse : GoodIn wsX3_needed (wsV RX3 53 RX3 yX3_refuse wsX3_refuse) := goodIn_app (goodIn_of _ (by decide +kernel)) ggX3_needed_X3_refuse
set_option maxRecDepth 20000 in
theorem ggX3_needed_X3_comesOver : GoodIn wsX3_needed wsX3_comesOver := goodIn_r _ [20, 21, 1, 22, 23, 24, 25, 26, 27, 28, 29, 30, 31, 32, 33, 34, 4, 35, 36, 37, 38, 39, 40, 41, 42, 43, 44, 45, 46, 47, 48, 49, 50, 51, 52, 53, 54, 55, 56, 57, 58, 59, 60, 61, 62, 63, 64, 65, 66, 67, 68, 69, 70, 71, 72, 73, 74, 75, 76, 77, 78, 79, 80, 81, 82, 83, 84, 85, 86, 87, 88, 89, 90, 91, 92, 93, 94, 95, 96, 97, 98, 99, 100, 101, 102, 103, 104, 105, 106, 107, 108, 109, 110, 111, 112, 113, 114, 115, 116, 117, 118, 119, 120, 121, 122, 123, 124, 125, 126, 127, 128, 129, 130, 131, 132, 133, 134, 135, 136, 137] (by decide +kernel) (by decide +kernel)
set_option maxRecDepth 20000 in
theorem gX3_needed_X3_comesOver : GoodIn wsX3_needed (wsV RX3 127 RX3 yX3_comesOver wsX3_comesOver) := goodIn_app (goodIn_of _ (by decide +kernel)) ggX3_needed_X3_comesOver
set_option maxHeartbeats 4000000 in
set_option maxRecDepth 100000 in
theorem mX3_needed (l : Launch) (dC : Nat → ClassId) (dI : Nat → Nat → Nat) (cI cC : ClassId) (sk : (Nat → Nat) × (Nat → Nat)) (f : Nat → Nat) (sz : Nat) (p1 : Int32) (p2 : Int32) (c_lanes : AR) (c_spots : AR) (c_byLeaps : AR) (c_load : Int32) (c_gone : Int32) (c_held : Int32) (c_strong : Int32) (c_done : Int32) (c_rn : RT) (c_rt : RT) (c_letters : AR) (c_size : Int32) (c_rp : RT) (c_seen : AR) (c_refs : AR) (c_inRow : Int32) (c_isPic : Int32) (z : Int32 × AR × AR × Int32 × Int32 × Int32 × Int32 × AR) (h : fX3_needed p1 p2 c_lanes c_spots c_load c_gone c_held c_strong c_rn c_refs = some z) : cRW l yX3_needed wsX3_needed (RMk 6 141) sk (dC, dI) (tyz cI cC) sz (zwX cI cC f c_lanes c_spots c_byLeaps c_load c_gone c_held c_strong c_done c_rn c_rt c_letters c_size c_rp c_seen c_refs c_inRow c_isPic) (zwX cI cC f z.2.1 z.2.2.1 c_byLeaps z.2.2.2.1 z.2.2.2.2.1 z.2.2.2.2.2.1 z.2.2.2.2.2.2.1 c_done c_rn c_rt c_letters c_size c_rp c_seen z.2.2.2.2.2.2.2 c_inRow c_isPic) [.ref (f 0), .int p1, .int p2] z.1 := by
  refine ofRW (cc := cX3_needed) (maxL := 6) (ret := (some .int)) (own := RX3) (plainFor_of_name (by decide)) rfl rfl (Nat.le_of_ble_eq_true rfl) ?_
  intro p e s m args below meth c A hA hx hb hml hr hts hown hlocks hE hK hP hD hS ls hl
  generalize hQ : qRW _ _ _ _ _ _ _ = Q
  have hl : lv_has ls 6 [(0, .ref (f 0)), (1, .int p1), (2, .int p2)] := hl
  have hiX0 : ∀ w ∈ wsX00, w ∈ wsX3_needed := fun w h => List.mem_cons_of_mem _ (List.mem_append_left _ (List.mem_append_right _ h))
  have hiX3 : ∀ w ∈ wsX30, w ∈ wsX3_needed := fun w h => List.mem_cons_of_mem _ (List.mem_append_left _ (List.mem_append_left _ (List.mem_append_right _ h)))
  have hw1 := hts (Cond.fieldLink RX3 12 "FloeToFloe" "now" "LFloeToFloe$River;") (List.mem_of_getElem? (i := 1) rfl)
  have hnw2 : (Cond.fieldLinkNest "FloeToFloe" 98 "FloeToFloe$River" "floes" "I" "FloeToFloe").before args s = true := va_Nw.use rfl (hE.1 2 _ rfl)
  rw [fX3_needed] at h
  refine lv_iload_n hx hb dX3_needed_0 rfl (lv_at hl 1 rfl) ?_
  refine lv_iload_n hx hb dX3_needed_1 rfl (lv_at hl 2 rfl) ?_
  obtain ⟨q2, e2, h⟩ := bd_some h
  refine g_roS (wc := ([] : va_W)) ⟨hx, hb, hml, hown, hts⟩ hE hK hP hS [] rfl (mX3_faultOfWalker l dC dI cI cC sk  p1 p2 q2 e2) (va_cwS 2 hts gX3_needed_X3_faultOfWalker rfl rfl rfl (by decide +kernel) ⟨Nat.le_of_ble_eq_true rfl, Nat.le_of_ble_eq_true rfl⟩) (As := [.int p1, .int p2]) (rest := []) rfl hl.1 rfl (Nat.le_of_ble_eq_true rfl) dX3_needed_2 ⟨Nat.zero_le _, Nat.zero_le _⟩ (fun H locs hP hS => ?_)
  refine lv_istore_n (lv' := [(3, .int q2), (0, .ref (f 0)), (1, .int p1), (2, .int p2)]) hx hb dX3_needed_5 rfl hl (by decide) rfl (fun ls hl => ?_)
  refine lv_iload_n hx hb dX3_needed_6 rfl (lv_at hl 0 rfl) ?_
  refine lv_if_eq (tgt := 16) hx hb dX3_needed_7 (by decide) (fun c7 => ?_) (fun c7 => ?_)
  · have h := itT c7 h
    refine lv_iconst (v := (0 : Int32)) hx hb dX3_needed_16 (by decide) ?_
    refine lv_istore (lv' := [(4, .int (0 : Int32)), (3, .int q2), (0, .ref (f 0)), (1, .int p1), (2, .int p2)]) hx hb dX3_needed_17 hl (by decide) rfl (fun ls hl => ?_)
    refine lv_aload_n hx hb dX3_needed_19 rfl (lv_at hl 2 rfl) ?_
    refine lv_iload_n hx hb dX3_needed_20 rfl (lv_at hl 3 rfl) ?_
    refine lv_iload_n hx hb dX3_needed_21 rfl (lv_at hl 4 rfl) ?_
    refine lv_iconst (v := (0 : Int32)) hx hb dX3_needed_22 (by decide) ?_
    refine lv_iconst (v := (0 : Int32)) hx hb dX3_needed_23 (by decide) ?_
    obtain ⟨q24, e24, h⟩ := bd_some h
    refine g_rwV (wc := (zwX cI cC f c_lanes c_spots c_byLeaps c_load c_gone c_held c_strong c_done c_rn c_rt c_letters c_size c_rp c_seen c_refs c_inRow c_isPic)) (wc' := (zwX cI cC f q24.2.1 q24.2.2.1 c_byLeaps q24.2.2.2.1 q24.2.2.2.2.1 q24.2.2.2.2.2.1 q24.2.2.2.2.2.2 c_done c_rn c_rt c_letters c_size c_rp c_seen c_refs c_inRow c_isPic)) ⟨hx, hb, hml, hown, hts⟩ hE hK hA hP hD hS [0, 1, 2, 3, 4, 5, 6, 7, 8, 9, 10, 11, 12, 13, 14, 15, 16, 17, 18, 19, 20, 21, 22, 23, 24, 25, 26] rfl rfl rfl (mX3_comesOver l dC dI cI cC sk f H.size p1 p2 (0 : Int32) (0 : Int32) c_lanes c_spots c_byLeaps c_load c_gone c_held c_strong c_done c_rn c_rt c_letters c_size c_rp c_seen c_refs c_inRow c_isPic q24 e24) (cwV 4 hts gX3_needed_X3_comesOver rfl rfl rfl (by decide +kernel) ⟨Nat.le_of_ble_eq_true rfl, Nat.le_of_ble_eq_true rfl⟩) (va_recv hK hP (ci := 3) (q0 := 0) rfl rfl) (As := [.int p1, .int p2, .int (0 : Int32), .int (0 : Int32)]) (rest := []) rfl hl.1 rfl (Nat.le_of_ble_eq_true rfl) dX3_needed_24 ⟨Nat.zero_le _, Nat.zero_le _⟩ (fun H locs hP hD hS => ?_)
    have hP : va_P (dC, dI) vwCl (zwX cI cC f q24.2.1 q24.2.2.1 c_byLeaps q24.2.2.2.1 q24.2.2.2.2.1 q24.2.2.2.2.2.1 q24.2.2.2.2.2.2 c_done c_rn c_rt c_letters c_size c_rp c_seen c_refs c_inRow c_isPic) H := hP
    have hD : va_D A (zwX cI cC f q24.2.1 q24.2.2.1 c_byLeaps q24.2.2.2.1 q24.2.2.2.2.1 q24.2.2.2.2.2.1 q24.2.2.2.2.2.2 c_done c_rn c_rt c_letters c_size c_rp c_seen c_refs c_inRow c_isPic) := hD
    refine lv_if_ne (tgt := 33) hx hb dX3_needed_27 (by decide) (fun c27 => ?_) (fun c27 => ?_)
    · have h := itF c27 h
      refine lv_iconst (v := (0 : Int32)) hx hb dX3_needed_33 (by decide) ?_
      refine lv_istore (lv' := [(5, .int (0 : Int32)), (4, .int (0 : Int32)), (3, .int q2), (0, .ref (f 0)), (1, .int p1), (2, .int p2)]) hx hb dX3_needed_34 hl (by decide) rfl (fun ls hl => ?_)
      have L36 : ∀ (K36 : Int32 → AR → AR → Int32 → Int32 → Int32 → Int32 → Option (Int32 × AR × AR × Int32 × Int32 × Int32 × Int32 × AR)), (∀ (k36_4 : Int32) (k36_lanes : AR) (k36_spots : AR) (k36_load : Int32) (k36_gone : Int32) (k36_held : Int32) (k36_strong : Int32), K36 k36_4 k36_lanes k36_spots k36_load k36_gone k36_held k36_strong = some z → ∀ (H : Heap) (locs : List Loc) (ls : Array Slot), va_P (dC, dI) vwCl (zwX cI cC f k36_lanes k36_spots c_byLeaps k36_load k36_gone k36_held k36_strong c_done c_rn c_rt c_letters c_size c_rp c_seen c_refs c_inRow c_isPic) H → va_D A (zwX cI cC f k36_lanes k36_spots c_byLeaps k36_load k36_gone k36_held k36_strong c_done c_rn c_rt c_letters c_size c_rp c_seen c_refs c_inRow c_isPic) → va_S A s.heap H locs → lv_has ls 6 [(4, .int k36_4)] → W p l e (RMk 6 141) s m args below meth c H locs 0 0 Q (F0 m 77 ls [])) → ∀ (n : Nat) (x36_4 : Int32) (x36_5 : Int32) (x36_lanes : AR) (x36_spots : AR) (x36_load : Int32) (x36_gone : Int32) (x36_held : Int32) (x36_strong : Int32), fX3_needed_L36 c_rn p1 p2 K36 n x36_4 x36_5 x36_lanes x36_spots x36_load x36_gone x36_held x36_strong = some z → ∀ (H : Heap) (locs : List Loc) (ls : Array Slot), va_P (dC, dI) vwCl (zwX cI cC f x36_lanes x36_spots c_byLeaps x36_load x36_gone x36_held x36_strong c_done c_rn c_rt c_letters c_size c_rp c_seen c_refs c_inRow c_isPic) H → va_D A (zwX cI cC f x36_lanes x36_spots c_byLeaps x36_load x36_gone x36_held x36_strong c_done c_rn c_rt c_letters c_size c_rp c_seen c_refs c_inRow c_isPic) → va_S A s.heap H locs → lv_has ls 6 [(0, .ref (f 0)), (1, .int p1), (2, .int p2), (4, .int x36_4), (5, .int x36_5)] → W p l e (RMk 6 141) s m args below meth c H locs 0 0 Q (F0 m 36 ls []) := by
        intro K36 kx36 n
        induction n with
        | zero => intro x36_4 x36_5 x36_lanes x36_spots x36_load x36_gone x36_held x36_strong h; rw [fX3_needed_L36] at h; cases h
        | succ n ih36 =>
          intro x36_4 x36_5 x36_lanes x36_spots x36_load x36_gone x36_held x36_strong h H locs ls hP hD hS hl
          rw [fX3_needed_L36] at h
          refine lv_iload hx hb dX3_needed_36 (lv_at hl 4 rfl) ?_
          refine lv_aload_n hx hb dX3_needed_38 rfl (lv_at hl 0 rfl) ?_
          refine va_get (D := (dC, dI)) (ci := 3) (v := .ref (f 5)) (C := RX3) (T := TX3) (N := 9) hx hb hts hiX3 hown hK hP 0 rfl rfl 0 (by decide) hw1 (fun _ h9 => h9) rfl dX3_needed_39 ?_
          refine va_getN (D := (dC, dI)) (ci := 0) (v := .int (R_floes c_rn)) (C := RX0) (T := TX0) (N := 8) hx hb hts hiX0 hown hK hP 5 rfl rfl 6 (by decide) hnw2 (fun _ h9 => h9) rfl dX3_needed_42 ?_
          refine lv_icmp_ge (tgt := 77) hx hb dX3_needed_45 (by decide) (fun c45 => ?_) (fun c45 => ?_)
          · have h := itT c45 h
            exact kx36 _ _ _ _ _ _ _ h _ _ _ hP hD hS (lv_sub hl [3] rfl)
          have h := itF c45 h
          refine lv_aload_n hx hb dX3_needed_48 rfl (lv_at hl 0 rfl) ?_
          refine lv_iload_n hx hb dX3_needed_49 rfl (lv_at hl 1 rfl) ?_
          refine lv_iload_n hx hb dX3_needed_50 rfl (lv_at hl 2 rfl) ?_
          refine lv_iconst (v := (1 : Int32)) hx hb dX3_needed_51 (by decide) ?_
          refine lv_iload hx hb dX3_needed_52 (lv_at hl 4 rfl) ?_
          refine lv_ishl hx hb dX3_needed_54 ?_
          refine lv_iconst (v := (0 : Int32)) hx hb dX3_needed_55 (by decide) ?_
          obtain ⟨q56, e56, h⟩ := bd_some h
          refine g_rwV (wc := (zwX cI cC f x36_lanes x36_spots c_byLeaps x36_load x36_gone x36_held x36_strong c_done c_rn c_rt c_letters c_size c_rp c_seen c_refs c_inRow c_isPic)) (wc' := (zwX cI cC f q56.2.1 q56.2.2.1 c_byLeaps q56.2.2.2.1 q56.2.2.2.2.1 q56.2.2.2.2.2.1 q56.2.2.2.2.2.2 c_done c_rn c_rt c_letters c_size c_rp c_seen c_refs c_inRow c_isPic)) ⟨hx, hb, hml, hown, hts⟩ hE hK hA hP hD hS [0, 1, 2, 3, 4, 5, 6, 7, 8, 9, 10, 11, 12, 13, 14, 15, 16, 17, 18, 19, 20, 21, 22, 23, 24, 25, 26] rfl rfl rfl (mX3_comesOver l dC dI cI cC sk f H.size p1 p2 ((1 : Int32) <<< (x36_5 &&& 31)) (0 : Int32) x36_lanes x36_spots c_byLeaps x36_load x36_gone x36_held x36_strong c_done c_rn c_rt c_letters c_size c_rp c_seen c_refs c_inRow c_isPic q56 e56) (cwV 4 hts gX3_needed_X3_comesOver rfl rfl rfl (by decide +kernel) ⟨Nat.le_of_ble_eq_true rfl, Nat.le_of_ble_eq_true rfl⟩) (va_recv hK hP (ci := 3) (q0 := 0) rfl rfl) (As := [.int p1, .int p2, .int ((1 : Int32) <<< (x36_5 &&& 31)), .int (0 : Int32)]) (rest := []) rfl hl.1 rfl (Nat.le_of_ble_eq_true rfl) dX3_needed_56 ⟨Nat.zero_le _, Nat.zero_le _⟩ (fun H locs hP hD hS => ?_)
          have hP : va_P (dC, dI) vwCl (zwX cI cC f q56.2.1 q56.2.2.1 c_byLeaps q56.2.2.2.1 q56.2.2.2.2.1 q56.2.2.2.2.2.1 q56.2.2.2.2.2.2 c_done c_rn c_rt c_letters c_size c_rp c_seen c_refs c_inRow c_isPic) H := hP
          have hD : va_D A (zwX cI cC f q56.2.1 q56.2.2.1 c_byLeaps q56.2.2.2.1 q56.2.2.2.2.1 q56.2.2.2.2.2.1 q56.2.2.2.2.2.2 c_done c_rn c_rt c_letters c_size c_rp c_seen c_refs c_inRow c_isPic) := hD
          refine lv_if_ne (tgt := 71) hx hb dX3_needed_59 (by decide) (fun c59 => ?_) (fun c59 => ?_)
          · have h := itF c59 h
            refine lv_iinc (v := (x36_5 + (1 : Int32))) (lv' := [(5, .int (x36_5 + (1 : Int32))), (0, .ref (f 0)), (1, .int p1), (2, .int p2), (4, .int x36_4)]) hx hb dX3_needed_71 hl (k := 4) rfl rfl (by decide) rfl (fun ls hl => ?_)
            refine lv_goto (tgt := 36) hx hb dX3_needed_74 (by decide) ?_
            exact ih36 _ _ _ _ _ _ _ _ h _ _ _ hP hD hS (lv_sub hl [1, 2, 3, 4, 0] rfl)
          have h := itT c59 h
          refine lv_iload hx hb dX3_needed_62 (lv_at hl 3 rfl) ?_
          refine lv_iconst (v := (1 : Int32)) hx hb dX3_needed_64 (by decide) ?_
          refine lv_iload hx hb dX3_needed_65 (lv_at hl 4 rfl) ?_
          refine lv_ishl hx hb dX3_needed_67 ?_
          refine lv_ior hx hb dX3_needed_68 ?_
          refine lv_istore (lv' := [(4, .int (x36_4 ||| ((1 : Int32) <<< (x36_5 &&& 31)))), (0, .ref (f 0)), (1, .int p1), (2, .int p2), (5, .int x36_5)]) hx hb dX3_needed_69 hl (by decide) rfl (fun ls hl => ?_)
          refine lv_iinc (v := (x36_5 + (1 : Int32))) (lv' := [(5, .int (x36_5 + (1 : Int32))), (4, .int (x36_4 ||| ((1 : Int32) <<< (x36_5 &&& 31)))), (0, .ref (f 0)), (1, .int p1), (2, .int p2)]) hx hb dX3_needed_71 hl (k := 4) rfl rfl (by decide) rfl (fun ls hl => ?_)
          refine lv_goto (tgt := 36) hx hb dX3_needed_74 (by decide) ?_
          exact ih36 _ _ _ _ _ _ _ _ h _ _ _ hP hD hS (lv_sub hl [2, 3, 4, 1, 0] rfl)
      refine L36 _ (fun k36_4 k36_lanes k36_spots k36_load k36_gone k36_held k36_strong h H locs ls hP hD hS hl => ?_) _ _ _ _ _ _ _ _ _ h _ _ _ hP hD hS (lv_sub hl [3, 4, 5, 1, 0] rfl)
      refine lv_iload hx hb dX3_needed_77 (lv_at hl 0 rfl) ?_
      subst hQ
      exact retRW (zz := ((k36_4, k36_lanes, k36_spots, k36_load, k36_gone, k36_held, k36_strong, c_refs) : Int32 × AR × AR × Int32 × Int32 × Int32 × Int32 × AR)) (fun z => z.1) (fun z => (zwX cI cC f z.2.1 z.2.2.1 c_byLeaps z.2.2.2.1 z.2.2.2.2.1 z.2.2.2.2.2.1 z.2.2.2.2.2.2.1 c_done c_rn c_rt c_letters c_size c_rp c_seen z.2.2.2.2.2.2.2 c_inRow c_isPic)) hx hb hr hlocks rfl hS h rfl hP dX3_needed_79
    have h := itT c27 h
    refine lv_iload hx hb dX3_needed_30 (lv_at hl 0 rfl) ?_
    subst hQ
    exact retRW (zz := (((0 : Int32), q24.2.1, q24.2.2.1, q24.2.2.2.1, q24.2.2.2.2.1, q24.2.2.2.2.2.1, q24.2.2.2.2.2.2, c_refs) : Int32 × AR × AR × Int32 × Int32 × Int32 × Int32 × AR)) (fun z => z.1) (fun z => (zwX cI cC f z.2.1 z.2.2.1 c_byLeaps z.2.2.2.1 z.2.2.2.2.1 z.2.2.2.2.2.1 z.2.2.2.2.2.2.1 c_done c_rn c_rt c_letters c_size c_rp c_seen z.2.2.2.2.2.2.2 c_inRow c_isPic)) hx hb hr hlocks rfl hS h rfl hP dX3_needed_32
  have h := itF c7 h
  refine lv_aload_n hx hb dX3_needed_10 rfl (lv_at hl 1 rfl) ?_
  refine lv_iload_n hx hb dX3_needed_11 rfl (lv_at hl 0 rfl) ?_
  obtain ⟨q12, e12, h⟩ := bd_some h
  refine g_rwV (wc := (zwX cI cC f c_lanes c_spots c_byLeaps c_load c_gone c_held c_strong c_done c_rn c_rt c_letters c_size c_rp c_seen c_refs c_inRow c_isPic)) (wc' := (zwX cI cC f c_lanes c_spots c_byLeaps c_load c_gone c_held c_strong c_done c_rn c_rt c_letters c_size c_rp c_seen q12.2 c_inRow c_isPic)) ⟨hx, hb, hml, hown, hts⟩ hE hK hA hP hD hS [0, 1, 2, 3, 4, 5, 6, 7, 8, 9, 10, 11, 12, 13, 14, 15, 16, 17, 18, 19, 20, 21, 22, 23, 24, 25, 26] rfl rfl rfl (mX3_refuse l dC dI cI cC sk f H.size q2 c_lanes c_spots c_byLeaps c_load c_gone c_held c_strong c_done c_rn c_rt c_letters c_size c_rp c_seen c_refs c_inRow c_isPic q12 e12) (cwV 1 hts gX3_needed_X3_refuse rfl rfl rfl (by decide +kernel) ⟨Nat.le_of_ble_eq_true rfl, Nat.le_of_ble_eq_true rfl⟩) (va_recv hK hP (ci := 3) (q0 := 0) rfl rfl) (As := [.int q2]) (rest := []) rfl hl.1 rfl (Nat.le_of_ble_eq_true rfl) dX3_needed_12 ⟨Nat.zero_le _, Nat.zero_le _⟩ (fun H locs hP hD hS => ?_)
  have hP : va_P (dC, dI) vwCl (zwX cI cC f c_lanes c_spots c_byLeaps c_load c_gone c_held c_strong c_done c_rn c_rt c_letters c_size c_rp c_seen q12.2 c_inRow c_isPic) H := hP
  have hD : va_D A (zwX cI cC f c_lanes c_spots c_byLeaps c_load c_gone c_held c_strong c_done c_rn c_rt c_letters c_size c_rp c_seen q12.2 c_inRow c_isPic) := hD
  subst hQ
  exact retRW (zz := ((q12.1, c_lanes, c_spots, c_load, c_gone, c_held, c_strong, q12.2) : Int32 × AR × AR × Int32 × Int32 × Int32 × Int32 × AR)) (fun z => z.1) (fun z => (zwX cI cC f z.2.1 z.2.2.1 c_byLeaps z.2.2.2.1 z.2.2.2.2.1 z.2.2.2.2.2.1 z.2.2.2.2.2.2.1 c_done c_rn c_rt c_letters c_size c_rp c_seen z.2.2.2.2.2.2.2 c_inRow c_isPic)) hx hb hr hlocks rfl hS h rfl hP dX3_needed_15
theorem dX3_poles_0 : decode cX3_poles 0 = .ok (.iload_n 1, 1) := by decide +kernel
theorem dX3_poles_1 : decode cX3_poles 1 = .ok (.iload_n 2, 1) := by decide +kernel
theorem dX3_poles_2 : decode cX3_poles 2 = .ok (.invokestatic 105, 3) := by decide +kernel
theorem dX3_poles_5 : decode cX3_poles 5 = .ok (.istore_n 3, 1) := by decide +kernel
theorem dX3_poles_6 : decode cX3_poles 6 = .ok (.iload_n 3, 1) := by decide +kernel
theorem dX3_poles_7 : decode cX3_poles 7 = .ok (.ifCond .eq 9, 3) := by decide +kernel
theorem dX3_poles_10 : decode cX3_poles 10 = .ok (.aload_n 0, 1) := by decide +kernel
theorem dX3_poles_11 : decode cX3_poles 11 = .ok (.iload_n 3, 1) := by decide +kernel
theorem dX3_poles_12 : decode cX3_poles 12 = .ok (.invokevirtual 53, 3) := by decide +kernel
theorem dX3_poles_15 : decode cX3_poles 15 = .ok (.ireturn, 1) := by decide +kernel
theorem dX3_poles_16 : decode cX3_poles 16 = .ok (.iconst 0, 1) := by decide +kernel
theorem dX3_poles_17 : decode cX3_poles 17 = .ok (.istore 4, 2) := by decide +kernel
theorem dX3_poles_19 : decode cX3_poles 19 = .ok (.iload 4, 2) := by decide +kernel
theorem dX3_poles_21 : decode cX3_poles 21 = .ok (.aload_n 0, 1) := by decide +kernel
theorem dX3_poles_22 : decode cX3_poles 22 = .ok (.getfield 12, 3) := by decide +kernel
theorem dX3_poles_25 : decode cX3_poles 25 = .ok (.getfield 98, 3) := by decide +kernel
theorem dX3_poles_28 : decode cX3_poles 28 = .ok (.if_icmp .gt 57, 3) := by decide +kernel
theorem dX3_poles_31 : decode cX3_poles 31 = .ok (.iconst 0, 1) := by decide +kernel
theorem dX3_poles_32 : decode cX3_poles 32 = .ok (.istore 5, 2) := by decide +kernel
theorem dX3_poles_34 : decode cX3_poles 34 = .ok (.iload 5, 2) := by decide +kernel
theorem dX3_poles_36 : decode cX3_poles 36 = .ok (.iconst 1, 1) := by decide +kernel
theorem dX3_poles_37 : decode cX3_poles 37 = .ok (.aload_n 0, 1) := by decide +kernel
theorem dX3_poles_38 : decode cX3_poles 38 = .ok (.getfield 12, 3) := by decide +kernel
theorem dX3_poles_41 : decode cX3_poles 41 = .ok (.getfield 98, 3) := by decide +kernel
theorem dX3_poles_44 : decode cX3_poles 44 = .ok (.ishl, 1) := by decide +kernel
theorem dX3_poles_45 : decode cX3_poles 45 = .ok (.if_icmp .ge 34, 3) := by decide +kernel
theorem dX3_poles_48 : decode cX3_poles 48 = .ok (.iload 5, 2) := by decide +kernel
theorem dX3_poles_50 : decode cX3_poles 50 = .ok (.invokestatic 131, 3) := by decide +kernel
theorem dX3_poles_53 : decode cX3_poles 53 = .ok (.iload 4, 2) := by decide +kernel
theorem dX3_poles_55 : decode cX3_poles 55 = .ok (.if_icmp .ne 18, 3) := by decide +kernel
theorem dX3_poles_58 : decode cX3_poles 58 = .ok (.aload_n 0, 1) := by decide +kernel
theorem dX3_poles_59 : decode cX3_poles 59 = .ok (.iload_n 1, 1) := by decide +kernel
theorem dX3_poles_60 : decode cX3_poles 60 = .ok (.iload_n 2, 1) := by decide +kernel
theorem dX3_poles_61 : decode cX3_poles 61 = .ok (.iconst 0, 1) := by decide +kernel
theorem dX3_poles_62 : decode cX3_poles 62 = .ok (.iload 5, 2) := by decide +kernel
theorem dX3_poles_64 : decode cX3_poles 64 = .ok (.invokevirtual 127, 3) := by decide +kernel
theorem dX3_poles_67 : decode cX3_poles 67 = .ok (.ifCond .eq 6, 3) := by decide +kernel
theorem dX3_poles_70 : decode cX3_poles 70 = .ok (.iload 5, 2) := by decide +kernel
theorem dX3_poles_72 : decode cX3_poles 72 = .ok (.ireturn, 1) := by decide +kernel
theorem dX3_poles_73 : decode cX3_poles 73 = .ok (.iinc 5 1, 3) := by decide +kernel
theorem dX3_poles_76 : decode cX3_poles 76 = .ok (.goto (-42), 3) := by decide +kernel
theorem dX3_poles_79 : decode cX3_poles 79 = .ok (.iinc 4 1, 3) := by decide +kernel
theorem dX3_poles_82 : decode cX3_poles 82 = .ok (.goto (-63), 3) := by decide +kernel
theorem dX3_poles_85 : decode cX3_poles 85 = .ok (.bipush (-9), 2) := by decide +kernel
theorem dX3_poles_87 : decode cX3_poles 87 = .ok (.ireturn, 1) := by decide +kernel
set_option maxRecDepth 20000 in
theorem ggX3_poles_X3_faultOfWalker : GoodIn wsX3_poles wsX3_faultOfWalker := goodIn_r _ [5, 6, 7, 4, 8, 9, 10, 11] (by decide +kernel) (by decide +kernel)
set_option maxRecDepth 20000 in
theorem gX3_poles_X3_faultOfWalker : GoodIn wsX3_poles (va_wsS RX3 105 yX3_faultOfWalker wsX3_faultOfWalker) := goodIn_app (goodIn_of _ (by decide +kernel)) ggX3_poles_X3_faultOfWalker
set_option maxRecDepth 20000 in
theorem ggX3_poles_X3_refuse : GoodIn wsX3_poles wsX3_refuse := goodIn_r _ [15, 16, 119, 120, 121, 122, 123, 124, 125, 126, 127] (by decide +kernel) (by decide +kernel)
set_option maxRecDepth 20000 in
theorem gX3_poles_X3_refuse : GoodIn wsX3_poles (wsV RX3 53 RX3 yX3_refuse wsX3_refuse) := goodIn_app (goodIn_of _ (by decide +kernel)) ggX3_poles_X3_refuse
set_option maxRecDepth 20000 in
theorem ggX3_poles_J6_bitCount_0f7a4 : GoodIn wsX3_poles wsJ6_bitCount_0f7a4 := goodIn_r _ [20, 21, 22, 23] (by decide +kernel) (by decide +kernel)
set_option maxRecDepth 20000 in
theorem gX3_poles_J6_bitCount_0f7a4 : GoodIn wsX3_poles (va_wsS RX3 131 yJ6_bitCount_0f7a4 wsJ6_bitCount_0f7a4) := goodIn_app (goodIn_of _ (by decide +kernel)) ggX3_poles_J6_bitCount_0f7a4
set_option maxRecDepth 20000 in
theorem ggX3_poles_X3_comesOver : GoodIn wsX3_poles wsX3_comesOver := goodIn_r _ [27, 28, 1, 29, 30, 31, 32, 33, 34, 35, 36, 37, 38, 39, 40, 41, 4, 42, 43, 44, 45, 46, 47, 48, 49, 50, 51, 52, 53, 54, 55, 56, 57, 58, 59, 60, 61, 62, 63, 64, 65, 66, 67, 68, 69, 70, 71, 72, 73, 74, 75, 76, 77, 78, 79, 80, 81, 82, 83, 84, 85, 86, 87, 88, 89, 90, 91, 92, 93, 94, 95, 96, 97, 98, 99, 100, 101, 102, 103, 104, 105, 106, 107, 108, 109, 110, 111, 112, 113, 114, 115, 116, 117, 118, 119, 120, 121, 122, 123, 124, 125, 126, 127, 128, 129, 130, 131, 132, 133, 134, 135, 136, 137, 138, 139, 140, 141, 142, 143, 144] (by decide +kernel) (by decide +kernel)
set_option maxRecDepth 20000 in
theorem gX3_poles_X3_comesOver : GoodIn wsX3_poles (wsV RX3 127 RX3 yX3_comesOver wsX3_comesOver) := goodIn_app (goodIn_of _ (by decide +kernel)) ggX3_poles_X3_comesOver
set_option maxHeartbeats 4000000 in
set_option maxRecDepth 100000 in
theorem mX3_poles (l : Launch) (dC : Nat → ClassId) (dI : Nat → Nat → Nat) (cI cC : ClassId) (sk : (Nat → Nat) × (Nat → Nat)) (f : Nat → Nat) (sz : Nat) (p1 : Int32) (p2 : Int32) (c_lanes : AR) (c_spots : AR) (c_byLeaps : AR) (c_load : Int32) (c_gone : Int32) (c_held : Int32) (c_strong : Int32) (c_done : Int32) (c_rn : RT) (c_rt : RT) (c_letters : AR) (c_size : Int32) (c_rp : RT) (c_seen : AR) (c_refs : AR) (c_inRow : Int32) (c_isPic : Int32) (z : Int32 × AR × AR × Int32 × Int32 × Int32 × Int32 × AR) (h : fX3_poles p1 p2 c_lanes c_spots c_load c_gone c_held c_strong c_rn c_refs = some z) : cRW l yX3_poles wsX3_poles (RMk 6 141) sk (dC, dI) (tyz cI cC) sz (zwX cI cC f c_lanes c_spots c_byLeaps c_load c_gone c_held c_strong c_done c_rn c_rt c_letters c_size c_rp c_seen c_refs c_inRow c_isPic) (zwX cI cC f z.2.1 z.2.2.1 c_byLeaps z.2.2.2.1 z.2.2.2.2.1 z.2.2.2.2.2.1 z.2.2.2.2.2.2.1 c_done c_rn c_rt c_letters c_size c_rp c_seen z.2.2.2.2.2.2.2 c_inRow c_isPic) [.ref (f 0), .int p1, .int p2] z.1 := by
  refine ofRW (cc := cX3_poles) (maxL := 6) (ret := (some .int)) (own := RX3) (plainFor_of_name (by decide)) rfl rfl (Nat.le_of_ble_eq_true rfl) ?_
  intro p e s m args below meth c A hA hx hb hml hr hts hown hlocks hE hK hP hD hS ls hl
  generalize hQ : qRW _ _ _ _ _ _ _ = Q
  have hl : lv_has ls 6 [(0, .ref (f 0)), (1, .int p1), (2, .int p2)] := hl
  have hiX0 : ∀ w ∈ wsX00, w ∈ wsX3_poles := fun w h => List.mem_cons_of_mem _ (List.mem_append_left _ (List.mem_append_right _ h))
  have hiX3 : ∀ w ∈ wsX30, w ∈ wsX3_poles := fun w h => List.mem_cons_of_mem _ (List.mem_append_left _ (List.mem_append_left _ (List.mem_append_right _ h)))
  have hw1 := hts (Cond.fieldLink RX3 12 "FloeToFloe" "now" "LFloeToFloe$River;") (List.mem_of_getElem? (i := 1) rfl)
  have hnw2 : (Cond.fieldLinkNest "FloeToFloe" 98 "FloeToFloe$River" "floes" "I" "FloeToFloe").before args s = true := va_Nw.use rfl (hE.1 2 _ rfl)
  rw [fX3_poles] at h
  refine lv_iload_n hx hb dX3_poles_0 rfl (lv_at hl 1 rfl) ?_
  refine lv_iload_n hx hb dX3_poles_1 rfl (lv_at hl 2 rfl) ?_
  obtain ⟨q2, e2, h⟩ := bd_some h
  refine g_roS (wc := ([] : va_W)) ⟨hx, hb, hml, hown, hts⟩ hE hK hP hS [] rfl (mX3_faultOfWalker l dC dI cI cC sk  p1 p2 q2 e2) (va_cwS 2 hts gX3_poles_X3_faultOfWalker rfl rfl rfl (by decide +kernel) ⟨Nat.le_of_ble_eq_true rfl, Nat.le_of_ble_eq_true rfl⟩) (As := [.int p1, .int p2]) (rest := []) rfl hl.1 rfl (Nat.le_of_ble_eq_true rfl) dX3_poles_2 ⟨Nat.zero_le _, Nat.zero_le _⟩ (fun H locs hP hS => ?_)
  refine lv_istore_n (lv' := [(3, .int q2), (0, .ref (f 0)), (1, .int p1), (2, .int p2)]) hx hb dX3_poles_5 rfl hl (by decide) rfl (fun ls hl => ?_)
  refine lv_iload_n hx hb dX3_poles_6 rfl (lv_at hl 0 rfl) ?_
  refine lv_if_eq (tgt := 16) hx hb dX3_poles_7 (by decide) (fun c7 => ?_) (fun c7 => ?_)
  · have h := itT c7 h
    refine lv_iconst (v := (0 : Int32)) hx hb dX3_poles_16 (by decide) ?_
    refine lv_istore (lv' := [(4, .int (0 : Int32)), (3, .int q2), (0, .ref (f 0)), (1, .int p1), (2, .int p2)]) hx hb dX3_poles_17 hl (by decide) rfl (fun ls hl => ?_)
    have L19 : ∀ (K19 : AR → AR → Int32 → Int32 → Int32 → Int32 → Option (Int32 × AR × AR × Int32 × Int32 × Int32 × Int32 × AR)), (∀ (k19_lanes : AR) (k19_spots : AR) (k19_load : Int32) (k19_gone : Int32) (k19_held : Int32) (k19_strong : Int32), K19 k19_lanes k19_spots k19_load k19_gone k19_held k19_strong = some z → ∀ (H : Heap) (locs : List Loc) (ls : Array Slot), va_P (dC, dI) vwCl (zwX cI cC f k19_lanes k19_spots c_byLeaps k19_load k19_gone k19_held k19_strong c_done c_rn c_rt c_letters c_size c_rp c_seen c_refs c_inRow c_isPic) H → va_D A (zwX cI cC f k19_lanes k19_spots c_byLeaps k19_load k19_gone k19_held k19_strong c_done c_rn c_rt c_letters c_size c_rp c_seen c_refs c_inRow c_isPic) → va_S A s.heap H locs → lv_has ls 6 [] → W p l e (RMk 6 141) s m args below meth c H locs 0 0 Q (F0 m 85 ls [])) → ∀ (n : Nat) (x19_4 : Int32) (x19_lanes : AR) (x19_spots : AR) (x19_load : Int32) (x19_gone : Int32) (x19_held : Int32) (x19_strong : Int32), fX3_poles_L19 c_refs c_rn p1 p2 K19 n x19_4 x19_lanes x19_spots x19_load x19_gone x19_held x19_strong = some z → ∀ (H : Heap) (locs : List Loc) (ls : Array Slot), va_P (dC, dI) vwCl (zwX cI cC f x19_lanes x19_spots c_byLeaps x19_load x19_gone x19_held x19_strong c_done c_rn c_rt c_letters c_size c_rp c_seen c_refs c_inRow c_isPic) H → va_D A (zwX cI cC f x19_lanes x19_spots c_byLeaps x19_load x19_gone x19_held x19_strong c_done c_rn c_rt c_letters c_size c_rp c_seen c_refs c_inRow c_isPic) → va_S A s.heap H locs → lv_has ls 6 [(0, .ref (f 0)), (1, .int p1), (2, .int p2), (4, .int x19_4)] → W p l e (RMk 6 141) s m args below meth c H locs 0 0 Q (F0 m 19 ls []) := by
      intro K19 kx19 n
      induction n with
      | zero => intro x19_4 x19_lanes x19_spots x19_load x19_gone x19_held x19_strong h; rw [fX3_poles_L19] at h; cases h
      | succ n ih19 =>
        intro x19_4 x19_lanes x19_spots x19_load x19_gone x19_held x19_strong h H locs ls hP hD hS hl
        rw [fX3_poles_L19] at h
        refine lv_iload hx hb dX3_poles_19 (lv_at hl 3 rfl) ?_
        refine lv_aload_n hx hb dX3_poles_21 rfl (lv_at hl 0 rfl) ?_
        refine va_get (D := (dC, dI)) (ci := 3) (v := .ref (f 5)) (C := RX3) (T := TX3) (N := 9) hx hb hts hiX3 hown hK hP 0 rfl rfl 0 (by decide) hw1 (fun _ h9 => h9) rfl dX3_poles_22 ?_
        refine va_getN (D := (dC, dI)) (ci := 0) (v := .int (R_floes c_rn)) (C := RX0) (T := TX0) (N := 8) hx hb hts hiX0 hown hK hP 5 rfl rfl 6 (by decide) hnw2 (fun _ h9 => h9) rfl dX3_poles_25 ?_
        refine lv_icmp_gt (tgt := 85) hx hb dX3_poles_28 (by decide) (fun c28 => ?_) (fun c28 => ?_)
        · have h := itT c28 h
          exact kx19 _ _ _ _ _ _ h _ _ _ hP hD hS (lv_sub hl [] rfl)
        have h := itF c28 h
        refine lv_iconst (v := (0 : Int32)) hx hb dX3_poles_31 (by decide) ?_
        refine lv_istore (lv' := [(5, .int (0 : Int32)), (0, .ref (f 0)), (1, .int p1), (2, .int p2), (4, .int x19_4)]) hx hb dX3_poles_32 hl (by decide) rfl (fun ls hl => ?_)
        have L34 : ∀ (K34 : AR → AR → Int32 → Int32 → Int32 → Int32 → Option (Int32 × AR × AR × Int32 × Int32 × Int32 × Int32 × AR)), (∀ (k34_lanes : AR) (k34_spots : AR) (k34_load : Int32) (k34_gone : Int32) (k34_held : Int32) (k34_strong : Int32), K34 k34_lanes k34_spots k34_load k34_gone k34_held k34_strong = some z → ∀ (H : Heap) (locs : List Loc) (ls : Array Slot), va_P (dC, dI) vwCl (zwX cI cC f k34_lanes k34_spots c_byLeaps k34_load k34_gone k34_held k34_strong c_done c_rn c_rt c_letters c_size c_rp c_seen c_refs c_inRow c_isPic) H → va_D A (zwX cI cC f k34_lanes k34_spots c_byLeaps k34_load k34_gone k34_held k34_strong c_done c_rn c_rt c_letters c_size c_rp c_seen c_refs c_inRow c_isPic) → va_S A s.heap H locs → lv_has ls 6 [(0, .ref (f 0)), (1, .int p1), (2, .int p2), (4, .int x19_4)] → W p l e (RMk 6 141) s m args below meth c H locs 0 0 Q (F0 m 79 ls [])) → ∀ (n : Nat) (x34_5 : Int32) (x34_lanes : AR) (x34_spots : AR) (x34_load : Int32) (x34_gone : Int32) (x34_held : Int32) (x34_strong : Int32), fX3_poles_L34 c_refs c_rn p1 p2 x19_4 K34 n x34_5 x34_lanes x34_spots x34_load x34_gone x34_held x34_strong = some z → ∀ (H : Heap) (locs : List Loc) (ls : Array Slot), va_P (dC, dI) vwCl (zwX cI cC f x34_lanes x34_spots c_byLeaps x34_load x34_gone x34_held x34_strong c_done c_rn c_rt c_letters c_size c_rp c_seen c_refs c_inRow c_isPic) H → va_D A (zwX cI cC f x34_lanes x34_spots c_byLeaps x34_load x34_gone x34_held x34_strong c_done c_rn c_rt c_letters c_size c_rp c_seen c_refs c_inRow c_isPic) → va_S A s.heap H locs → lv_has ls 6 [(0, .ref (f 0)), (1, .int p1), (2, .int p2), (4, .int x19_4), (5, .int x34_5)] → W p l e (RMk 6 141) s m args below meth c H locs 0 0 Q (F0 m 34 ls []) := by
          intro K34 kx34 n
          induction n with
          | zero => intro x34_5 x34_lanes x34_spots x34_load x34_gone x34_held x34_strong h; rw [fX3_poles_L34] at h; cases h
          | succ n ih34 =>
            intro x34_5 x34_lanes x34_spots x34_load x34_gone x34_held x34_strong h H locs ls hP hD hS hl
            rw [fX3_poles_L34] at h
            refine lv_iload hx hb dX3_poles_34 (lv_at hl 4 rfl) ?_
            refine lv_iconst (v := (1 : Int32)) hx hb dX3_poles_36 (by decide) ?_
            refine lv_aload_n hx hb dX3_poles_37 rfl (lv_at hl 0 rfl) ?_
            refine va_get (D := (dC, dI)) (ci := 3) (v := .ref (f 5)) (C := RX3) (T := TX3) (N := 9) hx hb hts hiX3 hown hK hP 0 rfl rfl 0 (by decide) hw1 (fun _ h9 => h9) rfl dX3_poles_38 ?_
            refine va_getN (D := (dC, dI)) (ci := 0) (v := .int (R_floes c_rn)) (C := RX0) (T := TX0) (N := 8) hx hb hts hiX0 hown hK hP 5 rfl rfl 6 (by decide) hnw2 (fun _ h9 => h9) rfl dX3_poles_41 ?_
            refine lv_ishl hx hb dX3_poles_44 ?_
            refine lv_icmp_ge (tgt := 79) hx hb dX3_poles_45 (by decide) (fun c45 => ?_) (fun c45 => ?_)
            · have h := itT c45 h
              exact kx34 _ _ _ _ _ _ h _ _ _ hP hD hS (lv_sub hl [0, 1, 2, 3] rfl)
            have h := itF c45 h
            refine lv_iload hx hb dX3_poles_48 (lv_at hl 4 rfl) ?_
            obtain ⟨q50, e50, h⟩ := bd_some h
            refine g_roS (wc := ([] : va_W)) ⟨hx, hb, hml, hown, hts⟩ hE hK hP hS [] rfl (mJ6_bitCount_0f7a4 l dC dI cI cC sk  x34_5 q50 e50) (va_cwS 1 hts gX3_poles_J6_bitCount_0f7a4 rfl rfl rfl (by decide +kernel) ⟨Nat.le_of_ble_eq_true rfl, Nat.le_of_ble_eq_true rfl⟩) (As := [.int x34_5]) (rest := []) rfl hl.1 rfl (Nat.le_of_ble_eq_true rfl) dX3_poles_50 ⟨Nat.zero_le _, Nat.zero_le _⟩ (fun H locs hP hS => ?_)
            refine lv_iload hx hb dX3_poles_53 (lv_at hl 3 rfl) ?_
            refine lv_icmp_ne (tgt := 73) hx hb dX3_poles_55 (by decide) (fun c55 => ?_) (fun c55 => ?_)
            · have h := itF c55 h
              refine lv_iinc (v := (x34_5 + (1 : Int32))) (lv' := [(5, .int (x34_5 + (1 : Int32))), (0, .ref (f 0)), (1, .int p1), (2, .int p2), (4, .int x19_4)]) hx hb dX3_poles_73 hl (k := 4) rfl rfl (by decide) rfl (fun ls hl => ?_)
              refine lv_goto (tgt := 34) hx hb dX3_poles_76 (by decide) ?_
              exact ih34 _ _ _ _ _ _ _ h _ _ _ hP hD hS (lv_sub hl [1, 2, 3, 4, 0] rfl)
            have h := itT c55 h
            refine lv_aload_n hx hb dX3_poles_58 rfl (lv_at hl 0 rfl) ?_
            refine lv_iload_n hx hb dX3_poles_59 rfl (lv_at hl 1 rfl) ?_
            refine lv_iload_n hx hb dX3_poles_60 rfl (lv_at hl 2 rfl) ?_
            refine lv_iconst (v := (0 : Int32)) hx hb dX3_poles_61 (by decide) ?_
            refine lv_iload hx hb dX3_poles_62 (lv_at hl 4 rfl) ?_
            obtain ⟨q64, e64, h⟩ := bd_some h
            refine g_rwV (wc := (zwX cI cC f x34_lanes x34_spots c_byLeaps x34_load x34_gone x34_held x34_strong c_done c_rn c_rt c_letters c_size c_rp c_seen c_refs c_inRow c_isPic)) (wc' := (zwX cI cC f q64.2.1 q64.2.2.1 c_byLeaps q64.2.2.2.1 q64.2.2.2.2.1 q64.2.2.2.2.2.1 q64.2.2.2.2.2.2 c_done c_rn c_rt c_letters c_size c_rp c_seen c_refs c_inRow c_isPic)) ⟨hx, hb, hml, hown, hts⟩ hE hK hA hP hD hS [0, 1, 2, 3, 4, 5, 6, 7, 8, 9, 10, 11, 12, 13, 14, 15, 16, 17, 18, 19, 20, 21, 22, 23, 24, 25, 26] rfl rfl rfl (mX3_comesOver l dC dI cI cC sk f H.size p1 p2 (0 : Int32) x34_5 x34_lanes x34_spots c_byLeaps x34_load x34_gone x34_held x34_strong c_done c_rn c_rt c_letters c_size c_rp c_seen c_refs c_inRow c_isPic q64 e64) (cwV 4 hts gX3_poles_X3_comesOver rfl rfl rfl (by decide +kernel) ⟨Nat.le_of_ble_eq_true rfl, Nat.le_of_ble_eq_true rfl⟩) (va_recv hK hP (ci := 3) (q0 := 0) rfl rfl) (As := [.int p1, .int p2, .int (0 : Int32), .int x34_5]) (rest := []) rfl hl.1 rfl (Nat.le_of_ble_eq_true rfl) dX3_poles_64 ⟨Nat.zero_le _, Nat.zero_le _⟩ (fun H locs hP hD hS => ?_)
            have hP : va_P (dC, dI) vwCl (zwX cI cC f q64.2.1 q64.2.2.1 c_byLeaps q64.2.2.2.1 q64.2.2.2.2.1 q64.2.2.2.2.2.1 q64.2.2.2.2.2.2 c_done c_rn c_rt c_letters c_size c_rp c_seen c_refs c_inRow c_isPic) H := hP
            have hD : va_D A (zwX cI cC f q64.2.1 q64.2.2.1 c_byLeaps q64.2.2.2.1 q64.2.2.2.2.1 q64.2.2.2.2.2.1 q64.2.2.2.2.2.2 c_done c_rn c_rt c_letters c_size c_rp c_seen c_refs c_inRow c_isPic) := hD
            refine lv_if_eq (tgt := 73) hx hb dX3_poles_67 (by decide) (fun c67 => ?_) (fun c67 => ?_)
            · have h := itT c67 h
              refine lv_iinc (v := (x34_5 + (1 : Int32))) (lv' := [(5, .int (x34_5 + (1 : Int32))), (0, .ref (f 0)), (1, .int p1), (2, .int p2), (4, .int x19_4)]) hx hb dX3_poles_73 hl (k := 4) rfl rfl (by decide) rfl (fun ls hl => ?_)
              refine lv_goto (tgt := 34) hx hb dX3_poles_76 (by decide) ?_
              exact ih34 _ _ _ _ _ _ _ h _ _ _ hP hD hS (lv_sub hl [1, 2, 3, 4, 0] rfl)
            have h := itF c67 h
            refine lv_iload hx hb dX3_poles_70 (lv_at hl 4 rfl) ?_
            subst hQ
            exact retRW (zz := ((x34_5, q64.2.1, q64.2.2.1, q64.2.2.2.1, q64.2.2.2.2.1, q64.2.2.2.2.2.1, q64.2.2.2.2.2.2, c_refs) : Int32 × AR × AR × Int32 × Int32 × Int32 × Int32 × AR)) (fun z => z.1) (fun z => (zwX cI cC f z.2.1 z.2.2.1 c_byLeaps z.2.2.2.1 z.2.2.2.2.1 z.2.2.2.2.2.1 z.2.2.2.2.2.2.1 c_done c_rn c_rt c_letters c_size c_rp c_seen z.2.2.2.2.2.2.2 c_inRow c_isPic)) hx hb hr hlocks rfl hS h rfl hP dX3_poles_72
        refine L34 _ (fun k34_lanes k34_spots k34_load k34_gone k34_held k34_strong h H locs ls hP hD hS hl => ?_) _ _ _ _ _ _ _ _ h _ _ _ hP hD hS (lv_sub hl [1, 2, 3, 4, 0] rfl)
        refine lv_iinc (v := (x19_4 + (1 : Int32))) (lv' := [(4, .int (x19_4 + (1 : Int32))), (0, .ref (f 0)), (1, .int p1), (2, .int p2)]) hx hb dX3_poles_79 hl (k := 3) rfl rfl (by decide) rfl (fun ls hl => ?_)
        refine lv_goto (tgt := 19) hx hb dX3_poles_82 (by decide) ?_
        exact ih19 _ _ _ _ _ _ _ h _ _ _ hP hD hS (lv_sub hl [1, 2, 3, 0] rfl)
    refine L19 _ (fun k19_lanes k19_spots k19_load k19_gone k19_held k19_strong h H locs ls hP hD hS hl => ?_) _ _ _ _ _ _ _ _ h _ _ _ hP hD hS (lv_sub hl [2, 3, 4, 0] rfl)
    refine lv_bipush (v := (-9 : Int32)) hx hb dX3_poles_85 (by decide) ?_
    subst hQ
    exact retRW (zz := (((-9 : Int32), k19_lanes, k19_spots, k19_load, k19_gone, k19_held, k19_strong, c_refs) : Int32 × AR × AR × Int32 × Int32 × Int32 × Int32 × AR)) (fun z => z.1) (fun z => (zwX cI cC f z.2.1 z.2.2.1 c_byLeaps z.2.2.2.1 z.2.2.2.2.1 z.2.2.2.2.2.1 z.2.2.2.2.2.2.1 c_done c_rn c_rt c_letters c_size c_rp c_seen z.2.2.2.2.2.2.2 c_inRow c_isPic)) hx hb hr hlocks rfl hS h rfl hP dX3_poles_87
  have h := itF c7 h
  refine lv_aload_n hx hb dX3_poles_10 rfl (lv_at hl 1 rfl) ?_
  refine lv_iload_n hx hb dX3_poles_11 rfl (lv_at hl 0 rfl) ?_
  obtain ⟨q12, e12, h⟩ := bd_some h
  refine g_rwV (wc := (zwX cI cC f c_lanes c_spots c_byLeaps c_load c_gone c_held c_strong c_done c_rn c_rt c_letters c_size c_rp c_seen c_refs c_inRow c_isPic)) (wc' := (zwX cI cC f c_lanes c_spots c_byLeaps c_load c_gone c_held c_strong c_done c_rn c_rt c_letters c_size c_rp c_seen q12.2 c_inRow c_isPic)) ⟨hx, hb, hml, hown, hts⟩ hE hK hA hP hD hS [0, 1, 2, 3, 4, 5, 6, 7, 8, 9, 10, 11, 12, 13, 14, 15, 16, 17, 18, 19, 20, 21, 22, 23, 24, 25, 26] rfl rfl rfl (mX3_refuse l dC dI cI cC sk f H.size q2 c_lanes c_spots c_byLeaps c_load c_gone c_held c_strong c_done c_rn c_rt c_letters c_size c_rp c_seen c_refs c_inRow c_isPic q12 e12) (cwV 1 hts gX3_poles_X3_refuse rfl rfl rfl (by decide +kernel) ⟨Nat.le_of_ble_eq_true rfl, Nat.le_of_ble_eq_true rfl⟩) (va_recv hK hP (ci := 3) (q0 := 0) rfl rfl) (As := [.int q2]) (rest := []) rfl hl.1 rfl (Nat.le_of_ble_eq_true rfl) dX3_poles_12 ⟨Nat.zero_le _, Nat.zero_le _⟩ (fun H locs hP hD hS => ?_)
  have hP : va_P (dC, dI) vwCl (zwX cI cC f c_lanes c_spots c_byLeaps c_load c_gone c_held c_strong c_done c_rn c_rt c_letters c_size c_rp c_seen q12.2 c_inRow c_isPic) H := hP
  have hD : va_D A (zwX cI cC f c_lanes c_spots c_byLeaps c_load c_gone c_held c_strong c_done c_rn c_rt c_letters c_size c_rp c_seen q12.2 c_inRow c_isPic) := hD
  subst hQ
  exact retRW (zz := ((q12.1, c_lanes, c_spots, c_load, c_gone, c_held, c_strong, q12.2) : Int32 × AR × AR × Int32 × Int32 × Int32 × Int32 × AR)) (fun z => z.1) (fun z => (zwX cI cC f z.2.1 z.2.2.1 c_byLeaps z.2.2.2.1 z.2.2.2.2.1 z.2.2.2.2.2.1 z.2.2.2.2.2.2.1 c_done c_rn c_rt c_letters c_size c_rp c_seen z.2.2.2.2.2.2.2 c_inRow c_isPic)) hx hb hr hlocks rfl hS h rfl hP dX3_poles_15
theorem dX3_from_0 : decode cX3_from 0 = .ok (.iload_n 1, 1) := by decide +kernel
theorem dX3_from_1 : decode cX3_from 1 = .ok (.iconst 1, 1) := by decide +kernel
theorem dX3_from_2 : decode cX3_from 2 = .ok (.bipush 9, 2) := by decide +kernel
theorem dX3_from_4 : decode cX3_from 4 = .ok (.invokestatic 45, 3) := by decide +kernel
theorem dX3_from_7 : decode cX3_from 7 = .ok (.istore_n 2, 1) := by decide +kernel
theorem dX3_from_8 : decode cX3_from 8 = .ok (.iload_n 2, 1) := by decide +kernel
theorem dX3_from_9 : decode cX3_from 9 = .ok (.ifCond .eq 9, 3) := by decide +kernel
theorem dX3_from_12 : decode cX3_from 12 = .ok (.aload_n 0, 1) := by decide +kernel
theorem dX3_from_13 : decode cX3_from 13 = .ok (.iload_n 2, 1) := by decide +kernel
theorem dX3_from_14 : decode cX3_from 14 = .ok (.invokevirtual 53, 3) := by decide +kernel
theorem dX3_from_17 : decode cX3_from 17 = .ok (.ireturn, 1) := by decide +kernel
theorem dX3_from_18 : decode cX3_from 18 = .ok (.iconst 0, 1) := by decide +kernel
theorem dX3_from_19 : decode cX3_from 19 = .ok (.istore_n 3, 1) := by decide +kernel
theorem dX3_from_20 : decode cX3_from 20 = .ok (.iconst 0, 1) := by decide +kernel
theorem dX3_from_21 : decode cX3_from 21 = .ok (.istore 4, 2) := by decide +kernel
theorem dX3_from_23 : decode cX3_from 23 = .ok (.iload 4, 2) := by decide +kernel
theorem dX3_from_25 : decode cX3_from 25 = .ok (.bipush 10, 2) := by decide +kernel
theorem dX3_from_27 : decode cX3_from 27 = .ok (.if_icmp .ge 28, 3) := by decide +kernel
theorem dX3_from_30 : decode cX3_from 30 = .ok (.aload_n 0, 1) := by decide +kernel
theorem dX3_from_31 : decode cX3_from 31 = .ok (.iload_n 1, 1) := by decide +kernel
theorem dX3_from_32 : decode cX3_from 32 = .ok (.iload 4, 2) := by decide +kernel
theorem dX3_from_34 : decode cX3_from 34 = .ok (.iconst 0, 1) := by decide +kernel
theorem dX3_from_35 : decode cX3_from 35 = .ok (.iconst 0, 1) := by decide +kernel
theorem dX3_from_36 : decode cX3_from 36 = .ok (.invokevirtual 127, 3) := by decide +kernel
theorem dX3_from_39 : decode cX3_from 39 = .ok (.ifCond .eq 10, 3) := by decide +kernel
theorem dX3_from_42 : decode cX3_from 42 = .ok (.iload_n 3, 1) := by decide +kernel
theorem dX3_from_43 : decode cX3_from 43 = .ok (.iconst 1, 1) := by decide +kernel
theorem dX3_from_44 : decode cX3_from 44 = .ok (.iload 4, 2) := by decide +kernel
theorem dX3_from_46 : decode cX3_from 46 = .ok (.ishl, 1) := by decide +kernel
theorem dX3_from_47 : decode cX3_from 47 = .ok (.ior, 1) := by decide +kernel
theorem dX3_from_48 : decode cX3_from 48 = .ok (.istore_n 3, 1) := by decide +kernel
theorem dX3_from_49 : decode cX3_from 49 = .ok (.iinc 4 1, 3) := by decide +kernel
theorem dX3_from_52 : decode cX3_from 52 = .ok (.goto (-29), 3) := by decide +kernel
theorem dX3_from_55 : decode cX3_from 55 = .ok (.iload_n 3, 1) := by decide +kernel
theorem dX3_from_56 : decode cX3_from 56 = .ok (.ireturn, 1) := by decide +kernel
set_option maxRecDepth 20000 in
theorem ggX3_from_X3_outOf : GoodIn wsX3_from wsX3_outOf := goodIn_r _ [4] (by decide +kernel) (by decide +kernel)
set_option maxRecDepth 20000 in
theorem gX3_from_X3_outOf : GoodIn wsX3_from (va_wsS RX3 45 yX3_outOf wsX3_outOf) := goodIn_app (goodIn_of _ (by decide +kernel)) ggX3_from_X3_outOf
set_option maxRecDepth 20000 in
theorem ggX3_from_X3_refuse : GoodIn wsX3_from wsX3_refuse := goodIn_r _ [8, 9, 106, 107, 108, 109, 110, 111, 112, 113, 114] (by decide +kernel) (by decide +kernel)
set_option maxRecDepth 20000 in
theorem gX3_from_X3_refuse : GoodIn wsX3_from (wsV RX3 53 RX3 yX3_refuse wsX3_refuse) := goodIn_app (goodIn_of _ (by decide +kernel)) ggX3_from_X3_refuse
set_option maxRecDepth 20000 in
theorem ggX3_from_X3_comesOver : GoodIn wsX3_from wsX3_comesOver := goodIn_r _ [13, 14, 15, 16, 17, 18, 19, 20, 21, 22, 23, 24, 25, 26, 27, 28, 3, 29, 30, 31, 32, 33, 34, 35, 36, 37, 38, 39, 40, 41, 42, 43, 44, 45, 46, 47, 48, 49, 50, 51, 52, 53, 54, 55, 56, 57, 58, 59, 60, 61, 62, 63, 64, 65, 66, 67, 68, 69, 70, 71, 72, 73, 74, 75, 76, 77, 78, 79, 80, 81, 82, 83, 84, 85, 86, 87, 88, 89, 90, 91, 92, 93, 94, 95, 96, 97, 98, 99, 100, 101, 102, 103, 104, 105, 106, 107, 108, 109, 110, 111, 112, 113, 114, 115, 116, 117, 118, 119, 120, 121, 122, 123, 124, 125, 126, 127, 128, 129, 130, 131] (by decide +kernel) (by decide +kernel)
set_option maxRecDepth 20000 in
theorem gX3_from_X3_comesOver : GoodIn wsX3_from (wsV RX3 127 RX3 yX3_comesOver wsX3_comesOver) := goodIn_app (goodIn_of _ (by decide +kernel)) ggX3_from_X3_comesOver
set_option maxHeartbeats 4000000 in
set_option maxRecDepth 100000 in
theorem mX3_from (l : Launch) (dC : Nat → ClassId) (dI : Nat → Nat → Nat) (cI cC : ClassId) (sk : (Nat → Nat) × (Nat → Nat)) (f : Nat → Nat) (sz : Nat) (p1 : Int32) (c_lanes : AR) (c_spots : AR) (c_byLeaps : AR) (c_load : Int32) (c_gone : Int32) (c_held : Int32) (c_strong : Int32) (c_done : Int32) (c_rn : RT) (c_rt : RT) (c_letters : AR) (c_size : Int32) (c_rp : RT) (c_seen : AR) (c_refs : AR) (c_inRow : Int32) (c_isPic : Int32) (z : Int32 × AR × AR × Int32 × Int32 × Int32 × Int32 × AR) (h : fX3_from p1 c_lanes c_spots c_load c_gone c_held c_strong c_rn c_refs = some z) : cRW l yX3_from wsX3_from (RMk 6 141) sk (dC, dI) (tyz cI cC) sz (zwX cI cC f c_lanes c_spots c_byLeaps c_load c_gone c_held c_strong c_done c_rn c_rt c_letters c_size c_rp c_seen c_refs c_inRow c_isPic) (zwX cI cC f z.2.1 z.2.2.1 c_byLeaps z.2.2.2.1 z.2.2.2.2.1 z.2.2.2.2.2.1 z.2.2.2.2.2.2.1 c_done c_rn c_rt c_letters c_size c_rp c_seen z.2.2.2.2.2.2.2 c_inRow c_isPic) [.ref (f 0), .int p1] z.1 := by
  refine ofRW (cc := cX3_from) (maxL := 5) (ret := (some .int)) (own := RX3) (plainFor_of_name (by decide)) rfl rfl (Nat.le_of_ble_eq_true rfl) ?_
  intro p e s m args below meth c A hA hx hb hml hr hts hown hlocks hE hK hP hD hS ls hl
  generalize hQ : qRW _ _ _ _ _ _ _ = Q
  have hl : lv_has ls 5 [(0, .ref (f 0)), (1, .int p1)] := hl
  rw [fX3_from] at h
  refine lv_iload_n hx hb dX3_from_0 rfl (lv_at hl 1 rfl) ?_
  refine lv_iconst (v := (1 : Int32)) hx hb dX3_from_1 (by decide) ?_
  refine lv_bipush (v := (9 : Int32)) hx hb dX3_from_2 (by decide) ?_
  obtain ⟨q4, e4, h⟩ := bd_some h
  refine g_roS (wc := ([] : va_W)) ⟨hx, hb, hml, hown, hts⟩ hE hK hP hS [] rfl (mX3_outOf l dC dI cI cC sk  p1 (1 : Int32) (9 : Int32) q4 e4) (va_cwS 3 hts gX3_from_X3_outOf rfl rfl rfl (by decide +kernel) ⟨Nat.le_of_ble_eq_true rfl, Nat.le_of_ble_eq_true rfl⟩) (As := [.int p1, .int (1 : Int32), .int (9 : Int32)]) (rest := []) rfl hl.1 rfl (Nat.le_of_ble_eq_true rfl) dX3_from_4 ⟨Nat.zero_le _, Nat.zero_le _⟩ (fun H locs hP hS => ?_)
  refine lv_istore_n (lv' := [(2, .int q4), (0, .ref (f 0)), (1, .int p1)]) hx hb dX3_from_7 rfl hl (by decide) rfl (fun ls hl => ?_)
  refine lv_iload_n hx hb dX3_from_8 rfl (lv_at hl 0 rfl) ?_
  refine lv_if_eq (tgt := 18) hx hb dX3_from_9 (by decide) (fun c9 => ?_) (fun c9 => ?_)
  · have h := itT c9 h
    refine lv_iconst (v := (0 : Int32)) hx hb dX3_from_18 (by decide) ?_
    refine lv_istore_n (lv' := [(3, .int (0 : Int32)), (2, .int q4), (0, .ref (f 0)), (1, .int p1)]) hx hb dX3_from_19 rfl hl (by decide) rfl (fun ls hl => ?_)
    refine lv_iconst (v := (0 : Int32)) hx hb dX3_from_20 (by decide) ?_
    refine lv_istore (lv' := [(4, .int (0 : Int32)), (3, .int (0 : Int32)), (2, .int q4), (0, .ref (f 0)), (1, .int p1)]) hx hb dX3_from_21 hl (by decide) rfl (fun ls hl => ?_)
    have L23 : ∀ (K23 : Int32 → AR → AR → Int32 → Int32 → Int32 → Int32 → Option (Int32 × AR × AR × Int32 × Int32 × Int32 × Int32 × AR)), (∀ (k23_3 : Int32) (k23_lanes : AR) (k23_spots : AR) (k23_load : Int32) (k23_gone : Int32) (k23_held : Int32) (k23_strong : Int32), K23 k23_3 k23_lanes k23_spots k23_load k23_gone k23_held k23_strong = some z → ∀ (H : Heap) (locs : List Loc) (ls : Array Slot), va_P (dC, dI) vwCl (zwX cI cC f k23_lanes k23_spots c_byLeaps k23_load k23_gone k23_held k23_strong c_done c_rn c_rt c_letters c_size c_rp c_seen c_refs c_inRow c_isPic) H → va_D A (zwX cI cC f k23_lanes k23_spots c_byLeaps k23_load k23_gone k23_held k23_strong c_done c_rn c_rt c_letters c_size c_rp c_seen c_refs c_inRow c_isPic) → va_S A s.heap H locs → lv_has ls 5 [(3, .int k23_3)] → W p l e (RMk 6 141) s m args below meth c H locs 0 0 Q (F0 m 55 ls [])) → ∀ (n : Nat) (x23_3 : Int32) (x23_4 : Int32) (x23_lanes : AR) (x23_spots : AR) (x23_load : Int32) (x23_gone : Int32) (x23_held : Int32) (x23_strong : Int32), fX3_from_L23 c_rn p1 K23 n x23_3 x23_4 x23_lanes x23_spots x23_load x23_gone x23_held x23_strong = some z → ∀ (H : Heap) (locs : List Loc) (ls : Array Slot), va_P (dC, dI) vwCl (zwX cI cC f x23_lanes x23_spots c_byLeaps x23_load x23_gone x23_held x23_strong c_done c_rn c_rt c_letters c_size c_rp c_seen c_refs c_inRow c_isPic) H → va_D A (zwX cI cC f x23_lanes x23_spots c_byLeaps x23_load x23_gone x23_held x23_strong c_done c_rn c_rt c_letters c_size c_rp c_seen c_refs c_inRow c_isPic) → va_S A s.heap H locs → lv_has ls 5 [(0, .ref (f 0)), (1, .int p1), (3, .int x23_3), (4, .int x23_4)] → W p l e (RMk 6 141) s m args below meth c H locs 0 0 Q (F0 m 23 ls []) := by
      intro K23 kx23 n
      induction n with
      | zero => intro x23_3 x23_4 x23_lanes x23_spots x23_load x23_gone x23_held x23_strong h; rw [fX3_from_L23] at h; cases h
      | succ n ih23 =>
        intro x23_3 x23_4 x23_lanes x23_spots x23_load x23_gone x23_held x23_strong h H locs ls hP hD hS hl
        rw [fX3_from_L23] at h
        refine lv_iload hx hb dX3_from_23 (lv_at hl 3 rfl) ?_
        refine lv_bipush (v := (10 : Int32)) hx hb dX3_from_25 (by decide) ?_
        refine lv_icmp_ge (tgt := 55) hx hb dX3_from_27 (by decide) (fun c27 => ?_) (fun c27 => ?_)
        · have h := itT c27 h
          exact kx23 _ _ _ _ _ _ _ h _ _ _ hP hD hS (lv_sub hl [2] rfl)
        have h := itF c27 h
        refine lv_aload_n hx hb dX3_from_30 rfl (lv_at hl 0 rfl) ?_
        refine lv_iload_n hx hb dX3_from_31 rfl (lv_at hl 1 rfl) ?_
        refine lv_iload hx hb dX3_from_32 (lv_at hl 3 rfl) ?_
        refine lv_iconst (v := (0 : Int32)) hx hb dX3_from_34 (by decide) ?_
        refine lv_iconst (v := (0 : Int32)) hx hb dX3_from_35 (by decide) ?_
        obtain ⟨q36, e36, h⟩ := bd_some h
        refine g_rwV (wc := (zwX cI cC f x23_lanes x23_spots c_byLeaps x23_load x23_gone x23_held x23_strong c_done c_rn c_rt c_letters c_size c_rp c_seen c_refs c_inRow c_isPic)) (wc' := (zwX cI cC f q36.2.1 q36.2.2.1 c_byLeaps q36.2.2.2.1 q36.2.2.2.2.1 q36.2.2.2.2.2.1 q36.2.2.2.2.2.2 c_done c_rn c_rt c_letters c_size c_rp c_seen c_refs c_inRow c_isPic)) ⟨hx, hb, hml, hown, hts⟩ hE hK hA hP hD hS [0, 1, 2, 3, 4, 5, 6, 7, 8, 9, 10, 11, 12, 13, 14, 15, 16, 17, 18, 19, 20, 21, 22, 23, 24, 25, 26] rfl rfl rfl (mX3_comesOver l dC dI cI cC sk f H.size p1 x23_4 (0 : Int32) (0 : Int32) x23_lanes x23_spots c_byLeaps x23_load x23_gone x23_held x23_strong c_done c_rn c_rt c_letters c_size c_rp c_seen c_refs c_inRow c_isPic q36 e36) (cwV 4 hts gX3_from_X3_comesOver rfl rfl rfl (by decide +kernel) ⟨Nat.le_of_ble_eq_true rfl, Nat.le_of_ble_eq_true rfl⟩) (va_recv hK hP (ci := 3) (q0 := 0) rfl rfl) (As := [.int p1, .int x23_4, .int (0 : Int32), .int (0 : Int32)]) (rest := []) rfl hl.1 rfl (Nat.le_of_ble_eq_true rfl) dX3_from_36 ⟨Nat.zero_le _, Nat.zero_le _⟩ (fun H locs hP hD hS => ?_)
        have hP : va_P (dC, dI) vwCl (zwX cI cC f q36.2.1 q36.2.2.1 c_byLeaps q36.2.2.2.1 q36.2.2.2.2.1 q36.2.2.2.2.2.1 q36.2.2.2.2.2.2 c_done c_rn c_rt c_letters c_size c_rp c_seen c_refs c_inRow c_isPic) H := hP
        have hD : va_D A (zwX cI cC f q36.2.1 q36.2.2.1 c_byLeaps q36.2.2.2.1 q36.2.2.2.2.1 q36.2.2.2.2.2.1 q36.2.2.2.2.2.2 c_done c_rn c_rt c_letters c_size c_rp c_seen c_refs c_inRow c_isPic) := hD
        refine lv_if_eq (tgt := 49) hx hb dX3_from_39 (by decide) (fun c39 => ?_) (fun c39 => ?_)
        · have h := itT c39 h
          refine lv_iinc (v := (x23_4 + (1 : Int32))) (lv' := [(4, .int (x23_4 + (1 : Int32))), (0, .ref (f 0)), (1, .int p1), (3, .int x23_3)]) hx hb dX3_from_49 hl (k := 3) rfl rfl (by decide) rfl (fun ls hl => ?_)
          refine lv_goto (tgt := 23) hx hb dX3_from_52 (by decide) ?_
          exact ih23 _ _ _ _ _ _ _ _ h _ _ _ hP hD hS (lv_sub hl [1, 2, 3, 0] rfl)
        have h := itF c39 h
        refine lv_iload_n hx hb dX3_from_42 rfl (lv_at hl 2 rfl) ?_
        refine lv_iconst (v := (1 : Int32)) hx hb dX3_from_43 (by decide) ?_
        refine lv_iload hx hb dX3_from_44 (lv_at hl 3 rfl) ?_
        refine lv_ishl hx hb dX3_from_46 ?_
        refine lv_ior hx hb dX3_from_47 ?_
        refine lv_istore_n (lv' := [(3, .int (x23_3 ||| ((1 : Int32) <<< (x23_4 &&& 31)))), (0, .ref (f 0)), (1, .int p1), (4, .int x23_4)]) hx hb dX3_from_48 rfl hl (by decide) rfl (fun ls hl => ?_)
        refine lv_iinc (v := (x23_4 + (1 : Int32))) (lv' := [(4, .int (x23_4 + (1 : Int32))), (3, .int (x23_3 ||| ((1 : Int32) <<< (x23_4 &&& 31)))), (0, .ref (f 0)), (1, .int p1)]) hx hb dX3_from_49 hl (k := 3) rfl rfl (by decide) rfl (fun ls hl => ?_)
        refine lv_goto (tgt := 23) hx hb dX3_from_52 (by decide) ?_
        exact ih23 _ _ _ _ _ _ _ _ h _ _ _ hP hD hS (lv_sub hl [2, 3, 1, 0] rfl)
    refine L23 _ (fun k23_3 k23_lanes k23_spots k23_load k23_gone k23_held k23_strong h H locs ls hP hD hS hl => ?_) _ _ _ _ _ _ _ _ _ h _ _ _ hP hD hS (lv_sub hl [3, 4, 1, 0] rfl)
    refine lv_iload_n hx hb dX3_from_55 rfl (lv_at hl 0 rfl) ?_
    subst hQ
    exact retRW (zz := ((k23_3, k23_lanes, k23_spots, k23_load, k23_gone, k23_held, k23_strong, c_refs) : Int32 × AR × AR × Int32 × Int32 × Int32 × Int32 × AR)) (fun z => z.1) (fun z => (zwX cI cC f z.2.1 z.2.2.1 c_byLeaps z.2.2.2.1 z.2.2.2.2.1 z.2.2.2.2.2.1 z.2.2.2.2.2.2.1 c_done c_rn c_rt c_letters c_size c_rp c_seen z.2.2.2.2.2.2.2 c_inRow c_isPic)) hx hb hr hlocks rfl hS h rfl hP dX3_from_56
  have h := itF c9 h
  refine lv_aload_n hx hb dX3_from_12 rfl (lv_at hl 1 rfl) ?_
  refine lv_iload_n hx hb dX3_from_13 rfl (lv_at hl 0 rfl) ?_
  obtain ⟨q14, e14, h⟩ := bd_some h
  refine g_rwV (wc := (zwX cI cC f c_lanes c_spots c_byLeaps c_load c_gone c_held c_strong c_done c_rn c_rt c_letters c_size c_rp c_seen c_refs c_inRow c_isPic)) (wc' := (zwX cI cC f c_lanes c_spots c_byLeaps c_load c_gone c_held c_strong c_done c_rn c_rt c_letters c_size c_rp c_seen q14.2 c_inRow c_isPic)) ⟨hx, hb, hml, hown, hts⟩ hE hK hA hP hD hS [0, 1, 2, 3, 4, 5, 6, 7, 8, 9, 10, 11, 12, 13, 14, 15, 16, 17, 18, 19, 20, 21, 22, 23, 24, 25, 26] rfl rfl rfl (mX3_refuse l dC dI cI cC sk f H.size q4 c_lanes c_spots c_byLeaps c_load c_gone c_held c_strong c_done c_rn c_rt c_letters c_size c_rp c_seen c_refs c_inRow c_isPic q14 e14) (cwV 1 hts gX3_from_X3_refuse rfl rfl rfl (by decide +kernel) ⟨Nat.le_of_ble_eq_true rfl, Nat.le_of_ble_eq_true rfl⟩) (va_recv hK hP (ci := 3) (q0 := 0) rfl rfl) (As := [.int q4]) (rest := []) rfl hl.1 rfl (Nat.le_of_ble_eq_true rfl) dX3_from_14 ⟨Nat.zero_le _, Nat.zero_le _⟩ (fun H locs hP hD hS => ?_)
  have hP : va_P (dC, dI) vwCl (zwX cI cC f c_lanes c_spots c_byLeaps c_load c_gone c_held c_strong c_done c_rn c_rt c_letters c_size c_rp c_seen q14.2 c_inRow c_isPic) H := hP
  have hD : va_D A (zwX cI cC f c_lanes c_spots c_byLeaps c_load c_gone c_held c_strong c_done c_rn c_rt c_letters c_size c_rp c_seen q14.2 c_inRow c_isPic) := hD
  subst hQ
  exact retRW (zz := ((q14.1, c_lanes, c_spots, c_load, c_gone, c_held, c_strong, q14.2) : Int32 × AR × AR × Int32 × Int32 × Int32 × Int32 × AR)) (fun z => z.1) (fun z => (zwX cI cC f z.2.1 z.2.2.1 c_byLeaps z.2.2.2.1 z.2.2.2.2.1 z.2.2.2.2.2.1 z.2.2.2.2.2.2.1 c_done c_rn c_rt c_letters c_size c_rp c_seen z.2.2.2.2.2.2.2 c_inRow c_isPic)) hx hb hr hlocks rfl hS h rfl hP dX3_from_17
theorem dX3_byNow_0 : decode cX3_byNow 0 = .ok (.aload_n 0, 1) := by decide +kernel
theorem dX3_byNow_1 : decode cX3_byNow 1 = .ok (.getfield 12, 3) := by decide +kernel
theorem dX3_byNow_4 : decode cX3_byNow 4 = .ok (.iload_n 2, 1) := by decide +kernel
theorem dX3_byNow_5 : decode cX3_byNow 5 = .ok (.invokevirtual 67, 3) := by decide +kernel
theorem dX3_byNow_8 : decode cX3_byNow 8 = .ok (.ifCond .ne 9, 3) := by decide +kernel
theorem dX3_byNow_11 : decode cX3_byNow 11 = .ok (.aload_n 0, 1) := by decide +kernel
theorem dX3_byNow_12 : decode cX3_byNow 12 = .ok (.iconst (-1), 1) := by decide +kernel
theorem dX3_byNow_13 : decode cX3_byNow 13 = .ok (.invokevirtual 53, 3) := by decide +kernel
theorem dX3_byNow_16 : decode cX3_byNow 16 = .ok (.ireturn, 1) := by decide +kernel
theorem dX3_byNow_17 : decode cX3_byNow 17 = .ok (.iload_n 1, 1) := by decide +kernel
theorem dX3_byNow_18 : decode cX3_byNow 18 = .ok (.iload_n 3, 1) := by decide +kernel
theorem dX3_byNow_19 : decode cX3_byNow 19 = .ok (.aload_n 0, 1) := by decide +kernel
theorem dX3_byNow_20 : decode cX3_byNow 20 = .ok (.getfield 12, 3) := by decide +kernel
theorem dX3_byNow_23 : decode cX3_byNow 23 = .ok (.getfield 84, 3) := by decide +kernel
theorem dX3_byNow_26 : decode cX3_byNow 26 = .ok (.invokestatic 117, 3) := by decide +kernel
theorem dX3_byNow_29 : decode cX3_byNow 29 = .ok (.istore 4, 2) := by decide +kernel
theorem dX3_byNow_31 : decode cX3_byNow 31 = .ok (.iload 4, 2) := by decide +kernel
theorem dX3_byNow_33 : decode cX3_byNow 33 = .ok (.ifCond .eq 10, 3) := by decide +kernel
theorem dX3_byNow_36 : decode cX3_byNow 36 = .ok (.aload_n 0, 1) := by decide +kernel
theorem dX3_byNow_37 : decode cX3_byNow 37 = .ok (.iload 4, 2) := by decide +kernel
theorem dX3_byNow_39 : decode cX3_byNow 39 = .ok (.invokevirtual 53, 3) := by decide +kernel
theorem dX3_byNow_42 : decode cX3_byNow 42 = .ok (.ireturn, 1) := by decide +kernel
theorem dX3_byNow_43 : decode cX3_byNow 43 = .ok (.aload_n 0, 1) := by decide +kernel
theorem dX3_byNow_44 : decode cX3_byNow 44 = .ok (.getfield 34, 3) := by decide +kernel
theorem dX3_byNow_47 : decode cX3_byNow 47 = .ok (.iload_n 1, 1) := by decide +kernel
theorem dX3_byNow_48 : decode cX3_byNow 48 = .ok (.iconst 0, 1) := by decide +kernel
theorem dX3_byNow_49 : decode cX3_byNow 49 = .ok (.iconst 0, 1) := by decide +kernel
theorem dX3_byNow_50 : decode cX3_byNow 50 = .ok (.invokevirtual 87, 3) := by decide +kernel
theorem dX3_byNow_53 : decode cX3_byNow 53 = .ok (.aload_n 0, 1) := by decide +kernel
theorem dX3_byNow_54 : decode cX3_byNow 54 = .ok (.getfield 34, 3) := by decide +kernel
theorem dX3_byNow_57 : decode cX3_byNow 57 = .ok (.iconst 1, 1) := by decide +kernel
theorem dX3_byNow_58 : decode cX3_byNow 58 = .ok (.iload_n 2, 1) := by decide +kernel
theorem dX3_byNow_59 : decode cX3_byNow 59 = .ok (.ishl, 1) := by decide +kernel
theorem dX3_byNow_60 : decode cX3_byNow 60 = .ok (.aload_n 0, 1) := by decide +kernel
theorem dX3_byNow_61 : decode cX3_byNow 61 = .ok (.getfield 12, 3) := by decide +kernel
theorem dX3_byNow_64 : decode cX3_byNow 64 = .ok (.getfield 84, 3) := by decide +kernel
theorem dX3_byNow_67 : decode cX3_byNow 67 = .ok (.iload_n 3, 1) := by decide +kernel
theorem dX3_byNow_68 : decode cX3_byNow 68 = .ok (.isub, 1) := by decide +kernel
theorem dX3_byNow_69 : decode cX3_byNow 69 = .ok (.iload_n 3, 1) := by decide +kernel
theorem dX3_byNow_70 : decode cX3_byNow 70 = .ok (.invokevirtual 123, 3) := by decide +kernel
theorem dX3_byNow_73 : decode cX3_byNow 73 = .ok (.sipush 255, 3) := by decide +kernel
theorem dX3_byNow_76 : decode cX3_byNow 76 = .ok (.iand, 1) := by decide +kernel
theorem dX3_byNow_77 : decode cX3_byNow 77 = .ok (.ireturn, 1) := by decide +kernel
set_option maxRecDepth 20000 in
theorem ggX3_byNow_X0_has : GoodIn wsX3_byNow wsX0_has := goodIn_r _ [7, 8, 112, 113, 114, 115, 116, 117, 118, 119] (by decide +kernel) (by decide +kernel)
set_option maxRecDepth 20000 in
theorem gX3_byNow_X0_has : GoodIn wsX3_byNow (wsV RX3 67 RX0 yX0_has wsX0_has) := goodIn_app (goodIn_of _ (by decide +kernel)) ggX3_byNow_X0_has
set_option maxRecDepth 20000 in
theorem ggX3_byNow_X3_refuse : GoodIn wsX3_byNow wsX3_refuse := goodIn_r _ [13, 14, 103, 104, 105, 106, 107, 108, 109, 110, 111] (by decide +kernel) (by decide +kernel)
set_option maxRecDepth 20000 in
theorem gX3_byNow_X3_refuse : GoodIn wsX3_byNow (wsV RX3 53 RX3 yX3_refuse wsX3_refuse) := goodIn_app (goodIn_of _ (by decide +kernel)) ggX3_byNow_X3_refuse
set_option maxRecDepth 20000 in
theorem ggX3_byNow_X3_outOfEither : GoodIn wsX3_byNow wsX3_outOfEither := goodIn_r _ [17] (by decide +kernel) (by decide +kernel)
set_option maxRecDepth 20000 in
theorem gX3_byNow_X3_outOfEither : GoodIn wsX3_byNow (va_wsS RX3 117 yX3_outOfEither wsX3_outOfEither) := goodIn_app (goodIn_of _ (by decide +kernel)) ggX3_byNow_X3_outOfEither
set_option maxRecDepth 20000 in
theorem ggX3_byNow_X2_begin : GoodIn wsX3_byNow wsX2_begin := goodIn_r _ [22, 23, 24, 25, 120, 121, 122, 123, 124, 125, 126, 127, 128] (by decide +kernel) (by decide +kernel)
set_option maxRecDepth 20000 in
theorem gX3_byNow_X2_begin : GoodIn wsX3_byNow (wsV RX3 87 RX2 yX2_begin wsX2_begin) := goodIn_app (goodIn_of _ (by decide +kernel)) ggX3_byNow_X2_begin
set_option maxRecDepth 20000 in
theorem ggX3_byNow_X2_placesBehind : GoodIn wsX3_byNow wsX2_placesBehind := goodIn_r _ [29, 30, 31, 32, 21, 33, 34, 25, 35, 36, 37, 24, 23, 38, 39, 40, 6, 41, 42, 43, 4, 5, 7, 8, 44, 45, 46, 47, 48, 49, 50, 51, 52, 53, 54, 55, 56, 57, 58, 59, 60, 61, 62, 63, 64, 65, 66, 67, 68, 69, 70, 71, 72, 73, 74, 75, 76, 77, 78, 79, 80, 81, 82, 83, 84, 85, 86, 87, 88, 89, 90, 91, 92, 93, 94, 95, 96, 97, 98, 99, 100, 101, 12, 102, 120, 121, 122, 123, 124, 125, 126, 127, 128, 112, 113, 114, 115, 116, 117, 118, 119] (by decide +kernel) (by decide +kernel)
set_option maxRecDepth 20000 in
theorem gX3_byNow_X2_placesBehind : GoodIn wsX3_byNow (wsV RX3 123 RX2 yX2_placesBehind wsX2_placesBehind) := goodIn_app (goodIn_of _ (by decide +kernel)) ggX3_byNow_X2_placesBehind
set_option maxHeartbeats 4000000 in
set_option maxRecDepth 100000 in
theorem mX3_byNow (l : Launch) (dC : Nat → ClassId) (dI : Nat → Nat → Nat) (cI cC : ClassId) (sk : (Nat → Nat) × (Nat → Nat)) (f : Nat → Nat) (sz : Nat) (p1 : Int32) (p2 : Int32) (p3 : Int32) (c_lanes : AR) (c_spots : AR) (c_byLeaps : AR) (c_load : Int32) (c_gone : Int32) (c_held : Int32) (c_strong : Int32) (c_done : Int32) (c_rn : RT) (c_rt : RT) (c_letters : AR) (c_size : Int32) (c_rp : RT) (c_seen : AR) (c_refs : AR) (c_inRow : Int32) (c_isPic : Int32) (z : Int32 × AR × AR × Int32 × Int32 × Int32 × Int32 × AR) (h : fX3_byNow p1 p2 p3 c_lanes c_spots c_load c_gone c_held c_strong c_rn c_refs = some z) : cRW l yX3_byNow wsX3_byNow (RMk 5 118) sk (dC, dI) (tyz cI cC) sz (zwX cI cC f c_lanes c_spots c_byLeaps c_load c_gone c_held c_strong c_done c_rn c_rt c_letters c_size c_rp c_seen c_refs c_inRow c_isPic) (zwX cI cC f z.2.1 z.2.2.1 c_byLeaps z.2.2.2.1 z.2.2.2.2.1 z.2.2.2.2.2.1 z.2.2.2.2.2.2.1 c_done c_rn c_rt c_letters c_size c_rp c_seen z.2.2.2.2.2.2.2 c_inRow c_isPic) [.ref (f 0), .int p1, .int p2, .int p3] z.1 := by
  refine ofRW (cc := cX3_byNow) (maxL := 5) (ret := (some .int)) (own := RX3) (plainFor_of_name (by decide)) rfl rfl (Nat.le_of_ble_eq_true rfl) ?_
  intro p e s m args below meth c A hA hx hb hml hr hts hown hlocks hE hK hP hD hS ls hl
  generalize hQ : qRW _ _ _ _ _ _ _ = Q
  have hl : lv_has ls 5 [(0, .ref (f 0)), (1, .int p1), (2, .int p2), (3, .int p3)] := hl
  have hiX0 : ∀ w ∈ wsX00, w ∈ wsX3_byNow := fun w h => List.mem_cons_of_mem _ (List.mem_append_left _ (List.mem_append_right _ h))
  have hiX3 : ∀ w ∈ wsX30, w ∈ wsX3_byNow := fun w h => List.mem_cons_of_mem _ (List.mem_append_left _ (List.mem_append_left _ (List.mem_append_right _ h)))
  have hw1 := hts (Cond.fieldLink RX3 12 "FloeToFloe" "now" "LFloeToFloe$River;") (List.mem_of_getElem? (i := 1) rfl)
  have hw2 := hts (Cond.fieldLink RX3 34 "FloeToFloe" "walk" "LFloeToFloe$Walk;") (List.mem_of_getElem? (i := 2) rfl)
  have hnw4 : (Cond.fieldLinkNest "FloeToFloe" 84 "FloeToFloe$River" "minute" "I" "FloeToFloe").before args s = true := va_Nw.use rfl (hE.1 4 _ rfl)
  rw [fX3_byNow] at h
  refine lv_aload_n hx hb dX3_byNow_0 rfl (lv_at hl 0 rfl) ?_
  refine va_get (D := (dC, dI)) (ci := 3) (v := .ref (f 5)) (C := RX3) (T := TX3) (N := 9) hx hb hts hiX3 hown hK hP 0 rfl rfl 0 (by decide) hw1 (fun _ h9 => h9) rfl dX3_byNow_1 ?_
  refine lv_iload_n hx hb dX3_byNow_4 rfl (lv_at hl 2 rfl) ?_
  obtain ⟨q5, e5, h⟩ := bd_some h
  refine g_roV (wc := (zwR cI cC (fun k => f (k + 5)) c_rn)) ⟨hx, hb, hml, hown, hts⟩ hE hK hP hS [5, 6, 7, 8, 9, 10] rfl (mX0_has l dC dI cI cC sk (fun k => f (k + 5)) p2 c_rn q5 e5) (cwV 1 hts gX3_byNow_X0_has rfl rfl rfl (by decide +kernel) ⟨Nat.le_of_ble_eq_true rfl, Nat.le_of_ble_eq_true rfl⟩) (va_recv hK hP (ci := 0) (q0 := 5) rfl rfl) (As := [.int p2]) (rest := []) rfl hl.1 rfl (Nat.le_of_ble_eq_true rfl) dX3_byNow_5 ⟨Nat.zero_le _, Nat.zero_le _⟩ (fun H locs hP hS => ?_)
  refine lv_if_ne (tgt := 17) hx hb dX3_byNow_8 (by decide) (fun c8 => ?_) (fun c8 => ?_)
  · have h := itF c8 h
    refine lv_iload_n hx hb dX3_byNow_17 rfl (lv_at hl 1 rfl) ?_
    refine lv_iload_n hx hb dX3_byNow_18 rfl (lv_at hl 3 rfl) ?_
    refine lv_aload_n hx hb dX3_byNow_19 rfl (lv_at hl 0 rfl) ?_
    refine va_get (D := (dC, dI)) (ci := 3) (v := .ref (f 5)) (C := RX3) (T := TX3) (N := 9) hx hb hts hiX3 hown hK hP 0 rfl rfl 0 (by decide) hw1 (fun _ h9 => h9) rfl dX3_byNow_20 ?_
    refine va_getN (D := (dC, dI)) (ci := 0) (v := .int (R_minute c_rn)) (C := RX0) (T := TX0) (N := 8) hx hb hts hiX0 hown hK hP 5 rfl rfl 7 (by decide) hnw4 (fun _ h9 => h9) rfl dX3_byNow_23 ?_
    obtain ⟨q26, e26, h⟩ := bd_some h
    refine g_roS (wc := ([] : va_W)) ⟨hx, hb, hml, hown, hts⟩ hE hK hP hS [] rfl (mX3_outOfEither l dC dI cI cC sk  p1 p3 (R_minute c_rn) q26 e26) (va_cwS 3 hts gX3_byNow_X3_outOfEither rfl rfl rfl (by decide +kernel) ⟨Nat.le_of_ble_eq_true rfl, Nat.le_of_ble_eq_true rfl⟩) (As := [.int p1, .int p3, .int (R_minute c_rn)]) (rest := []) rfl hl.1 rfl (Nat.le_of_ble_eq_true rfl) dX3_byNow_26 ⟨Nat.zero_le _, Nat.zero_le _⟩ (fun H locs hP hS => ?_)
    refine lv_istore (lv' := [(4, .int q26), (0, .ref (f 0)), (1, .int p1), (2, .int p2), (3, .int p3)]) hx hb dX3_byNow_29 hl (by decide) rfl (fun ls hl => ?_)
    refine lv_iload hx hb dX3_byNow_31 (lv_at hl 0 rfl) ?_
    refine lv_if_eq (tgt := 43) hx hb dX3_byNow_33 (by decide) (fun c33 => ?_) (fun c33 => ?_)
    · have h := itT c33 h
      refine lv_aload_n hx hb dX3_byNow_43 rfl (lv_at hl 1 rfl) ?_
      refine va_get (D := (dC, dI)) (ci := 3) (v := .ref (f 1)) (C := RX3) (T := TX3) (N := 9) hx hb hts hiX3 hown hK hP 0 rfl rfl 4 (by decide) hw2 (fun _ h9 => h9) rfl dX3_byNow_44 ?_
      refine lv_iload_n hx hb dX3_byNow_47 rfl (lv_at hl 2 rfl) ?_
      refine lv_iconst (v := (0 : Int32)) hx hb dX3_byNow_48 (by decide) ?_
      refine lv_iconst (v := (0 : Int32)) hx hb dX3_byNow_49 (by decide) ?_
      obtain ⟨q50, e50, h⟩ := bd_some h
      refine g_rvV (wc := (zwV cI cC (fun k => f (k + 1)) c_lanes c_spots c_byLeaps c_load c_gone c_held c_strong c_done c_rn)) (wc' := (zwV cI cC (fun k => f (k + 1)) c_lanes c_spots c_byLeaps q50.1 q50.2.1 q50.2.2 c_strong c_done c_rn)) ⟨hx, hb, hml, hown, hts⟩ hE hK hA hP hD hS [1, 2, 3, 4, 5, 6, 7, 8, 9, 10] rfl rfl rfl (mX2_begin l dC dI cI cC sk (fun k => f (k + 1)) H.size p1 (0 : Int32) (0 : Int32) c_lanes c_spots c_byLeaps c_load c_gone c_held c_strong c_done c_rn q50 e50) (cwV 3 hts gX3_byNow_X2_begin rfl rfl rfl (by decide +kernel) ⟨Nat.le_of_ble_eq_true rfl, Nat.le_of_ble_eq_true rfl⟩) (va_recv hK hP (ci := 2) (q0 := 1) rfl rfl) (As := [.int p1, .int (0 : Int32), .int (0 : Int32)]) (rest := []) rfl hl.1 rfl (Nat.le_of_ble_eq_true rfl) dX3_byNow_50 ⟨Nat.zero_le _, Nat.zero_le _⟩ (fun H locs hP hD hS => ?_)
      have hP : va_P (dC, dI) vwCl (zwX cI cC f c_lanes c_spots c_byLeaps q50.1 q50.2.1 q50.2.2 c_strong c_done c_rn c_rt c_letters c_size c_rp c_seen c_refs c_inRow c_isPic) H := hP
      have hD : va_D A (zwX cI cC f c_lanes c_spots c_byLeaps q50.1 q50.2.1 q50.2.2 c_strong c_done c_rn c_rt c_letters c_size c_rp c_seen c_refs c_inRow c_isPic) := hD
      refine lv_aload_n hx hb dX3_byNow_53 rfl (lv_at hl 1 rfl) ?_
      refine va_get (D := (dC, dI)) (ci := 3) (v := .ref (f 1)) (C := RX3) (T := TX3) (N := 9) hx hb hts hiX3 hown hK hP 0 rfl rfl 4 (by decide) hw2 (fun _ h9 => h9) rfl dX3_byNow_54 ?_
      refine lv_iconst (v := (1 : Int32)) hx hb dX3_byNow_57 (by decide) ?_
      refine lv_iload_n hx hb dX3_byNow_58 rfl (lv_at hl 3 rfl) ?_
      refine lv_ishl hx hb dX3_byNow_59 ?_
      refine lv_aload_n hx hb dX3_byNow_60 rfl (lv_at hl 1 rfl) ?_
      refine va_get (D := (dC, dI)) (ci := 3) (v := .ref (f 5)) (C := RX3) (T := TX3) (N := 9) hx hb hts hiX3 hown hK hP 0 rfl rfl 0 (by decide) hw1 (fun _ h9 => h9) rfl dX3_byNow_61 ?_
      refine va_getN (D := (dC, dI)) (ci := 0) (v := .int (R_minute c_rn)) (C := RX0) (T := TX0) (N := 8) hx hb hts hiX0 hown hK hP 5 rfl rfl 7 (by decide) hnw4 (fun _ h9 => h9) rfl dX3_byNow_64 ?_
      refine lv_iload_n hx hb dX3_byNow_67 rfl (lv_at hl 4 rfl) ?_
      refine lv_isub hx hb dX3_byNow_68 ?_
      refine lv_iload_n hx hb dX3_byNow_69 rfl (lv_at hl 4 rfl) ?_
      obtain ⟨q70, e70, h⟩ := bd_some h
      refine g_rwV (wc := (zwV cI cC (fun k => f (k + 1)) c_lanes c_spots c_byLeaps q50.1 q50.2.1 q50.2.2 c_strong c_done c_rn)) (wc' := (zwV cI cC (fun k => f (k + 1)) q70.2.1 q70.2.2.1 c_byLeaps q50.1 q50.2.1 q50.2.2 q70.2.2.2 c_done c_rn)) ⟨hx, hb, hml, hown, hts⟩ hE hK hA hP hD hS [1, 2, 3, 4, 5, 6, 7, 8, 9, 10] rfl rfl rfl (mX2_placesBehind l dC dI cI cC sk (fun k => f (k + 1)) H.size ((1 : Int32) <<< (p2 &&& 31)) ((R_minute c_rn) - p3) p3 c_lanes c_spots c_byLeaps q50.1 q50.2.1 q50.2.2 c_strong c_done c_rn q70 e70) (cwV 3 hts gX3_byNow_X2_placesBehind rfl rfl rfl (by decide +kernel) ⟨Nat.le_of_ble_eq_true rfl, Nat.le_of_ble_eq_true rfl⟩) (va_recv hK hP (ci := 2) (q0 := 1) rfl rfl) (As := [.int ((1 : Int32) <<< (p2 &&& 31)), .int ((R_minute c_rn) - p3), .int p3]) (rest := []) rfl hl.1 rfl (Nat.le_of_ble_eq_true rfl) dX3_byNow_70 ⟨Nat.zero_le _, Nat.zero_le _⟩ (fun H locs hP hD hS => ?_)
      have hP : va_P (dC, dI) vwCl (zwX cI cC f q70.2.1 q70.2.2.1 c_byLeaps q50.1 q50.2.1 q50.2.2 q70.2.2.2 c_done c_rn c_rt c_letters c_size c_rp c_seen c_refs c_inRow c_isPic) H := hP
      have hD : va_D A (zwX cI cC f q70.2.1 q70.2.2.1 c_byLeaps q50.1 q50.2.1 q50.2.2 q70.2.2.2 c_done c_rn c_rt c_letters c_size c_rp c_seen c_refs c_inRow c_isPic) := hD
      refine lv_sipush (v := (255 : Int32)) hx hb dX3_byNow_73 (by decide) ?_
      refine lv_iand hx hb dX3_byNow_76 ?_
      subst hQ
      exact retRW (zz := (((q70.1 &&& (255 : Int32)), q70.2.1, q70.2.2.1, q50.1, q50.2.1, q50.2.2, q70.2.2.2, c_refs) : Int32 × AR × AR × Int32 × Int32 × Int32 × Int32 × AR)) (fun z => z.1) (fun z => (zwX cI cC f z.2.1 z.2.2.1 c_byLeaps z.2.2.2.1 z.2.2.2.2.1 z.2.2.2.2.2.1 z.2.2.2.2.2.2.1 c_done c_rn c_rt c_letters c_size c_rp c_seen z.2.2.2.2.2.2.2 c_inRow c_isPic)) hx hb hr hlocks rfl hS h rfl hP dX3_byNow_77
    have h := itF c33 h
    refine lv_aload_n hx hb dX3_byNow_36 rfl (lv_at hl 1 rfl) ?_
    refine lv_iload hx hb dX3_byNow_37 (lv_at hl 0 rfl) ?_
    obtain ⟨q39, e39, h⟩ := bd_some h
    refine g_rwV (wc := (zwX cI cC f c_lanes c_spots c_byLeaps c_load c_gone c_held c_strong c_done c_rn c_rt c_letters c_size c_rp c_seen c_refs c_inRow c_isPic)) (wc' := (zwX cI cC f c_lanes c_spots c_byLeaps c_load c_gone c_held c_strong c_done c_rn c_rt c_letters c_size c_rp c_seen q39.2 c_inRow c_isPic)) ⟨hx, hb, hml, hown, hts⟩ hE hK hA hP hD hS [0, 1, 2, 3, 4, 5, 6, 7, 8, 9, 10, 11, 12, 13, 14, 15, 16, 17, 18, 19, 20, 21, 22, 23, 24, 25, 26] rfl rfl rfl (mX3_refuse l dC dI cI cC sk f H.size q26 c_lanes c_spots c_byLeaps c_load c_gone c_held c_strong c_done c_rn c_rt c_letters c_size c_rp c_seen c_refs c_inRow c_isPic q39 e39) (cwV 1 hts gX3_byNow_X3_refuse rfl rfl rfl (by decide +kernel) ⟨Nat.le_of_ble_eq_true rfl, Nat.le_of_ble_eq_true rfl⟩) (va_recv hK hP (ci := 3) (q0 := 0) rfl rfl) (As := [.int q26]) (rest := []) rfl hl.1 rfl (Nat.le_of_ble_eq_true rfl) dX3_byNow_39 ⟨Nat.zero_le _, Nat.zero_le _⟩ (fun H locs hP hD hS => ?_)
    have hP : va_P (dC, dI) vwCl (zwX cI cC f c_lanes c_spots c_byLeaps c_load c_gone c_held c_strong c_done c_rn c_rt c_letters c_size c_rp c_seen q39.2 c_inRow c_isPic) H := hP
    have hD : va_D A (zwX cI cC f c_lanes c_spots c_byLeaps c_load c_gone c_held c_strong c_done c_rn c_rt c_letters c_size c_rp c_seen q39.2 c_inRow c_isPic) := hD
    subst hQ
    exact retRW (zz := ((q39.1, c_lanes, c_spots, c_load, c_gone, c_held, c_strong, q39.2) : Int32 × AR × AR × Int32 × Int32 × Int32 × Int32 × AR)) (fun z => z.1) (fun z => (zwX cI cC f z.2.1 z.2.2.1 c_byLeaps z.2.2.2.1 z.2.2.2.2.1 z.2.2.2.2.2.1 z.2.2.2.2.2.2.1 c_done c_rn c_rt c_letters c_size c_rp c_seen z.2.2.2.2.2.2.2 c_inRow c_isPic)) hx hb hr hlocks rfl hS h rfl hP dX3_byNow_42
  have h := itT c8 h
  refine lv_aload_n hx hb dX3_byNow_11 rfl (lv_at hl 0 rfl) ?_
  refine lv_iconst (v := (-1 : Int32)) hx hb dX3_byNow_12 (by decide) ?_
  obtain ⟨q13, e13, h⟩ := bd_some h
  refine g_rwV (wc := (zwX cI cC f c_lanes c_spots c_byLeaps c_load c_gone c_held c_strong c_done c_rn c_rt c_letters c_size c_rp c_seen c_refs c_inRow c_isPic)) (wc' := (zwX cI cC f c_lanes c_spots c_byLeaps c_load c_gone c_held c_strong c_done c_rn c_rt c_letters c_size c_rp c_seen q13.2 c_inRow c_isPic)) ⟨hx, hb, hml, hown, hts⟩ hE hK hA hP hD hS [0, 1, 2, 3, 4, 5, 6, 7, 8, 9, 10, 11, 12, 13, 14, 15, 16, 17, 18, 19, 20, 21, 22, 23, 24, 25, 26] rfl rfl rfl (mX3_refuse l dC dI cI cC sk f H.size (-1 : Int32) c_lanes c_spots c_byLeaps c_load c_gone c_held c_strong c_done c_rn c_rt c_letters c_size c_rp c_seen c_refs c_inRow c_isPic q13 e13) (cwV 1 hts gX3_byNow_X3_refuse rfl rfl rfl (by decide +kernel) ⟨Nat.le_of_ble_eq_true rfl, Nat.le_of_ble_eq_true rfl⟩) (va_recv hK hP (ci := 3) (q0 := 0) rfl rfl) (As := [.int (-1 : Int32)]) (rest := []) rfl hl.1 rfl (Nat.le_of_ble_eq_true rfl) dX3_byNow_13 ⟨Nat.zero_le _, Nat.zero_le _⟩ (fun H locs hP hD hS => ?_)
  have hP : va_P (dC, dI) vwCl (zwX cI cC f c_lanes c_spots c_byLeaps c_load c_gone c_held c_strong c_done c_rn c_rt c_letters c_size c_rp c_seen q13.2 c_inRow c_isPic) H := hP
  have hD : va_D A (zwX cI cC f c_lanes c_spots c_byLeaps c_load c_gone c_held c_strong c_done c_rn c_rt c_letters c_size c_rp c_seen q13.2 c_inRow c_isPic) := hD
  subst hQ
  exact retRW (zz := ((q13.1, c_lanes, c_spots, c_load, c_gone, c_held, c_strong, q13.2) : Int32 × AR × AR × Int32 × Int32 × Int32 × Int32 × AR)) (fun z => z.1) (fun z => (zwX cI cC f z.2.1 z.2.2.1 c_byLeaps z.2.2.2.1 z.2.2.2.2.1 z.2.2.2.2.2.1 z.2.2.2.2.2.2.1 c_done c_rn c_rt c_letters c_size c_rp c_seen z.2.2.2.2.2.2.2 c_inRow c_isPic)) hx hb hr hlocks rfl hS h rfl hP dX3_byNow_16
theorem dX3_row_0 : decode cX3_row 0 = .ok (.iload_n 1, 1) := by decide +kernel
theorem dX3_row_1 : decode cX3_row 1 = .ok (.iconst 0, 1) := by decide +kernel
theorem dX3_row_2 : decode cX3_row 2 = .ok (.bipush 12, 2) := by decide +kernel
theorem dX3_row_4 : decode cX3_row 4 = .ok (.invokestatic 45, 3) := by decide +kernel
theorem dX3_row_7 : decode cX3_row 7 = .ok (.istore_n 2, 1) := by decide +kernel
theorem dX3_row_8 : decode cX3_row 8 = .ok (.iload_n 2, 1) := by decide +kernel
theorem dX3_row_9 : decode cX3_row 9 = .ok (.ifCond .ne 18, 3) := by decide +kernel
theorem dX3_row_12 : decode cX3_row 12 = .ok (.aload_n 0, 1) := by decide +kernel
theorem dX3_row_13 : decode cX3_row 13 = .ok (.getfield 136, 3) := by decide +kernel
theorem dX3_row_16 : decode cX3_row 16 = .ok (.aload_n 0, 1) := by decide +kernel
theorem dX3_row_17 : decode cX3_row 17 = .ok (.getfield 38, 3) := by decide +kernel
theorem dX3_row_20 : decode cX3_row 20 = .ok (.arraylength, 1) := by decide +kernel
theorem dX3_row_21 : decode cX3_row 21 = .ok (.if_icmp .lt 6, 3) := by decide +kernel
theorem dX3_row_24 : decode cX3_row 24 = .ok (.bipush (-6), 2) := by decide +kernel
theorem dX3_row_26 : decode cX3_row 26 = .ok (.istore_n 2, 1) := by decide +kernel
theorem dX3_row_27 : decode cX3_row 27 = .ok (.iload_n 2, 1) := by decide +kernel
theorem dX3_row_28 : decode cX3_row 28 = .ok (.ifCond .eq 9, 3) := by decide +kernel
theorem dX3_row_31 : decode cX3_row 31 = .ok (.aload_n 0, 1) := by decide +kernel
theorem dX3_row_32 : decode cX3_row 32 = .ok (.iload_n 2, 1) := by decide +kernel
theorem dX3_row_33 : decode cX3_row 33 = .ok (.invokevirtual 53, 3) := by decide +kernel
theorem dX3_row_36 : decode cX3_row 36 = .ok (.ireturn, 1) := by decide +kernel
theorem dX3_row_37 : decode cX3_row 37 = .ok (.aload_n 0, 1) := by decide +kernel
theorem dX3_row_38 : decode cX3_row 38 = .ok (.getfield 38, 3) := by decide +kernel
theorem dX3_row_41 : decode cX3_row 41 = .ok (.aload_n 0, 1) := by decide +kernel
theorem dX3_row_42 : decode cX3_row 42 = .ok (.getfield 136, 3) := by decide +kernel
theorem dX3_row_45 : decode cX3_row 45 = .ok (.iload_n 1, 1) := by decide +kernel
theorem dX3_row_46 : decode cX3_row 46 = .ok (.iastore, 1) := by decide +kernel
theorem dX3_row_47 : decode cX3_row 47 = .ok (.aload_n 0, 1) := by decide +kernel
theorem dX3_row_48 : decode cX3_row 48 = .ok (.dup, 1) := by decide +kernel
theorem dX3_row_49 : decode cX3_row 49 = .ok (.getfield 136, 3) := by decide +kernel
theorem dX3_row_52 : decode cX3_row 52 = .ok (.iconst 1, 1) := by decide +kernel
theorem dX3_row_53 : decode cX3_row 53 = .ok (.iadd, 1) := by decide +kernel
theorem dX3_row_54 : decode cX3_row 54 = .ok (.putfield 136, 3) := by decide +kernel
theorem dX3_row_57 : decode cX3_row 57 = .ok (.aload_n 0, 1) := by decide +kernel
theorem dX3_row_58 : decode cX3_row 58 = .ok (.getfield 136, 3) := by decide +kernel
theorem dX3_row_61 : decode cX3_row 61 = .ok (.ireturn, 1) := by decide +kernel
set_option maxRecDepth 20000 in
theorem ggX3_row_X3_outOf : GoodIn wsX3_row wsX3_outOf := goodIn_r _ [6] (by decide +kernel) (by decide +kernel)
set_option maxRecDepth 20000 in
theorem gX3_row_X3_outOf : GoodIn wsX3_row (va_wsS RX3 45 yX3_outOf wsX3_outOf) := goodIn_app (goodIn_of _ (by decide +kernel)) ggX3_row_X3_outOf
set_option maxRecDepth 20000 in
theorem ggX3_row_X3_refuse : GoodIn wsX3_row wsX3_refuse := goodIn_r _ [10, 11, 12, 13, 14, 15, 16, 17, 18, 19, 20] (by decide +kernel) (by decide +kernel)
set_option maxRecDepth 20000 in
theorem gX3_row_X3_refuse : GoodIn wsX3_row (wsV RX3 53 RX3 yX3_refuse wsX3_refuse) := goodIn_app (goodIn_of _ (by decide +kernel)) ggX3_row_X3_refuse
set_option maxHeartbeats 4000000 in
set_option maxRecDepth 100000 in
theorem mX3_row (l : Launch) (dC : Nat → ClassId) (dI : Nat → Nat → Nat) (cI cC : ClassId) (sk : (Nat → Nat) × (Nat → Nat)) (f : Nat → Nat) (sz : Nat) (p1 : Int32) (c_lanes : AR) (c_spots : AR) (c_byLeaps : AR) (c_load : Int32) (c_gone : Int32) (c_held : Int32) (c_strong : Int32) (c_done : Int32) (c_rn : RT) (c_rt : RT) (c_letters : AR) (c_size : Int32) (c_rp : RT) (c_seen : AR) (c_refs : AR) (c_inRow : Int32) (c_isPic : Int32) (z : Int32 × AR × AR × Int32) (h : fX3_row p1 c_seen c_refs c_inRow = some z) : cRW l yX3_row wsX3_row (RMk 1 22) sk (dC, dI) (tyz cI cC) sz (zwX cI cC f c_lanes c_spots c_byLeaps c_load c_gone c_held c_strong c_done c_rn c_rt c_letters c_size c_rp c_seen c_refs c_inRow c_isPic) (zwX cI cC f c_lanes c_spots c_byLeaps c_load c_gone c_held c_strong c_done c_rn c_rt c_letters c_size c_rp z.2.1 z.2.2.1 z.2.2.2 c_isPic) [.ref (f 0), .int p1] z.1 := by
  refine ofRW (cc := cX3_row) (maxL := 3) (ret := (some .int)) (own := RX3) (plainFor_of_name (by decide)) rfl rfl (Nat.le_of_ble_eq_true rfl) ?_
  intro p e s m args below meth c A hA hx hb hml hr hts hown hlocks hE hK hP hD hS ls hl
  generalize hQ : qRW _ _ _ _ _ _ _ = Q
  have hl : lv_has ls 3 [(0, .ref (f 0)), (1, .int p1)] := hl
  have hiX3 : ∀ w ∈ wsX30, w ∈ wsX3_row := fun w h => List.mem_cons_of_mem _ (List.mem_append_right _ h)
  have hw1 := hts (Cond.fieldLink RX3 136 "FloeToFloe" "inRow" "I") (List.mem_of_getElem? (i := 1) rfl)
  have hw2 := hts (Cond.fieldLink RX3 38 "FloeToFloe" "seen" "[I") (List.mem_of_getElem? (i := 2) rfl)
  rw [fX3_row] at h
  refine lv_iload_n hx hb dX3_row_0 rfl (lv_at hl 1 rfl) ?_
  refine lv_iconst (v := (0 : Int32)) hx hb dX3_row_1 (by decide) ?_
  refine lv_bipush (v := (12 : Int32)) hx hb dX3_row_2 (by decide) ?_
  obtain ⟨q4, e4, h⟩ := bd_some h
  refine g_roS (wc := ([] : va_W)) ⟨hx, hb, hml, hown, hts⟩ hE hK hP hS [] rfl (mX3_outOf l dC dI cI cC sk  p1 (0 : Int32) (12 : Int32) q4 e4) (va_cwS 3 hts gX3_row_X3_outOf rfl rfl rfl (by decide +kernel) ⟨Nat.le_of_ble_eq_true rfl, Nat.le_of_ble_eq_true rfl⟩) (As := [.int p1, .int (0 : Int32), .int (12 : Int32)]) (rest := []) rfl hl.1 rfl (Nat.le_of_ble_eq_true rfl) dX3_row_4 ⟨Nat.zero_le _, Nat.zero_le _⟩ (fun H locs hP hS => ?_)
  refine lv_istore_n (lv' := [(2, .int q4), (0, .ref (f 0)), (1, .int p1)]) hx hb dX3_row_7 rfl hl (by decide) rfl (fun ls hl => ?_)
  refine lv_iload_n hx hb dX3_row_8 rfl (lv_at hl 0 rfl) ?_
  refine jnW (fun (v27 : Int32) => ∀ (H : Heap) (locs : List Loc) (ls : Array Slot), va_P (dC, dI) vwCl (zwX cI cC f c_lanes c_spots c_byLeaps c_load c_gone c_held c_strong c_done c_rn c_rt c_letters c_size c_rp c_seen c_refs c_inRow c_isPic) H → va_D A (zwX cI cC f c_lanes c_spots c_byLeaps c_load c_gone c_held c_strong c_done c_rn c_rt c_letters c_size c_rp c_seen c_refs c_inRow c_isPic) → va_S A s.heap H locs → lv_has ls 3 [(0, .ref (f 0)), (1, .int p1), (2, .int v27)] → W p l e (RMk 1 22) s m args below meth c H locs 0 0 Q (F0 m 27 ls [])) h (fun v27 h H locs ls hP hD hS hl => ?_) (fun J27 j27 h => ?_)
  · refine lv_iload_n hx hb dX3_row_27 rfl (lv_at hl 2 rfl) ?_
    refine lv_if_eq (tgt := 37) hx hb dX3_row_28 (by decide) (fun c28 => ?_) (fun c28 => ?_)
    · have h := itT c28 h
      refine lv_aload_n hx hb dX3_row_37 rfl (lv_at hl 0 rfl) ?_
      refine va_get (D := (dC, dI)) (ci := 3) (v := .ref (f 25)) (C := RX3) (T := TX3) (N := 9) hx hb hts hiX3 hown hK hP 0 rfl rfl 5 (by decide) hw2 (fun _ h9 => h9) rfl dX3_row_38 ?_
      refine lv_aload_n hx hb dX3_row_41 rfl (lv_at hl 0 rfl) ?_
      refine va_get (D := (dC, dI)) (ci := 3) (v := .int c_inRow) (C := RX3) (T := TX3) (N := 9) hx hb hts hiX3 hown hK hP 0 rfl rfl 7 (by decide) hw1 (fun _ h9 => h9) rfl dX3_row_42 ?_
      refine lv_iload_n hx hb dX3_row_45 rfl (lv_at hl 1 rfl) ?_
      obtain ⟨hin, h⟩ := ck_some h
      refine va_iast hx hb hK hP hD hS 25 0 rfl rfl hin dX3_row_46 (fun H locs hP hD hS => ?_)
      have hP : va_P (dC, dI) vwCl (zwX cI cC f c_lanes c_spots c_byLeaps c_load c_gone c_held c_strong c_done c_rn c_rt c_letters c_size c_rp (upd c_seen (c_inRow).toNatClampNeg p1) c_refs c_inRow c_isPic) H := hP
      have hD : va_D A (zwX cI cC f c_lanes c_spots c_byLeaps c_load c_gone c_held c_strong c_done c_rn c_rt c_letters c_size c_rp (upd c_seen (c_inRow).toNatClampNeg p1) c_refs c_inRow c_isPic) := hD
      refine lv_aload_n hx hb dX3_row_47 rfl (lv_at hl 0 rfl) ?_
      refine lv_dup hx hb dX3_row_48 rfl ?_
      refine va_get (D := (dC, dI)) (ci := 3) (v := .int c_inRow) (C := RX3) (T := TX3) (N := 9) hx hb hts hiX3 hown hK hP 0 rfl rfl 7 (by decide) hw1 (fun _ h9 => h9) rfl dX3_row_49 ?_
      refine lv_iconst (v := (1 : Int32)) hx hb dX3_row_52 (by decide) ?_
      refine lv_iadd hx hb dX3_row_53 ?_
      refine va_put (D := (dC, dI)) (ci := 3) (v := .int (c_inRow + (1 : Int32))) (ty := .int) (C := RX3) (T := TX3) (N := 9) hx hb hts hiX3 tyX3 tyX3_ok nmX3 hown hK hP hD hS 0 rfl rfl 7 (by decide) hw1 (fun _ h9 => h9) rfl (by decide +kernel) rfl rfl (Nat.le_of_ble_eq_true rfl) dX3_row_54 (fun H locs hP hD hS => ?_)
      have hP : va_P (dC, dI) vwCl (zwX cI cC f c_lanes c_spots c_byLeaps c_load c_gone c_held c_strong c_done c_rn c_rt c_letters c_size c_rp (upd c_seen (c_inRow).toNatClampNeg p1) c_refs (c_inRow + (1 : Int32)) c_isPic) H := hP
      have hD : va_D A (zwX cI cC f c_lanes c_spots c_byLeaps c_load c_gone c_held c_strong c_done c_rn c_rt c_letters c_size c_rp (upd c_seen (c_inRow).toNatClampNeg p1) c_refs (c_inRow + (1 : Int32)) c_isPic) := hD
      refine lv_aload_n hx hb dX3_row_57 rfl (lv_at hl 0 rfl) ?_
      refine va_get (D := (dC, dI)) (ci := 3) (v := .int (c_inRow + (1 : Int32))) (C := RX3) (T := TX3) (N := 9) hx hb hts hiX3 hown hK hP 0 rfl rfl 7 (by decide) hw1 (fun _ h9 => h9) rfl dX3_row_58 ?_
      subst hQ
      exact retRW (zz := (((c_inRow + (1 : Int32)), (upd c_seen (c_inRow).toNatClampNeg p1), c_refs, (c_inRow + (1 : Int32))) : Int32 × AR × AR × Int32)) (fun z => z.1) (fun z => (zwX cI cC f c_lanes c_spots c_byLeaps c_load c_gone c_held c_strong c_done c_rn c_rt c_letters c_size c_rp z.2.1 z.2.2.1 z.2.2.2 c_isPic)) hx hb hr hlocks rfl hS h rfl hP dX3_row_61
    have h := itF c28 h
    refine lv_aload_n hx hb dX3_row_31 rfl (lv_at hl 0 rfl) ?_
    refine lv_iload_n hx hb dX3_row_32 rfl (lv_at hl 2 rfl) ?_
    obtain ⟨q33, e33, h⟩ := bd_some h
    refine g_rwV (wc := (zwX cI cC f c_lanes c_spots c_byLeaps c_load c_gone c_held c_strong c_done c_rn c_rt c_letters c_size c_rp c_seen c_refs c_inRow c_isPic)) (wc' := (zwX cI cC f c_lanes c_spots c_byLeaps c_load c_gone c_held c_strong c_done c_rn c_rt c_letters c_size c_rp c_seen q33.2 c_inRow c_isPic)) ⟨hx, hb, hml, hown, hts⟩ hE hK hA hP hD hS [0, 1, 2, 3, 4, 5, 6, 7, 8, 9, 10, 11, 12, 13, 14, 15, 16, 17, 18, 19, 20, 21, 22, 23, 24, 25, 26] rfl rfl rfl (mX3_refuse l dC dI cI cC sk f H.size v27 c_lanes c_spots c_byLeaps c_load c_gone c_held c_strong c_done c_rn c_rt c_letters c_size c_rp c_seen c_refs c_inRow c_isPic q33 e33) (cwV 1 hts gX3_row_X3_refuse rfl rfl rfl (by decide +kernel) ⟨Nat.le_of_ble_eq_true rfl, Nat.le_of_ble_eq_true rfl⟩) (va_recv hK hP (ci := 3) (q0 := 0) rfl rfl) (As := [.int v27]) (rest := []) rfl hl.1 rfl (Nat.le_of_ble_eq_true rfl) dX3_row_33 ⟨Nat.zero_le _, Nat.zero_le _⟩ (fun H locs hP hD hS => ?_)
    have hP : va_P (dC, dI) vwCl (zwX cI cC f c_lanes c_spots c_byLeaps c_load c_gone c_held c_strong c_done c_rn c_rt c_letters c_size c_rp c_seen q33.2 c_inRow c_isPic) H := hP
    have hD : va_D A (zwX cI cC f c_lanes c_spots c_byLeaps c_load c_gone c_held c_strong c_done c_rn c_rt c_letters c_size c_rp c_seen q33.2 c_inRow c_isPic) := hD
    subst hQ
    exact retRW (zz := ((q33.1, c_seen, q33.2, c_inRow) : Int32 × AR × AR × Int32)) (fun z => z.1) (fun z => (zwX cI cC f c_lanes c_spots c_byLeaps c_load c_gone c_held c_strong c_done c_rn c_rt c_letters c_size c_rp z.2.1 z.2.2.1 z.2.2.2 c_isPic)) hx hb hr hlocks rfl hS h rfl hP dX3_row_36
  refine lv_if_ne (tgt := 27) hx hb dX3_row_9 (by decide) (fun c9 => ?_) (fun c9 => ?_)
  · have h := itF c9 h
    exact j27 _ h _ _ _ hP hD hS (lv_sub hl [1, 2, 0] rfl)
  have h := itT c9 h
  refine lv_aload_n hx hb dX3_row_12 rfl (lv_at hl 1 rfl) ?_
  refine va_get (D := (dC, dI)) (ci := 3) (v := .int c_inRow) (C := RX3) (T := TX3) (N := 9) hx hb hts hiX3 hown hK hP 0 rfl rfl 7 (by decide) hw1 (fun _ h9 => h9) rfl dX3_row_13 ?_
  refine lv_aload_n hx hb dX3_row_16 rfl (lv_at hl 1 rfl) ?_
  refine va_get (D := (dC, dI)) (ci := 3) (v := .ref (f 25)) (C := RX3) (T := TX3) (N := 9) hx hb hts hiX3 hown hK hP 0 rfl rfl 5 (by decide) hw2 (fun _ h9 => h9) rfl dX3_row_17 ?_
  refine va_alen hx hb hK hP 25 0 rfl rfl (v := (12 : Int32)) rfl dX3_row_20 ?_
  refine lv_icmp_lt (tgt := 27) hx hb dX3_row_21 (by decide) (fun c21 => ?_) (fun c21 => ?_)
  · have h := itT c21 h
    exact j27 _ h _ _ _ hP hD hS (lv_sub hl [1, 2, 0] rfl)
  have h := itF c21 h
  refine lv_bipush (v := (-6 : Int32)) hx hb dX3_row_24 (by decide) ?_
  refine lv_istore_n (lv' := [(2, .int (-6 : Int32)), (0, .ref (f 0)), (1, .int p1)]) hx hb dX3_row_26 rfl hl (by decide) rfl (fun ls hl => ?_)
  exact j27 _ h _ _ _ hP hD hS (lv_sub hl [1, 2, 0] rfl)
theorem dX3_fitsRow_0 : decode cX3_fitsRow 0 = .ok (.iload_n 1, 1) := by decide +kernel
theorem dX3_fitsRow_1 : decode cX3_fitsRow 1 = .ok (.ifCond .ne 7, 3) := by decide +kernel
theorem dX3_fitsRow_4 : decode cX3_fitsRow 4 = .ok (.iconst 0, 1) := by decide +kernel
theorem dX3_fitsRow_5 : decode cX3_fitsRow 5 = .ok (.goto 13, 3) := by decide +kernel
theorem dX3_fitsRow_8 : decode cX3_fitsRow 8 = .ok (.iload_n 1, 1) := by decide +kernel
theorem dX3_fitsRow_9 : decode cX3_fitsRow 9 = .ok (.iconst 1, 1) := by decide +kernel
theorem dX3_fitsRow_10 : decode cX3_fitsRow 10 = .ok (.if_icmp .ne 7, 3) := by decide +kernel
theorem dX3_fitsRow_13 : decode cX3_fitsRow 13 = .ok (.iconst 3, 1) := by decide +kernel
theorem dX3_fitsRow_14 : decode cX3_fitsRow 14 = .ok (.goto 4, 3) := by decide +kernel
theorem dX3_fitsRow_17 : decode cX3_fitsRow 17 = .ok (.iconst 4, 1) := by decide +kernel
theorem dX3_fitsRow_18 : decode cX3_fitsRow 18 = .ok (.istore_n 3, 1) := by decide +kernel
theorem dX3_fitsRow_19 : decode cX3_fitsRow 19 = .ok (.iconst 0, 1) := by decide +kernel
theorem dX3_fitsRow_20 : decode cX3_fitsRow 20 = .ok (.istore 4, 2) := by decide +kernel
theorem dX3_fitsRow_22 : decode cX3_fitsRow 22 = .ok (.iload 4, 2) := by decide +kernel
theorem dX3_fitsRow_24 : decode cX3_fitsRow 24 = .ok (.aload_n 0, 1) := by decide +kernel
theorem dX3_fitsRow_25 : decode cX3_fitsRow 25 = .ok (.getfield 136, 3) := by decide +kernel
theorem dX3_fitsRow_28 : decode cX3_fitsRow 28 = .ok (.if_icmp .ge 44, 3) := by decide +kernel
theorem dX3_fitsRow_31 : decode cX3_fitsRow 31 = .ok (.iload 4, 2) := by decide +kernel
theorem dX3_fitsRow_33 : decode cX3_fitsRow 33 = .ok (.aload_n 0, 1) := by decide +kernel
theorem dX3_fitsRow_34 : decode cX3_fitsRow 34 = .ok (.getfield 38, 3) := by decide +kernel
theorem dX3_fitsRow_37 : decode cX3_fitsRow 37 = .ok (.arraylength, 1) := by decide +kernel
theorem dX3_fitsRow_38 : decode cX3_fitsRow 38 = .ok (.if_icmp .ge 34, 3) := by decide +kernel
theorem dX3_fitsRow_41 : decode cX3_fitsRow 41 = .ok (.aload_n 0, 1) := by decide +kernel
theorem dX3_fitsRow_42 : decode cX3_fitsRow 42 = .ok (.getfield 38, 3) := by decide +kernel
theorem dX3_fitsRow_45 : decode cX3_fitsRow 45 = .ok (.iload 4, 2) := by decide +kernel
theorem dX3_fitsRow_47 : decode cX3_fitsRow 47 = .ok (.iaload, 1) := by decide +kernel
theorem dX3_fitsRow_48 : decode cX3_fitsRow 48 = .ok (.iload_n 3, 1) := by decide +kernel
theorem dX3_fitsRow_49 : decode cX3_fitsRow 49 = .ok (.aload_n 0, 1) := by decide +kernel
theorem dX3_fitsRow_50 : decode cX3_fitsRow 50 = .ok (.getfield 38, 3) := by decide +kernel
theorem dX3_fitsRow_53 : decode cX3_fitsRow 53 = .ok (.iconst 0, 1) := by decide +kernel
theorem dX3_fitsRow_54 : decode cX3_fitsRow 54 = .ok (.iaload, 1) := by decide +kernel
theorem dX3_fitsRow_55 : decode cX3_fitsRow 55 = .ok (.iload_n 2, 1) := by decide +kernel
theorem dX3_fitsRow_56 : decode cX3_fitsRow 56 = .ok (.iload 4, 2) := by decide +kernel
theorem dX3_fitsRow_58 : decode cX3_fitsRow 58 = .ok (.invokestatic 169, 3) := by decide +kernel
theorem dX3_fitsRow_61 : decode cX3_fitsRow 61 = .ok (.if_icmp .eq 5, 3) := by decide +kernel
theorem dX3_fitsRow_64 : decode cX3_fitsRow 64 = .ok (.iconst 0, 1) := by decide +kernel
theorem dX3_fitsRow_65 : decode cX3_fitsRow 65 = .ok (.ireturn, 1) := by decide +kernel
theorem dX3_fitsRow_66 : decode cX3_fitsRow 66 = .ok (.iinc 4 1, 3) := by decide +kernel
theorem dX3_fitsRow_69 : decode cX3_fitsRow 69 = .ok (.goto (-47), 3) := by decide +kernel
theorem dX3_fitsRow_72 : decode cX3_fitsRow 72 = .ok (.aload_n 0, 1) := by decide +kernel
theorem dX3_fitsRow_73 : decode cX3_fitsRow 73 = .ok (.getfield 136, 3) := by decide +kernel
theorem dX3_fitsRow_76 : decode cX3_fitsRow 76 = .ok (.ifCond .le 19, 3) := by decide +kernel
theorem dX3_fitsRow_79 : decode cX3_fitsRow 79 = .ok (.aload_n 0, 1) := by decide +kernel
theorem dX3_fitsRow_80 : decode cX3_fitsRow 80 = .ok (.getfield 38, 3) := by decide +kernel
theorem dX3_fitsRow_83 : decode cX3_fitsRow 83 = .ok (.iconst 0, 1) := by decide +kernel
theorem dX3_fitsRow_84 : decode cX3_fitsRow 84 = .ok (.iaload, 1) := by decide +kernel
theorem dX3_fitsRow_85 : decode cX3_fitsRow 85 = .ok (.invokestatic 114, 3) := by decide +kernel
theorem dX3_fitsRow_88 : decode cX3_fitsRow 88 = .ok (.ifCond .eq 7, 3) := by decide +kernel
theorem dX3_fitsRow_91 : decode cX3_fitsRow 91 = .ok (.iconst 1, 1) := by decide +kernel
theorem dX3_fitsRow_92 : decode cX3_fitsRow 92 = .ok (.goto 4, 3) := by decide +kernel
theorem dX3_fitsRow_95 : decode cX3_fitsRow 95 = .ok (.iconst 0, 1) := by decide +kernel
theorem dX3_fitsRow_96 : decode cX3_fitsRow 96 = .ok (.ireturn, 1) := by decide +kernel
set_option maxRecDepth 20000 in
theorem ggX3_fitsRow_X0_spotAt : GoodIn wsX3_fitsRow wsX0_spotAt := goodIn_r _ [6, 7, 8, 9, 10] (by decide +kernel) (by decide +kernel)
set_option maxRecDepth 20000 in
theorem gX3_fitsRow_X0_spotAt : GoodIn wsX3_fitsRow (va_wsS RX3 169 yX0_spotAt wsX0_spotAt) := goodIn_app (goodIn_of _ (by decide +kernel)) ggX3_fitsRow_X0_spotAt
set_option maxRecDepth 20000 in
theorem ggX3_fitsRow_X3_isCell : GoodIn wsX3_fitsRow wsX3_isCell := goodIn_r _ [14] (by decide +kernel) (by decide +kernel)
set_option maxRecDepth 20000 in
theorem gX3_fitsRow_X3_isCell : GoodIn wsX3_fitsRow (va_wsS RX3 114 yX3_isCell wsX3_isCell) := goodIn_app (goodIn_of _ (by decide +kernel)) ggX3_fitsRow_X3_isCell
set_option maxHeartbeats 4000000 in
set_option maxRecDepth 100000 in
theorem mX3_fitsRow (l : Launch) (dC : Nat → ClassId) (dI : Nat → Nat → Nat) (cI cC : ClassId) (sk : (Nat → Nat) × (Nat → Nat)) (f : Nat → Nat) (p1 : Int32) (p2 : Int32) (c_lanes : AR) (c_spots : AR) (c_byLeaps : AR) (c_load : Int32) (c_gone : Int32) (c_held : Int32) (c_strong : Int32) (c_done : Int32) (c_rn : RT) (c_rt : RT) (c_letters : AR) (c_size : Int32) (c_rp : RT) (c_seen : AR) (c_refs : AR) (c_inRow : Int32) (c_isPic : Int32) (z : Int32) (h : fX3_fitsRow p1 p2 c_seen c_inRow = some z) : cRO l yX3_fitsRow wsX3_fitsRow (RMk 2 47) sk (dC, dI) (tyz cI cC) (zwX cI cC f c_lanes c_spots c_byLeaps c_load c_gone c_held c_strong c_done c_rn c_rt c_letters c_size c_rp c_seen c_refs c_inRow c_isPic) [.ref (f 0), .int p1, .int p2] z := by
  refine ofRO (cc := cX3_fitsRow) (maxL := 5) (ret := (some .boolean)) (own := RX3) (plainFor_of_name (by decide)) rfl rfl (Nat.le_of_ble_eq_true rfl) ?_
  intro p e s m args below meth c hx hb hml hr hts hown hlocks hE hK hP hS ls hl
  generalize hQ : qRO _ _ _ _ = Q
  have hl : lv_has ls 5 [(0, .ref (f 0)), (1, .int p1), (2, .int p2)] := hl
  have hiX3 : ∀ w ∈ wsX30, w ∈ wsX3_fitsRow := fun w h => List.mem_cons_of_mem _ (List.mem_append_right _ h)
  have hw1 := hts (Cond.fieldLink RX3 136 "FloeToFloe" "inRow" "I") (List.mem_of_getElem? (i := 1) rfl)
  have hw2 := hts (Cond.fieldLink RX3 38 "FloeToFloe" "seen" "[I") (List.mem_of_getElem? (i := 2) rfl)
  rw [fX3_fitsRow] at h
  refine lv_iload_n hx hb dX3_fitsRow_0 rfl (lv_at hl 1 rfl) ?_
  refine jnW (fun (v18 : Int32) => ∀ (H : Heap) (locs : List Loc) (ls : Array Slot), va_P (dC, dI) vwCl (zwX cI cC f c_lanes c_spots c_byLeaps c_load c_gone c_held c_strong c_done c_rn c_rt c_letters c_size c_rp c_seen c_refs c_inRow c_isPic) H → va_S noA s.heap H locs → lv_has ls 5 [(0, .ref (f 0)), (2, .int p2)] → W p l e (RMk 2 47) s m args below meth c H locs 0 0 Q (F0 m 18 ls [.int v18])) h (fun v18 h H locs ls hP hS hl => ?_) (fun J18 j18 h => ?_)
  · refine lv_istore_n (lv' := [(3, .int v18), (0, .ref (f 0)), (2, .int p2)]) hx hb dX3_fitsRow_18 rfl hl (by decide) rfl (fun ls hl => ?_)
    refine lv_iconst (v := (0 : Int32)) hx hb dX3_fitsRow_19 (by decide) ?_
    refine lv_istore (lv' := [(4, .int (0 : Int32)), (3, .int v18), (0, .ref (f 0)), (2, .int p2)]) hx hb dX3_fitsRow_20 hl (by decide) rfl (fun ls hl => ?_)
    have L22 : ∀ (K22 : Unit → Option (Int32)), (∀ (_ : Unit), K22 () = some z → ∀ (H : Heap) (locs : List Loc) (ls : Array Slot), va_P (dC, dI) vwCl (zwX cI cC f c_lanes c_spots c_byLeaps c_load c_gone c_held c_strong c_done c_rn c_rt c_letters c_size c_rp c_seen c_refs c_inRow c_isPic) H → va_S noA s.heap H locs → lv_has ls 5 [(0, .ref (f 0))] → W p l e (RMk 2 47) s m args below meth c H locs 0 0 Q (F0 m 72 ls [])) → ∀ (n : Nat) (x22_4 : Int32), fX3_fitsRow_L22 c_inRow c_seen p2 v18 K22 n x22_4 = some z → ∀ (H : Heap) (locs : List Loc) (ls : Array Slot), va_P (dC, dI) vwCl (zwX cI cC f c_lanes c_spots c_byLeaps c_load c_gone c_held c_strong c_done c_rn c_rt c_letters c_size c_rp c_seen c_refs c_inRow c_isPic) H → va_S noA s.heap H locs → lv_has ls 5 [(0, .ref (f 0)), (2, .int p2), (3, .int v18), (4, .int x22_4)] → W p l e (RMk 2 47) s m args below meth c H locs 0 0 Q (F0 m 22 ls []) := by
      intro K22 kx22 n
      induction n with
      | zero => intro x22_4 h; rw [fX3_fitsRow_L22] at h; cases h
      | succ n ih22 =>
        intro x22_4 h H locs ls hP hS hl
        rw [fX3_fitsRow_L22] at h
        refine lv_iload hx hb dX3_fitsRow_22 (lv_at hl 3 rfl) ?_
        refine lv_aload_n hx hb dX3_fitsRow_24 rfl (lv_at hl 0 rfl) ?_
        refine va_get (D := (dC, dI)) (ci := 3) (v := .int c_inRow) (C := RX3) (T := TX3) (N := 9) hx hb hts hiX3 hown hK hP 0 rfl rfl 7 (by decide) hw1 (fun _ h9 => h9) rfl dX3_fitsRow_25 ?_
        refine lv_icmp_ge (tgt := 72) hx hb dX3_fitsRow_28 (by decide) (fun c28 => ?_) (fun c28 => ?_)
        · have h := itT c28 h
          exact kx22 () h _ _ _ hP hS (lv_sub hl [0] rfl)
        have h := itF c28 h
        refine lv_iload hx hb dX3_fitsRow_31 (lv_at hl 3 rfl) ?_
        refine lv_aload_n hx hb dX3_fitsRow_33 rfl (lv_at hl 0 rfl) ?_
        refine va_get (D := (dC, dI)) (ci := 3) (v := .ref (f 25)) (C := RX3) (T := TX3) (N := 9) hx hb hts hiX3 hown hK hP 0 rfl rfl 5 (by decide) hw2 (fun _ h9 => h9) rfl dX3_fitsRow_34 ?_
        refine va_alen hx hb hK hP 25 0 rfl rfl (v := (12 : Int32)) rfl dX3_fitsRow_37 ?_
        refine lv_icmp_ge (tgt := 72) hx hb dX3_fitsRow_38 (by decide) (fun c38 => ?_) (fun c38 => ?_)
        · have h := itT c38 h
          exact kx22 () h _ _ _ hP hS (lv_sub hl [0] rfl)
        have h := itF c38 h
        refine lv_aload_n hx hb dX3_fitsRow_41 rfl (lv_at hl 0 rfl) ?_
        refine va_get (D := (dC, dI)) (ci := 3) (v := .ref (f 25)) (C := RX3) (T := TX3) (N := 9) hx hb hts hiX3 hown hK hP 0 rfl rfl 5 (by decide) hw2 (fun _ h9 => h9) rfl dX3_fitsRow_42 ?_
        refine lv_iload hx hb dX3_fitsRow_45 (lv_at hl 3 rfl) ?_
        obtain ⟨hin, h⟩ := ck_some h
        refine va_iald hx hb hK hP 25 0 rfl rfl hin dX3_fitsRow_47 ?_
        refine lv_iload_n hx hb dX3_fitsRow_48 rfl (lv_at hl 2 rfl) ?_
        refine lv_aload_n hx hb dX3_fitsRow_49 rfl (lv_at hl 0 rfl) ?_
        refine va_get (D := (dC, dI)) (ci := 3) (v := .ref (f 25)) (C := RX3) (T := TX3) (N := 9) hx hb hts hiX3 hown hK hP 0 rfl rfl 5 (by decide) hw2 (fun _ h9 => h9) rfl dX3_fitsRow_50 ?_
        refine lv_iconst (v := (0 : Int32)) hx hb dX3_fitsRow_53 (by decide) ?_
        obtain ⟨hin, h⟩ := ck_some h
        refine va_iald hx hb hK hP 25 0 rfl rfl hin dX3_fitsRow_54 ?_
        refine lv_iload_n hx hb dX3_fitsRow_55 rfl (lv_at hl 1 rfl) ?_
        refine lv_iload hx hb dX3_fitsRow_56 (lv_at hl 3 rfl) ?_
        obtain ⟨q58, e58, h⟩ := bd_some h
        refine g_roS (wc := ([] : va_W)) ⟨hx, hb, hml, hown, hts⟩ hE hK hP hS [] rfl (mX0_spotAt l dC dI cI cC sk  v18 (c_seen ((0 : Int32)).toNatClampNeg) p2 x22_4 q58 e58) (va_cwS 4 hts gX3_fitsRow_X0_spotAt rfl rfl rfl (by decide +kernel) ⟨Nat.le_of_ble_eq_true rfl, Nat.le_of_ble_eq_true rfl⟩) (As := [.int v18, .int (c_seen ((0 : Int32)).toNatClampNeg), .int p2, .int x22_4]) (rest := [.int (c_seen (x22_4).toNatClampNeg)]) rfl hl.1 rfl (Nat.le_of_ble_eq_true rfl) dX3_fitsRow_58 ⟨Nat.zero_le _, Nat.zero_le _⟩ (fun H locs hP hS => ?_)
        refine lv_icmp_eq (tgt := 66) hx hb dX3_fitsRow_61 (by decide) (fun c61 => ?_) (fun c61 => ?_)
        · have h := itT c61 h
          refine lv_iinc (v := (x22_4 + (1 : Int32))) (lv' := [(4, .int (x22_4 + (1 : Int32))), (0, .ref (f 0)), (2, .int p2), (3, .int v18)]) hx hb dX3_fitsRow_66 hl (k := 3) rfl rfl (by decide) rfl (fun ls hl => ?_)
          refine lv_goto (tgt := 22) hx hb dX3_fitsRow_69 (by decide) ?_
          exact ih22 _ h _ _ _ hP hS (lv_sub hl [1, 2, 3, 0] rfl)
        have h := itF c61 h
        refine lv_iconst (v := (0 : Int32)) hx hb dX3_fitsRow_64 (by decide) ?_
        subst hQ
        exact retRO hx hb hr hlocks rfl hS h dX3_fitsRow_65
    refine L22 _ (fun _ h H locs ls hP hS hl => ?_) _ _ h _ _ _ hP hS (lv_sub hl [2, 3, 1, 0] rfl)
    refine lv_aload_n hx hb dX3_fitsRow_72 rfl (lv_at hl 0 rfl) ?_
    refine va_get (D := (dC, dI)) (ci := 3) (v := .int c_inRow) (C := RX3) (T := TX3) (N := 9) hx hb hts hiX3 hown hK hP 0 rfl rfl 7 (by decide) hw1 (fun _ h9 => h9) rfl dX3_fitsRow_73 ?_
    refine lv_if_le (tgt := 95) hx hb dX3_fitsRow_76 (by decide) (fun c76 => ?_) (fun c76 => ?_)
    · have h := itT c76 h
      refine lv_iconst (v := (0 : Int32)) hx hb dX3_fitsRow_95 (by decide) ?_
      subst hQ
      exact retRO hx hb hr hlocks rfl hS h dX3_fitsRow_96
    have h := itF c76 h
    refine lv_aload_n hx hb dX3_fitsRow_79 rfl (lv_at hl 0 rfl) ?_
    refine va_get (D := (dC, dI)) (ci := 3) (v := .ref (f 25)) (C := RX3) (T := TX3) (N := 9) hx hb hts hiX3 hown hK hP 0 rfl rfl 5 (by decide) hw2 (fun _ h9 => h9) rfl dX3_fitsRow_80 ?_
    refine lv_iconst (v := (0 : Int32)) hx hb dX3_fitsRow_83 (by decide) ?_
    obtain ⟨hin, h⟩ := ck_some h
    refine va_iald hx hb hK hP 25 0 rfl rfl hin dX3_fitsRow_84 ?_
    obtain ⟨q85, e85, h⟩ := bd_some h
    refine g_roS (wc := ([] : va_W)) ⟨hx, hb, hml, hown, hts⟩ hE hK hP hS [] rfl (mX3_isCell l dC dI cI cC sk  (c_seen ((0 : Int32)).toNatClampNeg) q85 e85) (va_cwS 1 hts gX3_fitsRow_X3_isCell rfl rfl rfl (by decide +kernel) ⟨Nat.le_of_ble_eq_true rfl, Nat.le_of_ble_eq_true rfl⟩) (As := [.int (c_seen ((0 : Int32)).toNatClampNeg)]) (rest := []) rfl hl.1 rfl (Nat.le_of_ble_eq_true rfl) dX3_fitsRow_85 ⟨Nat.zero_le _, Nat.zero_le _⟩ (fun H locs hP hS => ?_)
    refine lv_if_eq (tgt := 95) hx hb dX3_fitsRow_88 (by decide) (fun c88 => ?_) (fun c88 => ?_)
    · have h := itT c88 h
      refine lv_iconst (v := (0 : Int32)) hx hb dX3_fitsRow_95 (by decide) ?_
      subst hQ
      exact retRO hx hb hr hlocks rfl hS h dX3_fitsRow_96
    have h := itF c88 h
    refine lv_iconst (v := (1 : Int32)) hx hb dX3_fitsRow_91 (by decide) ?_
    refine lv_goto (tgt := 96) hx hb dX3_fitsRow_92 (by decide) ?_
    subst hQ
    exact retRO hx hb hr hlocks rfl hS h dX3_fitsRow_96
  refine lv_if_ne (tgt := 8) hx hb dX3_fitsRow_1 (by decide) (fun c1 => ?_) (fun c1 => ?_)
  · have h := itF c1 h
    refine lv_iload_n hx hb dX3_fitsRow_8 rfl (lv_at hl 1 rfl) ?_
    refine lv_iconst (v := (1 : Int32)) hx hb dX3_fitsRow_9 (by decide) ?_
    refine lv_icmp_ne (tgt := 17) hx hb dX3_fitsRow_10 (by decide) (fun c10 => ?_) (fun c10 => ?_)
    · have h := itF c10 h
      refine lv_iconst (v := (4 : Int32)) hx hb dX3_fitsRow_17 (by decide) ?_
      exact j18 _ h _ _ _ hP hS (lv_sub hl [0, 2] rfl)
    have h := itT c10 h
    refine lv_iconst (v := (3 : Int32)) hx hb dX3_fitsRow_13 (by decide) ?_
    refine lv_goto (tgt := 18) hx hb dX3_fitsRow_14 (by decide) ?_
    exact j18 _ h _ _ _ hP hS (lv_sub hl [0, 2] rfl)
  have h := itT c1 h
  refine lv_iconst (v := (0 : Int32)) hx hb dX3_fitsRow_4 (by decide) ?_
  refine lv_goto (tgt := 18) hx hb dX3_fitsRow_5 (by decide) ?_
  exact j18 _ h _ _ _ hP hS (lv_sub hl [0, 2] rfl)
theorem dX3_fitting_0 : decode cX3_fitting 0 = .ok (.iload_n 1, 1) := by decide +kernel
theorem dX3_fitting_1 : decode cX3_fitting 1 = .ok (.ifCond .lt 8, 3) := by decide +kernel
theorem dX3_fitting_4 : decode cX3_fitting 4 = .ok (.iload_n 1, 1) := by decide +kernel
theorem dX3_fitting_5 : decode cX3_fitting 5 = .ok (.iconst 1, 1) := by decide +kernel
theorem dX3_fitting_6 : decode cX3_fitting 6 = .ok (.if_icmp .le 10, 3) := by decide +kernel
theorem dX3_fitting_9 : decode cX3_fitting 9 = .ok (.aload_n 0, 1) := by decide +kernel
theorem dX3_fitting_10 : decode cX3_fitting 10 = .ok (.bipush (-2), 2) := by decide +kernel
theorem dX3_fitting_12 : decode cX3_fitting 12 = .ok (.invokevirtual 53, 3) := by decide +kernel
theorem dX3_fitting_15 : decode cX3_fitting 15 = .ok (.ireturn, 1) := by decide +kernel
theorem dX3_fitting_16 : decode cX3_fitting 16 = .ok (.iconst 0, 1) := by decide +kernel
theorem dX3_fitting_17 : decode cX3_fitting 17 = .ok (.istore_n 2, 1) := by decide +kernel
theorem dX3_fitting_18 : decode cX3_fitting 18 = .ok (.bipush (-9), 2) := by decide +kernel
theorem dX3_fitting_20 : decode cX3_fitting 20 = .ok (.istore_n 3, 1) := by decide +kernel
theorem dX3_fitting_21 : decode cX3_fitting 21 = .ok (.iconst 0, 1) := by decide +kernel
theorem dX3_fitting_22 : decode cX3_fitting 22 = .ok (.istore 4, 2) := by decide +kernel
theorem dX3_fitting_24 : decode cX3_fitting 24 = .ok (.iload 4, 2) := by decide +kernel
theorem dX3_fitting_26 : decode cX3_fitting 26 = .ok (.iconst 2, 1) := by decide +kernel
theorem dX3_fitting_27 : decode cX3_fitting 27 = .ok (.if_icmp .gt 58, 3) := by decide +kernel
theorem dX3_fitting_30 : decode cX3_fitting 30 = .ok (.bipush (-2), 2) := by decide +kernel
theorem dX3_fitting_32 : decode cX3_fitting 32 = .ok (.istore 5, 2) := by decide +kernel
theorem dX3_fitting_34 : decode cX3_fitting 34 = .ok (.iload 5, 2) := by decide +kernel
theorem dX3_fitting_36 : decode cX3_fitting 36 = .ok (.iconst 2, 1) := by decide +kernel
theorem dX3_fitting_37 : decode cX3_fitting 37 = .ok (.if_icmp .gt 42, 3) := by decide +kernel
theorem dX3_fitting_40 : decode cX3_fitting 40 = .ok (.aload_n 0, 1) := by decide +kernel
theorem dX3_fitting_41 : decode cX3_fitting 41 = .ok (.iload 4, 2) := by decide +kernel
theorem dX3_fitting_43 : decode cX3_fitting 43 = .ok (.iload 5, 2) := by decide +kernel
theorem dX3_fitting_45 : decode cX3_fitting 45 = .ok (.invokevirtual 139, 3) := by decide +kernel
theorem dX3_fitting_48 : decode cX3_fitting 48 = .ok (.ifCond .eq 25, 3) := by decide +kernel
theorem dX3_fitting_51 : decode cX3_fitting 51 = .ok (.iload_n 2, 1) := by decide +kernel
theorem dX3_fitting_52 : decode cX3_fitting 52 = .ok (.ifCond .ne 16, 3) := by decide +kernel
theorem dX3_fitting_55 : decode cX3_fitting 55 = .ok (.bipush 10, 2) := by decide +kernel
theorem dX3_fitting_57 : decode cX3_fitting 57 = .ok (.iload 4, 2) := by decide +kernel
theorem dX3_fitting_59 : decode cX3_fitting 59 = .ok (.imul, 1) := by decide +kernel
theorem dX3_fitting_60 : decode cX3_fitting 60 = .ok (.iload 5, 2) := by decide +kernel
theorem dX3_fitting_62 : decode cX3_fitting 62 = .ok (.iadd, 1) := by decide +kernel
theorem dX3_fitting_63 : decode cX3_fitting 63 = .ok (.iconst 2, 1) := by decide +kernel
theorem dX3_fitting_64 : decode cX3_fitting 64 = .ok (.iadd, 1) := by decide +kernel
theorem dX3_fitting_65 : decode cX3_fitting 65 = .ok (.goto 4, 3) := by decide +kernel
theorem dX3_fitting_68 : decode cX3_fitting 68 = .ok (.iload_n 3, 1) := by decide +kernel
theorem dX3_fitting_69 : decode cX3_fitting 69 = .ok (.istore_n 3, 1) := by decide +kernel
theorem dX3_fitting_70 : decode cX3_fitting 70 = .ok (.iinc 2 1, 3) := by decide +kernel
theorem dX3_fitting_73 : decode cX3_fitting 73 = .ok (.iinc 5 1, 3) := by decide +kernel
theorem dX3_fitting_76 : decode cX3_fitting 76 = .ok (.goto (-42), 3) := by decide +kernel
theorem dX3_fitting_79 : decode cX3_fitting 79 = .ok (.iinc 4 1, 3) := by decide +kernel
theorem dX3_fitting_82 : decode cX3_fitting 82 = .ok (.goto (-58), 3) := by decide +kernel
theorem dX3_fitting_85 : decode cX3_fitting 85 = .ok (.iload_n 1, 1) := by decide +kernel
theorem dX3_fitting_86 : decode cX3_fitting 86 = .ok (.ifCond .ne 7, 3) := by decide +kernel
theorem dX3_fitting_89 : decode cX3_fitting 89 = .ok (.iload_n 2, 1) := by decide +kernel
theorem dX3_fitting_90 : decode cX3_fitting 90 = .ok (.goto 4, 3) := by decide +kernel
theorem dX3_fitting_93 : decode cX3_fitting 93 = .ok (.iload_n 3, 1) := by decide +kernel
theorem dX3_fitting_94 : decode cX3_fitting 94 = .ok (.ireturn, 1) := by decide +kernel
set_option maxRecDepth 20000 in
theorem ggX3_fitting_X3_refuse : GoodIn wsX3_fitting wsX3_refuse := goodIn_r _ [5, 6, 24, 25, 26, 27, 28, 29, 30, 31, 32] (by decide +kernel) (by decide +kernel)
set_option maxRecDepth 20000 in
theorem gX3_fitting_X3_refuse : GoodIn wsX3_fitting (wsV RX3 53 RX3 yX3_refuse wsX3_refuse) := goodIn_app (goodIn_of _ (by decide +kernel)) ggX3_fitting_X3_refuse
set_option maxRecDepth 20000 in
theorem ggX3_fitting_X3_fitsRow : GoodIn wsX3_fitting wsX3_fitsRow := goodIn_r _ [10, 11, 12, 13, 14, 15, 16, 17, 18, 19, 20, 21, 22, 4, 23, 24, 25, 26, 27, 28, 29, 30, 31, 32] (by decide +kernel) (by decide +kernel)
set_option maxRecDepth 20000 in
theorem gX3_fitting_X3_fitsRow : GoodIn wsX3_fitting (wsV RX3 139 RX3 yX3_fitsRow wsX3_fitsRow) := goodIn_app (goodIn_of _ (by decide +kernel)) ggX3_fitting_X3_fitsRow
set_option maxHeartbeats 4000000 in
set_option maxRecDepth 100000 in
theorem mX3_fitting (l : Launch) (dC : Nat → ClassId) (dI : Nat → Nat → Nat) (cI cC : ClassId) (sk : (Nat → Nat) × (Nat → Nat)) (f : Nat → Nat) (sz : Nat) (p1 : Int32) (c_lanes : AR) (c_spots : AR) (c_byLeaps : AR) (c_load : Int32) (c_gone : Int32) (c_held : Int32) (c_strong : Int32) (c_done : Int32) (c_rn : RT) (c_rt : RT) (c_letters : AR) (c_size : Int32) (c_rp : RT) (c_seen : AR) (c_refs : AR) (c_inRow : Int32) (c_isPic : Int32) (z : Int32 × AR) (h : fX3_fitting p1 c_seen c_refs c_inRow = some z) : cRW l yX3_fitting wsX3_fitting (RMk 3 71) sk (dC, dI) (tyz cI cC) sz (zwX cI cC f c_lanes c_spots c_byLeaps c_load c_gone c_held c_strong c_done c_rn c_rt c_letters c_size c_rp c_seen c_refs c_inRow c_isPic) (zwX cI cC f c_lanes c_spots c_byLeaps c_load c_gone c_held c_strong c_done c_rn c_rt c_letters c_size c_rp c_seen z.2 c_inRow c_isPic) [.ref (f 0), .int p1] z.1 := by
  refine ofRW (cc := cX3_fitting) (maxL := 6) (ret := (some .int)) (own := RX3) (plainFor_of_name (by decide)) rfl rfl (Nat.le_of_ble_eq_true rfl) ?_
  intro p e s m args below meth c A hA hx hb hml hr hts hown hlocks hE hK hP hD hS ls hl
  generalize hQ : qRW _ _ _ _ _ _ _ = Q
  have hl : lv_has ls 6 [(0, .ref (f 0)), (1, .int p1)] := hl
  rw [fX3_fitting] at h
  refine lv_iload_n hx hb dX3_fitting_0 rfl (lv_at hl 1 rfl) ?_
  refine jnW (fun (v9 : Unit) => ∀ (H : Heap) (locs : List Loc) (ls : Array Slot), va_P (dC, dI) vwCl (zwX cI cC f c_lanes c_spots c_byLeaps c_load c_gone c_held c_strong c_done c_rn c_rt c_letters c_size c_rp c_seen c_refs c_inRow c_isPic) H → va_D A (zwX cI cC f c_lanes c_spots c_byLeaps c_load c_gone c_held c_strong c_done c_rn c_rt c_letters c_size c_rp c_seen c_refs c_inRow c_isPic) → va_S A s.heap H locs → lv_has ls 6 [(0, .ref (f 0))] → W p l e (RMk 3 71) s m args below meth c H locs 0 0 Q (F0 m 9 ls [])) h (fun v9 h H locs ls hP hD hS hl => ?_) (fun J9 j9 h => ?_)
  · refine lv_aload_n hx hb dX3_fitting_9 rfl (lv_at hl 0 rfl) ?_
    refine lv_bipush (v := (-2 : Int32)) hx hb dX3_fitting_10 (by decide) ?_
    obtain ⟨q12, e12, h⟩ := bd_some h
    refine g_rwV (wc := (zwX cI cC f c_lanes c_spots c_byLeaps c_load c_gone c_held c_strong c_done c_rn c_rt c_letters c_size c_rp c_seen c_refs c_inRow c_isPic)) (wc' := (zwX cI cC f c_lanes c_spots c_byLeaps c_load c_gone c_held c_strong c_done c_rn c_rt c_letters c_size c_rp c_seen q12.2 c_inRow c_isPic)) ⟨hx, hb, hml, hown, hts⟩ hE hK hA hP hD hS [0, 1, 2, 3, 4, 5, 6, 7, 8, 9, 10, 11, 12, 13, 14, 15, 16, 17, 18, 19, 20, 21, 22, 23, 24, 25, 26] rfl rfl rfl (mX3_refuse l dC dI cI cC sk f H.size (-2 : Int32) c_lanes c_spots c_byLeaps c_load c_gone c_held c_strong c_done c_rn c_rt c_letters c_size c_rp c_seen c_refs c_inRow c_isPic q12 e12) (cwV 1 hts gX3_fitting_X3_refuse rfl rfl rfl (by decide +kernel) ⟨Nat.le_of_ble_eq_true rfl, Nat.le_of_ble_eq_true rfl⟩) (va_recv hK hP (ci := 3) (q0 := 0) rfl rfl) (As := [.int (-2 : Int32)]) (rest := []) rfl hl.1 rfl (Nat.le_of_ble_eq_true rfl) dX3_fitting_12 ⟨Nat.zero_le _, Nat.zero_le _⟩ (fun H locs hP hD hS => ?_)
    have hP : va_P (dC, dI) vwCl (zwX cI cC f c_lanes c_spots c_byLeaps c_load c_gone c_held c_strong c_done c_rn c_rt c_letters c_size c_rp c_seen q12.2 c_inRow c_isPic) H := hP
    have hD : va_D A (zwX cI cC f c_lanes c_spots c_byLeaps c_load c_gone c_held c_strong c_done c_rn c_rt c_letters c_size c_rp c_seen q12.2 c_inRow c_isPic) := hD
    subst hQ
    exact retRW (zz := ((q12.1, q12.2) : Int32 × AR)) (fun z => z.1) (fun z => (zwX cI cC f c_lanes c_spots c_byLeaps c_load c_gone c_held c_strong c_done c_rn c_rt c_letters c_size c_rp c_seen z.2 c_inRow c_isPic)) hx hb hr hlocks rfl hS h rfl hP dX3_fitting_15
  refine lv_if_lt (tgt := 9) hx hb dX3_fitting_1 (by decide) (fun c1 => ?_) (fun c1 => ?_)
  · have h := itT c1 h
    exact j9 _ h _ _ _ hP hD hS (lv_sub hl [0] rfl)
  have h := itF c1 h
  refine lv_iload_n hx hb dX3_fitting_4 rfl (lv_at hl 1 rfl) ?_
  refine lv_iconst (v := (1 : Int32)) hx hb dX3_fitting_5 (by decide) ?_
  refine lv_icmp_le (tgt := 16) hx hb dX3_fitting_6 (by decide) (fun c6 => ?_) (fun c6 => ?_)
  · have h := itT c6 h
    refine lv_iconst (v := (0 : Int32)) hx hb dX3_fitting_16 (by decide) ?_
    refine lv_istore_n (lv' := [(2, .int (0 : Int32)), (0, .ref (f 0)), (1, .int p1)]) hx hb dX3_fitting_17 rfl hl (by decide) rfl (fun ls hl => ?_)
    refine lv_bipush (v := (-9 : Int32)) hx hb dX3_fitting_18 (by decide) ?_
    refine lv_istore_n (lv' := [(3, .int (-9 : Int32)), (2, .int (0 : Int32)), (0, .ref (f 0)), (1, .int p1)]) hx hb dX3_fitting_20 rfl hl (by decide) rfl (fun ls hl => ?_)
    refine lv_iconst (v := (0 : Int32)) hx hb dX3_fitting_21 (by decide) ?_
    refine lv_istore (lv' := [(4, .int (0 : Int32)), (3, .int (-9 : Int32)), (2, .int (0 : Int32)), (0, .ref (f 0)), (1, .int p1)]) hx hb dX3_fitting_22 hl (by decide) rfl (fun ls hl => ?_)
    have L24 : ∀ (K24 : Int32 → Int32 → Option (Int32 × AR)), (∀ (k24_2 : Int32) (k24_3 : Int32), K24 k24_2 k24_3 = some z → ∀ (H : Heap) (locs : List Loc) (ls : Array Slot), va_P (dC, dI) vwCl (zwX cI cC f c_lanes c_spots c_byLeaps c_load c_gone c_held c_strong c_done c_rn c_rt c_letters c_size c_rp c_seen c_refs c_inRow c_isPic) H → va_D A (zwX cI cC f c_lanes c_spots c_byLeaps c_load c_gone c_held c_strong c_done c_rn c_rt c_letters c_size c_rp c_seen c_refs c_inRow c_isPic) → va_S A s.heap H locs → lv_has ls 6 [(1, .int p1), (2, .int k24_2), (3, .int k24_3)] → W p l e (RMk 3 71) s m args below meth c H locs 0 0 Q (F0 m 85 ls [])) → ∀ (n : Nat) (x24_2 : Int32) (x24_3 : Int32) (x24_4 : Int32), fX3_fitting_L24 c_inRow c_seen K24 n x24_2 x24_3 x24_4 = some z → ∀ (H : Heap) (locs : List Loc) (ls : Array Slot), va_P (dC, dI) vwCl (zwX cI cC f c_lanes c_spots c_byLeaps c_load c_gone c_held c_strong c_done c_rn c_rt c_letters c_size c_rp c_seen c_refs c_inRow c_isPic) H → va_D A (zwX cI cC f c_lanes c_spots c_byLeaps c_load c_gone c_held c_strong c_done c_rn c_rt c_letters c_size c_rp c_seen c_refs c_inRow c_isPic) → va_S A s.heap H locs → lv_has ls 6 [(0, .ref (f 0)), (1, .int p1), (2, .int x24_2), (3, .int x24_3), (4, .int x24_4)] → W p l e (RMk 3 71) s m args below meth c H locs 0 0 Q (F0 m 24 ls []) := by
      intro K24 kx24 n
      induction n with
      | zero => intro x24_2 x24_3 x24_4 h; rw [fX3_fitting_L24] at h; cases h
      | succ n ih24 =>
        intro x24_2 x24_3 x24_4 h H locs ls hP hD hS hl
        rw [fX3_fitting_L24] at h
        refine lv_iload hx hb dX3_fitting_24 (lv_at hl 4 rfl) ?_
        refine lv_iconst (v := (2 : Int32)) hx hb dX3_fitting_26 (by decide) ?_
        refine lv_icmp_gt (tgt := 85) hx hb dX3_fitting_27 (by decide) (fun c27 => ?_) (fun c27 => ?_)
        · have h := itT c27 h
          exact kx24 _ _ h _ _ _ hP hD hS (lv_sub hl [1, 2, 3] rfl)
        have h := itF c27 h
        refine lv_bipush (v := (-2 : Int32)) hx hb dX3_fitting_30 (by decide) ?_
        refine lv_istore (lv' := [(5, .int (-2 : Int32)), (0, .ref (f 0)), (1, .int p1), (2, .int x24_2), (3, .int x24_3), (4, .int x24_4)]) hx hb dX3_fitting_32 hl (by decide) rfl (fun ls hl => ?_)
        have L34 : ∀ (K34 : Int32 → Int32 → Option (Int32 × AR)), (∀ (k34_2 : Int32) (k34_3 : Int32), K34 k34_2 k34_3 = some z → ∀ (H : Heap) (locs : List Loc) (ls : Array Slot), va_P (dC, dI) vwCl (zwX cI cC f c_lanes c_spots c_byLeaps c_load c_gone c_held c_strong c_done c_rn c_rt c_letters c_size c_rp c_seen c_refs c_inRow c_isPic) H → va_D A (zwX cI cC f c_lanes c_spots c_byLeaps c_load c_gone c_held c_strong c_done c_rn c_rt c_letters c_size c_rp c_seen c_refs c_inRow c_isPic) → va_S A s.heap H locs → lv_has ls 6 [(0, .ref (f 0)), (1, .int p1), (2, .int k34_2), (3, .int k34_3), (4, .int x24_4)] → W p l e (RMk 3 71) s m args below meth c H locs 0 0 Q (F0 m 79 ls [])) → ∀ (n : Nat) (x34_2 : Int32) (x34_3 : Int32) (x34_5 : Int32), fX3_fitting_L34 c_inRow c_seen x24_4 K34 n x34_2 x34_3 x34_5 = some z → ∀ (H : Heap) (locs : List Loc) (ls : Array Slot), va_P (dC, dI) vwCl (zwX cI cC f c_lanes c_spots c_byLeaps c_load c_gone c_held c_strong c_done c_rn c_rt c_letters c_size c_rp c_seen c_refs c_inRow c_isPic) H → va_D A (zwX cI cC f c_lanes c_spots c_byLeaps c_load c_gone c_held c_strong c_done c_rn c_rt c_letters c_size c_rp c_seen c_refs c_inRow c_isPic) → va_S A s.heap H locs → lv_has ls 6 [(0, .ref (f 0)), (1, .int p1), (2, .int x34_2), (3, .int x34_3), (4, .int x24_4), (5, .int x34_5)] → W p l e (RMk 3 71) s m args below meth c H locs 0 0 Q (F0 m 34 ls []) := by
          intro K34 kx34 n
          induction n with
          | zero => intro x34_2 x34_3 x34_5 h; rw [fX3_fitting_L34] at h; cases h
          | succ n ih34 =>
            intro x34_2 x34_3 x34_5 h H locs ls hP hD hS hl
            rw [fX3_fitting_L34] at h
            refine lv_iload hx hb dX3_fitting_34 (lv_at hl 5 rfl) ?_
            refine lv_iconst (v := (2 : Int32)) hx hb dX3_fitting_36 (by decide) ?_
            refine lv_icmp_gt (tgt := 79) hx hb dX3_fitting_37 (by decide) (fun c37 => ?_) (fun c37 => ?_)
            · have h := itT c37 h
              exact kx34 _ _ h _ _ _ hP hD hS (lv_sub hl [0, 1, 2, 3, 4] rfl)
            have h := itF c37 h
            refine lv_aload_n hx hb dX3_fitting_40 rfl (lv_at hl 0 rfl) ?_
            refine lv_iload hx hb dX3_fitting_41 (lv_at hl 4 rfl) ?_
            refine lv_iload hx hb dX3_fitting_43 (lv_at hl 5 rfl) ?_
            obtain ⟨q45, e45, h⟩ := bd_some h
            refine g_roV (wc := (zwX cI cC f c_lanes c_spots c_byLeaps c_load c_gone c_held c_strong c_done c_rn c_rt c_letters c_size c_rp c_seen c_refs c_inRow c_isPic)) ⟨hx, hb, hml, hown, hts⟩ hE hK hP hS [0, 1, 2, 3, 4, 5, 6, 7, 8, 9, 10, 11, 12, 13, 14, 15, 16, 17, 18, 19, 20, 21, 22, 23, 24, 25, 26] rfl (mX3_fitsRow l dC dI cI cC sk f x24_4 x34_5 c_lanes c_spots c_byLeaps c_load c_gone c_held c_strong c_done c_rn c_rt c_letters c_size c_rp c_seen c_refs c_inRow c_isPic q45 e45) (cwV 2 hts gX3_fitting_X3_fitsRow rfl rfl rfl (by decide +kernel) ⟨Nat.le_of_ble_eq_true rfl, Nat.le_of_ble_eq_true rfl⟩) (va_recv hK hP (ci := 3) (q0 := 0) rfl rfl) (As := [.int x24_4, .int x34_5]) (rest := []) rfl hl.1 rfl (Nat.le_of_ble_eq_true rfl) dX3_fitting_45 ⟨Nat.zero_le _, Nat.zero_le _⟩ (fun H locs hP hS => ?_)
            refine lv_if_eq (tgt := 73) hx hb dX3_fitting_48 (by decide) (fun c48 => ?_) (fun c48 => ?_)
            · have h := itT c48 h
              refine lv_iinc (v := (x34_5 + (1 : Int32))) (lv' := [(5, .int (x34_5 + (1 : Int32))), (0, .ref (f 0)), (1, .int p1), (2, .int x34_2), (3, .int x34_3), (4, .int x24_4)]) hx hb dX3_fitting_73 hl (k := 5) rfl rfl (by decide) rfl (fun ls hl => ?_)
              refine lv_goto (tgt := 34) hx hb dX3_fitting_76 (by decide) ?_
              exact ih34 _ _ _ h _ _ _ hP hD hS (lv_sub hl [1, 2, 3, 4, 5, 0] rfl)
            have h := itF c48 h
            refine lv_iload_n hx hb dX3_fitting_51 rfl (lv_at hl 2 rfl) ?_
            refine lv_if_ne (tgt := 68) hx hb dX3_fitting_52 (by decide) (fun c52 => ?_) (fun c52 => ?_)
            · have h := itF c52 h
              refine lv_iload_n hx hb dX3_fitting_68 rfl (lv_at hl 3 rfl) ?_
              refine lv_istore_n (lv' := [(3, .int x34_3), (0, .ref (f 0)), (1, .int p1), (2, .int x34_2), (4, .int x24_4), (5, .int x34_5)]) hx hb dX3_fitting_69 rfl hl (by decide) rfl (fun ls hl => ?_)
              refine lv_iinc (v := (x34_2 + (1 : Int32))) (lv' := [(2, .int (x34_2 + (1 : Int32))), (3, .int x34_3), (0, .ref (f 0)), (1, .int p1), (4, .int x24_4), (5, .int x34_5)]) hx hb dX3_fitting_70 hl (k := 3) rfl rfl (by decide) rfl (fun ls hl => ?_)
              refine lv_iinc (v := (x34_5 + (1 : Int32))) (lv' := [(5, .int (x34_5 + (1 : Int32))), (2, .int (x34_2 + (1 : Int32))), (3, .int x34_3), (0, .ref (f 0)), (1, .int p1), (4, .int x24_4)]) hx hb dX3_fitting_73 hl (k := 5) rfl rfl (by decide) rfl (fun ls hl => ?_)
              refine lv_goto (tgt := 34) hx hb dX3_fitting_76 (by decide) ?_
              exact ih34 _ _ _ h _ _ _ hP hD hS (lv_sub hl [3, 4, 1, 2, 5, 0] rfl)
            have h := itT c52 h
            refine lv_bipush (v := (10 : Int32)) hx hb dX3_fitting_55 (by decide) ?_
            refine lv_iload hx hb dX3_fitting_57 (lv_at hl 4 rfl) ?_
            refine lv_imul hx hb dX3_fitting_59 ?_
            refine lv_iload hx hb dX3_fitting_60 (lv_at hl 5 rfl) ?_
            refine lv_iadd hx hb dX3_fitting_62 ?_
            refine lv_iconst (v := (2 : Int32)) hx hb dX3_fitting_63 (by decide) ?_
            refine lv_iadd hx hb dX3_fitting_64 ?_
            refine lv_goto (tgt := 69) hx hb dX3_fitting_65 (by decide) ?_
            refine lv_istore_n (lv' := [(3, .int ((((10 : Int32) * x24_4) + x34_5) + (2 : Int32))), (0, .ref (f 0)), (1, .int p1), (2, .int x34_2), (4, .int x24_4), (5, .int x34_5)]) hx hb dX3_fitting_69 rfl hl (by decide) rfl (fun ls hl => ?_)
            refine lv_iinc (v := (x34_2 + (1 : Int32))) (lv' := [(2, .int (x34_2 + (1 : Int32))), (3, .int ((((10 : Int32) * x24_4) + x34_5) + (2 : Int32))), (0, .ref (f 0)), (1, .int p1), (4, .int x24_4), (5, .int x34_5)]) hx hb dX3_fitting_70 hl (k := 3) rfl rfl (by decide) rfl (fun ls hl => ?_)
            refine lv_iinc (v := (x34_5 + (1 : Int32))) (lv' := [(5, .int (x34_5 + (1 : Int32))), (2, .int (x34_2 + (1 : Int32))), (3, .int ((((10 : Int32) * x24_4) + x34_5) + (2 : Int32))), (0, .ref (f 0)), (1, .int p1), (4, .int x24_4)]) hx hb dX3_fitting_73 hl (k := 5) rfl rfl (by decide) rfl (fun ls hl => ?_)
            refine lv_goto (tgt := 34) hx hb dX3_fitting_76 (by decide) ?_
            exact ih34 _ _ _ h _ _ _ hP hD hS (lv_sub hl [3, 4, 1, 2, 5, 0] rfl)
        refine L34 _ (fun k34_2 k34_3 h H locs ls hP hD hS hl => ?_) _ _ _ _ h _ _ _ hP hD hS (lv_sub hl [1, 2, 3, 4, 5, 0] rfl)
        refine lv_iinc (v := (x24_4 + (1 : Int32))) (lv' := [(4, .int (x24_4 + (1 : Int32))), (0, .ref (f 0)), (1, .int p1), (2, .int k34_2), (3, .int k34_3)]) hx hb dX3_fitting_79 hl (k := 4) rfl rfl (by decide) rfl (fun ls hl => ?_)
        refine lv_goto (tgt := 24) hx hb dX3_fitting_82 (by decide) ?_
        exact ih24 _ _ _ h _ _ _ hP hD hS (lv_sub hl [1, 2, 3, 4, 0] rfl)
    refine L24 _ (fun k24_2 k24_3 h H locs ls hP hD hS hl => ?_) _ _ _ _ h _ _ _ hP hD hS (lv_sub hl [3, 4, 2, 1, 0] rfl)
    refine lv_iload_n hx hb dX3_fitting_85 rfl (lv_at hl 0 rfl) ?_
    refine lv_if_ne (tgt := 93) hx hb dX3_fitting_86 (by decide) (fun c86 => ?_) (fun c86 => ?_)
    · have h := itF c86 h
      refine lv_iload_n hx hb dX3_fitting_93 rfl (lv_at hl 2 rfl) ?_
      subst hQ
      exact retRW (zz := ((k24_3, c_refs) : Int32 × AR)) (fun z => z.1) (fun z => (zwX cI cC f c_lanes c_spots c_byLeaps c_load c_gone c_held c_strong c_done c_rn c_rt c_letters c_size c_rp c_seen z.2 c_inRow c_isPic)) hx hb hr hlocks rfl hS h rfl hP dX3_fitting_94
    have h := itT c86 h
    refine lv_iload_n hx hb dX3_fitting_89 rfl (lv_at hl 1 rfl) ?_
    refine lv_goto (tgt := 94) hx hb dX3_fitting_90 (by decide) ?_
    subst hQ
    exact retRW (zz := ((k24_2, c_refs) : Int32 × AR)) (fun z => z.1) (fun z => (zwX cI cC f c_lanes c_spots c_byLeaps c_load c_gone c_held c_strong c_done c_rn c_rt c_letters c_size c_rp c_seen z.2 c_inRow c_isPic)) hx hb hr hlocks rfl hS h rfl hP dX3_fitting_94
  have h := itF c6 h
  exact j9 _ h _ _ _ hP hD hS (lv_sub hl [0] rfl)
