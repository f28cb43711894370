theorem dX3_river_0 : decode cX3_river 0 = .ok (.aload_n 0, 1) := by decide +kernel
theorem dX3_river_1 : decode cX3_river 1 = .ok (.getfield 26, 3) := by decide +kernel
theorem dX3_river_4 : decode cX3_river 4 = .ok (.aload_n 0, 1) := by decide +kernel
theorem dX3_river_5 : decode cX3_river 5 = .ok (.getfield 20, 3) := by decide +kernel
theorem dX3_river_8 : decode cX3_river 8 = .ok (.invokevirtual 61, 3) := by decide +kernel
theorem dX3_river_11 : decode cX3_river 11 = .ok (.aload_n 0, 1) := by decide +kernel
theorem dX3_river_12 : decode cX3_river 12 = .ok (.getfield 35, 3) := by decide +kernel
theorem dX3_river_15 : decode cX3_river 15 = .ok (.aload_n 0, 1) := by decide +kernel
theorem dX3_river_16 : decode cX3_river 16 = .ok (.getfield 26, 3) := by decide +kernel
theorem dX3_river_19 : decode cX3_river 19 = .ok (.invokevirtual 65, 3) := by decide +kernel
theorem dX3_river_22 : decode cX3_river 22 = .ok (.istore_n 1, 1) := by decide +kernel
theorem dX3_river_23 : decode cX3_river 23 = .ok (.iload_n 1, 1) := by decide +kernel
theorem dX3_river_24 : decode cX3_river 24 = .ok (.ifCond .le 14, 3) := by decide +kernel
theorem dX3_river_27 : decode cX3_river 27 = .ok (.aload_n 0, 1) := by decide +kernel
theorem dX3_river_28 : decode cX3_river 28 = .ok (.getfield 20, 3) := by decide +kernel
theorem dX3_river_31 : decode cX3_river 31 = .ok (.aload_n 0, 1) := by decide +kernel
theorem dX3_river_32 : decode cX3_river 32 = .ok (.getfield 26, 3) := by decide +kernel
theorem dX3_river_35 : decode cX3_river 35 = .ok (.invokevirtual 61, 3) := by decide +kernel
theorem dX3_river_38 : decode cX3_river 38 = .ok (.aload_n 0, 1) := by decide +kernel
theorem dX3_river_39 : decode cX3_river 39 = .ok (.getfield 35, 3) := by decide +kernel
theorem dX3_river_42 : decode cX3_river 42 = .ok (.iconst 0, 1) := by decide +kernel
theorem dX3_river_43 : decode cX3_river 43 = .ok (.putfield 50, 3) := by decide +kernel
theorem dX3_river_46 : decode cX3_river 46 = .ok (.iload_n 1, 1) := by decide +kernel
theorem dX3_river_47 : decode cX3_river 47 = .ok (.ireturn, 1) := by decide +kernel
set_option maxRecDepth 20000 in
theorem ggX3_river_X0_become : GoodIn wsX3_river wsX0_become := goodIn_r _ [8, 9, 10, 11, 12, 13, 14, 15, 16, 141, 142, 143, 144, 145, 146, 147, 148] (by decide +kernel) (by decide +kernel)
set_option maxRecDepth 20000 in
theorem gX3_river_X0_become : GoodIn wsX3_river (wsV RX3 61 RX0 yX0_become wsX0_become) := goodIn_app (goodIn_of _ (by decide +kernel)) ggX3_river_X0_become
set_option maxRecDepth 20000 in
theorem ggX3_river_X1_tellTo : GoodIn wsX3_river wsX1_tellTo := goodIn_r _ [21, 22, 23, 24, 25, 20, 26, 27, 28, 29, 30, 31, 32, 33, 34, 35, 36, 37, 38, 39, 40, 41, 42, 43, 44, 45, 46, 47, 48, 49, 50, 51, 52, 53, 54, 55, 56, 57, 58, 59, 60, 61, 62, 63, 64, 65, 66, 67, 68, 69, 70, 71, 72, 73, 74, 75, 76, 77, 78, 79, 80, 81, 82, 83, 84, 85, 86, 87, 88, 89, 90, 91, 92, 93, 94, 95, 96, 97, 98, 99, 100, 101, 7, 102, 15, 14, 103, 104, 105, 106, 10, 107, 108, 109, 110, 111, 112, 113, 114, 115, 116, 117, 118, 16, 119, 120, 121, 122, 123, 124, 125, 126, 9, 11, 12, 13, 127, 128, 129, 139, 140, 141, 142, 143, 144, 145, 146, 147, 148] (by decide +kernel) (by decide +kernel)
set_option maxRecDepth 20000 in
theorem gX3_river_X1_tellTo : GoodIn wsX3_river (wsV RX3 65 RX1 yX1_tellTo wsX1_tellTo) := goodIn_app (goodIn_of _ (by decide +kernel)) ggX3_river_X1_tellTo
set_option maxHeartbeats 4000000 in
set_option maxRecDepth 100000 in
theorem mX3_river (l : Launch) (dC : Nat → ClassId) (dI : Nat → Nat → Nat) (cI cC : ClassId) (sk : (Nat → Nat) × (Nat → Nat)) (f : Nat → Nat) (sz : Nat)  (c_lanes : AR) (c_spots : AR) (c_byLeaps : AR) (c_load : Int32) (c_gone : Int32) (c_held : Int32) (c_strong : Int32) (c_done : Int32) (c_rn : RT) (c_rt : RT) (c_letters : AR) (c_size : Int32) (c_rp : RT) (c_seen : AR) (c_refs : AR) (c_inRow : Int32) (c_isPic : Int32) (z : Int32 × RT × RT × Int32) (h : fX3_river c_rn c_rt c_letters c_size = some z) : cRW l yX3_river wsX3_river (RMk 9 196) sk (dC, dI) (tyz cI cC) sz (zwX cI cC f c_lanes c_spots c_byLeaps c_load c_gone c_held c_strong c_done c_rn c_rt c_letters c_size c_rp c_seen c_refs c_inRow c_isPic) (zwX cI cC f c_lanes c_spots c_byLeaps c_load c_gone c_held c_strong c_done z.2.1 z.2.2.1 c_letters z.2.2.2 c_rp c_seen c_refs c_inRow c_isPic) [.ref (f 0)] z.1 := by
  refine ofRW (cc := cX3_river) (maxL := 2) (ret := (some .int)) (own := RX3) (plainFor_of_name (by decide)) rfl rfl (Nat.le_of_ble_eq_true rfl) ?_
  intro p e s m args below meth c A hA hx hb hml hr hts hown hlocks hE hK hP hD hS ls hl
  generalize hQ : qRW _ _ _ _ _ _ _ = Q
  have hl : lv_has ls 2 [(0, .ref (f 0))] := hl
  have hiX1 : ∀ w ∈ wsX10, w ∈ wsX3_river := fun w h => List.mem_cons_of_mem _ (List.mem_append_left _ (List.mem_append_right _ h))
  have hiX3 : ∀ w ∈ wsX30, w ∈ wsX3_river := fun w h => List.mem_cons_of_mem _ (List.mem_append_left _ (List.mem_append_left _ (List.mem_append_right _ h)))
  have hw1 := hts (Cond.fieldLink RX3 26 "FloeToFloe" "trial" "LFloeToFloe$River;") (List.mem_of_getElem? (i := 1) rfl)
  have hw2 := hts (Cond.fieldLink RX3 20 "FloeToFloe" "now" "LFloeToFloe$River;") (List.mem_of_getElem? (i := 2) rfl)
  have hw3 := hts (Cond.fieldLink RX3 35 "FloeToFloe" "telling" "LFloeToFloe$Telling;") (List.mem_of_getElem? (i := 3) rfl)
  have hnw5 : (Cond.fieldLinkNest "FloeToFloe" 50 "FloeToFloe$Telling" "size" "I" "FloeToFloe").before args s = true := va_Nw.use rfl (hE.1 5 _ rfl)
  rw [fX3_river] at h
  refine lv_aload_n hx hb dX3_river_0 rfl (lv_at hl 0 rfl) ?_
  refine va_get (D := (dC, dI)) (ci := 3) (v := .ref (f 11)) (C := RX3) (T := TX3) (N := 9) hx hb hts hiX3 hown hK hP 0 rfl rfl 2 (by decide) hw1 (fun _ h9 => h9) rfl dX3_river_1 ?_
  refine lv_aload_n hx hb dX3_river_4 rfl (lv_at hl 0 rfl) ?_
  refine va_get (D := (dC, dI)) (ci := 3) (v := .ref (f 5)) (C := RX3) (T := TX3) (N := 9) hx hb hts hiX3 hown hK hP 0 rfl rfl 1 (by decide) hw2 (fun _ h9 => h9) rfl dX3_river_5 ?_
  obtain ⟨q8, e8, h⟩ := bd_some h
  refine g_rvV (wc := (zwRR cI cC (fun k => f (k + 11)) (fun k => f (k + 5)) c_rt c_rn)) (wc' := (zwRR cI cC (fun k => f (k + 11)) (fun k => f (k + 5)) q8 c_rn)) (ws' := (zwX cI cC f c_lanes c_spots c_byLeaps c_load c_gone c_held c_strong c_done c_rn q8 c_letters c_size c_rp c_seen c_refs c_inRow c_isPic)) (wr := [(f 0, .inr (3, [.ref (f 1), .ref (f 5), .ref (f 11), .ref (f 19), .ref (f 17), .ref (f 25), .ref (f 26), .int c_inRow, .int c_isPic])), (f 1, .inr (2, [.ref (f 5), .ref (f 2), .ref (f 3), .ref (f 4), .int c_load, .int c_gone, .int c_held, .int c_strong, .int c_done])), (f 2, .inl (cI, 8, .inl c_lanes)), (f 3, .inl (cI, 8, .inl c_spots)), (f 4, .inl (cI, 41, .inl c_byLeaps)), (f 17, .inr (1, [.ref (f 18), .int c_size])), (f 18, .inl (cC, 80, .inl c_letters)), (f 19, .inr (0, [.ref (f 20), .ref (f 21), .ref (f 22), .ref (f 23), .ref (f 24), .int (R_lanes c_rp), .int (R_floes c_rp), .int (R_minute c_rp)])), (f 20, .inl (cI, 8, .inl (R_kinds c_rp))), (f 21, .inl (cI, 8, .inl (R_homes c_rp))), (f 22, .inl (cI, 8, .inl (R_cells c_rp))), (f 23, .inl (cI, 8, .inl (R_paces c_rp))), (f 24, .inl (cI, 8, .inl (R_strengths c_rp))), (f 25, .inl (cI, 12, .inl c_seen)), (f 26, .inl (cI, 7, .inl c_refs))]) (nw := 27) ⟨hx, hb, hml, hown, hts⟩ hE hK hA hP hD hS [11, 12, 13, 14, 15, 16, 5, 6, 7, 8, 9, 10] [0, 1, 2, 3, 4, 17, 18, 19, 20, 21, 22, 23, 24, 25, 26] rfl rfl rfl rfl rfl rfl (by decide +kernel) rfl (mX0_become l dC dI cI cC sk (fun k => f (k + 11)) (fun k => f (k + 5)) s.heap.size c_rt c_rn q8 e8) (cwV 1 hts gX3_river_X0_become rfl rfl rfl (by decide +kernel) ⟨Nat.le_of_ble_eq_true rfl, Nat.le_of_ble_eq_true rfl⟩) (va_recv hK hP (ci := 0) (q0 := 11) rfl rfl) (As := [.ref (f 5)]) (rest := []) rfl hl.1 rfl (Nat.le_of_ble_eq_true rfl) dX3_river_8 ⟨Nat.zero_le _, Nat.zero_le _⟩ (fun H locs hP hD hS => ?_)
  refine lv_aload_n hx hb dX3_river_11 rfl (lv_at hl 0 rfl) ?_
  refine va_get (D := (dC, dI)) (ci := 3) (v := .ref (f 17)) (C := RX3) (T := TX3) (N := 9) hx hb hts hiX3 hown hK hP 0 rfl rfl 4 (by decide) hw3 (fun _ h9 => h9) rfl dX3_river_12 ?_
  refine lv_aload_n hx hb dX3_river_15 rfl (lv_at hl 0 rfl) ?_
  refine va_get (D := (dC, dI)) (ci := 3) (v := .ref (f 11)) (C := RX3) (T := TX3) (N := 9) hx hb hts hiX3 hown hK hP 0 rfl rfl 2 (by decide) hw1 (fun _ h9 => h9) rfl dX3_river_16 ?_
  obtain ⟨q19, e19, h⟩ := bd_some h
  refine g_rwV (wc := (zwTR cI cC (fun k => f (k + 11)) q8 c_letters c_size)) (wc' := (zwTR cI cC (fun k => f (k + 11)) q19.2 c_letters c_size)) (ws' := (zwX cI cC f c_lanes c_spots c_byLeaps c_load c_gone c_held c_strong c_done c_rn q19.2 c_letters c_size c_rp c_seen c_refs c_inRow c_isPic)) (wr := [(f 0, .inr (3, [.ref (f 1), .ref (f 5), .ref (f 11), .ref (f 19), .ref (f 17), .ref (f 25), .ref (f 26), .int c_inRow, .int c_isPic])), (f 1, .inr (2, [.ref (f 5), .ref (f 2), .ref (f 3), .ref (f 4), .int c_load, .int c_gone, .int c_held, .int c_strong, .int c_done])), (f 2, .inl (cI, 8, .inl c_lanes)), (f 3, .inl (cI, 8, .inl c_spots)), (f 4, .inl (cI, 41, .inl c_byLeaps)), (f 5, .inr (0, [.ref (f 6), .ref (f 7), .ref (f 8), .ref (f 9), .ref (f 10), .int (R_lanes c_rn), .int (R_floes c_rn), .int (R_minute c_rn)])), (f 6, .inl (cI, 8, .inl (R_kinds c_rn))), (f 7, .inl (cI, 8, .inl (R_homes c_rn))), (f 8, .inl (cI, 8, .inl (R_cells c_rn))), (f 9, .inl (cI, 8, .inl (R_paces c_rn))), (f 10, .inl (cI, 8, .inl (R_strengths c_rn))), (f 19, .inr (0, [.ref (f 20), .ref (f 21), .ref (f 22), .ref (f 23), .ref (f 24), .int (R_lanes c_rp), .int (R_floes c_rp), .int (R_minute c_rp)])), (f 20, .inl (cI, 8, .inl (R_kinds c_rp))), (f 21, .inl (cI, 8, .inl (R_homes c_rp))), (f 22, .inl (cI, 8, .inl (R_cells c_rp))), (f 23, .inl (cI, 8, .inl (R_paces c_rp))), (f 24, .inl (cI, 8, .inl (R_strengths c_rp))), (f 25, .inl (cI, 12, .inl c_seen)), (f 26, .inl (cI, 7, .inl c_refs))]) (nw := 27) ⟨hx, hb, hml, hown, hts⟩ hE hK hA hP hD hS [11, 12, 13, 14, 15, 16, 17, 18] [0, 1, 2, 3, 4, 5, 6, 7, 8, 9, 10, 19, 20, 21, 22, 23, 24, 25, 26] rfl rfl rfl rfl rfl rfl (by decide +kernel) rfl (mX1_tellTo l dC dI cI cC sk (fun k => f (k + 11)) H.size q8 c_letters c_size q19 e19) (cwV 1 hts gX3_river_X1_tellTo rfl rfl rfl (by decide +kernel) ⟨Nat.le_of_ble_eq_true rfl, Nat.le_of_ble_eq_true rfl⟩) (va_recv hK hP (ci := 1) (q0 := 17) rfl rfl) (As := [.ref (f 11)]) (rest := []) rfl hl.1 rfl (Nat.le_of_ble_eq_true rfl) dX3_river_19 ⟨Nat.zero_le _, Nat.zero_le _⟩ (fun H locs hP hD hS => ?_)
  refine lv_istore_n (lv' := [(1, .int q19.1), (0, .ref (f 0))]) hx hb dX3_river_22 rfl hl (by decide) rfl (fun ls hl => ?_)
  refine lv_iload_n hx hb dX3_river_23 rfl (lv_at hl 0 rfl) ?_
  refine jnW (fun (v38 : RT) => ∀ (H : Heap) (locs : List Loc) (ls : Array Slot), va_P (dC, dI) vwCl (zwX cI cC f c_lanes c_spots c_byLeaps c_load c_gone c_held c_strong c_done v38 q19.2 c_letters c_size c_rp c_seen c_refs c_inRow c_isPic) H → va_D A (zwX cI cC f c_lanes c_spots c_byLeaps c_load c_gone c_held c_strong c_done v38 q19.2 c_letters c_size c_rp c_seen c_refs c_inRow c_isPic) → va_S A s.heap H locs → lv_has ls 2 [(0, .ref (f 0)), (1, .int q19.1)] → W p l e (RMk 9 196) s m args below meth c H locs 0 0 Q (F0 m 38 ls [])) h (fun v38 h H locs ls hP hD hS hl => ?_) (fun J38 j38 h => ?_)
  · refine lv_aload_n hx hb dX3_river_38 rfl (lv_at hl 0 rfl) ?_
    refine va_get (D := (dC, dI)) (ci := 3) (v := .ref (f 17)) (C := RX3) (T := TX3) (N := 9) hx hb hts hiX3 hown hK hP 0 rfl rfl 4 (by decide) hw3 (fun _ h9 => h9) rfl dX3_river_39 ?_
    refine lv_iconst (v := (0 : Int32)) hx hb dX3_river_42 (by decide) ?_
    refine va_putN (D := (dC, dI)) (ci := 1) (v := .int (0 : Int32)) (ty := .int) (C := RX1) (T := TX1) (N := 2) hx hb hts hiX1 tyX1 tyX1_ok nmX1 hown hK hP hD hS 17 rfl rfl 1 (by decide) hnw5 (fun _ h9 => h9) rfl (by decide +kernel) rfl rfl (Nat.le_of_ble_eq_true rfl) dX3_river_43 (fun H locs hP hD hS => ?_)
    have hP : va_P (dC, dI) vwCl (zwX cI cC f c_lanes c_spots c_byLeaps c_load c_gone c_held c_strong c_done v38 q19.2 c_letters (0 : Int32) c_rp c_seen c_refs c_inRow c_isPic) H := hP
    have hD : va_D A (zwX cI cC f c_lanes c_spots c_byLeaps c_load c_gone c_held c_strong c_done v38 q19.2 c_letters (0 : Int32) c_rp c_seen c_refs c_inRow c_isPic) := hD
    refine lv_iload_n hx hb dX3_river_46 rfl (lv_at hl 1 rfl) ?_
    subst hQ
    exact retRW (zz := ((q19.1, v38, q19.2, (0 : Int32)) : Int32 × RT × RT × Int32)) (fun z => z.1) (fun z => (zwX cI cC f c_lanes c_spots c_byLeaps c_load c_gone c_held c_strong c_done z.2.1 z.2.2.1 c_letters z.2.2.2 c_rp c_seen c_refs c_inRow c_isPic)) hx hb hr hlocks rfl hS h rfl hP dX3_river_47
  refine lv_if_le (tgt := 38) hx hb dX3_river_24 (by decide) (fun c24 => ?_) (fun c24 => ?_)
  · have h := itT c24 h
    exact j38 _ h _ _ _ hP hD hS (lv_sub hl [1, 0] rfl)
  have h := itF c24 h
  refine lv_aload_n hx hb dX3_river_27 rfl (lv_at hl 1 rfl) ?_
  refine va_get (D := (dC, dI)) (ci := 3) (v := .ref (f 5)) (C := RX3) (T := TX3) (N := 9) hx hb hts hiX3 hown hK hP 0 rfl rfl 1 (by decide) hw2 (fun _ h9 => h9) rfl dX3_river_28 ?_
  refine lv_aload_n hx hb dX3_river_31 rfl (lv_at hl 1 rfl) ?_
  refine va_get (D := (dC, dI)) (ci := 3) (v := .ref (f 11)) (C := RX3) (T := TX3) (N := 9) hx hb hts hiX3 hown hK hP 0 rfl rfl 2 (by decide) hw1 (fun _ h9 => h9) rfl dX3_river_32 ?_
  obtain ⟨q35, e35, h⟩ := bd_some h
  refine g_rvV (wc := (zwRR cI cC (fun k => f (k + 5)) (fun k => f (k + 11)) c_rn q19.2)) (wc' := (zwRR cI cC (fun k => f (k + 5)) (fun k => f (k + 11)) q35 q19.2)) (ws' := (zwX cI cC f c_lanes c_spots c_byLeaps c_load c_gone c_held c_strong c_done q35 q19.2 c_letters c_size c_rp c_seen c_refs c_inRow c_isPic)) (wr := [(f 0, .inr (3, [.ref (f 1), .ref (f 5), .ref (f 11), .ref (f 19), .ref (f 17), .ref (f 25), .ref (f 26), .int c_inRow, .int c_isPic])), (f 1, .inr (2, [.ref (f 5), .ref (f 2), .ref (f 3), .ref (f 4), .int c_load, .int c_gone, .int c_held, .int c_strong, .int c_done])), (f 2, .inl (cI, 8, .inl c_lanes)), (f 3, .inl (cI, 8, .inl c_spots)), (f 4, .inl (cI, 41, .inl c_byLeaps)), (f 17, .inr (1, [.ref (f 18), .int c_size])), (f 18, .inl (cC, 80, .inl c_letters)), (f 19, .inr (0, [.ref (f 20), .ref (f 21), .ref (f 22), .ref (f 23), .ref (f 24), .int (R_lanes c_rp), .int (R_floes c_rp), .int (R_minute c_rp)])), (f 20, .inl (cI, 8, .inl (R_kinds c_rp))), (f 21, .inl (cI, 8, .inl (R_homes c_rp))), (f 22, .inl (cI, 8, .inl (R_cells c_rp))), (f 23, .inl (cI, 8, .inl (R_paces c_rp))), (f 24, .inl (cI, 8, .inl (R_strengths c_rp))), (f 25, .inl (cI, 12, .inl c_seen)), (f 26, .inl (cI, 7, .inl c_refs))]) (nw := 27) ⟨hx, hb, hml, hown, hts⟩ hE hK hA hP hD hS [5, 6, 7, 8, 9, 10, 11, 12, 13, 14, 15, 16] [0, 1, 2, 3, 4, 17, 18, 19, 20, 21, 22, 23, 24, 25, 26] rfl rfl rfl rfl rfl rfl (by decide +kernel) rfl (mX0_become l dC dI cI cC sk (fun k => f (k + 5)) (fun k => f (k + 11)) H.size c_rn q19.2 q35 e35) (cwV 1 hts gX3_river_X0_become rfl rfl rfl (by decide +kernel) ⟨Nat.le_of_ble_eq_true rfl, Nat.le_of_ble_eq_true rfl⟩) (va_recv hK hP (ci := 0) (q0 := 5) rfl rfl) (As := [.ref (f 11)]) (rest := []) rfl hl.1 rfl (Nat.le_of_ble_eq_true rfl) dX3_river_35 ⟨Nat.zero_le _, Nat.zero_le _⟩ (fun H locs hP hD hS => ?_)
  exact j38 _ h _ _ _ hP hD hS (lv_sub hl [1, 0] rfl)
