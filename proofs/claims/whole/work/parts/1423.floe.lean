theorem dX3_image_0 : decode cX3_image 0 = .ok (.aload_n 0, 1) := by decide +kernel
theorem dX3_image_1 : decode cX3_image 1 = .ok (.getfield 29, 3) := by decide +kernel
theorem dX3_image_4 : decode cX3_image 4 = .ok (.aload_n 0, 1) := by decide +kernel
theorem dX3_image_5 : decode cX3_image 5 = .ok (.getfield 20, 3) := by decide +kernel
theorem dX3_image_8 : decode cX3_image 8 = .ok (.invokevirtual 61, 3) := by decide +kernel
theorem dX3_image_11 : decode cX3_image 11 = .ok (.aload_n 0, 1) := by decide +kernel
theorem dX3_image_12 : decode cX3_image 12 = .ok (.iconst 1, 1) := by decide +kernel
theorem dX3_image_13 : decode cX3_image 13 = .ok (.putfield 160, 3) := by decide +kernel
theorem dX3_image_16 : decode cX3_image 16 = .ok (.aload_n 0, 1) := by decide +kernel
theorem dX3_image_17 : decode cX3_image 17 = .ok (.getfield 20, 3) := by decide +kernel
theorem dX3_image_20 : decode cX3_image 20 = .ok (.getfield 86, 3) := by decide +kernel
theorem dX3_image_23 : decode cX3_image 23 = .ok (.ireturn, 1) := by decide +kernel
set_option maxRecDepth 20000 in
theorem ggX3_image_X0_become : GoodIn wsX3_image wsX0_become := goodIn_r _ [8, 9, 10, 11, 12, 13, 14, 15, 16, 26, 27, 28, 29, 30, 31, 32, 33] (by decide +kernel) (by decide +kernel)
set_option maxRecDepth 20000 in
theorem gX3_image_X0_become : GoodIn wsX3_image (wsV RX3 61 RX0 yX0_become wsX0_become) := goodIn_app (goodIn_of _ (by decide +kernel)) ggX3_image_X0_become
set_option maxHeartbeats 4000000 in
set_option maxRecDepth 100000 in
theorem mX3_image (l : Launch) (dC : Nat → ClassId) (dI : Nat → Nat → Nat) (cI cC : ClassId) (sk : (Nat → Nat) × (Nat → Nat)) (f : Nat → Nat) (sz : Nat)  (c_lanes : AR) (c_spots : AR) (c_byLeaps : AR) (c_load : Int32) (c_gone : Int32) (c_held : Int32) (c_strong : Int32) (c_done : Int32) (c_rn : RT) (c_rt : RT) (c_letters : AR) (c_size : Int32) (c_rp : RT) (c_seen : AR) (c_refs : AR) (c_inRow : Int32) (c_isPic : Int32) (z : Int32 × RT × Int32) (h : fX3_image c_rn c_rp = some z) : cRW l yX3_image wsX3_image (RMk 1 22) sk (dC, dI) (tyz cI cC) sz (zwX cI cC f c_lanes c_spots c_byLeaps c_load c_gone c_held c_strong c_done c_rn c_rt c_letters c_size c_rp c_seen c_refs c_inRow c_isPic) (zwX cI cC f c_lanes c_spots c_byLeaps c_load c_gone c_held c_strong c_done c_rn c_rt c_letters c_size z.2.1 c_seen c_refs c_inRow z.2.2) [.ref (f 0)] z.1 := by
  refine ofRW (cc := cX3_image) (maxL := 1) (ret := (some .int)) (own := RX3) (plainFor_of_name (by decide)) rfl rfl (Nat.le_of_ble_eq_true rfl) ?_
  intro p e s m args below meth c A hA hx hb hml hr hts hown hlocks hE hK hP hD hS ls hl
  generalize hQ : qRW _ _ _ _ _ _ _ = Q
  have hl : lv_has ls 1 [(0, .ref (f 0))] := hl
  have hiX0 : ∀ w ∈ wsX00, w ∈ wsX3_image := fun w h => List.mem_cons_of_mem _ (List.mem_append_right _ h)
  have hiX3 : ∀ w ∈ wsX30, w ∈ wsX3_image := fun w h => List.mem_cons_of_mem _ (List.mem_append_left _ (List.mem_append_right _ h))
  have hw1 := hts (Cond.fieldLink RX3 29 "FloeToFloe" "pictured" "LFloeToFloe$River;") (List.mem_of_getElem? (i := 1) rfl)
  have hw2 := hts (Cond.fieldLink RX3 20 "FloeToFloe" "now" "LFloeToFloe$River;") (List.mem_of_getElem? (i := 2) rfl)
  have hw3 := hts (Cond.fieldLink RX3 160 "FloeToFloe" "isPictured" "Z") (List.mem_of_getElem? (i := 3) rfl)
  have hnw4 : (Cond.fieldLinkNest "FloeToFloe" 86 "FloeToFloe$River" "minute" "I" "FloeToFloe").before args s = true := va_Nw.use rfl (hE.1 4 _ rfl)
  rw [fX3_image] at h
  refine lv_aload_n hx hb dX3_image_0 rfl (lv_at hl 0 rfl) ?_
  refine va_get (D := (dC, dI)) (ci := 3) (v := .ref (f 19)) (C := RX3) (T := TX3) (N := 9) hx hb hts hiX3 hown hK hP 0 rfl rfl 3 (by decide) hw1 (fun _ h9 => h9) rfl dX3_image_1 ?_
  refine lv_aload_n hx hb dX3_image_4 rfl (lv_at hl 0 rfl) ?_
  refine va_get (D := (dC, dI)) (ci := 3) (v := .ref (f 5)) (C := RX3) (T := TX3) (N := 9) hx hb hts hiX3 hown hK hP 0 rfl rfl 1 (by decide) hw2 (fun _ h9 => h9) rfl dX3_image_5 ?_
  obtain ⟨q8, e8, h⟩ := bd_some h
  refine g_rvV (wc := (zwRR cI cC (fun k => f (k + 19)) (fun k => f (k + 5)) c_rp c_rn)) (wc' := (zwRR cI cC (fun k => f (k + 19)) (fun k => f (k + 5)) q8 c_rn)) (ws' := (zwX cI cC f c_lanes c_spots c_byLeaps c_load c_gone c_held c_strong c_done c_rn c_rt c_letters c_size q8 c_seen c_refs c_inRow c_isPic)) (wr := [(f 0, .inr (3, [.ref (f 1), .ref (f 5), .ref (f 11), .ref (f 19), .ref (f 17), .ref (f 25), .ref (f 26), .int c_inRow, .int c_isPic])), (f 1, .inr (2, [.ref (f 5), .ref (f 2), .ref (f 3), .ref (f 4), .int c_load, .int c_gone, .int c_held, .int c_strong, .int c_done])), (f 2, .inl (cI, 8, .inl c_lanes)), (f 3, .inl (cI, 8, .inl c_spots)), (f 4, .inl (cI, 41, .inl c_byLeaps)), (f 11, .inr (0, [.ref (f 12), .ref (f 13), .ref (f 14), .ref (f 15), .ref (f 16), .int (R_lanes c_rt), .int (R_floes c_rt), .int (R_minute c_rt)])), (f 12, .inl (cI, 8, .inl (R_kinds c_rt))), (f 13, .inl (cI, 8, .inl (R_homes c_rt))), (f 14, .inl (cI, 8, .inl (R_cells c_rt))), (f 15, .inl (cI, 8, .inl (R_paces c_rt))), (f 16, .inl (cI, 8, .inl (R_strengths c_rt))), (f 17, .inr (1, [.ref (f 18), .int c_size])), (f 18, .inl (cC, 80, .inl c_letters)), (f 25, .inl (cI, 12, .inl c_seen)), (f 26, .inl (cI, 7, .inl c_refs))]) (nw := 27) ⟨hx, hb, hml, hown, hts⟩ hE hK hA hP hD hS [19, 20, 21, 22, 23, 24, 5, 6, 7, 8, 9, 10] [0, 1, 2, 3, 4, 11, 12, 13, 14, 15, 16, 17, 18, 25, 26] rfl rfl rfl rfl rfl rfl (by decide +kernel) rfl (mX0_become l dC dI cI cC sk (fun k => f (k + 19)) (fun k => f (k + 5)) s.heap.size c_rp c_rn q8 e8) (cwV 1 hts gX3_image_X0_become rfl rfl rfl (by decide +kernel) ⟨Nat.le_of_ble_eq_true rfl, Nat.le_of_ble_eq_true rfl⟩) (va_recv hK hP (ci := 0) (q0 := 19) rfl rfl) (As := [.ref (f 5)]) (rest := []) rfl hl.1 rfl (Nat.le_of_ble_eq_true rfl) dX3_image_8 ⟨Nat.zero_le _, Nat.zero_le _⟩ (fun H locs hP hD hS => ?_)
  refine lv_aload_n hx hb dX3_image_11 rfl (lv_at hl 0 rfl) ?_
  refine lv_iconst (v := (1 : Int32)) hx hb dX3_image_12 (by decide) ?_
  refine va_put (D := (dC, dI)) (ci := 3) (v := .int (1 : Int32)) (ty := .boolean) (C := RX3) (T := TX3) (N := 9) hx hb hts hiX3 tyX3 tyX3_ok nmX3 hown hK hP hD hS 0 rfl rfl 8 (by decide) hw3 (fun _ h9 => h9) rfl (by decide +kernel) rfl rfl (Nat.le_of_ble_eq_true rfl) dX3_image_13 (fun H locs hP hD hS => ?_)
  have hP : va_P (dC, dI) vwCl (zwX cI cC f c_lanes c_spots c_byLeaps c_load c_gone c_held c_strong c_done c_rn c_rt c_letters c_size q8 c_seen c_refs c_inRow (1 : Int32)) H := hP
  have hD : va_D A (zwX cI cC f c_lanes c_spots c_byLeaps c_load c_gone c_held c_strong c_done c_rn c_rt c_letters c_size q8 c_seen c_refs c_inRow (1 : Int32)) := hD
  refine lv_aload_n hx hb dX3_image_16 rfl (lv_at hl 0 rfl) ?_
  refine va_get (D := (dC, dI)) (ci := 3) (v := .ref (f 5)) (C := RX3) (T := TX3) (N := 9) hx hb hts hiX3 hown hK hP 0 rfl rfl 1 (by decide) hw2 (fun _ h9 => h9) rfl dX3_image_17 ?_
  refine va_getN (D := (dC, dI)) (ci := 0) (v := .int (R_minute c_rn)) (C := RX0) (T := TX0) (N := 8) hx hb hts hiX0 hown hK hP 5 rfl rfl 7 (by decide) hnw4 (fun _ h9 => h9) rfl dX3_image_20 ?_
  subst hQ
  exact retRW (zz := (((R_minute c_rn), q8, (1 : Int32)) : Int32 × RT × Int32)) (fun z => z.1) (fun z => (zwX cI cC f c_lanes c_spots c_byLeaps c_load c_gone c_held c_strong c_done c_rn c_rt c_letters c_size z.2.1 c_seen c_refs c_inRow z.2.2)) hx hb hr hlocks rfl hS h rfl hP dX3_image_23
theorem dX3_on_0 : decode cX3_on 0 = .ok (.aload_n 0, 1) := by decide +kernel
theorem dX3_on_1 : decode cX3_on 1 = .ok (.getfield 160, 3) := by decide +kernel
theorem dX3_on_4 : decode cX3_on 4 = .ok (.ifCond .ne 10, 3) := by decide +kernel
theorem dX3_on_7 : decode cX3_on 7 = .ok (.aload_n 0, 1) := by decide +kernel
theorem dX3_on_8 : decode cX3_on 8 = .ok (.bipush (-3), 2) := by decide +kernel
theorem dX3_on_10 : decode cX3_on 10 = .ok (.invokevirtual 54, 3) := by decide +kernel
theorem dX3_on_13 : decode cX3_on 13 = .ok (.ireturn, 1) := by decide +kernel
theorem dX3_on_14 : decode cX3_on 14 = .ok (.aload_n 0, 1) := by decide +kernel
theorem dX3_on_15 : decode cX3_on 15 = .ok (.getfield 20, 3) := by decide +kernel
theorem dX3_on_18 : decode cX3_on 18 = .ok (.aload_n 0, 1) := by decide +kernel
theorem dX3_on_19 : decode cX3_on 19 = .ok (.getfield 29, 3) := by decide +kernel
theorem dX3_on_22 : decode cX3_on 22 = .ok (.invokevirtual 61, 3) := by decide +kernel
theorem dX3_on_25 : decode cX3_on 25 = .ok (.aload_n 0, 1) := by decide +kernel
theorem dX3_on_26 : decode cX3_on 26 = .ok (.getfield 20, 3) := by decide +kernel
theorem dX3_on_29 : decode cX3_on 29 = .ok (.getfield 86, 3) := by decide +kernel
theorem dX3_on_32 : decode cX3_on 32 = .ok (.ireturn, 1) := by decide +kernel
set_option maxRecDepth 20000 in
theorem ggX3_on_X3_refuse : GoodIn wsX3_on wsX3_refuse := goodIn_r _ [8, 9, 23, 24, 25, 26, 27, 28, 29, 30, 31] (by decide +kernel) (by decide +kernel)
set_option maxRecDepth 20000 in
theorem gX3_on_X3_refuse : GoodIn wsX3_on (wsV RX3 54 RX3 yX3_refuse wsX3_refuse) := goodIn_app (goodIn_of _ (by decide +kernel)) ggX3_on_X3_refuse
set_option maxRecDepth 20000 in
theorem ggX3_on_X0_become : GoodIn wsX3_on wsX0_become := goodIn_r _ [14, 15, 16, 17, 18, 19, 20, 21, 22, 32, 33, 34, 35, 36, 37, 38, 39] (by decide +kernel) (by decide +kernel)
set_option maxRecDepth 20000 in
theorem gX3_on_X0_become : GoodIn wsX3_on (wsV RX3 61 RX0 yX0_become wsX0_become) := goodIn_app (goodIn_of _ (by decide +kernel)) ggX3_on_X0_become
set_option maxHeartbeats 4000000 in
set_option maxRecDepth 100000 in
theorem mX3_on (l : Launch) (dC : Nat → ClassId) (dI : Nat → Nat → Nat) (cI cC : ClassId) (sk : (Nat → Nat) × (Nat → Nat)) (f : Nat → Nat) (sz : Nat)  (c_lanes : AR) (c_spots : AR) (c_byLeaps : AR) (c_load : Int32) (c_gone : Int32) (c_held : Int32) (c_strong : Int32) (c_done : Int32) (c_rn : RT) (c_rt : RT) (c_letters : AR) (c_size : Int32) (c_rp : RT) (c_seen : AR) (c_refs : AR) (c_inRow : Int32) (c_isPic : Int32) (z : Int32 × RT × AR) (h : fX3_on c_rn c_rp c_refs c_isPic = some z) : cRW l yX3_on wsX3_on (RMk 1 22) sk (dC, dI) (tyz cI cC) sz (zwX cI cC f c_lanes c_spots c_byLeaps c_load c_gone c_held c_strong c_done c_rn c_rt c_letters c_size c_rp c_seen c_refs c_inRow c_isPic) (zwX cI cC f c_lanes c_spots c_byLeaps c_load c_gone c_held c_strong c_done z.2.1 c_rt c_letters c_size c_rp c_seen z.2.2 c_inRow c_isPic) [.ref (f 0)] z.1 := by
  refine ofRW (cc := cX3_on) (maxL := 1) (ret := (some .int)) (own := RX3) (plainFor_of_name (by decide)) rfl rfl (Nat.le_of_ble_eq_true rfl) ?_
  intro p e s m args below meth c A hA hx hb hml hr hts hown hlocks hE hK hP hD hS ls hl
  generalize hQ : qRW _ _ _ _ _ _ _ = Q
  have hl : lv_has ls 1 [(0, .ref (f 0))] := hl
  have hiX0 : ∀ w ∈ wsX00, w ∈ wsX3_on := fun w h => List.mem_cons_of_mem _ (List.mem_append_right _ h)
  have hiX3 : ∀ w ∈ wsX30, w ∈ wsX3_on := fun w h => List.mem_cons_of_mem _ (List.mem_append_left _ (List.mem_append_right _ h))
  have hw1 := hts (Cond.fieldLink RX3 160 "FloeToFloe" "isPictured" "Z") (List.mem_of_getElem? (i := 1) rfl)
  have hw2 := hts (Cond.fieldLink RX3 20 "FloeToFloe" "now" "LFloeToFloe$River;") (List.mem_of_getElem? (i := 2) rfl)
  have hw3 := hts (Cond.fieldLink RX3 29 "FloeToFloe" "pictured" "LFloeToFloe$River;") (List.mem_of_getElem? (i := 3) rfl)
  have hnw4 : (Cond.fieldLinkNest "FloeToFloe" 86 "FloeToFloe$River" "minute" "I" "FloeToFloe").before args s = true := va_Nw.use rfl (hE.1 4 _ rfl)
  rw [fX3_on] at h
  refine lv_aload_n hx hb dX3_on_0 rfl (lv_at hl 0 rfl) ?_
  refine va_get (D := (dC, dI)) (ci := 3) (v := .int c_isPic) (C := RX3) (T := TX3) (N := 9) hx hb hts hiX3 hown hK hP 0 rfl rfl 8 (by decide) hw1 (fun _ h9 => h9) rfl dX3_on_1 ?_
  refine lv_if_ne (tgt := 14) hx hb dX3_on_4 (by decide) (fun c4 => ?_) (fun c4 => ?_)
  · have h := itF c4 h
    refine lv_aload_n hx hb dX3_on_14 rfl (lv_at hl 0 rfl) ?_
    refine va_get (D := (dC, dI)) (ci := 3) (v := .ref (f 5)) (C := RX3) (T := TX3) (N := 9) hx hb hts hiX3 hown hK hP 0 rfl rfl 1 (by decide) hw2 (fun _ h9 => h9) rfl dX3_on_15 ?_
    refine lv_aload_n hx hb dX3_on_18 rfl (lv_at hl 0 rfl) ?_
    refine va_get (D := (dC, dI)) (ci := 3) (v := .ref (f 19)) (C := RX3) (T := TX3) (N := 9) hx hb hts hiX3 hown hK hP 0 rfl rfl 3 (by decide) hw3 (fun _ h9 => h9) rfl dX3_on_19 ?_
    obtain ⟨q22, e22, h⟩ := bd_some h
    refine g_rvV (wc := (zwRR cI cC (fun k => f (k + 5)) (fun k => f (k + 19)) c_rn c_rp)) (wc' := (zwRR cI cC (fun k => f (k + 5)) (fun k => f (k + 19)) q22 c_rp)) (ws' := (zwX cI cC f c_lanes c_spots c_byLeaps c_load c_gone c_held c_strong c_done q22 c_rt c_letters c_size c_rp c_seen c_refs c_inRow c_isPic)) (wr := [(f 0, .inr (3, [.ref (f 1), .ref (f 5), .ref (f 11), .ref (f 19), .ref (f 17), .ref (f 25), .ref (f 26), .int c_inRow, .int c_isPic])), (f 1, .inr (2, [.ref (f 5), .ref (f 2), .ref (f 3), .ref (f 4), .int c_load, .int c_gone, .int c_held, .int c_strong, .int c_done])), (f 2, .inl (cI, 8, .inl c_lanes)), (f 3, .inl (cI, 8, .inl c_spots)), (f 4, .inl (cI, 41, .inl c_byLeaps)), (f 11, .inr (0, [.ref (f 12), .ref (f 13), .ref (f 14), .ref (f 15), .ref (f 16), .int (R_lanes c_rt), .int (R_floes c_rt), .int (R_minute c_rt)])), (f 12, .inl (cI, 8, .inl (R_kinds c_rt))), (f 13, .inl (cI, 8, .inl (R_homes c_rt))), (f 14, .inl (cI, 8, .inl (R_cells c_rt))), (f 15, .inl (cI, 8, .inl (R_paces c_rt))), (f 16, .inl (cI, 8, .inl (R_strengths c_rt))), (f 17, .inr (1, [.ref (f 18), .int c_size])), (f 18, .inl (cC, 80, .inl c_letters)), (f 25, .inl (cI, 12, .inl c_seen)), (f 26, .inl (cI, 7, .inl c_refs))]) (nw := 27) ⟨hx, hb, hml, hown, hts⟩ hE hK hA hP hD hS [5, 6, 7, 8, 9, 10, 19, 20, 21, 22, 23, 24] [0, 1, 2, 3, 4, 11, 12, 13, 14, 15, 16, 17, 18, 25, 26] rfl rfl rfl rfl rfl rfl (by decide +kernel) rfl (mX0_become l dC dI cI cC sk (fun k => f (k + 5)) (fun k => f (k + 19)) s.heap.size c_rn c_rp q22 e22) (cwV 1 hts gX3_on_X0_become rfl rfl rfl (by decide +kernel) ⟨Nat.le_of_ble_eq_true rfl, Nat.le_of_ble_eq_true rfl⟩) (va_recv hK hP (ci := 0) (q0 := 5) rfl rfl) (As := [.ref (f 19)]) (rest := []) rfl hl.1 rfl (Nat.le_of_ble_eq_true rfl) dX3_on_22 ⟨Nat.zero_le _, Nat.zero_le _⟩ (fun H locs hP hD hS => ?_)
    refine lv_aload_n hx hb dX3_on_25 rfl (lv_at hl 0 rfl) ?_
    refine va_get (D := (dC, dI)) (ci := 3) (v := .ref (f 5)) (C := RX3) (T := TX3) (N := 9) hx hb hts hiX3 hown hK hP 0 rfl rfl 1 (by decide) hw2 (fun _ h9 => h9) rfl dX3_on_26 ?_
    refine va_getN (D := (dC, dI)) (ci := 0) (v := .int (R_minute q22)) (C := RX0) (T := TX0) (N := 8) hx hb hts hiX0 hown hK hP 5 rfl rfl 7 (by decide) hnw4 (fun _ h9 => h9) rfl dX3_on_29 ?_
    subst hQ
    exact retRW (zz := (((R_minute q22), q22, c_refs) : Int32 × RT × AR)) (fun z => z.1) (fun z => (zwX cI cC f c_lanes c_spots c_byLeaps c_load c_gone c_held c_strong c_done z.2.1 c_rt c_letters c_size c_rp c_seen z.2.2 c_inRow c_isPic)) hx hb hr hlocks rfl hS h rfl hP dX3_on_32
  have h := itT c4 h
  refine lv_aload_n hx hb dX3_on_7 rfl (lv_at hl 0 rfl) ?_
  refine lv_bipush (v := (-3 : Int32)) hx hb dX3_on_8 (by decide) ?_
  obtain ⟨q10, e10, h⟩ := bd_some h
  refine g_rwA (wc := (zwX cI cC f c_lanes c_spots c_byLeaps c_load c_gone c_held c_strong c_done c_rn c_rt c_letters c_size c_rp c_seen c_refs c_inRow c_isPic)) (wc' := (zwX cI cC f c_lanes c_spots c_byLeaps c_load c_gone c_held c_strong c_done c_rn c_rt c_letters c_size c_rp c_seen q10.2 c_inRow c_isPic)) ⟨hx, hb, hml, hown, hts⟩ hE hK hA hP hD hS rfl (mX3_refuse l dC dI cI cC sk f s.heap.size (-3 : Int32) c_lanes c_spots c_byLeaps c_load c_gone c_held c_strong c_done c_rn c_rt c_letters c_size c_rp c_seen c_refs c_inRow c_isPic q10 e10) (cwV 1 hts gX3_on_X3_refuse rfl rfl rfl (by decide +kernel) ⟨Nat.le_of_ble_eq_true rfl, Nat.le_of_ble_eq_true rfl⟩) (va_recv hK hP (ci := 3) (q0 := 0) rfl rfl) (As := [.int (-3 : Int32)]) (rest := []) rfl hl.1 rfl (Nat.le_of_ble_eq_true rfl) dX3_on_10 ⟨Nat.zero_le _, Nat.zero_le _⟩ (fun H locs hP hD hS => ?_)
  have hP : va_P (dC, dI) vwCl (zwX cI cC f c_lanes c_spots c_byLeaps c_load c_gone c_held c_strong c_done c_rn c_rt c_letters c_size c_rp c_seen q10.2 c_inRow c_isPic) H := hP
  have hD : va_D A (zwX cI cC f c_lanes c_spots c_byLeaps c_load c_gone c_held c_strong c_done c_rn c_rt c_letters c_size c_rp c_seen q10.2 c_inRow c_isPic) := hD
  subst hQ
  exact retRW (zz := ((q10.1, c_rn, q10.2) : Int32 × RT × AR)) (fun z => z.1) (fun z => (zwX cI cC f c_lanes c_spots c_byLeaps c_load c_gone c_held c_strong c_done z.2.1 c_rt c_letters c_size c_rp c_seen z.2.2 c_inRow c_isPic)) hx hb hr hlocks rfl hS h rfl hP dX3_on_13
