theorem dX3_is_0 : decode cX3_is 0 = .ok (.aload_n 0, 1) := by decide +kernel
theorem dX3_is_1 : decode cX3_is 1 = .ok (.iload_n 1, 1) := by decide +kernel
theorem dX3_is_2 : decode cX3_is 2 = .ok (.iload_n 2, 1) := by decide +kernel
theorem dX3_is_3 : decode cX3_is 3 = .ok (.invokevirtual 77, 3) := by decide +kernel
theorem dX3_is_6 : decode cX3_is 6 = .ok (.istore_n 3, 1) := by decide +kernel
theorem dX3_is_7 : decode cX3_is 7 = .ok (.iload_n 3, 1) := by decide +kernel
theorem dX3_is_8 : decode cX3_is 8 = .ok (.ifCond .eq 11, 3) := by decide +kernel
theorem dX3_is_11 : decode cX3_is 11 = .ok (.aload_n 0, 1) := by decide +kernel
theorem dX3_is_12 : decode cX3_is 12 = .ok (.iload_n 3, 1) := by decide +kernel
theorem dX3_is_13 : decode cX3_is 13 = .ok (.invokevirtual 54, 3) := by decide +kernel
theorem dX3_is_16 : decode cX3_is 16 = .ok (.goto 12, 3) := by decide +kernel
theorem dX3_is_19 : decode cX3_is 19 = .ok (.aload_n 0, 1) := by decide +kernel
theorem dX3_is_20 : decode cX3_is 20 = .ok (.getfield 20, 3) := by decide +kernel
theorem dX3_is_23 : decode cX3_is 23 = .ok (.iload_n 1, 1) := by decide +kernel
theorem dX3_is_24 : decode cX3_is 24 = .ok (.iload_n 2, 1) := by decide +kernel
theorem dX3_is_25 : decode cX3_is 25 = .ok (.invokevirtual 80, 3) := by decide +kernel
theorem dX3_is_28 : decode cX3_is 28 = .ok (.ireturn, 1) := by decide +kernel
set_option maxRecDepth 20000 in
theorem ggX3_is_X3_faultOfLook : GoodIn wsX3_is wsX3_faultOfLook := goodIn_r _ [6, 1, 7, 8, 9, 10, 11, 12, 13, 14, 5, 15, 36, 37, 38, 39, 40, 41, 42, 43, 44, 45, 46, 47, 48, 49, 50, 51, 52] (by decide +kernel) (by decide +kernel)
set_option maxRecDepth 20000 in
theorem gX3_is_X3_faultOfLook : GoodIn wsX3_is (wsV RX3 77 RX3 yX3_faultOfLook wsX3_faultOfLook) := goodIn_app (goodIn_of _ (by decide +kernel)) ggX3_is_X3_faultOfLook
set_option maxRecDepth 20000 in
theorem ggX3_is_X3_refuse : GoodIn wsX3_is wsX3_refuse := goodIn_r _ [19, 20, 36, 37, 38, 39, 40, 41, 42, 43, 44] (by decide +kernel) (by decide +kernel)
set_option maxRecDepth 20000 in
theorem gX3_is_X3_refuse : GoodIn wsX3_is (wsV RX3 54 RX3 yX3_refuse wsX3_refuse) := goodIn_app (goodIn_of _ (by decide +kernel)) ggX3_is_X3_refuse
set_option maxRecDepth 20000 in
theorem ggX3_is_X0_spotOf : GoodIn wsX3_is wsX0_spotOf := goodIn_r _ [24, 25, 26, 27, 28, 8, 9, 10, 11, 12, 29, 30, 31, 32, 33, 34, 35, 45, 46, 47, 48, 49, 50, 51, 52] (by decide +kernel) (by decide +kernel)
set_option maxRecDepth 20000 in
theorem gX3_is_X0_spotOf : GoodIn wsX3_is (wsV RX3 80 RX0 yX0_spotOf wsX0_spotOf) := goodIn_app (goodIn_of _ (by decide +kernel)) ggX3_is_X0_spotOf
set_option maxHeartbeats 4000000 in
set_option maxRecDepth 100000 in
theorem mX3_is (l : Launch) (dC : Nat → ClassId) (dI : Nat → Nat → Nat) (cI cC : ClassId) (sk : (Nat → Nat) × (Nat → Nat)) (f : Nat → Nat) (sz : Nat) (p1 : Int32) (p2 : Int32) (c_lanes : AR) (c_spots : AR) (c_byLeaps : AR) (c_load : Int32) (c_gone : Int32) (c_held : Int32) (c_strong : Int32) (c_done : Int32) (c_rn : RT) (c_rt : RT) (c_letters : AR) (c_size : Int32) (c_rp : RT) (c_seen : AR) (c_refs : AR) (c_inRow : Int32) (c_isPic : Int32) (z : Int32 × AR) (h : fX3_is p1 p2 c_rn c_refs = some z) : cRW l yX3_is wsX3_is (RMk 3 69) sk (dC, dI) (tyz cI cC) sz (zwX cI cC f c_lanes c_spots c_byLeaps c_load c_gone c_held c_strong c_done c_rn c_rt c_letters c_size c_rp c_seen c_refs c_inRow c_isPic) (zwX cI cC f c_lanes c_spots c_byLeaps c_load c_gone c_held c_strong c_done c_rn c_rt c_letters c_size c_rp c_seen z.2 c_inRow c_isPic) [.ref (f 0), .int p1, .int p2] z.1 := by
  refine ofRW (cc := cX3_is) (maxL := 4) (ret := (some .int)) (own := RX3) (plainFor_of_name (by decide)) rfl rfl (Nat.le_of_ble_eq_true rfl) ?_
  intro p e s m args below meth c A hA hx hb hml hr hts hown hlocks hE hK hP hD hS ls hl
  generalize hQ : qRW _ _ _ _ _ _ _ = Q
  have hl : lv_has ls 4 [(0, .ref (f 0)), (1, .int p1), (2, .int p2)] := hl
  have hiX3 : ∀ w ∈ wsX30, w ∈ wsX3_is := fun w h => List.mem_cons_of_mem _ (List.mem_append_left _ (List.mem_append_right _ h))
  have hw1 := hts (Cond.fieldLink RX3 20 "FloeToFloe" "now" "LFloeToFloe$River;") (List.mem_of_getElem? (i := 1) rfl)
  rw [fX3_is] at h
  refine lv_aload_n hx hb dX3_is_0 rfl (lv_at hl 0 rfl) ?_
  refine lv_iload_n hx hb dX3_is_1 rfl (lv_at hl 1 rfl) ?_
  refine lv_iload_n hx hb dX3_is_2 rfl (lv_at hl 2 rfl) ?_
  obtain ⟨q3, e3, h⟩ := bd_some h
  refine g_roV (wc := (zwX cI cC f c_lanes c_spots c_byLeaps c_load c_gone c_held c_strong c_done c_rn c_rt c_letters c_size c_rp c_seen c_refs c_inRow c_isPic)) ⟨hx, hb, hml, hown, hts⟩ hE hK hP hS [0, 1, 2, 3, 4, 5, 6, 7, 8, 9, 10, 11, 12, 13, 14, 15, 16, 17, 18, 19, 20, 21, 22, 23, 24, 25, 26] rfl (mX3_faultOfLook l dC dI cI cC sk f p1 p2 c_lanes c_spots c_byLeaps c_load c_gone c_held c_strong c_done c_rn c_rt c_letters c_size c_rp c_seen c_refs c_inRow c_isPic q3 e3) (cwV 2 hts gX3_is_X3_faultOfLook rfl rfl rfl (by decide +kernel) ⟨Nat.le_of_ble_eq_true rfl, Nat.le_of_ble_eq_true rfl⟩) (va_recv hK hP (ci := 3) (q0 := 0) rfl rfl) (As := [.int p1, .int p2]) (rest := []) rfl hl.1 rfl (Nat.le_of_ble_eq_true rfl) dX3_is_3 ⟨Nat.zero_le _, Nat.zero_le _⟩ (fun H locs hP hS => ?_)
  refine lv_istore_n (lv' := [(3, .int q3), (0, .ref (f 0)), (1, .int p1), (2, .int p2)]) hx hb dX3_is_6 rfl hl (by decide) rfl (fun ls hl => ?_)
  refine lv_iload_n hx hb dX3_is_7 rfl (lv_at hl 0 rfl) ?_
  refine lv_if_eq (tgt := 19) hx hb dX3_is_8 (by decide) (fun c8 => ?_) (fun c8 => ?_)
  · have h := itT c8 h
    refine lv_aload_n hx hb dX3_is_19 rfl (lv_at hl 1 rfl) ?_
    refine va_get (D := (dC, dI)) (ci := 3) (v := .ref (f 5)) (C := RX3) (T := TX3) (N := 9) hx hb hts hiX3 hown hK hP 0 rfl rfl 1 (by decide) hw1 (fun _ h9 => h9) rfl dX3_is_20 ?_
    refine lv_iload_n hx hb dX3_is_23 rfl (lv_at hl 2 rfl) ?_
    refine lv_iload_n hx hb dX3_is_24 rfl (lv_at hl 3 rfl) ?_
    obtain ⟨q25, e25, h⟩ := bd_some h
    refine g_roV (wc := (zwR cI cC (fun k => f (k + 5)) c_rn)) ⟨hx, hb, hml, hown, hts⟩ hE hK hP hS [5, 6, 7, 8, 9, 10] rfl (mX0_spotOf l dC dI cI cC sk (fun k => f (k + 5)) p1 p2 c_rn q25 e25) (cwV 2 hts gX3_is_X0_spotOf rfl rfl rfl (by decide +kernel) ⟨Nat.le_of_ble_eq_true rfl, Nat.le_of_ble_eq_true rfl⟩) (va_recv hK hP (ci := 0) (q0 := 5) rfl rfl) (As := [.int p1, .int p2]) (rest := []) rfl hl.1 rfl (Nat.le_of_ble_eq_true rfl) dX3_is_25 ⟨Nat.zero_le _, Nat.zero_le _⟩ (fun H locs hP hS => ?_)
    subst hQ
    exact retRW (zz := ((q25, c_refs) : Int32 × AR)) (fun z => z.1) (fun z => (zwX cI cC f c_lanes c_spots c_byLeaps c_load c_gone c_held c_strong c_done c_rn c_rt c_letters c_size c_rp c_seen z.2 c_inRow c_isPic)) hx hb hr hlocks rfl hS h rfl hP dX3_is_28
  have h := itF c8 h
  refine lv_aload_n hx hb dX3_is_11 rfl (lv_at hl 1 rfl) ?_
  refine lv_iload_n hx hb dX3_is_12 rfl (lv_at hl 0 rfl) ?_
  obtain ⟨q13, e13, h⟩ := bd_some h
  refine g_rwA (wc := (zwX cI cC f c_lanes c_spots c_byLeaps c_load c_gone c_held c_strong c_done c_rn c_rt c_letters c_size c_rp c_seen c_refs c_inRow c_isPic)) (wc' := (zwX cI cC f c_lanes c_spots c_byLeaps c_load c_gone c_held c_strong c_done c_rn c_rt c_letters c_size c_rp c_seen q13.2 c_inRow c_isPic)) ⟨hx, hb, hml, hown, hts⟩ hE hK hA hP hD hS rfl (mX3_refuse l dC dI cI cC sk f H.size q3 c_lanes c_spots c_byLeaps c_load c_gone c_held c_strong c_done c_rn c_rt c_letters c_size c_rp c_seen c_refs c_inRow c_isPic q13 e13) (cwV 1 hts gX3_is_X3_refuse rfl rfl rfl (by decide +kernel) ⟨Nat.le_of_ble_eq_true rfl, Nat.le_of_ble_eq_true rfl⟩) (va_recv hK hP (ci := 3) (q0 := 0) rfl rfl) (As := [.int q3]) (rest := []) rfl hl.1 rfl (Nat.le_of_ble_eq_true rfl) dX3_is_13 ⟨Nat.zero_le _, Nat.zero_le _⟩ (fun H locs hP hD hS => ?_)
  have hP : va_P (dC, dI) vwCl (zwX cI cC f c_lanes c_spots c_byLeaps c_load c_gone c_held c_strong c_done c_rn c_rt c_letters c_size c_rp c_seen q13.2 c_inRow c_isPic) H := hP
  have hD : va_D A (zwX cI cC f c_lanes c_spots c_byLeaps c_load c_gone c_held c_strong c_done c_rn c_rt c_letters c_size c_rp c_seen q13.2 c_inRow c_isPic) := hD
  refine lv_goto (tgt := 28) hx hb dX3_is_16 (by decide) ?_
  subst hQ
  exact retRW (zz := ((q13.1, q13.2) : Int32 × AR)) (fun z => z.1) (fun z => (zwX cI cC f c_lanes c_spots c_byLeaps c_load c_gone c_held c_strong c_done c_rn c_rt c_letters c_size c_rp c_seen z.2 c_inRow c_isPic)) hx hb hr hlocks rfl hS h rfl hP dX3_is_28
theorem dX3_bears_0 : decode cX3_bears 0 = .ok (.aload_n 0, 1) := by decide +kernel
theorem dX3_bears_1 : decode cX3_bears 1 = .ok (.iload_n 1, 1) := by decide +kernel
theorem dX3_bears_2 : decode cX3_bears 2 = .ok (.iload_n 2, 1) := by decide +kernel
theorem dX3_bears_3 : decode cX3_bears 3 = .ok (.invokevirtual 77, 3) := by decide +kernel
theorem dX3_bears_6 : decode cX3_bears 6 = .ok (.istore_n 3, 1) := by decide +kernel
theorem dX3_bears_7 : decode cX3_bears 7 = .ok (.iload_n 3, 1) := by decide +kernel
theorem dX3_bears_8 : decode cX3_bears 8 = .ok (.ifCond .eq 11, 3) := by decide +kernel
theorem dX3_bears_11 : decode cX3_bears 11 = .ok (.aload_n 0, 1) := by decide +kernel
theorem dX3_bears_12 : decode cX3_bears 12 = .ok (.iload_n 3, 1) := by decide +kernel
theorem dX3_bears_13 : decode cX3_bears 13 = .ok (.invokevirtual 54, 3) := by decide +kernel
theorem dX3_bears_16 : decode cX3_bears 16 = .ok (.goto 12, 3) := by decide +kernel
theorem dX3_bears_19 : decode cX3_bears 19 = .ok (.aload_n 0, 1) := by decide +kernel
theorem dX3_bears_20 : decode cX3_bears 20 = .ok (.getfield 20, 3) := by decide +kernel
theorem dX3_bears_23 : decode cX3_bears 23 = .ok (.iload_n 1, 1) := by decide +kernel
theorem dX3_bears_24 : decode cX3_bears 24 = .ok (.iload_n 2, 1) := by decide +kernel
theorem dX3_bears_25 : decode cX3_bears 25 = .ok (.invokevirtual 83, 3) := by decide +kernel
theorem dX3_bears_28 : decode cX3_bears 28 = .ok (.ireturn, 1) := by decide +kernel
set_option maxRecDepth 20000 in
theorem ggX3_bears_X3_faultOfLook : GoodIn wsX3_bears wsX3_faultOfLook := goodIn_r _ [6, 1, 7, 8, 9, 10, 11, 12, 13, 14, 5, 15, 32, 33, 34, 35, 36, 37, 38, 39, 40, 41, 42, 43, 44, 45, 46, 47, 48] (by decide +kernel) (by decide +kernel)
set_option maxRecDepth 20000 in
theorem gX3_bears_X3_faultOfLook : GoodIn wsX3_bears (wsV RX3 77 RX3 yX3_faultOfLook wsX3_faultOfLook) := goodIn_app (goodIn_of _ (by decide +kernel)) ggX3_bears_X3_faultOfLook
set_option maxRecDepth 20000 in
theorem ggX3_bears_X3_refuse : GoodIn wsX3_bears wsX3_refuse := goodIn_r _ [19, 20, 32, 33, 34, 35, 36, 37, 38, 39, 40] (by decide +kernel) (by decide +kernel)
set_option maxRecDepth 20000 in
theorem gX3_bears_X3_refuse : GoodIn wsX3_bears (wsV RX3 54 RX3 yX3_refuse wsX3_refuse) := goodIn_app (goodIn_of _ (by decide +kernel)) ggX3_bears_X3_refuse
set_option maxRecDepth 20000 in
theorem ggX3_bears_X0_strengthOf : GoodIn wsX3_bears wsX0_strengthOf := goodIn_r _ [24, 25, 26, 27, 28, 29, 30, 31, 8, 9, 10, 11, 12, 41, 42, 43, 44, 45, 46, 47, 48] (by decide +kernel) (by decide +kernel)
set_option maxRecDepth 20000 in
theorem gX3_bears_X0_strengthOf : GoodIn wsX3_bears (wsV RX3 83 RX0 yX0_strengthOf wsX0_strengthOf) := goodIn_app (goodIn_of _ (by decide +kernel)) ggX3_bears_X0_strengthOf
set_option maxHeartbeats 4000000 in
set_option maxRecDepth 100000 in
theorem mX3_bears (l : Launch) (dC : Nat → ClassId) (dI : Nat → Nat → Nat) (cI cC : ClassId) (sk : (Nat → Nat) × (Nat → Nat)) (f : Nat → Nat) (sz : Nat) (p1 : Int32) (p2 : Int32) (c_lanes : AR) (c_spots : AR) (c_byLeaps : AR) (c_load : Int32) (c_gone : Int32) (c_held : Int32) (c_strong : Int32) (c_done : Int32) (c_rn : RT) (c_rt : RT) (c_letters : AR) (c_size : Int32) (c_rp : RT) (c_seen : AR) (c_refs : AR) (c_inRow : Int32) (c_isPic : Int32) (z : Int32 × AR) (h : fX3_bears p1 p2 c_rn c_refs = some z) : cRW l yX3_bears wsX3_bears (RMk 2 44) sk (dC, dI) (tyz cI cC) sz (zwX cI cC f c_lanes c_spots c_byLeaps c_load c_gone c_held c_strong c_done c_rn c_rt c_letters c_size c_rp c_seen c_refs c_inRow c_isPic) (zwX cI cC f c_lanes c_spots c_byLeaps c_load c_gone c_held c_strong c_done c_rn c_rt c_letters c_size c_rp c_seen z.2 c_inRow c_isPic) [.ref (f 0), .int p1, .int p2] z.1 := by
  refine ofRW (cc := cX3_bears) (maxL := 4) (ret := (some .int)) (own := RX3) (plainFor_of_name (by decide)) rfl rfl (Nat.le_of_ble_eq_true rfl) ?_
  intro p e s m args below meth c A hA hx hb hml hr hts hown hlocks hE hK hP hD hS ls hl
  generalize hQ : qRW _ _ _ _ _ _ _ = Q
  have hl : lv_has ls 4 [(0, .ref (f 0)), (1, .int p1), (2, .int p2)] := hl
  have hiX3 : ∀ w ∈ wsX30, w ∈ wsX3_bears := fun w h => List.mem_cons_of_mem _ (List.mem_append_left _ (List.mem_append_right _ h))
  have hw1 := hts (Cond.fieldLink RX3 20 "FloeToFloe" "now" "LFloeToFloe$River;") (List.mem_of_getElem? (i := 1) rfl)
  rw [fX3_bears] at h
  refine lv_aload_n hx hb dX3_bears_0 rfl (lv_at hl 0 rfl) ?_
  refine lv_iload_n hx hb dX3_bears_1 rfl (lv_at hl 1 rfl) ?_
  refine lv_iload_n hx hb dX3_bears_2 rfl (lv_at hl 2 rfl) ?_
  obtain ⟨q3, e3, h⟩ := bd_some h
  refine g_roV (wc := (zwX cI cC f c_lanes c_spots c_byLeaps c_load c_gone c_held c_strong c_done c_rn c_rt c_letters c_size c_rp c_seen c_refs c_inRow c_isPic)) ⟨hx, hb, hml, hown, hts⟩ hE hK hP hS [0, 1, 2, 3, 4, 5, 6, 7, 8, 9, 10, 11, 12, 13, 14, 15, 16, 17, 18, 19, 20, 21, 22, 23, 24, 25, 26] rfl (mX3_faultOfLook l dC dI cI cC sk f p1 p2 c_lanes c_spots c_byLeaps c_load c_gone c_held c_strong c_done c_rn c_rt c_letters c_size c_rp c_seen c_refs c_inRow c_isPic q3 e3) (cwV 2 hts gX3_bears_X3_faultOfLook rfl rfl rfl (by decide +kernel) ⟨Nat.le_of_ble_eq_true rfl, Nat.le_of_ble_eq_true rfl⟩) (va_recv hK hP (ci := 3) (q0 := 0) rfl rfl) (As := [.int p1, .int p2]) (rest := []) rfl hl.1 rfl (Nat.le_of_ble_eq_true rfl) dX3_bears_3 ⟨Nat.zero_le _, Nat.zero_le _⟩ (fun H locs hP hS => ?_)
  refine lv_istore_n (lv' := [(3, .int q3), (0, .ref (f 0)), (1, .int p1), (2, .int p2)]) hx hb dX3_bears_6 rfl hl (by decide) rfl (fun ls hl => ?_)
  refine lv_iload_n hx hb dX3_bears_7 rfl (lv_at hl 0 rfl) ?_
  refine lv_if_eq (tgt := 19) hx hb dX3_bears_8 (by decide) (fun c8 => ?_) (fun c8 => ?_)
  · have h := itT c8 h
    refine lv_aload_n hx hb dX3_bears_19 rfl (lv_at hl 1 rfl) ?_
    refine va_get (D := (dC, dI)) (ci := 3) (v := .ref (f 5)) (C := RX3) (T := TX3) (N := 9) hx hb hts hiX3 hown hK hP 0 rfl rfl 1 (by decide) hw1 (fun _ h9 => h9) rfl dX3_bears_20 ?_
    refine lv_iload_n hx hb dX3_bears_23 rfl (lv_at hl 2 rfl) ?_
    refine lv_iload_n hx hb dX3_bears_24 rfl (lv_at hl 3 rfl) ?_
    obtain ⟨q25, e25, h⟩ := bd_some h
    refine g_roV (wc := (zwR cI cC (fun k => f (k + 5)) c_rn)) ⟨hx, hb, hml, hown, hts⟩ hE hK hP hS [5, 6, 7, 8, 9, 10] rfl (mX0_strengthOf l dC dI cI cC sk (fun k => f (k + 5)) p1 p2 c_rn q25 e25) (cwV 2 hts gX3_bears_X0_strengthOf rfl rfl rfl (by decide +kernel) ⟨Nat.le_of_ble_eq_true rfl, Nat.le_of_ble_eq_true rfl⟩) (va_recv hK hP (ci := 0) (q0 := 5) rfl rfl) (As := [.int p1, .int p2]) (rest := []) rfl hl.1 rfl (Nat.le_of_ble_eq_true rfl) dX3_bears_25 ⟨Nat.zero_le _, Nat.zero_le _⟩ (fun H locs hP hS => ?_)
    subst hQ
    exact retRW (zz := ((q25, c_refs) : Int32 × AR)) (fun z => z.1) (fun z => (zwX cI cC f c_lanes c_spots c_byLeaps c_load c_gone c_held c_strong c_done c_rn c_rt c_letters c_size c_rp c_seen z.2 c_inRow c_isPic)) hx hb hr hlocks rfl hS h rfl hP dX3_bears_28
  have h := itF c8 h
  refine lv_aload_n hx hb dX3_bears_11 rfl (lv_at hl 1 rfl) ?_
  refine lv_iload_n hx hb dX3_bears_12 rfl (lv_at hl 0 rfl) ?_
  obtain ⟨q13, e13, h⟩ := bd_some h
  refine g_rwA (wc := (zwX cI cC f c_lanes c_spots c_byLeaps c_load c_gone c_held c_strong c_done c_rn c_rt c_letters c_size c_rp c_seen c_refs c_inRow c_isPic)) (wc' := (zwX cI cC f c_lanes c_spots c_byLeaps c_load c_gone c_held c_strong c_done c_rn c_rt c_letters c_size c_rp c_seen q13.2 c_inRow c_isPic)) ⟨hx, hb, hml, hown, hts⟩ hE hK hA hP hD hS rfl (mX3_refuse l dC dI cI cC sk f H.size q3 c_lanes c_spots c_byLeaps c_load c_gone c_held c_strong c_done c_rn c_rt c_letters c_size c_rp c_seen c_refs c_inRow c_isPic q13 e13) (cwV 1 hts gX3_bears_X3_refuse rfl rfl rfl (by decide +kernel) ⟨Nat.le_of_ble_eq_true rfl, Nat.le_of_ble_eq_true rfl⟩) (va_recv hK hP (ci := 3) (q0 := 0) rfl rfl) (As := [.int q3]) (rest := []) rfl hl.1 rfl (Nat.le_of_ble_eq_true rfl) dX3_bears_13 ⟨Nat.zero_le _, Nat.zero_le _⟩ (fun H locs hP hD hS => ?_)
  have hP : va_P (dC, dI) vwCl (zwX cI cC f c_lanes c_spots c_byLeaps c_load c_gone c_held c_strong c_done c_rn c_rt c_letters c_size c_rp c_seen q13.2 c_inRow c_isPic) H := hP
  have hD : va_D A (zwX cI cC f c_lanes c_spots c_byLeaps c_load c_gone c_held c_strong c_done c_rn c_rt c_letters c_size c_rp c_seen q13.2 c_inRow c_isPic) := hD
  refine lv_goto (tgt := 28) hx hb dX3_bears_16 (by decide) ?_
  subst hQ
  exact retRW (zz := ((q13.1, q13.2) : Int32 × AR)) (fun z => z.1) (fun z => (zwX cI cC f c_lanes c_spots c_byLeaps c_load c_gone c_held c_strong c_done c_rn c_rt c_letters c_size c_rp c_seen z.2 c_inRow c_isPic)) hx hb hr hlocks rfl hS h rfl hP dX3_bears_28
