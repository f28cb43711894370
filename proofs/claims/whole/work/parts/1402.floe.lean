theorem dX3_floe_0 : decode cX3_floe 0 = .ok (.aload_n 0, 1) := by decide +kernel
theorem dX3_floe_1 : decode cX3_floe 1 = .ok (.getfield 20, 3) := by decide +kernel
theorem dX3_floe_4 : decode cX3_floe 4 = .ok (.iload_n 1, 1) := by decide +kernel
theorem dX3_floe_5 : decode cX3_floe 5 = .ok (.invokevirtual 69, 3) := by decide +kernel
theorem dX3_floe_8 : decode cX3_floe 8 = .ok (.ifCond .ne 9, 3) := by decide +kernel
theorem dX3_floe_11 : decode cX3_floe 11 = .ok (.aload_n 0, 1) := by decide +kernel
theorem dX3_floe_12 : decode cX3_floe 12 = .ok (.iconst (-1), 1) := by decide +kernel
theorem dX3_floe_13 : decode cX3_floe 13 = .ok (.invokevirtual 54, 3) := by decide +kernel
theorem dX3_floe_16 : decode cX3_floe 16 = .ok (.ireturn, 1) := by decide +kernel
theorem dX3_floe_17 : decode cX3_floe 17 = .ok (.iload_n 2, 1) := by decide +kernel
theorem dX3_floe_18 : decode cX3_floe 18 = .ok (.ifCond .lt 8, 3) := by decide +kernel
theorem dX3_floe_21 : decode cX3_floe 21 = .ok (.iload_n 2, 1) := by decide +kernel
theorem dX3_floe_22 : decode cX3_floe 22 = .ok (.iconst 4, 1) := by decide +kernel
theorem dX3_floe_23 : decode cX3_floe 23 = .ok (.if_icmp .le 10, 3) := by decide +kernel
theorem dX3_floe_26 : decode cX3_floe 26 = .ok (.aload_n 0, 1) := by decide +kernel
theorem dX3_floe_27 : decode cX3_floe 27 = .ok (.bipush (-2), 2) := by decide +kernel
theorem dX3_floe_29 : decode cX3_floe 29 = .ok (.invokevirtual 54, 3) := by decide +kernel
theorem dX3_floe_32 : decode cX3_floe 32 = .ok (.ireturn, 1) := by decide +kernel
theorem dX3_floe_33 : decode cX3_floe 33 = .ok (.aload_n 0, 1) := by decide +kernel
theorem dX3_floe_34 : decode cX3_floe 34 = .ok (.getfield 20, 3) := by decide +kernel
theorem dX3_floe_37 : decode cX3_floe 37 = .ok (.iload_n 1, 1) := by decide +kernel
theorem dX3_floe_38 : decode cX3_floe 38 = .ok (.iload_n 2, 1) := by decide +kernel
theorem dX3_floe_39 : decode cX3_floe 39 = .ok (.invokevirtual 73, 3) := by decide +kernel
theorem dX3_floe_42 : decode cX3_floe 42 = .ok (.ireturn, 1) := by decide +kernel
set_option maxRecDepth 20000 in
theorem ggX3_floe_X0_has : GoodIn wsX3_floe wsX0_has := goodIn_r _ [6, 7, 33, 34, 35, 36, 37, 38, 39, 40] (by decide +kernel) (by decide +kernel)
set_option maxRecDepth 20000 in
theorem gX3_floe_X0_has : GoodIn wsX3_floe (wsV RX3 69 RX0 yX0_has wsX0_has) := goodIn_app (goodIn_of _ (by decide +kernel)) ggX3_floe_X0_has
set_option maxRecDepth 20000 in
theorem ggX3_floe_X3_refuse : GoodIn wsX3_floe wsX3_refuse := goodIn_r _ [12, 13, 24, 25, 26, 27, 28, 29, 30, 31, 32] (by decide +kernel) (by decide +kernel)
set_option maxRecDepth 20000 in
theorem gX3_floe_X3_refuse : GoodIn wsX3_floe (wsV RX3 54 RX3 yX3_refuse wsX3_refuse) := goodIn_app (goodIn_of _ (by decide +kernel)) ggX3_floe_X3_refuse
set_option maxRecDepth 20000 in
theorem ggX3_floe_X0_toldOf : GoodIn wsX3_floe wsX0_toldOf := goodIn_r _ [17, 18, 19, 20, 21, 22, 23, 3, 4, 5, 6, 7, 33, 34, 35, 36, 37, 38, 39, 40] (by decide +kernel) (by decide +kernel)
set_option maxRecDepth 20000 in
theorem gX3_floe_X0_toldOf : GoodIn wsX3_floe (wsV RX3 73 RX0 yX0_toldOf wsX0_toldOf) := goodIn_app (goodIn_of _ (by decide +kernel)) ggX3_floe_X0_toldOf
set_option maxHeartbeats 4000000 in
set_option maxRecDepth 100000 in
theorem mX3_floe (l : Launch) (dC : Nat → ClassId) (dI : Nat → Nat → Nat) (cI cC : ClassId) (sk : (Nat → Nat) × (Nat → Nat)) (f : Nat → Nat) (sz : Nat) (p1 : Int32) (p2 : Int32) (c_lanes : AR) (c_spots : AR) (c_byLeaps : AR) (c_load : Int32) (c_gone : Int32) (c_held : Int32) (c_strong : Int32) (c_done : Int32) (c_rn : RT) (c_rt : RT) (c_letters : AR) (c_size : Int32) (c_rp : RT) (c_seen : AR) (c_refs : AR) (c_inRow : Int32) (c_isPic : Int32) (z : Int32 × AR) (h : fX3_floe p1 p2 c_rn c_refs = some z) : cRW l yX3_floe wsX3_floe (RMk 2 43) sk (dC, dI) (tyz cI cC) sz (zwX cI cC f c_lanes c_spots c_byLeaps c_load c_gone c_held c_strong c_done c_rn c_rt c_letters c_size c_rp c_seen c_refs c_inRow c_isPic) (zwX cI cC f c_lanes c_spots c_byLeaps c_load c_gone c_held c_strong c_done c_rn c_rt c_letters c_size c_rp c_seen z.2 c_inRow c_isPic) [.ref (f 0), .int p1, .int p2] z.1 := by
  refine ofRW (cc := cX3_floe) (maxL := 3) (ret := (some .int)) (own := RX3) (plainFor_of_name (by decide)) rfl rfl (Nat.le_of_ble_eq_true rfl) ?_
  intro p e s m args below meth c A hA hx hb hml hr hts hown hlocks hE hK hP hD hS ls hl
  generalize hQ : qRW _ _ _ _ _ _ _ = Q
  have hl : lv_has ls 3 [(0, .ref (f 0)), (1, .int p1), (2, .int p2)] := hl
  have hiX3 : ∀ w ∈ wsX30, w ∈ wsX3_floe := fun w h => List.mem_cons_of_mem _ (List.mem_append_left _ (List.mem_append_right _ h))
  have hw1 := hts (Cond.fieldLink RX3 20 "FloeToFloe" "now" "LFloeToFloe$River;") (List.mem_of_getElem? (i := 1) rfl)
  rw [fX3_floe] at h
  refine lv_aload_n hx hb dX3_floe_0 rfl (lv_at hl 0 rfl) ?_
  refine va_get (D := (dC, dI)) (ci := 3) (v := .ref (f 5)) (C := RX3) (T := TX3) (N := 9) hx hb hts hiX3 hown hK hP 0 rfl rfl 1 (by decide) hw1 (fun _ h9 => h9) rfl dX3_floe_1 ?_
  refine lv_iload_n hx hb dX3_floe_4 rfl (lv_at hl 1 rfl) ?_
  obtain ⟨q5, e5, h⟩ := bd_some h
  refine g_roV (wc := (zwR cI cC (fun k => f (k + 5)) c_rn)) ⟨hx, hb, hml, hown, hts⟩ hE hK hP hS [5, 6, 7, 8, 9, 10] rfl (mX0_has l dC dI cI cC sk (fun k => f (k + 5)) p1 c_rn q5 e5) (cwV 1 hts gX3_floe_X0_has rfl rfl rfl (by decide +kernel) ⟨Nat.le_of_ble_eq_true rfl, Nat.le_of_ble_eq_true rfl⟩) (va_recv hK hP (ci := 0) (q0 := 5) rfl rfl) (As := [.int p1]) (rest := []) rfl hl.1 rfl (Nat.le_of_ble_eq_true rfl) dX3_floe_5 ⟨Nat.zero_le _, Nat.zero_le _⟩ (fun H locs hP hS => ?_)
  refine lv_if_ne (tgt := 17) hx hb dX3_floe_8 (by decide) (fun c8 => ?_) (fun c8 => ?_)
  · have h := itF c8 h
    refine lv_iload_n hx hb dX3_floe_17 rfl (lv_at hl 2 rfl) ?_
    refine jnW (fun (v26 : Unit) => ∀ (H : Heap) (locs : List Loc) (ls : Array Slot), va_P (dC, dI) vwCl (zwX cI cC f c_lanes c_spots c_byLeaps c_load c_gone c_held c_strong c_done c_rn c_rt c_letters c_size c_rp c_seen c_refs c_inRow c_isPic) H → va_D A (zwX cI cC f c_lanes c_spots c_byLeaps c_load c_gone c_held c_strong c_done c_rn c_rt c_letters c_size c_rp c_seen c_refs c_inRow c_isPic) → va_S A s.heap H locs → lv_has ls 3 [(0, .ref (f 0))] → W p l e (RMk 2 43) s m args below meth c H locs 0 0 Q (F0 m 26 ls [])) h (fun v26 h H locs ls hP hD hS hl => ?_) (fun J26 j26 h => ?_)
    · refine lv_aload_n hx hb dX3_floe_26 rfl (lv_at hl 0 rfl) ?_
      refine lv_bipush (v := (-2 : Int32)) hx hb dX3_floe_27 (by decide) ?_
      obtain ⟨q29, e29, h⟩ := bd_some h
      refine g_rwA (wc := (zwX cI cC f c_lanes c_spots c_byLeaps c_load c_gone c_held c_strong c_done c_rn c_rt c_letters c_size c_rp c_seen c_refs c_inRow c_isPic)) (wc' := (zwX cI cC f c_lanes c_spots c_byLeaps c_load c_gone c_held c_strong c_done c_rn c_rt c_letters c_size c_rp c_seen q29.2 c_inRow c_isPic)) ⟨hx, hb, hml, hown, hts⟩ hE hK hA hP hD hS rfl (mX3_refuse l dC dI cI cC sk f H.size (-2 : Int32) c_lanes c_spots c_byLeaps c_load c_gone c_held c_strong c_done c_rn c_rt c_letters c_size c_rp c_seen c_refs c_inRow c_isPic q29 e29) (cwV 1 hts gX3_floe_X3_refuse rfl rfl rfl (by decide +kernel) ⟨Nat.le_of_ble_eq_true rfl, Nat.le_of_ble_eq_true rfl⟩) (va_recv hK hP (ci := 3) (q0 := 0) rfl rfl) (As := [.int (-2 : Int32)]) (rest := []) rfl hl.1 rfl (Nat.le_of_ble_eq_true rfl) dX3_floe_29 ⟨Nat.zero_le _, Nat.zero_le _⟩ (fun H locs hP hD hS => ?_)
      have hP : va_P (dC, dI) vwCl (zwX cI cC f c_lanes c_spots c_byLeaps c_load c_gone c_held c_strong c_done c_rn c_rt c_letters c_size c_rp c_seen q29.2 c_inRow c_isPic) H := hP
      have hD : va_D A (zwX cI cC f c_lanes c_spots c_byLeaps c_load c_gone c_held c_strong c_done c_rn c_rt c_letters c_size c_rp c_seen q29.2 c_inRow c_isPic) := hD
      subst hQ
      exact retRW (zz := ((q29.1, q29.2) : Int32 × AR)) (fun z => z.1) (fun z => (zwX cI cC f c_lanes c_spots c_byLeaps c_load c_gone c_held c_strong c_done c_rn c_rt c_letters c_size c_rp c_seen z.2 c_inRow c_isPic)) hx hb hr hlocks rfl hS h rfl hP dX3_floe_32
    refine lv_if_lt (tgt := 26) hx hb dX3_floe_18 (by decide) (fun c18 => ?_) (fun c18 => ?_)
    · have h := itT c18 h
      exact j26 _ h _ _ _ hP hD hS (lv_sub hl [0] rfl)
    have h := itF c18 h
    refine lv_iload_n hx hb dX3_floe_21 rfl (lv_at hl 2 rfl) ?_
    refine lv_iconst (v := (4 : Int32)) hx hb dX3_floe_22 (by decide) ?_
    refine lv_icmp_le (tgt := 33) hx hb dX3_floe_23 (by decide) (fun c23 => ?_) (fun c23 => ?_)
    · have h := itT c23 h
      refine lv_aload_n hx hb dX3_floe_33 rfl (lv_at hl 0 rfl) ?_
      refine va_get (D := (dC, dI)) (ci := 3) (v := .ref (f 5)) (C := RX3) (T := TX3) (N := 9) hx hb hts hiX3 hown hK hP 0 rfl rfl 1 (by decide) hw1 (fun _ h9 => h9) rfl dX3_floe_34 ?_
      refine lv_iload_n hx hb dX3_floe_37 rfl (lv_at hl 1 rfl) ?_
      refine lv_iload_n hx hb dX3_floe_38 rfl (lv_at hl 2 rfl) ?_
      obtain ⟨q39, e39, h⟩ := bd_some h
      refine g_roV (wc := (zwR cI cC (fun k => f (k + 5)) c_rn)) ⟨hx, hb, hml, hown, hts⟩ hE hK hP hS [5, 6, 7, 8, 9, 10] rfl (mX0_toldOf l dC dI cI cC sk (fun k => f (k + 5)) p1 p2 c_rn q39 e39) (cwV 2 hts gX3_floe_X0_toldOf rfl rfl rfl (by decide +kernel) ⟨Nat.le_of_ble_eq_true rfl, Nat.le_of_ble_eq_true rfl⟩) (va_recv hK hP (ci := 0) (q0 := 5) rfl rfl) (As := [.int p1, .int p2]) (rest := []) rfl hl.1 rfl (Nat.le_of_ble_eq_true rfl) dX3_floe_39 ⟨Nat.zero_le _, Nat.zero_le _⟩ (fun H locs hP hS => ?_)
      subst hQ
      exact retRW (zz := ((q39, c_refs) : Int32 × AR)) (fun z => z.1) (fun z => (zwX cI cC f c_lanes c_spots c_byLeaps c_load c_gone c_held c_strong c_done c_rn c_rt c_letters c_size c_rp c_seen z.2 c_inRow c_isPic)) hx hb hr hlocks rfl hS h rfl hP dX3_floe_42
    have h := itF c23 h
    exact j26 _ h _ _ _ hP hD hS (lv_sub hl [0] rfl)
  have h := itT c8 h
  refine lv_aload_n hx hb dX3_floe_11 rfl (lv_at hl 0 rfl) ?_
  refine lv_iconst (v := (-1 : Int32)) hx hb dX3_floe_12 (by decide) ?_
  obtain ⟨q13, e13, h⟩ := bd_some h
  refine g_rwA (wc := (zwX cI cC f c_lanes c_spots c_byLeaps c_load c_gone c_held c_strong c_done c_rn c_rt c_letters c_size c_rp c_seen c_refs c_inRow c_isPic)) (wc' := (zwX cI cC f c_lanes c_spots c_byLeaps c_load c_gone c_held c_strong c_done c_rn c_rt c_letters c_size c_rp c_seen q13.2 c_inRow c_isPic)) ⟨hx, hb, hml, hown, hts⟩ hE hK hA hP hD hS rfl (mX3_refuse l dC dI cI cC sk f H.size (-1 : Int32) c_lanes c_spots c_byLeaps c_load c_gone c_held c_strong c_done c_rn c_rt c_letters c_size c_rp c_seen c_refs c_inRow c_isPic q13 e13) (cwV 1 hts gX3_floe_X3_refuse rfl rfl rfl (by decide +kernel) ⟨Nat.le_of_ble_eq_true rfl, Nat.le_of_ble_eq_true rfl⟩) (va_recv hK hP (ci := 3) (q0 := 0) rfl rfl) (As := [.int (-1 : Int32)]) (rest := []) rfl hl.1 rfl (Nat.le_of_ble_eq_true rfl) dX3_floe_13 ⟨Nat.zero_le _, Nat.zero_le _⟩ (fun H locs hP hD hS => ?_)
  have hP : va_P (dC, dI) vwCl (zwX cI cC f c_lanes c_spots c_byLeaps c_load c_gone c_held c_strong c_done c_rn c_rt c_letters c_size c_rp c_seen q13.2 c_inRow c_isPic) H := hP
  have hD : va_D A (zwX cI cC f c_lanes c_spots c_byLeaps c_load c_gone c_held c_strong c_done c_rn c_rt c_letters c_size c_rp c_seen q13.2 c_inRow c_isPic) := hD
  subst hQ
  exact retRW (zz := ((q13.1, q13.2) : Int32 × AR)) (fun z => z.1) (fun z => (zwX cI cC f c_lanes c_spots c_byLeaps c_load c_gone c_held c_strong c_done c_rn c_rt c_letters c_size c_rp c_seen z.2 c_inRow c_isPic)) hx hb hr hlocks rfl hS h rfl hP dX3_floe_16
theorem dX3_faultOfLook_0 : decode cX3_faultOfLook 0 = .ok (.aload_n 0, 1) := by decide +kernel
theorem dX3_faultOfLook_1 : decode cX3_faultOfLook 1 = .ok (.getfield 20, 3) := by decide +kernel
theorem dX3_faultOfLook_4 : decode cX3_faultOfLook 4 = .ok (.iload_n 1, 1) := by decide +kernel
theorem dX3_faultOfLook_5 : decode cX3_faultOfLook 5 = .ok (.invokevirtual 69, 3) := by decide +kernel
theorem dX3_faultOfLook_8 : decode cX3_faultOfLook 8 = .ok (.ifCond .eq 13, 3) := by decide +kernel
theorem dX3_faultOfLook_11 : decode cX3_faultOfLook 11 = .ok (.iload_n 2, 1) := by decide +kernel
theorem dX3_faultOfLook_12 : decode cX3_faultOfLook 12 = .ok (.iconst 0, 1) := by decide +kernel
theorem dX3_faultOfLook_13 : decode cX3_faultOfLook 13 = .ok (.bipush 120, 2) := by decide +kernel
theorem dX3_faultOfLook_15 : decode cX3_faultOfLook 15 = .ok (.invokestatic 46, 3) := by decide +kernel
theorem dX3_faultOfLook_18 : decode cX3_faultOfLook 18 = .ok (.goto 4, 3) := by decide +kernel
theorem dX3_faultOfLook_21 : decode cX3_faultOfLook 21 = .ok (.iconst (-1), 1) := by decide +kernel
theorem dX3_faultOfLook_22 : decode cX3_faultOfLook 22 = .ok (.ireturn, 1) := by decide +kernel
set_option maxRecDepth 20000 in
theorem ggX3_faultOfLook_X0_has : GoodIn wsX3_faultOfLook wsX0_has := goodIn_r _ [6, 7, 21, 22, 23, 24, 25, 26, 27, 28] (by decide +kernel) (by decide +kernel)
set_option maxRecDepth 20000 in
theorem gX3_faultOfLook_X0_has : GoodIn wsX3_faultOfLook (wsV RX3 69 RX0 yX0_has wsX0_has) := goodIn_app (goodIn_of _ (by decide +kernel)) ggX3_faultOfLook_X0_has
set_option maxRecDepth 20000 in
theorem ggX3_faultOfLook_X3_outOf : GoodIn wsX3_faultOfLook wsX3_outOf := goodIn_r _ [11] (by decide +kernel) (by decide +kernel)
set_option maxRecDepth 20000 in
theorem gX3_faultOfLook_X3_outOf : GoodIn wsX3_faultOfLook (va_wsS RX3 46 yX3_outOf wsX3_outOf) := goodIn_app (goodIn_of _ (by decide +kernel)) ggX3_faultOfLook_X3_outOf
set_option maxHeartbeats 4000000 in
set_option maxRecDepth 100000 in
theorem mX3_faultOfLook (l : Launch) (dC : Nat → ClassId) (dI : Nat → Nat → Nat) (cI cC : ClassId) (sk : (Nat → Nat) × (Nat → Nat)) (f : Nat → Nat) (p1 : Int32) (p2 : Int32) (c_lanes : AR) (c_spots : AR) (c_byLeaps : AR) (c_load : Int32) (c_gone : Int32) (c_held : Int32) (c_strong : Int32) (c_done : Int32) (c_rn : RT) (c_rt : RT) (c_letters : AR) (c_size : Int32) (c_rp : RT) (c_seen : AR) (c_refs : AR) (c_inRow : Int32) (c_isPic : Int32) (z : Int32) (h : fX3_faultOfLook p1 p2 c_rn = some z) : cRO l yX3_faultOfLook wsX3_faultOfLook (RMk 1 22) sk (dC, dI) (tyz cI cC) (zwX cI cC f c_lanes c_spots c_byLeaps c_load c_gone c_held c_strong c_done c_rn c_rt c_letters c_size c_rp c_seen c_refs c_inRow c_isPic) [.ref (f 0), .int p1, .int p2] z := by
  refine ofRO (cc := cX3_faultOfLook) (maxL := 3) (ret := (some .int)) (own := RX3) (plainFor_of_name (by decide)) rfl rfl (Nat.le_of_ble_eq_true rfl) ?_
  intro p e s m args below meth c hx hb hml hr hts hown hlocks hE hK hP hS ls hl
  generalize hQ : qRO _ _ _ _ = Q
  have hl : lv_has ls 3 [(0, .ref (f 0)), (1, .int p1), (2, .int p2)] := hl
  have hiX3 : ∀ w ∈ wsX30, w ∈ wsX3_faultOfLook := fun w h => List.mem_cons_of_mem _ (List.mem_append_left _ (List.mem_append_right _ h))
  have hw1 := hts (Cond.fieldLink RX3 20 "FloeToFloe" "now" "LFloeToFloe$River;") (List.mem_of_getElem? (i := 1) rfl)
  rw [fX3_faultOfLook] at h
  refine lv_aload_n hx hb dX3_faultOfLook_0 rfl (lv_at hl 0 rfl) ?_
  refine va_get (D := (dC, dI)) (ci := 3) (v := .ref (f 5)) (C := RX3) (T := TX3) (N := 9) hx hb hts hiX3 hown hK hP 0 rfl rfl 1 (by decide) hw1 (fun _ h9 => h9) rfl dX3_faultOfLook_1 ?_
  refine lv_iload_n hx hb dX3_faultOfLook_4 rfl (lv_at hl 1 rfl) ?_
  obtain ⟨q5, e5, h⟩ := bd_some h
  refine g_roV (wc := (zwR cI cC (fun k => f (k + 5)) c_rn)) ⟨hx, hb, hml, hown, hts⟩ hE hK hP hS [5, 6, 7, 8, 9, 10] rfl (mX0_has l dC dI cI cC sk (fun k => f (k + 5)) p1 c_rn q5 e5) (cwV 1 hts gX3_faultOfLook_X0_has rfl rfl rfl (by decide +kernel) ⟨Nat.le_of_ble_eq_true rfl, Nat.le_of_ble_eq_true rfl⟩) (va_recv hK hP (ci := 0) (q0 := 5) rfl rfl) (As := [.int p1]) (rest := []) rfl hl.1 rfl (Nat.le_of_ble_eq_true rfl) dX3_faultOfLook_5 ⟨Nat.zero_le _, Nat.zero_le _⟩ (fun H locs hP hS => ?_)
  refine lv_if_eq (tgt := 21) hx hb dX3_faultOfLook_8 (by decide) (fun c8 => ?_) (fun c8 => ?_)
  · have h := itT c8 h
    refine lv_iconst (v := (-1 : Int32)) hx hb dX3_faultOfLook_21 (by decide) ?_
    subst hQ
    exact retRO hx hb hr hlocks rfl hS h dX3_faultOfLook_22
  have h := itF c8 h
  refine lv_iload_n hx hb dX3_faultOfLook_11 rfl (lv_at hl 2 rfl) ?_
  refine lv_iconst (v := (0 : Int32)) hx hb dX3_faultOfLook_12 (by decide) ?_
  refine lv_bipush (v := (120 : Int32)) hx hb dX3_faultOfLook_13 (by decide) ?_
  obtain ⟨q15, e15, h⟩ := bd_some h
  refine g_roS (wc := ([] : va_W)) ⟨hx, hb, hml, hown, hts⟩ hE hK hP hS [] rfl (mX3_outOf l dC dI cI cC sk  p2 (0 : Int32) (120 : Int32) q15 e15) (va_cwS 3 hts gX3_faultOfLook_X3_outOf rfl rfl rfl (by decide +kernel) ⟨Nat.le_of_ble_eq_true rfl, Nat.le_of_ble_eq_true rfl⟩) (As := [.int p2, .int (0 : Int32), .int (120 : Int32)]) (rest := []) rfl hl.1 rfl (Nat.le_of_ble_eq_true rfl) dX3_faultOfLook_15 ⟨Nat.zero_le _, Nat.zero_le _⟩ (fun H locs hP hS => ?_)
  refine lv_goto (tgt := 22) hx hb dX3_faultOfLook_18 (by decide) ?_
  subst hQ
  exact retRO hx hb hr hlocks rfl hS h dX3_faultOfLook_22
