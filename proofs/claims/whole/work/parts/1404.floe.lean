theorem dX3_pass_0 : decode cX3_pass 0 = .ok (.iload_n 1, 1) := by decide +kernel
theorem dX3_pass_1 : decode cX3_pass 1 = .ok (.iconst 1, 1) := by decide +kernel
theorem dX3_pass_2 : decode cX3_pass 2 = .ok (.bipush 60, 2) := by decide +kernel
theorem dX3_pass_4 : decode cX3_pass 4 = .ok (.invokestatic 46, 3) := by decide +kernel
theorem dX3_pass_7 : decode cX3_pass 7 = .ok (.istore_n 2, 1) := by decide +kernel
theorem dX3_pass_8 : decode cX3_pass 8 = .ok (.iload_n 2, 1) := by decide +kernel
theorem dX3_pass_9 : decode cX3_pass 9 = .ok (.ifCond .ne 20, 3) := by decide +kernel
theorem dX3_pass_12 : decode cX3_pass 12 = .ok (.aload_n 0, 1) := by decide +kernel
theorem dX3_pass_13 : decode cX3_pass 13 = .ok (.getfield 20, 3) := by decide +kernel
theorem dX3_pass_16 : decode cX3_pass 16 = .ok (.getfield 86, 3) := by decide +kernel
theorem dX3_pass_19 : decode cX3_pass 19 = .ok (.iload_n 1, 1) := by decide +kernel
theorem dX3_pass_20 : decode cX3_pass 20 = .ok (.iadd, 1) := by decide +kernel
theorem dX3_pass_21 : decode cX3_pass 21 = .ok (.bipush 60, 2) := by decide +kernel
theorem dX3_pass_23 : decode cX3_pass 23 = .ok (.if_icmp .le 6, 3) := by decide +kernel
theorem dX3_pass_26 : decode cX3_pass 26 = .ok (.bipush (-6), 2) := by decide +kernel
theorem dX3_pass_28 : decode cX3_pass 28 = .ok (.istore_n 2, 1) := by decide +kernel
theorem dX3_pass_29 : decode cX3_pass 29 = .ok (.iload_n 2, 1) := by decide +kernel
theorem dX3_pass_30 : decode cX3_pass 30 = .ok (.ifCond .eq 9, 3) := by decide +kernel
theorem dX3_pass_33 : decode cX3_pass 33 = .ok (.aload_n 0, 1) := by decide +kernel
theorem dX3_pass_34 : decode cX3_pass 34 = .ok (.iload_n 2, 1) := by decide +kernel
theorem dX3_pass_35 : decode cX3_pass 35 = .ok (.invokevirtual 54, 3) := by decide +kernel
theorem dX3_pass_38 : decode cX3_pass 38 = .ok (.ireturn, 1) := by decide +kernel
theorem dX3_pass_39 : decode cX3_pass 39 = .ok (.aload_n 0, 1) := by decide +kernel
theorem dX3_pass_40 : decode cX3_pass 40 = .ok (.getfield 20, 3) := by decide +kernel
theorem dX3_pass_43 : decode cX3_pass 43 = .ok (.dup, 1) := by decide +kernel
theorem dX3_pass_44 : decode cX3_pass 44 = .ok (.getfield 86, 3) := by decide +kernel
theorem dX3_pass_47 : decode cX3_pass 47 = .ok (.iload_n 1, 1) := by decide +kernel
theorem dX3_pass_48 : decode cX3_pass 48 = .ok (.iadd, 1) := by decide +kernel
theorem dX3_pass_49 : decode cX3_pass 49 = .ok (.putfield 86, 3) := by decide +kernel
theorem dX3_pass_52 : decode cX3_pass 52 = .ok (.aload_n 0, 1) := by decide +kernel
theorem dX3_pass_53 : decode cX3_pass 53 = .ok (.getfield 20, 3) := by decide +kernel
theorem dX3_pass_56 : decode cX3_pass 56 = .ok (.getfield 86, 3) := by decide +kernel
theorem dX3_pass_59 : decode cX3_pass 59 = .ok (.ireturn, 1) := by decide +kernel
set_option maxRecDepth 20000 in
theorem ggX3_pass_X3_outOf : GoodIn wsX3_pass wsX3_outOf := goodIn_r _ [5] (by decide +kernel) (by decide +kernel)
set_option maxRecDepth 20000 in
theorem gX3_pass_X3_outOf : GoodIn wsX3_pass (va_wsS RX3 46 yX3_outOf wsX3_outOf) := goodIn_app (goodIn_of _ (by decide +kernel)) ggX3_pass_X3_outOf
set_option maxRecDepth 20000 in
theorem ggX3_pass_X3_refuse : GoodIn wsX3_pass wsX3_refuse := goodIn_r _ [9, 10, 11, 12, 13, 14, 15, 16, 17, 18, 19] (by decide +kernel) (by decide +kernel)
set_option maxRecDepth 20000 in
theorem gX3_pass_X3_refuse : GoodIn wsX3_pass (wsV RX3 54 RX3 yX3_refuse wsX3_refuse) := goodIn_app (goodIn_of _ (by decide +kernel)) ggX3_pass_X3_refuse
set_option maxHeartbeats 4000000 in
set_option maxRecDepth 100000 in
theorem mX3_pass (l : Launch) (dC : Nat → ClassId) (dI : Nat → Nat → Nat) (cI cC : ClassId) (sk : (Nat → Nat) × (Nat → Nat)) (f : Nat → Nat) (sz : Nat) (p1 : Int32) (c_lanes : AR) (c_spots : AR) (c_byLeaps : AR) (c_load : Int32) (c_gone : Int32) (c_held : Int32) (c_strong : Int32) (c_done : Int32) (c_rn : RT) (c_rt : RT) (c_letters : AR) (c_size : Int32) (c_rp : RT) (c_seen : AR) (c_refs : AR) (c_inRow : Int32) (c_isPic : Int32) (z : Int32 × RT × AR) (h : fX3_pass p1 c_rn c_refs = some z) : cRW l yX3_pass wsX3_pass (RMk 1 22) sk (dC, dI) (tyz cI cC) sz (zwX cI cC f c_lanes c_spots c_byLeaps c_load c_gone c_held c_strong c_done c_rn c_rt c_letters c_size c_rp c_seen c_refs c_inRow c_isPic) (zwX cI cC f c_lanes c_spots c_byLeaps c_load c_gone c_held c_strong c_done z.2.1 c_rt c_letters c_size c_rp c_seen z.2.2 c_inRow c_isPic) [.ref (f 0), .int p1] z.1 := by
  refine ofRW (cc := cX3_pass) (maxL := 3) (ret := (some .int)) (own := RX3) (plainFor_of_name (by decide)) rfl rfl (Nat.le_of_ble_eq_true rfl) ?_
  intro p e s m args below meth c A hA hx hb hml hr hts hown hlocks hE hK hP hD hS ls hl
  generalize hQ : qRW _ _ _ _ _ _ _ = Q
  have hl : lv_has ls 3 [(0, .ref (f 0)), (1, .int p1)] := hl
  have hiX0 : ∀ w ∈ wsX00, w ∈ wsX3_pass := fun w h => List.mem_cons_of_mem _ (List.mem_append_right _ h)
  have hiX3 : ∀ w ∈ wsX30, w ∈ wsX3_pass := fun w h => List.mem_cons_of_mem _ (List.mem_append_left _ (List.mem_append_right _ h))
  have hw1 := hts (Cond.fieldLink RX3 20 "FloeToFloe" "now" "LFloeToFloe$River;") (List.mem_of_getElem? (i := 1) rfl)
  have hnw4 : (Cond.fieldLinkNest "FloeToFloe" 86 "FloeToFloe$River" "minute" "I" "FloeToFloe").before args s = true := va_Nw.use rfl (hE.1 4 _ rfl)
  rw [fX3_pass] at h
  refine lv_iload_n hx hb dX3_pass_0 rfl (lv_at hl 1 rfl) ?_
  refine lv_iconst (v := (1 : Int32)) hx hb dX3_pass_1 (by decide) ?_
  refine lv_bipush (v := (60 : Int32)) hx hb dX3_pass_2 (by decide) ?_
  obtain ⟨q4, e4, h⟩ := bd_some h
  refine g_roS (wc := ([] : va_W)) ⟨hx, hb, hml, hown, hts⟩ hE hK hP hS [] rfl (mX3_outOf l dC dI cI cC sk  p1 (1 : Int32) (60 : Int32) q4 e4) (va_cwS 3 hts gX3_pass_X3_outOf rfl rfl rfl (by decide +kernel) ⟨Nat.le_of_ble_eq_true rfl, Nat.le_of_ble_eq_true rfl⟩) (As := [.int p1, .int (1 : Int32), .int (60 : Int32)]) (rest := []) rfl hl.1 rfl (Nat.le_of_ble_eq_true rfl) dX3_pass_4 ⟨Nat.zero_le _, Nat.zero_le _⟩ (fun H locs hP hS => ?_)
  refine lv_istore_n (lv' := [(2, .int q4), (0, .ref (f 0)), (1, .int p1)]) hx hb dX3_pass_7 rfl hl (by decide) rfl (fun ls hl => ?_)
  refine lv_iload_n hx hb dX3_pass_8 rfl (lv_at hl 0 rfl) ?_
  refine jnW (fun (v29 : Int32) => ∀ (H : Heap) (locs : List Loc) (ls : Array Slot), va_P (dC, dI) vwCl (zwX cI cC f c_lanes c_spots c_byLeaps c_load c_gone c_held c_strong c_done c_rn c_rt c_letters c_size c_rp c_seen c_refs c_inRow c_isPic) H → va_D A (zwX cI cC f c_lanes c_spots c_byLeaps c_load c_gone c_held c_strong c_done c_rn c_rt c_letters c_size c_rp c_seen c_refs c_inRow c_isPic) → va_S A s.heap H locs → lv_has ls 3 [(0, .ref (f 0)), (1, .int p1), (2, .int v29)] → W p l e (RMk 1 22) s m args below meth c H locs 0 0 Q (F0 m 29 ls [])) h (fun v29 h H locs ls hP hD hS hl => ?_) (fun J29 j29 h => ?_)
  · refine lv_iload_n hx hb dX3_pass_29 rfl (lv_at hl 2 rfl) ?_
    refine lv_if_eq (tgt := 39) hx hb dX3_pass_30 (by decide) (fun c30 => ?_) (fun c30 => ?_)
    · have h := itT c30 h
      refine lv_aload_n hx hb dX3_pass_39 rfl (lv_at hl 0 rfl) ?_
      refine va_get (D := (dC, dI)) (ci := 3) (v := .ref (f 5)) (C := RX3) (T := TX3) (N := 9) hx hb hts hiX3 hown hK hP 0 rfl rfl 1 (by decide) hw1 (fun _ h9 => h9) rfl dX3_pass_40 ?_
      refine lv_dup hx hb dX3_pass_43 rfl ?_
      refine va_getN (D := (dC, dI)) (ci := 0) (v := .int (R_minute c_rn)) (C := RX0) (T := TX0) (N := 8) hx hb hts hiX0 hown hK hP 5 rfl rfl 7 (by decide) hnw4 (fun _ h9 => h9) rfl dX3_pass_44 ?_
      refine lv_iload_n hx hb dX3_pass_47 rfl (lv_at hl 1 rfl) ?_
      refine lv_iadd hx hb dX3_pass_48 ?_
      refine va_putN (D := (dC, dI)) (ci := 0) (v := .int ((R_minute c_rn) + p1)) (ty := .int) (C := RX0) (T := TX0) (N := 8) hx hb hts hiX0 tyX0 tyX0_ok nmX0 hown hK hP hD hS 5 rfl rfl 7 (by decide) hnw4 (fun _ h9 => h9) rfl (by decide +kernel) rfl rfl (Nat.le_of_ble_eq_true rfl) dX3_pass_49 (fun H locs hP hD hS => ?_)
      have hP : va_P (dC, dI) vwCl (zwX cI cC f c_lanes c_spots c_byLeaps c_load c_gone c_held c_strong c_done (R_setMinute c_rn ((R_minute c_rn) + p1)) c_rt c_letters c_size c_rp c_seen c_refs c_inRow c_isPic) H := hP
      have hD : va_D A (zwX cI cC f c_lanes c_spots c_byLeaps c_load c_gone c_held c_strong c_done (R_setMinute c_rn ((R_minute c_rn) + p1)) c_rt c_letters c_size c_rp c_seen c_refs c_inRow c_isPic) := hD
      refine lv_aload_n hx hb dX3_pass_52 rfl (lv_at hl 0 rfl) ?_
      refine va_get (D := (dC, dI)) (ci := 3) (v := .ref (f 5)) (C := RX3) (T := TX3) (N := 9) hx hb hts hiX3 hown hK hP 0 rfl rfl 1 (by decide) hw1 (fun _ h9 => h9) rfl dX3_pass_53 ?_
      refine va_getN (D := (dC, dI)) (ci := 0) (v := .int (R_minute (R_setMinute c_rn ((R_minute c_rn) + p1)))) (C := RX0) (T := TX0) (N := 8) hx hb hts hiX0 hown hK hP 5 rfl rfl 7 (by decide) hnw4 (fun _ h9 => h9) rfl dX3_pass_56 ?_
      subst hQ
      exact retRW (zz := (((R_minute (R_setMinute c_rn ((R_minute c_rn) + p1))), (R_setMinute c_rn ((R_minute c_rn) + p1)), c_refs) : Int32 × RT × AR)) (fun z => z.1) (fun z => (zwX cI cC f c_lanes c_spots c_byLeaps c_load c_gone c_held c_strong c_done z.2.1 c_rt c_letters c_size c_rp c_seen z.2.2 c_inRow c_isPic)) hx hb hr hlocks rfl hS h rfl hP dX3_pass_59
    have h := itF c30 h
    refine lv_aload_n hx hb dX3_pass_33 rfl (lv_at hl 0 rfl) ?_
    refine lv_iload_n hx hb dX3_pass_34 rfl (lv_at hl 2 rfl) ?_
    obtain ⟨q35, e35, h⟩ := bd_some h
    refine g_rwA (wc := (zwX cI cC f c_lanes c_spots c_byLeaps c_load c_gone c_held c_strong c_done c_rn c_rt c_letters c_size c_rp c_seen c_refs c_inRow c_isPic)) (wc' := (zwX cI cC f c_lanes c_spots c_byLeaps c_load c_gone c_held c_strong c_done c_rn c_rt c_letters c_size c_rp c_seen q35.2 c_inRow c_isPic)) ⟨hx, hb, hml, hown, hts⟩ hE hK hA hP hD hS rfl (mX3_refuse l dC dI cI cC sk f H.size v29 c_lanes c_spots c_byLeaps c_load c_gone c_held c_strong c_done c_rn c_rt c_letters c_size c_rp c_seen c_refs c_inRow c_isPic q35 e35) (cwV 1 hts gX3_pass_X3_refuse rfl rfl rfl (by decide +kernel) ⟨Nat.le_of_ble_eq_true rfl, Nat.le_of_ble_eq_true rfl⟩) (va_recv hK hP (ci := 3) (q0 := 0) rfl rfl) (As := [.int v29]) (rest := []) rfl hl.1 rfl (Nat.le_of_ble_eq_true rfl) dX3_pass_35 ⟨Nat.zero_le _, Nat.zero_le _⟩ (fun H locs hP hD hS => ?_)
    have hP : va_P (dC, dI) vwCl (zwX cI cC f c_lanes c_spots c_byLeaps c_load c_gone c_held c_strong c_done c_rn c_rt c_letters c_size c_rp c_seen q35.2 c_inRow c_isPic) H := hP
    have hD : va_D A (zwX cI cC f c_lanes c_spots c_byLeaps c_load c_gone c_held c_strong c_done c_rn c_rt c_letters c_size c_rp c_seen q35.2 c_inRow c_isPic) := hD
    subst hQ
    exact retRW (zz := ((q35.1, c_rn, q35.2) : Int32 × RT × AR)) (fun z => z.1) (fun z => (zwX cI cC f c_lanes c_spots c_byLeaps c_load c_gone c_held c_strong c_done z.2.1 c_rt c_letters c_size c_rp c_seen z.2.2 c_inRow c_isPic)) hx hb hr hlocks rfl hS h rfl hP dX3_pass_38
  refine lv_if_ne (tgt := 29) hx hb dX3_pass_9 (by decide) (fun c9 => ?_) (fun c9 => ?_)
  · have h := itF c9 h
    exact j29 _ h _ _ _ hP hD hS (lv_sub hl [1, 2, 0] rfl)
  have h := itT c9 h
  refine lv_aload_n hx hb dX3_pass_12 rfl (lv_at hl 1 rfl) ?_
  refine va_get (D := (dC, dI)) (ci := 3) (v := .ref (f 5)) (C := RX3) (T := TX3) (N := 9) hx hb hts hiX3 hown hK hP 0 rfl rfl 1 (by decide) hw1 (fun _ h9 => h9) rfl dX3_pass_13 ?_
  refine va_getN (D := (dC, dI)) (ci := 0) (v := .int (R_minute c_rn)) (C := RX0) (T := TX0) (N := 8) hx hb hts hiX0 hown hK hP 5 rfl rfl 7 (by decide) hnw4 (fun _ h9 => h9) rfl dX3_pass_16 ?_
  refine lv_iload_n hx hb dX3_pass_19 rfl (lv_at hl 2 rfl) ?_
  refine lv_iadd hx hb dX3_pass_20 ?_
  refine lv_bipush (v := (60 : Int32)) hx hb dX3_pass_21 (by decide) ?_
  refine lv_icmp_le (tgt := 29) hx hb dX3_pass_23 (by decide) (fun c23 => ?_) (fun c23 => ?_)
  · have h := itT c23 h
    exact j29 _ h _ _ _ hP hD hS (lv_sub hl [1, 2, 0] rfl)
  have h := itF c23 h
  refine lv_bipush (v := (-6 : Int32)) hx hb dX3_pass_26 (by decide) ?_
  refine lv_istore_n (lv' := [(2, .int (-6 : Int32)), (0, .ref (f 0)), (1, .int p1)]) hx hb dX3_pass_28 rfl hl (by decide) rfl (fun ls hl => ?_)
  exact j29 _ h _ _ _ hP hD hS (lv_sub hl [1, 2, 0] rfl)
