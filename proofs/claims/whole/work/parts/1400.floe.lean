theorem dX3_outOf_0 : decode cX3_outOf 0 = .ok (.iload_n 0, 1) := by decide +kernel
theorem dX3_outOf_1 : decode cX3_outOf 1 = .ok (.iload_n 1, 1) := by decide +kernel
theorem dX3_outOf_2 : decode cX3_outOf 2 = .ok (.if_icmp .ge 6, 3) := by decide +kernel
theorem dX3_outOf_5 : decode cX3_outOf 5 = .ok (.bipush (-4), 2) := by decide +kernel
theorem dX3_outOf_7 : decode cX3_outOf 7 = .ok (.ireturn, 1) := by decide +kernel
theorem dX3_outOf_8 : decode cX3_outOf 8 = .ok (.iload_n 0, 1) := by decide +kernel
theorem dX3_outOf_9 : decode cX3_outOf 9 = .ok (.iload_n 2, 1) := by decide +kernel
theorem dX3_outOf_10 : decode cX3_outOf 10 = .ok (.if_icmp .le 8, 3) := by decide +kernel
theorem dX3_outOf_13 : decode cX3_outOf 13 = .ok (.bipush (-6), 2) := by decide +kernel
theorem dX3_outOf_15 : decode cX3_outOf 15 = .ok (.goto 4, 3) := by decide +kernel
theorem dX3_outOf_18 : decode cX3_outOf 18 = .ok (.iconst 0, 1) := by decide +kernel
theorem dX3_outOf_19 : decode cX3_outOf 19 = .ok (.ireturn, 1) := by decide +kernel
set_option maxHeartbeats 4000000 in
set_option maxRecDepth 100000 in
theorem mX3_outOf (l : Launch) (dC : Nat → ClassId) (dI : Nat → Nat → Nat) (cI cC : ClassId) (sk : (Nat → Nat) × (Nat → Nat))  (p0 : Int32) (p1 : Int32) (p2 : Int32)  (z : Int32) (h : fX3_outOf p0 p1 p2 = some z) : cRO l yX3_outOf wsX3_outOf (RMk 0 0) sk (dC, dI) (tyz cI cC) ([] : va_W) [.int p0, .int p1, .int p2] z := by
  refine ofRO (cc := cX3_outOf) (maxL := 3) (ret := (some .int)) (own := RX3) (plainFor_of_name (by decide)) rfl rfl (Nat.le_of_ble_eq_true rfl) ?_
  intro p e s m args below meth c hx hb hml hr hts hown hlocks hE hK hP hS ls hl
  generalize hQ : qRO _ _ _ _ = Q
  have hl : lv_has ls 3 [(0, .int p0), (1, .int p1), (2, .int p2)] := hl
  rw [fX3_outOf] at h
  refine lv_iload_n hx hb dX3_outOf_0 rfl (lv_at hl 0 rfl) ?_
  refine lv_iload_n hx hb dX3_outOf_1 rfl (lv_at hl 1 rfl) ?_
  refine lv_icmp_ge (tgt := 8) hx hb dX3_outOf_2 (by decide) (fun c2 => ?_) (fun c2 => ?_)
  · have h := itT c2 h
    refine lv_iload_n hx hb dX3_outOf_8 rfl (lv_at hl 0 rfl) ?_
    refine lv_iload_n hx hb dX3_outOf_9 rfl (lv_at hl 2 rfl) ?_
    refine lv_icmp_le (tgt := 18) hx hb dX3_outOf_10 (by decide) (fun c10 => ?_) (fun c10 => ?_)
    · have h := itT c10 h
      refine lv_iconst (v := (0 : Int32)) hx hb dX3_outOf_18 (by decide) ?_
      subst hQ
      exact retRO hx hb hr hlocks rfl hS h dX3_outOf_19
    have h := itF c10 h
    refine lv_bipush (v := (-6 : Int32)) hx hb dX3_outOf_13 (by decide) ?_
    refine lv_goto (tgt := 19) hx hb dX3_outOf_15 (by decide) ?_
    subst hQ
    exact retRO hx hb hr hlocks rfl hS h dX3_outOf_19
  have h := itF c2 h
  refine lv_bipush (v := (-4 : Int32)) hx hb dX3_outOf_5 (by decide) ?_
  subst hQ
  exact retRO hx hb hr hlocks rfl hS h dX3_outOf_7
theorem dX3_refuse_0 : decode cX3_refuse 0 = .ok (.iload_n 1, 1) := by decide +kernel
theorem dX3_refuse_1 : decode cX3_refuse 1 = .ok (.ineg, 1) := by decide +kernel
theorem dX3_refuse_2 : decode cX3_refuse 2 = .ok (.istore_n 2, 1) := by decide +kernel
theorem dX3_refuse_3 : decode cX3_refuse 3 = .ok (.iload_n 2, 1) := by decide +kernel
theorem dX3_refuse_4 : decode cX3_refuse 4 = .ok (.ifCond .lt 22, 3) := by decide +kernel
theorem dX3_refuse_7 : decode cX3_refuse 7 = .ok (.iload_n 2, 1) := by decide +kernel
theorem dX3_refuse_8 : decode cX3_refuse 8 = .ok (.aload_n 0, 1) := by decide +kernel
theorem dX3_refuse_9 : decode cX3_refuse 9 = .ok (.getfield 43, 3) := by decide +kernel
theorem dX3_refuse_12 : decode cX3_refuse 12 = .ok (.arraylength, 1) := by decide +kernel
theorem dX3_refuse_13 : decode cX3_refuse 13 = .ok (.if_icmp .ge 13, 3) := by decide +kernel
theorem dX3_refuse_16 : decode cX3_refuse 16 = .ok (.aload_n 0, 1) := by decide +kernel
theorem dX3_refuse_17 : decode cX3_refuse 17 = .ok (.getfield 43, 3) := by decide +kernel
theorem dX3_refuse_20 : decode cX3_refuse 20 = .ok (.iload_n 2, 1) := by decide +kernel
theorem dX3_refuse_21 : decode cX3_refuse 21 = .ok (.dup2, 1) := by decide +kernel
theorem dX3_refuse_22 : decode cX3_refuse 22 = .ok (.iaload, 1) := by decide +kernel
theorem dX3_refuse_23 : decode cX3_refuse 23 = .ok (.iconst 1, 1) := by decide +kernel
theorem dX3_refuse_24 : decode cX3_refuse 24 = .ok (.iadd, 1) := by decide +kernel
theorem dX3_refuse_25 : decode cX3_refuse 25 = .ok (.iastore, 1) := by decide +kernel
theorem dX3_refuse_26 : decode cX3_refuse 26 = .ok (.iload_n 1, 1) := by decide +kernel
theorem dX3_refuse_27 : decode cX3_refuse 27 = .ok (.ireturn, 1) := by decide +kernel
set_option maxHeartbeats 4000000 in
set_option maxRecDepth 100000 in
theorem mX3_refuse (l : Launch) (dC : Nat → ClassId) (dI : Nat → Nat → Nat) (cI cC : ClassId) (sk : (Nat → Nat) × (Nat → Nat)) (f : Nat → Nat) (sz : Nat) (p1 : Int32) (c_lanes : AR) (c_spots : AR) (c_byLeaps : AR) (c_load : Int32) (c_gone : Int32) (c_held : Int32) (c_strong : Int32) (c_done : Int32) (c_rn : RT) (c_rt : RT) (c_letters : AR) (c_size : Int32) (c_rp : RT) (c_seen : AR) (c_refs : AR) (c_inRow : Int32) (c_isPic : Int32) (z : Int32 × AR) (h : fX3_refuse p1 c_refs = some z) : cRW l yX3_refuse wsX3_refuse (RMk 0 0) sk (dC, dI) (tyz cI cC) sz (zwX cI cC f c_lanes c_spots c_byLeaps c_load c_gone c_held c_strong c_done c_rn c_rt c_letters c_size c_rp c_seen c_refs c_inRow c_isPic) (zwX cI cC f c_lanes c_spots c_byLeaps c_load c_gone c_held c_strong c_done c_rn c_rt c_letters c_size c_rp c_seen z.2 c_inRow c_isPic) [.ref (f 0), .int p1] z.1 := by
  refine ofRW (cc := cX3_refuse) (maxL := 3) (ret := (some .int)) (own := RX3) (plainFor_of_name (by decide)) rfl rfl (Nat.le_of_ble_eq_true rfl) ?_
  intro p e s m args below meth c A hA hx hb hml hr hts hown hlocks hE hK hP hD hS ls hl
  generalize hQ : qRW _ _ _ _ _ _ _ = Q
  have hl : lv_has ls 3 [(0, .ref (f 0)), (1, .int p1)] := hl
  have hiX3 : ∀ w ∈ wsX30, w ∈ wsX3_refuse := fun w h => List.mem_cons_of_mem _ (List.mem_append_right _ h)
  have hw1 := hts (Cond.fieldLink RX3 43 "FloeToFloe" "refusals" "[I") (List.mem_of_getElem? (i := 1) rfl)
  rw [fX3_refuse] at h
  refine lv_iload_n hx hb dX3_refuse_0 rfl (lv_at hl 1 rfl) ?_
  refine lv_ineg hx hb dX3_refuse_1 ?_
  refine lv_istore_n (lv' := [(2, .int (-p1)), (0, .ref (f 0)), (1, .int p1)]) hx hb dX3_refuse_2 rfl hl (by decide) rfl (fun ls hl => ?_)
  refine lv_iload_n hx hb dX3_refuse_3 rfl (lv_at hl 0 rfl) ?_
  refine lv_if_lt (tgt := 26) hx hb dX3_refuse_4 (by decide) (fun c4 => ?_) (fun c4 => ?_)
  · have h := itT c4 h
    refine lv_iload_n hx hb dX3_refuse_26 rfl (lv_at hl 2 rfl) ?_
    subst hQ
    exact retRW (zz := ((p1, c_refs) : Int32 × AR)) (fun z => z.1) (fun z => (zwX cI cC f c_lanes c_spots c_byLeaps c_load c_gone c_held c_strong c_done c_rn c_rt c_letters c_size c_rp c_seen z.2 c_inRow c_isPic)) hx hb hr hlocks rfl hS h rfl hP dX3_refuse_27
  have h := itF c4 h
  refine lv_iload_n hx hb dX3_refuse_7 rfl (lv_at hl 0 rfl) ?_
  refine lv_aload_n hx hb dX3_refuse_8 rfl (lv_at hl 1 rfl) ?_
  refine va_get (D := (dC, dI)) (ci := 3) (v := .ref (f 26)) (C := RX3) (T := TX3) (N := 9) hx hb hts hiX3 hown hK hP 0 rfl rfl 6 (by decide) hw1 (fun _ h9 => h9) rfl dX3_refuse_9 ?_
  refine va_alen hx hb hK hP 26 0 rfl rfl (v := (7 : Int32)) rfl dX3_refuse_12 ?_
  refine lv_icmp_ge (tgt := 26) hx hb dX3_refuse_13 (by decide) (fun c13 => ?_) (fun c13 => ?_)
  · have h := itT c13 h
    refine lv_iload_n hx hb dX3_refuse_26 rfl (lv_at hl 2 rfl) ?_
    subst hQ
    exact retRW (zz := ((p1, c_refs) : Int32 × AR)) (fun z => z.1) (fun z => (zwX cI cC f c_lanes c_spots c_byLeaps c_load c_gone c_held c_strong c_done c_rn c_rt c_letters c_size c_rp c_seen z.2 c_inRow c_isPic)) hx hb hr hlocks rfl hS h rfl hP dX3_refuse_27
  have h := itF c13 h
  refine lv_aload_n hx hb dX3_refuse_16 rfl (lv_at hl 1 rfl) ?_
  refine va_get (D := (dC, dI)) (ci := 3) (v := .ref (f 26)) (C := RX3) (T := TX3) (N := 9) hx hb hts hiX3 hown hK hP 0 rfl rfl 6 (by decide) hw1 (fun _ h9 => h9) rfl dX3_refuse_17 ?_
  refine lv_iload_n hx hb dX3_refuse_20 rfl (lv_at hl 0 rfl) ?_
  refine lv_dup2_11 hx hb dX3_refuse_21 rfl rfl ?_
  obtain ⟨hin, h⟩ := ck_some h
  refine va_iald hx hb hK hP 26 0 rfl rfl hin dX3_refuse_22 ?_
  refine lv_iconst (v := (1 : Int32)) hx hb dX3_refuse_23 (by decide) ?_
  refine lv_iadd hx hb dX3_refuse_24 ?_
  obtain ⟨hin, h⟩ := ck_some h
  refine va_iast hx hb hK hP hD hS 26 0 rfl rfl hin dX3_refuse_25 (fun H locs hP hD hS => ?_)
  have hP : va_P (dC, dI) vwCl (zwX cI cC f c_lanes c_spots c_byLeaps c_load c_gone c_held c_strong c_done c_rn c_rt c_letters c_size c_rp c_seen (upd c_refs ((-p1)).toNatClampNeg ((c_refs ((-p1)).toNatClampNeg) + (1 : Int32))) c_inRow c_isPic) H := hP
  have hD : va_D A (zwX cI cC f c_lanes c_spots c_byLeaps c_load c_gone c_held c_strong c_done c_rn c_rt c_letters c_size c_rp c_seen (upd c_refs ((-p1)).toNatClampNeg ((c_refs ((-p1)).toNatClampNeg) + (1 : Int32))) c_inRow c_isPic) := hD
  refine lv_iload_n hx hb dX3_refuse_26 rfl (lv_at hl 2 rfl) ?_
  subst hQ
  exact retRW (zz := ((p1, (upd c_refs ((-p1)).toNatClampNeg ((c_refs ((-p1)).toNatClampNeg) + (1 : Int32)))) : Int32 × AR)) (fun z => z.1) (fun z => (zwX cI cC f c_lanes c_spots c_byLeaps c_load c_gone c_held c_strong c_done c_rn c_rt c_letters c_size c_rp c_seen z.2 c_inRow c_isPic)) hx hb hr hlocks rfl hS h rfl hP dX3_refuse_27
theorem dX3_letter_0 : decode cX3_letter 0 = .ok (.iload_n 1, 1) := by decide +kernel
theorem dX3_letter_1 : decode cX3_letter 1 = .ok (.iconst 0, 1) := by decide +kernel
theorem dX3_letter_2 : decode cX3_letter 2 = .ok (.sipush 255, 3) := by decide +kernel
theorem dX3_letter_5 : decode cX3_letter 5 = .ok (.invokestatic 46, 3) := by decide +kernel
theorem dX3_letter_8 : decode cX3_letter 8 = .ok (.istore_n 2, 1) := by decide +kernel
theorem dX3_letter_9 : decode cX3_letter 9 = .ok (.iload_n 2, 1) := by decide +kernel
theorem dX3_letter_10 : decode cX3_letter 10 = .ok (.ifCond .ne 18, 3) := by decide +kernel
theorem dX3_letter_13 : decode cX3_letter 13 = .ok (.aload_n 0, 1) := by decide +kernel
theorem dX3_letter_14 : decode cX3_letter 14 = .ok (.getfield 35, 3) := by decide +kernel
theorem dX3_letter_17 : decode cX3_letter 17 = .ok (.getfield 50, 3) := by decide +kernel
theorem dX3_letter_20 : decode cX3_letter 20 = .ok (.bipush 80, 2) := by decide +kernel
theorem dX3_letter_22 : decode cX3_letter 22 = .ok (.if_icmp .ne 6, 3) := by decide +kernel
theorem dX3_letter_25 : decode cX3_letter 25 = .ok (.bipush (-6), 2) := by decide +kernel
theorem dX3_letter_27 : decode cX3_letter 27 = .ok (.istore_n 2, 1) := by decide +kernel
theorem dX3_letter_28 : decode cX3_letter 28 = .ok (.iload_n 2, 1) := by decide +kernel
theorem dX3_letter_29 : decode cX3_letter 29 = .ok (.ifCond .eq 11, 3) := by decide +kernel
theorem dX3_letter_32 : decode cX3_letter 32 = .ok (.aload_n 0, 1) := by decide +kernel
theorem dX3_letter_33 : decode cX3_letter 33 = .ok (.iload_n 2, 1) := by decide +kernel
theorem dX3_letter_34 : decode cX3_letter 34 = .ok (.invokevirtual 54, 3) := by decide +kernel
theorem dX3_letter_37 : decode cX3_letter 37 = .ok (.goto 11, 3) := by decide +kernel
theorem dX3_letter_40 : decode cX3_letter 40 = .ok (.aload_n 0, 1) := by decide +kernel
theorem dX3_letter_41 : decode cX3_letter 41 = .ok (.getfield 35, 3) := by decide +kernel
theorem dX3_letter_44 : decode cX3_letter 44 = .ok (.iload_n 1, 1) := by decide +kernel
theorem dX3_letter_45 : decode cX3_letter 45 = .ok (.invokevirtual 58, 3) := by decide +kernel
theorem dX3_letter_48 : decode cX3_letter 48 = .ok (.ireturn, 1) := by decide +kernel
set_option maxRecDepth 20000 in
theorem ggX3_letter_X3_outOf : GoodIn wsX3_letter wsX3_outOf := goodIn_r _ [5] (by decide +kernel) (by decide +kernel)
set_option maxRecDepth 20000 in
theorem gX3_letter_X3_outOf : GoodIn wsX3_letter (va_wsS RX3 46 yX3_outOf wsX3_outOf) := goodIn_app (goodIn_of _ (by decide +kernel)) ggX3_letter_X3_outOf
set_option maxRecDepth 20000 in
theorem ggX3_letter_X3_refuse : GoodIn wsX3_letter wsX3_refuse := goodIn_r _ [9, 10, 18, 19, 20, 21, 22, 23, 24, 25, 26] (by decide +kernel) (by decide +kernel)
set_option maxRecDepth 20000 in
theorem gX3_letter_X3_refuse : GoodIn wsX3_letter (wsV RX3 54 RX3 yX3_refuse wsX3_refuse) := goodIn_app (goodIn_of _ (by decide +kernel)) ggX3_letter_X3_refuse
set_option maxRecDepth 20000 in
theorem ggX3_letter_X1_put : GoodIn wsX3_letter wsX1_put := goodIn_r _ [15, 16, 17, 27, 28] (by decide +kernel) (by decide +kernel)
set_option maxRecDepth 20000 in
theorem gX3_letter_X1_put : GoodIn wsX3_letter (wsV RX3 58 RX1 yX1_put wsX1_put) := goodIn_app (goodIn_of _ (by decide +kernel)) ggX3_letter_X1_put
set_option maxHeartbeats 4000000 in
set_option maxRecDepth 100000 in
theorem mX3_letter (l : Launch) (dC : Nat → ClassId) (dI : Nat → Nat → Nat) (cI cC : ClassId) (sk : (Nat → Nat) × (Nat → Nat)) (f : Nat → Nat) (sz : Nat) (p1 : Int32) (c_lanes : AR) (c_spots : AR) (c_byLeaps : AR) (c_load : Int32) (c_gone : Int32) (c_held : Int32) (c_strong : Int32) (c_done : Int32) (c_rn : RT) (c_rt : RT) (c_letters : AR) (c_size : Int32) (c_rp : RT) (c_seen : AR) (c_refs : AR) (c_inRow : Int32) (c_isPic : Int32) (z : Int32 × AR × Int32 × AR) (h : fX3_letter p1 c_letters c_size c_refs = some z) : cRW l yX3_letter wsX3_letter (RMk 1 22) sk (dC, dI) (tyz cI cC) sz (zwX cI cC f c_lanes c_spots c_byLeaps c_load c_gone c_held c_strong c_done c_rn c_rt c_letters c_size c_rp c_seen c_refs c_inRow c_isPic) (zwX cI cC f c_lanes c_spots c_byLeaps c_load c_gone c_held c_strong c_done c_rn c_rt z.2.1 z.2.2.1 c_rp c_seen z.2.2.2 c_inRow c_isPic) [.ref (f 0), .int p1] z.1 := by
  refine ofRW (cc := cX3_letter) (maxL := 3) (ret := (some .int)) (own := RX3) (plainFor_of_name (by decide)) rfl rfl (Nat.le_of_ble_eq_true rfl) ?_
  intro p e s m args below meth c A hA hx hb hml hr hts hown hlocks hE hK hP hD hS ls hl
  generalize hQ : qRW _ _ _ _ _ _ _ = Q
  have hl : lv_has ls 3 [(0, .ref (f 0)), (1, .int p1)] := hl
  have hiX1 : ∀ w ∈ wsX10, w ∈ wsX3_letter := fun w h => List.mem_cons_of_mem _ (List.mem_append_right _ h)
  have hiX3 : ∀ w ∈ wsX30, w ∈ wsX3_letter := fun w h => List.mem_cons_of_mem _ (List.mem_append_left _ (List.mem_append_right _ h))
  have hw1 := hts (Cond.fieldLink RX3 35 "FloeToFloe" "telling" "LFloeToFloe$Telling;") (List.mem_of_getElem? (i := 1) rfl)
  have hnw5 : (Cond.fieldLinkNest "FloeToFloe" 50 "FloeToFloe$Telling" "size" "I" "FloeToFloe").before args s = true := va_Nw.use rfl (hE.1 5 _ rfl)
  rw [fX3_letter] at h
  refine lv_iload_n hx hb dX3_letter_0 rfl (lv_at hl 1 rfl) ?_
  refine lv_iconst (v := (0 : Int32)) hx hb dX3_letter_1 (by decide) ?_
  refine lv_sipush (v := (255 : Int32)) hx hb dX3_letter_2 (by decide) ?_
  obtain ⟨q5, e5, h⟩ := bd_some h
  refine g_roS (wc := ([] : va_W)) ⟨hx, hb, hml, hown, hts⟩ hE hK hP hS [] rfl (mX3_outOf l dC dI cI cC sk  p1 (0 : Int32) (255 : Int32) q5 e5) (va_cwS 3 hts gX3_letter_X3_outOf rfl rfl rfl (by decide +kernel) ⟨Nat.le_of_ble_eq_true rfl, Nat.le_of_ble_eq_true rfl⟩) (As := [.int p1, .int (0 : Int32), .int (255 : Int32)]) (rest := []) rfl hl.1 rfl (Nat.le_of_ble_eq_true rfl) dX3_letter_5 ⟨Nat.zero_le _, Nat.zero_le _⟩ (fun H locs hP hS => ?_)
  refine lv_istore_n (lv' := [(2, .int q5), (0, .ref (f 0)), (1, .int p1)]) hx hb dX3_letter_8 rfl hl (by decide) rfl (fun ls hl => ?_)
  refine lv_iload_n hx hb dX3_letter_9 rfl (lv_at hl 0 rfl) ?_
  refine jnW (fun (v28 : Int32) => ∀ (H : Heap) (locs : List Loc) (ls : Array Slot), va_P (dC, dI) vwCl (zwX cI cC f c_lanes c_spots c_byLeaps c_load c_gone c_held c_strong c_done c_rn c_rt c_letters c_size c_rp c_seen c_refs c_inRow c_isPic) H → va_D A (zwX cI cC f c_lanes c_spots c_byLeaps c_load c_gone c_held c_strong c_done c_rn c_rt c_letters c_size c_rp c_seen c_refs c_inRow c_isPic) → va_S A s.heap H locs → lv_has ls 3 [(0, .ref (f 0)), (1, .int p1), (2, .int v28)] → W p l e (RMk 1 22) s m args below meth c H locs 0 0 Q (F0 m 28 ls [])) h (fun v28 h H locs ls hP hD hS hl => ?_) (fun J28 j28 h => ?_)
  · refine lv_iload_n hx hb dX3_letter_28 rfl (lv_at hl 2 rfl) ?_
    refine lv_if_eq (tgt := 40) hx hb dX3_letter_29 (by decide) (fun c29 => ?_) (fun c29 => ?_)
    · have h := itT c29 h
      refine lv_aload_n hx hb dX3_letter_40 rfl (lv_at hl 0 rfl) ?_
      refine va_get (D := (dC, dI)) (ci := 3) (v := .ref (f 17)) (C := RX3) (T := TX3) (N := 9) hx hb hts hiX3 hown hK hP 0 rfl rfl 4 (by decide) hw1 (fun _ h9 => h9) rfl dX3_letter_41 ?_
      refine lv_iload_n hx hb dX3_letter_44 rfl (lv_at hl 1 rfl) ?_
      obtain ⟨q45, e45, h⟩ := bd_some h
      refine g_rwV (wc := (zwT cI cC (fun k => f (k + 17)) c_letters c_size)) (wc' := (zwT cI cC (fun k => f (k + 17)) q45.2.1 q45.2.2)) (ws' := (zwX cI cC f c_lanes c_spots c_byLeaps c_load c_gone c_held c_strong c_done c_rn c_rt q45.2.1 q45.2.2 c_rp c_seen c_refs c_inRow c_isPic)) (wr := [(f 0, .inr (3, [.ref (f 1), .ref (f 5), .ref (f 11), .ref (f 19), .ref (f 17), .ref (f 25), .ref (f 26), .int c_inRow, .int c_isPic])), (f 1, .inr (2, [.ref (f 5), .ref (f 2), .ref (f 3), .ref (f 4), .int c_load, .int c_gone, .int c_held, .int c_strong, .int c_done])), (f 2, .inl (cI, 8, .inl c_lanes)), (f 3, .inl (cI, 8, .inl c_spots)), (f 4, .inl (cI, 41, .inl c_byLeaps)), (f 5, .inr (0, [.ref (f 6), .ref (f 7), .ref (f 8), .ref (f 9), .ref (f 10), .int (R_lanes c_rn), .int (R_floes c_rn), .int (R_minute c_rn)])), (f 6, .inl (cI, 8, .inl (R_kinds c_rn))), (f 7, .inl (cI, 8, .inl (R_homes c_rn))), (f 8, .inl (cI, 8, .inl (R_cells c_rn))), (f 9, .inl (cI, 8, .inl (R_paces c_rn))), (f 10, .inl (cI, 8, .inl (R_strengths c_rn))), (f 11, .inr (0, [.ref (f 12), .ref (f 13), .ref (f 14), .ref (f 15), .ref (f 16), .int (R_lanes c_rt), .int (R_floes c_rt), .int (R_minute c_rt)])), (f 12, .inl (cI, 8, .inl (R_kinds c_rt))), (f 13, .inl (cI, 8, .inl (R_homes c_rt))), (f 14, .inl (cI, 8, .inl (R_cells c_rt))), (f 15, .inl (cI, 8, .inl (R_paces c_rt))), (f 16, .inl (cI, 8, .inl (R_strengths c_rt))), (f 19, .inr (0, [.ref (f 20), .ref (f 21), .ref (f 22), .ref (f 23), .ref (f 24), .int (R_lanes c_rp), .int (R_floes c_rp), .int (R_minute c_rp)])), (f 20, .inl (cI, 8, .inl (R_kinds c_rp))), (f 21, .inl (cI, 8, .inl (R_homes c_rp))), (f 22, .inl (cI, 8, .inl (R_cells c_rp))), (f 23, .inl (cI, 8, .inl (R_paces c_rp))), (f 24, .inl (cI, 8, .inl (R_strengths c_rp))), (f 25, .inl (cI, 12, .inl c_seen)), (f 26, .inl (cI, 7, .inl c_refs))]) (nw := 27) ⟨hx, hb, hml, hown, hts⟩ hE hK hA hP hD hS [17, 18] [0, 1, 2, 3, 4, 5, 6, 7, 8, 9, 10, 11, 12, 13, 14, 15, 16, 19, 20, 21, 22, 23, 24, 25, 26] rfl rfl rfl rfl rfl rfl (by decide +kernel) rfl (mX1_put l dC dI cI cC sk (fun k => f (k + 17)) H.size p1 c_letters c_size q45 e45) (cwV 1 hts gX3_letter_X1_put rfl rfl rfl (by decide +kernel) ⟨Nat.le_of_ble_eq_true rfl, Nat.le_of_ble_eq_true rfl⟩) (va_recv hK hP (ci := 1) (q0 := 17) rfl rfl) (As := [.int p1]) (rest := []) rfl hl.1 rfl (Nat.le_of_ble_eq_true rfl) dX3_letter_45 ⟨Nat.zero_le _, Nat.zero_le _⟩ (fun H locs hP hD hS => ?_)
      subst hQ
      exact retRW (zz := ((q45.1, q45.2.1, q45.2.2, c_refs) : Int32 × AR × Int32 × AR)) (fun z => z.1) (fun z => (zwX cI cC f c_lanes c_spots c_byLeaps c_load c_gone c_held c_strong c_done c_rn c_rt z.2.1 z.2.2.1 c_rp c_seen z.2.2.2 c_inRow c_isPic)) hx hb hr hlocks rfl hS h rfl hP dX3_letter_48
    have h := itF c29 h
    refine lv_aload_n hx hb dX3_letter_32 rfl (lv_at hl 0 rfl) ?_
    refine lv_iload_n hx hb dX3_letter_33 rfl (lv_at hl 2 rfl) ?_
    obtain ⟨q34, e34, h⟩ := bd_some h
    refine g_rwA (wc := (zwX cI cC f c_lanes c_spots c_byLeaps c_load c_gone c_held c_strong c_done c_rn c_rt c_letters c_size c_rp c_seen c_refs c_inRow c_isPic)) (wc' := (zwX cI cC f c_lanes c_spots c_byLeaps c_load c_gone c_held c_strong c_done c_rn c_rt c_letters c_size c_rp c_seen q34.2 c_inRow c_isPic)) ⟨hx, hb, hml, hown, hts⟩ hE hK hA hP hD hS rfl (mX3_refuse l dC dI cI cC sk f H.size v28 c_lanes c_spots c_byLeaps c_load c_gone c_held c_strong c_done c_rn c_rt c_letters c_size c_rp c_seen c_refs c_inRow c_isPic q34 e34) (cwV 1 hts gX3_letter_X3_refuse rfl rfl rfl (by decide +kernel) ⟨Nat.le_of_ble_eq_true rfl, Nat.le_of_ble_eq_true rfl⟩) (va_recv hK hP (ci := 3) (q0 := 0) rfl rfl) (As := [.int v28]) (rest := []) rfl hl.1 rfl (Nat.le_of_ble_eq_true rfl) dX3_letter_34 ⟨Nat.zero_le _, Nat.zero_le _⟩ (fun H locs hP hD hS => ?_)
    have hP : va_P (dC, dI) vwCl (zwX cI cC f c_lanes c_spots c_byLeaps c_load c_gone c_held c_strong c_done c_rn c_rt c_letters c_size c_rp c_seen q34.2 c_inRow c_isPic) H := hP
    have hD : va_D A (zwX cI cC f c_lanes c_spots c_byLeaps c_load c_gone c_held c_strong c_done c_rn c_rt c_letters c_size c_rp c_seen q34.2 c_inRow c_isPic) := hD
    refine lv_goto (tgt := 48) hx hb dX3_letter_37 (by decide) ?_
    subst hQ
    exact retRW (zz := ((q34.1, c_letters, c_size, q34.2) : Int32 × AR × Int32 × AR)) (fun z => z.1) (fun z => (zwX cI cC f c_lanes c_spots c_byLeaps c_load c_gone c_held c_strong c_done c_rn c_rt z.2.1 z.2.2.1 c_rp c_seen z.2.2.2 c_inRow c_isPic)) hx hb hr hlocks rfl hS h rfl hP dX3_letter_48
  refine lv_if_ne (tgt := 28) hx hb dX3_letter_10 (by decide) (fun c10 => ?_) (fun c10 => ?_)
  · have h := itF c10 h
    exact j28 _ h _ _ _ hP hD hS (lv_sub hl [1, 2, 0] rfl)
  have h := itT c10 h
  refine lv_aload_n hx hb dX3_letter_13 rfl (lv_at hl 1 rfl) ?_
  refine va_get (D := (dC, dI)) (ci := 3) (v := .ref (f 17)) (C := RX3) (T := TX3) (N := 9) hx hb hts hiX3 hown hK hP 0 rfl rfl 4 (by decide) hw1 (fun _ h9 => h9) rfl dX3_letter_14 ?_
  refine va_getN (D := (dC, dI)) (ci := 1) (v := .int c_size) (C := RX1) (T := TX1) (N := 2) hx hb hts hiX1 hown hK hP 17 rfl rfl 1 (by decide) hnw5 (fun _ h9 => h9) rfl dX3_letter_17 ?_
  refine lv_bipush (v := (80 : Int32)) hx hb dX3_letter_20 (by decide) ?_
  refine lv_icmp_ne (tgt := 28) hx hb dX3_letter_22 (by decide) (fun c22 => ?_) (fun c22 => ?_)
  · have h := itF c22 h
    exact j28 _ h _ _ _ hP hD hS (lv_sub hl [1, 2, 0] rfl)
  have h := itT c22 h
  refine lv_bipush (v := (-6 : Int32)) hx hb dX3_letter_25 (by decide) ?_
  refine lv_istore_n (lv' := [(2, .int (-6 : Int32)), (0, .ref (f 0)), (1, .int p1)]) hx hb dX3_letter_27 rfl hl (by decide) rfl (fun ls hl => ?_)
  exact j28 _ h _ _ _ hP hD hS (lv_sub hl [1, 2, 0] rfl)
