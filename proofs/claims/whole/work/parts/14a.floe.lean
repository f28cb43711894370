theorem dX3_outOf_0 : decode cX3_outOf 0 = .ok (.iload_n 0, 1) := by decide +kernel
theorem dX3_outOf_1 : decode cX3_outOf 1 = .ok (.iload_n 1, 1) := by decide +kernel
theorem dX3_outOf_2 : decode cX3_outOf 2 = .ok (.if_icmp .ge 6, 3) := by decide +kernel
theorem dX3_outOf_5 : decode cX3_outOf 5 = .ok (.bipush (-4), 2) := by decide +kernel
theorem dX3_outOf_7 : decode cX3_outOf 7 = .ok (.ireturn, 1) := by decide +kernel
theorem dX3_outOf_8 : decode cX3_outOf 8 = .ok (.iload_n 0, 1) := by decide +kernel
theorem dX3_outOf_9 : decode cX3_outOf 9 = .ok (.iload_n 2, 1) := by decide +kernel
theorem dX3_outOf_10 : decode cX3_outOf 10 = .ok (.if_icmp .le 8, 3) := by decide +kernel
theorem dX3_outOf_13 : decode cX3_outOf 13 = .ok (.bipush (-6), 2) := by decide +kernel
theorem dX3_outOf_15 : decode cX3_outOf 15 = .ok (.goto 4, 3) := by decide +kernel
theorem dX3_outOf_18 : decode cX3_outOf 18 = .ok (.iconst 0, 1) := by decide +kernel
theorem dX3_outOf_19 : decode cX3_outOf 19 = .ok (.ireturn, 1) := by decide +kernel
set_option maxHeartbeats 4000000 in
set_option maxRecDepth 100000 in
theorem mX3_outOf (l : Launch) (dC : Nat → ClassId) (dI : Nat → Nat → Nat) (cI cC : ClassId) (sk : (Nat → Nat) × (Nat → Nat))  (p0 : Int32) (p1 : Int32) (p2 : Int32)  (z : Int32) (h : fX3_outOf p0 p1 p2 = some z) : cRO l yX3_outOf wsX3_outOf (RMk 0 0) sk (dC, dI) (tyz cI cC) ([] : va_W) [.int p0, .int p1, .int p2] z := by
  refine ofRO (cc := cX3_outOf) (maxL := 3) (ret := (some .int)) (own := RX3) (plainFor_of_name (by decide)) rfl rfl (Nat.le_of_ble_eq_true rfl) ?_
  intro p e s m args below meth c hx hb hml hr hts hown hlocks hE hK hP hS ls hl
  generalize hQ : qRO _ _ _ _ = Q
  have hl : lv_has ls 3 [(0, .int p0), (1, .int p1), (2, .int p2)] := hl
  rw [fX3_outOf] at h
  refine lv_iload_n hx hb dX3_outOf_0 rfl (lv_at hl 0 rfl) ?_
  refine lv_iload_n hx hb dX3_outOf_1 rfl (lv_at hl 1 rfl) ?_
  refine lv_icmp_ge (tgt := 8) hx hb dX3_outOf_2 (by decide) (fun c2 => ?_) (fun c2 => ?_)
  · have h := itT c2 h
    refine lv_iload_n hx hb dX3_outOf_8 rfl (lv_at hl 0 rfl) ?_
    refine lv_iload_n hx hb dX3_outOf_9 rfl (lv_at hl 2 rfl) ?_
    refine lv_icmp_le (tgt := 18) hx hb dX3_outOf_10 (by decide) (fun c10 => ?_) (fun c10 => ?_)
    · have h := itT c10 h
      refine lv_iconst (v := (0 : Int32)) hx hb dX3_outOf_18 (by decide) ?_
      subst hQ
      exact retRO hx hb hr hlocks rfl hS h dX3_outOf_19
    have h := itF c10 h
    refine lv_bipush (v := (-6 : Int32)) hx hb dX3_outOf_13 (by decide) ?_
    refine lv_goto (tgt := 19) hx hb dX3_outOf_15 (by decide) ?_
    subst hQ
    exact retRO hx hb hr hlocks rfl hS h dX3_outOf_19
  have h := itF c2 h
  refine lv_bipush (v := (-4 : Int32)) hx hb dX3_outOf_5 (by decide) ?_
  subst hQ
  exact retRO hx hb hr hlocks rfl hS h dX3_outOf_7
theorem dX3_refuse_0 : decode cX3_refuse 0 = .ok (.iload_n 1, 1) := by decide +kernel
theorem dX3_refuse_1 : decode cX3_refuse 1 = .ok (.ineg, 1) := by decide +kernel
theorem dX3_refuse_2 : decode cX3_refuse 2 = .ok (.istore_n 2, 1) := by decide +kernel
theorem dX3_refuse_3 : decode cX3_refuse 3 = .ok (.iload_n 2, 1) := by decide +kernel
theorem dX3_refuse_4 : decode cX3_refuse 4 = .ok (.ifCond .lt 22, 3) := by decide +kernel
theorem dX3_refuse_7 : decode cX3_refuse 7 = .ok (.iload_n 2, 1) := by decide +kernel
theorem dX3_refuse_8 : decode cX3_refuse 8 = .ok (.aload_n 0, 1) := by decide +kernel
theorem dX3_refuse_9 : decode cX3_refuse 9 = .ok (.getfield 42, 3) := by decide +kernel
theorem dX3_refuse_12 : decode cX3_refuse 12 = .ok (.arraylength, 1) := by decide +kernel
theorem dX3_refuse_13 : decode cX3_refuse 13 = .ok (.if_icmp .ge 13, 3) := by decide +kernel
theorem dX3_refuse_16 : decode cX3_refuse 16 = .ok (.aload_n 0, 1) := by decide +kernel
theorem dX3_refuse_17 : decode cX3_refuse 17 = .ok (.getfield 42, 3) := by decide +kernel
theorem dX3_refuse_20 : decode cX3_refuse 20 = .ok (.iload_n 2, 1) := by decide +kernel
theorem dX3_refuse_21 : decode cX3_refuse 21 = .ok (.dup2, 1) := by decide +kernel
theorem dX3_refuse_22 : decode cX3_refuse 22 = .ok (.iaload, 1) := by decide +kernel
theorem dX3_refuse_23 : decode cX3_refuse 23 = .ok (.iconst 1, 1) := by decide +kernel
theorem dX3_refuse_24 : decode cX3_refuse 24 = .ok (.iadd, 1) := by decide +kernel
theorem dX3_refuse_25 : decode cX3_refuse 25 = .ok (.iastore, 1) := by decide +kernel
theorem dX3_refuse_26 : decode cX3_refuse 26 = .ok (.iload_n 1, 1) := by decide +kernel
theorem dX3_refuse_27 : decode cX3_refuse 27 = .ok (.ireturn, 1) := by decide +kernel
set_option maxHeartbeats 4000000 in
set_option maxRecDepth 100000 in
theorem mX3_refuse (l : Launch) (dC : Nat → ClassId) (dI : Nat → Nat → Nat) (cI cC : ClassId) (sk : (Nat → Nat) × (Nat → Nat)) (f : Nat → Nat) (sz : Nat) (p1 : Int32) (c_lanes : AR) (c_spots : AR) (c_byLeaps : AR) (c_load : Int32) (c_gone : Int32) (c_held : Int32) (c_strong : Int32) (c_done : Int32) (c_rn : RT) (c_rt : RT) (c_letters : AR) (c_size : Int32) (c_rp : RT) (c_seen : AR) (c_refs : AR) (c_inRow : Int32) (c_isPic : Int32) (z : Int32 × AR) (h : fX3_refuse p1 c_refs = some z) : cRW l yX3_refuse wsX3_refuse (RMk 0 0) sk (dC, dI) (tyz cI cC) sz (zwX cI cC f c_lanes c_spots c_byLeaps c_load c_gone c_held c_strong c_done c_rn c_rt c_letters c_size c_rp c_seen c_refs c_inRow c_isPic) (zwX cI cC f c_lanes c_spots c_byLeaps c_load c_gone c_held c_strong c_done c_rn c_rt c_letters c_size c_rp c_seen z.2 c_inRow c_isPic) [.ref (f 0), .int p1] z.1 := by
  refine ofRW (cc := cX3_refuse) (maxL := 3) (ret := (some .int)) (own := RX3) (plainFor_of_name (by decide)) rfl rfl (Nat.le_of_ble_eq_true rfl) ?_
  intro p e s m args below meth c A hA hx hb hml hr hts hown hlocks hE hK hP hD hS ls hl
  generalize hQ : qRW _ _ _ _ _ _ _ = Q
  have hl : lv_has ls 3 [(0, .ref (f 0)), (1, .int p1)] := hl
  have hiX3 : ∀ w ∈ wsX30, w ∈ wsX3_refuse := fun w h => List.mem_cons_of_mem _ (List.mem_append_right _ h)
  have hw1 := hts (Cond.fieldLink RX3 42 "FloeToFloe" "refusals" "[I") (List.mem_of_getElem? (i := 1) rfl)
  rw [fX3_refuse] at h
  refine lv_iload_n hx hb dX3_refuse_0 rfl (lv_at hl 1 rfl) ?_
  refine lv_ineg hx hb dX3_refuse_1 ?_
  refine lv_istore_n (lv' := [(2, .int (-p1)), (0, .ref (f 0)), (1, .int p1)]) hx hb dX3_refuse_2 rfl hl (by decide) rfl (fun ls hl => ?_)
  refine lv_iload_n hx hb dX3_refuse_3 rfl (lv_at hl 0 rfl) ?_
  refine lv_if_lt (tgt := 26) hx hb dX3_refuse_4 (by decide) (fun c4 => ?_) (fun c4 => ?_)
  · have h := itT c4 h
    refine lv_iload_n hx hb dX3_refuse_26 rfl (lv_at hl 2 rfl) ?_
    subst hQ
    exact retRW (zz := ((p1, c_refs) : Int32 × AR)) (fun z => z.1) (fun z => (zwX cI cC f c_lanes c_spots c_byLeaps c_load c_gone c_held c_strong c_done c_rn c_rt c_letters c_size c_rp c_seen z.2 c_inRow c_isPic)) hx hb hr hlocks rfl hS h rfl hP dX3_refuse_27
  have h := itF c4 h
  refine lv_iload_n hx hb dX3_refuse_7 rfl (lv_at hl 0 rfl) ?_
  refine lv_aload_n hx hb dX3_refuse_8 rfl (lv_at hl 1 rfl) ?_
  refine va_get (D := (dC, dI)) (ci := 3) (v := .ref (f 26)) (C := RX3) (T := TX3) (N := 9) hx hb hts hiX3 hown hK hP 0 rfl rfl 6 (by decide) hw1 (fun _ h9 => h9) rfl dX3_refuse_9 ?_
  refine va_alen hx hb hK hP 26 0 rfl rfl (v := (7 : Int32)) rfl dX3_refuse_12 ?_
  refine lv_icmp_ge (tgt := 26) hx hb dX3_refuse_13 (by decide) (fun c13 => ?_) (fun c13 => ?_)
  · have h := itT c13 h
    refine lv_iload_n hx hb dX3_refuse_26 rfl (lv_at hl 2 rfl) ?_
    subst hQ
    exact retRW (zz := ((p1, c_refs) : Int32 × AR)) (fun z => z.1) (fun z => (zwX cI cC f c_lanes c_spots c_byLeaps c_load c_gone c_held c_strong c_done c_rn c_rt c_letters c_size c_rp c_seen z.2 c_inRow c_isPic)) hx hb hr hlocks rfl hS h rfl hP dX3_refuse_27
  have h := itF c13 h
  refine lv_aload_n hx hb dX3_refuse_16 rfl (lv_at hl 1 rfl) ?_
  refine va_get (D := (dC, dI)) (ci := 3) (v := .ref (f 26)) (C := RX3) (T := TX3) (N := 9) hx hb hts hiX3 hown hK hP 0 rfl rfl 6 (by decide) hw1 (fun _ h9 => h9) rfl dX3_refuse_17 ?_
  refine lv_iload_n hx hb dX3_refuse_20 rfl (lv_at hl 0 rfl) ?_
  refine lv_dup2_11 hx hb dX3_refuse_21 rfl rfl ?_
  obtain ⟨hin, h⟩ := ck_some h
  refine va_iald hx hb hK hP 26 0 rfl rfl hin dX3_refuse_22 ?_
  refine lv_iconst (v := (1 : Int32)) hx hb dX3_refuse_23 (by decide) ?_
  refine lv_iadd hx hb dX3_refuse_24 ?_
  obtain ⟨hin, h⟩ := ck_some h
  refine va_iast hx hb hK hP hD hS 26 0 rfl rfl hin dX3_refuse_25 (fun H locs hP hD hS => ?_)
  have hP : va_P (dC, dI) vwCl (zwX cI cC f c_lanes c_spots c_byLeaps c_load c_gone c_held c_strong c_done c_rn c_rt c_letters c_size c_rp c_seen (upd c_refs ((-p1)).toNatClampNeg ((c_refs ((-p1)).toNatClampNeg) + (1 : Int32))) c_inRow c_isPic) H := hP
  have hD : va_D A (zwX cI cC f c_lanes c_spots c_byLeaps c_load c_gone c_held c_strong c_done c_rn c_rt c_letters c_size c_rp c_seen (upd c_refs ((-p1)).toNatClampNeg ((c_refs ((-p1)).toNatClampNeg) + (1 : Int32))) c_inRow c_isPic) := hD
  refine lv_iload_n hx hb dX3_refuse_26 rfl (lv_at hl 2 rfl) ?_
  subst hQ
  exact retRW (zz := ((p1, (upd c_refs ((-p1)).toNatClampNeg ((c_refs ((-p1)).toNatClampNeg) + (1 : Int32)))) : Int32 × AR)) (fun z => z.1) (fun z => (zwX cI cC f c_lanes c_spots c_byLeaps c_load c_gone c_held c_strong c_done c_rn c_rt c_letters c_size c_rp c_seen z.2 c_inRow c_isPic)) hx hb hr hlocks rfl hS h rfl hP dX3_refuse_27
theorem dX3_letter_0 : decode cX3_letter 0 = .ok (.iload_n 1, 1) := by decide +kernel
theorem dX3_letter_1 : decode cX3_letter 1 = .ok (.iconst 0, 1) := by decide +kernel
theorem dX3_letter_2 : decode cX3_letter 2 = .ok (.sipush 255, 3) := by decide +kernel
theorem dX3_letter_5 : decode cX3_letter 5 = .ok (.invokestatic 45, 3) := by decide +kernel
theorem dX3_letter_8 : decode cX3_letter 8 = .ok (.istore_n 2, 1) := by decide +kernel
theorem dX3_letter_9 : decode cX3_letter 9 = .ok (.iload_n 2, 1) := by decide +kernel
theorem dX3_letter_10 : decode cX3_letter 10 = .ok (.ifCond .ne 18, 3) := by decide +kernel
theorem dX3_letter_13 : decode cX3_letter 13 = .ok (.aload_n 0, 1) := by decide +kernel
theorem dX3_letter_14 : decode cX3_letter 14 = .ok (.getfield 25, 3) := by decide +kernel
theorem dX3_letter_17 : decode cX3_letter 17 = .ok (.getfield 49, 3) := by decide +kernel
theorem dX3_letter_20 : decode cX3_letter 20 = .ok (.bipush 80, 2) := by decide +kernel
theorem dX3_letter_22 : decode cX3_letter 22 = .ok (.if_icmp .ne 6, 3) := by decide +kernel
theorem dX3_letter_25 : decode cX3_letter 25 = .ok (.bipush (-6), 2) := by decide +kernel
theorem dX3_letter_27 : decode cX3_letter 27 = .ok (.istore_n 2, 1) := by decide +kernel
theorem dX3_letter_28 : decode cX3_letter 28 = .ok (.iload_n 2, 1) := by decide +kernel
theorem dX3_letter_29 : decode cX3_letter 29 = .ok (.ifCond .eq 11, 3) := by decide +kernel
theorem dX3_letter_32 : decode cX3_letter 32 = .ok (.aload_n 0, 1) := by decide +kernel
theorem dX3_letter_33 : decode cX3_letter 33 = .ok (.iload_n 2, 1) := by decide +kernel
theorem dX3_letter_34 : decode cX3_letter 34 = .ok (.invokevirtual 53, 3) := by decide +kernel
theorem dX3_letter_37 : decode cX3_letter 37 = .ok (.goto 11, 3) := by decide +kernel
theorem dX3_letter_40 : decode cX3_letter 40 = .ok (.aload_n 0, 1) := by decide +kernel
theorem dX3_letter_41 : decode cX3_letter 41 = .ok (.getfield 25, 3) := by decide +kernel
theorem dX3_letter_44 : decode cX3_letter 44 = .ok (.iload_n 1, 1) := by decide +kernel
theorem dX3_letter_45 : decode cX3_letter 45 = .ok (.invokevirtual 57, 3) := by decide +kernel
theorem dX3_letter_48 : decode cX3_letter 48 = .ok (.ireturn, 1) := by decide +kernel
set_option maxRecDepth 20000 in
theorem ggX3_letter_X3_outOf : GoodIn wsX3_letter wsX3_outOf := goodIn_r _ [5] (by decide +kernel) (by decide +kernel)
set_option maxRecDepth 20000 in
theorem gX3_letter_X3_outOf : GoodIn wsX3_letter (va_wsS RX3 45 yX3_outOf wsX3_outOf) := goodIn_app (goodIn_of _ (by decide +kernel)) ggX3_letter_X3_outOf
set_option maxRecDepth 20000 in
theorem ggX3_letter_X3_refuse : GoodIn wsX3_letter wsX3_refuse := goodIn_r _ [9, 10, 18, 19, 20, 21, 22, 23, 24, 25, 26] (by decide +kernel) (by decide +kernel)
set_option maxRecDepth 20000 in
theorem gX3_letter_X3_refuse : GoodIn wsX3_letter (wsV RX3 53 RX3 yX3_refuse wsX3_refuse) := goodIn_app (goodIn_of _ (by decide +kernel)) ggX3_letter_X3_refuse
set_option maxRecDepth 20000 in
theorem ggX3_letter_X1_put : GoodIn wsX3_letter wsX1_put := goodIn_r _ [15, 16, 17, 27, 28] (by decide +kernel) (by decide +kernel)
set_option maxRecDepth 20000 in
theorem gX3_letter_X1_put : GoodIn wsX3_letter (wsV RX3 57 RX1 yX1_put wsX1_put) := goodIn_app (goodIn_of _ (by decide +kernel)) ggX3_letter_X1_put
set_option maxHeartbeats 4000000 in
set_option maxRecDepth 100000 in
theorem mX3_letter (l : Launch) (dC : Nat → ClassId) (dI : Nat → Nat → Nat) (cI cC : ClassId) (sk : (Nat → Nat) × (Nat → Nat)) (f : Nat → Nat) (sz : Nat) (p1 : Int32) (c_lanes : AR) (c_spots : AR) (c_byLeaps : AR) (c_load : Int32) (c_gone : Int32) (c_held : Int32) (c_strong : Int32) (c_done : Int32) (c_rn : RT) (c_rt : RT) (c_letters : AR) (c_size : Int32) (c_rp : RT) (c_seen : AR) (c_refs : AR) (c_inRow : Int32) (c_isPic : Int32) (z : Int32 × AR × Int32 × AR) (h : fX3_letter p1 c_letters c_size c_refs = some z) : cRW l yX3_letter wsX3_letter (RMk 1 22) sk (dC, dI) (tyz cI cC) sz (zwX cI cC f c_lanes c_spots c_byLeaps c_load c_gone c_held c_strong c_done c_rn c_rt c_letters c_size c_rp c_seen c_refs c_inRow c_isPic) (zwX cI cC f c_lanes c_spots c_byLeaps c_load c_gone c_held c_strong c_done c_rn c_rt z.2.1 z.2.2.1 c_rp c_seen z.2.2.2 c_inRow c_isPic) [.ref (f 0), .int p1] z.1 := by
  refine ofRW (cc := cX3_letter) (maxL := 3) (ret := (some .int)) (own := RX3) (plainFor_of_name (by decide)) rfl rfl (Nat.le_of_ble_eq_true rfl) ?_
  intro p e s m args below meth c A hA hx hb hml hr hts hown hlocks hE hK hP hD hS ls hl
  generalize hQ : qRW _ _ _ _ _ _ _ = Q
  have hl : lv_has ls 3 [(0, .ref (f 0)), (1, .int p1)] := hl
  have hiX1 : ∀ w ∈ wsX10, w ∈ wsX3_letter := fun w h => List.mem_cons_of_mem _ (List.mem_append_right _ h)
  have hiX3 : ∀ w ∈ wsX30, w ∈ wsX3_letter := fun w h => List.mem_cons_of_mem _ (List.mem_append_left _ (List.mem_append_right _ h))
  have hw1 := hts (Cond.fieldLink RX3 25 "FloeToFloe" "telling" "LFloeToFloe$Telling;") (List.mem_of_getElem? (i := 1) rfl)
  have hnw5 : (Cond.fieldLinkNest "FloeToFloe" 49 "FloeToFloe$Telling" "size" "I" "FloeToFloe").before args s = true := va_Nw.use rfl (hE.1 5 _ rfl)
  rw [fX3_letter] at h
  refine lv_iload_n hx hb dX3_letter_0 rfl (lv_at hl 1 rfl) ?_
  refine lv_iconst (v := (0 : Int32)) hx hb dX3_letter_1 (by decide) ?_
  refine lv_sipush (v := (255 : Int32)) hx hb dX3_letter_2 (by decide) ?_
  obtain ⟨q5, e5, h⟩ := bd_some h
  refine g_roS (wc := ([] : va_W)) ⟨hx, hb, hml, hown, hts⟩ hE hK hP hS [] rfl (mX3_outOf l dC dI cI cC sk  p1 (0 : Int32) (255 : Int32) q5 e5) (va_cwS 3 hts gX3_letter_X3_outOf rfl rfl rfl (by decide +kernel) ⟨Nat.le_of_ble_eq_true rfl, Nat.le_of_ble_eq_true rfl⟩) (As := [.int p1, .int (0 : Int32), .int (255 : Int32)]) (rest := []) rfl hl.1 rfl (Nat.le_of_ble_eq_true rfl) dX3_letter_5 ⟨Nat.zero_le _, Nat.zero_le _⟩ (fun H locs hP hS => ?_)
  refine lv_istore_n (lv' := [(2, .int q5), (0, .ref (f 0)), (1, .int p1)]) hx hb dX3_letter_8 rfl hl (by decide) rfl (fun ls hl => ?_)
  refine lv_iload_n hx hb dX3_letter_9 rfl (lv_at hl 0 rfl) ?_
  refine jnW (fun (v28 : Int32) => ∀ (H : Heap) (locs : List Loc) (ls : Array Slot), va_P (dC, dI) vwCl (zwX cI cC f c_lanes c_spots c_byLeaps c_load c_gone c_held c_strong c_done c_rn c_rt c_letters c_size c_rp c_seen c_refs c_inRow c_isPic) H → va_D A (zwX cI cC f c_lanes c_spots c_byLeaps c_load c_gone c_held c_strong c_done c_rn c_rt c_letters c_size c_rp c_seen c_refs c_inRow c_isPic) → va_S A s.heap H locs → lv_has ls 3 [(0, .ref (f 0)), (1, .int p1), (2, .int v28)] → W p l e (RMk 1 22) s m args below meth c H locs 0 0 Q (F0 m 28 ls [])) h (fun v28 h H locs ls hP hD hS hl => ?_) (fun J28 j28 h => ?_)
  · refine lv_iload_n hx hb dX3_letter_28 rfl (lv_at hl 2 rfl) ?_
    refine lv_if_eq (tgt := 40) hx hb dX3_letter_29 (by decide) (fun c29 => ?_) (fun c29 => ?_)
    · have h := itT c29 h
      refine lv_aload_n hx hb dX3_letter_40 rfl (lv_at hl 0 rfl) ?_
      refine va_get (D := (dC, dI)) (ci := 3) (v := .ref (f 17)) (C := RX3) (T := TX3) (N := 9) hx hb hts hiX3 hown hK hP 0 rfl rfl 3 (by decide) hw1 (fun _ h9 => h9) rfl dX3_letter_41 ?_
      refine lv_iload_n hx hb dX3_letter_44 rfl (lv_at hl 1 rfl) ?_
      obtain ⟨q45, e45, h⟩ := bd_some h
      refine g_rwV (wc := (zwT cI cC (fun k => f (k + 17)) c_letters c_size)) (wc' := (zwT cI cC (fun k => f (k + 17)) q45.2.1 q45.2.2)) ⟨hx, hb, hml, hown, hts⟩ hE hK hA hP hD hS [17, 18] rfl rfl rfl (mX1_put l dC dI cI cC sk (fun k => f (k + 17)) H.size p1 c_letters c_size q45 e45) (cwV 1 hts gX3_letter_X1_put rfl rfl rfl (by decide +kernel) ⟨Nat.le_of_ble_eq_true rfl, Nat.le_of_ble_eq_true rfl⟩) (va_recv hK hP (ci := 1) (q0 := 17) rfl rfl) (As := [.int p1]) (rest := []) rfl hl.1 rfl (Nat.le_of_ble_eq_true rfl) dX3_letter_45 ⟨Nat.zero_le _, Nat.zero_le _⟩ (fun H locs hP hD hS => ?_)
      have hP : va_P (dC, dI) vwCl (zwX cI cC f c_lanes c_spots c_byLeaps c_load c_gone c_held c_strong c_done c_rn c_rt q45.2.1 q45.2.2 c_rp c_seen c_refs c_inRow c_isPic) H := hP
      have hD : va_D A (zwX cI cC f c_lanes c_spots c_byLeaps c_load c_gone c_held c_strong c_done c_rn c_rt q45.2.1 q45.2.2 c_rp c_seen c_refs c_inRow c_isPic) := hD
      subst hQ
      exact retRW (zz := ((q45.1, q45.2.1, q45.2.2, c_refs) : Int32 × AR × Int32 × AR)) (fun z => z.1) (fun z => (zwX cI cC f c_lanes c_spots c_byLeaps c_load c_gone c_held c_strong c_done c_rn c_rt z.2.1 z.2.2.1 c_rp c_seen z.2.2.2 c_inRow c_isPic)) hx hb hr hlocks rfl hS h rfl hP dX3_letter_48
    have h := itF c29 h
    refine lv_aload_n hx hb dX3_letter_32 rfl (lv_at hl 0 rfl) ?_
    refine lv_iload_n hx hb dX3_letter_33 rfl (lv_at hl 2 rfl) ?_
    obtain ⟨q34, e34, h⟩ := bd_some h
    refine g_rwV (wc := (zwX cI cC f c_lanes c_spots c_byLeaps c_load c_gone c_held c_strong c_done c_rn c_rt c_letters c_size c_rp c_seen c_refs c_inRow c_isPic)) (wc' := (zwX cI cC f c_lanes c_spots c_byLeaps c_load c_gone c_held c_strong c_done c_rn c_rt c_letters c_size c_rp c_seen q34.2 c_inRow c_isPic)) ⟨hx, hb, hml, hown, hts⟩ hE hK hA hP hD hS [0, 1, 2, 3, 4, 5, 6, 7, 8, 9, 10, 11, 12, 13, 14, 15, 16, 17, 18, 19, 20, 21, 22, 23, 24, 25, 26] rfl rfl rfl (mX3_refuse l dC dI cI cC sk f H.size v28 c_lanes c_spots c_byLeaps c_load c_gone c_held c_strong c_done c_rn c_rt c_letters c_size c_rp c_seen c_refs c_inRow c_isPic q34 e34) (cwV 1 hts gX3_letter_X3_refuse rfl rfl rfl (by decide +kernel) ⟨Nat.le_of_ble_eq_true rfl, Nat.le_of_ble_eq_true rfl⟩) (va_recv hK hP (ci := 3) (q0 := 0) rfl rfl) (As := [.int v28]) (rest := []) rfl hl.1 rfl (Nat.le_of_ble_eq_true rfl) dX3_letter_34 ⟨Nat.zero_le _, Nat.zero_le _⟩ (fun H locs hP hD hS => ?_)
    have hP : va_P (dC, dI) vwCl (zwX cI cC f c_lanes c_spots c_byLeaps c_load c_gone c_held c_strong c_done c_rn c_rt c_letters c_size c_rp c_seen q34.2 c_inRow c_isPic) H := hP
    have hD : va_D A (zwX cI cC f c_lanes c_spots c_byLeaps c_load c_gone c_held c_strong c_done c_rn c_rt c_letters c_size c_rp c_seen q34.2 c_inRow c_isPic) := hD
    refine lv_goto (tgt := 48) hx hb dX3_letter_37 (by decide) ?_
    subst hQ
    exact retRW (zz := ((q34.1, c_letters, c_size, q34.2) : Int32 × AR × Int32 × AR)) (fun z => z.1) (fun z => (zwX cI cC f c_lanes c_spots c_byLeaps c_load c_gone c_held c_strong c_done c_rn c_rt z.2.1 z.2.2.1 c_rp c_seen z.2.2.2 c_inRow c_isPic)) hx hb hr hlocks rfl hS h rfl hP dX3_letter_48
  refine lv_if_ne (tgt := 28) hx hb dX3_letter_10 (by decide) (fun c10 => ?_) (fun c10 => ?_)
  · have h := itF c10 h
    exact j28 _ h _ _ _ hP hD hS (lv_sub hl [1, 2, 0] rfl)
  have h := itT c10 h
  refine lv_aload_n hx hb dX3_letter_13 rfl (lv_at hl 1 rfl) ?_
  refine va_get (D := (dC, dI)) (ci := 3) (v := .ref (f 17)) (C := RX3) (T := TX3) (N := 9) hx hb hts hiX3 hown hK hP 0 rfl rfl 3 (by decide) hw1 (fun _ h9 => h9) rfl dX3_letter_14 ?_
  refine va_getN (D := (dC, dI)) (ci := 1) (v := .int c_size) (C := RX1) (T := TX1) (N := 2) hx hb hts hiX1 hown hK hP 17 rfl rfl 1 (by decide) hnw5 (fun _ h9 => h9) rfl dX3_letter_17 ?_
  refine lv_bipush (v := (80 : Int32)) hx hb dX3_letter_20 (by decide) ?_
  refine lv_icmp_ne (tgt := 28) hx hb dX3_letter_22 (by decide) (fun c22 => ?_) (fun c22 => ?_)
  · have h := itF c22 h
    exact j28 _ h _ _ _ hP hD hS (lv_sub hl [1, 2, 0] rfl)
  have h := itT c22 h
  refine lv_bipush (v := (-6 : Int32)) hx hb dX3_letter_25 (by decide) ?_
  refine lv_istore_n (lv' := [(2, .int (-6 : Int32)), (0, .ref (f 0)), (1, .int p1)]) hx hb dX3_letter_27 rfl hl (by decide) rfl (fun ls hl => ?_)
  exact j28 _ h _ _ _ hP hD hS (lv_sub hl [1, 2, 0] rfl)
theorem dX3_river_0 : decode cX3_river 0 = .ok (.aload_n 0, 1) := by decide +kernel
theorem dX3_river_1 : decode cX3_river 1 = .ok (.getfield 16, 3) := by decide +kernel
theorem dX3_river_4 : decode cX3_river 4 = .ok (.aload_n 0, 1) := by decide +kernel
theorem dX3_river_5 : decode cX3_river 5 = .ok (.getfield 12, 3) := by decide +kernel
theorem dX3_river_8 : decode cX3_river 8 = .ok (.invokevirtual 60, 3) := by decide +kernel
theorem dX3_river_11 : decode cX3_river 11 = .ok (.aload_n 0, 1) := by decide +kernel
theorem dX3_river_12 : decode cX3_river 12 = .ok (.getfield 25, 3) := by decide +kernel
theorem dX3_river_15 : decode cX3_river 15 = .ok (.aload_n 0, 1) := by decide +kernel
theorem dX3_river_16 : decode cX3_river 16 = .ok (.getfield 16, 3) := by decide +kernel
theorem dX3_river_19 : decode cX3_river 19 = .ok (.invokevirtual 63, 3) := by decide +kernel
theorem dX3_river_22 : decode cX3_river 22 = .ok (.istore_n 1, 1) := by decide +kernel
theorem dX3_river_23 : decode cX3_river 23 = .ok (.iload_n 1, 1) := by decide +kernel
theorem dX3_river_24 : decode cX3_river 24 = .ok (.ifCond .le 14, 3) := by decide +kernel
theorem dX3_river_27 : decode cX3_river 27 = .ok (.aload_n 0, 1) := by decide +kernel
theorem dX3_river_28 : decode cX3_river 28 = .ok (.getfield 12, 3) := by decide +kernel
theorem dX3_river_31 : decode cX3_river 31 = .ok (.aload_n 0, 1) := by decide +kernel
theorem dX3_river_32 : decode cX3_river 32 = .ok (.getfield 16, 3) := by decide +kernel
theorem dX3_river_35 : decode cX3_river 35 = .ok (.invokevirtual 60, 3) := by decide +kernel
theorem dX3_river_38 : decode cX3_river 38 = .ok (.aload_n 0, 1) := by decide +kernel
theorem dX3_river_39 : decode cX3_river 39 = .ok (.getfield 25, 3) := by decide +kernel
theorem dX3_river_42 : decode cX3_river 42 = .ok (.iconst 0, 1) := by decide +kernel
theorem dX3_river_43 : decode cX3_river 43 = .ok (.putfield 49, 3) := by decide +kernel
theorem dX3_river_46 : decode cX3_river 46 = .ok (.iload_n 1, 1) := by decide +kernel
theorem dX3_river_47 : decode cX3_river 47 = .ok (.ireturn, 1) := by decide +kernel
set_option maxRecDepth 20000 in
theorem ggX3_river_X0_become : GoodIn wsX3_river wsX0_become := goodIn_r _ [8, 9, 10, 11, 12, 13, 14, 15, 16, 141, 142, 143, 144, 145, 146, 147, 148] (by decide +kernel) (by decide +kernel)
set_option maxRecDepth 20000 in
theorem gX3_river_X0_become : GoodIn wsX3_river (wsV RX3 60 RX0 yX0_become wsX0_become) := goodIn_app (goodIn_of _ (by decide +kernel)) ggX3_river_X0_become
set_option maxRecDepth 20000 in
theorem ggX3_river_X1_tellTo : GoodIn wsX3_river wsX1_tellTo := goodIn_r _ [21, 22, 23, 24, 25, 20, 26, 27, 28, 29, 30, 31, 32, 33, 34, 35, 36, 37, 38, 39, 40, 41, 42, 43, 44, 45, 46, 47, 48, 49, 50, 51, 52, 53, 54, 55, 56, 57, 58, 59, 60, 61, 62, 63, 64, 65, 66, 67, 68, 69, 70, 71, 72, 73, 74, 75, 76, 77, 78, 79, 80, 81, 82, 83, 84, 85, 86, 87, 88, 89, 90, 91, 92, 93, 94, 95, 96, 97, 98, 99, 100, 101, 7, 102, 15, 14, 103, 104, 105, 106, 10, 107, 108, 109, 110, 111, 112, 113, 114, 115, 116, 117, 118, 16, 119, 120, 121, 122, 123, 124, 125, 126, 9, 11, 12, 13, 127, 128, 129, 139, 140, 141, 142, 143, 144, 145, 146, 147, 148] (by decide +kernel) (by decide +kernel)
set_option maxRecDepth 20000 in
theorem gX3_river_X1_tellTo : GoodIn wsX3_river (wsV RX3 63 RX1 yX1_tellTo wsX1_tellTo) := goodIn_app (goodIn_of _ (by decide +kernel)) ggX3_river_X1_tellTo
set_option maxHeartbeats 4000000 in
set_option maxRecDepth 100000 in
theorem mX3_river (l : Launch) (dC : Nat → ClassId) (dI : Nat → Nat → Nat) (cI cC : ClassId) (sk : (Nat → Nat) × (Nat → Nat)) (f : Nat → Nat) (sz : Nat)  (c_lanes : AR) (c_spots : AR) (c_byLeaps : AR) (c_load : Int32) (c_gone : Int32) (c_held : Int32) (c_strong : Int32) (c_done : Int32) (c_rn : RT) (c_rt : RT) (c_letters : AR) (c_size : Int32) (c_rp : RT) (c_seen : AR) (c_refs : AR) (c_inRow : Int32) (c_isPic : Int32) (z : Int32 × RT × RT × Int32) (h : fX3_river c_rn c_rt c_letters c_size = some z) : cRW l yX3_river wsX3_river (RMk 9 196) sk (dC, dI) (tyz cI cC) sz (zwX cI cC f c_lanes c_spots c_byLeaps c_load c_gone c_held c_strong c_done c_rn c_rt c_letters c_size c_rp c_seen c_refs c_inRow c_isPic) (zwX cI cC f c_lanes c_spots c_byLeaps c_load c_gone c_held c_strong c_done z.2.1 z.2.2.1 c_letters z.2.2.2 c_rp c_seen c_refs c_inRow c_isPic) [.ref (f 0)] z.1 := by
  refine ofRW (cc := cX3_river) (maxL := 2) (ret := (some .int)) (own := RX3) (plainFor_of_name (by decide)) rfl rfl (Nat.le_of_ble_eq_true rfl) ?_
  intro p e s m args below meth c A hA hx hb hml hr hts hown hlocks hE hK hP hD hS ls hl
  generalize hQ : qRW _ _ _ _ _ _ _ = Q
  have hl : lv_has ls 2 [(0, .ref (f 0))] := hl
  have hiX1 : ∀ w ∈ wsX10, w ∈ wsX3_river := fun w h => List.mem_cons_of_mem _ (List.mem_append_left _ (List.mem_append_right _ h))
  have hiX3 : ∀ w ∈ wsX30, w ∈ wsX3_river := fun w h => List.mem_cons_of_mem _ (List.mem_append_left _ (List.mem_append_left _ (List.mem_append_right _ h)))
  have hw1 := hts (Cond.fieldLink RX3 16 "FloeToFloe" "trial" "LFloeToFloe$River;") (List.mem_of_getElem? (i := 1) rfl)
  have hw2 := hts (Cond.fieldLink RX3 12 "FloeToFloe" "now" "LFloeToFloe$River;") (List.mem_of_getElem? (i := 2) rfl)
  have hw3 := hts (Cond.fieldLink RX3 25 "FloeToFloe" "telling" "LFloeToFloe$Telling;") (List.mem_of_getElem? (i := 3) rfl)
  have hnw5 : (Cond.fieldLinkNest "FloeToFloe" 49 "FloeToFloe$Telling" "size" "I" "FloeToFloe").before args s = true := va_Nw.use rfl (hE.1 5 _ rfl)
  rw [fX3_river] at h
  refine lv_aload_n hx hb dX3_river_0 rfl (lv_at hl 0 rfl) ?_
  refine va_get (D := (dC, dI)) (ci := 3) (v := .ref (f 11)) (C := RX3) (T := TX3) (N := 9) hx hb hts hiX3 hown hK hP 0 rfl rfl 1 (by decide) hw1 (fun _ h9 => h9) rfl dX3_river_1 ?_
  refine lv_aload_n hx hb dX3_river_4 rfl (lv_at hl 0 rfl) ?_
  refine va_get (D := (dC, dI)) (ci := 3) (v := .ref (f 5)) (C := RX3) (T := TX3) (N := 9) hx hb hts hiX3 hown hK hP 0 rfl rfl 0 (by decide) hw2 (fun _ h9 => h9) rfl dX3_river_5 ?_
  obtain ⟨q8, e8, h⟩ := bd_some h
  refine g_rvV (wc := (zwRR cI cC (fun k => f (k + 11)) (fun k => f (k + 5)) c_rt c_rn)) (wc' := (zwRR cI cC (fun k => f (k + 11)) (fun k => f (k + 5)) q8 c_rn)) ⟨hx, hb, hml, hown, hts⟩ hE hK hA hP hD hS [11, 12, 13, 14, 15, 16, 5, 6, 7, 8, 9, 10] rfl rfl rfl (mX0_become l dC dI cI cC sk (fun k => f (k + 11)) (fun k => f (k + 5)) H.size c_rt c_rn q8 e8) (cwV 1 hts gX3_river_X0_become rfl rfl rfl (by decide +kernel) ⟨Nat.le_of_ble_eq_true rfl, Nat.le_of_ble_eq_true rfl⟩) (va_recv hK hP (ci := 0) (q0 := 11) rfl rfl) (As := [.ref (f 5)]) (rest := []) rfl hl.1 rfl (Nat.le_of_ble_eq_true rfl) dX3_river_8 ⟨Nat.zero_le _, Nat.zero_le _⟩ (fun H locs hP hD hS => ?_)
  have hP : va_P (dC, dI) vwCl (zwX cI cC f c_lanes c_spots c_byLeaps c_load c_gone c_held c_strong c_done c_rn q8 c_letters c_size c_rp c_seen c_refs c_inRow c_isPic) H := hP
  have hD : va_D A (zwX cI cC f c_lanes c_spots c_byLeaps c_load c_gone c_held c_strong c_done c_rn q8 c_letters c_size c_rp c_seen c_refs c_inRow c_isPic) := hD
  refine lv_aload_n hx hb dX3_river_11 rfl (lv_at hl 0 rfl) ?_
  refine va_get (D := (dC, dI)) (ci := 3) (v := .ref (f 17)) (C := RX3) (T := TX3) (N := 9) hx hb hts hiX3 hown hK hP 0 rfl rfl 3 (by decide) hw3 (fun _ h9 => h9) rfl dX3_river_12 ?_
  refine lv_aload_n hx hb dX3_river_15 rfl (lv_at hl 0 rfl) ?_
  refine va_get (D := (dC, dI)) (ci := 3) (v := .ref (f 11)) (C := RX3) (T := TX3) (N := 9) hx hb hts hiX3 hown hK hP 0 rfl rfl 1 (by decide) hw1 (fun _ h9 => h9) rfl dX3_river_16 ?_
  obtain ⟨q19, e19, h⟩ := bd_some h
  refine g_rwV (wc := (zwTR cI cC (fun k => f (k + 11)) q8 c_letters c_size)) (wc' := (zwTR cI cC (fun k => f (k + 11)) q19.2 c_letters c_size)) ⟨hx, hb, hml, hown, hts⟩ hE hK hA hP hD hS [11, 12, 13, 14, 15, 16, 17, 18] rfl rfl rfl (mX1_tellTo l dC dI cI cC sk (fun k => f (k + 11)) H.size q8 c_letters c_size q19 e19) (cwV 1 hts gX3_river_X1_tellTo rfl rfl rfl (by decide +kernel) ⟨Nat.le_of_ble_eq_true rfl, Nat.le_of_ble_eq_true rfl⟩) (va_recv hK hP (ci := 1) (q0 := 17) rfl rfl) (As := [.ref (f 11)]) (rest := []) rfl hl.1 rfl (Nat.le_of_ble_eq_true rfl) dX3_river_19 ⟨Nat.zero_le _, Nat.zero_le _⟩ (fun H locs hP hD hS => ?_)
  have hP : va_P (dC, dI) vwCl (zwX cI cC f c_lanes c_spots c_byLeaps c_load c_gone c_held c_strong c_done c_rn q19.2 c_letters c_size c_rp c_seen c_refs c_inRow c_isPic) H := hP
  have hD : va_D A (zwX cI cC f c_lanes c_spots c_byLeaps c_load c_gone c_held c_strong c_done c_rn q19.2 c_letters c_size c_rp c_seen c_refs c_inRow c_isPic) := hD
  refine lv_istore_n (lv' := [(1, .int q19.1), (0, .ref (f 0))]) hx hb dX3_river_22 rfl hl (by decide) rfl (fun ls hl => ?_)
  refine lv_iload_n hx hb dX3_river_23 rfl (lv_at hl 0 rfl) ?_
  refine jnW (fun (v38 : RT) => ∀ (H : Heap) (locs : List Loc) (ls : Array Slot), va_P (dC, dI) vwCl (zwX cI cC f c_lanes c_spots c_byLeaps c_load c_gone c_held c_strong c_done v38 q19.2 c_letters c_size c_rp c_seen c_refs c_inRow c_isPic) H → va_D A (zwX cI cC f c_lanes c_spots c_byLeaps c_load c_gone c_held c_strong c_done v38 q19.2 c_letters c_size c_rp c_seen c_refs c_inRow c_isPic) → va_S A s.heap H locs → lv_has ls 2 [(0, .ref (f 0)), (1, .int q19.1)] → W p l e (RMk 9 196) s m args below meth c H locs 0 0 Q (F0 m 38 ls [])) h (fun v38 h H locs ls hP hD hS hl => ?_) (fun J38 j38 h => ?_)
  · refine lv_aload_n hx hb dX3_river_38 rfl (lv_at hl 0 rfl) ?_
    refine va_get (D := (dC, dI)) (ci := 3) (v := .ref (f 17)) (C := RX3) (T := TX3) (N := 9) hx hb hts hiX3 hown hK hP 0 rfl rfl 3 (by decide) hw3 (fun _ h9 => h9) rfl dX3_river_39 ?_
    refine lv_iconst (v := (0 : Int32)) hx hb dX3_river_42 (by decide) ?_
    refine va_putN (D := (dC, dI)) (ci := 1) (v := .int (0 : Int32)) (ty := .int) (C := RX1) (T := TX1) (N := 2) hx hb hts hiX1 tyX1 tyX1_ok nmX1 hown hK hP hD hS 17 rfl rfl 1 (by decide) hnw5 (fun _ h9 => h9) rfl (by decide +kernel) rfl rfl (Nat.le_of_ble_eq_true rfl) dX3_river_43 (fun H locs hP hD hS => ?_)
    have hP : va_P (dC, dI) vwCl (zwX cI cC f c_lanes c_spots c_byLeaps c_load c_gone c_held c_strong c_done v38 q19.2 c_letters (0 : Int32) c_rp c_seen c_refs c_inRow c_isPic) H := hP
    have hD : va_D A (zwX cI cC f c_lanes c_spots c_byLeaps c_load c_gone c_held c_strong c_done v38 q19.2 c_letters (0 : Int32) c_rp c_seen c_refs c_inRow c_isPic) := hD
    refine lv_iload_n hx hb dX3_river_46 rfl (lv_at hl 1 rfl) ?_
    subst hQ
    exact retRW (zz := ((q19.1, v38, q19.2, (0 : Int32)) : Int32 × RT × RT × Int32)) (fun z => z.1) (fun z => (zwX cI cC f c_lanes c_spots c_byLeaps c_load c_gone c_held c_strong c_done z.2.1 z.2.2.1 c_letters z.2.2.2 c_rp c_seen c_refs c_inRow c_isPic)) hx hb hr hlocks rfl hS h rfl hP dX3_river_47
  refine lv_if_le (tgt := 38) hx hb dX3_river_24 (by decide) (fun c24 => ?_) (fun c24 => ?_)
  · have h := itT c24 h
    exact j38 _ h _ _ _ hP hD hS (lv_sub hl [1, 0] rfl)
  have h := itF c24 h
  refine lv_aload_n hx hb dX3_river_27 rfl (lv_at hl 1 rfl) ?_
  refine va_get (D := (dC, dI)) (ci := 3) (v := .ref (f 5)) (C := RX3) (T := TX3) (N := 9) hx hb hts hiX3 hown hK hP 0 rfl rfl 0 (by decide) hw2 (fun _ h9 => h9) rfl dX3_river_28 ?_
  refine lv_aload_n hx hb dX3_river_31 rfl (lv_at hl 1 rfl) ?_
  refine va_get (D := (dC, dI)) (ci := 3) (v := .ref (f 11)) (C := RX3) (T := TX3) (N := 9) hx hb hts hiX3 hown hK hP 0 rfl rfl 1 (by decide) hw1 (fun _ h9 => h9) rfl dX3_river_32 ?_
  obtain ⟨q35, e35, h⟩ := bd_some h
  refine g_rvV (wc := (zwRR cI cC (fun k => f (k + 5)) (fun k => f (k + 11)) c_rn q19.2)) (wc' := (zwRR cI cC (fun k => f (k + 5)) (fun k => f (k + 11)) q35 q19.2)) ⟨hx, hb, hml, hown, hts⟩ hE hK hA hP hD hS [5, 6, 7, 8, 9, 10, 11, 12, 13, 14, 15, 16] rfl rfl rfl (mX0_become l dC dI cI cC sk (fun k => f (k + 5)) (fun k => f (k + 11)) H.size c_rn q19.2 q35 e35) (cwV 1 hts gX3_river_X0_become rfl rfl rfl (by decide +kernel) ⟨Nat.le_of_ble_eq_true rfl, Nat.le_of_ble_eq_true rfl⟩) (va_recv hK hP (ci := 0) (q0 := 5) rfl rfl) (As := [.ref (f 11)]) (rest := []) rfl hl.1 rfl (Nat.le_of_ble_eq_true rfl) dX3_river_35 ⟨Nat.zero_le _, Nat.zero_le _⟩ (fun H locs hP hD hS => ?_)
  have hP : va_P (dC, dI) vwCl (zwX cI cC f c_lanes c_spots c_byLeaps c_load c_gone c_held c_strong c_done q35 q19.2 c_letters c_size c_rp c_seen c_refs c_inRow c_isPic) H := hP
  have hD : va_D A (zwX cI cC f c_lanes c_spots c_byLeaps c_load c_gone c_held c_strong c_done q35 q19.2 c_letters c_size c_rp c_seen c_refs c_inRow c_isPic) := hD
  exact j38 _ h _ _ _ hP hD hS (lv_sub hl [1, 0] rfl)
theorem dX3_floe_0 : decode cX3_floe 0 = .ok (.aload_n 0, 1) := by decide +kernel
theorem dX3_floe_1 : decode cX3_floe 1 = .ok (.getfield 12, 3) := by decide +kernel
theorem dX3_floe_4 : decode cX3_floe 4 = .ok (.iload_n 1, 1) := by decide +kernel
theorem dX3_floe_5 : decode cX3_floe 5 = .ok (.invokevirtual 67, 3) := by decide +kernel
theorem dX3_floe_8 : decode cX3_floe 8 = .ok (.ifCond .ne 9, 3) := by decide +kernel
theorem dX3_floe_11 : decode cX3_floe 11 = .ok (.aload_n 0, 1) := by decide +kernel
theorem dX3_floe_12 : decode cX3_floe 12 = .ok (.iconst (-1), 1) := by decide +kernel
theorem dX3_floe_13 : decode cX3_floe 13 = .ok (.invokevirtual 53, 3) := by decide +kernel
theorem dX3_floe_16 : decode cX3_floe 16 = .ok (.ireturn, 1) := by decide +kernel
theorem dX3_floe_17 : decode cX3_floe 17 = .ok (.iload_n 2, 1) := by decide +kernel
theorem dX3_floe_18 : decode cX3_floe 18 = .ok (.ifCond .lt 8, 3) := by decide +kernel
theorem dX3_floe_21 : decode cX3_floe 21 = .ok (.iload_n 2, 1) := by decide +kernel
theorem dX3_floe_22 : decode cX3_floe 22 = .ok (.iconst 4, 1) := by decide +kernel
theorem dX3_floe_23 : decode cX3_floe 23 = .ok (.if_icmp .le 10, 3) := by decide +kernel
theorem dX3_floe_26 : decode cX3_floe 26 = .ok (.aload_n 0, 1) := by decide +kernel
theorem dX3_floe_27 : decode cX3_floe 27 = .ok (.bipush (-2), 2) := by decide +kernel
theorem dX3_floe_29 : decode cX3_floe 29 = .ok (.invokevirtual 53, 3) := by decide +kernel
theorem dX3_floe_32 : decode cX3_floe 32 = .ok (.ireturn, 1) := by decide +kernel
theorem dX3_floe_33 : decode cX3_floe 33 = .ok (.aload_n 0, 1) := by decide +kernel
theorem dX3_floe_34 : decode cX3_floe 34 = .ok (.getfield 12, 3) := by decide +kernel
theorem dX3_floe_37 : decode cX3_floe 37 = .ok (.iload_n 1, 1) := by decide +kernel
theorem dX3_floe_38 : decode cX3_floe 38 = .ok (.iload_n 2, 1) := by decide +kernel
theorem dX3_floe_39 : decode cX3_floe 39 = .ok (.invokevirtual 71, 3) := by decide +kernel
theorem dX3_floe_42 : decode cX3_floe 42 = .ok (.ireturn, 1) := by decide +kernel
set_option maxRecDepth 20000 in
theorem ggX3_floe_X0_has : GoodIn wsX3_floe wsX0_has := goodIn_r _ [6, 7, 33, 34, 35, 36, 37, 38, 39, 40] (by decide +kernel) (by decide +kernel)
set_option maxRecDepth 20000 in
theorem gX3_floe_X0_has : GoodIn wsX3_floe (wsV RX3 67 RX0 yX0_has wsX0_has) := goodIn_app (goodIn_of _ (by decide +kernel)) ggX3_floe_X0_has
set_option maxRecDepth 20000 in
theorem ggX3_floe_X3_refuse : GoodIn wsX3_floe wsX3_refuse := goodIn_r _ [12, 13, 24, 25, 26, 27, 28, 29, 30, 31, 32] (by decide +kernel) (by decide +kernel)
set_option maxRecDepth 20000 in
theorem gX3_floe_X3_refuse : GoodIn wsX3_floe (wsV RX3 53 RX3 yX3_refuse wsX3_refuse) := goodIn_app (goodIn_of _ (by decide +kernel)) ggX3_floe_X3_refuse
set_option maxRecDepth 20000 in
theorem ggX3_floe_X0_toldOf : GoodIn wsX3_floe wsX0_toldOf := goodIn_r _ [17, 18, 19, 20, 21, 22, 23, 3, 4, 5, 6, 7, 33, 34, 35, 36, 37, 38, 39, 40] (by decide +kernel) (by decide +kernel)
set_option maxRecDepth 20000 in
theorem gX3_floe_X0_toldOf : GoodIn wsX3_floe (wsV RX3 71 RX0 yX0_toldOf wsX0_toldOf) := goodIn_app (goodIn_of _ (by decide +kernel)) ggX3_floe_X0_toldOf
set_option maxHeartbeats 4000000 in
set_option maxRecDepth 100000 in
theorem mX3_floe (l : Launch) (dC : Nat → ClassId) (dI : Nat → Nat → Nat) (cI cC : ClassId) (sk : (Nat → Nat) × (Nat → Nat)) (f : Nat → Nat) (sz : Nat) (p1 : Int32) (p2 : Int32) (c_lanes : AR) (c_spots : AR) (c_byLeaps : AR) (c_load : Int32) (c_gone : Int32) (c_held : Int32) (c_strong : Int32) (c_done : Int32) (c_rn : RT) (c_rt : RT) (c_letters : AR) (c_size : Int32) (c_rp : RT) (c_seen : AR) (c_refs : AR) (c_inRow : Int32) (c_isPic : Int32) (z : Int32 × AR) (h : fX3_floe p1 p2 c_rn c_refs = some z) : cRW l yX3_floe wsX3_floe (RMk 2 43) sk (dC, dI) (tyz cI cC) sz (zwX cI cC f c_lanes c_spots c_byLeaps c_load c_gone c_held c_strong c_done c_rn c_rt c_letters c_size c_rp c_seen c_refs c_inRow c_isPic) (zwX cI cC f c_lanes c_spots c_byLeaps c_load c_gone c_held c_strong c_done c_rn c_rt c_letters c_size c_rp c_seen z.2 c_inRow c_isPic) [.ref (f 0), .int p1, .int p2] z.1 := by
  refine ofRW (cc := cX3_floe) (maxL := 3) (ret := (some .int)) (own := RX3) (plainFor_of_name (by decide)) rfl rfl (Nat.le_of_ble_eq_true rfl) ?_
  intro p e s m args below meth c A hA hx hb hml hr hts hown hlocks hE hK hP hD hS ls hl
  generalize hQ : qRW _ _ _ _ _ _ _ = Q
  have hl : lv_has ls 3 [(0, .ref (f 0)), (1, .int p1), (2, .int p2)] := hl
  have hiX3 : ∀ w ∈ wsX30, w ∈ wsX3_floe := fun w h => List.mem_cons_of_mem _ (List.mem_append_left _ (List.mem_append_right _ h))
  have hw1 := hts (Cond.fieldLink RX3 12 "FloeToFloe" "now" "LFloeToFloe$River;") (List.mem_of_getElem? (i := 1) rfl)
  rw [fX3_floe] at h
  refine lv_aload_n hx hb dX3_floe_0 rfl (lv_at hl 0 rfl) ?_
  refine va_get (D := (dC, dI)) (ci := 3) (v := .ref (f 5)) (C := RX3) (T := TX3) (N := 9) hx hb hts hiX3 hown hK hP 0 rfl rfl 0 (by decide) hw1 (fun _ h9 => h9) rfl dX3_floe_1 ?_
  refine lv_iload_n hx hb dX3_floe_4 rfl (lv_at hl 1 rfl) ?_
  obtain ⟨q5, e5, h⟩ := bd_some h
  refine g_roV (wc := (zwR cI cC (fun k => f (k + 5)) c_rn)) ⟨hx, hb, hml, hown, hts⟩ hE hK hP hS [5, 6, 7, 8, 9, 10] rfl (mX0_has l dC dI cI cC sk (fun k => f (k + 5)) p1 c_rn q5 e5) (cwV 1 hts gX3_floe_X0_has rfl rfl rfl (by decide +kernel) ⟨Nat.le_of_ble_eq_true rfl, Nat.le_of_ble_eq_true rfl⟩) (va_recv hK hP (ci := 0) (q0 := 5) rfl rfl) (As := [.int p1]) (rest := []) rfl hl.1 rfl (Nat.le_of_ble_eq_true rfl) dX3_floe_5 ⟨Nat.zero_le _, Nat.zero_le _⟩ (fun H locs hP hS => ?_)
  refine lv_if_ne (tgt := 17) hx hb dX3_floe_8 (by decide) (fun c8 => ?_) (fun c8 => ?_)
  · have h := itF c8 h
    refine lv_iload_n hx hb dX3_floe_17 rfl (lv_at hl 2 rfl) ?_
    refine jnW (fun (v26 : Unit) => ∀ (H : Heap) (locs : List Loc) (ls : Array Slot), va_P (dC, dI) vwCl (zwX cI cC f c_lanes c_spots c_byLeaps c_load c_gone c_held c_strong c_done c_rn c_rt c_letters c_size c_rp c_seen c_refs c_inRow c_isPic) H → va_D A (zwX cI cC f c_lanes c_spots c_byLeaps c_load c_gone c_held c_strong c_done c_rn c_rt c_letters c_size c_rp c_seen c_refs c_inRow c_isPic) → va_S A s.heap H locs → lv_has ls 3 [(0, .ref (f 0))] → W p l e (RMk 2 43) s m args below meth c H locs 0 0 Q (F0 m 26 ls [])) h (fun v26 h H locs ls hP hD hS hl => ?_) (fun J26 j26 h => ?_)
    · refine lv_aload_n hx hb dX3_floe_26 rfl (lv_at hl 0 rfl) ?_
      refine lv_bipush (v := (-2 : Int32)) hx hb dX3_floe_27 (by decide) ?_
      obtain ⟨q29, e29, h⟩ := bd_some h
      refine g_rwV (wc := (zwX cI cC f c_lanes c_spots c_byLeaps c_load c_gone c_held c_strong c_done c_rn c_rt c_letters c_size c_rp c_seen c_refs c_inRow c_isPic)) (wc' := (zwX cI cC f c_lanes c_spots c_byLeaps c_load c_gone c_held c_strong c_done c_rn c_rt c_letters c_size c_rp c_seen q29.2 c_inRow c_isPic)) ⟨hx, hb, hml, hown, hts⟩ hE hK hA hP hD hS [0, 1, 2, 3, 4, 5, 6, 7, 8, 9, 10, 11, 12, 13, 14, 15, 16, 17, 18, 19, 20, 21, 22, 23, 24, 25, 26] rfl rfl rfl (mX3_refuse l dC dI cI cC sk f H.size (-2 : Int32) c_lanes c_spots c_byLeaps c_load c_gone c_held c_strong c_done c_rn c_rt c_letters c_size c_rp c_seen c_refs c_inRow c_isPic q29 e29) (cwV 1 hts gX3_floe_X3_refuse rfl rfl rfl (by decide +kernel) ⟨Nat.le_of_ble_eq_true rfl, Nat.le_of_ble_eq_true rfl⟩) (va_recv hK hP (ci := 3) (q0 := 0) rfl rfl) (As := [.int (-2 : Int32)]) (rest := []) rfl hl.1 rfl (Nat.le_of_ble_eq_true rfl) dX3_floe_29 ⟨Nat.zero_le _, Nat.zero_le _⟩ (fun H locs hP hD hS => ?_)
      have hP : va_P (dC, dI) vwCl (zwX cI cC f c_lanes c_spots c_byLeaps c_load c_gone c_held c_strong c_done c_rn c_rt c_letters c_size c_rp c_seen q29.2 c_inRow c_isPic) H := hP
      have hD : va_D A (zwX cI cC f c_lanes c_spots c_byLeaps c_load c_gone c_held c_strong c_done c_rn c_rt c_letters c_size c_rp c_seen q29.2 c_inRow c_isPic) := hD
      subst hQ
      exact retRW (zz := ((q29.1, q29.2) : Int32 × AR)) (fun z => z.1) (fun z => (zwX cI cC f c_lanes c_spots c_byLeaps c_load c_gone c_held c_strong c_done c_rn c_rt c_letters c_size c_rp c_seen z.2 c_inRow c_isPic)) hx hb hr hlocks rfl hS h rfl hP dX3_floe_32
    refine lv_if_lt (tgt := 26) hx hb dX3_floe_18 (by decide) (fun c18 => ?_) (fun c18 => ?_)
    · have h := itT c18 h
      exact j26 _ h _ _ _ hP hD hS (lv_sub hl [0] rfl)
    have h := itF c18 h
    refine lv_iload_n hx hb dX3_floe_21 rfl (lv_at hl 2 rfl) ?_
    refine lv_iconst (v := (4 : Int32)) hx hb dX3_floe_22 (by decide) ?_
    refine lv_icmp_le (tgt := 33) hx hb dX3_floe_23 (by decide) (fun c23 => ?_) (fun c23 => ?_)
    · have h := itT c23 h
      refine lv_aload_n hx hb dX3_floe_33 rfl (lv_at hl 0 rfl) ?_
      refine va_get (D := (dC, dI)) (ci := 3) (v := .ref (f 5)) (C := RX3) (T := TX3) (N := 9) hx hb hts hiX3 hown hK hP 0 rfl rfl 0 (by decide) hw1 (fun _ h9 => h9) rfl dX3_floe_34 ?_
      refine lv_iload_n hx hb dX3_floe_37 rfl (lv_at hl 1 rfl) ?_
      refine lv_iload_n hx hb dX3_floe_38 rfl (lv_at hl 2 rfl) ?_
      obtain ⟨q39, e39, h⟩ := bd_some h
      refine g_roV (wc := (zwR cI cC (fun k => f (k + 5)) c_rn)) ⟨hx, hb, hml, hown, hts⟩ hE hK hP hS [5, 6, 7, 8, 9, 10] rfl (mX0_toldOf l dC dI cI cC sk (fun k => f (k + 5)) p1 p2 c_rn q39 e39) (cwV 2 hts gX3_floe_X0_toldOf rfl rfl rfl (by decide +kernel) ⟨Nat.le_of_ble_eq_true rfl, Nat.le_of_ble_eq_true rfl⟩) (va_recv hK hP (ci := 0) (q0 := 5) rfl rfl) (As := [.int p1, .int p2]) (rest := []) rfl hl.1 rfl (Nat.le_of_ble_eq_true rfl) dX3_floe_39 ⟨Nat.zero_le _, Nat.zero_le _⟩ (fun H locs hP hS => ?_)
      subst hQ
      exact retRW (zz := ((q39, c_refs) : Int32 × AR)) (fun z => z.1) (fun z => (zwX cI cC f c_lanes c_spots c_byLeaps c_load c_gone c_held c_strong c_done c_rn c_rt c_letters c_size c_rp c_seen z.2 c_inRow c_isPic)) hx hb hr hlocks rfl hS h rfl hP dX3_floe_42
    have h := itF c23 h
    exact j26 _ h _ _ _ hP hD hS (lv_sub hl [0] rfl)
  have h := itT c8 h
  refine lv_aload_n hx hb dX3_floe_11 rfl (lv_at hl 0 rfl) ?_
  refine lv_iconst (v := (-1 : Int32)) hx hb dX3_floe_12 (by decide) ?_
  obtain ⟨q13, e13, h⟩ := bd_some h
  refine g_rwV (wc := (zwX cI cC f c_lanes c_spots c_byLeaps c_load c_gone c_held c_strong c_done c_rn c_rt c_letters c_size c_rp c_seen c_refs c_inRow c_isPic)) (wc' := (zwX cI cC f c_lanes c_spots c_byLeaps c_load c_gone c_held c_strong c_done c_rn c_rt c_letters c_size c_rp c_seen q13.2 c_inRow c_isPic)) ⟨hx, hb, hml, hown, hts⟩ hE hK hA hP hD hS [0, 1, 2, 3, 4, 5, 6, 7, 8, 9, 10, 11, 12, 13, 14, 15, 16, 17, 18, 19, 20, 21, 22, 23, 24, 25, 26] rfl rfl rfl (mX3_refuse l dC dI cI cC sk f H.size (-1 : Int32) c_lanes c_spots c_byLeaps c_load c_gone c_held c_strong c_done c_rn c_rt c_letters c_size c_rp c_seen c_refs c_inRow c_isPic q13 e13) (cwV 1 hts gX3_floe_X3_refuse rfl rfl rfl (by decide +kernel) ⟨Nat.le_of_ble_eq_true rfl, Nat.le_of_ble_eq_true rfl⟩) (va_recv hK hP (ci := 3) (q0 := 0) rfl rfl) (As := [.int (-1 : Int32)]) (rest := []) rfl hl.1 rfl (Nat.le_of_ble_eq_true rfl) dX3_floe_13 ⟨Nat.zero_le _, Nat.zero_le _⟩ (fun H locs hP hD hS => ?_)
  have hP : va_P (dC, dI) vwCl (zwX cI cC f c_lanes c_spots c_byLeaps c_load c_gone c_held c_strong c_done c_rn c_rt c_letters c_size c_rp c_seen q13.2 c_inRow c_isPic) H := hP
  have hD : va_D A (zwX cI cC f c_lanes c_spots c_byLeaps c_load c_gone c_held c_strong c_done c_rn c_rt c_letters c_size c_rp c_seen q13.2 c_inRow c_isPic) := hD
  subst hQ
  exact retRW (zz := ((q13.1, q13.2) : Int32 × AR)) (fun z => z.1) (fun z => (zwX cI cC f c_lanes c_spots c_byLeaps c_load c_gone c_held c_strong c_done c_rn c_rt c_letters c_size c_rp c_seen z.2 c_inRow c_isPic)) hx hb hr hlocks rfl hS h rfl hP dX3_floe_16
theorem dX3_faultOfLook_0 : decode cX3_faultOfLook 0 = .ok (.aload_n 0, 1) := by decide +kernel
theorem dX3_faultOfLook_1 : decode cX3_faultOfLook 1 = .ok (.getfield 12, 3) := by decide +kernel
theorem dX3_faultOfLook_4 : decode cX3_faultOfLook 4 = .ok (.iload_n 1, 1) := by decide +kernel
theorem dX3_faultOfLook_5 : decode cX3_faultOfLook 5 = .ok (.invokevirtual 67, 3) := by decide +kernel
theorem dX3_faultOfLook_8 : decode cX3_faultOfLook 8 = .ok (.ifCond .eq 13, 3) := by decide +kernel
theorem dX3_faultOfLook_11 : decode cX3_faultOfLook 11 = .ok (.iload_n 2, 1) := by decide +kernel
theorem dX3_faultOfLook_12 : decode cX3_faultOfLook 12 = .ok (.iconst 0, 1) := by decide +kernel
theorem dX3_faultOfLook_13 : decode cX3_faultOfLook 13 = .ok (.bipush 120, 2) := by decide +kernel
theorem dX3_faultOfLook_15 : decode cX3_faultOfLook 15 = .ok (.invokestatic 45, 3) := by decide +kernel
theorem dX3_faultOfLook_18 : decode cX3_faultOfLook 18 = .ok (.goto 4, 3) := by decide +kernel
theorem dX3_faultOfLook_21 : decode cX3_faultOfLook 21 = .ok (.iconst (-1), 1) := by decide +kernel
theorem dX3_faultOfLook_22 : decode cX3_faultOfLook 22 = .ok (.ireturn, 1) := by decide +kernel
set_option maxRecDepth 20000 in
theorem ggX3_faultOfLook_X0_has : GoodIn wsX3_faultOfLook wsX0_has := goodIn_r _ [6, 7, 21, 22, 23, 24, 25, 26, 27, 28] (by decide +kernel) (by decide +kernel)
set_option maxRecDepth 20000 in
theorem gX3_faultOfLook_X0_has : GoodIn wsX3_faultOfLook (wsV RX3 67 RX0 yX0_has wsX0_has) := goodIn_app (goodIn_of _ (by decide +kernel)) ggX3_faultOfLook_X0_has
set_option maxRecDepth 20000 in
theorem ggX3_faultOfLook_X3_outOf : GoodIn wsX3_faultOfLook wsX3_outOf := goodIn_r _ [11] (by decide +kernel) (by decide +kernel)
set_option maxRecDepth 20000 in
theorem gX3_faultOfLook_X3_outOf : GoodIn wsX3_faultOfLook (va_wsS RX3 45 yX3_outOf wsX3_outOf) := goodIn_app (goodIn_of _ (by decide +kernel)) ggX3_faultOfLook_X3_outOf
set_option maxHeartbeats 4000000 in
set_option maxRecDepth 100000 in
theorem mX3_faultOfLook (l : Launch) (dC : Nat → ClassId) (dI : Nat → Nat → Nat) (cI cC : ClassId) (sk : (Nat → Nat) × (Nat → Nat)) (f : Nat → Nat) (p1 : Int32) (p2 : Int32) (c_lanes : AR) (c_spots : AR) (c_byLeaps : AR) (c_load : Int32) (c_gone : Int32) (c_held : Int32) (c_strong : Int32) (c_done : Int32) (c_rn : RT) (c_rt : RT) (c_letters : AR) (c_size : Int32) (c_rp : RT) (c_seen : AR) (c_refs : AR) (c_inRow : Int32) (c_isPic : Int32) (z : Int32) (h : fX3_faultOfLook p1 p2 c_rn = some z) : cRO l yX3_faultOfLook wsX3_faultOfLook (RMk 1 22) sk (dC, dI) (tyz cI cC) (zwX cI cC f c_lanes c_spots c_byLeaps c_load c_gone c_held c_strong c_done c_rn c_rt c_letters c_size c_rp c_seen c_refs c_inRow c_isPic) [.ref (f 0), .int p1, .int p2] z := by
  refine ofRO (cc := cX3_faultOfLook) (maxL := 3) (ret := (some .int)) (own := RX3) (plainFor_of_name (by decide)) rfl rfl (Nat.le_of_ble_eq_true rfl) ?_
  intro p e s m args below meth c hx hb hml hr hts hown hlocks hE hK hP hS ls hl
  generalize hQ : qRO _ _ _ _ = Q
  have hl : lv_has ls 3 [(0, .ref (f 0)), (1, .int p1), (2, .int p2)] := hl
  have hiX3 : ∀ w ∈ wsX30, w ∈ wsX3_faultOfLook := fun w h => List.mem_cons_of_mem _ (List.mem_append_left _ (List.mem_append_right _ h))
  have hw1 := hts (Cond.fieldLink RX3 12 "FloeToFloe" "now" "LFloeToFloe$River;") (List.mem_of_getElem? (i := 1) rfl)
  rw [fX3_faultOfLook] at h
  refine lv_aload_n hx hb dX3_faultOfLook_0 rfl (lv_at hl 0 rfl) ?_
  refine va_get (D := (dC, dI)) (ci := 3) (v := .ref (f 5)) (C := RX3) (T := TX3) (N := 9) hx hb hts hiX3 hown hK hP 0 rfl rfl 0 (by decide) hw1 (fun _ h9 => h9) rfl dX3_faultOfLook_1 ?_
  refine lv_iload_n hx hb dX3_faultOfLook_4 rfl (lv_at hl 1 rfl) ?_
  obtain ⟨q5, e5, h⟩ := bd_some h
  refine g_roV (wc := (zwR cI cC (fun k => f (k + 5)) c_rn)) ⟨hx, hb, hml, hown, hts⟩ hE hK hP hS [5, 6, 7, 8, 9, 10] rfl (mX0_has l dC dI cI cC sk (fun k => f (k + 5)) p1 c_rn q5 e5) (cwV 1 hts gX3_faultOfLook_X0_has rfl rfl rfl (by decide +kernel) ⟨Nat.le_of_ble_eq_true rfl, Nat.le_of_ble_eq_true rfl⟩) (va_recv hK hP (ci := 0) (q0 := 5) rfl rfl) (As := [.int p1]) (rest := []) rfl hl.1 rfl (Nat.le_of_ble_eq_true rfl) dX3_faultOfLook_5 ⟨Nat.zero_le _, Nat.zero_le _⟩ (fun H locs hP hS => ?_)
  refine lv_if_eq (tgt := 21) hx hb dX3_faultOfLook_8 (by decide) (fun c8 => ?_) (fun c8 => ?_)
  · have h := itT c8 h
    refine lv_iconst (v := (-1 : Int32)) hx hb dX3_faultOfLook_21 (by decide) ?_
    subst hQ
    exact retRO hx hb hr hlocks rfl hS h dX3_faultOfLook_22
  have h := itF c8 h
  refine lv_iload_n hx hb dX3_faultOfLook_11 rfl (lv_at hl 2 rfl) ?_
  refine lv_iconst (v := (0 : Int32)) hx hb dX3_faultOfLook_12 (by decide) ?_
  refine lv_bipush (v := (120 : Int32)) hx hb dX3_faultOfLook_13 (by decide) ?_
  obtain ⟨q15, e15, h⟩ := bd_some h
  refine g_roS (wc := ([] : va_W)) ⟨hx, hb, hml, hown, hts⟩ hE hK hP hS [] rfl (mX3_outOf l dC dI cI cC sk  p2 (0 : Int32) (120 : Int32) q15 e15) (va_cwS 3 hts gX3_faultOfLook_X3_outOf rfl rfl rfl (by decide +kernel) ⟨Nat.le_of_ble_eq_true rfl, Nat.le_of_ble_eq_true rfl⟩) (As := [.int p2, .int (0 : Int32), .int (120 : Int32)]) (rest := []) rfl hl.1 rfl (Nat.le_of_ble_eq_true rfl) dX3_faultOfLook_15 ⟨Nat.zero_le _, Nat.zero_le _⟩ (fun H locs hP hS => ?_)
  refine lv_goto (tgt := 22) hx hb dX3_faultOfLook_18 (by decide) ?_
  subst hQ
  exact retRO hx hb hr hlocks rfl hS h dX3_faultOfLook_22
theorem dX3_is_0 : decode cX3_is 0 = .ok (.aload_n 0, 1) := by decide +kernel
theorem dX3_is_1 : decode cX3_is 1 = .ok (.iload_n 1, 1) := by decide +kernel
theorem dX3_is_2 : decode cX3_is 2 = .ok (.iload_n 2, 1) := by decide +kernel
theorem dX3_is_3 : decode cX3_is 3 = .ok (.invokevirtual 75, 3) := by decide +kernel
theorem dX3_is_6 : decode cX3_is 6 = .ok (.istore_n 3, 1) := by decide +kernel
theorem dX3_is_7 : decode cX3_is 7 = .ok (.iload_n 3, 1) := by decide +kernel
theorem dX3_is_8 : decode cX3_is 8 = .ok (.ifCond .eq 11, 3) := by decide +kernel
theorem dX3_is_11 : decode cX3_is 11 = .ok (.aload_n 0, 1) := by decide +kernel
theorem dX3_is_12 : decode cX3_is 12 = .ok (.iload_n 3, 1) := by decide +kernel
theorem dX3_is_13 : decode cX3_is 13 = .ok (.invokevirtual 53, 3) := by decide +kernel
theorem dX3_is_16 : decode cX3_is 16 = .ok (.goto 12, 3) := by decide +kernel
theorem dX3_is_19 : decode cX3_is 19 = .ok (.aload_n 0, 1) := by decide +kernel
theorem dX3_is_20 : decode cX3_is 20 = .ok (.getfield 12, 3) := by decide +kernel
theorem dX3_is_23 : decode cX3_is 23 = .ok (.iload_n 1, 1) := by decide +kernel
theorem dX3_is_24 : decode cX3_is 24 = .ok (.iload_n 2, 1) := by decide +kernel
theorem dX3_is_25 : decode cX3_is 25 = .ok (.invokevirtual 78, 3) := by decide +kernel
theorem dX3_is_28 : decode cX3_is 28 = .ok (.ireturn, 1) := by decide +kernel
set_option maxRecDepth 20000 in
theorem ggX3_is_X3_faultOfLook : GoodIn wsX3_is wsX3_faultOfLook := goodIn_r _ [6, 1, 7, 8, 9, 10, 11, 12, 13, 14, 5, 15, 36, 37, 38, 39, 40, 41, 42, 43, 44, 45, 46, 47, 48, 49, 50, 51, 52] (by decide +kernel) (by decide +kernel)
set_option maxRecDepth 20000 in
theorem gX3_is_X3_faultOfLook : GoodIn wsX3_is (wsV RX3 75 RX3 yX3_faultOfLook wsX3_faultOfLook) := goodIn_app (goodIn_of _ (by decide +kernel)) ggX3_is_X3_faultOfLook
set_option maxRecDepth 20000 in
theorem ggX3_is_X3_refuse : GoodIn wsX3_is wsX3_refuse := goodIn_r _ [19, 20, 36, 37, 38, 39, 40, 41, 42, 43, 44] (by decide +kernel) (by decide +kernel)
set_option maxRecDepth 20000 in
theorem gX3_is_X3_refuse : GoodIn wsX3_is (wsV RX3 53 RX3 yX3_refuse wsX3_refuse) := goodIn_app (goodIn_of _ (by decide +kernel)) ggX3_is_X3_refuse
set_option maxRecDepth 20000 in
theorem ggX3_is_X0_spotOf : GoodIn wsX3_is wsX0_spotOf := goodIn_r _ [24, 25, 26, 27, 28, 8, 9, 10, 11, 12, 29, 30, 31, 32, 33, 34, 35, 45, 46, 47, 48, 49, 50, 51, 52] (by decide +kernel) (by decide +kernel)
set_option maxRecDepth 20000 in
theorem gX3_is_X0_spotOf : GoodIn wsX3_is (wsV RX3 78 RX0 yX0_spotOf wsX0_spotOf) := goodIn_app (goodIn_of _ (by decide +kernel)) ggX3_is_X0_spotOf
set_option maxHeartbeats 4000000 in
set_option maxRecDepth 100000 in
theorem mX3_is (l : Launch) (dC : Nat → ClassId) (dI : Nat → Nat → Nat) (cI cC : ClassId) (sk : (Nat → Nat) × (Nat → Nat)) (f : Nat → Nat) (sz : Nat) (p1 : Int32) (p2 : Int32) (c_lanes : AR) (c_spots : AR) (c_byLeaps : AR) (c_load : Int32) (c_gone : Int32) (c_held : Int32) (c_strong : Int32) (c_done : Int32) (c_rn : RT) (c_rt : RT) (c_letters : AR) (c_size : Int32) (c_rp : RT) (c_seen : AR) (c_refs : AR) (c_inRow : Int32) (c_isPic : Int32) (z : Int32 × AR) (h : fX3_is p1 p2 c_rn c_refs = some z) : cRW l yX3_is wsX3_is (RMk 3 69) sk (dC, dI) (tyz cI cC) sz (zwX cI cC f c_lanes c_spots c_byLeaps c_load c_gone c_held c_strong c_done c_rn c_rt c_letters c_size c_rp c_seen c_refs c_inRow c_isPic) (zwX cI cC f c_lanes c_spots c_byLeaps c_load c_gone c_held c_strong c_done c_rn c_rt c_letters c_size c_rp c_seen z.2 c_inRow c_isPic) [.ref (f 0), .int p1, .int p2] z.1 := by
  refine ofRW (cc := cX3_is) (maxL := 4) (ret := (some .int)) (own := RX3) (plainFor_of_name (by decide)) rfl rfl (Nat.le_of_ble_eq_true rfl) ?_
  intro p e s m args below meth c A hA hx hb hml hr hts hown hlocks hE hK hP hD hS ls hl
  generalize hQ : qRW _ _ _ _ _ _ _ = Q
  have hl : lv_has ls 4 [(0, .ref (f 0)), (1, .int p1), (2, .int p2)] := hl
  have hiX3 : ∀ w ∈ wsX30, w ∈ wsX3_is := fun w h => List.mem_cons_of_mem _ (List.mem_append_left _ (List.mem_append_right _ h))
  have hw1 := hts (Cond.fieldLink RX3 12 "FloeToFloe" "now" "LFloeToFloe$River;") (List.mem_of_getElem? (i := 1) rfl)
  rw [fX3_is] at h
  refine lv_aload_n hx hb dX3_is_0 rfl (lv_at hl 0 rfl) ?_
  refine lv_iload_n hx hb dX3_is_1 rfl (lv_at hl 1 rfl) ?_
  refine lv_iload_n hx hb dX3_is_2 rfl (lv_at hl 2 rfl) ?_
  obtain ⟨q3, e3, h⟩ := bd_some h
  refine g_roV (wc := (zwX cI cC f c_lanes c_spots c_byLeaps c_load c_gone c_held c_strong c_done c_rn c_rt c_letters c_size c_rp c_seen c_refs c_inRow c_isPic)) ⟨hx, hb, hml, hown, hts⟩ hE hK hP hS [0, 1, 2, 3, 4, 5, 6, 7, 8, 9, 10, 11, 12, 13, 14, 15, 16, 17, 18, 19, 20, 21, 22, 23, 24, 25, 26] rfl (mX3_faultOfLook l dC dI cI cC sk f p1 p2 c_lanes c_spots c_byLeaps c_load c_gone c_held c_strong c_done c_rn c_rt c_letters c_size c_rp c_seen c_refs c_inRow c_isPic q3 e3) (cwV 2 hts gX3_is_X3_faultOfLook rfl rfl rfl (by decide +kernel) ⟨Nat.le_of_ble_eq_true rfl, Nat.le_of_ble_eq_true rfl⟩) (va_recv hK hP (ci := 3) (q0 := 0) rfl rfl) (As := [.int p1, .int p2]) (rest := []) rfl hl.1 rfl (Nat.le_of_ble_eq_true rfl) dX3_is_3 ⟨Nat.zero_le _, Nat.zero_le _⟩ (fun H locs hP hS => ?_)
  refine lv_istore_n (lv' := [(3, .int q3), (0, .ref (f 0)), (1, .int p1), (2, .int p2)]) hx hb dX3_is_6 rfl hl (by decide) rfl (fun ls hl => ?_)
  refine lv_iload_n hx hb dX3_is_7 rfl (lv_at hl 0 rfl) ?_
  refine lv_if_eq (tgt := 19) hx hb dX3_is_8 (by decide) (fun c8 => ?_) (fun c8 => ?_)
  · have h := itT c8 h
    refine lv_aload_n hx hb dX3_is_19 rfl (lv_at hl 1 rfl) ?_
    refine va_get (D := (dC, dI)) (ci := 3) (v := .ref (f 5)) (C := RX3) (T := TX3) (N := 9) hx hb hts hiX3 hown hK hP 0 rfl rfl 0 (by decide) hw1 (fun _ h9 => h9) rfl dX3_is_20 ?_
    refine lv_iload_n hx hb dX3_is_23 rfl (lv_at hl 2 rfl) ?_
    refine lv_iload_n hx hb dX3_is_24 rfl (lv_at hl 3 rfl) ?_
    obtain ⟨q25, e25, h⟩ := bd_some h
    refine g_roV (wc := (zwR cI cC (fun k => f (k + 5)) c_rn)) ⟨hx, hb, hml, hown, hts⟩ hE hK hP hS [5, 6, 7, 8, 9, 10] rfl (mX0_spotOf l dC dI cI cC sk (fun k => f (k + 5)) p1 p2 c_rn q25 e25) (cwV 2 hts gX3_is_X0_spotOf rfl rfl rfl (by decide +kernel) ⟨Nat.le_of_ble_eq_true rfl, Nat.le_of_ble_eq_true rfl⟩) (va_recv hK hP (ci := 0) (q0 := 5) rfl rfl) (As := [.int p1, .int p2]) (rest := []) rfl hl.1 rfl (Nat.le_of_ble_eq_true rfl) dX3_is_25 ⟨Nat.zero_le _, Nat.zero_le _⟩ (fun H locs hP hS => ?_)
    subst hQ
    exact retRW (zz := ((q25, c_refs) : Int32 × AR)) (fun z => z.1) (fun z => (zwX cI cC f c_lanes c_spots c_byLeaps c_load c_gone c_held c_strong c_done c_rn c_rt c_letters c_size c_rp c_seen z.2 c_inRow c_isPic)) hx hb hr hlocks rfl hS h rfl hP dX3_is_28
  have h := itF c8 h
  refine lv_aload_n hx hb dX3_is_11 rfl (lv_at hl 1 rfl) ?_
  refine lv_iload_n hx hb dX3_is_12 rfl (lv_at hl 0 rfl) ?_
  obtain ⟨q13, e13, h⟩ := bd_some h
  refine g_rwV (wc := (zwX cI cC f c_lanes c_spots c_byLeaps c_load c_gone c_held c_strong c_done c_rn c_rt c_letters c_size c_rp c_seen c_refs c_inRow c_isPic)) (wc' := (zwX cI cC f c_lanes c_spots c_byLeaps c_load c_gone c_held c_strong c_done c_rn c_rt c_letters c_size c_rp c_seen q13.2 c_inRow c_isPic)) ⟨hx, hb, hml, hown, hts⟩ hE hK hA hP hD hS [0, 1, 2, 3, 4, 5, 6, 7, 8, 9, 10, 11, 12, 13, 14, 15, 16, 17, 18, 19, 20, 21, 22, 23, 24, 25, 26] rfl rfl rfl (mX3_refuse l dC dI cI cC sk f H.size q3 c_lanes c_spots c_byLeaps c_load c_gone c_held c_strong c_done c_rn c_rt c_letters c_size c_rp c_seen c_refs c_inRow c_isPic q13 e13) (cwV 1 hts gX3_is_X3_refuse rfl rfl rfl (by decide +kernel) ⟨Nat.le_of_ble_eq_true rfl, Nat.le_of_ble_eq_true rfl⟩) (va_recv hK hP (ci := 3) (q0 := 0) rfl rfl) (As := [.int q3]) (rest := []) rfl hl.1 rfl (Nat.le_of_ble_eq_true rfl) dX3_is_13 ⟨Nat.zero_le _, Nat.zero_le _⟩ (fun H locs hP hD hS => ?_)
  have hP : va_P (dC, dI) vwCl (zwX cI cC f c_lanes c_spots c_byLeaps c_load c_gone c_held c_strong c_done c_rn c_rt c_letters c_size c_rp c_seen q13.2 c_inRow c_isPic) H := hP
  have hD : va_D A (zwX cI cC f c_lanes c_spots c_byLeaps c_load c_gone c_held c_strong c_done c_rn c_rt c_letters c_size c_rp c_seen q13.2 c_inRow c_isPic) := hD
  refine lv_goto (tgt := 28) hx hb dX3_is_16 (by decide) ?_
  subst hQ
  exact retRW (zz := ((q13.1, q13.2) : Int32 × AR)) (fun z => z.1) (fun z => (zwX cI cC f c_lanes c_spots c_byLeaps c_load c_gone c_held c_strong c_done c_rn c_rt c_letters c_size c_rp c_seen z.2 c_inRow c_isPic)) hx hb hr hlocks rfl hS h rfl hP dX3_is_28
theorem dX3_bears_0 : decode cX3_bears 0 = .ok (.aload_n 0, 1) := by decide +kernel
theorem dX3_bears_1 : decode cX3_bears 1 = .ok (.iload_n 1, 1) := by decide +kernel
theorem dX3_bears_2 : decode cX3_bears 2 = .ok (.iload_n 2, 1) := by decide +kernel
theorem dX3_bears_3 : decode cX3_bears 3 = .ok (.invokevirtual 75, 3) := by decide +kernel
theorem dX3_bears_6 : decode cX3_bears 6 = .ok (.istore_n 3, 1) := by decide +kernel
theorem dX3_bears_7 : decode cX3_bears 7 = .ok (.iload_n 3, 1) := by decide +kernel
theorem dX3_bears_8 : decode cX3_bears 8 = .ok (.ifCond .eq 11, 3) := by decide +kernel
theorem dX3_bears_11 : decode cX3_bears 11 = .ok (.aload_n 0, 1) := by decide +kernel
theorem dX3_bears_12 : decode cX3_bears 12 = .ok (.iload_n 3, 1) := by decide +kernel
theorem dX3_bears_13 : decode cX3_bears 13 = .ok (.invokevirtual 53, 3) := by decide +kernel
theorem dX3_bears_16 : decode cX3_bears 16 = .ok (.goto 12, 3) := by decide +kernel
theorem dX3_bears_19 : decode cX3_bears 19 = .ok (.aload_n 0, 1) := by decide +kernel
theorem dX3_bears_20 : decode cX3_bears 20 = .ok (.getfield 12, 3) := by decide +kernel
theorem dX3_bears_23 : decode cX3_bears 23 = .ok (.iload_n 1, 1) := by decide +kernel
theorem dX3_bears_24 : decode cX3_bears 24 = .ok (.iload_n 2, 1) := by decide +kernel
theorem dX3_bears_25 : decode cX3_bears 25 = .ok (.invokevirtual 81, 3) := by decide +kernel
theorem dX3_bears_28 : decode cX3_bears 28 = .ok (.ireturn, 1) := by decide +kernel
set_option maxRecDepth 20000 in
theorem ggX3_bears_X3_faultOfLook : GoodIn wsX3_bears wsX3_faultOfLook := goodIn_r _ [6, 1, 7, 8, 9, 10, 11, 12, 13, 14, 5, 15, 32, 33, 34, 35, 36, 37, 38, 39, 40, 41, 42, 43, 44, 45, 46, 47, 48] (by decide +kernel) (by decide +kernel)
set_option maxRecDepth 20000 in
theorem gX3_bears_X3_faultOfLook : GoodIn wsX3_bears (wsV RX3 75 RX3 yX3_faultOfLook wsX3_faultOfLook) := goodIn_app (goodIn_of _ (by decide +kernel)) ggX3_bears_X3_faultOfLook
set_option maxRecDepth 20000 in
theorem ggX3_bears_X3_refuse : GoodIn wsX3_bears wsX3_refuse := goodIn_r _ [19, 20, 32, 33, 34, 35, 36, 37, 38, 39, 40] (by decide +kernel) (by decide +kernel)
set_option maxRecDepth 20000 in
theorem gX3_bears_X3_refuse : GoodIn wsX3_bears (wsV RX3 53 RX3 yX3_refuse wsX3_refuse) := goodIn_app (goodIn_of _ (by decide +kernel)) ggX3_bears_X3_refuse
set_option maxRecDepth 20000 in
theorem ggX3_bears_X0_strengthOf : GoodIn wsX3_bears wsX0_strengthOf := goodIn_r _ [24, 25, 26, 27, 28, 29, 30, 31, 8, 9, 10, 11, 12, 41, 42, 43, 44, 45, 46, 47, 48] (by decide +kernel) (by decide +kernel)
set_option maxRecDepth 20000 in
theorem gX3_bears_X0_strengthOf : GoodIn wsX3_bears (wsV RX3 81 RX0 yX0_strengthOf wsX0_strengthOf) := goodIn_app (goodIn_of _ (by decide +kernel)) ggX3_bears_X0_strengthOf
set_option maxHeartbeats 4000000 in
set_option maxRecDepth 100000 in
theorem mX3_bears (l : Launch) (dC : Nat → ClassId) (dI : Nat → Nat → Nat) (cI cC : ClassId) (sk : (Nat → Nat) × (Nat → Nat)) (f : Nat → Nat) (sz : Nat) (p1 : Int32) (p2 : Int32) (c_lanes : AR) (c_spots : AR) (c_byLeaps : AR) (c_load : Int32) (c_gone : Int32) (c_held : Int32) (c_strong : Int32) (c_done : Int32) (c_rn : RT) (c_rt : RT) (c_letters : AR) (c_size : Int32) (c_rp : RT) (c_seen : AR) (c_refs : AR) (c_inRow : Int32) (c_isPic : Int32) (z : Int32 × AR) (h : fX3_bears p1 p2 c_rn c_refs = some z) : cRW l yX3_bears wsX3_bears (RMk 2 44) sk (dC, dI) (tyz cI cC) sz (zwX cI cC f c_lanes c_spots c_byLeaps c_load c_gone c_held c_strong c_done c_rn c_rt c_letters c_size c_rp c_seen c_refs c_inRow c_isPic) (zwX cI cC f c_lanes c_spots c_byLeaps c_load c_gone c_held c_strong c_done c_rn c_rt c_letters c_size c_rp c_seen z.2 c_inRow c_isPic) [.ref (f 0), .int p1, .int p2] z.1 := by
  refine ofRW (cc := cX3_bears) (maxL := 4) (ret := (some .int)) (own := RX3) (plainFor_of_name (by decide)) rfl rfl (Nat.le_of_ble_eq_true rfl) ?_
  intro p e s m args below meth c A hA hx hb hml hr hts hown hlocks hE hK hP hD hS ls hl
  generalize hQ : qRW _ _ _ _ _ _ _ = Q
  have hl : lv_has ls 4 [(0, .ref (f 0)), (1, .int p1), (2, .int p2)] := hl
  have hiX3 : ∀ w ∈ wsX30, w ∈ wsX3_bears := fun w h => List.mem_cons_of_mem _ (List.mem_append_left _ (List.mem_append_right _ h))
  have hw1 := hts (Cond.fieldLink RX3 12 "FloeToFloe" "now" "LFloeToFloe$River;") (List.mem_of_getElem? (i := 1) rfl)
  rw [fX3_bears] at h
  refine lv_aload_n hx hb dX3_bears_0 rfl (lv_at hl 0 rfl) ?_
  refine lv_iload_n hx hb dX3_bears_1 rfl (lv_at hl 1 rfl) ?_
  refine lv_iload_n hx hb dX3_bears_2 rfl (lv_at hl 2 rfl) ?_
  obtain ⟨q3, e3, h⟩ := bd_some h
  refine g_roV (wc := (zwX cI cC f c_lanes c_spots c_byLeaps c_load c_gone c_held c_strong c_done c_rn c_rt c_letters c_size c_rp c_seen c_refs c_inRow c_isPic)) ⟨hx, hb, hml, hown, hts⟩ hE hK hP hS [0, 1, 2, 3, 4, 5, 6, 7, 8, 9, 10, 11, 12, 13, 14, 15, 16, 17, 18, 19, 20, 21, 22, 23, 24, 25, 26] rfl (mX3_faultOfLook l dC dI cI cC sk f p1 p2 c_lanes c_spots c_byLeaps c_load c_gone c_held c_strong c_done c_rn c_rt c_letters c_size c_rp c_seen c_refs c_inRow c_isPic q3 e3) (cwV 2 hts gX3_bears_X3_faultOfLook rfl rfl rfl (by decide +kernel) ⟨Nat.le_of_ble_eq_true rfl, Nat.le_of_ble_eq_true rfl⟩) (va_recv hK hP (ci := 3) (q0 := 0) rfl rfl) (As := [.int p1, .int p2]) (rest := []) rfl hl.1 rfl (Nat.le_of_ble_eq_true rfl) dX3_bears_3 ⟨Nat.zero_le _, Nat.zero_le _⟩ (fun H locs hP hS => ?_)
  refine lv_istore_n (lv' := [(3, .int q3), (0, .ref (f 0)), (1, .int p1), (2, .int p2)]) hx hb dX3_bears_6 rfl hl (by decide) rfl (fun ls hl => ?_)
  refine lv_iload_n hx hb dX3_bears_7 rfl (lv_at hl 0 rfl) ?_
  refine lv_if_eq (tgt := 19) hx hb dX3_bears_8 (by decide) (fun c8 => ?_) (fun c8 => ?_)
  · have h := itT c8 h
    refine lv_aload_n hx hb dX3_bears_19 rfl (lv_at hl 1 rfl) ?_
    refine va_get (D := (dC, dI)) (ci := 3) (v := .ref (f 5)) (C := RX3) (T := TX3) (N := 9) hx hb hts hiX3 hown hK hP 0 rfl rfl 0 (by decide) hw1 (fun _ h9 => h9) rfl dX3_bears_20 ?_
    refine lv_iload_n hx hb dX3_bears_23 rfl (lv_at hl 2 rfl) ?_
    refine lv_iload_n hx hb dX3_bears_24 rfl (lv_at hl 3 rfl) ?_
    obtain ⟨q25, e25, h⟩ := bd_some h
    refine g_roV (wc := (zwR cI cC (fun k => f (k + 5)) c_rn)) ⟨hx, hb, hml, hown, hts⟩ hE hK hP hS [5, 6, 7, 8, 9, 10] rfl (mX0_strengthOf l dC dI cI cC sk (fun k => f (k + 5)) p1 p2 c_rn q25 e25) (cwV 2 hts gX3_bears_X0_strengthOf rfl rfl rfl (by decide +kernel) ⟨Nat.le_of_ble_eq_true rfl, Nat.le_of_ble_eq_true rfl⟩) (va_recv hK hP (ci := 0) (q0 := 5) rfl rfl) (As := [.int p1, .int p2]) (rest := []) rfl hl.1 rfl (Nat.le_of_ble_eq_true rfl) dX3_bears_25 ⟨Nat.zero_le _, Nat.zero_le _⟩ (fun H locs hP hS => ?_)
    subst hQ
    exact retRW (zz := ((q25, c_refs) : Int32 × AR)) (fun z => z.1) (fun z => (zwX cI cC f c_lanes c_spots c_byLeaps c_load c_gone c_held c_strong c_done c_rn c_rt c_letters c_size c_rp c_seen z.2 c_inRow c_isPic)) hx hb hr hlocks rfl hS h rfl hP dX3_bears_28
  have h := itF c8 h
  refine lv_aload_n hx hb dX3_bears_11 rfl (lv_at hl 1 rfl) ?_
  refine lv_iload_n hx hb dX3_bears_12 rfl (lv_at hl 0 rfl) ?_
  obtain ⟨q13, e13, h⟩ := bd_some h
  refine g_rwV (wc := (zwX cI cC f c_lanes c_spots c_byLeaps c_load c_gone c_held c_strong c_done c_rn c_rt c_letters c_size c_rp c_seen c_refs c_inRow c_isPic)) (wc' := (zwX cI cC f c_lanes c_spots c_byLeaps c_load c_gone c_held c_strong c_done c_rn c_rt c_letters c_size c_rp c_seen q13.2 c_inRow c_isPic)) ⟨hx, hb, hml, hown, hts⟩ hE hK hA hP hD hS [0, 1, 2, 3, 4, 5, 6, 7, 8, 9, 10, 11, 12, 13, 14, 15, 16, 17, 18, 19, 20, 21, 22, 23, 24, 25, 26] rfl rfl rfl (mX3_refuse l dC dI cI cC sk f H.size q3 c_lanes c_spots c_byLeaps c_load c_gone c_held c_strong c_done c_rn c_rt c_letters c_size c_rp c_seen c_refs c_inRow c_isPic q13 e13) (cwV 1 hts gX3_bears_X3_refuse rfl rfl rfl (by decide +kernel) ⟨Nat.le_of_ble_eq_true rfl, Nat.le_of_ble_eq_true rfl⟩) (va_recv hK hP (ci := 3) (q0 := 0) rfl rfl) (As := [.int q3]) (rest := []) rfl hl.1 rfl (Nat.le_of_ble_eq_true rfl) dX3_bears_13 ⟨Nat.zero_le _, Nat.zero_le _⟩ (fun H locs hP hD hS => ?_)
  have hP : va_P (dC, dI) vwCl (zwX cI cC f c_lanes c_spots c_byLeaps c_load c_gone c_held c_strong c_done c_rn c_rt c_letters c_size c_rp c_seen q13.2 c_inRow c_isPic) H := hP
  have hD : va_D A (zwX cI cC f c_lanes c_spots c_byLeaps c_load c_gone c_held c_strong c_done c_rn c_rt c_letters c_size c_rp c_seen q13.2 c_inRow c_isPic) := hD
  refine lv_goto (tgt := 28) hx hb dX3_bears_16 (by decide) ?_
  subst hQ
  exact retRW (zz := ((q13.1, q13.2) : Int32 × AR)) (fun z => z.1) (fun z => (zwX cI cC f c_lanes c_spots c_byLeaps c_load c_gone c_held c_strong c_done c_rn c_rt c_letters c_size c_rp c_seen z.2 c_inRow c_isPic)) hx hb hr hlocks rfl hS h rfl hP dX3_bears_28
theorem dX3_pass_0 : decode cX3_pass 0 = .ok (.iload_n 1, 1) := by decide +kernel
theorem dX3_pass_1 : decode cX3_pass 1 = .ok (.iconst 1, 1) := by decide +kernel
theorem dX3_pass_2 : decode cX3_pass 2 = .ok (.bipush 60, 2) := by decide +kernel
theorem dX3_pass_4 : decode cX3_pass 4 = .ok (.invokestatic 45, 3) := by decide +kernel
theorem dX3_pass_7 : decode cX3_pass 7 = .ok (.istore_n 2, 1) := by decide +kernel
theorem dX3_pass_8 : decode cX3_pass 8 = .ok (.iload_n 2, 1) := by decide +kernel
theorem dX3_pass_9 : decode cX3_pass 9 = .ok (.ifCond .ne 20, 3) := by decide +kernel
theorem dX3_pass_12 : decode cX3_pass 12 = .ok (.aload_n 0, 1) := by decide +kernel
theorem dX3_pass_13 : decode cX3_pass 13 = .ok (.getfield 12, 3) := by decide +kernel
theorem dX3_pass_16 : decode cX3_pass 16 = .ok (.getfield 84, 3) := by decide +kernel
theorem dX3_pass_19 : decode cX3_pass 19 = .ok (.iload_n 1, 1) := by decide +kernel
theorem dX3_pass_20 : decode cX3_pass 20 = .ok (.iadd, 1) := by decide +kernel
theorem dX3_pass_21 : decode cX3_pass 21 = .ok (.bipush 60, 2) := by decide +kernel
theorem dX3_pass_23 : decode cX3_pass 23 = .ok (.if_icmp .le 6, 3) := by decide +kernel
theorem dX3_pass_26 : decode cX3_pass 26 = .ok (.bipush (-6), 2) := by decide +kernel
theorem dX3_pass_28 : decode cX3_pass 28 = .ok (.istore_n 2, 1) := by decide +kernel
theorem dX3_pass_29 : decode cX3_pass 29 = .ok (.iload_n 2, 1) := by decide +kernel
theorem dX3_pass_30 : decode cX3_pass 30 = .ok (.ifCond .eq 9, 3) := by decide +kernel
theorem dX3_pass_33 : decode cX3_pass 33 = .ok (.aload_n 0, 1) := by decide +kernel
theorem dX3_pass_34 : decode cX3_pass 34 = .ok (.iload_n 2, 1) := by decide +kernel
theorem dX3_pass_35 : decode cX3_pass 35 = .ok (.invokevirtual 53, 3) := by decide +kernel
theorem dX3_pass_38 : decode cX3_pass 38 = .ok (.ireturn, 1) := by decide +kernel
theorem dX3_pass_39 : decode cX3_pass 39 = .ok (.aload_n 0, 1) := by decide +kernel
theorem dX3_pass_40 : decode cX3_pass 40 = .ok (.getfield 12, 3) := by decide +kernel
theorem dX3_pass_43 : decode cX3_pass 43 = .ok (.dup, 1) := by decide +kernel
theorem dX3_pass_44 : decode cX3_pass 44 = .ok (.getfield 84, 3) := by decide +kernel
theorem dX3_pass_47 : decode cX3_pass 47 = .ok (.iload_n 1, 1) := by decide +kernel
theorem dX3_pass_48 : decode cX3_pass 48 = .ok (.iadd, 1) := by decide +kernel
theorem dX3_pass_49 : decode cX3_pass 49 = .ok (.putfield 84, 3) := by decide +kernel
theorem dX3_pass_52 : decode cX3_pass 52 = .ok (.aload_n 0, 1) := by decide +kernel
theorem dX3_pass_53 : decode cX3_pass 53 = .ok (.getfield 12, 3) := by decide +kernel
theorem dX3_pass_56 : decode cX3_pass 56 = .ok (.getfield 84, 3) := by decide +kernel
theorem dX3_pass_59 : decode cX3_pass 59 = .ok (.ireturn, 1) := by decide +kernel
set_option maxRecDepth 20000 in
theorem ggX3_pass_X3_outOf : GoodIn wsX3_pass wsX3_outOf := goodIn_r _ [5] (by decide +kernel) (by decide +kernel)
set_option maxRecDepth 20000 in
theorem gX3_pass_X3_outOf : GoodIn wsX3_pass (va_wsS RX3 45 yX3_outOf wsX3_outOf) := goodIn_app (goodIn_of _ (by decide +kernel)) ggX3_pass_X3_outOf
set_option maxRecDepth 20000 in
theorem ggX3_pass_X3_refuse : GoodIn wsX3_pass wsX3_refuse := goodIn_r _ [9, 10, 11, 12, 13, 14, 15, 16, 17, 18, 19] (by decide +kernel) (by decide +kernel)
set_option maxRecDepth 20000 in
theorem gX3_pass_X3_refuse : GoodIn wsX3_pass (wsV RX3 53 RX3 yX3_refuse wsX3_refuse) := goodIn_app (goodIn_of _ (by decide +kernel)) ggX3_pass_X3_refuse
set_option maxHeartbeats 4000000 in
set_option maxRecDepth 100000 in
theorem mX3_pass (l : Launch) (dC : Nat → ClassId) (dI : Nat → Nat → Nat) (cI cC : ClassId) (sk : (Nat → Nat) × (Nat → Nat)) (f : Nat → Nat) (sz : Nat) (p1 : Int32) (c_lanes : AR) (c_spots : AR) (c_byLeaps : AR) (c_load : Int32) (c_gone : Int32) (c_held : Int32) (c_strong : Int32) (c_done : Int32) (c_rn : RT) (c_rt : RT) (c_letters : AR) (c_size : Int32) (c_rp : RT) (c_seen : AR) (c_refs : AR) (c_inRow : Int32) (c_isPic : Int32) (z : Int32 × RT × AR) (h : fX3_pass p1 c_rn c_refs = some z) : cRW l yX3_pass wsX3_pass (RMk 1 22) sk (dC, dI) (tyz cI cC) sz (zwX cI cC f c_lanes c_spots c_byLeaps c_load c_gone c_held c_strong c_done c_rn c_rt c_letters c_size c_rp c_seen c_refs c_inRow c_isPic) (zwX cI cC f c_lanes c_spots c_byLeaps c_load c_gone c_held c_strong c_done z.2.1 c_rt c_letters c_size c_rp c_seen z.2.2 c_inRow c_isPic) [.ref (f 0), .int p1] z.1 := by
  refine ofRW (cc := cX3_pass) (maxL := 3) (ret := (some .int)) (own := RX3) (plainFor_of_name (by decide)) rfl rfl (Nat.le_of_ble_eq_true rfl) ?_
  intro p e s m args below meth c A hA hx hb hml hr hts hown hlocks hE hK hP hD hS ls hl
  generalize hQ : qRW _ _ _ _ _ _ _ = Q
  have hl : lv_has ls 3 [(0, .ref (f 0)), (1, .int p1)] := hl
  have hiX0 : ∀ w ∈ wsX00, w ∈ wsX3_pass := fun w h => List.mem_cons_of_mem _ (List.mem_append_right _ h)
  have hiX3 : ∀ w ∈ wsX30, w ∈ wsX3_pass := fun w h => List.mem_cons_of_mem _ (List.mem_append_left _ (List.mem_append_right _ h))
  have hw1 := hts (Cond.fieldLink RX3 12 "FloeToFloe" "now" "LFloeToFloe$River;") (List.mem_of_getElem? (i := 1) rfl)
  have hnw4 : (Cond.fieldLinkNest "FloeToFloe" 84 "FloeToFloe$River" "minute" "I" "FloeToFloe").before args s = true := va_Nw.use rfl (hE.1 4 _ rfl)
  rw [fX3_pass] at h
  refine lv_iload_n hx hb dX3_pass_0 rfl (lv_at hl 1 rfl) ?_
  refine lv_iconst (v := (1 : Int32)) hx hb dX3_pass_1 (by decide) ?_
  refine lv_bipush (v := (60 : Int32)) hx hb dX3_pass_2 (by decide) ?_
  obtain ⟨q4, e4, h⟩ := bd_some h
  refine g_roS (wc := ([] : va_W)) ⟨hx, hb, hml, hown, hts⟩ hE hK hP hS [] rfl (mX3_outOf l dC dI cI cC sk  p1 (1 : Int32) (60 : Int32) q4 e4) (va_cwS 3 hts gX3_pass_X3_outOf rfl rfl rfl (by decide +kernel) ⟨Nat.le_of_ble_eq_true rfl, Nat.le_of_ble_eq_true rfl⟩) (As := [.int p1, .int (1 : Int32), .int (60 : Int32)]) (rest := []) rfl hl.1 rfl (Nat.le_of_ble_eq_true rfl) dX3_pass_4 ⟨Nat.zero_le _, Nat.zero_le _⟩ (fun H locs hP hS => ?_)
  refine lv_istore_n (lv' := [(2, .int q4), (0, .ref (f 0)), (1, .int p1)]) hx hb dX3_pass_7 rfl hl (by decide) rfl (fun ls hl => ?_)
  refine lv_iload_n hx hb dX3_pass_8 rfl (lv_at hl 0 rfl) ?_
  refine jnW (fun (v29 : Int32) => ∀ (H : Heap) (locs : List Loc) (ls : Array Slot), va_P (dC, dI) vwCl (zwX cI cC f c_lanes c_spots c_byLeaps c_load c_gone c_held c_strong c_done c_rn c_rt c_letters c_size c_rp c_seen c_refs c_inRow c_isPic) H → va_D A (zwX cI cC f c_lanes c_spots c_byLeaps c_load c_gone c_held c_strong c_done c_rn c_rt c_letters c_size c_rp c_seen c_refs c_inRow c_isPic) → va_S A s.heap H locs → lv_has ls 3 [(0, .ref (f 0)), (1, .int p1), (2, .int v29)] → W p l e (RMk 1 22) s m args below meth c H locs 0 0 Q (F0 m 29 ls [])) h (fun v29 h H locs ls hP hD hS hl => ?_) (fun J29 j29 h => ?_)
  · refine lv_iload_n hx hb dX3_pass_29 rfl (lv_at hl 2 rfl) ?_
    refine lv_if_eq (tgt := 39) hx hb dX3_pass_30 (by decide) (fun c30 => ?_) (fun c30 => ?_)
    · have h := itT c30 h
      refine lv_aload_n hx hb dX3_pass_39 rfl (lv_at hl 0 rfl) ?_
      refine va_get (D := (dC, dI)) (ci := 3) (v := .ref (f 5)) (C := RX3) (T := TX3) (N := 9) hx hb hts hiX3 hown hK hP 0 rfl rfl 0 (by decide) hw1 (fun _ h9 => h9) rfl dX3_pass_40 ?_
      refine lv_dup hx hb dX3_pass_43 rfl ?_
      refine va_getN (D := (dC, dI)) (ci := 0) (v := .int (R_minute c_rn)) (C := RX0) (T := TX0) (N := 8) hx hb hts hiX0 hown hK hP 5 rfl rfl 7 (by decide) hnw4 (fun _ h9 => h9) rfl dX3_pass_44 ?_
      refine lv_iload_n hx hb dX3_pass_47 rfl (lv_at hl 1 rfl) ?_
      refine lv_iadd hx hb dX3_pass_48 ?_
      refine va_putN (D := (dC, dI)) (ci := 0) (v := .int ((R_minute c_rn) + p1)) (ty := .int) (C := RX0) (T := TX0) (N := 8) hx hb hts hiX0 tyX0 tyX0_ok nmX0 hown hK hP hD hS 5 rfl rfl 7 (by decide) hnw4 (fun _ h9 => h9) rfl (by decide +kernel) rfl rfl (Nat.le_of_ble_eq_true rfl) dX3_pass_49 (fun H locs hP hD hS => ?_)
      have hP : va_P (dC, dI) vwCl (zwX cI cC f c_lanes c_spots c_byLeaps c_load c_gone c_held c_strong c_done (R_setMinute c_rn ((R_minute c_rn) + p1)) c_rt c_letters c_size c_rp c_seen c_refs c_inRow c_isPic) H := hP
      have hD : va_D A (zwX cI cC f c_lanes c_spots c_byLeaps c_load c_gone c_held c_strong c_done (R_setMinute c_rn ((R_minute c_rn) + p1)) c_rt c_letters c_size c_rp c_seen c_refs c_inRow c_isPic) := hD
      refine lv_aload_n hx hb dX3_pass_52 rfl (lv_at hl 0 rfl) ?_
      refine va_get (D := (dC, dI)) (ci := 3) (v := .ref (f 5)) (C := RX3) (T := TX3) (N := 9) hx hb hts hiX3 hown hK hP 0 rfl rfl 0 (by decide) hw1 (fun _ h9 => h9) rfl dX3_pass_53 ?_
      refine va_getN (D := (dC, dI)) (ci := 0) (v := .int (R_minute (R_setMinute c_rn ((R_minute c_rn) + p1)))) (C := RX0) (T := TX0) (N := 8) hx hb hts hiX0 hown hK hP 5 rfl rfl 7 (by decide) hnw4 (fun _ h9 => h9) rfl dX3_pass_56 ?_
      subst hQ
      exact retRW (zz := (((R_minute (R_setMinute c_rn ((R_minute c_rn) + p1))), (R_setMinute c_rn ((R_minute c_rn) + p1)), c_refs) : Int32 × RT × AR)) (fun z => z.1) (fun z => (zwX cI cC f c_lanes c_spots c_byLeaps c_load c_gone c_held c_strong c_done z.2.1 c_rt c_letters c_size c_rp c_seen z.2.2 c_inRow c_isPic)) hx hb hr hlocks rfl hS h rfl hP dX3_pass_59
    have h := itF c30 h
    refine lv_aload_n hx hb dX3_pass_33 rfl (lv_at hl 0 rfl) ?_
    refine lv_iload_n hx hb dX3_pass_34 rfl (lv_at hl 2 rfl) ?_
    obtain ⟨q35, e35, h⟩ := bd_some h
    refine g_rwV (wc := (zwX cI cC f c_lanes c_spots c_byLeaps c_load c_gone c_held c_strong c_done c_rn c_rt c_letters c_size c_rp c_seen c_refs c_inRow c_isPic)) (wc' := (zwX cI cC f c_lanes c_spots c_byLeaps c_load c_gone c_held c_strong c_done c_rn c_rt c_letters c_size c_rp c_seen q35.2 c_inRow c_isPic)) ⟨hx, hb, hml, hown, hts⟩ hE hK hA hP hD hS [0, 1, 2, 3, 4, 5, 6, 7, 8, 9, 10, 11, 12, 13, 14, 15, 16, 17, 18, 19, 20, 21, 22, 23, 24, 25, 26] rfl rfl rfl (mX3_refuse l dC dI cI cC sk f H.size v29 c_lanes c_spots c_byLeaps c_load c_gone c_held c_strong c_done c_rn c_rt c_letters c_size c_rp c_seen c_refs c_inRow c_isPic q35 e35) (cwV 1 hts gX3_pass_X3_refuse rfl rfl rfl (by decide +kernel) ⟨Nat.le_of_ble_eq_true rfl, Nat.le_of_ble_eq_true rfl⟩) (va_recv hK hP (ci := 3) (q0 := 0) rfl rfl) (As := [.int v29]) (rest := []) rfl hl.1 rfl (Nat.le_of_ble_eq_true rfl) dX3_pass_35 ⟨Nat.zero_le _, Nat.zero_le _⟩ (fun H locs hP hD hS => ?_)
    have hP : va_P (dC, dI) vwCl (zwX cI cC f c_lanes c_spots c_byLeaps c_load c_gone c_held c_strong c_done c_rn c_rt c_letters c_size c_rp c_seen q35.2 c_inRow c_isPic) H := hP
    have hD : va_D A (zwX cI cC f c_lanes c_spots c_byLeaps c_load c_gone c_held c_strong c_done c_rn c_rt c_letters c_size c_rp c_seen q35.2 c_inRow c_isPic) := hD
    subst hQ
    exact retRW (zz := ((q35.1, c_rn, q35.2) : Int32 × RT × AR)) (fun z => z.1) (fun z => (zwX cI cC f c_lanes c_spots c_byLeaps c_load c_gone c_held c_strong c_done z.2.1 c_rt c_letters c_size c_rp c_seen z.2.2 c_inRow c_isPic)) hx hb hr hlocks rfl hS h rfl hP dX3_pass_38
  refine lv_if_ne (tgt := 29) hx hb dX3_pass_9 (by decide) (fun c9 => ?_) (fun c9 => ?_)
  · have h := itF c9 h
    exact j29 _ h _ _ _ hP hD hS (lv_sub hl [1, 2, 0] rfl)
  have h := itT c9 h
  refine lv_aload_n hx hb dX3_pass_12 rfl (lv_at hl 1 rfl) ?_
  refine va_get (D := (dC, dI)) (ci := 3) (v := .ref (f 5)) (C := RX3) (T := TX3) (N := 9) hx hb hts hiX3 hown hK hP 0 rfl rfl 0 (by decide) hw1 (fun _ h9 => h9) rfl dX3_pass_13 ?_
  refine va_getN (D := (dC, dI)) (ci := 0) (v := .int (R_minute c_rn)) (C := RX0) (T := TX0) (N := 8) hx hb hts hiX0 hown hK hP 5 rfl rfl 7 (by decide) hnw4 (fun _ h9 => h9) rfl dX3_pass_16 ?_
  refine lv_iload_n hx hb dX3_pass_19 rfl (lv_at hl 2 rfl) ?_
  refine lv_iadd hx hb dX3_pass_20 ?_
  refine lv_bipush (v := (60 : Int32)) hx hb dX3_pass_21 (by decide) ?_
  refine lv_icmp_le (tgt := 29) hx hb dX3_pass_23 (by decide) (fun c23 => ?_) (fun c23 => ?_)
  · have h := itT c23 h
    exact j29 _ h _ _ _ hP hD hS (lv_sub hl [1, 2, 0] rfl)
  have h := itF c23 h
  refine lv_bipush (v := (-6 : Int32)) hx hb dX3_pass_26 (by decide) ?_
  refine lv_istore_n (lv' := [(2, .int (-6 : Int32)), (0, .ref (f 0)), (1, .int p1)]) hx hb dX3_pass_28 rfl hl (by decide) rfl (fun ls hl => ?_)
  exact j29 _ h _ _ _ hP hD hS (lv_sub hl [1, 2, 0] rfl)
theorem dX3_next_0 : decode cX3_next 0 = .ok (.aload_n 0, 1) := by decide +kernel
theorem dX3_next_1 : decode cX3_next 1 = .ok (.getfield 12, 3) := by decide +kernel
theorem dX3_next_4 : decode cX3_next 4 = .ok (.iload_n 1, 1) := by decide +kernel
theorem dX3_next_5 : decode cX3_next 5 = .ok (.invokevirtual 67, 3) := by decide +kernel
theorem dX3_next_8 : decode cX3_next 8 = .ok (.ifCond .ne 9, 3) := by decide +kernel
theorem dX3_next_11 : decode cX3_next 11 = .ok (.aload_n 0, 1) := by decide +kernel
theorem dX3_next_12 : decode cX3_next 12 = .ok (.iconst (-1), 1) := by decide +kernel
theorem dX3_next_13 : decode cX3_next 13 = .ok (.invokevirtual 53, 3) := by decide +kernel
theorem dX3_next_16 : decode cX3_next 16 = .ok (.ireturn, 1) := by decide +kernel
theorem dX3_next_17 : decode cX3_next 17 = .ok (.aload_n 0, 1) := by decide +kernel
theorem dX3_next_18 : decode cX3_next 18 = .ok (.getfield 34, 3) := by decide +kernel
theorem dX3_next_21 : decode cX3_next 21 = .ok (.iconst 1, 1) := by decide +kernel
theorem dX3_next_22 : decode cX3_next 22 = .ok (.iconst 0, 1) := by decide +kernel
theorem dX3_next_23 : decode cX3_next 23 = .ok (.iconst 0, 1) := by decide +kernel
theorem dX3_next_24 : decode cX3_next 24 = .ok (.invokevirtual 87, 3) := by decide +kernel
theorem dX3_next_27 : decode cX3_next 27 = .ok (.aload_n 0, 1) := by decide +kernel
theorem dX3_next_28 : decode cX3_next 28 = .ok (.getfield 34, 3) := by decide +kernel
theorem dX3_next_31 : decode cX3_next 31 = .ok (.aload_n 0, 1) := by decide +kernel
theorem dX3_next_32 : decode cX3_next 32 = .ok (.getfield 12, 3) := by decide +kernel
theorem dX3_next_35 : decode cX3_next 35 = .ok (.getfield 84, 3) := by decide +kernel
theorem dX3_next_38 : decode cX3_next 38 = .ok (.invokevirtual 91, 3) := by decide +kernel
theorem dX3_next_41 : decode cX3_next 41 = .ok (.aload_n 0, 1) := by decide +kernel
theorem dX3_next_42 : decode cX3_next 42 = .ok (.getfield 34, 3) := by decide +kernel
theorem dX3_next_45 : decode cX3_next 45 = .ok (.iload_n 1, 1) := by decide +kernel
theorem dX3_next_46 : decode cX3_next 46 = .ok (.invokevirtual 95, 3) := by decide +kernel
theorem dX3_next_49 : decode cX3_next 49 = .ok (.ireturn, 1) := by decide +kernel
set_option maxRecDepth 20000 in
theorem ggX3_next_X0_has : GoodIn wsX3_next wsX0_has := goodIn_r _ [7, 8, 80, 81, 82, 83, 84, 85, 86, 87] (by decide +kernel) (by decide +kernel)
set_option maxRecDepth 20000 in
theorem gX3_next_X0_has : GoodIn wsX3_next (wsV RX3 67 RX0 yX0_has wsX0_has) := goodIn_app (goodIn_of _ (by decide +kernel)) ggX3_next_X0_has
set_option maxRecDepth 20000 in
theorem ggX3_next_X3_refuse : GoodIn wsX3_next wsX3_refuse := goodIn_r _ [13, 14, 71, 72, 73, 74, 75, 76, 77, 78, 79] (by decide +kernel) (by decide +kernel)
set_option maxRecDepth 20000 in
theorem gX3_next_X3_refuse : GoodIn wsX3_next (wsV RX3 53 RX3 yX3_refuse wsX3_refuse) := goodIn_app (goodIn_of _ (by decide +kernel)) ggX3_next_X3_refuse
set_option maxRecDepth 20000 in
theorem ggX3_next_X2_begin : GoodIn wsX3_next wsX2_begin := goodIn_r _ [19, 20, 21, 22, 88, 89, 90, 91, 92, 93, 94, 95, 96] (by decide +kernel) (by decide +kernel)
set_option maxRecDepth 20000 in
theorem gX3_next_X2_begin : GoodIn wsX3_next (wsV RX3 87 RX2 yX2_begin wsX2_begin) := goodIn_app (goodIn_of _ (by decide +kernel)) ggX3_next_X2_begin
set_option maxRecDepth 20000 in
theorem ggX3_next_X2_look : GoodIn wsX3_next wsX2_look := goodIn_r _ [26, 27, 22, 28, 29, 30, 21, 20, 31, 32, 33, 6, 34, 35, 36, 4, 5, 7, 8, 37, 38, 39, 40, 41, 42, 43, 44, 45, 46, 47, 48, 49, 50, 51, 52, 53, 54, 55, 56, 57, 58, 59, 60, 88, 89, 90, 91, 92, 93, 94, 95, 96, 80, 81, 82, 83, 84, 85, 86, 87] (by decide +kernel) (by decide +kernel)
set_option maxRecDepth 20000 in
theorem gX3_next_X2_look : GoodIn wsX3_next (wsV RX3 91 RX2 yX2_look wsX2_look) := goodIn_app (goodIn_of _ (by decide +kernel)) ggX3_next_X2_look
set_option maxRecDepth 20000 in
theorem ggX3_next_X2_floesBeside : GoodIn wsX3_next wsX2_floesBeside := goodIn_r _ [64, 29, 30, 28, 65, 66, 59, 67, 51, 4, 5, 6, 7, 8, 68, 69, 18, 70, 88, 89, 90, 91, 92, 93, 94, 95, 96, 80, 81, 82, 83, 84, 85, 86, 87] (by decide +kernel) (by decide +kernel)
set_option maxRecDepth 20000 in
theorem gX3_next_X2_floesBeside : GoodIn wsX3_next (wsV RX3 95 RX2 yX2_floesBeside wsX2_floesBeside) := goodIn_app (goodIn_of _ (by decide +kernel)) ggX3_next_X2_floesBeside
set_option maxHeartbeats 4000000 in
set_option maxRecDepth 100000 in
theorem mX3_next (l : Launch) (dC : Nat → ClassId) (dI : Nat → Nat → Nat) (cI cC : ClassId) (sk : (Nat → Nat) × (Nat → Nat)) (f : Nat → Nat) (sz : Nat) (p1 : Int32) (c_lanes : AR) (c_spots : AR) (c_byLeaps : AR) (c_load : Int32) (c_gone : Int32) (c_held : Int32) (c_strong : Int32) (c_done : Int32) (c_rn : RT) (c_rt : RT) (c_letters : AR) (c_size : Int32) (c_rp : RT) (c_seen : AR) (c_refs : AR) (c_inRow : Int32) (c_isPic : Int32) (z : Int32 × AR × AR × Int32 × Int32 × Int32 × Int32 × AR) (h : fX3_next p1 c_lanes c_spots c_load c_gone c_held c_strong c_rn c_refs = some z) : cRW l yX3_next wsX3_next (RMk 4 93) sk (dC, dI) (tyz cI cC) sz (zwX cI cC f c_lanes c_spots c_byLeaps c_load c_gone c_held c_strong c_done c_rn c_rt c_letters c_size c_rp c_seen c_refs c_inRow c_isPic) (zwX cI cC f z.2.1 z.2.2.1 c_byLeaps z.2.2.2.1 z.2.2.2.2.1 z.2.2.2.2.2.1 z.2.2.2.2.2.2.1 c_done c_rn c_rt c_letters c_size c_rp c_seen z.2.2.2.2.2.2.2 c_inRow c_isPic) [.ref (f 0), .int p1] z.1 := by
  refine ofRW (cc := cX3_next) (maxL := 2) (ret := (some .int)) (own := RX3) (plainFor_of_name (by decide)) rfl rfl (Nat.le_of_ble_eq_true rfl) ?_
  intro p e s m args below meth c A hA hx hb hml hr hts hown hlocks hE hK hP hD hS ls hl
  generalize hQ : qRW _ _ _ _ _ _ _ = Q
  have hl : lv_has ls 2 [(0, .ref (f 0)), (1, .int p1)] := hl
  have hiX0 : ∀ w ∈ wsX00, w ∈ wsX3_next := fun w h => List.mem_cons_of_mem _ (List.mem_append_left _ (List.mem_append_right _ h))
  have hiX3 : ∀ w ∈ wsX30, w ∈ wsX3_next := fun w h => List.mem_cons_of_mem _ (List.mem_append_left _ (List.mem_append_left _ (List.mem_append_right _ h)))
  have hw1 := hts (Cond.fieldLink RX3 12 "FloeToFloe" "now" "LFloeToFloe$River;") (List.mem_of_getElem? (i := 1) rfl)
  have hw2 := hts (Cond.fieldLink RX3 34 "FloeToFloe" "walk" "LFloeToFloe$Walk;") (List.mem_of_getElem? (i := 2) rfl)
  have hnw4 : (Cond.fieldLinkNest "FloeToFloe" 84 "FloeToFloe$River" "minute" "I" "FloeToFloe").before args s = true := va_Nw.use rfl (hE.1 4 _ rfl)
  rw [fX3_next] at h
  refine lv_aload_n hx hb dX3_next_0 rfl (lv_at hl 0 rfl) ?_
  refine va_get (D := (dC, dI)) (ci := 3) (v := .ref (f 5)) (C := RX3) (T := TX3) (N := 9) hx hb hts hiX3 hown hK hP 0 rfl rfl 0 (by decide) hw1 (fun _ h9 => h9) rfl dX3_next_1 ?_
  refine lv_iload_n hx hb dX3_next_4 rfl (lv_at hl 1 rfl) ?_
  obtain ⟨q5, e5, h⟩ := bd_some h
  refine g_roV (wc := (zwR cI cC (fun k => f (k + 5)) c_rn)) ⟨hx, hb, hml, hown, hts⟩ hE hK hP hS [5, 6, 7, 8, 9, 10] rfl (mX0_has l dC dI cI cC sk (fun k => f (k + 5)) p1 c_rn q5 e5) (cwV 1 hts gX3_next_X0_has rfl rfl rfl (by decide +kernel) ⟨Nat.le_of_ble_eq_true rfl, Nat.le_of_ble_eq_true rfl⟩) (va_recv hK hP (ci := 0) (q0 := 5) rfl rfl) (As := [.int p1]) (rest := []) rfl hl.1 rfl (Nat.le_of_ble_eq_true rfl) dX3_next_5 ⟨Nat.zero_le _, Nat.zero_le _⟩ (fun H locs hP hS => ?_)
  refine lv_if_ne (tgt := 17) hx hb dX3_next_8 (by decide) (fun c8 => ?_) (fun c8 => ?_)
  · have h := itF c8 h
    refine lv_aload_n hx hb dX3_next_17 rfl (lv_at hl 0 rfl) ?_
    refine va_get (D := (dC, dI)) (ci := 3) (v := .ref (f 1)) (C := RX3) (T := TX3) (N := 9) hx hb hts hiX3 hown hK hP 0 rfl rfl 4 (by decide) hw2 (fun _ h9 => h9) rfl dX3_next_18 ?_
    refine lv_iconst (v := (1 : Int32)) hx hb dX3_next_21 (by decide) ?_
    refine lv_iconst (v := (0 : Int32)) hx hb dX3_next_22 (by decide) ?_
    refine lv_iconst (v := (0 : Int32)) hx hb dX3_next_23 (by decide) ?_
    obtain ⟨q24, e24, h⟩ := bd_some h
    refine g_rvV (wc := (zwV cI cC (fun k => f (k + 1)) c_lanes c_spots c_byLeaps c_load c_gone c_held c_strong c_done c_rn)) (wc' := (zwV cI cC (fun k => f (k + 1)) c_lanes c_spots c_byLeaps q24.1 q24.2.1 q24.2.2 c_strong c_done c_rn)) ⟨hx, hb, hml, hown, hts⟩ hE hK hA hP hD hS [1, 2, 3, 4, 5, 6, 7, 8, 9, 10] rfl rfl rfl (mX2_begin l dC dI cI cC sk (fun k => f (k + 1)) H.size (1 : Int32) (0 : Int32) (0 : Int32) c_lanes c_spots c_byLeaps c_load c_gone c_held c_strong c_done c_rn q24 e24) (cwV 3 hts gX3_next_X2_begin rfl rfl rfl (by decide +kernel) ⟨Nat.le_of_ble_eq_true rfl, Nat.le_of_ble_eq_true rfl⟩) (va_recv hK hP (ci := 2) (q0 := 1) rfl rfl) (As := [.int (1 : Int32), .int (0 : Int32), .int (0 : Int32)]) (rest := []) rfl hl.1 rfl (Nat.le_of_ble_eq_true rfl) dX3_next_24 ⟨Nat.zero_le _, Nat.zero_le _⟩ (fun H locs hP hD hS => ?_)
    have hP : va_P (dC, dI) vwCl (zwX cI cC f c_lanes c_spots c_byLeaps q24.1 q24.2.1 q24.2.2 c_strong c_done c_rn c_rt c_letters c_size c_rp c_seen c_refs c_inRow c_isPic) H := hP
    have hD : va_D A (zwX cI cC f c_lanes c_spots c_byLeaps q24.1 q24.2.1 q24.2.2 c_strong c_done c_rn c_rt c_letters c_size c_rp c_seen c_refs c_inRow c_isPic) := hD
    refine lv_aload_n hx hb dX3_next_27 rfl (lv_at hl 0 rfl) ?_
    refine va_get (D := (dC, dI)) (ci := 3) (v := .ref (f 1)) (C := RX3) (T := TX3) (N := 9) hx hb hts hiX3 hown hK hP 0 rfl rfl 4 (by decide) hw2 (fun _ h9 => h9) rfl dX3_next_28 ?_
    refine lv_aload_n hx hb dX3_next_31 rfl (lv_at hl 0 rfl) ?_
    refine va_get (D := (dC, dI)) (ci := 3) (v := .ref (f 5)) (C := RX3) (T := TX3) (N := 9) hx hb hts hiX3 hown hK hP 0 rfl rfl 0 (by decide) hw1 (fun _ h9 => h9) rfl dX3_next_32 ?_
    refine va_getN (D := (dC, dI)) (ci := 0) (v := .int (R_minute c_rn)) (C := RX0) (T := TX0) (N := 8) hx hb hts hiX0 hown hK hP 5 rfl rfl 7 (by decide) hnw4 (fun _ h9 => h9) rfl dX3_next_35 ?_
    obtain ⟨q38, e38, h⟩ := bd_some h
    refine g_rvV (wc := (zwV cI cC (fun k => f (k + 1)) c_lanes c_spots c_byLeaps q24.1 q24.2.1 q24.2.2 c_strong c_done c_rn)) (wc' := (zwV cI cC (fun k => f (k + 1)) q38.1 q38.2.1 c_byLeaps q24.1 q24.2.1 q24.2.2 q38.2.2 c_done c_rn)) ⟨hx, hb, hml, hown, hts⟩ hE hK hA hP hD hS [1, 2, 3, 4, 5, 6, 7, 8, 9, 10] rfl rfl rfl (mX2_look l dC dI cI cC sk (fun k => f (k + 1)) H.size (R_minute c_rn) c_lanes c_spots c_byLeaps q24.1 q24.2.1 q24.2.2 c_strong c_done c_rn q38 e38) (cwV 1 hts gX3_next_X2_look rfl rfl rfl (by decide +kernel) ⟨Nat.le_of_ble_eq_true rfl, Nat.le_of_ble_eq_true rfl⟩) (va_recv hK hP (ci := 2) (q0 := 1) rfl rfl) (As := [.int (R_minute c_rn)]) (rest := []) rfl hl.1 rfl (Nat.le_of_ble_eq_true rfl) dX3_next_38 ⟨Nat.zero_le _, Nat.zero_le _⟩ (fun H locs hP hD hS => ?_)
    have hP : va_P (dC, dI) vwCl (zwX cI cC f q38.1 q38.2.1 c_byLeaps q24.1 q24.2.1 q24.2.2 q38.2.2 c_done c_rn c_rt c_letters c_size c_rp c_seen c_refs c_inRow c_isPic) H := hP
    have hD : va_D A (zwX cI cC f q38.1 q38.2.1 c_byLeaps q24.1 q24.2.1 q24.2.2 q38.2.2 c_done c_rn c_rt c_letters c_size c_rp c_seen c_refs c_inRow c_isPic) := hD
    refine lv_aload_n hx hb dX3_next_41 rfl (lv_at hl 0 rfl) ?_
    refine va_get (D := (dC, dI)) (ci := 3) (v := .ref (f 1)) (C := RX3) (T := TX3) (N := 9) hx hb hts hiX3 hown hK hP 0 rfl rfl 4 (by decide) hw2 (fun _ h9 => h9) rfl dX3_next_42 ?_
    refine lv_iload_n hx hb dX3_next_45 rfl (lv_at hl 1 rfl) ?_
    obtain ⟨q46, e46, h⟩ := bd_some h
    refine g_roV (wc := (zwV cI cC (fun k => f (k + 1)) q38.1 q38.2.1 c_byLeaps q24.1 q24.2.1 q24.2.2 q38.2.2 c_done c_rn)) ⟨hx, hb, hml, hown, hts⟩ hE hK hP hS [1, 2, 3, 4, 5, 6, 7, 8, 9, 10] rfl (mX2_floesBeside l dC dI cI cC sk (fun k => f (k + 1)) p1 q38.1 q38.2.1 c_byLeaps q24.1 q24.2.1 q24.2.2 q38.2.2 c_done c_rn q46 e46) (cwV 1 hts gX3_next_X2_floesBeside rfl rfl rfl (by decide +kernel) ⟨Nat.le_of_ble_eq_true rfl, Nat.le_of_ble_eq_true rfl⟩) (va_recv hK hP (ci := 2) (q0 := 1) rfl rfl) (As := [.int p1]) (rest := []) rfl hl.1 rfl (Nat.le_of_ble_eq_true rfl) dX3_next_46 ⟨Nat.zero_le _, Nat.zero_le _⟩ (fun H locs hP hS => ?_)
    subst hQ
    exact retRW (zz := ((q46, q38.1, q38.2.1, q24.1, q24.2.1, q24.2.2, q38.2.2, c_refs) : Int32 × AR × AR × Int32 × Int32 × Int32 × Int32 × AR)) (fun z => z.1) (fun z => (zwX cI cC f z.2.1 z.2.2.1 c_byLeaps z.2.2.2.1 z.2.2.2.2.1 z.2.2.2.2.2.1 z.2.2.2.2.2.2.1 c_done c_rn c_rt c_letters c_size c_rp c_seen z.2.2.2.2.2.2.2 c_inRow c_isPic)) hx hb hr hlocks rfl hS h rfl hP dX3_next_49
  have h := itT c8 h
  refine lv_aload_n hx hb dX3_next_11 rfl (lv_at hl 0 rfl) ?_
  refine lv_iconst (v := (-1 : Int32)) hx hb dX3_next_12 (by decide) ?_
  obtain ⟨q13, e13, h⟩ := bd_some h
  refine g_rwV (wc := (zwX cI cC f c_lanes c_spots c_byLeaps c_load c_gone c_held c_strong c_done c_rn c_rt c_letters c_size c_rp c_seen c_refs c_inRow c_isPic)) (wc' := (zwX cI cC f c_lanes c_spots c_byLeaps c_load c_gone c_held c_strong c_done c_rn c_rt c_letters c_size c_rp c_seen q13.2 c_inRow c_isPic)) ⟨hx, hb, hml, hown, hts⟩ hE hK hA hP hD hS [0, 1, 2, 3, 4, 5, 6, 7, 8, 9, 10, 11, 12, 13, 14, 15, 16, 17, 18, 19, 20, 21, 22, 23, 24, 25, 26] rfl rfl rfl (mX3_refuse l dC dI cI cC sk f H.size (-1 : Int32) c_lanes c_spots c_byLeaps c_load c_gone c_held c_strong c_done c_rn c_rt c_letters c_size c_rp c_seen c_refs c_inRow c_isPic q13 e13) (cwV 1 hts gX3_next_X3_refuse rfl rfl rfl (by decide +kernel) ⟨Nat.le_of_ble_eq_true rfl, Nat.le_of_ble_eq_true rfl⟩) (va_recv hK hP (ci := 3) (q0 := 0) rfl rfl) (As := [.int (-1 : Int32)]) (rest := []) rfl hl.1 rfl (Nat.le_of_ble_eq_true rfl) dX3_next_13 ⟨Nat.zero_le _, Nat.zero_le _⟩ (fun H locs hP hD hS => ?_)
  have hP : va_P (dC, dI) vwCl (zwX cI cC f c_lanes c_spots c_byLeaps c_load c_gone c_held c_strong c_done c_rn c_rt c_letters c_size c_rp c_seen q13.2 c_inRow c_isPic) H := hP
  have hD : va_D A (zwX cI cC f c_lanes c_spots c_byLeaps c_load c_gone c_held c_strong c_done c_rn c_rt c_letters c_size c_rp c_seen q13.2 c_inRow c_isPic) := hD
  subst hQ
  exact retRW (zz := ((q13.1, c_lanes, c_spots, c_load, c_gone, c_held, c_strong, q13.2) : Int32 × AR × AR × Int32 × Int32 × Int32 × Int32 × AR)) (fun z => z.1) (fun z => (zwX cI cC f z.2.1 z.2.2.1 c_byLeaps z.2.2.2.1 z.2.2.2.2.1 z.2.2.2.2.2.1 z.2.2.2.2.2.2.1 c_done c_rn c_rt c_letters c_size c_rp c_seen z.2.2.2.2.2.2.2 c_inRow c_isPic)) hx hb hr hlocks rfl hS h rfl hP dX3_next_16
theorem dX3_crowd_0 : decode cX3_crowd 0 = .ok (.iload_n 1, 1) := by decide +kernel
theorem dX3_crowd_1 : decode cX3_crowd 1 = .ok (.iconst 0, 1) := by decide +kernel
theorem dX3_crowd_2 : decode cX3_crowd 2 = .ok (.bipush 120, 2) := by decide +kernel
theorem dX3_crowd_4 : decode cX3_crowd 4 = .ok (.invokestatic 45, 3) := by decide +kernel
theorem dX3_crowd_7 : decode cX3_crowd 7 = .ok (.istore_n 2, 1) := by decide +kernel
theorem dX3_crowd_8 : decode cX3_crowd 8 = .ok (.iload_n 2, 1) := by decide +kernel
theorem dX3_crowd_9 : decode cX3_crowd 9 = .ok (.ifCond .eq 9, 3) := by decide +kernel
theorem dX3_crowd_12 : decode cX3_crowd 12 = .ok (.aload_n 0, 1) := by decide +kernel
theorem dX3_crowd_13 : decode cX3_crowd 13 = .ok (.iload_n 2, 1) := by decide +kernel
theorem dX3_crowd_14 : decode cX3_crowd 14 = .ok (.invokevirtual 53, 3) := by decide +kernel
theorem dX3_crowd_17 : decode cX3_crowd 17 = .ok (.ireturn, 1) := by decide +kernel
theorem dX3_crowd_18 : decode cX3_crowd 18 = .ok (.iconst 0, 1) := by decide +kernel
theorem dX3_crowd_19 : decode cX3_crowd 19 = .ok (.istore_n 3, 1) := by decide +kernel
theorem dX3_crowd_20 : decode cX3_crowd 20 = .ok (.iconst 0, 1) := by decide +kernel
theorem dX3_crowd_21 : decode cX3_crowd 21 = .ok (.istore 4, 2) := by decide +kernel
theorem dX3_crowd_23 : decode cX3_crowd 23 = .ok (.iload 4, 2) := by decide +kernel
theorem dX3_crowd_25 : decode cX3_crowd 25 = .ok (.aload_n 0, 1) := by decide +kernel
theorem dX3_crowd_26 : decode cX3_crowd 26 = .ok (.getfield 12, 3) := by decide +kernel
theorem dX3_crowd_29 : decode cX3_crowd 29 = .ok (.getfield 98, 3) := by decide +kernel
theorem dX3_crowd_32 : decode cX3_crowd 32 = .ok (.if_icmp .ge 25, 3) := by decide +kernel
theorem dX3_crowd_35 : decode cX3_crowd 35 = .ok (.aload_n 0, 1) := by decide +kernel
theorem dX3_crowd_36 : decode cX3_crowd 36 = .ok (.getfield 12, 3) := by decide +kernel
theorem dX3_crowd_39 : decode cX3_crowd 39 = .ok (.iload 4, 2) := by decide +kernel
theorem dX3_crowd_41 : decode cX3_crowd 41 = .ok (.iload_n 1, 1) := by decide +kernel
theorem dX3_crowd_42 : decode cX3_crowd 42 = .ok (.invokevirtual 101, 3) := by decide +kernel
theorem dX3_crowd_45 : decode cX3_crowd 45 = .ok (.ifCond .eq 6, 3) := by decide +kernel
theorem dX3_crowd_48 : decode cX3_crowd 48 = .ok (.iinc 3 1, 3) := by decide +kernel
theorem dX3_crowd_51 : decode cX3_crowd 51 = .ok (.iinc 4 1, 3) := by decide +kernel
theorem dX3_crowd_54 : decode cX3_crowd 54 = .ok (.goto (-31), 3) := by decide +kernel
theorem dX3_crowd_57 : decode cX3_crowd 57 = .ok (.iload_n 3, 1) := by decide +kernel
theorem dX3_crowd_58 : decode cX3_crowd 58 = .ok (.ireturn, 1) := by decide +kernel
set_option maxRecDepth 20000 in
theorem ggX3_crowd_X3_outOf : GoodIn wsX3_crowd wsX3_outOf := goodIn_r _ [5] (by decide +kernel) (by decide +kernel)
set_option maxRecDepth 20000 in
theorem gX3_crowd_X3_outOf : GoodIn wsX3_crowd (va_wsS RX3 45 yX3_outOf wsX3_outOf) := goodIn_app (goodIn_of _ (by decide +kernel)) ggX3_crowd_X3_outOf
set_option maxRecDepth 20000 in
theorem ggX3_crowd_X3_refuse : GoodIn wsX3_crowd wsX3_refuse := goodIn_r _ [9, 10, 40, 41, 42, 43, 44, 45, 46, 47, 48] (by decide +kernel) (by decide +kernel)
set_option maxRecDepth 20000 in
theorem gX3_crowd_X3_refuse : GoodIn wsX3_crowd (wsV RX3 53 RX3 yX3_refuse wsX3_refuse) := goodIn_app (goodIn_of _ (by decide +kernel)) ggX3_crowd_X3_refuse
set_option maxRecDepth 20000 in
theorem ggX3_crowd_X0_isShared : GoodIn wsX3_crowd wsX0_isShared := goodIn_r _ [15, 16, 17, 18, 19, 14, 20, 21, 22, 23, 24, 25, 26, 27, 28, 29, 30, 31, 32, 33, 34, 35, 36, 37, 38, 39, 49, 50, 51, 52, 53, 54, 55, 56] (by decide +kernel) (by decide +kernel)
set_option maxRecDepth 20000 in
theorem gX3_crowd_X0_isShared : GoodIn wsX3_crowd (wsV RX3 101 RX0 yX0_isShared wsX0_isShared) := goodIn_app (goodIn_of _ (by decide +kernel)) ggX3_crowd_X0_isShared
set_option maxHeartbeats 4000000 in
set_option maxRecDepth 100000 in
theorem mX3_crowd (l : Launch) (dC : Nat → ClassId) (dI : Nat → Nat → Nat) (cI cC : ClassId) (sk : (Nat → Nat) × (Nat → Nat)) (f : Nat → Nat) (sz : Nat) (p1 : Int32) (c_lanes : AR) (c_spots : AR) (c_byLeaps : AR) (c_load : Int32) (c_gone : Int32) (c_held : Int32) (c_strong : Int32) (c_done : Int32) (c_rn : RT) (c_rt : RT) (c_letters : AR) (c_size : Int32) (c_rp : RT) (c_seen : AR) (c_refs : AR) (c_inRow : Int32) (c_isPic : Int32) (z : Int32 × AR) (h : fX3_crowd p1 c_rn c_refs = some z) : cRW l yX3_crowd wsX3_crowd (RMk 4 92) sk (dC, dI) (tyz cI cC) sz (zwX cI cC f c_lanes c_spots c_byLeaps c_load c_gone c_held c_strong c_done c_rn c_rt c_letters c_size c_rp c_seen c_refs c_inRow c_isPic) (zwX cI cC f c_lanes c_spots c_byLeaps c_load c_gone c_held c_strong c_done c_rn c_rt c_letters c_size c_rp c_seen z.2 c_inRow c_isPic) [.ref (f 0), .int p1] z.1 := by
  refine ofRW (cc := cX3_crowd) (maxL := 5) (ret := (some .int)) (own := RX3) (plainFor_of_name (by decide)) rfl rfl (Nat.le_of_ble_eq_true rfl) ?_
  intro p e s m args below meth c A hA hx hb hml hr hts hown hlocks hE hK hP hD hS ls hl
  generalize hQ : qRW _ _ _ _ _ _ _ = Q
  have hl : lv_has ls 5 [(0, .ref (f 0)), (1, .int p1)] := hl
  have hiX0 : ∀ w ∈ wsX00, w ∈ wsX3_crowd := fun w h => List.mem_cons_of_mem _ (List.mem_append_right _ h)
  have hiX3 : ∀ w ∈ wsX30, w ∈ wsX3_crowd := fun w h => List.mem_cons_of_mem _ (List.mem_append_left _ (List.mem_append_right _ h))
  have hw1 := hts (Cond.fieldLink RX3 12 "FloeToFloe" "now" "LFloeToFloe$River;") (List.mem_of_getElem? (i := 1) rfl)
  have hnw2 : (Cond.fieldLinkNest "FloeToFloe" 98 "FloeToFloe$River" "floes" "I" "FloeToFloe").before args s = true := va_Nw.use rfl (hE.1 2 _ rfl)
  rw [fX3_crowd] at h
  refine lv_iload_n hx hb dX3_crowd_0 rfl (lv_at hl 1 rfl) ?_
  refine lv_iconst (v := (0 : Int32)) hx hb dX3_crowd_1 (by decide) ?_
  refine lv_bipush (v := (120 : Int32)) hx hb dX3_crowd_2 (by decide) ?_
  obtain ⟨q4, e4, h⟩ := bd_some h
  refine g_roS (wc := ([] : va_W)) ⟨hx, hb, hml, hown, hts⟩ hE hK hP hS [] rfl (mX3_outOf l dC dI cI cC sk  p1 (0 : Int32) (120 : Int32) q4 e4) (va_cwS 3 hts gX3_crowd_X3_outOf rfl rfl rfl (by decide +kernel) ⟨Nat.le_of_ble_eq_true rfl, Nat.le_of_ble_eq_true rfl⟩) (As := [.int p1, .int (0 : Int32), .int (120 : Int32)]) (rest := []) rfl hl.1 rfl (Nat.le_of_ble_eq_true rfl) dX3_crowd_4 ⟨Nat.zero_le _, Nat.zero_le _⟩ (fun H locs hP hS => ?_)
  refine lv_istore_n (lv' := [(2, .int q4), (0, .ref (f 0)), (1, .int p1)]) hx hb dX3_crowd_7 rfl hl (by decide) rfl (fun ls hl => ?_)
  refine lv_iload_n hx hb dX3_crowd_8 rfl (lv_at hl 0 rfl) ?_
  refine lv_if_eq (tgt := 18) hx hb dX3_crowd_9 (by decide) (fun c9 => ?_) (fun c9 => ?_)
  · have h := itT c9 h
    refine lv_iconst (v := (0 : Int32)) hx hb dX3_crowd_18 (by decide) ?_
    refine lv_istore_n (lv' := [(3, .int (0 : Int32)), (2, .int q4), (0, .ref (f 0)), (1, .int p1)]) hx hb dX3_crowd_19 rfl hl (by decide) rfl (fun ls hl => ?_)
    refine lv_iconst (v := (0 : Int32)) hx hb dX3_crowd_20 (by decide) ?_
    refine lv_istore (lv' := [(4, .int (0 : Int32)), (3, .int (0 : Int32)), (2, .int q4), (0, .ref (f 0)), (1, .int p1)]) hx hb dX3_crowd_21 hl (by decide) rfl (fun ls hl => ?_)
    have L23 : ∀ (K23 : Int32 → Option (Int32 × AR)), (∀ (k23_3 : Int32), K23 k23_3 = some z → ∀ (H : Heap) (locs : List Loc) (ls : Array Slot), va_P (dC, dI) vwCl (zwX cI cC f c_lanes c_spots c_byLeaps c_load c_gone c_held c_strong c_done c_rn c_rt c_letters c_size c_rp c_seen c_refs c_inRow c_isPic) H → va_D A (zwX cI cC f c_lanes c_spots c_byLeaps c_load c_gone c_held c_strong c_done c_rn c_rt c_letters c_size c_rp c_seen c_refs c_inRow c_isPic) → va_S A s.heap H locs → lv_has ls 5 [(3, .int k23_3)] → W p l e (RMk 4 92) s m args below meth c H locs 0 0 Q (F0 m 57 ls [])) → ∀ (n : Nat) (x23_3 : Int32) (x23_4 : Int32), fX3_crowd_L23 c_rn p1 K23 n x23_3 x23_4 = some z → ∀ (H : Heap) (locs : List Loc) (ls : Array Slot), va_P (dC, dI) vwCl (zwX cI cC f c_lanes c_spots c_byLeaps c_load c_gone c_held c_strong c_done c_rn c_rt c_letters c_size c_rp c_seen c_refs c_inRow c_isPic) H → va_D A (zwX cI cC f c_lanes c_spots c_byLeaps c_load c_gone c_held c_strong c_done c_rn c_rt c_letters c_size c_rp c_seen c_refs c_inRow c_isPic) → va_S A s.heap H locs → lv_has ls 5 [(0, .ref (f 0)), (1, .int p1), (3, .int x23_3), (4, .int x23_4)] → W p l e (RMk 4 92) s m args below meth c H locs 0 0 Q (F0 m 23 ls []) := by
      intro K23 kx23 n
      induction n with
      | zero => intro x23_3 x23_4 h; rw [fX3_crowd_L23] at h; cases h
      | succ n ih23 =>
        intro x23_3 x23_4 h H locs ls hP hD hS hl
        rw [fX3_crowd_L23] at h
        refine lv_iload hx hb dX3_crowd_23 (lv_at hl 3 rfl) ?_
        refine lv_aload_n hx hb dX3_crowd_25 rfl (lv_at hl 0 rfl) ?_
        refine va_get (D := (dC, dI)) (ci := 3) (v := .ref (f 5)) (C := RX3) (T := TX3) (N := 9) hx hb hts hiX3 hown hK hP 0 rfl rfl 0 (by decide) hw1 (fun _ h9 => h9) rfl dX3_crowd_26 ?_
        refine va_getN (D := (dC, dI)) (ci := 0) (v := .int (R_floes c_rn)) (C := RX0) (T := TX0) (N := 8) hx hb hts hiX0 hown hK hP 5 rfl rfl 6 (by decide) hnw2 (fun _ h9 => h9) rfl dX3_crowd_29 ?_
        refine lv_icmp_ge (tgt := 57) hx hb dX3_crowd_32 (by decide) (fun c32 => ?_) (fun c32 => ?_)
        · have h := itT c32 h
          exact kx23 _ h _ _ _ hP hD hS (lv_sub hl [2] rfl)
        have h := itF c32 h
        refine lv_aload_n hx hb dX3_crowd_35 rfl (lv_at hl 0 rfl) ?_
        refine va_get (D := (dC, dI)) (ci := 3) (v := .ref (f 5)) (C := RX3) (T := TX3) (N := 9) hx hb hts hiX3 hown hK hP 0 rfl rfl 0 (by decide) hw1 (fun _ h9 => h9) rfl dX3_crowd_36 ?_
        refine lv_iload hx hb dX3_crowd_39 (lv_at hl 3 rfl) ?_
        refine lv_iload_n hx hb dX3_crowd_41 rfl (lv_at hl 1 rfl) ?_
        obtain ⟨q42, e42, h⟩ := bd_some h
        refine g_roV (wc := (zwR cI cC (fun k => f (k + 5)) c_rn)) ⟨hx, hb, hml, hown, hts⟩ hE hK hP hS [5, 6, 7, 8, 9, 10] rfl (mX0_isShared l dC dI cI cC sk (fun k => f (k + 5)) x23_4 p1 c_rn q42 e42) (cwV 2 hts gX3_crowd_X0_isShared rfl rfl rfl (by decide +kernel) ⟨Nat.le_of_ble_eq_true rfl, Nat.le_of_ble_eq_true rfl⟩) (va_recv hK hP (ci := 0) (q0 := 5) rfl rfl) (As := [.int x23_4, .int p1]) (rest := []) rfl hl.1 rfl (Nat.le_of_ble_eq_true rfl) dX3_crowd_42 ⟨Nat.zero_le _, Nat.zero_le _⟩ (fun H locs hP hS => ?_)
        refine lv_if_eq (tgt := 51) hx hb dX3_crowd_45 (by decide) (fun c45 => ?_) (fun c45 => ?_)
        · have h := itT c45 h
          refine lv_iinc (v := (x23_4 + (1 : Int32))) (lv' := [(4, .int (x23_4 + (1 : Int32))), (0, .ref (f 0)), (1, .int p1), (3, .int x23_3)]) hx hb dX3_crowd_51 hl (k := 3) rfl rfl (by decide) rfl (fun ls hl => ?_)
          refine lv_goto (tgt := 23) hx hb dX3_crowd_54 (by decide) ?_
          exact ih23 _ _ h _ _ _ hP hD hS (lv_sub hl [1, 2, 3, 0] rfl)
        have h := itF c45 h
        refine lv_iinc (v := (x23_3 + (1 : Int32))) (lv' := [(3, .int (x23_3 + (1 : Int32))), (0, .ref (f 0)), (1, .int p1), (4, .int x23_4)]) hx hb dX3_crowd_48 hl (k := 2) rfl rfl (by decide) rfl (fun ls hl => ?_)
        refine lv_iinc (v := (x23_4 + (1 : Int32))) (lv' := [(4, .int (x23_4 + (1 : Int32))), (3, .int (x23_3 + (1 : Int32))), (0, .ref (f 0)), (1, .int p1)]) hx hb dX3_crowd_51 hl (k := 3) rfl rfl (by decide) rfl (fun ls hl => ?_)
        refine lv_goto (tgt := 23) hx hb dX3_crowd_54 (by decide) ?_
        exact ih23 _ _ h _ _ _ hP hD hS (lv_sub hl [2, 3, 1, 0] rfl)
    refine L23 _ (fun k23_3 h H locs ls hP hD hS hl => ?_) _ _ _ h _ _ _ hP hD hS (lv_sub hl [3, 4, 1, 0] rfl)
    refine lv_iload_n hx hb dX3_crowd_57 rfl (lv_at hl 0 rfl) ?_
    subst hQ
    exact retRW (zz := ((k23_3, c_refs) : Int32 × AR)) (fun z => z.1) (fun z => (zwX cI cC f c_lanes c_spots c_byLeaps c_load c_gone c_held c_strong c_done c_rn c_rt c_letters c_size c_rp c_seen z.2 c_inRow c_isPic)) hx hb hr hlocks rfl hS h rfl hP dX3_crowd_58
  have h := itF c9 h
  refine lv_aload_n hx hb dX3_crowd_12 rfl (lv_at hl 1 rfl) ?_
  refine lv_iload_n hx hb dX3_crowd_13 rfl (lv_at hl 0 rfl) ?_
  obtain ⟨q14, e14, h⟩ := bd_some h
  refine g_rwV (wc := (zwX cI cC f c_lanes c_spots c_byLeaps c_load c_gone c_held c_strong c_done c_rn c_rt c_letters c_size c_rp c_seen c_refs c_inRow c_isPic)) (wc' := (zwX cI cC f c_lanes c_spots c_byLeaps c_load c_gone c_held c_strong c_done c_rn c_rt c_letters c_size c_rp c_seen q14.2 c_inRow c_isPic)) ⟨hx, hb, hml, hown, hts⟩ hE hK hA hP hD hS [0, 1, 2, 3, 4, 5, 6, 7, 8, 9, 10, 11, 12, 13, 14, 15, 16, 17, 18, 19, 20, 21, 22, 23, 24, 25, 26] rfl rfl rfl (mX3_refuse l dC dI cI cC sk f H.size q4 c_lanes c_spots c_byLeaps c_load c_gone c_held c_strong c_done c_rn c_rt c_letters c_size c_rp c_seen c_refs c_inRow c_isPic q14 e14) (cwV 1 hts gX3_crowd_X3_refuse rfl rfl rfl (by decide +kernel) ⟨Nat.le_of_ble_eq_true rfl, Nat.le_of_ble_eq_true rfl⟩) (va_recv hK hP (ci := 3) (q0 := 0) rfl rfl) (As := [.int q4]) (rest := []) rfl hl.1 rfl (Nat.le_of_ble_eq_true rfl) dX3_crowd_14 ⟨Nat.zero_le _, Nat.zero_le _⟩ (fun H locs hP hD hS => ?_)
  have hP : va_P (dC, dI) vwCl (zwX cI cC f c_lanes c_spots c_byLeaps c_load c_gone c_held c_strong c_done c_rn c_rt c_letters c_size c_rp c_seen q14.2 c_inRow c_isPic) H := hP
  have hD : va_D A (zwX cI cC f c_lanes c_spots c_byLeaps c_load c_gone c_held c_strong c_done c_rn c_rt c_letters c_size c_rp c_seen q14.2 c_inRow c_isPic) := hD
  subst hQ
  exact retRW (zz := ((q14.1, q14.2) : Int32 × AR)) (fun z => z.1) (fun z => (zwX cI cC f c_lanes c_spots c_byLeaps c_load c_gone c_held c_strong c_done c_rn c_rt c_letters c_size c_rp c_seen z.2 c_inRow c_isPic)) hx hb hr hlocks rfl hS h rfl hP dX3_crowd_17
theorem dX3_faultOfWalker_0 : decode cX3_faultOfWalker 0 = .ok (.iload_n 1, 1) := by decide +kernel
theorem dX3_faultOfWalker_1 : decode cX3_faultOfWalker 1 = .ok (.invokestatic 114, 3) := by decide +kernel
theorem dX3_faultOfWalker_4 : decode cX3_faultOfWalker 4 = .ok (.ifCond .eq 13, 3) := by decide +kernel
theorem dX3_faultOfWalker_7 : decode cX3_faultOfWalker 7 = .ok (.iload_n 0, 1) := by decide +kernel
theorem dX3_faultOfWalker_8 : decode cX3_faultOfWalker 8 = .ok (.iconst 1, 1) := by decide +kernel
theorem dX3_faultOfWalker_9 : decode cX3_faultOfWalker 9 = .ok (.bipush 9, 2) := by decide +kernel
theorem dX3_faultOfWalker_11 : decode cX3_faultOfWalker 11 = .ok (.invokestatic 45, 3) := by decide +kernel
theorem dX3_faultOfWalker_14 : decode cX3_faultOfWalker 14 = .ok (.goto 4, 3) := by decide +kernel
theorem dX3_faultOfWalker_17 : decode cX3_faultOfWalker 17 = .ok (.iconst (-1), 1) := by decide +kernel
theorem dX3_faultOfWalker_18 : decode cX3_faultOfWalker 18 = .ok (.ireturn, 1) := by decide +kernel
set_option maxRecDepth 20000 in
theorem ggX3_faultOfWalker_X3_isCell : GoodIn wsX3_faultOfWalker wsX3_isCell := goodIn_r _ [4] (by decide +kernel) (by decide +kernel)
set_option maxRecDepth 20000 in
theorem gX3_faultOfWalker_X3_isCell : GoodIn wsX3_faultOfWalker (va_wsS RX3 114 yX3_isCell wsX3_isCell) := goodIn_app (goodIn_of _ (by decide +kernel)) ggX3_faultOfWalker_X3_isCell
set_option maxRecDepth 20000 in
theorem ggX3_faultOfWalker_X3_outOf : GoodIn wsX3_faultOfWalker wsX3_outOf := goodIn_r _ [7] (by decide +kernel) (by decide +kernel)
set_option maxRecDepth 20000 in
theorem gX3_faultOfWalker_X3_outOf : GoodIn wsX3_faultOfWalker (va_wsS RX3 45 yX3_outOf wsX3_outOf) := goodIn_app (goodIn_of _ (by decide +kernel)) ggX3_faultOfWalker_X3_outOf
set_option maxHeartbeats 4000000 in
set_option maxRecDepth 100000 in
theorem mX3_faultOfWalker (l : Launch) (dC : Nat → ClassId) (dI : Nat → Nat → Nat) (cI cC : ClassId) (sk : (Nat → Nat) × (Nat → Nat))  (p0 : Int32) (p1 : Int32)  (z : Int32) (h : fX3_faultOfWalker p0 p1 = some z) : cRO l yX3_faultOfWalker wsX3_faultOfWalker (RMk 1 22) sk (dC, dI) (tyz cI cC) ([] : va_W) [.int p0, .int p1] z := by
  refine ofRO (cc := cX3_faultOfWalker) (maxL := 2) (ret := (some .int)) (own := RX3) (plainFor_of_name (by decide)) rfl rfl (Nat.le_of_ble_eq_true rfl) ?_
  intro p e s m args below meth c hx hb hml hr hts hown hlocks hE hK hP hS ls hl
  generalize hQ : qRO _ _ _ _ = Q
  have hl : lv_has ls 2 [(0, .int p0), (1, .int p1)] := hl
  rw [fX3_faultOfWalker] at h
  refine lv_iload_n hx hb dX3_faultOfWalker_0 rfl (lv_at hl 1 rfl) ?_
  obtain ⟨q1, e1, h⟩ := bd_some h
  refine g_roS (wc := ([] : va_W)) ⟨hx, hb, hml, hown, hts⟩ hE hK hP hS [] rfl (mX3_isCell l dC dI cI cC sk  p1 q1 e1) (va_cwS 1 hts gX3_faultOfWalker_X3_isCell rfl rfl rfl (by decide +kernel) ⟨Nat.le_of_ble_eq_true rfl, Nat.le_of_ble_eq_true rfl⟩) (As := [.int p1]) (rest := []) rfl hl.1 rfl (Nat.le_of_ble_eq_true rfl) dX3_faultOfWalker_1 ⟨Nat.zero_le _, Nat.zero_le _⟩ (fun H locs hP hS => ?_)
  refine lv_if_eq (tgt := 17) hx hb dX3_faultOfWalker_4 (by decide) (fun c4 => ?_) (fun c4 => ?_)
  · have h := itT c4 h
    refine lv_iconst (v := (-1 : Int32)) hx hb dX3_faultOfWalker_17 (by decide) ?_
    subst hQ
    exact retRO hx hb hr hlocks rfl hS h dX3_faultOfWalker_18
  have h := itF c4 h
  refine lv_iload_n hx hb dX3_faultOfWalker_7 rfl (lv_at hl 0 rfl) ?_
  refine lv_iconst (v := (1 : Int32)) hx hb dX3_faultOfWalker_8 (by decide) ?_
  refine lv_bipush (v := (9 : Int32)) hx hb dX3_faultOfWalker_9 (by decide) ?_
  obtain ⟨q11, e11, h⟩ := bd_some h
  refine g_roS (wc := ([] : va_W)) ⟨hx, hb, hml, hown, hts⟩ hE hK hP hS [] rfl (mX3_outOf l dC dI cI cC sk  p0 (1 : Int32) (9 : Int32) q11 e11) (va_cwS 3 hts gX3_faultOfWalker_X3_outOf rfl rfl rfl (by decide +kernel) ⟨Nat.le_of_ble_eq_true rfl, Nat.le_of_ble_eq_true rfl⟩) (As := [.int p0, .int (1 : Int32), .int (9 : Int32)]) (rest := []) rfl hl.1 rfl (Nat.le_of_ble_eq_true rfl) dX3_faultOfWalker_11 ⟨Nat.zero_le _, Nat.zero_le _⟩ (fun H locs hP hS => ?_)
  refine lv_goto (tgt := 18) hx hb dX3_faultOfWalker_14 (by decide) ?_
  subst hQ
  exact retRO hx hb hr hlocks rfl hS h dX3_faultOfWalker_18
theorem dX3_soonest_0 : decode cX3_soonest 0 = .ok (.iload_n 1, 1) := by decide +kernel
theorem dX3_soonest_1 : decode cX3_soonest 1 = .ok (.iload_n 2, 1) := by decide +kernel
theorem dX3_soonest_2 : decode cX3_soonest 2 = .ok (.invokestatic 105, 3) := by decide +kernel
theorem dX3_soonest_5 : decode cX3_soonest 5 = .ok (.istore_n 3, 1) := by decide +kernel
theorem dX3_soonest_6 : decode cX3_soonest 6 = .ok (.iload_n 3, 1) := by decide +kernel
theorem dX3_soonest_7 : decode cX3_soonest 7 = .ok (.ifCond .eq 9, 3) := by decide +kernel
theorem dX3_soonest_10 : decode cX3_soonest 10 = .ok (.aload_n 0, 1) := by decide +kernel
theorem dX3_soonest_11 : decode cX3_soonest 11 = .ok (.iload_n 3, 1) := by decide +kernel
theorem dX3_soonest_12 : decode cX3_soonest 12 = .ok (.invokevirtual 53, 3) := by decide +kernel
theorem dX3_soonest_15 : decode cX3_soonest 15 = .ok (.ireturn, 1) := by decide +kernel
theorem dX3_soonest_16 : decode cX3_soonest 16 = .ok (.aload_n 0, 1) := by decide +kernel
theorem dX3_soonest_17 : decode cX3_soonest 17 = .ok (.getfield 34, 3) := by decide +kernel
theorem dX3_soonest_20 : decode cX3_soonest 20 = .ok (.iload_n 1, 1) := by decide +kernel
theorem dX3_soonest_21 : decode cX3_soonest 21 = .ok (.iconst 0, 1) := by decide +kernel
theorem dX3_soonest_22 : decode cX3_soonest 22 = .ok (.iconst 0, 1) := by decide +kernel
theorem dX3_soonest_23 : decode cX3_soonest 23 = .ok (.invokevirtual 87, 3) := by decide +kernel
theorem dX3_soonest_26 : decode cX3_soonest 26 = .ok (.aload_n 0, 1) := by decide +kernel
theorem dX3_soonest_27 : decode cX3_soonest 27 = .ok (.getfield 34, 3) := by decide +kernel
theorem dX3_soonest_30 : decode cX3_soonest 30 = .ok (.iload_n 2, 1) := by decide +kernel
theorem dX3_soonest_31 : decode cX3_soonest 31 = .ok (.aload_n 0, 1) := by decide +kernel
theorem dX3_soonest_32 : decode cX3_soonest 32 = .ok (.getfield 12, 3) := by decide +kernel
theorem dX3_soonest_35 : decode cX3_soonest 35 = .ok (.getfield 84, 3) := by decide +kernel
theorem dX3_soonest_38 : decode cX3_soonest 38 = .ok (.invokevirtual 108, 3) := by decide +kernel
theorem dX3_soonest_41 : decode cX3_soonest 41 = .ok (.ireturn, 1) := by decide +kernel
set_option maxRecDepth 20000 in
theorem ggX3_soonest_X3_faultOfWalker : GoodIn wsX3_soonest wsX3_faultOfWalker := goodIn_r _ [6, 7, 8, 5, 9, 10, 11, 12] (by decide +kernel) (by decide +kernel)
set_option maxRecDepth 20000 in
theorem gX3_soonest_X3_faultOfWalker : GoodIn wsX3_soonest (va_wsS RX3 105 yX3_faultOfWalker wsX3_faultOfWalker) := goodIn_app (goodIn_of _ (by decide +kernel)) ggX3_soonest_X3_faultOfWalker
set_option maxRecDepth 20000 in
theorem ggX3_soonest_X3_refuse : GoodIn wsX3_soonest wsX3_refuse := goodIn_r _ [16, 17, 108, 109, 110, 111, 112, 113, 114, 115, 116] (by decide +kernel) (by decide +kernel)
set_option maxRecDepth 20000 in
theorem gX3_soonest_X3_refuse : GoodIn wsX3_soonest (wsV RX3 53 RX3 yX3_refuse wsX3_refuse) := goodIn_app (goodIn_of _ (by decide +kernel)) ggX3_soonest_X3_refuse
set_option maxRecDepth 20000 in
theorem ggX3_soonest_X2_begin : GoodIn wsX3_soonest wsX2_begin := goodIn_r _ [22, 23, 24, 25, 125, 126, 127, 128, 129, 130, 131, 132, 133] (by decide +kernel) (by decide +kernel)
set_option maxRecDepth 20000 in
theorem gX3_soonest_X2_begin : GoodIn wsX3_soonest (wsV RX3 87 RX2 yX2_begin wsX2_begin) := goodIn_app (goodIn_of _ (by decide +kernel)) ggX3_soonest_X2_begin
set_option maxRecDepth 20000 in
theorem ggX3_soonest_X2_minutesOver : GoodIn wsX3_soonest wsX2_minutesOver := goodIn_r _ [29, 30, 5, 31, 32, 33, 34, 21, 35, 36, 25, 37, 38, 39, 24, 23, 40, 41, 42, 43, 44, 45, 46, 47, 48, 49, 50, 51, 52, 53, 54, 55, 56, 57, 58, 59, 60, 61, 62, 63, 64, 65, 66, 67, 68, 69, 70, 71, 72, 73, 74, 75, 76, 77, 78, 79, 80, 81, 82, 83, 84, 85, 86, 87, 88, 89, 90, 91, 92, 93, 94, 95, 96, 97, 98, 99, 100, 101, 102, 103, 104, 105, 106, 107, 125, 126, 127, 128, 129, 130, 131, 132, 133, 117, 118, 119, 120, 121, 122, 123, 124] (by decide +kernel) (by decide +kernel)
set_option maxRecDepth 20000 in
theorem gX3_soonest_X2_minutesOver : GoodIn wsX3_soonest (wsV RX3 108 RX2 yX2_minutesOver wsX2_minutesOver) := goodIn_app (goodIn_of _ (by decide +kernel)) ggX3_soonest_X2_minutesOver
set_option maxHeartbeats 4000000 in
set_option maxRecDepth 100000 in
theorem mX3_soonest (l : Launch) (dC : Nat → ClassId) (dI : Nat → Nat → Nat) (cI cC : ClassId) (sk : (Nat → Nat) × (Nat → Nat)) (f : Nat → Nat) (sz : Nat) (p1 : Int32) (p2 : Int32) (c_lanes : AR) (c_spots : AR) (c_byLeaps : AR) (c_load : Int32) (c_gone : Int32) (c_held : Int32) (c_strong : Int32) (c_done : Int32) (c_rn : RT) (c_rt : RT) (c_letters : AR) (c_size : Int32) (c_rp : RT) (c_seen : AR) (c_refs : AR) (c_inRow : Int32) (c_isPic : Int32) (z : Int32 × AR × AR × Int32 × Int32 × Int32 × Int32 × AR) (h : fX3_soonest p1 p2 c_lanes c_spots c_load c_gone c_held c_strong c_rn c_refs = some z) : cRW l yX3_soonest wsX3_soonest (RMk 5 117) sk (dC, dI) (tyz cI cC) sz (zwX cI cC f c_lanes c_spots c_byLeaps c_load c_gone c_held c_strong c_done c_rn c_rt c_letters c_size c_rp c_seen c_refs c_inRow c_isPic) (zwX cI cC f z.2.1 z.2.2.1 c_byLeaps z.2.2.2.1 z.2.2.2.2.1 z.2.2.2.2.2.1 z.2.2.2.2.2.2.1 c_done c_rn c_rt c_letters c_size c_rp c_seen z.2.2.2.2.2.2.2 c_inRow c_isPic) [.ref (f 0), .int p1, .int p2] z.1 := by
  refine ofRW (cc := cX3_soonest) (maxL := 4) (ret := (some .int)) (own := RX3) (plainFor_of_name (by decide)) rfl rfl (Nat.le_of_ble_eq_true rfl) ?_
  intro p e s m args below meth c A hA hx hb hml hr hts hown hlocks hE hK hP hD hS ls hl
  generalize hQ : qRW _ _ _ _ _ _ _ = Q
  have hl : lv_has ls 4 [(0, .ref (f 0)), (1, .int p1), (2, .int p2)] := hl
  have hiX0 : ∀ w ∈ wsX00, w ∈ wsX3_soonest := fun w h => List.mem_cons_of_mem _ (List.mem_append_left _ (List.mem_append_right _ h))
  have hiX3 : ∀ w ∈ wsX30, w ∈ wsX3_soonest := fun w h => List.mem_cons_of_mem _ (List.mem_append_left _ (List.mem_append_left _ (List.mem_append_right _ h)))
  have hw1 := hts (Cond.fieldLink RX3 34 "FloeToFloe" "walk" "LFloeToFloe$Walk;") (List.mem_of_getElem? (i := 1) rfl)
  have hw2 := hts (Cond.fieldLink RX3 12 "FloeToFloe" "now" "LFloeToFloe$River;") (List.mem_of_getElem? (i := 2) rfl)
  have hnw4 : (Cond.fieldLinkNest "FloeToFloe" 84 "FloeToFloe$River" "minute" "I" "FloeToFloe").before args s = true := va_Nw.use rfl (hE.1 4 _ rfl)
  rw [fX3_soonest] at h
  refine lv_iload_n hx hb dX3_soonest_0 rfl (lv_at hl 1 rfl) ?_
  refine lv_iload_n hx hb dX3_soonest_1 rfl (lv_at hl 2 rfl) ?_
  obtain ⟨q2, e2, h⟩ := bd_some h
  refine g_roS (wc := ([] : va_W)) ⟨hx, hb, hml, hown, hts⟩ hE hK hP hS [] rfl (mX3_faultOfWalker l dC dI cI cC sk  p1 p2 q2 e2) (va_cwS 2 hts gX3_soonest_X3_faultOfWalker rfl rfl rfl (by decide +kernel) ⟨Nat.le_of_ble_eq_true rfl, Nat.le_of_ble_eq_true rfl⟩) (As := [.int p1, .int p2]) (rest := []) rfl hl.1 rfl (Nat.le_of_ble_eq_true rfl) dX3_soonest_2 ⟨Nat.zero_le _, Nat.zero_le _⟩ (fun H locs hP hS => ?_)
  refine lv_istore_n (lv' := [(3, .int q2), (0, .ref (f 0)), (1, .int p1), (2, .int p2)]) hx hb dX3_soonest_5 rfl hl (by decide) rfl (fun ls hl => ?_)
  refine lv_iload_n hx hb dX3_soonest_6 rfl (lv_at hl 0 rfl) ?_
  refine lv_if_eq (tgt := 16) hx hb dX3_soonest_7 (by decide) (fun c7 => ?_) (fun c7 => ?_)
  · have h := itT c7 h
    refine lv_aload_n hx hb dX3_soonest_16 rfl (lv_at hl 1 rfl) ?_
    refine va_get (D := (dC, dI)) (ci := 3) (v := .ref (f 1)) (C := RX3) (T := TX3) (N := 9) hx hb hts hiX3 hown hK hP 0 rfl rfl 4 (by decide) hw1 (fun _ h9 => h9) rfl dX3_soonest_17 ?_
    refine lv_iload_n hx hb dX3_soonest_20 rfl (lv_at hl 2 rfl) ?_
    refine lv_iconst (v := (0 : Int32)) hx hb dX3_soonest_21 (by decide) ?_
    refine lv_iconst (v := (0 : Int32)) hx hb dX3_soonest_22 (by decide) ?_
    obtain ⟨q23, e23, h⟩ := bd_some h
    refine g_rvV (wc := (zwV cI cC (fun k => f (k + 1)) c_lanes c_spots c_byLeaps c_load c_gone c_held c_strong c_done c_rn)) (wc' := (zwV cI cC (fun k => f (k + 1)) c_lanes c_spots c_byLeaps q23.1 q23.2.1 q23.2.2 c_strong c_done c_rn)) ⟨hx, hb, hml, hown, hts⟩ hE hK hA hP hD hS [1, 2, 3, 4, 5, 6, 7, 8, 9, 10] rfl rfl rfl (mX2_begin l dC dI cI cC sk (fun k => f (k + 1)) H.size p1 (0 : Int32) (0 : Int32) c_lanes c_spots c_byLeaps c_load c_gone c_held c_strong c_done c_rn q23 e23) (cwV 3 hts gX3_soonest_X2_begin rfl rfl rfl (by decide +kernel) ⟨Nat.le_of_ble_eq_true rfl, Nat.le_of_ble_eq_true rfl⟩) (va_recv hK hP (ci := 2) (q0 := 1) rfl rfl) (As := [.int p1, .int (0 : Int32), .int (0 : Int32)]) (rest := []) rfl hl.1 rfl (Nat.le_of_ble_eq_true rfl) dX3_soonest_23 ⟨Nat.zero_le _, Nat.zero_le _⟩ (fun H locs hP hD hS => ?_)
    have hP : va_P (dC, dI) vwCl (zwX cI cC f c_lanes c_spots c_byLeaps q23.1 q23.2.1 q23.2.2 c_strong c_done c_rn c_rt c_letters c_size c_rp c_seen c_refs c_inRow c_isPic) H := hP
    have hD : va_D A (zwX cI cC f c_lanes c_spots c_byLeaps q23.1 q23.2.1 q23.2.2 c_strong c_done c_rn c_rt c_letters c_size c_rp c_seen c_refs c_inRow c_isPic) := hD
    refine lv_aload_n hx hb dX3_soonest_26 rfl (lv_at hl 1 rfl) ?_
    refine va_get (D := (dC, dI)) (ci := 3) (v := .ref (f 1)) (C := RX3) (T := TX3) (N := 9) hx hb hts hiX3 hown hK hP 0 rfl rfl 4 (by decide) hw1 (fun _ h9 => h9) rfl dX3_soonest_27 ?_
    refine lv_iload_n hx hb dX3_soonest_30 rfl (lv_at hl 3 rfl) ?_
    refine lv_aload_n hx hb dX3_soonest_31 rfl (lv_at hl 1 rfl) ?_
    refine va_get (D := (dC, dI)) (ci := 3) (v := .ref (f 5)) (C := RX3) (T := TX3) (N := 9) hx hb hts hiX3 hown hK hP 0 rfl rfl 0 (by decide) hw2 (fun _ h9 => h9) rfl dX3_soonest_32 ?_
    refine va_getN (D := (dC, dI)) (ci := 0) (v := .int (R_minute c_rn)) (C := RX0) (T := TX0) (N := 8) hx hb hts hiX0 hown hK hP 5 rfl rfl 7 (by decide) hnw4 (fun _ h9 => h9) rfl dX3_soonest_35 ?_
    obtain ⟨q38, e38, h⟩ := bd_some h
    refine g_rwV (wc := (zwV cI cC (fun k => f (k + 1)) c_lanes c_spots c_byLeaps q23.1 q23.2.1 q23.2.2 c_strong c_done c_rn)) (wc' := (zwV cI cC (fun k => f (k + 1)) q38.2.1 q38.2.2.1 c_byLeaps q23.1 q23.2.1 q23.2.2 q38.2.2.2 c_done c_rn)) ⟨hx, hb, hml, hown, hts⟩ hE hK hA hP hD hS [1, 2, 3, 4, 5, 6, 7, 8, 9, 10] rfl rfl rfl (mX2_minutesOver l dC dI cI cC sk (fun k => f (k + 1)) H.size p2 (R_minute c_rn) c_lanes c_spots c_byLeaps q23.1 q23.2.1 q23.2.2 c_strong c_done c_rn q38 e38) (cwV 2 hts gX3_soonest_X2_minutesOver rfl rfl rfl (by decide +kernel) ⟨Nat.le_of_ble_eq_true rfl, Nat.le_of_ble_eq_true rfl⟩) (va_recv hK hP (ci := 2) (q0 := 1) rfl rfl) (As := [.int p2, .int (R_minute c_rn)]) (rest := []) rfl hl.1 rfl (Nat.le_of_ble_eq_true rfl) dX3_soonest_38 ⟨Nat.zero_le _, Nat.zero_le _⟩ (fun H locs hP hD hS => ?_)
    have hP : va_P (dC, dI) vwCl (zwX cI cC f q38.2.1 q38.2.2.1 c_byLeaps q23.1 q23.2.1 q23.2.2 q38.2.2.2 c_done c_rn c_rt c_letters c_size c_rp c_seen c_refs c_inRow c_isPic) H := hP
    have hD : va_D A (zwX cI cC f q38.2.1 q38.2.2.1 c_byLeaps q23.1 q23.2.1 q23.2.2 q38.2.2.2 c_done c_rn c_rt c_letters c_size c_rp c_seen c_refs c_inRow c_isPic) := hD
    subst hQ
    exact retRW (zz := ((q38.1, q38.2.1, q38.2.2.1, q23.1, q23.2.1, q23.2.2, q38.2.2.2, c_refs) : Int32 × AR × AR × Int32 × Int32 × Int32 × Int32 × AR)) (fun z => z.1) (fun z => (zwX cI cC f z.2.1 z.2.2.1 c_byLeaps z.2.2.2.1 z.2.2.2.2.1 z.2.2.2.2.2.1 z.2.2.2.2.2.2.1 c_done c_rn c_rt c_letters c_size c_rp c_seen z.2.2.2.2.2.2.2 c_inRow c_isPic)) hx hb hr hlocks rfl hS h rfl hP dX3_soonest_41
  have h := itF c7 h
  refine lv_aload_n hx hb dX3_soonest_10 rfl (lv_at hl 1 rfl) ?_
  refine lv_iload_n hx hb dX3_soonest_11 rfl (lv_at hl 0 rfl) ?_
  obtain ⟨q12, e12, h⟩ := bd_some h
  refine g_rwV (wc := (zwX cI cC f c_lanes c_spots c_byLeaps c_load c_gone c_held c_strong c_done c_rn c_rt c_letters c_size c_rp c_seen c_refs c_inRow c_isPic)) (wc' := (zwX cI cC f c_lanes c_spots c_byLeaps c_load c_gone c_held c_strong c_done c_rn c_rt c_letters c_size c_rp c_seen q12.2 c_inRow c_isPic)) ⟨hx, hb, hml, hown, hts⟩ hE hK hA hP hD hS [0, 1, 2, 3, 4, 5, 6, 7, 8, 9, 10, 11, 12, 13, 14, 15, 16, 17, 18, 19, 20, 21, 22, 23, 24, 25, 26] rfl rfl rfl (mX3_refuse l dC dI cI cC sk f H.size q2 c_lanes c_spots c_byLeaps c_load c_gone c_held c_strong c_done c_rn c_rt c_letters c_size c_rp c_seen c_refs c_inRow c_isPic q12 e12) (cwV 1 hts gX3_soonest_X3_refuse rfl rfl rfl (by decide +kernel) ⟨Nat.le_of_ble_eq_true rfl, Nat.le_of_ble_eq_true rfl⟩) (va_recv hK hP (ci := 3) (q0 := 0) rfl rfl) (As := [.int q2]) (rest := []) rfl hl.1 rfl (Nat.le_of_ble_eq_true rfl) dX3_soonest_12 ⟨Nat.zero_le _, Nat.zero_le _⟩ (fun H locs hP hD hS => ?_)
  have hP : va_P (dC, dI) vwCl (zwX cI cC f c_lanes c_spots c_byLeaps c_load c_gone c_held c_strong c_done c_rn c_rt c_letters c_size c_rp c_seen q12.2 c_inRow c_isPic) H := hP
  have hD : va_D A (zwX cI cC f c_lanes c_spots c_byLeaps c_load c_gone c_held c_strong c_done c_rn c_rt c_letters c_size c_rp c_seen q12.2 c_inRow c_isPic) := hD
  subst hQ
  exact retRW (zz := ((q12.1, c_lanes, c_spots, c_load, c_gone, c_held, c_strong, q12.2) : Int32 × AR × AR × Int32 × Int32 × Int32 × Int32 × AR)) (fun z => z.1) (fun z => (zwX cI cC f z.2.1 z.2.2.1 c_byLeaps z.2.2.2.1 z.2.2.2.2.1 z.2.2.2.2.2.1 z.2.2.2.2.2.2.1 c_done c_rn c_rt c_letters c_size c_rp c_seen z.2.2.2.2.2.2.2 c_inRow c_isPic)) hx hb hr hlocks rfl hS h rfl hP dX3_soonest_15
theorem dX3_leaps_0 : decode cX3_leaps 0 = .ok (.iload_n 1, 1) := by decide +kernel
theorem dX3_leaps_1 : decode cX3_leaps 1 = .ok (.iload_n 2, 1) := by decide +kernel
theorem dX3_leaps_2 : decode cX3_leaps 2 = .ok (.invokestatic 105, 3) := by decide +kernel
theorem dX3_leaps_5 : decode cX3_leaps 5 = .ok (.istore_n 3, 1) := by decide +kernel
theorem dX3_leaps_6 : decode cX3_leaps 6 = .ok (.iload_n 3, 1) := by decide +kernel
theorem dX3_leaps_7 : decode cX3_leaps 7 = .ok (.ifCond .eq 9, 3) := by decide +kernel
theorem dX3_leaps_10 : decode cX3_leaps 10 = .ok (.aload_n 0, 1) := by decide +kernel
theorem dX3_leaps_11 : decode cX3_leaps 11 = .ok (.iload_n 3, 1) := by decide +kernel
theorem dX3_leaps_12 : decode cX3_leaps 12 = .ok (.invokevirtual 53, 3) := by decide +kernel
theorem dX3_leaps_15 : decode cX3_leaps 15 = .ok (.ireturn, 1) := by decide +kernel
theorem dX3_leaps_16 : decode cX3_leaps 16 = .ok (.aload_n 0, 1) := by decide +kernel
theorem dX3_leaps_17 : decode cX3_leaps 17 = .ok (.getfield 34, 3) := by decide +kernel
theorem dX3_leaps_20 : decode cX3_leaps 20 = .ok (.iload_n 1, 1) := by decide +kernel
theorem dX3_leaps_21 : decode cX3_leaps 21 = .ok (.iconst 0, 1) := by decide +kernel
theorem dX3_leaps_22 : decode cX3_leaps 22 = .ok (.iconst 0, 1) := by decide +kernel
theorem dX3_leaps_23 : decode cX3_leaps 23 = .ok (.invokevirtual 87, 3) := by decide +kernel
theorem dX3_leaps_26 : decode cX3_leaps 26 = .ok (.aload_n 0, 1) := by decide +kernel
theorem dX3_leaps_27 : decode cX3_leaps 27 = .ok (.getfield 34, 3) := by decide +kernel
theorem dX3_leaps_30 : decode cX3_leaps 30 = .ok (.iload_n 2, 1) := by decide +kernel
theorem dX3_leaps_31 : decode cX3_leaps 31 = .ok (.invokevirtual 111, 3) := by decide +kernel
theorem dX3_leaps_34 : decode cX3_leaps 34 = .ok (.ireturn, 1) := by decide +kernel
set_option maxRecDepth 20000 in
theorem ggX3_leaps_X3_faultOfWalker : GoodIn wsX3_leaps wsX3_faultOfWalker := goodIn_r _ [5, 6, 7, 4, 8, 9, 10, 11] (by decide +kernel) (by decide +kernel)
set_option maxRecDepth 20000 in
theorem gX3_leaps_X3_faultOfWalker : GoodIn wsX3_leaps (va_wsS RX3 105 yX3_faultOfWalker wsX3_faultOfWalker) := goodIn_app (goodIn_of _ (by decide +kernel)) ggX3_leaps_X3_faultOfWalker
set_option maxRecDepth 20000 in
theorem ggX3_leaps_X3_refuse : GoodIn wsX3_leaps wsX3_refuse := goodIn_r _ [15, 16, 108, 109, 110, 111, 112, 113, 114, 115, 116] (by decide +kernel) (by decide +kernel)
set_option maxRecDepth 20000 in
theorem gX3_leaps_X3_refuse : GoodIn wsX3_leaps (wsV RX3 53 RX3 yX3_refuse wsX3_refuse) := goodIn_app (goodIn_of _ (by decide +kernel)) ggX3_leaps_X3_refuse
set_option maxRecDepth 20000 in
theorem ggX3_leaps_X2_begin : GoodIn wsX3_leaps wsX2_begin := goodIn_r _ [21, 22, 23, 24, 117, 118, 119, 120, 121, 122, 123, 124, 125] (by decide +kernel) (by decide +kernel)
set_option maxRecDepth 20000 in
theorem gX3_leaps_X2_begin : GoodIn wsX3_leaps (wsV RX3 87 RX2 yX2_begin wsX2_begin) := goodIn_app (goodIn_of _ (by decide +kernel)) ggX3_leaps_X2_begin
set_option maxRecDepth 20000 in
theorem ggX3_leaps_X2_fewestLeaps : GoodIn wsX3_leaps wsX2_fewestLeaps := goodIn_r _ [28, 29, 30, 31, 4, 32, 33, 34, 35, 20, 36, 37, 24, 38, 39, 23, 22, 40, 41, 42, 43, 44, 45, 46, 47, 48, 49, 50, 51, 52, 53, 54, 55, 56, 57, 58, 59, 60, 61, 62, 63, 64, 65, 66, 67, 68, 69, 70, 71, 72, 73, 74, 75, 76, 77, 78, 79, 80, 81, 82, 83, 84, 85, 86, 87, 88, 89, 90, 91, 92, 93, 94, 95, 96, 97, 98, 99, 100, 101, 102, 103, 104, 105, 106, 107, 117, 118, 119, 120, 121, 122, 123, 124, 125, 126, 127, 128, 129, 130, 131, 132, 133] (by decide +kernel) (by decide +kernel)
set_option maxRecDepth 20000 in
theorem gX3_leaps_X2_fewestLeaps : GoodIn wsX3_leaps (wsV RX3 111 RX2 yX2_fewestLeaps wsX2_fewestLeaps) := goodIn_app (goodIn_of _ (by decide +kernel)) ggX3_leaps_X2_fewestLeaps
set_option maxHeartbeats 4000000 in
set_option maxRecDepth 100000 in
theorem mX3_leaps (l : Launch) (dC : Nat → ClassId) (dI : Nat → Nat → Nat) (cI cC : ClassId) (sk : (Nat → Nat) × (Nat → Nat)) (f : Nat → Nat) (sz : Nat) (p1 : Int32) (p2 : Int32) (c_lanes : AR) (c_spots : AR) (c_byLeaps : AR) (c_load : Int32) (c_gone : Int32) (c_held : Int32) (c_strong : Int32) (c_done : Int32) (c_rn : RT) (c_rt : RT) (c_letters : AR) (c_size : Int32) (c_rp : RT) (c_seen : AR) (c_refs : AR) (c_inRow : Int32) (c_isPic : Int32) (z : Int32 × AR × AR × AR × Int32 × Int32 × Int32 × Int32 × AR) (h : fX3_leaps p1 p2 c_lanes c_spots c_byLeaps c_load c_gone c_held c_strong c_rn c_refs = some z) : cRW l yX3_leaps wsX3_leaps (RMk 5 116) sk (dC, dI) (tyz cI cC) sz (zwX cI cC f c_lanes c_spots c_byLeaps c_load c_gone c_held c_strong c_done c_rn c_rt c_letters c_size c_rp c_seen c_refs c_inRow c_isPic) (zwX cI cC f z.2.1 z.2.2.1 z.2.2.2.1 z.2.2.2.2.1 z.2.2.2.2.2.1 z.2.2.2.2.2.2.1 z.2.2.2.2.2.2.2.1 c_done c_rn c_rt c_letters c_size c_rp c_seen z.2.2.2.2.2.2.2.2 c_inRow c_isPic) [.ref (f 0), .int p1, .int p2] z.1 := by
  refine ofRW (cc := cX3_leaps) (maxL := 4) (ret := (some .int)) (own := RX3) (plainFor_of_name (by decide)) rfl rfl (Nat.le_of_ble_eq_true rfl) ?_
  intro p e s m args below meth c A hA hx hb hml hr hts hown hlocks hE hK hP hD hS ls hl
  generalize hQ : qRW _ _ _ _ _ _ _ = Q
  have hl : lv_has ls 4 [(0, .ref (f 0)), (1, .int p1), (2, .int p2)] := hl
  have hiX3 : ∀ w ∈ wsX30, w ∈ wsX3_leaps := fun w h => List.mem_cons_of_mem _ (List.mem_append_left _ (List.mem_append_left _ (List.mem_append_right _ h)))
  have hw1 := hts (Cond.fieldLink RX3 34 "FloeToFloe" "walk" "LFloeToFloe$Walk;") (List.mem_of_getElem? (i := 1) rfl)
  rw [fX3_leaps] at h
  refine lv_iload_n hx hb dX3_leaps_0 rfl (lv_at hl 1 rfl) ?_
  refine lv_iload_n hx hb dX3_leaps_1 rfl (lv_at hl 2 rfl) ?_
  obtain ⟨q2, e2, h⟩ := bd_some h
  refine g_roS (wc := ([] : va_W)) ⟨hx, hb, hml, hown, hts⟩ hE hK hP hS [] rfl (mX3_faultOfWalker l dC dI cI cC sk  p1 p2 q2 e2) (va_cwS 2 hts gX3_leaps_X3_faultOfWalker rfl rfl rfl (by decide +kernel) ⟨Nat.le_of_ble_eq_true rfl, Nat.le_of_ble_eq_true rfl⟩) (As := [.int p1, .int p2]) (rest := []) rfl hl.1 rfl (Nat.le_of_ble_eq_true rfl) dX3_leaps_2 ⟨Nat.zero_le _, Nat.zero_le _⟩ (fun H locs hP hS => ?_)
  refine lv_istore_n (lv' := [(3, .int q2), (0, .ref (f 0)), (1, .int p1), (2, .int p2)]) hx hb dX3_leaps_5 rfl hl (by decide) rfl (fun ls hl => ?_)
  refine lv_iload_n hx hb dX3_leaps_6 rfl (lv_at hl 0 rfl) ?_
  refine lv_if_eq (tgt := 16) hx hb dX3_leaps_7 (by decide) (fun c7 => ?_) (fun c7 => ?_)
  · have h := itT c7 h
    refine lv_aload_n hx hb dX3_leaps_16 rfl (lv_at hl 1 rfl) ?_
    refine va_get (D := (dC, dI)) (ci := 3) (v := .ref (f 1)) (C := RX3) (T := TX3) (N := 9) hx hb hts hiX3 hown hK hP 0 rfl rfl 4 (by decide) hw1 (fun _ h9 => h9) rfl dX3_leaps_17 ?_
    refine lv_iload_n hx hb dX3_leaps_20 rfl (lv_at hl 2 rfl) ?_
    refine lv_iconst (v := (0 : Int32)) hx hb dX3_leaps_21 (by decide) ?_
    refine lv_iconst (v := (0 : Int32)) hx hb dX3_leaps_22 (by decide) ?_
    obtain ⟨q23, e23, h⟩ := bd_some h
    refine g_rvV (wc := (zwV cI cC (fun k => f (k + 1)) c_lanes c_spots c_byLeaps c_load c_gone c_held c_strong c_done c_rn)) (wc' := (zwV cI cC (fun k => f (k + 1)) c_lanes c_spots c_byLeaps q23.1 q23.2.1 q23.2.2 c_strong c_done c_rn)) ⟨hx, hb, hml, hown, hts⟩ hE hK hA hP hD hS [1, 2, 3, 4, 5, 6, 7, 8, 9, 10] rfl rfl rfl (mX2_begin l dC dI cI cC sk (fun k => f (k + 1)) H.size p1 (0 : Int32) (0 : Int32) c_lanes c_spots c_byLeaps c_load c_gone c_held c_strong c_done c_rn q23 e23) (cwV 3 hts gX3_leaps_X2_begin rfl rfl rfl (by decide +kernel) ⟨Nat.le_of_ble_eq_true rfl, Nat.le_of_ble_eq_true rfl⟩) (va_recv hK hP (ci := 2) (q0 := 1) rfl rfl) (As := [.int p1, .int (0 : Int32), .int (0 : Int32)]) (rest := []) rfl hl.1 rfl (Nat.le_of_ble_eq_true rfl) dX3_leaps_23 ⟨Nat.zero_le _, Nat.zero_le _⟩ (fun H locs hP hD hS => ?_)
    have hP : va_P (dC, dI) vwCl (zwX cI cC f c_lanes c_spots c_byLeaps q23.1 q23.2.1 q23.2.2 c_strong c_done c_rn c_rt c_letters c_size c_rp c_seen c_refs c_inRow c_isPic) H := hP
    have hD : va_D A (zwX cI cC f c_lanes c_spots c_byLeaps q23.1 q23.2.1 q23.2.2 c_strong c_done c_rn c_rt c_letters c_size c_rp c_seen c_refs c_inRow c_isPic) := hD
    refine lv_aload_n hx hb dX3_leaps_26 rfl (lv_at hl 1 rfl) ?_
    refine va_get (D := (dC, dI)) (ci := 3) (v := .ref (f 1)) (C := RX3) (T := TX3) (N := 9) hx hb hts hiX3 hown hK hP 0 rfl rfl 4 (by decide) hw1 (fun _ h9 => h9) rfl dX3_leaps_27 ?_
    refine lv_iload_n hx hb dX3_leaps_30 rfl (lv_at hl 3 rfl) ?_
    obtain ⟨q31, e31, h⟩ := bd_some h
    refine g_rwV (wc := (zwV cI cC (fun k => f (k + 1)) c_lanes c_spots c_byLeaps q23.1 q23.2.1 q23.2.2 c_strong c_done c_rn)) (wc' := (zwV cI cC (fun k => f (k + 1)) q31.2.1 q31.2.2.1 q31.2.2.2.1 q23.1 q23.2.1 q23.2.2 q31.2.2.2.2 c_done c_rn)) ⟨hx, hb, hml, hown, hts⟩ hE hK hA hP hD hS [1, 2, 3, 4, 5, 6, 7, 8, 9, 10] rfl rfl rfl (mX2_fewestLeaps l dC dI cI cC sk (fun k => f (k + 1)) H.size p2 c_lanes c_spots c_byLeaps q23.1 q23.2.1 q23.2.2 c_strong c_done c_rn q31 e31) (cwV 1 hts gX3_leaps_X2_fewestLeaps rfl rfl rfl (by decide +kernel) ⟨Nat.le_of_ble_eq_true rfl, Nat.le_of_ble_eq_true rfl⟩) (va_recv hK hP (ci := 2) (q0 := 1) rfl rfl) (As := [.int p2]) (rest := []) rfl hl.1 rfl (Nat.le_of_ble_eq_true rfl) dX3_leaps_31 ⟨Nat.zero_le _, Nat.zero_le _⟩ (fun H locs hP hD hS => ?_)
    have hP : va_P (dC, dI) vwCl (zwX cI cC f q31.2.1 q31.2.2.1 q31.2.2.2.1 q23.1 q23.2.1 q23.2.2 q31.2.2.2.2 c_done c_rn c_rt c_letters c_size c_rp c_seen c_refs c_inRow c_isPic) H := hP
    have hD : va_D A (zwX cI cC f q31.2.1 q31.2.2.1 q31.2.2.2.1 q23.1 q23.2.1 q23.2.2 q31.2.2.2.2 c_done c_rn c_rt c_letters c_size c_rp c_seen c_refs c_inRow c_isPic) := hD
    subst hQ
    exact retRW (zz := ((q31.1, q31.2.1, q31.2.2.1, q31.2.2.2.1, q23.1, q23.2.1, q23.2.2, q31.2.2.2.2, c_refs) : Int32 × AR × AR × AR × Int32 × Int32 × Int32 × Int32 × AR)) (fun z => z.1) (fun z => (zwX cI cC f z.2.1 z.2.2.1 z.2.2.2.1 z.2.2.2.2.1 z.2.2.2.2.2.1 z.2.2.2.2.2.2.1 z.2.2.2.2.2.2.2.1 c_done c_rn c_rt c_letters c_size c_rp c_seen z.2.2.2.2.2.2.2.2 c_inRow c_isPic)) hx hb hr hlocks rfl hS h rfl hP dX3_leaps_34
  have h := itF c7 h
  refine lv_aload_n hx hb dX3_leaps_10 rfl (lv_at hl 1 rfl) ?_
  refine lv_iload_n hx hb dX3_leaps_11 rfl (lv_at hl 0 rfl) ?_
  obtain ⟨q12, e12, h⟩ := bd_some h
  refine g_rwV (wc := (zwX cI cC f c_lanes c_spots c_byLeaps c_load c_gone c_held c_strong c_done c_rn c_rt c_letters c_size c_rp c_seen c_refs c_inRow c_isPic)) (wc' := (zwX cI cC f c_lanes c_spots c_byLeaps c_load c_gone c_held c_strong c_done c_rn c_rt c_letters c_size c_rp c_seen q12.2 c_inRow c_isPic)) ⟨hx, hb, hml, hown, hts⟩ hE hK hA hP hD hS [0, 1, 2, 3, 4, 5, 6, 7, 8, 9, 10, 11, 12, 13, 14, 15, 16, 17, 18, 19, 20, 21, 22, 23, 24, 25, 26] rfl rfl rfl (mX3_refuse l dC dI cI cC sk f H.size q2 c_lanes c_spots c_byLeaps c_load c_gone c_held c_strong c_done c_rn c_rt c_letters c_size c_rp c_seen c_refs c_inRow c_isPic q12 e12) (cwV 1 hts gX3_leaps_X3_refuse rfl rfl rfl (by decide +kernel) ⟨Nat.le_of_ble_eq_true rfl, Nat.le_of_ble_eq_true rfl⟩) (va_recv hK hP (ci := 3) (q0 := 0) rfl rfl) (As := [.int q2]) (rest := []) rfl hl.1 rfl (Nat.le_of_ble_eq_true rfl) dX3_leaps_12 ⟨Nat.zero_le _, Nat.zero_le _⟩ (fun H locs hP hD hS => ?_)
  have hP : va_P (dC, dI) vwCl (zwX cI cC f c_lanes c_spots c_byLeaps c_load c_gone c_held c_strong c_done c_rn c_rt c_letters c_size c_rp c_seen q12.2 c_inRow c_isPic) H := hP
  have hD : va_D A (zwX cI cC f c_lanes c_spots c_byLeaps c_load c_gone c_held c_strong c_done c_rn c_rt c_letters c_size c_rp c_seen q12.2 c_inRow c_isPic) := hD
  subst hQ
  exact retRW (zz := ((q12.1, c_lanes, c_spots, c_byLeaps, c_load, c_gone, c_held, c_strong, q12.2) : Int32 × AR × AR × AR × Int32 × Int32 × Int32 × Int32 × AR)) (fun z => z.1) (fun z => (zwX cI cC f z.2.1 z.2.2.1 z.2.2.2.1 z.2.2.2.2.1 z.2.2.2.2.2.1 z.2.2.2.2.2.2.1 z.2.2.2.2.2.2.2.1 c_done c_rn c_rt c_letters c_size c_rp c_seen z.2.2.2.2.2.2.2.2 c_inRow c_isPic)) hx hb hr hlocks rfl hS h rfl hP dX3_leaps_15
theorem dX3_outOfEither_0 : decode cX3_outOfEither 0 = .ok (.iload_n 0, 1) := by decide +kernel
theorem dX3_outOfEither_1 : decode cX3_outOfEither 1 = .ok (.iconst 1, 1) := by decide +kernel
theorem dX3_outOfEither_2 : decode cX3_outOfEither 2 = .ok (.if_icmp .lt 7, 3) := by decide +kernel
theorem dX3_outOfEither_5 : decode cX3_outOfEither 5 = .ok (.iload_n 1, 1) := by decide +kernel
theorem dX3_outOfEither_6 : decode cX3_outOfEither 6 = .ok (.ifCond .ge 6, 3) := by decide +kernel
theorem dX3_outOfEither_9 : decode cX3_outOfEither 9 = .ok (.bipush (-4), 2) := by decide +kernel
theorem dX3_outOfEither_11 : decode cX3_outOfEither 11 = .ok (.ireturn, 1) := by decide +kernel
theorem dX3_outOfEither_12 : decode cX3_outOfEither 12 = .ok (.iload_n 0, 1) := by decide +kernel
theorem dX3_outOfEither_13 : decode cX3_outOfEither 13 = .ok (.bipush 9, 2) := by decide +kernel
theorem dX3_outOfEither_15 : decode cX3_outOfEither 15 = .ok (.if_icmp .gt 8, 3) := by decide +kernel
theorem dX3_outOfEither_18 : decode cX3_outOfEither 18 = .ok (.iload_n 1, 1) := by decide +kernel
theorem dX3_outOfEither_19 : decode cX3_outOfEither 19 = .ok (.iload_n 2, 1) := by decide +kernel
theorem dX3_outOfEither_20 : decode cX3_outOfEither 20 = .ok (.if_icmp .le 8, 3) := by decide +kernel
theorem dX3_outOfEither_23 : decode cX3_outOfEither 23 = .ok (.bipush (-6), 2) := by decide +kernel
theorem dX3_outOfEither_25 : decode cX3_outOfEither 25 = .ok (.goto 4, 3) := by decide +kernel
theorem dX3_outOfEither_28 : decode cX3_outOfEither 28 = .ok (.iconst 0, 1) := by decide +kernel
theorem dX3_outOfEither_29 : decode cX3_outOfEither 29 = .ok (.ireturn, 1) := by decide +kernel
set_option maxHeartbeats 4000000 in
set_option maxRecDepth 100000 in
theorem mX3_outOfEither (l : Launch) (dC : Nat → ClassId) (dI : Nat → Nat → Nat) (cI cC : ClassId) (sk : (Nat → Nat) × (Nat → Nat))  (p0 : Int32) (p1 : Int32) (p2 : Int32)  (z : Int32) (h : fX3_outOfEither p0 p1 p2 = some z) : cRO l yX3_outOfEither wsX3_outOfEither (RMk 0 0) sk (dC, dI) (tyz cI cC) ([] : va_W) [.int p0, .int p1, .int p2] z := by
  refine ofRO (cc := cX3_outOfEither) (maxL := 3) (ret := (some .int)) (own := RX3) (plainFor_of_name (by decide)) rfl rfl (Nat.le_of_ble_eq_true rfl) ?_
  intro p e s m args below meth c hx hb hml hr hts hown hlocks hE hK hP hS ls hl
  generalize hQ : qRO _ _ _ _ = Q
  have hl : lv_has ls 3 [(0, .int p0), (1, .int p1), (2, .int p2)] := hl
  rw [fX3_outOfEither] at h
  refine lv_iload_n hx hb dX3_outOfEither_0 rfl (lv_at hl 0 rfl) ?_
  refine lv_iconst (v := (1 : Int32)) hx hb dX3_outOfEither_1 (by decide) ?_
  refine lv_icmp_lt (tgt := 9) hx hb dX3_outOfEither_2 (by decide) (fun c2 => ?_) (fun c2 => ?_)
  · have h := itT c2 h
    refine lv_bipush (v := (-4 : Int32)) hx hb dX3_outOfEither_9 (by decide) ?_
    subst hQ
    exact retRO hx hb hr hlocks rfl hS h dX3_outOfEither_11
  have h := itF c2 h
  refine lv_iload_n hx hb dX3_outOfEither_5 rfl (lv_at hl 1 rfl) ?_
  refine lv_if_ge (tgt := 12) hx hb dX3_outOfEither_6 (by decide) (fun c6 => ?_) (fun c6 => ?_)
  · have h := itT c6 h
    refine lv_iload_n hx hb dX3_outOfEither_12 rfl (lv_at hl 0 rfl) ?_
    refine lv_bipush (v := (9 : Int32)) hx hb dX3_outOfEither_13 (by decide) ?_
    refine lv_icmp_gt (tgt := 23) hx hb dX3_outOfEither_15 (by decide) (fun c15 => ?_) (fun c15 => ?_)
    · have h := itT c15 h
      refine lv_bipush (v := (-6 : Int32)) hx hb dX3_outOfEither_23 (by decide) ?_
      refine lv_goto (tgt := 29) hx hb dX3_outOfEither_25 (by decide) ?_
      subst hQ
      exact retRO hx hb hr hlocks rfl hS h dX3_outOfEither_29
    have h := itF c15 h
    refine lv_iload_n hx hb dX3_outOfEither_18 rfl (lv_at hl 1 rfl) ?_
    refine lv_iload_n hx hb dX3_outOfEither_19 rfl (lv_at hl 2 rfl) ?_
    refine lv_icmp_le (tgt := 28) hx hb dX3_outOfEither_20 (by decide) (fun c20 => ?_) (fun c20 => ?_)
    · have h := itT c20 h
      refine lv_iconst (v := (0 : Int32)) hx hb dX3_outOfEither_28 (by decide) ?_
      subst hQ
      exact retRO hx hb hr hlocks rfl hS h dX3_outOfEither_29
    have h := itF c20 h
    refine lv_bipush (v := (-6 : Int32)) hx hb dX3_outOfEither_23 (by decide) ?_
    refine lv_goto (tgt := 29) hx hb dX3_outOfEither_25 (by decide) ?_
    subst hQ
    exact retRO hx hb hr hlocks rfl hS h dX3_outOfEither_29
  have h := itF c6 h
  refine lv_bipush (v := (-4 : Int32)) hx hb dX3_outOfEither_9 (by decide) ?_
  subst hQ
  exact retRO hx hb hr hlocks rfl hS h dX3_outOfEither_11
theorem dX3_reach_0 : decode cX3_reach 0 = .ok (.iload_n 2, 1) := by decide +kernel
theorem dX3_reach_1 : decode cX3_reach 1 = .ok (.invokestatic 114, 3) := by decide +kernel
theorem dX3_reach_4 : decode cX3_reach 4 = .ok (.ifCond .ne 9, 3) := by decide +kernel
theorem dX3_reach_7 : decode cX3_reach 7 = .ok (.aload_n 0, 1) := by decide +kernel
theorem dX3_reach_8 : decode cX3_reach 8 = .ok (.iconst (-1), 1) := by decide +kernel
theorem dX3_reach_9 : decode cX3_reach 9 = .ok (.invokevirtual 53, 3) := by decide +kernel
theorem dX3_reach_12 : decode cX3_reach 12 = .ok (.ireturn, 1) := by decide +kernel
theorem dX3_reach_13 : decode cX3_reach 13 = .ok (.iload_n 1, 1) := by decide +kernel
theorem dX3_reach_14 : decode cX3_reach 14 = .ok (.iload_n 3, 1) := by decide +kernel
theorem dX3_reach_15 : decode cX3_reach 15 = .ok (.bipush 40, 2) := by decide +kernel
theorem dX3_reach_17 : decode cX3_reach 17 = .ok (.invokestatic 117, 3) := by decide +kernel
theorem dX3_reach_20 : decode cX3_reach 20 = .ok (.istore 4, 2) := by decide +kernel
theorem dX3_reach_22 : decode cX3_reach 22 = .ok (.iload 4, 2) := by decide +kernel
theorem dX3_reach_24 : decode cX3_reach 24 = .ok (.ifCond .eq 10, 3) := by decide +kernel
theorem dX3_reach_27 : decode cX3_reach 27 = .ok (.aload_n 0, 1) := by decide +kernel
theorem dX3_reach_28 : decode cX3_reach 28 = .ok (.iload 4, 2) := by decide +kernel
theorem dX3_reach_30 : decode cX3_reach 30 = .ok (.invokevirtual 53, 3) := by decide +kernel
theorem dX3_reach_33 : decode cX3_reach 33 = .ok (.ireturn, 1) := by decide +kernel
theorem dX3_reach_34 : decode cX3_reach 34 = .ok (.aload_n 0, 1) := by decide +kernel
theorem dX3_reach_35 : decode cX3_reach 35 = .ok (.getfield 34, 3) := by decide +kernel
theorem dX3_reach_38 : decode cX3_reach 38 = .ok (.iload_n 1, 1) := by decide +kernel
theorem dX3_reach_39 : decode cX3_reach 39 = .ok (.iconst 0, 1) := by decide +kernel
theorem dX3_reach_40 : decode cX3_reach 40 = .ok (.iconst 0, 1) := by decide +kernel
theorem dX3_reach_41 : decode cX3_reach 41 = .ok (.invokevirtual 87, 3) := by decide +kernel
theorem dX3_reach_44 : decode cX3_reach 44 = .ok (.aload_n 0, 1) := by decide +kernel
theorem dX3_reach_45 : decode cX3_reach 45 = .ok (.getfield 34, 3) := by decide +kernel
theorem dX3_reach_48 : decode cX3_reach 48 = .ok (.iload_n 2, 1) := by decide +kernel
theorem dX3_reach_49 : decode cX3_reach 49 = .ok (.invokestatic 120, 3) := by decide +kernel
theorem dX3_reach_52 : decode cX3_reach 52 = .ok (.aload_n 0, 1) := by decide +kernel
theorem dX3_reach_53 : decode cX3_reach 53 = .ok (.getfield 12, 3) := by decide +kernel
theorem dX3_reach_56 : decode cX3_reach 56 = .ok (.getfield 84, 3) := by decide +kernel
theorem dX3_reach_59 : decode cX3_reach 59 = .ok (.iload_n 3, 1) := by decide +kernel
theorem dX3_reach_60 : decode cX3_reach 60 = .ok (.invokevirtual 123, 3) := by decide +kernel
theorem dX3_reach_63 : decode cX3_reach 63 = .ok (.istore 5, 2) := by decide +kernel
theorem dX3_reach_65 : decode cX3_reach 65 = .ok (.iload 5, 2) := by decide +kernel
theorem dX3_reach_67 : decode cX3_reach 67 = .ok (.sipush 511, 3) := by decide +kernel
theorem dX3_reach_70 : decode cX3_reach 70 = .ok (.iand, 1) := by decide +kernel
theorem dX3_reach_71 : decode cX3_reach 71 = .ok (.istore 6, 2) := by decide +kernel
theorem dX3_reach_73 : decode cX3_reach 73 = .ok (.iload 5, 2) := by decide +kernel
theorem dX3_reach_75 : decode cX3_reach 75 = .ok (.ldc 126, 2) := by decide +kernel
theorem dX3_reach_77 : decode cX3_reach 77 = .ok (.iand, 1) := by decide +kernel
theorem dX3_reach_78 : decode cX3_reach 78 = .ok (.ifCond .eq 12, 3) := by decide +kernel
theorem dX3_reach_81 : decode cX3_reach 81 = .ok (.iload 6, 2) := by decide +kernel
theorem dX3_reach_83 : decode cX3_reach 83 = .ok (.sipush 512, 3) := by decide +kernel
theorem dX3_reach_86 : decode cX3_reach 86 = .ok (.ior, 1) := by decide +kernel
theorem dX3_reach_87 : decode cX3_reach 87 = .ok (.goto 5, 3) := by decide +kernel
theorem dX3_reach_90 : decode cX3_reach 90 = .ok (.iload 6, 2) := by decide +kernel
theorem dX3_reach_92 : decode cX3_reach 92 = .ok (.ireturn, 1) := by decide +kernel
set_option maxRecDepth 20000 in
theorem ggX3_reach_X3_isCell : GoodIn wsX3_reach wsX3_isCell := goodIn_r _ [7] (by decide +kernel) (by decide +kernel)
set_option maxRecDepth 20000 in
theorem gX3_reach_X3_isCell : GoodIn wsX3_reach (va_wsS RX3 114 yX3_isCell wsX3_isCell) := goodIn_app (goodIn_of _ (by decide +kernel)) ggX3_reach_X3_isCell
set_option maxRecDepth 20000 in
theorem ggX3_reach_X3_refuse : GoodIn wsX3_reach wsX3_refuse := goodIn_r _ [11, 12, 107, 108, 109, 110, 111, 112, 113, 114, 115] (by decide +kernel) (by decide +kernel)
set_option maxRecDepth 20000 in
theorem gX3_reach_X3_refuse : GoodIn wsX3_reach (wsV RX3 53 RX3 yX3_refuse wsX3_refuse) := goodIn_app (goodIn_of _ (by decide +kernel)) ggX3_reach_X3_refuse
set_option maxRecDepth 20000 in
theorem ggX3_reach_X3_outOfEither : GoodIn wsX3_reach wsX3_outOfEither := goodIn_r _ [15] (by decide +kernel) (by decide +kernel)
set_option maxRecDepth 20000 in
theorem gX3_reach_X3_outOfEither : GoodIn wsX3_reach (va_wsS RX3 117 yX3_outOfEither wsX3_outOfEither) := goodIn_app (goodIn_of _ (by decide +kernel)) ggX3_reach_X3_outOfEither
set_option maxRecDepth 20000 in
theorem ggX3_reach_X2_begin : GoodIn wsX3_reach wsX2_begin := goodIn_r _ [20, 21, 22, 23, 124, 125, 126, 127, 128, 129, 130, 131, 132] (by decide +kernel) (by decide +kernel)
set_option maxRecDepth 20000 in
theorem gX3_reach_X2_begin : GoodIn wsX3_reach (wsV RX3 87 RX2 yX2_begin wsX2_begin) := goodIn_app (goodIn_of _ (by decide +kernel)) ggX3_reach_X2_begin
set_option maxRecDepth 20000 in
theorem ggX3_reach_X3_southCell : GoodIn wsX3_reach wsX3_southCell := goodIn_r _ [26] (by decide +kernel) (by decide +kernel)
set_option maxRecDepth 20000 in
theorem gX3_reach_X3_southCell : GoodIn wsX3_reach (va_wsS RX3 120 yX3_southCell wsX3_southCell) := goodIn_app (goodIn_of _ (by decide +kernel)) ggX3_reach_X3_southCell
set_option maxRecDepth 20000 in
theorem ggX3_reach_X2_placesBehind : GoodIn wsX3_reach wsX2_placesBehind := goodIn_r _ [30, 31, 32, 33, 19, 34, 35, 23, 36, 37, 38, 22, 21, 39, 40, 41, 42, 43, 44, 45, 46, 47, 48, 49, 50, 51, 52, 53, 54, 55, 56, 57, 58, 59, 60, 61, 62, 63, 64, 65, 66, 67, 68, 69, 70, 71, 72, 73, 74, 75, 76, 77, 78, 79, 80, 81, 82, 83, 84, 85, 86, 87, 88, 89, 90, 91, 92, 93, 94, 95, 96, 97, 98, 99, 100, 101, 102, 103, 104, 105, 106, 25, 6, 26, 124, 125, 126, 127, 128, 129, 130, 131, 132, 116, 117, 118, 119, 120, 121, 122, 123] (by decide +kernel) (by decide +kernel)
set_option maxRecDepth 20000 in
theorem gX3_reach_X2_placesBehind : GoodIn wsX3_reach (wsV RX3 123 RX2 yX2_placesBehind wsX2_placesBehind) := goodIn_app (goodIn_of _ (by decide +kernel)) ggX3_reach_X2_placesBehind
set_option maxHeartbeats 4000000 in
set_option maxRecDepth 100000 in
theorem mX3_reach (l : Launch) (dC : Nat → ClassId) (dI : Nat → Nat → Nat) (cI cC : ClassId) (sk : (Nat → Nat) × (Nat → Nat)) (f : Nat → Nat) (sz : Nat) (p1 : Int32) (p2 : Int32) (p3 : Int32) (c_lanes : AR) (c_spots : AR) (c_byLeaps : AR) (c_load : Int32) (c_gone : Int32) (c_held : Int32) (c_strong : Int32) (c_done : Int32) (c_rn : RT) (c_rt : RT) (c_letters : AR) (c_size : Int32) (c_rp : RT) (c_seen : AR) (c_refs : AR) (c_inRow : Int32) (c_isPic : Int32) (z : Int32 × AR × AR × Int32 × Int32 × Int32 × Int32 × AR) (h : fX3_reach p1 p2 p3 c_lanes c_spots c_load c_gone c_held c_strong c_rn c_refs = some z) : cRW l yX3_reach wsX3_reach (RMk 5 118) sk (dC, dI) (tyz cI cC) sz (zwX cI cC f c_lanes c_spots c_byLeaps c_load c_gone c_held c_strong c_done c_rn c_rt c_letters c_size c_rp c_seen c_refs c_inRow c_isPic) (zwX cI cC f z.2.1 z.2.2.1 c_byLeaps z.2.2.2.1 z.2.2.2.2.1 z.2.2.2.2.2.1 z.2.2.2.2.2.2.1 c_done c_rn c_rt c_letters c_size c_rp c_seen z.2.2.2.2.2.2.2 c_inRow c_isPic) [.ref (f 0), .int p1, .int p2, .int p3] z.1 := by
  refine ofRW (cc := cX3_reach) (maxL := 7) (ret := (some .int)) (own := RX3) (plainFor_of_name (by decide)) rfl rfl (Nat.le_of_ble_eq_true rfl) ?_
  intro p e s m args below meth c A hA hx hb hml hr hts hown hlocks hE hK hP hD hS ls hl
  generalize hQ : qRW _ _ _ _ _ _ _ = Q
  have hl : lv_has ls 7 [(0, .ref (f 0)), (1, .int p1), (2, .int p2), (3, .int p3)] := hl
  have hiX0 : ∀ w ∈ wsX00, w ∈ wsX3_reach := fun w h => List.mem_cons_of_mem _ (List.mem_append_left _ (List.mem_append_right _ h))
  have hiX3 : ∀ w ∈ wsX30, w ∈ wsX3_reach := fun w h => List.mem_cons_of_mem _ (List.mem_append_left _ (List.mem_append_left _ (List.mem_append_right _ h)))
  have hw1 := hts (Cond.fieldLink RX3 34 "FloeToFloe" "walk" "LFloeToFloe$Walk;") (List.mem_of_getElem? (i := 1) rfl)
  have hw2 := hts (Cond.fieldLink RX3 12 "FloeToFloe" "now" "LFloeToFloe$River;") (List.mem_of_getElem? (i := 2) rfl)
  have hw3 := hts (Cond.constant RX3 126 (1047552)) (List.mem_of_getElem? (i := 3) rfl)
  have hnw4 : (Cond.fieldLinkNest "FloeToFloe" 84 "FloeToFloe$River" "minute" "I" "FloeToFloe").before args s = true := va_Nw.use rfl (hE.1 4 _ rfl)
  rw [fX3_reach] at h
  refine lv_iload_n hx hb dX3_reach_0 rfl (lv_at hl 2 rfl) ?_
  obtain ⟨q1, e1, h⟩ := bd_some h
  refine g_roS (wc := ([] : va_W)) ⟨hx, hb, hml, hown, hts⟩ hE hK hP hS [] rfl (mX3_isCell l dC dI cI cC sk  p2 q1 e1) (va_cwS 1 hts gX3_reach_X3_isCell rfl rfl rfl (by decide +kernel) ⟨Nat.le_of_ble_eq_true rfl, Nat.le_of_ble_eq_true rfl⟩) (As := [.int p2]) (rest := []) rfl hl.1 rfl (Nat.le_of_ble_eq_true rfl) dX3_reach_1 ⟨Nat.zero_le _, Nat.zero_le _⟩ (fun H locs hP hS => ?_)
  refine lv_if_ne (tgt := 13) hx hb dX3_reach_4 (by decide) (fun c4 => ?_) (fun c4 => ?_)
  · have h := itF c4 h
    refine lv_iload_n hx hb dX3_reach_13 rfl (lv_at hl 1 rfl) ?_
    refine lv_iload_n hx hb dX3_reach_14 rfl (lv_at hl 3 rfl) ?_
    refine lv_bipush (v := (40 : Int32)) hx hb dX3_reach_15 (by decide) ?_
    obtain ⟨q17, e17, h⟩ := bd_some h
    refine g_roS (wc := ([] : va_W)) ⟨hx, hb, hml, hown, hts⟩ hE hK hP hS [] rfl (mX3_outOfEither l dC dI cI cC sk  p1 p3 (40 : Int32) q17 e17) (va_cwS 3 hts gX3_reach_X3_outOfEither rfl rfl rfl (by decide +kernel) ⟨Nat.le_of_ble_eq_true rfl, Nat.le_of_ble_eq_true rfl⟩) (As := [.int p1, .int p3, .int (40 : Int32)]) (rest := []) rfl hl.1 rfl (Nat.le_of_ble_eq_true rfl) dX3_reach_17 ⟨Nat.zero_le _, Nat.zero_le _⟩ (fun H locs hP hS => ?_)
    refine lv_istore (lv' := [(4, .int q17), (0, .ref (f 0)), (1, .int p1), (2, .int p2), (3, .int p3)]) hx hb dX3_reach_20 hl (by decide) rfl (fun ls hl => ?_)
    refine lv_iload hx hb dX3_reach_22 (lv_at hl 0 rfl) ?_
    refine lv_if_eq (tgt := 34) hx hb dX3_reach_24 (by decide) (fun c24 => ?_) (fun c24 => ?_)
    · have h := itT c24 h
      refine lv_aload_n hx hb dX3_reach_34 rfl (lv_at hl 1 rfl) ?_
      refine va_get (D := (dC, dI)) (ci := 3) (v := .ref (f 1)) (C := RX3) (T := TX3) (N := 9) hx hb hts hiX3 hown hK hP 0 rfl rfl 4 (by decide) hw1 (fun _ h9 => h9) rfl dX3_reach_35 ?_
      refine lv_iload_n hx hb dX3_reach_38 rfl (lv_at hl 2 rfl) ?_
      refine lv_iconst (v := (0 : Int32)) hx hb dX3_reach_39 (by decide) ?_
      refine lv_iconst (v := (0 : Int32)) hx hb dX3_reach_40 (by decide) ?_
      obtain ⟨q41, e41, h⟩ := bd_some h
      refine g_rvV (wc := (zwV cI cC (fun k => f (k + 1)) c_lanes c_spots c_byLeaps c_load c_gone c_held c_strong c_done c_rn)) (wc' := (zwV cI cC (fun k => f (k + 1)) c_lanes c_spots c_byLeaps q41.1 q41.2.1 q41.2.2 c_strong c_done c_rn)) ⟨hx, hb, hml, hown, hts⟩ hE hK hA hP hD hS [1, 2, 3, 4, 5, 6, 7, 8, 9, 10] rfl rfl rfl (mX2_begin l dC dI cI cC sk (fun k => f (k + 1)) H.size p1 (0 : Int32) (0 : Int32) c_lanes c_spots c_byLeaps c_load c_gone c_held c_strong c_done c_rn q41 e41) (cwV 3 hts gX3_reach_X2_begin rfl rfl rfl (by decide +kernel) ⟨Nat.le_of_ble_eq_true rfl, Nat.le_of_ble_eq_true rfl⟩) (va_recv hK hP (ci := 2) (q0 := 1) rfl rfl) (As := [.int p1, .int (0 : Int32), .int (0 : Int32)]) (rest := []) rfl hl.1 rfl (Nat.le_of_ble_eq_true rfl) dX3_reach_41 ⟨Nat.zero_le _, Nat.zero_le _⟩ (fun H locs hP hD hS => ?_)
      have hP : va_P (dC, dI) vwCl (zwX cI cC f c_lanes c_spots c_byLeaps q41.1 q41.2.1 q41.2.2 c_strong c_done c_rn c_rt c_letters c_size c_rp c_seen c_refs c_inRow c_isPic) H := hP
      have hD : va_D A (zwX cI cC f c_lanes c_spots c_byLeaps q41.1 q41.2.1 q41.2.2 c_strong c_done c_rn c_rt c_letters c_size c_rp c_seen c_refs c_inRow c_isPic) := hD
      refine lv_aload_n hx hb dX3_reach_44 rfl (lv_at hl 1 rfl) ?_
      refine va_get (D := (dC, dI)) (ci := 3) (v := .ref (f 1)) (C := RX3) (T := TX3) (N := 9) hx hb hts hiX3 hown hK hP 0 rfl rfl 4 (by decide) hw1 (fun _ h9 => h9) rfl dX3_reach_45 ?_
      refine lv_iload_n hx hb dX3_reach_48 rfl (lv_at hl 3 rfl) ?_
      obtain ⟨q49, e49, h⟩ := bd_some h
      refine g_roS (wc := ([] : va_W)) ⟨hx, hb, hml, hown, hts⟩ hE hK hP hS [] rfl (mX3_southCell l dC dI cI cC sk  p2 q49 e49) (va_cwS 1 hts gX3_reach_X3_southCell rfl rfl rfl (by decide +kernel) ⟨Nat.le_of_ble_eq_true rfl, Nat.le_of_ble_eq_true rfl⟩) (As := [.int p2]) (rest := [.ref (f 1)]) rfl hl.1 rfl (Nat.le_of_ble_eq_true rfl) dX3_reach_49 ⟨Nat.zero_le _, Nat.zero_le _⟩ (fun H locs hP hS => ?_)
      refine lv_aload_n hx hb dX3_reach_52 rfl (lv_at hl 1 rfl) ?_
      refine va_get (D := (dC, dI)) (ci := 3) (v := .ref (f 5)) (C := RX3) (T := TX3) (N := 9) hx hb hts hiX3 hown hK hP 0 rfl rfl 0 (by decide) hw2 (fun _ h9 => h9) rfl dX3_reach_53 ?_
      refine va_getN (D := (dC, dI)) (ci := 0) (v := .int (R_minute c_rn)) (C := RX0) (T := TX0) (N := 8) hx hb hts hiX0 hown hK hP 5 rfl rfl 7 (by decide) hnw4 (fun _ h9 => h9) rfl dX3_reach_56 ?_
      refine lv_iload_n hx hb dX3_reach_59 rfl (lv_at hl 4 rfl) ?_
      obtain ⟨q60, e60, h⟩ := bd_some h
      refine g_rwV (wc := (zwV cI cC (fun k => f (k + 1)) c_lanes c_spots c_byLeaps q41.1 q41.2.1 q41.2.2 c_strong c_done c_rn)) (wc' := (zwV cI cC (fun k => f (k + 1)) q60.2.1 q60.2.2.1 c_byLeaps q41.1 q41.2.1 q41.2.2 q60.2.2.2 c_done c_rn)) ⟨hx, hb, hml, hown, hts⟩ hE hK hA hP hD hS [1, 2, 3, 4, 5, 6, 7, 8, 9, 10] rfl rfl rfl (mX2_placesBehind l dC dI cI cC sk (fun k => f (k + 1)) H.size q49 (R_minute c_rn) p3 c_lanes c_spots c_byLeaps q41.1 q41.2.1 q41.2.2 c_strong c_done c_rn q60 e60) (cwV 3 hts gX3_reach_X2_placesBehind rfl rfl rfl (by decide +kernel) ⟨Nat.le_of_ble_eq_true rfl, Nat.le_of_ble_eq_true rfl⟩) (va_recv hK hP (ci := 2) (q0 := 1) rfl rfl) (As := [.int q49, .int (R_minute c_rn), .int p3]) (rest := []) rfl hl.1 rfl (Nat.le_of_ble_eq_true rfl) dX3_reach_60 ⟨Nat.zero_le _, Nat.zero_le _⟩ (fun H locs hP hD hS => ?_)
      have hP : va_P (dC, dI) vwCl (zwX cI cC f q60.2.1 q60.2.2.1 c_byLeaps q41.1 q41.2.1 q41.2.2 q60.2.2.2 c_done c_rn c_rt c_letters c_size c_rp c_seen c_refs c_inRow c_isPic) H := hP
      have hD : va_D A (zwX cI cC f q60.2.1 q60.2.2.1 c_byLeaps q41.1 q41.2.1 q41.2.2 q60.2.2.2 c_done c_rn c_rt c_letters c_size c_rp c_seen c_refs c_inRow c_isPic) := hD
      refine lv_istore (lv' := [(5, .int q60.1), (4, .int q17), (0, .ref (f 0)), (1, .int p1), (2, .int p2), (3, .int p3)]) hx hb dX3_reach_63 hl (by decide) rfl (fun ls hl => ?_)
      refine lv_iload hx hb dX3_reach_65 (lv_at hl 0 rfl) ?_
      refine lv_sipush (v := (511 : Int32)) hx hb dX3_reach_67 (by decide) ?_
      refine lv_iand hx hb dX3_reach_70 ?_
      refine lv_istore (lv' := [(6, .int (q60.1 &&& (511 : Int32))), (5, .int q60.1), (4, .int q17), (0, .ref (f 0)), (1, .int p1), (2, .int p2), (3, .int p3)]) hx hb dX3_reach_71 hl (by decide) rfl (fun ls hl => ?_)
      refine lv_iload hx hb dX3_reach_73 (lv_at hl 1 rfl) ?_
      refine lv_ldc hx hb hown hw3 dX3_reach_75 ?_
      refine lv_iand hx hb dX3_reach_77 ?_
      refine lv_if_eq (tgt := 90) hx hb dX3_reach_78 (by decide) (fun c78 => ?_) (fun c78 => ?_)
      · have h := itT c78 h
        refine lv_iload hx hb dX3_reach_90 (lv_at hl 0 rfl) ?_
        subst hQ
        exact retRW (zz := (((q60.1 &&& (511 : Int32)), q60.2.1, q60.2.2.1, q41.1, q41.2.1, q41.2.2, q60.2.2.2, c_refs) : Int32 × AR × AR × Int32 × Int32 × Int32 × Int32 × AR)) (fun z => z.1) (fun z => (zwX cI cC f z.2.1 z.2.2.1 c_byLeaps z.2.2.2.1 z.2.2.2.2.1 z.2.2.2.2.2.1 z.2.2.2.2.2.2.1 c_done c_rn c_rt c_letters c_size c_rp c_seen z.2.2.2.2.2.2.2 c_inRow c_isPic)) hx hb hr hlocks rfl hS h rfl hP dX3_reach_92
      have h := itF c78 h
      refine lv_iload hx hb dX3_reach_81 (lv_at hl 0 rfl) ?_
      refine lv_sipush (v := (512 : Int32)) hx hb dX3_reach_83 (by decide) ?_
      refine lv_ior hx hb dX3_reach_86 ?_
      refine lv_goto (tgt := 92) hx hb dX3_reach_87 (by decide) ?_
      subst hQ
      exact retRW (zz := ((((q60.1 &&& (511 : Int32)) ||| (512 : Int32)), q60.2.1, q60.2.2.1, q41.1, q41.2.1, q41.2.2, q60.2.2.2, c_refs) : Int32 × AR × AR × Int32 × Int32 × Int32 × Int32 × AR)) (fun z => z.1) (fun z => (zwX cI cC f z.2.1 z.2.2.1 c_byLeaps z.2.2.2.1 z.2.2.2.2.1 z.2.2.2.2.2.1 z.2.2.2.2.2.2.1 c_done c_rn c_rt c_letters c_size c_rp c_seen z.2.2.2.2.2.2.2 c_inRow c_isPic)) hx hb hr hlocks rfl hS h rfl hP dX3_reach_92
    have h := itF c24 h
    refine lv_aload_n hx hb dX3_reach_27 rfl (lv_at hl 1 rfl) ?_
    refine lv_iload hx hb dX3_reach_28 (lv_at hl 0 rfl) ?_
    obtain ⟨q30, e30, h⟩ := bd_some h
    refine g_rwV (wc := (zwX cI cC f c_lanes c_spots c_byLeaps c_load c_gone c_held c_strong c_done c_rn c_rt c_letters c_size c_rp c_seen c_refs c_inRow c_isPic)) (wc' := (zwX cI cC f c_lanes c_spots c_byLeaps c_load c_gone c_held c_strong c_done c_rn c_rt c_letters c_size c_rp c_seen q30.2 c_inRow c_isPic)) ⟨hx, hb, hml, hown, hts⟩ hE hK hA hP hD hS [0, 1, 2, 3, 4, 5, 6, 7, 8, 9, 10, 11, 12, 13, 14, 15, 16, 17, 18, 19, 20, 21, 22, 23, 24, 25, 26] rfl rfl rfl (mX3_refuse l dC dI cI cC sk f H.size q17 c_lanes c_spots c_byLeaps c_load c_gone c_held c_strong c_done c_rn c_rt c_letters c_size c_rp c_seen c_refs c_inRow c_isPic q30 e30) (cwV 1 hts gX3_reach_X3_refuse rfl rfl rfl (by decide +kernel) ⟨Nat.le_of_ble_eq_true rfl, Nat.le_of_ble_eq_true rfl⟩) (va_recv hK hP (ci := 3) (q0 := 0) rfl rfl) (As := [.int q17]) (rest := []) rfl hl.1 rfl (Nat.le_of_ble_eq_true rfl) dX3_reach_30 ⟨Nat.zero_le _, Nat.zero_le _⟩ (fun H locs hP hD hS => ?_)
    have hP : va_P (dC, dI) vwCl (zwX cI cC f c_lanes c_spots c_byLeaps c_load c_gone c_held c_strong c_done c_rn c_rt c_letters c_size c_rp c_seen q30.2 c_inRow c_isPic) H := hP
    have hD : va_D A (zwX cI cC f c_lanes c_spots c_byLeaps c_load c_gone c_held c_strong c_done c_rn c_rt c_letters c_size c_rp c_seen q30.2 c_inRow c_isPic) := hD
    subst hQ
    exact retRW (zz := ((q30.1, c_lanes, c_spots, c_load, c_gone, c_held, c_strong, q30.2) : Int32 × AR × AR × Int32 × Int32 × Int32 × Int32 × AR)) (fun z => z.1) (fun z => (zwX cI cC f z.2.1 z.2.2.1 c_byLeaps z.2.2.2.1 z.2.2.2.2.1 z.2.2.2.2.2.1 z.2.2.2.2.2.2.1 c_done c_rn c_rt c_letters c_size c_rp c_seen z.2.2.2.2.2.2.2 c_inRow c_isPic)) hx hb hr hlocks rfl hS h rfl hP dX3_reach_33
  have h := itT c4 h
  refine lv_aload_n hx hb dX3_reach_7 rfl (lv_at hl 0 rfl) ?_
  refine lv_iconst (v := (-1 : Int32)) hx hb dX3_reach_8 (by decide) ?_
  obtain ⟨q9, e9, h⟩ := bd_some h
  refine g_rwV (wc := (zwX cI cC f c_lanes c_spots c_byLeaps c_load c_gone c_held c_strong c_done c_rn c_rt c_letters c_size c_rp c_seen c_refs c_inRow c_isPic)) (wc' := (zwX cI cC f c_lanes c_spots c_byLeaps c_load c_gone c_held c_strong c_done c_rn c_rt c_letters c_size c_rp c_seen q9.2 c_inRow c_isPic)) ⟨hx, hb, hml, hown, hts⟩ hE hK hA hP hD hS [0, 1, 2, 3, 4, 5, 6, 7, 8, 9, 10, 11, 12, 13, 14, 15, 16, 17, 18, 19, 20, 21, 22, 23, 24, 25, 26] rfl rfl rfl (mX3_refuse l dC dI cI cC sk f H.size (-1 : Int32) c_lanes c_spots c_byLeaps c_load c_gone c_held c_strong c_done c_rn c_rt c_letters c_size c_rp c_seen c_refs c_inRow c_isPic q9 e9) (cwV 1 hts gX3_reach_X3_refuse rfl rfl rfl (by decide +kernel) ⟨Nat.le_of_ble_eq_true rfl, Nat.le_of_ble_eq_true rfl⟩) (va_recv hK hP (ci := 3) (q0 := 0) rfl rfl) (As := [.int (-1 : Int32)]) (rest := []) rfl hl.1 rfl (Nat.le_of_ble_eq_true rfl) dX3_reach_9 ⟨Nat.zero_le _, Nat.zero_le _⟩ (fun H locs hP hD hS => ?_)
  have hP : va_P (dC, dI) vwCl (zwX cI cC f c_lanes c_spots c_byLeaps c_load c_gone c_held c_strong c_done c_rn c_rt c_letters c_size c_rp c_seen q9.2 c_inRow c_isPic) H := hP
  have hD : va_D A (zwX cI cC f c_lanes c_spots c_byLeaps c_load c_gone c_held c_strong c_done c_rn c_rt c_letters c_size c_rp c_seen q9.2 c_inRow c_isPic) := hD
  subst hQ
  exact retRW (zz := ((q9.1, c_lanes, c_spots, c_load, c_gone, c_held, c_strong, q9.2) : Int32 × AR × AR × Int32 × Int32 × Int32 × Int32 × AR)) (fun z => z.1) (fun z => (zwX cI cC f z.2.1 z.2.2.1 c_byLeaps z.2.2.2.1 z.2.2.2.2.1 z.2.2.2.2.2.1 z.2.2.2.2.2.2.1 c_done c_rn c_rt c_letters c_size c_rp c_seen z.2.2.2.2.2.2.2 c_inRow c_isPic)) hx hb hr hlocks rfl hS h rfl hP dX3_reach_12
