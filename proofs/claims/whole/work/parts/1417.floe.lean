theorem dX3_row_0 : decode cX3_row 0 = .ok (.iload_n 1, 1) := by decide +kernel
theorem dX3_row_1 : decode cX3_row 1 = .ok (.iconst 0, 1) := by decide +kernel
theorem dX3_row_2 : decode cX3_row 2 = .ok (.bipush 12, 2) := by decide +kernel
theorem dX3_row_4 : decode cX3_row 4 = .ok (.invokestatic 46, 3) := by decide +kernel
theorem dX3_row_7 : decode cX3_row 7 = .ok (.istore_n 2, 1) := by decide +kernel
theorem dX3_row_8 : decode cX3_row 8 = .ok (.iload_n 2, 1) := by decide +kernel
theorem dX3_row_9 : decode cX3_row 9 = .ok (.ifCond .ne 18, 3) := by decide +kernel
theorem dX3_row_12 : decode cX3_row 12 = .ok (.aload_n 0, 1) := by decide +kernel
theorem dX3_row_13 : decode cX3_row 13 = .ok (.getfield 138, 3) := by decide +kernel
theorem dX3_row_16 : decode cX3_row 16 = .ok (.aload_n 0, 1) := by decide +kernel
theorem dX3_row_17 : decode cX3_row 17 = .ok (.getfield 39, 3) := by decide +kernel
theorem dX3_row_20 : decode cX3_row 20 = .ok (.arraylength, 1) := by decide +kernel
theorem dX3_row_21 : decode cX3_row 21 = .ok (.if_icmp .lt 6, 3) := by decide +kernel
theorem dX3_row_24 : decode cX3_row 24 = .ok (.bipush (-6), 2) := by decide +kernel
theorem dX3_row_26 : decode cX3_row 26 = .ok (.istore_n 2, 1) := by decide +kernel
theorem dX3_row_27 : decode cX3_row 27 = .ok (.iload_n 2, 1) := by decide +kernel
theorem dX3_row_28 : decode cX3_row 28 = .ok (.ifCond .eq 9, 3) := by decide +kernel
theorem dX3_row_31 : decode cX3_row 31 = .ok (.aload_n 0, 1) := by decide +kernel
theorem dX3_row_32 : decode cX3_row 32 = .ok (.iload_n 2, 1) := by decide +kernel
theorem dX3_row_33 : decode cX3_row 33 = .ok (.invokevirtual 54, 3) := by decide +kernel
theorem dX3_row_36 : decode cX3_row 36 = .ok (.ireturn, 1) := by decide +kernel
theorem dX3_row_37 : decode cX3_row 37 = .ok (.aload_n 0, 1) := by decide +kernel
theorem dX3_row_38 : decode cX3_row 38 = .ok (.getfield 39, 3) := by decide +kernel
theorem dX3_row_41 : decode cX3_row 41 = .ok (.aload_n 0, 1) := by decide +kernel
theorem dX3_row_42 : decode cX3_row 42 = .ok (.getfield 138, 3) := by decide +kernel
theorem dX3_row_45 : decode cX3_row 45 = .ok (.iload_n 1, 1) := by decide +kernel
theorem dX3_row_46 : decode cX3_row 46 = .ok (.iastore, 1) := by decide +kernel
theorem dX3_row_47 : decode cX3_row 47 = .ok (.aload_n 0, 1) := by decide +kernel
theorem dX3_row_48 : decode cX3_row 48 = .ok (.dup, 1) := by decide +kernel
theorem dX3_row_49 : decode cX3_row 49 = .ok (.getfield 138, 3) := by decide +kernel
theorem dX3_row_52 : decode cX3_row 52 = .ok (.iconst 1, 1) := by decide +kernel
theorem dX3_row_53 : decode cX3_row 53 = .ok (.iadd, 1) := by decide +kernel
theorem dX3_row_54 : decode cX3_row 54 = .ok (.putfield 138, 3) := by decide +kernel
theorem dX3_row_57 : decode cX3_row 57 = .ok (.aload_n 0, 1) := by decide +kernel
theorem dX3_row_58 : decode cX3_row 58 = .ok (.getfield 138, 3) := by decide +kernel
theorem dX3_row_61 : decode cX3_row 61 = .ok (.ireturn, 1) := by decide +kernel
set_option maxRecDepth 20000 in
theorem ggX3_row_X3_outOf : GoodIn wsX3_row wsX3_outOf := goodIn_r _ [6] (by decide +kernel) (by decide +kernel)
set_option maxRecDepth 20000 in
theorem gX3_row_X3_outOf : GoodIn wsX3_row (va_wsS RX3 46 yX3_outOf wsX3_outOf) := goodIn_app (goodIn_of _ (by decide +kernel)) ggX3_row_X3_outOf
set_option maxRecDepth 20000 in
theorem ggX3_row_X3_refuse : GoodIn wsX3_row wsX3_refuse := goodIn_r _ [10, 11, 12, 13, 14, 15, 16, 17, 18, 19, 20] (by decide +kernel) (by decide +kernel)
set_option maxRecDepth 20000 in
theorem gX3_row_X3_refuse : GoodIn wsX3_row (wsV RX3 54 RX3 yX3_refuse wsX3_refuse) := goodIn_app (goodIn_of _ (by decide +kernel)) ggX3_row_X3_refuse
set_option maxHeartbeats 4000000 in
set_option maxRecDepth 100000 in
theorem mX3_row (l : Launch) (dC : Nat → ClassId) (dI : Nat → Nat → Nat) (cI cC : ClassId) (sk : (Nat → Nat) × (Nat → Nat)) (f : Nat → Nat) (sz : Nat) (p1 : Int32) (c_lanes : AR) (c_spots : AR) (c_byLeaps : AR) (c_load : Int32) (c_gone : Int32) (c_held : Int32) (c_strong : Int32) (c_done : Int32) (c_rn : RT) (c_rt : RT) (c_letters : AR) (c_size : Int32) (c_rp : RT) (c_seen : AR) (c_refs : AR) (c_inRow : Int32) (c_isPic : Int32) (z : Int32 × AR × AR × Int32) (h : fX3_row p1 c_seen c_refs c_inRow = some z) : cRW l yX3_row wsX3_row (RMk 1 22) sk (dC, dI) (tyz cI cC) sz (zwX cI cC f c_lanes c_spots c_byLeaps c_load c_gone c_held c_strong c_done c_rn c_rt c_letters c_size c_rp c_seen c_refs c_inRow c_isPic) (zwX cI cC f c_lanes c_spots c_byLeaps c_load c_gone c_held c_strong c_done c_rn c_rt c_letters c_size c_rp z.2.1 z.2.2.1 z.2.2.2 c_isPic) [.ref (f 0), .int p1] z.1 := by
  refine ofRW (cc := cX3_row) (maxL := 3) (ret := (some .int)) (own := RX3) (plainFor_of_name (by decide)) rfl rfl (Nat.le_of_ble_eq_true rfl) ?_
  intro p e s m args below meth c A hA hx hb hml hr hts hown hlocks hE hK hP hD hS ls hl
  generalize hQ : qRW _ _ _ _ _ _ _ = Q
  have hl : lv_has ls 3 [(0, .ref (f 0)), (1, .int p1)] := hl
  have hiX3 : ∀ w ∈ wsX30, w ∈ wsX3_row := fun w h => List.mem_cons_of_mem _ (List.mem_append_right _ h)
  have hw1 := hts (Cond.fieldLink RX3 138 "FloeToFloe" "inRow" "I") (List.mem_of_getElem? (i := 1) rfl)
  have hw2 := hts (Cond.fieldLink RX3 39 "FloeToFloe" "seen" "[I") (List.mem_of_getElem? (i := 2) rfl)
  rw [fX3_row] at h
  refine lv_iload_n hx hb dX3_row_0 rfl (lv_at hl 1 rfl) ?_
  refine lv_iconst (v := (0 : Int32)) hx hb dX3_row_1 (by decide) ?_
  refine lv_bipush (v := (12 : Int32)) hx hb dX3_row_2 (by decide) ?_
  obtain ⟨q4, e4, h⟩ := bd_some h
  refine g_roS (wc := ([] : va_W)) ⟨hx, hb, hml, hown, hts⟩ hE hK hP hS [] rfl (mX3_outOf l dC dI cI cC sk  p1 (0 : Int32) (12 : Int32) q4 e4) (va_cwS 3 hts gX3_row_X3_outOf rfl rfl rfl (by decide +kernel) ⟨Nat.le_of_ble_eq_true rfl, Nat.le_of_ble_eq_true rfl⟩) (As := [.int p1, .int (0 : Int32), .int (12 : Int32)]) (rest := []) rfl hl.1 rfl (Nat.le_of_ble_eq_true rfl) dX3_row_4 ⟨Nat.zero_le _, Nat.zero_le _⟩ (fun H locs hP hS => ?_)
  refine lv_istore_n (lv' := [(2, .int q4), (0, .ref (f 0)), (1, .int p1)]) hx hb dX3_row_7 rfl hl (by decide) rfl (fun ls hl => ?_)
  refine lv_iload_n hx hb dX3_row_8 rfl (lv_at hl 0 rfl) ?_
  refine jnW (fun (v27 : Int32) => ∀ (H : Heap) (locs : List Loc) (ls : Array Slot), va_P (dC, dI) vwCl (zwX cI cC f c_lanes c_spots c_byLeaps c_load c_gone c_held c_strong c_done c_rn c_rt c_letters c_size c_rp c_seen c_refs c_inRow c_isPic) H → va_D A (zwX cI cC f c_lanes c_spots c_byLeaps c_load c_gone c_held c_strong c_done c_rn c_rt c_letters c_size c_rp c_seen c_refs c_inRow c_isPic) → va_S A s.heap H locs → lv_has ls 3 [(0, .ref (f 0)), (1, .int p1), (2, .int v27)] → W p l e (RMk 1 22) s m args below meth c H locs 0 0 Q (F0 m 27 ls [])) h (fun v27 h H locs ls hP hD hS hl => ?_) (fun J27 j27 h => ?_)
  · refine lv_iload_n hx hb dX3_row_27 rfl (lv_at hl 2 rfl) ?_
    refine lv_if_eq (tgt := 37) hx hb dX3_row_28 (by decide) (fun c28 => ?_) (fun c28 => ?_)
    · have h := itT c28 h
      refine lv_aload_n hx hb dX3_row_37 rfl (lv_at hl 0 rfl) ?_
      refine va_get (D := (dC, dI)) (ci := 3) (v := .ref (f 25)) (C := RX3) (T := TX3) (N := 9) hx hb hts hiX3 hown hK hP 0 rfl rfl 5 (by decide) hw2 (fun _ h9 => h9) rfl dX3_row_38 ?_
      refine lv_aload_n hx hb dX3_row_41 rfl (lv_at hl 0 rfl) ?_
      refine va_get (D := (dC, dI)) (ci := 3) (v := .int c_inRow) (C := RX3) (T := TX3) (N := 9) hx hb hts hiX3 hown hK hP 0 rfl rfl 7 (by decide) hw1 (fun _ h9 => h9) rfl dX3_row_42 ?_
      refine lv_iload_n hx hb dX3_row_45 rfl (lv_at hl 1 rfl) ?_
      obtain ⟨hin, h⟩ := ck_some h
      refine va_iast hx hb hK hP hD hS 25 0 rfl rfl hin dX3_row_46 (fun H locs hP hD hS => ?_)
      have hP : va_P (dC, dI) vwCl (zwX cI cC f c_lanes c_spots c_byLeaps c_load c_gone c_held c_strong c_done c_rn c_rt c_letters c_size c_rp (upd c_seen (c_inRow).toNatClampNeg p1) c_refs c_inRow c_isPic) H := hP
      have hD : va_D A (zwX cI cC f c_lanes c_spots c_byLeaps c_load c_gone c_held c_strong c_done c_rn c_rt c_letters c_size c_rp (upd c_seen (c_inRow).toNatClampNeg p1) c_refs c_inRow c_isPic) := hD
      refine lv_aload_n hx hb dX3_row_47 rfl (lv_at hl 0 rfl) ?_
      refine lv_dup hx hb dX3_row_48 rfl ?_
      refine va_get (D := (dC, dI)) (ci := 3) (v := .int c_inRow) (C := RX3) (T := TX3) (N := 9) hx hb hts hiX3 hown hK hP 0 rfl rfl 7 (by decide) hw1 (fun _ h9 => h9) rfl dX3_row_49 ?_
      refine lv_iconst (v := (1 : Int32)) hx hb dX3_row_52 (by decide) ?_
      refine lv_iadd hx hb dX3_row_53 ?_
      refine va_put (D := (dC, dI)) (ci := 3) (v := .int (c_inRow + (1 : Int32))) (ty := .int) (C := RX3) (T := TX3) (N := 9) hx hb hts hiX3 tyX3 tyX3_ok nmX3 hown hK hP hD hS 0 rfl rfl 7 (by decide) hw1 (fun _ h9 => h9) rfl (by decide +kernel) rfl rfl (Nat.le_of_ble_eq_true rfl) dX3_row_54 (fun H locs hP hD hS => ?_)
      have hP : va_P (dC, dI) vwCl (zwX cI cC f c_lanes c_spots c_byLeaps c_load c_gone c_held c_strong c_done c_rn c_rt c_letters c_size c_rp (upd c_seen (c_inRow).toNatClampNeg p1) c_refs (c_inRow + (1 : Int32)) c_isPic) H := hP
      have hD : va_D A (zwX cI cC f c_lanes c_spots c_byLeaps c_load c_gone c_held c_strong c_done c_rn c_rt c_letters c_size c_rp (upd c_seen (c_inRow).toNatClampNeg p1) c_refs (c_inRow + (1 : Int32)) c_isPic) := hD
      refine lv_aload_n hx hb dX3_row_57 rfl (lv_at hl 0 rfl) ?_
      refine va_get (D := (dC, dI)) (ci := 3) (v := .int (c_inRow + (1 : Int32))) (C := RX3) (T := TX3) (N := 9) hx hb hts hiX3 hown hK hP 0 rfl rfl 7 (by decide) hw1 (fun _ h9 => h9) rfl dX3_row_58 ?_
      subst hQ
      exact retRW (zz := (((c_inRow + (1 : Int32)), (upd c_seen (c_inRow).toNatClampNeg p1), c_refs, (c_inRow + (1 : Int32))) : Int32 × AR × AR × Int32)) (fun z => z.1) (fun z => (zwX cI cC f c_lanes c_spots c_byLeaps c_load c_gone c_held c_strong c_done c_rn c_rt c_letters c_size c_rp z.2.1 z.2.2.1 z.2.2.2 c_isPic)) hx hb hr hlocks rfl hS h rfl hP dX3_row_61
    have h := itF c28 h
    refine lv_aload_n hx hb dX3_row_31 rfl (lv_at hl 0 rfl) ?_
    refine lv_iload_n hx hb dX3_row_32 rfl (lv_at hl 2 rfl) ?_
    obtain ⟨q33, e33, h⟩ := bd_some h
    refine g_rwA (wc := (zwX cI cC f c_lanes c_spots c_byLeaps c_load c_gone c_held c_strong c_done c_rn c_rt c_letters c_size c_rp c_seen c_refs c_inRow c_isPic)) (wc' := (zwX cI cC f c_lanes c_spots c_byLeaps c_load c_gone c_held c_strong c_done c_rn c_rt c_letters c_size c_rp c_seen q33.2 c_inRow c_isPic)) ⟨hx, hb, hml, hown, hts⟩ hE hK hA hP hD hS rfl (mX3_refuse l dC dI cI cC sk f H.size v27 c_lanes c_spots c_byLeaps c_load c_gone c_held c_strong c_done c_rn c_rt c_letters c_size c_rp c_seen c_refs c_inRow c_isPic q33 e33) (cwV 1 hts gX3_row_X3_refuse rfl rfl rfl (by decide +kernel) ⟨Nat.le_of_ble_eq_true rfl, Nat.le_of_ble_eq_true rfl⟩) (va_recv hK hP (ci := 3) (q0 := 0) rfl rfl) (As := [.int v27]) (rest := []) rfl hl.1 rfl (Nat.le_of_ble_eq_true rfl) dX3_row_33 ⟨Nat.zero_le _, Nat.zero_le _⟩ (fun H locs hP hD hS => ?_)
    have hP : va_P (dC, dI) vwCl (zwX cI cC f c_lanes c_spots c_byLeaps c_load c_gone c_held c_strong c_done c_rn c_rt c_letters c_size c_rp c_seen q33.2 c_inRow c_isPic) H := hP
    have hD : va_D A (zwX cI cC f c_lanes c_spots c_byLeaps c_load c_gone c_held c_strong c_done c_rn c_rt c_letters c_size c_rp c_seen q33.2 c_inRow c_isPic) := hD
    subst hQ
    exact retRW (zz := ((q33.1, c_seen, q33.2, c_inRow) : Int32 × AR × AR × Int32)) (fun z => z.1) (fun z => (zwX cI cC f c_lanes c_spots c_byLeaps c_load c_gone c_held c_strong c_done c_rn c_rt c_letters c_size c_rp z.2.1 z.2.2.1 z.2.2.2 c_isPic)) hx hb hr hlocks rfl hS h rfl hP dX3_row_36
  refine lv_if_ne (tgt := 27) hx hb dX3_row_9 (by decide) (fun c9 => ?_) (fun c9 => ?_)
  · have h := itF c9 h
    exact j27 _ h _ _ _ hP hD hS (lv_sub hl [1, 2, 0] rfl)
  have h := itT c9 h
  refine lv_aload_n hx hb dX3_row_12 rfl (lv_at hl 1 rfl) ?_
  refine va_get (D := (dC, dI)) (ci := 3) (v := .int c_inRow) (C := RX3) (T := TX3) (N := 9) hx hb hts hiX3 hown hK hP 0 rfl rfl 7 (by decide) hw1 (fun _ h9 => h9) rfl dX3_row_13 ?_
  refine lv_aload_n hx hb dX3_row_16 rfl (lv_at hl 1 rfl) ?_
  refine va_get (D := (dC, dI)) (ci := 3) (v := .ref (f 25)) (C := RX3) (T := TX3) (N := 9) hx hb hts hiX3 hown hK hP 0 rfl rfl 5 (by decide) hw2 (fun _ h9 => h9) rfl dX3_row_17 ?_
  refine va_alen hx hb hK hP 25 0 rfl rfl (v := (12 : Int32)) rfl dX3_row_20 ?_
  refine lv_icmp_lt (tgt := 27) hx hb dX3_row_21 (by decide) (fun c21 => ?_) (fun c21 => ?_)
  · have h := itT c21 h
    exact j27 _ h _ _ _ hP hD hS (lv_sub hl [1, 2, 0] rfl)
  have h := itF c21 h
  refine lv_bipush (v := (-6 : Int32)) hx hb dX3_row_24 (by decide) ?_
  refine lv_istore_n (lv' := [(2, .int (-6 : Int32)), (0, .ref (f 0)), (1, .int p1)]) hx hb dX3_row_26 rfl hl (by decide) rfl (fun ls hl => ?_)
  exact j27 _ h _ _ _ hP hD hS (lv_sub hl [1, 2, 0] rfl)
