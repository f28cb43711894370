theorem dX3_crowd_0 : decode cX3_crowd 0 = .ok (.iload_n 1, 1) := by decide +kernel
theorem dX3_crowd_1 : decode cX3_crowd 1 = .ok (.iconst 0, 1) := by decide +kernel
theorem dX3_crowd_2 : decode cX3_crowd 2 = .ok (.bipush 120, 2) := by decide +kernel
theorem dX3_crowd_4 : decode cX3_crowd 4 = .ok (.invokestatic 46, 3) := by decide +kernel
theorem dX3_crowd_7 : decode cX3_crowd 7 = .ok (.istore_n 2, 1) := by decide +kernel
theorem dX3_crowd_8 : decode cX3_crowd 8 = .ok (.iload_n 2, 1) := by decide +kernel
theorem dX3_crowd_9 : decode cX3_crowd 9 = .ok (.ifCond .eq 9, 3) := by decide +kernel
theorem dX3_crowd_12 : decode cX3_crowd 12 = .ok (.aload_n 0, 1) := by decide +kernel
theorem dX3_crowd_13 : decode cX3_crowd 13 = .ok (.iload_n 2, 1) := by decide +kernel
theorem dX3_crowd_14 : decode cX3_crowd 14 = .ok (.invokevirtual 54, 3) := by decide +kernel
theorem dX3_crowd_17 : decode cX3_crowd 17 = .ok (.ireturn, 1) := by decide +kernel
theorem dX3_crowd_18 : decode cX3_crowd 18 = .ok (.iconst 0, 1) := by decide +kernel
theorem dX3_crowd_19 : decode cX3_crowd 19 = .ok (.istore_n 3, 1) := by decide +kernel
theorem dX3_crowd_20 : decode cX3_crowd 20 = .ok (.iconst 0, 1) := by decide +kernel
theorem dX3_crowd_21 : decode cX3_crowd 21 = .ok (.istore 4, 2) := by decide +kernel
theorem dX3_crowd_23 : decode cX3_crowd 23 = .ok (.iload 4, 2) := by decide +kernel
theorem dX3_crowd_25 : decode cX3_crowd 25 = .ok (.aload_n 0, 1) := by decide +kernel
theorem dX3_crowd_26 : decode cX3_crowd 26 = .ok (.getfield 20, 3) := by decide +kernel
theorem dX3_crowd_29 : decode cX3_crowd 29 = .ok (.getfield 100, 3) := by decide +kernel
theorem dX3_crowd_32 : decode cX3_crowd 32 = .ok (.if_icmp .ge 25, 3) := by decide +kernel
theorem dX3_crowd_35 : decode cX3_crowd 35 = .ok (.aload_n 0, 1) := by decide +kernel
theorem dX3_crowd_36 : decode cX3_crowd 36 = .ok (.getfield 20, 3) := by decide +kernel
theorem dX3_crowd_39 : decode cX3_crowd 39 = .ok (.iload 4, 2) := by decide +kernel
theorem dX3_crowd_41 : decode cX3_crowd 41 = .ok (.iload_n 1, 1) := by decide +kernel
theorem dX3_crowd_42 : decode cX3_crowd 42 = .ok (.invokevirtual 103, 3) := by decide +kernel
theorem dX3_crowd_45 : decode cX3_crowd 45 = .ok (.ifCond .eq 6, 3) := by decide +kernel
theorem dX3_crowd_48 : decode cX3_crowd 48 = .ok (.iinc 3 1, 3) := by decide +kernel
theorem dX3_crowd_51 : decode cX3_crowd 51 = .ok (.iinc 4 1, 3) := by decide +kernel
theorem dX3_crowd_54 : decode cX3_crowd 54 = .ok (.goto (-31), 3) := by decide +kernel
theorem dX3_crowd_57 : decode cX3_crowd 57 = .ok (.iload_n 3, 1) := by decide +kernel
theorem dX3_crowd_58 : decode cX3_crowd 58 = .ok (.ireturn, 1) := by decide +kernel
set_option maxRecDepth 20000 in
theorem ggX3_crowd_X3_outOf : GoodIn wsX3_crowd wsX3_outOf := goodIn_r _ [5] (by decide +kernel) (by decide +kernel)
set_option maxRecDepth 20000 in
theorem gX3_crowd_X3_outOf : GoodIn wsX3_crowd (va_wsS RX3 46 yX3_outOf wsX3_outOf) := goodIn_app (goodIn_of _ (by decide +kernel)) ggX3_crowd_X3_outOf
set_option maxRecDepth 20000 in
theorem ggX3_crowd_X3_refuse : GoodIn wsX3_crowd wsX3_refuse := goodIn_r _ [9, 10, 40, 41, 42, 43, 44, 45, 46, 47, 48] (by decide +kernel) (by decide +kernel)
set_option maxRecDepth 20000 in
theorem gX3_crowd_X3_refuse : GoodIn wsX3_crowd (wsV RX3 54 RX3 yX3_refuse wsX3_refuse) := goodIn_app (goodIn_of _ (by decide +kernel)) ggX3_crowd_X3_refuse
set_option maxRecDepth 20000 in
theorem ggX3_crowd_X0_isShared : GoodIn wsX3_crowd wsX0_isShared := goodIn_r _ [15, 16, 17, 18, 19, 14, 20, 21, 22, 23, 24, 25, 26, 27, 28, 29, 30, 31, 32, 33, 34, 35, 36, 37, 38, 39, 49, 50, 51, 52, 53, 54, 55, 56] (by decide +kernel) (by decide +kernel)
set_option maxRecDepth 20000 in
theorem gX3_crowd_X0_isShared : GoodIn wsX3_crowd (wsV RX3 103 RX0 yX0_isShared wsX0_isShared) := goodIn_app (goodIn_of _ (by decide +kernel)) ggX3_crowd_X0_isShared
set_option maxHeartbeats 4000000 in
set_option maxRecDepth 100000 in
theorem mX3_crowd (l : Launch) (dC : Nat → ClassId) (dI : Nat → Nat → Nat) (cI cC : ClassId) (sk : (Nat → Nat) × (Nat → Nat)) (f : Nat → Nat) (sz : Nat) (p1 : Int32) (c_lanes : AR) (c_spots : AR) (c_byLeaps : AR) (c_load : Int32) (c_gone : Int32) (c_held : Int32) (c_strong : Int32) (c_done : Int32) (c_rn : RT) (c_rt : RT) (c_letters : AR) (c_size : Int32) (c_rp : RT) (c_seen : AR) (c_refs : AR) (c_inRow : Int32) (c_isPic : Int32) (z : Int32 × AR) (h : fX3_crowd p1 c_rn c_refs = some z) : cRW l yX3_crowd wsX3_crowd (RMk 4 92) sk (dC, dI) (tyz cI cC) sz (zwX cI cC f c_lanes c_spots c_byLeaps c_load c_gone c_held c_strong c_done c_rn c_rt c_letters c_size c_rp c_seen c_refs c_inRow c_isPic) (zwX cI cC f c_lanes c_spots c_byLeaps c_load c_gone c_held c_strong c_done c_rn c_rt c_letters c_size c_rp c_seen z.2 c_inRow c_isPic) [.ref (f 0), .int p1] z.1 := by
  refine ofRW (cc := cX3_crowd) (maxL := 5) (ret := (some .int)) (own := RX3) (plainFor_of_name (by decide)) rfl rfl (Nat.le_of_ble_eq_true rfl) ?_
  intro p e s m args below meth c A hA hx hb hml hr hts hown hlocks hE hK hP hD hS ls hl
  generalize hQ : qRW _ _ _ _ _ _ _ = Q
  have hl : lv_has ls 5 [(0, .ref (f 0)), (1, .int p1)] := hl
  have hiX0 : ∀ w ∈ wsX00, w ∈ wsX3_crowd := fun w h => List.mem_cons_of_mem _ (List.mem_append_right _ h)
  have hiX3 : ∀ w ∈ wsX30, w ∈ wsX3_crowd := fun w h => List.mem_cons_of_mem _ (List.mem_append_left _ (List.mem_append_right _ h))
  have hw1 := hts (Cond.fieldLink RX3 20 "FloeToFloe" "now" "LFloeToFloe$River;") (List.mem_of_getElem? (i := 1) rfl)
  have hnw2 : (Cond.fieldLinkNest "FloeToFloe" 100 "FloeToFloe$River" "floes" "I" "FloeToFloe").before args s = true := va_Nw.use rfl (hE.1 2 _ rfl)
  rw [fX3_crowd] at h
  refine lv_iload_n hx hb dX3_crowd_0 rfl (lv_at hl 1 rfl) ?_
  refine lv_iconst (v := (0 : Int32)) hx hb dX3_crowd_1 (by decide) ?_
  refine lv_bipush (v := (120 : Int32)) hx hb dX3_crowd_2 (by decide) ?_
  obtain ⟨q4, e4, h⟩ := bd_some h
  refine g_roS (wc := ([] : va_W)) ⟨hx, hb, hml, hown, hts⟩ hE hK hP hS [] rfl (mX3_outOf l dC dI cI cC sk  p1 (0 : Int32) (120 : Int32) q4 e4) (va_cwS 3 hts gX3_crowd_X3_outOf rfl rfl rfl (by decide +kernel) ⟨Nat.le_of_ble_eq_true rfl, Nat.le_of_ble_eq_true rfl⟩) (As := [.int p1, .int (0 : Int32), .int (120 : Int32)]) (rest := []) rfl hl.1 rfl (Nat.le_of_ble_eq_true rfl) dX3_crowd_4 ⟨Nat.zero_le _, Nat.zero_le _⟩ (fun H locs hP hS => ?_)
  refine lv_istore_n (lv' := [(2, .int q4), (0, .ref (f 0)), (1, .int p1)]) hx hb dX3_crowd_7 rfl hl (by decide) rfl (fun ls hl => ?_)
  refine lv_iload_n hx hb dX3_crowd_8 rfl (lv_at hl 0 rfl) ?_
  refine lv_if_eq (tgt := 18) hx hb dX3_crowd_9 (by decide) (fun c9 => ?_) (fun c9 => ?_)
  · have h := itT c9 h
    refine lv_iconst (v := (0 : Int32)) hx hb dX3_crowd_18 (by decide) ?_
    refine lv_istore_n (lv' := [(3, .int (0 : Int32)), (2, .int q4), (0, .ref (f 0)), (1, .int p1)]) hx hb dX3_crowd_19 rfl hl (by decide) rfl (fun ls hl => ?_)
    refine lv_iconst (v := (0 : Int32)) hx hb dX3_crowd_20 (by decide) ?_
    refine lv_istore (lv' := [(4, .int (0 : Int32)), (3, .int (0 : Int32)), (2, .int q4), (0, .ref (f 0)), (1, .int p1)]) hx hb dX3_crowd_21 hl (by decide) rfl (fun ls hl => ?_)
    have L23 : ∀ (K23 : Int32 → Option (Int32 × AR)), (∀ (k23_3 : Int32), K23 k23_3 = some z → ∀ (H : Heap) (locs : List Loc) (ls : Array Slot), va_P (dC, dI) vwCl (zwX cI cC f c_lanes c_spots c_byLeaps c_load c_gone c_held c_strong c_done c_rn c_rt c_letters c_size c_rp c_seen c_refs c_inRow c_isPic) H → va_D A (zwX cI cC f c_lanes c_spots c_byLeaps c_load c_gone c_held c_strong c_done c_rn c_rt c_letters c_size c_rp c_seen c_refs c_inRow c_isPic) → va_S A s.heap H locs → lv_has ls 5 [(3, .int k23_3)] → W p l e (RMk 4 92) s m args below meth c H locs 0 0 Q (F0 m 57 ls [])) → ∀ (n : Nat) (x23_3 : Int32) (x23_4 : Int32), fX3_crowd_L23 c_rn p1 K23 n x23_3 x23_4 = some z → ∀ (H : Heap) (locs : List Loc) (ls : Array Slot), va_P (dC, dI) vwCl (zwX cI cC f c_lanes c_spots c_byLeaps c_load c_gone c_held c_strong c_done c_rn c_rt c_letters c_size c_rp c_seen c_refs c_inRow c_isPic) H → va_D A (zwX cI cC f c_lanes c_spots c_byLeaps c_load c_gone c_held c_strong c_done c_rn c_rt c_letters c_size c_rp c_seen c_refs c_inRow c_isPic) → va_S A s.heap H locs → lv_has ls 5 [(0, .ref (f 0)), (1, .int p1), (3, .int x23_3), (4, .int x23_4)] → W p l e (RMk 4 92) s m args below meth c H locs 0 0 Q (F0 m 23 ls []) := by
      intro K23 kx23 n
      induction n with
      | zero => intro x23_3 x23_4 h; rw [fX3_crowd_L23] at h; cases h
      | succ n ih23 =>
        intro x23_3 x23_4 h H locs ls hP hD hS hl
        rw [fX3_crowd_L23] at h
        refine lv_iload hx hb dX3_crowd_23 (lv_at hl 3 rfl) ?_
        refine lv_aload_n hx hb dX3_crowd_25 rfl (lv_at hl 0 rfl) ?_
        refine va_get (D := (dC, dI)) (ci := 3) (v := .ref (f 5)) (C := RX3) (T := TX3) (N := 9) hx hb hts hiX3 hown hK hP 0 rfl rfl 1 (by decide) hw1 (fun _ h9 => h9) rfl dX3_crowd_26 ?_
        refine va_getN (D := (dC, dI)) (ci := 0) (v := .int (R_floes c_rn)) (C := RX0) (T := TX0) (N := 8) hx hb hts hiX0 hown hK hP 5 rfl rfl 6 (by decide) hnw2 (fun _ h9 => h9) rfl dX3_crowd_29 ?_
        refine lv_icmp_ge (tgt := 57) hx hb dX3_crowd_32 (by decide) (fun c32 => ?_) (fun c32 => ?_)
        · have h := itT c32 h
          exact kx23 _ h _ _ _ hP hD hS (lv_sub hl [2] rfl)
        have h := itF c32 h
        refine lv_aload_n hx hb dX3_crowd_35 rfl (lv_at hl 0 rfl) ?_
        refine va_get (D := (dC, dI)) (ci := 3) (v := .ref (f 5)) (C := RX3) (T := TX3) (N := 9) hx hb hts hiX3 hown hK hP 0 rfl rfl 1 (by decide) hw1 (fun _ h9 => h9) rfl dX3_crowd_36 ?_
        refine lv_iload hx hb dX3_crowd_39 (lv_at hl 3 rfl) ?_
        refine lv_iload_n hx hb dX3_crowd_41 rfl (lv_at hl 1 rfl) ?_
        obtain ⟨q42, e42, h⟩ := bd_some h
        refine g_roV (wc := (zwR cI cC (fun k => f (k + 5)) c_rn)) ⟨hx, hb, hml, hown, hts⟩ hE hK hP hS [5, 6, 7, 8, 9, 10] rfl (mX0_isShared l dC dI cI cC sk (fun k => f (k + 5)) x23_4 p1 c_rn q42 e42) (cwV 2 hts gX3_crowd_X0_isShared rfl rfl rfl (by decide +kernel) ⟨Nat.le_of_ble_eq_true rfl, Nat.le_of_ble_eq_true rfl⟩) (va_recv hK hP (ci := 0) (q0 := 5) rfl rfl) (As := [.int x23_4, .int p1]) (rest := []) rfl hl.1 rfl (Nat.le_of_ble_eq_true rfl) dX3_crowd_42 ⟨Nat.zero_le _, Nat.zero_le _⟩ (fun H locs hP hS => ?_)
        refine lv_if_eq (tgt := 51) hx hb dX3_crowd_45 (by decide) (fun c45 => ?_) (fun c45 => ?_)
        · have h := itT c45 h
          refine lv_iinc (v := (x23_4 + (1 : Int32))) (lv' := [(4, .int (x23_4 + (1 : Int32))), (0, .ref (f 0)), (1, .int p1), (3, .int x23_3)]) hx hb dX3_crowd_51 hl (k := 3) rfl rfl (by decide) rfl (fun ls hl => ?_)
          refine lv_goto (tgt := 23) hx hb dX3_crowd_54 (by decide) ?_
          exact ih23 _ _ h _ _ _ hP hD hS (lv_sub hl [1, 2, 3, 0] rfl)
        have h := itF c45 h
        refine lv_iinc (v := (x23_3 + (1 : Int32))) (lv' := [(3, .int (x23_3 + (1 : Int32))), (0, .ref (f 0)), (1, .int p1), (4, .int x23_4)]) hx hb dX3_crowd_48 hl (k := 2) rfl rfl (by decide) rfl (fun ls hl => ?_)
        refine lv_iinc (v := (x23_4 + (1 : Int32))) (lv' := [(4, .int (x23_4 + (1 : Int32))), (3, .int (x23_3 + (1 : Int32))), (0, .ref (f 0)), (1, .int p1)]) hx hb dX3_crowd_51 hl (k := 3) rfl rfl (by decide) rfl (fun ls hl => ?_)
        refine lv_goto (tgt := 23) hx hb dX3_crowd_54 (by decide) ?_
        exact ih23 _ _ h _ _ _ hP hD hS (lv_sub hl [2, 3, 1, 0] rfl)
    refine L23 _ (fun k23_3 h H locs ls hP hD hS hl => ?_) _ _ _ h _ _ _ hP hD hS (lv_sub hl [3, 4, 1, 0] rfl)
    refine lv_iload_n hx hb dX3_crowd_57 rfl (lv_at hl 0 rfl) ?_
    subst hQ
    exact retRW (zz := ((k23_3, c_refs) : Int32 × AR)) (fun z => z.1) (fun z => (zwX cI cC f c_lanes c_spots c_byLeaps c_load c_gone c_held c_strong c_done c_rn c_rt c_letters c_size c_rp c_seen z.2 c_inRow c_isPic)) hx hb hr hlocks rfl hS h rfl hP dX3_crowd_58
  have h := itF c9 h
  refine lv_aload_n hx hb dX3_crowd_12 rfl (lv_at hl 1 rfl) ?_
  refine lv_iload_n hx hb dX3_crowd_13 rfl (lv_at hl 0 rfl) ?_
  obtain ⟨q14, e14, h⟩ := bd_some h
  refine g_rwA (wc := (zwX cI cC f c_lanes c_spots c_byLeaps c_load c_gone c_held c_strong c_done c_rn c_rt c_letters c_size c_rp c_seen c_refs c_inRow c_isPic)) (wc' := (zwX cI cC f c_lanes c_spots c_byLeaps c_load c_gone c_held c_strong c_done c_rn c_rt c_letters c_size c_rp c_seen q14.2 c_inRow c_isPic)) ⟨hx, hb, hml, hown, hts⟩ hE hK hA hP hD hS rfl (mX3_refuse l dC dI cI cC sk f H.size q4 c_lanes c_spots c_byLeaps c_load c_gone c_held c_strong c_done c_rn c_rt c_letters c_size c_rp c_seen c_refs c_inRow c_isPic q14 e14) (cwV 1 hts gX3_crowd_X3_refuse rfl rfl rfl (by decide +kernel) ⟨Nat.le_of_ble_eq_true rfl, Nat.le_of_ble_eq_true rfl⟩) (va_recv hK hP (ci := 3) (q0 := 0) rfl rfl) (As := [.int q4]) (rest := []) rfl hl.1 rfl (Nat.le_of_ble_eq_true rfl) dX3_crowd_14 ⟨Nat.zero_le _, Nat.zero_le _⟩ (fun H locs hP hD hS => ?_)
  have hP : va_P (dC, dI) vwCl (zwX cI cC f c_lanes c_spots c_byLeaps c_load c_gone c_held c_strong c_done c_rn c_rt c_letters c_size c_rp c_seen q14.2 c_inRow c_isPic) H := hP
  have hD : va_D A (zwX cI cC f c_lanes c_spots c_byLeaps c_load c_gone c_held c_strong c_done c_rn c_rt c_letters c_size c_rp c_seen q14.2 c_inRow c_isPic) := hD
  subst hQ
  exact retRW (zz := ((q14.1, q14.2) : Int32 × AR)) (fun z => z.1) (fun z => (zwX cI cC f c_lanes c_spots c_byLeaps c_load c_gone c_held c_strong c_done c_rn c_rt c_letters c_size c_rp c_seen z.2 c_inRow c_isPic)) hx hb hr hlocks rfl hS h rfl hP dX3_crowd_17
theorem dX3_faultOfWalker_0 : decode cX3_faultOfWalker 0 = .ok (.iload_n 1, 1) := by decide +kernel
theorem dX3_faultOfWalker_1 : decode cX3_faultOfWalker 1 = .ok (.invokestatic 116, 3) := by decide +kernel
theorem dX3_faultOfWalker_4 : decode cX3_faultOfWalker 4 = .ok (.ifCond .eq 13, 3) := by decide +kernel
theorem dX3_faultOfWalker_7 : decode cX3_faultOfWalker 7 = .ok (.iload_n 0, 1) := by decide +kernel
theorem dX3_faultOfWalker_8 : decode cX3_faultOfWalker 8 = .ok (.iconst 1, 1) := by decide +kernel
theorem dX3_faultOfWalker_9 : decode cX3_faultOfWalker 9 = .ok (.bipush 9, 2) := by decide +kernel
theorem dX3_faultOfWalker_11 : decode cX3_faultOfWalker 11 = .ok (.invokestatic 46, 3) := by decide +kernel
theorem dX3_faultOfWalker_14 : decode cX3_faultOfWalker 14 = .ok (.goto 4, 3) := by decide +kernel
theorem dX3_faultOfWalker_17 : decode cX3_faultOfWalker 17 = .ok (.iconst (-1), 1) := by decide +kernel
theorem dX3_faultOfWalker_18 : decode cX3_faultOfWalker 18 = .ok (.ireturn, 1) := by decide +kernel
set_option maxRecDepth 20000 in
theorem ggX3_faultOfWalker_X3_isCell : GoodIn wsX3_faultOfWalker wsX3_isCell := goodIn_r _ [4] (by decide +kernel) (by decide +kernel)
set_option maxRecDepth 20000 in
theorem gX3_faultOfWalker_X3_isCell : GoodIn wsX3_faultOfWalker (va_wsS RX3 116 yX3_isCell wsX3_isCell) := goodIn_app (goodIn_of _ (by decide +kernel)) ggX3_faultOfWalker_X3_isCell
set_option maxRecDepth 20000 in
theorem ggX3_faultOfWalker_X3_outOf : GoodIn wsX3_faultOfWalker wsX3_outOf := goodIn_r _ [7] (by decide +kernel) (by decide +kernel)
set_option maxRecDepth 20000 in
theorem gX3_faultOfWalker_X3_outOf : GoodIn wsX3_faultOfWalker (va_wsS RX3 46 yX3_outOf wsX3_outOf) := goodIn_app (goodIn_of _ (by decide +kernel)) ggX3_faultOfWalker_X3_outOf
set_option maxHeartbeats 4000000 in
set_option maxRecDepth 100000 in
theorem mX3_faultOfWalker (l : Launch) (dC : Nat → ClassId) (dI : Nat → Nat → Nat) (cI cC : ClassId) (sk : (Nat → Nat) × (Nat → Nat))  (p0 : Int32) (p1 : Int32)  (z : Int32) (h : fX3_faultOfWalker p0 p1 = some z) : cRO l yX3_faultOfWalker wsX3_faultOfWalker (RMk 1 22) sk (dC, dI) (tyz cI cC) ([] : va_W) [.int p0, .int p1] z := by
  refine ofRO (cc := cX3_faultOfWalker) (maxL := 2) (ret := (some .int)) (own := RX3) (plainFor_of_name (by decide)) rfl rfl (Nat.le_of_ble_eq_true rfl) ?_
  intro p e s m args below meth c hx hb hml hr hts hown hlocks hE hK hP hS ls hl
  generalize hQ : qRO _ _ _ _ = Q
  have hl : lv_has ls 2 [(0, .int p0), (1, .int p1)] := hl
  rw [fX3_faultOfWalker] at h
  refine lv_iload_n hx hb dX3_faultOfWalker_0 rfl (lv_at hl 1 rfl) ?_
  obtain ⟨q1, e1, h⟩ := bd_some h
  refine g_roS (wc := ([] : va_W)) ⟨hx, hb, hml, hown, hts⟩ hE hK hP hS [] rfl (mX3_isCell l dC dI cI cC sk  p1 q1 e1) (va_cwS 1 hts gX3_faultOfWalker_X3_isCell rfl rfl rfl (by decide +kernel) ⟨Nat.le_of_ble_eq_true rfl, Nat.le_of_ble_eq_true rfl⟩) (As := [.int p1]) (rest := []) rfl hl.1 rfl (Nat.le_of_ble_eq_true rfl) dX3_faultOfWalker_1 ⟨Nat.zero_le _, Nat.zero_le _⟩ (fun H locs hP hS => ?_)
  refine lv_if_eq (tgt := 17) hx hb dX3_faultOfWalker_4 (by decide) (fun c4 => ?_) (fun c4 => ?_)
  · have h := itT c4 h
    refine lv_iconst (v := (-1 : Int32)) hx hb dX3_faultOfWalker_17 (by decide) ?_
    subst hQ
    exact retRO hx hb hr hlocks rfl hS h dX3_faultOfWalker_18
  have h := itF c4 h
  refine lv_iload_n hx hb dX3_faultOfWalker_7 rfl (lv_at hl 0 rfl) ?_
  refine lv_iconst (v := (1 : Int32)) hx hb dX3_faultOfWalker_8 (by decide) ?_
  refine lv_bipush (v := (9 : Int32)) hx hb dX3_faultOfWalker_9 (by decide) ?_
  obtain ⟨q11, e11, h⟩ := bd_some h
  refine g_roS (wc := ([] : va_W)) ⟨hx, hb, hml, hown, hts⟩ hE hK hP hS [] rfl (mX3_outOf l dC dI cI cC sk  p0 (1 : Int32) (9 : Int32) q11 e11) (va_cwS 3 hts gX3_faultOfWalker_X3_outOf rfl rfl rfl (by decide +kernel) ⟨Nat.le_of_ble_eq_true rfl, Nat.le_of_ble_eq_true rfl⟩) (As := [.int p0, .int (1 : Int32), .int (9 : Int32)]) (rest := []) rfl hl.1 rfl (Nat.le_of_ble_eq_true rfl) dX3_faultOfWalker_11 ⟨Nat.zero_le _, Nat.zero_le _⟩ (fun H locs hP hS => ?_)
  refine lv_goto (tgt := 18) hx hb dX3_faultOfWalker_14 (by decide) ?_
  subst hQ
  exact retRO hx hb hr hlocks rfl hS h dX3_faultOfWalker_18
