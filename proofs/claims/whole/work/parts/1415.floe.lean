theorem dX3_from_0 : decode cX3_from 0 = .ok (.iload_n 1, 1) := by decide +kernel
theorem dX3_from_1 : decode cX3_from 1 = .ok (.iconst 1, 1) := by decide +kernel
theorem dX3_from_2 : decode cX3_from 2 = .ok (.bipush 9, 2) := by decide +kernel
theorem dX3_from_4 : decode cX3_from 4 = .ok (.invokestatic 46, 3) := by decide +kernel
theorem dX3_from_7 : decode cX3_from 7 = .ok (.istore_n 2, 1) := by decide +kernel
theorem dX3_from_8 : decode cX3_from 8 = .ok (.iload_n 2, 1) := by decide +kernel
theorem dX3_from_9 : decode cX3_from 9 = .ok (.ifCond .eq 9, 3) := by decide +kernel
theorem dX3_from_12 : decode cX3_from 12 = .ok (.aload_n 0, 1) := by decide +kernel
theorem dX3_from_13 : decode cX3_from 13 = .ok (.iload_n 2, 1) := by decide +kernel
theorem dX3_from_14 : decode cX3_from 14 = .ok (.invokevirtual 54, 3) := by decide +kernel
theorem dX3_from_17 : decode cX3_from 17 = .ok (.ireturn, 1) := by decide +kernel
theorem dX3_from_18 : decode cX3_from 18 = .ok (.iconst 0, 1) := by decide +kernel
theorem dX3_from_19 : decode cX3_from 19 = .ok (.istore_n 3, 1) := by decide +kernel
theorem dX3_from_20 : decode cX3_from 20 = .ok (.iconst 0, 1) := by decide +kernel
theorem dX3_from_21 : decode cX3_from 21 = .ok (.istore 4, 2) := by decide +kernel
theorem dX3_from_23 : decode cX3_from 23 = .ok (.iload 4, 2) := by decide +kernel
theorem dX3_from_25 : decode cX3_from 25 = .ok (.bipush 10, 2) := by decide +kernel
theorem dX3_from_27 : decode cX3_from 27 = .ok (.if_icmp .ge 28, 3) := by decide +kernel
theorem dX3_from_30 : decode cX3_from 30 = .ok (.aload_n 0, 1) := by decide +kernel
theorem dX3_from_31 : decode cX3_from 31 = .ok (.iload_n 1, 1) := by decide +kernel
theorem dX3_from_32 : decode cX3_from 32 = .ok (.iload 4, 2) := by decide +kernel
theorem dX3_from_34 : decode cX3_from 34 = .ok (.iconst 0, 1) := by decide +kernel
theorem dX3_from_35 : decode cX3_from 35 = .ok (.iconst 0, 1) := by decide +kernel
theorem dX3_from_36 : decode cX3_from 36 = .ok (.invokevirtual 129, 3) := by decide +kernel
theorem dX3_from_39 : decode cX3_from 39 = .ok (.ifCond .eq 10, 3) := by decide +kernel
theorem dX3_from_42 : decode cX3_from 42 = .ok (.iload_n 3, 1) := by decide +kernel
theorem dX3_from_43 : decode cX3_from 43 = .ok (.iconst 1, 1) := by decide +kernel
theorem dX3_from_44 : decode cX3_from 44 = .ok (.iload 4, 2) := by decide +kernel
theorem dX3_from_46 : decode cX3_from 46 = .ok (.ishl, 1) := by decide +kernel
theorem dX3_from_47 : decode cX3_from 47 = .ok (.ior, 1) := by decide +kernel
theorem dX3_from_48 : decode cX3_from 48 = .ok (.istore_n 3, 1) := by decide +kernel
theorem dX3_from_49 : decode cX3_from 49 = .ok (.iinc 4 1, 3) := by decide +kernel
theorem dX3_from_52 : decode cX3_from 52 = .ok (.goto (-29), 3) := by decide +kernel
theorem dX3_from_55 : decode cX3_from 55 = .ok (.iload_n 3, 1) := by decide +kernel
theorem dX3_from_56 : decode cX3_from 56 = .ok (.ireturn, 1) := by decide +kernel
set_option maxRecDepth 20000 in
theorem ggX3_from_X3_outOf : GoodIn wsX3_from wsX3_outOf := goodIn_r _ [4] (by decide +kernel) (by decide +kernel)
set_option maxRecDepth 20000 in
theorem gX3_from_X3_outOf : GoodIn wsX3_from (va_wsS RX3 46 yX3_outOf wsX3_outOf) := goodIn_app (goodIn_of _ (by decide +kernel)) ggX3_from_X3_outOf
set_option maxRecDepth 20000 in
theorem ggX3_from_X3_refuse : GoodIn wsX3_from wsX3_refuse := goodIn_r _ [8, 9, 106, 107, 108, 109, 110, 111, 112, 113, 114] (by decide +kernel) (by decide +kernel)
set_option maxRecDepth 20000 in
theorem gX3_from_X3_refuse : GoodIn wsX3_from (wsV RX3 54 RX3 yX3_refuse wsX3_refuse) := goodIn_app (goodIn_of _ (by decide +kernel)) ggX3_from_X3_refuse
set_option maxRecDepth 20000 in
theorem ggX3_from_X3_comesOver : GoodIn wsX3_from wsX3_comesOver := goodIn_r _ [13, 14, 15, 16, 17, 18, 19, 20, 21, 22, 23, 24, 25, 26, 27, 28, 3, 29, 30, 31, 32, 33, 34, 35, 36, 37, 38, 39, 40, 41, 42, 43, 44, 45, 46, 47, 48, 49, 50, 51, 52, 53, 54, 55, 56, 57, 58, 59, 60, 61, 62, 63, 64, 65, 66, 67, 68, 69, 70, 71, 72, 73, 74, 75, 76, 77, 78, 79, 80, 81, 82, 83, 84, 85, 86, 87, 88, 89, 90, 91, 92, 93, 94, 95, 96, 97, 98, 99, 100, 101, 102, 103, 104, 105, 106, 107, 108, 109, 110, 111, 112, 113, 114, 115, 116, 117, 118, 119, 120, 121, 122, 123, 124, 125, 126, 127, 128, 129, 130, 131] (by decide +kernel) (by decide +kernel)
set_option maxRecDepth 20000 in
theorem gX3_from_X3_comesOver : GoodIn wsX3_from (wsV RX3 129 RX3 yX3_comesOver wsX3_comesOver) := goodIn_app (goodIn_of _ (by decide +kernel)) ggX3_from_X3_comesOver
set_option maxHeartbeats 4000000 in
set_option maxRecDepth 100000 in
theorem mX3_from (l : Launch) (dC : Nat → ClassId) (dI : Nat → Nat → Nat) (cI cC : ClassId) (sk : (Nat → Nat) × (Nat → Nat)) (f : Nat → Nat) (sz : Nat) (p1 : Int32) (c_lanes : AR) (c_spots : AR) (c_byLeaps : AR) (c_load : Int32) (c_gone : Int32) (c_held : Int32) (c_strong : Int32) (c_done : Int32) (c_rn : RT) (c_rt : RT) (c_letters : AR) (c_size : Int32) (c_rp : RT) (c_seen : AR) (c_refs : AR) (c_inRow : Int32) (c_isPic : Int32) (z : Int32 × AR × AR × Int32 × Int32 × Int32 × Int32 × AR) (h : fX3_from p1 c_lanes c_spots c_load c_gone c_held c_strong c_rn c_refs = some z) : cRW l yX3_from wsX3_from (RMk 6 141) sk (dC, dI) (tyz cI cC) sz (zwX cI cC f c_lanes c_spots c_byLeaps c_load c_gone c_held c_strong c_done c_rn c_rt c_letters c_size c_rp c_seen c_refs c_inRow c_isPic) (zwX cI cC f z.2.1 z.2.2.1 c_byLeaps z.2.2.2.1 z.2.2.2.2.1 z.2.2.2.2.2.1 z.2.2.2.2.2.2.1 c_done c_rn c_rt c_letters c_size c_rp c_seen z.2.2.2.2.2.2.2 c_inRow c_isPic) [.ref (f 0), .int p1] z.1 := by
  refine ofRW (cc := cX3_from) (maxL := 5) (ret := (some .int)) (own := RX3) (plainFor_of_name (by decide)) rfl rfl (Nat.le_of_ble_eq_true rfl) ?_
  intro p e s m args below meth c A hA hx hb hml hr hts hown hlocks hE hK hP hD hS ls hl
  generalize hQ : qRW _ _ _ _ _ _ _ = Q
  have hl : lv_has ls 5 [(0, .ref (f 0)), (1, .int p1)] := hl
  rw [fX3_from] at h
  refine lv_iload_n hx hb dX3_from_0 rfl (lv_at hl 1 rfl) ?_
  refine lv_iconst (v := (1 : Int32)) hx hb dX3_from_1 (by decide) ?_
  refine lv_bipush (v := (9 : Int32)) hx hb dX3_from_2 (by decide) ?_
  obtain ⟨q4, e4, h⟩ := bd_some h
  refine g_roS (wc := ([] : va_W)) ⟨hx, hb, hml, hown, hts⟩ hE hK hP hS [] rfl (mX3_outOf l dC dI cI cC sk  p1 (1 : Int32) (9 : Int32) q4 e4) (va_cwS 3 hts gX3_from_X3_outOf rfl rfl rfl (by decide +kernel) ⟨Nat.le_of_ble_eq_true rfl, Nat.le_of_ble_eq_true rfl⟩) (As := [.int p1, .int (1 : Int32), .int (9 : Int32)]) (rest := []) rfl hl.1 rfl (Nat.le_of_ble_eq_true rfl) dX3_from_4 ⟨Nat.zero_le _, Nat.zero_le _⟩ (fun H locs hP hS => ?_)
  refine lv_istore_n (lv' := [(2, .int q4), (0, .ref (f 0)), (1, .int p1)]) hx hb dX3_from_7 rfl hl (by decide) rfl (fun ls hl => ?_)
  refine lv_iload_n hx hb dX3_from_8 rfl (lv_at hl 0 rfl) ?_
  refine lv_if_eq (tgt := 18) hx hb dX3_from_9 (by decide) (fun c9 => ?_) (fun c9 => ?_)
  · have h := itT c9 h
    refine lv_iconst (v := (0 : Int32)) hx hb dX3_from_18 (by decide) ?_
    refine lv_istore_n (lv' := [(3, .int (0 : Int32)), (2, .int q4), (0, .ref (f 0)), (1, .int p1)]) hx hb dX3_from_19 rfl hl (by decide) rfl (fun ls hl => ?_)
    refine lv_iconst (v := (0 : Int32)) hx hb dX3_from_20 (by decide) ?_
    refine lv_istore (lv' := [(4, .int (0 : Int32)), (3, .int (0 : Int32)), (2, .int q4), (0, .ref (f 0)), (1, .int p1)]) hx hb dX3_from_21 hl (by decide) rfl (fun ls hl => ?_)
    have L23 : ∀ (K23 : Int32 → AR → AR → Int32 → Int32 → Int32 → Int32 → Option (Int32 × AR × AR × Int32 × Int32 × Int32 × Int32 × AR)), (∀ (k23_3 : Int32) (k23_lanes : AR) (k23_spots : AR) (k23_load : Int32) (k23_gone : Int32) (k23_held : Int32) (k23_strong : Int32), K23 k23_3 k23_lanes k23_spots k23_load k23_gone k23_held k23_strong = some z → ∀ (H : Heap) (locs : List Loc) (ls : Array Slot), va_P (dC, dI) vwCl (zwX cI cC f k23_lanes k23_spots c_byLeaps k23_load k23_gone k23_held k23_strong c_done c_rn c_rt c_letters c_size c_rp c_seen c_refs c_inRow c_isPic) H → va_D A (zwX cI cC f k23_lanes k23_spots c_byLeaps k23_load k23_gone k23_held k23_strong c_done c_rn c_rt c_letters c_size c_rp c_seen c_refs c_inRow c_isPic) → va_S A s.heap H locs → lv_has ls 5 [(3, .int k23_3)] → W p l e (RMk 6 141) s m args below meth c H locs 0 0 Q (F0 m 55 ls [])) → ∀ (n : Nat) (x23_3 : Int32) (x23_4 : Int32) (x23_lanes : AR) (x23_spots : AR) (x23_load : Int32) (x23_gone : Int32) (x23_held : Int32) (x23_strong : Int32), fX3_from_L23 c_rn p1 K23 n x23_3 x23_4 x23_lanes x23_spots x23_load x23_gone x23_held x23_strong = some z → ∀ (H : Heap) (locs : List Loc) (ls : Array Slot), va_P (dC, dI) vwCl (zwX cI cC f x23_lanes x23_spots c_byLeaps x23_load x23_gone x23_held x23_strong c_done c_rn c_rt c_letters c_size c_rp c_seen c_refs c_inRow c_isPic) H → va_D A (zwX cI cC f x23_lanes x23_spots c_byLeaps x23_load x23_gone x23_held x23_strong c_done c_rn c_rt c_letters c_size c_rp c_seen c_refs c_inRow c_isPic) → va_S A s.heap H locs → lv_has ls 5 [(0, .ref (f 0)), (1, .int p1), (3, .int x23_3), (4, .int x23_4)] → W p l e (RMk 6 141) s m args below meth c H locs 0 0 Q (F0 m 23 ls []) := by
      intro K23 kx23 n
      induction n with
      | zero => intro x23_3 x23_4 x23_lanes x23_spots x23_load x23_gone x23_held x23_strong h; rw [fX3_from_L23] at h; cases h
      | succ n ih23 =>
        intro x23_3 x23_4 x23_lanes x23_spots x23_load x23_gone x23_held x23_strong h H locs ls hP hD hS hl
        rw [fX3_from_L23] at h
        refine lv_iload hx hb dX3_from_23 (lv_at hl 3 rfl) ?_
        refine lv_bipush (v := (10 : Int32)) hx hb dX3_from_25 (by decide) ?_
        refine lv_icmp_ge (tgt := 55) hx hb dX3_from_27 (by decide) (fun c27 => ?_) (fun c27 => ?_)
        · have h := itT c27 h
          exact kx23 _ _ _ _ _ _ _ h _ _ _ hP hD hS (lv_sub hl [2] rfl)
        have h := itF c27 h
        refine lv_aload_n hx hb dX3_from_30 rfl (lv_at hl 0 rfl) ?_
        refine lv_iload_n hx hb dX3_from_31 rfl (lv_at hl 1 rfl) ?_
        refine lv_iload hx hb dX3_from_32 (lv_at hl 3 rfl) ?_
        refine lv_iconst (v := (0 : Int32)) hx hb dX3_from_34 (by decide) ?_
        refine lv_iconst (v := (0 : Int32)) hx hb dX3_from_35 (by decide) ?_
        obtain ⟨q36, e36, h⟩ := bd_some h
        refine g_rwA (wc := (zwX cI cC f x23_lanes x23_spots c_byLeaps x23_load x23_gone x23_held x23_strong c_done c_rn c_rt c_letters c_size c_rp c_seen c_refs c_inRow c_isPic)) (wc' := (zwX cI cC f q36.2.1 q36.2.2.1 c_byLeaps q36.2.2.2.1 q36.2.2.2.2.1 q36.2.2.2.2.2.1 q36.2.2.2.2.2.2 c_done c_rn c_rt c_letters c_size c_rp c_seen c_refs c_inRow c_isPic)) ⟨hx, hb, hml, hown, hts⟩ hE hK hA hP hD hS rfl (mX3_comesOver l dC dI cI cC sk f H.size p1 x23_4 (0 : Int32) (0 : Int32) x23_lanes x23_spots c_byLeaps x23_load x23_gone x23_held x23_strong c_done c_rn c_rt c_letters c_size c_rp c_seen c_refs c_inRow c_isPic q36 e36) (cwV 4 hts gX3_from_X3_comesOver rfl rfl rfl (by decide +kernel) ⟨Nat.le_of_ble_eq_true rfl, Nat.le_of_ble_eq_true rfl⟩) (va_recv hK hP (ci := 3) (q0 := 0) rfl rfl) (As := [.int p1, .int x23_4, .int (0 : Int32), .int (0 : Int32)]) (rest := []) rfl hl.1 rfl (Nat.le_of_ble_eq_true rfl) dX3_from_36 ⟨Nat.zero_le _, Nat.zero_le _⟩ (fun H locs hP hD hS => ?_)
        have hP : va_P (dC, dI) vwCl (zwX cI cC f q36.2.1 q36.2.2.1 c_byLeaps q36.2.2.2.1 q36.2.2.2.2.1 q36.2.2.2.2.2.1 q36.2.2.2.2.2.2 c_done c_rn c_rt c_letters c_size c_rp c_seen c_refs c_inRow c_isPic) H := hP
        have hD : va_D A (zwX cI cC f q36.2.1 q36.2.2.1 c_byLeaps q36.2.2.2.1 q36.2.2.2.2.1 q36.2.2.2.2.2.1 q36.2.2.2.2.2.2 c_done c_rn c_rt c_letters c_size c_rp c_seen c_refs c_inRow c_isPic) := hD
        refine lv_if_eq (tgt := 49) hx hb dX3_from_39 (by decide) (fun c39 => ?_) (fun c39 => ?_)
        · have h := itT c39 h
          refine lv_iinc (v := (x23_4 + (1 : Int32))) (lv' := [(4, .int (x23_4 + (1 : Int32))), (0, .ref (f 0)), (1, .int p1), (3, .int x23_3)]) hx hb dX3_from_49 hl (k := 3) rfl rfl (by decide) rfl (fun ls hl => ?_)
          refine lv_goto (tgt := 23) hx hb dX3_from_52 (by decide) ?_
          exact ih23 _ _ _ _ _ _ _ _ h _ _ _ hP hD hS (lv_sub hl [1, 2, 3, 0] rfl)
        have h := itF c39 h
        refine lv_iload_n hx hb dX3_from_42 rfl (lv_at hl 2 rfl) ?_
        refine lv_iconst (v := (1 : Int32)) hx hb dX3_from_43 (by decide) ?_
        refine lv_iload hx hb dX3_from_44 (lv_at hl 3 rfl) ?_
        refine lv_ishl hx hb dX3_from_46 ?_
        refine lv_ior hx hb dX3_from_47 ?_
        refine lv_istore_n (lv' := [(3, .int (x23_3 ||| ((1 : Int32) <<< (x23_4 &&& 31)))), (0, .ref (f 0)), (1, .int p1), (4, .int x23_4)]) hx hb dX3_from_48 rfl hl (by decide) rfl (fun ls hl => ?_)
        refine lv_iinc (v := (x23_4 + (1 : Int32))) (lv' := [(4, .int (x23_4 + (1 : Int32))), (3, .int (x23_3 ||| ((1 : Int32) <<< (x23_4 &&& 31)))), (0, .ref (f 0)), (1, .int p1)]) hx hb dX3_from_49 hl (k := 3) rfl rfl (by decide) rfl (fun ls hl => ?_)
        refine lv_goto (tgt := 23) hx hb dX3_from_52 (by decide) ?_
        exact ih23 _ _ _ _ _ _ _ _ h _ _ _ hP hD hS (lv_sub hl [2, 3, 1, 0] rfl)
    refine L23 _ (fun k23_3 k23_lanes k23_spots k23_load k23_gone k23_held k23_strong h H locs ls hP hD hS hl => ?_) _ _ _ _ _ _ _ _ _ h _ _ _ hP hD hS (lv_sub hl [3, 4, 1, 0] rfl)
    refine lv_iload_n hx hb dX3_from_55 rfl (lv_at hl 0 rfl) ?_
    subst hQ
    exact retRW (zz := ((k23_3, k23_lanes, k23_spots, k23_load, k23_gone, k23_held, k23_strong, c_refs) : Int32 × AR × AR × Int32 × Int32 × Int32 × Int32 × AR)) (fun z => z.1) (fun z => (zwX cI cC f z.2.1 z.2.2.1 c_byLeaps z.2.2.2.1 z.2.2.2.2.1 z.2.2.2.2.2.1 z.2.2.2.2.2.2.1 c_done c_rn c_rt c_letters c_size c_rp c_seen z.2.2.2.2.2.2.2 c_inRow c_isPic)) hx hb hr hlocks rfl hS h rfl hP dX3_from_56
  have h := itF c9 h
  refine lv_aload_n hx hb dX3_from_12 rfl (lv_at hl 1 rfl) ?_
  refine lv_iload_n hx hb dX3_from_13 rfl (lv_at hl 0 rfl) ?_
  obtain ⟨q14, e14, h⟩ := bd_some h
  refine g_rwA (wc := (zwX cI cC f c_lanes c_spots c_byLeaps c_load c_gone c_held c_strong c_done c_rn c_rt c_letters c_size c_rp c_seen c_refs c_inRow c_isPic)) (wc' := (zwX cI cC f c_lanes c_spots c_byLeaps c_load c_gone c_held c_strong c_done c_rn c_rt c_letters c_size c_rp c_seen q14.2 c_inRow c_isPic)) ⟨hx, hb, hml, hown, hts⟩ hE hK hA hP hD hS rfl (mX3_refuse l dC dI cI cC sk f H.size q4 c_lanes c_spots c_byLeaps c_load c_gone c_held c_strong c_done c_rn c_rt c_letters c_size c_rp c_seen c_refs c_inRow c_isPic q14 e14) (cwV 1 hts gX3_from_X3_refuse rfl rfl rfl (by decide +kernel) ⟨Nat.le_of_ble_eq_true rfl, Nat.le_of_ble_eq_true rfl⟩) (va_recv hK hP (ci := 3) (q0 := 0) rfl rfl) (As := [.int q4]) (rest := []) rfl hl.1 rfl (Nat.le_of_ble_eq_true rfl) dX3_from_14 ⟨Nat.zero_le _, Nat.zero_le _⟩ (fun H locs hP hD hS => ?_)
  have hP : va_P (dC, dI) vwCl (zwX cI cC f c_lanes c_spots c_byLeaps c_load c_gone c_held c_strong c_done c_rn c_rt c_letters c_size c_rp c_seen q14.2 c_inRow c_isPic) H := hP
  have hD : va_D A (zwX cI cC f c_lanes c_spots c_byLeaps c_load c_gone c_held c_strong c_done c_rn c_rt c_letters c_size c_rp c_seen q14.2 c_inRow c_isPic) := hD
  subst hQ
  exact retRW (zz := ((q14.1, c_lanes, c_spots, c_load, c_gone, c_held, c_strong, q14.2) : Int32 × AR × AR × Int32 × Int32 × Int32 × Int32 × AR)) (fun z => z.1) (fun z => (zwX cI cC f z.2.1 z.2.2.1 c_byLeaps z.2.2.2.1 z.2.2.2.2.1 z.2.2.2.2.2.1 z.2.2.2.2.2.2.1 c_done c_rn c_rt c_letters c_size c_rp c_seen z.2.2.2.2.2.2.2 c_inRow c_isPic)) hx hb hr hlocks rfl hS h rfl hP dX3_from_17
