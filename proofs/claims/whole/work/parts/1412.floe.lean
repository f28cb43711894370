theorem dX3_heaviest_0 : decode cX3_heaviest 0 = .ok (.iload_n 1, 1) := by decide +kernel
theorem dX3_heaviest_1 : decode cX3_heaviest 1 = .ok (.invokestatic 116, 3) := by decide +kernel
theorem dX3_heaviest_4 : decode cX3_heaviest 4 = .ok (.ifCond .ne 9, 3) := by decide +kernel
theorem dX3_heaviest_7 : decode cX3_heaviest 7 = .ok (.aload_n 0, 1) := by decide +kernel
theorem dX3_heaviest_8 : decode cX3_heaviest 8 = .ok (.iconst (-1), 1) := by decide +kernel
theorem dX3_heaviest_9 : decode cX3_heaviest 9 = .ok (.invokevirtual 54, 3) := by decide +kernel
theorem dX3_heaviest_12 : decode cX3_heaviest 12 = .ok (.ireturn, 1) := by decide +kernel
theorem dX3_heaviest_13 : decode cX3_heaviest 13 = .ok (.bipush 9, 2) := by decide +kernel
theorem dX3_heaviest_15 : decode cX3_heaviest 15 = .ok (.istore_n 2, 1) := by decide +kernel
theorem dX3_heaviest_16 : decode cX3_heaviest 16 = .ok (.iload_n 2, 1) := by decide +kernel
theorem dX3_heaviest_17 : decode cX3_heaviest 17 = .ok (.ifCond .le 22, 3) := by decide +kernel
theorem dX3_heaviest_20 : decode cX3_heaviest 20 = .ok (.aload_n 0, 1) := by decide +kernel
theorem dX3_heaviest_21 : decode cX3_heaviest 21 = .ok (.iload_n 2, 1) := by decide +kernel
theorem dX3_heaviest_22 : decode cX3_heaviest 22 = .ok (.iload_n 1, 1) := by decide +kernel
theorem dX3_heaviest_23 : decode cX3_heaviest 23 = .ok (.iconst 0, 1) := by decide +kernel
theorem dX3_heaviest_24 : decode cX3_heaviest 24 = .ok (.iconst 0, 1) := by decide +kernel
theorem dX3_heaviest_25 : decode cX3_heaviest 25 = .ok (.invokevirtual 129, 3) := by decide +kernel
theorem dX3_heaviest_28 : decode cX3_heaviest 28 = .ok (.ifCond .eq 5, 3) := by decide +kernel
theorem dX3_heaviest_31 : decode cX3_heaviest 31 = .ok (.iload_n 2, 1) := by decide +kernel
theorem dX3_heaviest_32 : decode cX3_heaviest 32 = .ok (.ireturn, 1) := by decide +kernel
theorem dX3_heaviest_33 : decode cX3_heaviest 33 = .ok (.iinc 2 (-1), 3) := by decide +kernel
theorem dX3_heaviest_36 : decode cX3_heaviest 36 = .ok (.goto (-20), 3) := by decide +kernel
theorem dX3_heaviest_39 : decode cX3_heaviest 39 = .ok (.iconst 0, 1) := by decide +kernel
theorem dX3_heaviest_40 : decode cX3_heaviest 40 = .ok (.ireturn, 1) := by decide +kernel
set_option maxRecDepth 20000 in
theorem ggX3_heaviest_X3_isCell : GoodIn wsX3_heaviest wsX3_isCell := goodIn_r _ [4] (by decide +kernel) (by decide +kernel)
set_option maxRecDepth 20000 in
theorem gX3_heaviest_X3_isCell : GoodIn wsX3_heaviest (va_wsS RX3 116 yX3_isCell wsX3_isCell) := goodIn_app (goodIn_of _ (by decide +kernel)) ggX3_heaviest_X3_isCell
set_option maxRecDepth 20000 in
theorem ggX3_heaviest_X3_refuse : GoodIn wsX3_heaviest wsX3_refuse := goodIn_r _ [8, 9, 106, 107, 108, 109, 110, 111, 112, 113, 114] (by decide +kernel) (by decide +kernel)
set_option maxRecDepth 20000 in
theorem gX3_heaviest_X3_refuse : GoodIn wsX3_heaviest (wsV RX3 54 RX3 yX3_refuse wsX3_refuse) := goodIn_app (goodIn_of _ (by decide +kernel)) ggX3_heaviest_X3_refuse
set_option maxRecDepth 20000 in
theorem ggX3_heaviest_X3_comesOver : GoodIn wsX3_heaviest wsX3_comesOver := goodIn_r _ [13, 14, 15, 16, 17, 18, 19, 20, 21, 22, 23, 24, 25, 26, 27, 28, 3, 29, 30, 31, 32, 33, 34, 35, 36, 37, 38, 39, 40, 41, 42, 43, 44, 45, 46, 47, 48, 49, 50, 51, 52, 53, 54, 55, 56, 57, 58, 59, 60, 61, 62, 63, 64, 65, 66, 67, 68, 69, 70, 71, 72, 73, 74, 75, 76, 77, 78, 79, 80, 81, 82, 83, 84, 85, 86, 87, 88, 89, 90, 91, 92, 93, 94, 95, 96, 97, 98, 99, 100, 101, 102, 103, 104, 105, 106, 107, 108, 109, 110, 111, 112, 113, 114, 115, 116, 117, 118, 119, 120, 121, 122, 123, 124, 125, 126, 127, 128, 129, 130, 131] (by decide +kernel) (by decide +kernel)
set_option maxRecDepth 20000 in
theorem gX3_heaviest_X3_comesOver : GoodIn wsX3_heaviest (wsV RX3 129 RX3 yX3_comesOver wsX3_comesOver) := goodIn_app (goodIn_of _ (by decide +kernel)) ggX3_heaviest_X3_comesOver
set_option maxHeartbeats 4000000 in
set_option maxRecDepth 100000 in
theorem mX3_heaviest (l : Launch) (dC : Nat → ClassId) (dI : Nat → Nat → Nat) (cI cC : ClassId) (sk : (Nat → Nat) × (Nat → Nat)) (f : Nat → Nat) (sz : Nat) (p1 : Int32) (c_lanes : AR) (c_spots : AR) (c_byLeaps : AR) (c_load : Int32) (c_gone : Int32) (c_held : Int32) (c_strong : Int32) (c_done : Int32) (c_rn : RT) (c_rt : RT) (c_letters : AR) (c_size : Int32) (c_rp : RT) (c_seen : AR) (c_refs : AR) (c_inRow : Int32) (c_isPic : Int32) (z : Int32 × AR × AR × Int32 × Int32 × Int32 × Int32 × AR) (h : fX3_heaviest p1 c_lanes c_spots c_load c_gone c_held c_strong c_rn c_refs = some z) : cRW l yX3_heaviest wsX3_heaviest (RMk 6 141) sk (dC, dI) (tyz cI cC) sz (zwX cI cC f c_lanes c_spots c_byLeaps c_load c_gone c_held c_strong c_done c_rn c_rt c_letters c_size c_rp c_seen c_refs c_inRow c_isPic) (zwX cI cC f z.2.1 z.2.2.1 c_byLeaps z.2.2.2.1 z.2.2.2.2.1 z.2.2.2.2.2.1 z.2.2.2.2.2.2.1 c_done c_rn c_rt c_letters c_size c_rp c_seen z.2.2.2.2.2.2.2 c_inRow c_isPic) [.ref (f 0), .int p1] z.1 := by
  refine ofRW (cc := cX3_heaviest) (maxL := 3) (ret := (some .int)) (own := RX3) (plainFor_of_name (by decide)) rfl rfl (Nat.le_of_ble_eq_true rfl) ?_
  intro p e s m args below meth c A hA hx hb hml hr hts hown hlocks hE hK hP hD hS ls hl
  generalize hQ : qRW _ _ _ _ _ _ _ = Q
  have hl : lv_has ls 3 [(0, .ref (f 0)), (1, .int p1)] := hl
  rw [fX3_heaviest] at h
  refine lv_iload_n hx hb dX3_heaviest_0 rfl (lv_at hl 1 rfl) ?_
  obtain ⟨q1, e1, h⟩ := bd_some h
  refine g_roS (wc := ([] : va_W)) ⟨hx, hb, hml, hown, hts⟩ hE hK hP hS [] rfl (mX3_isCell l dC dI cI cC sk  p1 q1 e1) (va_cwS 1 hts gX3_heaviest_X3_isCell rfl rfl rfl (by decide +kernel) ⟨Nat.le_of_ble_eq_true rfl, Nat.le_of_ble_eq_true rfl⟩) (As := [.int p1]) (rest := []) rfl hl.1 rfl (Nat.le_of_ble_eq_true rfl) dX3_heaviest_1 ⟨Nat.zero_le _, Nat.zero_le _⟩ (fun H locs hP hS => ?_)
  refine lv_if_ne (tgt := 13) hx hb dX3_heaviest_4 (by decide) (fun c4 => ?_) (fun c4 => ?_)
  · have h := itF c4 h
    refine lv_bipush (v := (9 : Int32)) hx hb dX3_heaviest_13 (by decide) ?_
    refine lv_istore_n (lv' := [(2, .int (9 : Int32)), (0, .ref (f 0)), (1, .int p1)]) hx hb dX3_heaviest_15 rfl hl (by decide) rfl (fun ls hl => ?_)
    have L16 : ∀ (K16 : AR → AR → Int32 → Int32 → Int32 → Int32 → Option (Int32 × AR × AR × Int32 × Int32 × Int32 × Int32 × AR)), (∀ (k16_lanes : AR) (k16_spots : AR) (k16_load : Int32) (k16_gone : Int32) (k16_held : Int32) (k16_strong : Int32), K16 k16_lanes k16_spots k16_load k16_gone k16_held k16_strong = some z → ∀ (H : Heap) (locs : List Loc) (ls : Array Slot), va_P (dC, dI) vwCl (zwX cI cC f k16_lanes k16_spots c_byLeaps k16_load k16_gone k16_held k16_strong c_done c_rn c_rt c_letters c_size c_rp c_seen c_refs c_inRow c_isPic) H → va_D A (zwX cI cC f k16_lanes k16_spots c_byLeaps k16_load k16_gone k16_held k16_strong c_done c_rn c_rt c_letters c_size c_rp c_seen c_refs c_inRow c_isPic) → va_S A s.heap H locs → lv_has ls 3 [] → W p l e (RMk 6 141) s m args below meth c H locs 0 0 Q (F0 m 39 ls [])) → ∀ (n : Nat) (x16_2 : Int32) (x16_lanes : AR) (x16_spots : AR) (x16_load : Int32) (x16_gone : Int32) (x16_held : Int32) (x16_strong : Int32), fX3_heaviest_L16 c_refs c_rn p1 K16 n x16_2 x16_lanes x16_spots x16_load x16_gone x16_held x16_strong = some z → ∀ (H : Heap) (locs : List Loc) (ls : Array Slot), va_P (dC, dI) vwCl (zwX cI cC f x16_lanes x16_spots c_byLeaps x16_load x16_gone x16_held x16_strong c_done c_rn c_rt c_letters c_size c_rp c_seen c_refs c_inRow c_isPic) H → va_D A (zwX cI cC f x16_lanes x16_spots c_byLeaps x16_load x16_gone x16_held x16_strong c_done c_rn c_rt c_letters c_size c_rp c_seen c_refs c_inRow c_isPic) → va_S A s.heap H locs → lv_has ls 3 [(0, .ref (f 0)), (1, .int p1), (2, .int x16_2)] → W p l e (RMk 6 141) s m args below meth c H locs 0 0 Q (F0 m 16 ls []) := by
      intro K16 kx16 n
      induction n with
      | zero => intro x16_2 x16_lanes x16_spots x16_load x16_gone x16_held x16_strong h; rw [fX3_heaviest_L16] at h; cases h
      | succ n ih16 =>
        intro x16_2 x16_lanes x16_spots x16_load x16_gone x16_held x16_strong h H locs ls hP hD hS hl
        rw [fX3_heaviest_L16] at h
        refine lv_iload_n hx hb dX3_heaviest_16 rfl (lv_at hl 2 rfl) ?_
        refine lv_if_le (tgt := 39) hx hb dX3_heaviest_17 (by decide) (fun c17 => ?_) (fun c17 => ?_)
        · have h := itT c17 h
          exact kx16 _ _ _ _ _ _ h _ _ _ hP hD hS (lv_sub hl [] rfl)
        have h := itF c17 h
        refine lv_aload_n hx hb dX3_heaviest_20 rfl (lv_at hl 0 rfl) ?_
        refine lv_iload_n hx hb dX3_heaviest_21 rfl (lv_at hl 2 rfl) ?_
        refine lv_iload_n hx hb dX3_heaviest_22 rfl (lv_at hl 1 rfl) ?_
        refine lv_iconst (v := (0 : Int32)) hx hb dX3_heaviest_23 (by decide) ?_
        refine lv_iconst (v := (0 : Int32)) hx hb dX3_heaviest_24 (by decide) ?_
        obtain ⟨q25, e25, h⟩ := bd_some h
        refine g_rwA (wc := (zwX cI cC f x16_lanes x16_spots c_byLeaps x16_load x16_gone x16_held x16_strong c_done c_rn c_rt c_letters c_size c_rp c_seen c_refs c_inRow c_isPic)) (wc' := (zwX cI cC f q25.2.1 q25.2.2.1 c_byLeaps q25.2.2.2.1 q25.2.2.2.2.1 q25.2.2.2.2.2.1 q25.2.2.2.2.2.2 c_done c_rn c_rt c_letters c_size c_rp c_seen c_refs c_inRow c_isPic)) ⟨hx, hb, hml, hown, hts⟩ hE hK hA hP hD hS rfl (mX3_comesOver l dC dI cI cC sk f H.size x16_2 p1 (0 : Int32) (0 : Int32) x16_lanes x16_spots c_byLeaps x16_load x16_gone x16_held x16_strong c_done c_rn c_rt c_letters c_size c_rp c_seen c_refs c_inRow c_isPic q25 e25) (cwV 4 hts gX3_heaviest_X3_comesOver rfl rfl rfl (by decide +kernel) ⟨Nat.le_of_ble_eq_true rfl, Nat.le_of_ble_eq_true rfl⟩) (va_recv hK hP (ci := 3) (q0 := 0) rfl rfl) (As := [.int x16_2, .int p1, .int (0 : Int32), .int (0 : Int32)]) (rest := []) rfl hl.1 rfl (Nat.le_of_ble_eq_true rfl) dX3_heaviest_25 ⟨Nat.zero_le _, Nat.zero_le _⟩ (fun H locs hP hD hS => ?_)
        have hP : va_P (dC, dI) vwCl (zwX cI cC f q25.2.1 q25.2.2.1 c_byLeaps q25.2.2.2.1 q25.2.2.2.2.1 q25.2.2.2.2.2.1 q25.2.2.2.2.2.2 c_done c_rn c_rt c_letters c_size c_rp c_seen c_refs c_inRow c_isPic) H := hP
        have hD : va_D A (zwX cI cC f q25.2.1 q25.2.2.1 c_byLeaps q25.2.2.2.1 q25.2.2.2.2.1 q25.2.2.2.2.2.1 q25.2.2.2.2.2.2 c_done c_rn c_rt c_letters c_size c_rp c_seen c_refs c_inRow c_isPic) := hD
        refine lv_if_eq (tgt := 33) hx hb dX3_heaviest_28 (by decide) (fun c28 => ?_) (fun c28 => ?_)
        · have h := itT c28 h
          refine lv_iinc (v := (x16_2 + (-1 : Int32))) (lv' := [(2, .int (x16_2 + (-1 : Int32))), (0, .ref (f 0)), (1, .int p1)]) hx hb dX3_heaviest_33 hl (k := 2) rfl rfl (by decide) rfl (fun ls hl => ?_)
          refine lv_goto (tgt := 16) hx hb dX3_heaviest_36 (by decide) ?_
          exact ih16 _ _ _ _ _ _ _ h _ _ _ hP hD hS (lv_sub hl [1, 2, 0] rfl)
        have h := itF c28 h
        refine lv_iload_n hx hb dX3_heaviest_31 rfl (lv_at hl 2 rfl) ?_
        subst hQ
        exact retRW (zz := ((x16_2, q25.2.1, q25.2.2.1, q25.2.2.2.1, q25.2.2.2.2.1, q25.2.2.2.2.2.1, q25.2.2.2.2.2.2, c_refs) : Int32 × AR × AR × Int32 × Int32 × Int32 × Int32 × AR)) (fun z => z.1) (fun z => (zwX cI cC f z.2.1 z.2.2.1 c_byLeaps z.2.2.2.1 z.2.2.2.2.1 z.2.2.2.2.2.1 z.2.2.2.2.2.2.1 c_done c_rn c_rt c_letters c_size c_rp c_seen z.2.2.2.2.2.2.2 c_inRow c_isPic)) hx hb hr hlocks rfl hS h rfl hP dX3_heaviest_32
    refine L16 _ (fun k16_lanes k16_spots k16_load k16_gone k16_held k16_strong h H locs ls hP hD hS hl => ?_) _ _ _ _ _ _ _ _ h _ _ _ hP hD hS (lv_sub hl [1, 2, 0] rfl)
    refine lv_iconst (v := (0 : Int32)) hx hb dX3_heaviest_39 (by decide) ?_
    subst hQ
    exact retRW (zz := (((0 : Int32), k16_lanes, k16_spots, k16_load, k16_gone, k16_held, k16_strong, c_refs) : Int32 × AR × AR × Int32 × Int32 × Int32 × Int32 × AR)) (fun z => z.1) (fun z => (zwX cI cC f z.2.1 z.2.2.1 c_byLeaps z.2.2.2.1 z.2.2.2.2.1 z.2.2.2.2.2.1 z.2.2.2.2.2.2.1 c_done c_rn c_rt c_letters c_size c_rp c_seen z.2.2.2.2.2.2.2 c_inRow c_isPic)) hx hb hr hlocks rfl hS h rfl hP dX3_heaviest_40
  have h := itT c4 h
  refine lv_aload_n hx hb dX3_heaviest_7 rfl (lv_at hl 0 rfl) ?_
  refine lv_iconst (v := (-1 : Int32)) hx hb dX3_heaviest_8 (by decide) ?_
  obtain ⟨q9, e9, h⟩ := bd_some h
  refine g_rwA (wc := (zwX cI cC f c_lanes c_spots c_byLeaps c_load c_gone c_held c_strong c_done c_rn c_rt c_letters c_size c_rp c_seen c_refs c_inRow c_isPic)) (wc' := (zwX cI cC f c_lanes c_spots c_byLeaps c_load c_gone c_held c_strong c_done c_rn c_rt c_letters c_size c_rp c_seen q9.2 c_inRow c_isPic)) ⟨hx, hb, hml, hown, hts⟩ hE hK hA hP hD hS rfl (mX3_refuse l dC dI cI cC sk f H.size (-1 : Int32) c_lanes c_spots c_byLeaps c_load c_gone c_held c_strong c_done c_rn c_rt c_letters c_size c_rp c_seen c_refs c_inRow c_isPic q9 e9) (cwV 1 hts gX3_heaviest_X3_refuse rfl rfl rfl (by decide +kernel) ⟨Nat.le_of_ble_eq_true rfl, Nat.le_of_ble_eq_true rfl⟩) (va_recv hK hP (ci := 3) (q0 := 0) rfl rfl) (As := [.int (-1 : Int32)]) (rest := []) rfl hl.1 rfl (Nat.le_of_ble_eq_true rfl) dX3_heaviest_9 ⟨Nat.zero_le _, Nat.zero_le _⟩ (fun H locs hP hD hS => ?_)
  have hP : va_P (dC, dI) vwCl (zwX cI cC f c_lanes c_spots c_byLeaps c_load c_gone c_held c_strong c_done c_rn c_rt c_letters c_size c_rp c_seen q9.2 c_inRow c_isPic) H := hP
  have hD : va_D A (zwX cI cC f c_lanes c_spots c_byLeaps c_load c_gone c_held c_strong c_done c_rn c_rt c_letters c_size c_rp c_seen q9.2 c_inRow c_isPic) := hD
  subst hQ
  exact retRW (zz := ((q9.1, c_lanes, c_spots, c_load, c_gone, c_held, c_strong, q9.2) : Int32 × AR × AR × Int32 × Int32 × Int32 × Int32 × AR)) (fun z => z.1) (fun z => (zwX cI cC f z.2.1 z.2.2.1 c_byLeaps z.2.2.2.1 z.2.2.2.2.1 z.2.2.2.2.2.1 z.2.2.2.2.2.2.1 c_done c_rn c_rt c_letters c_size c_rp c_seen z.2.2.2.2.2.2.2 c_inRow c_isPic)) hx hb hr hlocks rfl hS h rfl hP dX3_heaviest_12
