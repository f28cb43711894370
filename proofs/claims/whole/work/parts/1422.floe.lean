theorem dX3_seeds_0 : decode cX3_seeds 0 = .ok (.iload_n 1, 1) := by decide +kernel
theorem dX3_seeds_1 : decode cX3_seeds 1 = .ok (.iconst 1, 1) := by decide +kernel
theorem dX3_seeds_2 : decode cX3_seeds 2 = .ok (.bipush 20, 2) := by decide +kernel
theorem dX3_seeds_4 : decode cX3_seeds 4 = .ok (.invokestatic 46, 3) := by decide +kernel
theorem dX3_seeds_7 : decode cX3_seeds 7 = .ok (.istore_n 3, 1) := by decide +kernel
theorem dX3_seeds_8 : decode cX3_seeds 8 = .ok (.iload_n 3, 1) := by decide +kernel
theorem dX3_seeds_9 : decode cX3_seeds 9 = .ok (.ifCond .eq 9, 3) := by decide +kernel
theorem dX3_seeds_12 : decode cX3_seeds 12 = .ok (.aload_n 0, 1) := by decide +kernel
theorem dX3_seeds_13 : decode cX3_seeds 13 = .ok (.iload_n 3, 1) := by decide +kernel
theorem dX3_seeds_14 : decode cX3_seeds 14 = .ok (.invokevirtual 54, 3) := by decide +kernel
theorem dX3_seeds_17 : decode cX3_seeds 17 = .ok (.ireturn, 1) := by decide +kernel
theorem dX3_seeds_18 : decode cX3_seeds 18 = .ok (.iconst 0, 1) := by decide +kernel
theorem dX3_seeds_19 : decode cX3_seeds 19 = .ok (.istore 4, 2) := by decide +kernel
theorem dX3_seeds_21 : decode cX3_seeds 21 = .ok (.iload_n 2, 1) := by decide +kernel
theorem dX3_seeds_22 : decode cX3_seeds 22 = .ok (.istore 5, 2) := by decide +kernel
theorem dX3_seeds_24 : decode cX3_seeds 24 = .ok (.iconst 0, 1) := by decide +kernel
theorem dX3_seeds_25 : decode cX3_seeds 25 = .ok (.istore 6, 2) := by decide +kernel
theorem dX3_seeds_27 : decode cX3_seeds 27 = .ok (.iload 6, 2) := by decide +kernel
theorem dX3_seeds_29 : decode cX3_seeds 29 = .ok (.iload_n 1, 1) := by decide +kernel
theorem dX3_seeds_30 : decode cX3_seeds 30 = .ok (.if_icmp .ge 61, 3) := by decide +kernel
theorem dX3_seeds_33 : decode cX3_seeds 33 = .ok (.iload 5, 2) := by decide +kernel
theorem dX3_seeds_35 : decode cX3_seeds 35 = .ok (.invokestatic 154, 3) := by decide +kernel
theorem dX3_seeds_38 : decode cX3_seeds 38 = .ok (.istore 5, 2) := by decide +kernel
theorem dX3_seeds_40 : decode cX3_seeds 40 = .ok (.iload 5, 2) := by decide +kernel
theorem dX3_seeds_42 : decode cX3_seeds 42 = .ok (.invokestatic 157, 3) := by decide +kernel
theorem dX3_seeds_45 : decode cX3_seeds 45 = .ok (.bipush 10, 2) := by decide +kernel
theorem dX3_seeds_47 : decode cX3_seeds 47 = .ok (.irem, 1) := by decide +kernel
theorem dX3_seeds_48 : decode cX3_seeds 48 = .ok (.istore 7, 2) := by decide +kernel
theorem dX3_seeds_50 : decode cX3_seeds 50 = .ok (.iload 5, 2) := by decide +kernel
theorem dX3_seeds_52 : decode cX3_seeds 52 = .ok (.invokestatic 154, 3) := by decide +kernel
theorem dX3_seeds_55 : decode cX3_seeds 55 = .ok (.istore 5, 2) := by decide +kernel
theorem dX3_seeds_57 : decode cX3_seeds 57 = .ok (.iload 5, 2) := by decide +kernel
theorem dX3_seeds_59 : decode cX3_seeds 59 = .ok (.invokestatic 157, 3) := by decide +kernel
theorem dX3_seeds_62 : decode cX3_seeds 62 = .ok (.bipush 9, 2) := by decide +kernel
theorem dX3_seeds_64 : decode cX3_seeds 64 = .ok (.irem, 1) := by decide +kernel
theorem dX3_seeds_65 : decode cX3_seeds 65 = .ok (.iconst 1, 1) := by decide +kernel
theorem dX3_seeds_66 : decode cX3_seeds 66 = .ok (.iadd, 1) := by decide +kernel
theorem dX3_seeds_67 : decode cX3_seeds 67 = .ok (.istore 8, 2) := by decide +kernel
theorem dX3_seeds_69 : decode cX3_seeds 69 = .ok (.aload_n 0, 1) := by decide +kernel
theorem dX3_seeds_70 : decode cX3_seeds 70 = .ok (.iload 8, 2) := by decide +kernel
theorem dX3_seeds_72 : decode cX3_seeds 72 = .ok (.iload 7, 2) := by decide +kernel
theorem dX3_seeds_74 : decode cX3_seeds 74 = .ok (.iconst 0, 1) := by decide +kernel
theorem dX3_seeds_75 : decode cX3_seeds 75 = .ok (.iconst 0, 1) := by decide +kernel
theorem dX3_seeds_76 : decode cX3_seeds 76 = .ok (.invokevirtual 129, 3) := by decide +kernel
theorem dX3_seeds_79 : decode cX3_seeds 79 = .ok (.ifCond .eq 6, 3) := by decide +kernel
theorem dX3_seeds_82 : decode cX3_seeds 82 = .ok (.iinc 4 1, 3) := by decide +kernel
theorem dX3_seeds_85 : decode cX3_seeds 85 = .ok (.iinc 6 1, 3) := by decide +kernel
theorem dX3_seeds_88 : decode cX3_seeds 88 = .ok (.goto (-61), 3) := by decide +kernel
theorem dX3_seeds_91 : decode cX3_seeds 91 = .ok (.iload 4, 2) := by decide +kernel
theorem dX3_seeds_93 : decode cX3_seeds 93 = .ok (.ireturn, 1) := by decide +kernel
set_option maxRecDepth 20000 in
theorem ggX3_seeds_X3_outOf : GoodIn wsX3_seeds wsX3_outOf := goodIn_r _ [4] (by decide +kernel) (by decide +kernel)
set_option maxRecDepth 20000 in
theorem gX3_seeds_X3_outOf : GoodIn wsX3_seeds (va_wsS RX3 46 yX3_outOf wsX3_outOf) := goodIn_app (goodIn_of _ (by decide +kernel)) ggX3_seeds_X3_outOf
set_option maxRecDepth 20000 in
theorem ggX3_seeds_X3_refuse : GoodIn wsX3_seeds wsX3_refuse := goodIn_r _ [8, 9, 115, 116, 117, 118, 119, 120, 121, 122, 123] (by decide +kernel) (by decide +kernel)
set_option maxRecDepth 20000 in
theorem gX3_seeds_X3_refuse : GoodIn wsX3_seeds (wsV RX3 54 RX3 yX3_refuse wsX3_refuse) := goodIn_app (goodIn_of _ (by decide +kernel)) ggX3_seeds_X3_refuse
set_option maxRecDepth 20000 in
theorem ggX3_seeds_X3_seedBehind : GoodIn wsX3_seeds wsX3_seedBehind := goodIn_r _ [12, 13, 14] (by decide +kernel) (by decide +kernel)
set_option maxRecDepth 20000 in
theorem gX3_seeds_X3_seedBehind : GoodIn wsX3_seeds (va_wsS RX3 154 yX3_seedBehind wsX3_seedBehind) := goodIn_app (goodIn_of _ (by decide +kernel)) ggX3_seeds_X3_seedBehind
set_option maxRecDepth 20000 in
theorem ggX3_seeds_X3_drawOf : GoodIn wsX3_seeds wsX3_drawOf := goodIn_r _ [17, 18] (by decide +kernel) (by decide +kernel)
set_option maxRecDepth 20000 in
theorem gX3_seeds_X3_drawOf : GoodIn wsX3_seeds (va_wsS RX3 157 yX3_drawOf wsX3_drawOf) := goodIn_app (goodIn_of _ (by decide +kernel)) ggX3_seeds_X3_drawOf
set_option maxRecDepth 20000 in
theorem ggX3_seeds_X3_comesOver : GoodIn wsX3_seeds wsX3_comesOver := goodIn_r _ [22, 23, 24, 25, 26, 27, 28, 29, 30, 31, 32, 33, 34, 35, 36, 37, 3, 38, 39, 40, 41, 42, 43, 44, 45, 46, 47, 48, 49, 50, 51, 52, 53, 54, 55, 56, 57, 58, 59, 60, 61, 62, 63, 64, 65, 66, 67, 68, 69, 70, 71, 72, 73, 74, 75, 76, 77, 78, 79, 80, 81, 82, 83, 84, 85, 86, 87, 88, 89, 90, 91, 92, 93, 94, 95, 96, 97, 98, 99, 100, 101, 102, 103, 104, 105, 106, 107, 108, 109, 110, 111, 112, 113, 114, 115, 116, 117, 118, 119, 120, 121, 122, 123, 124, 125, 126, 127, 128, 129, 130, 131, 132, 133, 134, 135, 136, 137, 138, 139, 140] (by decide +kernel) (by decide +kernel)
set_option maxRecDepth 20000 in
theorem gX3_seeds_X3_comesOver : GoodIn wsX3_seeds (wsV RX3 129 RX3 yX3_comesOver wsX3_comesOver) := goodIn_app (goodIn_of _ (by decide +kernel)) ggX3_seeds_X3_comesOver
set_option maxHeartbeats 4000000 in
set_option maxRecDepth 100000 in
theorem mX3_seeds (l : Launch) (dC : Nat → ClassId) (dI : Nat → Nat → Nat) (cI cC : ClassId) (sk : (Nat → Nat) × (Nat → Nat)) (f : Nat → Nat) (sz : Nat) (p1 : Int32) (p2 : Int32) (c_lanes : AR) (c_spots : AR) (c_byLeaps : AR) (c_load : Int32) (c_gone : Int32) (c_held : Int32) (c_strong : Int32) (c_done : Int32) (c_rn : RT) (c_rt : RT) (c_letters : AR) (c_size : Int32) (c_rp : RT) (c_seen : AR) (c_refs : AR) (c_inRow : Int32) (c_isPic : Int32) (z : Int32 × AR × AR × Int32 × Int32 × Int32 × Int32 × AR) (h : fX3_seeds p1 p2 c_lanes c_spots c_load c_gone c_held c_strong c_rn c_refs = some z) : cRW l yX3_seeds wsX3_seeds (RMk 6 141) sk (dC, dI) (tyz cI cC) sz (zwX cI cC f c_lanes c_spots c_byLeaps c_load c_gone c_held c_strong c_done c_rn c_rt c_letters c_size c_rp c_seen c_refs c_inRow c_isPic) (zwX cI cC f z.2.1 z.2.2.1 c_byLeaps z.2.2.2.1 z.2.2.2.2.1 z.2.2.2.2.2.1 z.2.2.2.2.2.2.1 c_done c_rn c_rt c_letters c_size c_rp c_seen z.2.2.2.2.2.2.2 c_inRow c_isPic) [.ref (f 0), .int p1, .int p2] z.1 := by
  refine ofRW (cc := cX3_seeds) (maxL := 9) (ret := (some .int)) (own := RX3) (plainFor_of_name (by decide)) rfl rfl (Nat.le_of_ble_eq_true rfl) ?_
  intro p e s m args below meth c A hA hx hb hml hr hts hown hlocks hE hK hP hD hS ls hl
  generalize hQ : qRW _ _ _ _ _ _ _ = Q
  have hl : lv_has ls 9 [(0, .ref (f 0)), (1, .int p1), (2, .int p2)] := hl
  rw [fX3_seeds] at h
  refine lv_iload_n hx hb dX3_seeds_0 rfl (lv_at hl 1 rfl) ?_
  refine lv_iconst (v := (1 : Int32)) hx hb dX3_seeds_1 (by decide) ?_
  refine lv_bipush (v := (20 : Int32)) hx hb dX3_seeds_2 (by decide) ?_
  obtain ⟨q4, e4, h⟩ := bd_some h
  refine g_roS (wc := ([] : va_W)) ⟨hx, hb, hml, hown, hts⟩ hE hK hP hS [] rfl (mX3_outOf l dC dI cI cC sk  p1 (1 : Int32) (20 : Int32) q4 e4) (va_cwS 3 hts gX3_seeds_X3_outOf rfl rfl rfl (by decide +kernel) ⟨Nat.le_of_ble_eq_true rfl, Nat.le_of_ble_eq_true rfl⟩) (As := [.int p1, .int (1 : Int32), .int (20 : Int32)]) (rest := []) rfl hl.1 rfl (Nat.le_of_ble_eq_true rfl) dX3_seeds_4 ⟨Nat.zero_le _, Nat.zero_le _⟩ (fun H locs hP hS => ?_)
  refine lv_istore_n (lv' := [(3, .int q4), (0, .ref (f 0)), (1, .int p1), (2, .int p2)]) hx hb dX3_seeds_7 rfl hl (by decide) rfl (fun ls hl => ?_)
  refine lv_iload_n hx hb dX3_seeds_8 rfl (lv_at hl 0 rfl) ?_
  refine lv_if_eq (tgt := 18) hx hb dX3_seeds_9 (by decide) (fun c9 => ?_) (fun c9 => ?_)
  · have h := itT c9 h
    refine lv_iconst (v := (0 : Int32)) hx hb dX3_seeds_18 (by decide) ?_
    refine lv_istore (lv' := [(4, .int (0 : Int32)), (3, .int q4), (0, .ref (f 0)), (1, .int p1), (2, .int p2)]) hx hb dX3_seeds_19 hl (by decide) rfl (fun ls hl => ?_)
    refine lv_iload_n hx hb dX3_seeds_21 rfl (lv_at hl 4 rfl) ?_
    refine lv_istore (lv' := [(5, .int p2), (4, .int (0 : Int32)), (3, .int q4), (0, .ref (f 0)), (1, .int p1), (2, .int p2)]) hx hb dX3_seeds_22 hl (by decide) rfl (fun ls hl => ?_)
    refine lv_iconst (v := (0 : Int32)) hx hb dX3_seeds_24 (by decide) ?_
    refine lv_istore (lv' := [(6, .int (0 : Int32)), (5, .int p2), (4, .int (0 : Int32)), (3, .int q4), (0, .ref (f 0)), (1, .int p1), (2, .int p2)]) hx hb dX3_seeds_25 hl (by decide) rfl (fun ls hl => ?_)
    have L27 : ∀ (K27 : Int32 → AR → AR → Int32 → Int32 → Int32 → Int32 → Option (Int32 × AR × AR × Int32 × Int32 × Int32 × Int32 × AR)), (∀ (k27_4 : Int32) (k27_lanes : AR) (k27_spots : AR) (k27_load : Int32) (k27_gone : Int32) (k27_held : Int32) (k27_strong : Int32), K27 k27_4 k27_lanes k27_spots k27_load k27_gone k27_held k27_strong = some z → ∀ (H : Heap) (locs : List Loc) (ls : Array Slot), va_P (dC, dI) vwCl (zwX cI cC f k27_lanes k27_spots c_byLeaps k27_load k27_gone k27_held k27_strong c_done c_rn c_rt c_letters c_size c_rp c_seen c_refs c_inRow c_isPic) H → va_D A (zwX cI cC f k27_lanes k27_spots c_byLeaps k27_load k27_gone k27_held k27_strong c_done c_rn c_rt c_letters c_size c_rp c_seen c_refs c_inRow c_isPic) → va_S A s.heap H locs → lv_has ls 9 [(4, .int k27_4)] → W p l e (RMk 6 141) s m args below meth c H locs 0 0 Q (F0 m 91 ls [])) → ∀ (n : Nat) (x27_4 : Int32) (x27_5 : Int32) (x27_6 : Int32) (x27_lanes : AR) (x27_spots : AR) (x27_load : Int32) (x27_gone : Int32) (x27_held : Int32) (x27_strong : Int32), fX3_seeds_L27 c_rn p1 K27 n x27_4 x27_5 x27_6 x27_lanes x27_spots x27_load x27_gone x27_held x27_strong = some z → ∀ (H : Heap) (locs : List Loc) (ls : Array Slot), va_P (dC, dI) vwCl (zwX cI cC f x27_lanes x27_spots c_byLeaps x27_load x27_gone x27_held x27_strong c_done c_rn c_rt c_letters c_size c_rp c_seen c_refs c_inRow c_isPic) H → va_D A (zwX cI cC f x27_lanes x27_spots c_byLeaps x27_load x27_gone x27_held x27_strong c_done c_rn c_rt c_letters c_size c_rp c_seen c_refs c_inRow c_isPic) → va_S A s.heap H locs → lv_has ls 9 [(0, .ref (f 0)), (1, .int p1), (4, .int x27_4), (5, .int x27_5), (6, .int x27_6)] → W p l e (RMk 6 141) s m args below meth c H locs 0 0 Q (F0 m 27 ls []) := by
      intro K27 kx27 n
      induction n with
      | zero => intro x27_4 x27_5 x27_6 x27_lanes x27_spots x27_load x27_gone x27_held x27_strong h; rw [fX3_seeds_L27] at h; cases h
      | succ n ih27 =>
        intro x27_4 x27_5 x27_6 x27_lanes x27_spots x27_load x27_gone x27_held x27_strong h H locs ls hP hD hS hl
        rw [fX3_seeds_L27] at h
        refine lv_iload hx hb dX3_seeds_27 (lv_at hl 4 rfl) ?_
        refine lv_iload_n hx hb dX3_seeds_29 rfl (lv_at hl 1 rfl) ?_
        refine lv_icmp_ge (tgt := 91) hx hb dX3_seeds_30 (by decide) (fun c30 => ?_) (fun c30 => ?_)
        · have h := itT c30 h
          exact kx27 _ _ _ _ _ _ _ h _ _ _ hP hD hS (lv_sub hl [2] rfl)
        have h := itF c30 h
        refine lv_iload hx hb dX3_seeds_33 (lv_at hl 3 rfl) ?_
        obtain ⟨q35, e35, h⟩ := bd_some h
        refine g_roS (wc := ([] : va_W)) ⟨hx, hb, hml, hown, hts⟩ hE hK hP hS [] rfl (mX3_seedBehind l dC dI cI cC sk  x27_5 q35 e35) (va_cwS 1 hts gX3_seeds_X3_seedBehind rfl rfl rfl (by decide +kernel) ⟨Nat.le_of_ble_eq_true rfl, Nat.le_of_ble_eq_true rfl⟩) (As := [.int x27_5]) (rest := []) rfl hl.1 rfl (Nat.le_of_ble_eq_true rfl) dX3_seeds_35 ⟨Nat.zero_le _, Nat.zero_le _⟩ (fun H locs hP hS => ?_)
        refine lv_istore (lv' := [(5, .int q35), (0, .ref (f 0)), (1, .int p1), (4, .int x27_4), (6, .int x27_6)]) hx hb dX3_seeds_38 hl (by decide) rfl (fun ls hl => ?_)
        refine lv_iload hx hb dX3_seeds_40 (lv_at hl 0 rfl) ?_
        obtain ⟨q42, e42, h⟩ := bd_some h
        refine g_roS (wc := ([] : va_W)) ⟨hx, hb, hml, hown, hts⟩ hE hK hP hS [] rfl (mX3_drawOf l dC dI cI cC sk  q35 q42 e42) (va_cwS 1 hts gX3_seeds_X3_drawOf rfl rfl rfl (by decide +kernel) ⟨Nat.le_of_ble_eq_true rfl, Nat.le_of_ble_eq_true rfl⟩) (As := [.int q35]) (rest := []) rfl hl.1 rfl (Nat.le_of_ble_eq_true rfl) dX3_seeds_42 ⟨Nat.zero_le _, Nat.zero_le _⟩ (fun H locs hP hS => ?_)
        refine lv_bipush (v := (10 : Int32)) hx hb dX3_seeds_45 (by decide) ?_
        refine lv_irem hx hb dX3_seeds_47 (by decide) ?_
        refine lv_istore (lv' := [(7, .int (q42 - q42 / (10 : Int32) * (10 : Int32))), (5, .int q35), (0, .ref (f 0)), (1, .int p1), (4, .int x27_4), (6, .int x27_6)]) hx hb dX3_seeds_48 hl (by decide) rfl (fun ls hl => ?_)
        refine lv_iload hx hb dX3_seeds_50 (lv_at hl 1 rfl) ?_
        obtain ⟨q52, e52, h⟩ := bd_some h
        refine g_roS (wc := ([] : va_W)) ⟨hx, hb, hml, hown, hts⟩ hE hK hP hS [] rfl (mX3_seedBehind l dC dI cI cC sk  q35 q52 e52) (va_cwS 1 hts gX3_seeds_X3_seedBehind rfl rfl rfl (by decide +kernel) ⟨Nat.le_of_ble_eq_true rfl, Nat.le_of_ble_eq_true rfl⟩) (As := [.int q35]) (rest := []) rfl hl.1 rfl (Nat.le_of_ble_eq_true rfl) dX3_seeds_52 ⟨Nat.zero_le _, Nat.zero_le _⟩ (fun H locs hP hS => ?_)
        refine lv_istore (lv' := [(5, .int q52), (7, .int (q42 - q42 / (10 : Int32) * (10 : Int32))), (0, .ref (f 0)), (1, .int p1), (4, .int x27_4), (6, .int x27_6)]) hx hb dX3_seeds_55 hl (by decide) rfl (fun ls hl => ?_)
        refine lv_iload hx hb dX3_seeds_57 (lv_at hl 0 rfl) ?_
        obtain ⟨q59, e59, h⟩ := bd_some h
        refine g_roS (wc := ([] : va_W)) ⟨hx, hb, hml, hown, hts⟩ hE hK hP hS [] rfl (mX3_drawOf l dC dI cI cC sk  q52 q59 e59) (va_cwS 1 hts gX3_seeds_X3_drawOf rfl rfl rfl (by decide +kernel) ⟨Nat.le_of_ble_eq_true rfl, Nat.le_of_ble_eq_true rfl⟩) (As := [.int q52]) (rest := []) rfl hl.1 rfl (Nat.le_of_ble_eq_true rfl) dX3_seeds_59 ⟨Nat.zero_le _, Nat.zero_le _⟩ (fun H locs hP hS => ?_)
        refine lv_bipush (v := (9 : Int32)) hx hb dX3_seeds_62 (by decide) ?_
        refine lv_irem hx hb dX3_seeds_64 (by decide) ?_
        refine lv_iconst (v := (1 : Int32)) hx hb dX3_seeds_65 (by decide) ?_
        refine lv_iadd hx hb dX3_seeds_66 ?_
        refine lv_istore (lv' := [(8, .int ((q59 - q59 / (9 : Int32) * (9 : Int32)) + (1 : Int32))), (5, .int q52), (7, .int (q42 - q42 / (10 : Int32) * (10 : Int32))), (0, .ref (f 0)), (1, .int p1), (4, .int x27_4), (6, .int x27_6)]) hx hb dX3_seeds_67 hl (by decide) rfl (fun ls hl => ?_)
        refine lv_aload_n hx hb dX3_seeds_69 rfl (lv_at hl 3 rfl) ?_
        refine lv_iload hx hb dX3_seeds_70 (lv_at hl 0 rfl) ?_
        refine lv_iload hx hb dX3_seeds_72 (lv_at hl 2 rfl) ?_
        refine lv_iconst (v := (0 : Int32)) hx hb dX3_seeds_74 (by decide) ?_
        refine lv_iconst (v := (0 : Int32)) hx hb dX3_seeds_75 (by decide) ?_
        obtain ⟨q76, e76, h⟩ := bd_some h
        refine g_rwA (wc := (zwX cI cC f x27_lanes x27_spots c_byLeaps x27_load x27_gone x27_held x27_strong c_done c_rn c_rt c_letters c_size c_rp c_seen c_refs c_inRow c_isPic)) (wc' := (zwX cI cC f q76.2.1 q76.2.2.1 c_byLeaps q76.2.2.2.1 q76.2.2.2.2.1 q76.2.2.2.2.2.1 q76.2.2.2.2.2.2 c_done c_rn c_rt c_letters c_size c_rp c_seen c_refs c_inRow c_isPic)) ⟨hx, hb, hml, hown, hts⟩ hE hK hA hP hD hS rfl (mX3_comesOver l dC dI cI cC sk f H.size ((q59 - q59 / (9 : Int32) * (9 : Int32)) + (1 : Int32)) (q42 - q42 / (10 : Int32) * (10 : Int32)) (0 : Int32) (0 : Int32) x27_lanes x27_spots c_byLeaps x27_load x27_gone x27_held x27_strong c_done c_rn c_rt c_letters c_size c_rp c_seen c_refs c_inRow c_isPic q76 e76) (cwV 4 hts gX3_seeds_X3_comesOver rfl rfl rfl (by decide +kernel) ⟨Nat.le_of_ble_eq_true rfl, Nat.le_of_ble_eq_true rfl⟩) (va_recv hK hP (ci := 3) (q0 := 0) rfl rfl) (As := [.int ((q59 - q59 / (9 : Int32) * (9 : Int32)) + (1 : Int32)), .int (q42 - q42 / (10 : Int32) * (10 : Int32)), .int (0 : Int32), .int (0 : Int32)]) (rest := []) rfl hl.1 rfl (Nat.le_of_ble_eq_true rfl) dX3_seeds_76 ⟨Nat.zero_le _, Nat.zero_le _⟩ (fun H locs hP hD hS => ?_)
        have hP : va_P (dC, dI) vwCl (zwX cI cC f q76.2.1 q76.2.2.1 c_byLeaps q76.2.2.2.1 q76.2.2.2.2.1 q76.2.2.2.2.2.1 q76.2.2.2.2.2.2 c_done c_rn c_rt c_letters c_size c_rp c_seen c_refs c_inRow c_isPic) H := hP
        have hD : va_D A (zwX cI cC f q76.2.1 q76.2.2.1 c_byLeaps q76.2.2.2.1 q76.2.2.2.2.1 q76.2.2.2.2.2.1 q76.2.2.2.2.2.2 c_done c_rn c_rt c_letters c_size c_rp c_seen c_refs c_inRow c_isPic) := hD
        refine lv_if_eq (tgt := 85) hx hb dX3_seeds_79 (by decide) (fun c79 => ?_) (fun c79 => ?_)
        · have h := itT c79 h
          refine lv_iinc (v := (x27_6 + (1 : Int32))) (lv' := [(6, .int (x27_6 + (1 : Int32))), (8, .int ((q59 - q59 / (9 : Int32) * (9 : Int32)) + (1 : Int32))), (5, .int q52), (7, .int (q42 - q42 / (10 : Int32) * (10 : Int32))), (0, .ref (f 0)), (1, .int p1), (4, .int x27_4)]) hx hb dX3_seeds_85 hl (k := 6) rfl rfl (by decide) rfl (fun ls hl => ?_)
          refine lv_goto (tgt := 27) hx hb dX3_seeds_88 (by decide) ?_
          exact ih27 _ _ _ _ _ _ _ _ _ h _ _ _ hP hD hS (lv_sub hl [4, 5, 6, 2, 0] rfl)
        have h := itF c79 h
        refine lv_iinc (v := (x27_4 + (1 : Int32))) (lv' := [(4, .int (x27_4 + (1 : Int32))), (8, .int ((q59 - q59 / (9 : Int32) * (9 : Int32)) + (1 : Int32))), (5, .int q52), (7, .int (q42 - q42 / (10 : Int32) * (10 : Int32))), (0, .ref (f 0)), (1, .int p1), (6, .int x27_6)]) hx hb dX3_seeds_82 hl (k := 5) rfl rfl (by decide) rfl (fun ls hl => ?_)
        refine lv_iinc (v := (x27_6 + (1 : Int32))) (lv' := [(6, .int (x27_6 + (1 : Int32))), (4, .int (x27_4 + (1 : Int32))), (8, .int ((q59 - q59 / (9 : Int32) * (9 : Int32)) + (1 : Int32))), (5, .int q52), (7, .int (q42 - q42 / (10 : Int32) * (10 : Int32))), (0, .ref (f 0)), (1, .int p1)]) hx hb dX3_seeds_85 hl (k := 6) rfl rfl (by decide) rfl (fun ls hl => ?_)
        refine lv_goto (tgt := 27) hx hb dX3_seeds_88 (by decide) ?_
        exact ih27 _ _ _ _ _ _ _ _ _ h _ _ _ hP hD hS (lv_sub hl [5, 6, 1, 3, 0] rfl)
    refine L27 _ (fun k27_4 k27_lanes k27_spots k27_load k27_gone k27_held k27_strong h H locs ls hP hD hS hl => ?_) _ _ _ _ _ _ _ _ _ _ h _ _ _ hP hD hS (lv_sub hl [4, 5, 2, 1, 0] rfl)
    refine lv_iload hx hb dX3_seeds_91 (lv_at hl 0 rfl) ?_
    subst hQ
    exact retRW (zz := ((k27_4, k27_lanes, k27_spots, k27_load, k27_gone, k27_held, k27_strong, c_refs) : Int32 × AR × AR × Int32 × Int32 × Int32 × Int32 × AR)) (fun z => z.1) (fun z => (zwX cI cC f z.2.1 z.2.2.1 c_byLeaps z.2.2.2.1 z.2.2.2.2.1 z.2.2.2.2.2.1 z.2.2.2.2.2.2.1 c_done c_rn c_rt c_letters c_size c_rp c_seen z.2.2.2.2.2.2.2 c_inRow c_isPic)) hx hb hr hlocks rfl hS h rfl hP dX3_seeds_93
  have h := itF c9 h
  refine lv_aload_n hx hb dX3_seeds_12 rfl (lv_at hl 1 rfl) ?_
  refine lv_iload_n hx hb dX3_seeds_13 rfl (lv_at hl 0 rfl) ?_
  obtain ⟨q14, e14, h⟩ := bd_some h
  refine g_rwA (wc := (zwX cI cC f c_lanes c_spots c_byLeaps c_load c_gone c_held c_strong c_done c_rn c_rt c_letters c_size c_rp c_seen c_refs c_inRow c_isPic)) (wc' := (zwX cI cC f c_lanes c_spots c_byLeaps c_load c_gone c_held c_strong c_done c_rn c_rt c_letters c_size c_rp c_seen q14.2 c_inRow c_isPic)) ⟨hx, hb, hml, hown, hts⟩ hE hK hA hP hD hS rfl (mX3_refuse l dC dI cI cC sk f H.size q4 c_lanes c_spots c_byLeaps c_load c_gone c_held c_strong c_done c_rn c_rt c_letters c_size c_rp c_seen c_refs c_inRow c_isPic q14 e14) (cwV 1 hts gX3_seeds_X3_refuse rfl rfl rfl (by decide +kernel) ⟨Nat.le_of_ble_eq_true rfl, Nat.le_of_ble_eq_true rfl⟩) (va_recv hK hP (ci := 3) (q0 := 0) rfl rfl) (As := [.int q4]) (rest := []) rfl hl.1 rfl (Nat.le_of_ble_eq_true rfl) dX3_seeds_14 ⟨Nat.zero_le _, Nat.zero_le _⟩ (fun H locs hP hD hS => ?_)
  have hP : va_P (dC, dI) vwCl (zwX cI cC f c_lanes c_spots c_byLeaps c_load c_gone c_held c_strong c_done c_rn c_rt c_letters c_size c_rp c_seen q14.2 c_inRow c_isPic) H := hP
  have hD : va_D A (zwX cI cC f c_lanes c_spots c_byLeaps c_load c_gone c_held c_strong c_done c_rn c_rt c_letters c_size c_rp c_seen q14.2 c_inRow c_isPic) := hD
  subst hQ
  exact retRW (zz := ((q14.1, c_lanes, c_spots, c_load, c_gone, c_held, c_strong, q14.2) : Int32 × AR × AR × Int32 × Int32 × Int32 × Int32 × AR)) (fun z => z.1) (fun z => (zwX cI cC f z.2.1 z.2.2.1 c_byLeaps z.2.2.2.1 z.2.2.2.2.1 z.2.2.2.2.2.1 z.2.2.2.2.2.2.1 c_done c_rn c_rt c_letters c_size c_rp c_seen z.2.2.2.2.2.2.2 c_inRow c_isPic)) hx hb hr hlocks rfl hS h rfl hP dX3_seeds_17
