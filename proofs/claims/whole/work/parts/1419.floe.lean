theorem dX3_fitting_0 : decode cX3_fitting 0 = .ok (.iload_n 1, 1) := by decide +kernel
theorem dX3_fitting_1 : decode cX3_fitting 1 = .ok (.ifCond .lt 8, 3) := by decide +kernel
theorem dX3_fitting_4 : decode cX3_fitting 4 = .ok (.iload_n 1, 1) := by decide +kernel
theorem dX3_fitting_5 : decode cX3_fitting 5 = .ok (.iconst 1, 1) := by decide +kernel
theorem dX3_fitting_6 : decode cX3_fitting 6 = .ok (.if_icmp .le 10, 3) := by decide +kernel
theorem dX3_fitting_9 : decode cX3_fitting 9 = .ok (.aload_n 0, 1) := by decide +kernel
theorem dX3_fitting_10 : decode cX3_fitting 10 = .ok (.bipush (-2), 2) := by decide +kernel
theorem dX3_fitting_12 : decode cX3_fitting 12 = .ok (.invokevirtual 54, 3) := by decide +kernel
theorem dX3_fitting_15 : decode cX3_fitting 15 = .ok (.ireturn, 1) := by decide +kernel
theorem dX3_fitting_16 : decode cX3_fitting 16 = .ok (.iconst 0, 1) := by decide +kernel
theorem dX3_fitting_17 : decode cX3_fitting 17 = .ok (.istore_n 2, 1) := by decide +kernel
theorem dX3_fitting_18 : decode cX3_fitting 18 = .ok (.bipush (-9), 2) := by decide +kernel
theorem dX3_fitting_20 : decode cX3_fitting 20 = .ok (.istore_n 3, 1) := by decide +kernel
theorem dX3_fitting_21 : decode cX3_fitting 21 = .ok (.iconst 0, 1) := by decide +kernel
theorem dX3_fitting_22 : decode cX3_fitting 22 = .ok (.istore 4, 2) := by decide +kernel
theorem dX3_fitting_24 : decode cX3_fitting 24 = .ok (.iload 4, 2) := by decide +kernel
theorem dX3_fitting_26 : decode cX3_fitting 26 = .ok (.iconst 2, 1) := by decide +kernel
theorem dX3_fitting_27 : decode cX3_fitting 27 = .ok (.if_icmp .gt 58, 3) := by decide +kernel
theorem dX3_fitting_30 : decode cX3_fitting 30 = .ok (.bipush (-2), 2) := by decide +kernel
theorem dX3_fitting_32 : decode cX3_fitting 32 = .ok (.istore 5, 2) := by decide +kernel
theorem dX3_fitting_34 : decode cX3_fitting 34 = .ok (.iload 5, 2) := by decide +kernel
theorem dX3_fitting_36 : decode cX3_fitting 36 = .ok (.iconst 2, 1) := by decide +kernel
theorem dX3_fitting_37 : decode cX3_fitting 37 = .ok (.if_icmp .gt 42, 3) := by decide +kernel
theorem dX3_fitting_40 : decode cX3_fitting 40 = .ok (.aload_n 0, 1) := by decide +kernel
theorem dX3_fitting_41 : decode cX3_fitting 41 = .ok (.iload 4, 2) := by decide +kernel
theorem dX3_fitting_43 : decode cX3_fitting 43 = .ok (.iload 5, 2) := by decide +kernel
theorem dX3_fitting_45 : decode cX3_fitting 45 = .ok (.invokevirtual 141, 3) := by decide +kernel
theorem dX3_fitting_48 : decode cX3_fitting 48 = .ok (.ifCond .eq 25, 3) := by decide +kernel
theorem dX3_fitting_51 : decode cX3_fitting 51 = .ok (.iload_n 2, 1) := by decide +kernel
theorem dX3_fitting_52 : decode cX3_fitting 52 = .ok (.ifCond .ne 16, 3) := by decide +kernel
theorem dX3_fitting_55 : decode cX3_fitting 55 = .ok (.bipush 10, 2) := by decide +kernel
theorem dX3_fitting_57 : decode cX3_fitting 57 = .ok (.iload 4, 2) := by decide +kernel
theorem dX3_fitting_59 : decode cX3_fitting 59 = .ok (.imul, 1) := by decide +kernel
theorem dX3_fitting_60 : decode cX3_fitting 60 = .ok (.iload 5, 2) := by decide +kernel
theorem dX3_fitting_62 : decode cX3_fitting 62 = .ok (.iadd, 1) := by decide +kernel
theorem dX3_fitting_63 : decode cX3_fitting 63 = .ok (.iconst 2, 1) := by decide +kernel
theorem dX3_fitting_64 : decode cX3_fitting 64 = .ok (.iadd, 1) := by decide +kernel
theorem dX3_fitting_65 : decode cX3_fitting 65 = .ok (.goto 4, 3) := by decide +kernel
theorem dX3_fitting_68 : decode cX3_fitting 68 = .ok (.iload_n 3, 1) := by decide +kernel
theorem dX3_fitting_69 : decode cX3_fitting 69 = .ok (.istore_n 3, 1) := by decide +kernel
theorem dX3_fitting_70 : decode cX3_fitting 70 = .ok (.iinc 2 1, 3) := by decide +kernel
theorem dX3_fitting_73 : decode cX3_fitting 73 = .ok (.iinc 5 1, 3) := by decide +kernel
theorem dX3_fitting_76 : decode cX3_fitting 76 = .ok (.goto (-42), 3) := by decide +kernel
theorem dX3_fitting_79 : decode cX3_fitting 79 = .ok (.iinc 4 1, 3) := by decide +kernel
theorem dX3_fitting_82 : decode cX3_fitting 82 = .ok (.goto (-58), 3) := by decide +kernel
theorem dX3_fitting_85 : decode cX3_fitting 85 = .ok (.iload_n 1, 1) := by decide +kernel
theorem dX3_fitting_86 : decode cX3_fitting 86 = .ok (.ifCond .ne 7, 3) := by decide +kernel
theorem dX3_fitting_89 : decode cX3_fitting 89 = .ok (.iload_n 2, 1) := by decide +kernel
theorem dX3_fitting_90 : decode cX3_fitting 90 = .ok (.goto 4, 3) := by decide +kernel
theorem dX3_fitting_93 : decode cX3_fitting 93 = .ok (.iload_n 3, 1) := by decide +kernel
theorem dX3_fitting_94 : decode cX3_fitting 94 = .ok (.ireturn, 1) := by decide +kernel
set_option maxRecDepth 20000 in
theorem ggX3_fitting_X3_refuse : GoodIn wsX3_fitting wsX3_refuse := goodIn_r _ [5, 6, 24, 25, 26, 27, 28, 29, 30, 31, 32] (by decide +kernel) (by decide +kernel)
set_option maxRecDepth 20000 in
theorem gX3_fitting_X3_refuse : GoodIn wsX3_fitting (wsV RX3 54 RX3 yX3_refuse wsX3_refuse) := goodIn_app (goodIn_of _ (by decide +kernel)) ggX3_fitting_X3_refuse
set_option maxRecDepth 20000 in
theorem ggX3_fitting_X3_fitsRow : GoodIn wsX3_fitting wsX3_fitsRow := goodIn_r _ [10, 11, 12, 13, 14, 15, 16, 17, 18, 19, 20, 21, 22, 4, 23, 24, 25, 26, 27, 28, 29, 30, 31, 32] (by decide +kernel) (by decide +kernel)
set_option maxRecDepth 20000 in
theorem gX3_fitting_X3_fitsRow : GoodIn wsX3_fitting (wsV RX3 141 RX3 yX3_fitsRow wsX3_fitsRow) := goodIn_app (goodIn_of _ (by decide +kernel)) ggX3_fitting_X3_fitsRow
set_option maxHeartbeats 4000000 in
set_option maxRecDepth 100000 in
theorem mX3_fitting (l : Launch) (dC : Nat → ClassId) (dI : Nat → Nat → Nat) (cI cC : ClassId) (sk : (Nat → Nat) × (Nat → Nat)) (f : Nat → Nat) (sz : Nat) (p1 : Int32) (c_lanes : AR) (c_spots : AR) (c_byLeaps : AR) (c_load : Int32) (c_gone : Int32) (c_held : Int32) (c_strong : Int32) (c_done : Int32) (c_rn : RT) (c_rt : RT) (c_letters : AR) (c_size : Int32) (c_rp : RT) (c_seen : AR) (c_refs : AR) (c_inRow : Int32) (c_isPic : Int32) (z : Int32 × AR) (h : fX3_fitting p1 c_seen c_refs c_inRow = some z) : cRW l yX3_fitting wsX3_fitting (RMk 3 71) sk (dC, dI) (tyz cI cC) sz (zwX cI cC f c_lanes c_spots c_byLeaps c_load c_gone c_held c_strong c_done c_rn c_rt c_letters c_size c_rp c_seen c_refs c_inRow c_isPic) (zwX cI cC f c_lanes c_spots c_byLeaps c_load c_gone c_held c_strong c_done c_rn c_rt c_letters c_size c_rp c_seen z.2 c_inRow c_isPic) [.ref (f 0), .int p1] z.1 := by
  refine ofRW (cc := cX3_fitting) (maxL := 6) (ret := (some .int)) (own := RX3) (plainFor_of_name (by decide)) rfl rfl (Nat.le_of_ble_eq_true rfl) ?_
  intro p e s m args below meth c A hA hx hb hml hr hts hown hlocks hE hK hP hD hS ls hl
  generalize hQ : qRW _ _ _ _ _ _ _ = Q
  have hl : lv_has ls 6 [(0, .ref (f 0)), (1, .int p1)] := hl
  rw [fX3_fitting] at h
  refine lv_iload_n hx hb dX3_fitting_0 rfl (lv_at hl 1 rfl) ?_
  refine jnW (fun (v9 : Unit) => ∀ (H : Heap) (locs : List Loc) (ls : Array Slot), va_P (dC, dI) vwCl (zwX cI cC f c_lanes c_spots c_byLeaps c_load c_gone c_held c_strong c_done c_rn c_rt c_letters c_size c_rp c_seen c_refs c_inRow c_isPic) H → va_D A (zwX cI cC f c_lanes c_spots c_byLeaps c_load c_gone c_held c_strong c_done c_rn c_rt c_letters c_size c_rp c_seen c_refs c_inRow c_isPic) → va_S A s.heap H locs → lv_has ls 6 [(0, .ref (f 0))] → W p l e (RMk 3 71) s m args below meth c H locs 0 0 Q (F0 m 9 ls [])) h (fun v9 h H locs ls hP hD hS hl => ?_) (fun J9 j9 h => ?_)
  · refine lv_aload_n hx hb dX3_fitting_9 rfl (lv_at hl 0 rfl) ?_
    refine lv_bipush (v := (-2 : Int32)) hx hb dX3_fitting_10 (by decide) ?_
    obtain ⟨q12, e12, h⟩ := bd_some h
    refine g_rwA (wc := (zwX cI cC f c_lanes c_spots c_byLeaps c_load c_gone c_held c_strong c_done c_rn c_rt c_letters c_size c_rp c_seen c_refs c_inRow c_isPic)) (wc' := (zwX cI cC f c_lanes c_spots c_byLeaps c_load c_gone c_held c_strong c_done c_rn c_rt c_letters c_size c_rp c_seen q12.2 c_inRow c_isPic)) ⟨hx, hb, hml, hown, hts⟩ hE hK hA hP hD hS rfl (mX3_refuse l dC dI cI cC sk f H.size (-2 : Int32) c_lanes c_spots c_byLeaps c_load c_gone c_held c_strong c_done c_rn c_rt c_letters c_size c_rp c_seen c_refs c_inRow c_isPic q12 e12) (cwV 1 hts gX3_fitting_X3_refuse rfl rfl rfl (by decide +kernel) ⟨Nat.le_of_ble_eq_true rfl, Nat.le_of_ble_eq_true rfl⟩) (va_recv hK hP (ci := 3) (q0 := 0) rfl rfl) (As := [.int (-2 : Int32)]) (rest := []) rfl hl.1 rfl (Nat.le_of_ble_eq_true rfl) dX3_fitting_12 ⟨Nat.zero_le _, Nat.zero_le _⟩ (fun H locs hP hD hS => ?_)
    have hP : va_P (dC, dI) vwCl (zwX cI cC f c_lanes c_spots c_byLeaps c_load c_gone c_held c_strong c_done c_rn c_rt c_letters c_size c_rp c_seen q12.2 c_inRow c_isPic) H := hP
    have hD : va_D A (zwX cI cC f c_lanes c_spots c_byLeaps c_load c_gone c_held c_strong c_done c_rn c_rt c_letters c_size c_rp c_seen q12.2 c_inRow c_isPic) := hD
    subst hQ
    exact retRW (zz := ((q12.1, q12.2) : Int32 × AR)) (fun z => z.1) (fun z => (zwX cI cC f c_lanes c_spots c_byLeaps c_load c_gone c_held c_strong c_done c_rn c_rt c_letters c_size c_rp c_seen z.2 c_inRow c_isPic)) hx hb hr hlocks rfl hS h rfl hP dX3_fitting_15
  refine lv_if_lt (tgt := 9) hx hb dX3_fitting_1 (by decide) (fun c1 => ?_) (fun c1 => ?_)
  · have h := itT c1 h
    exact j9 _ h _ _ _ hP hD hS (lv_sub hl [0] rfl)
  have h := itF c1 h
  refine lv_iload_n hx hb dX3_fitting_4 rfl (lv_at hl 1 rfl) ?_
  refine lv_iconst (v := (1 : Int32)) hx hb dX3_fitting_5 (by decide) ?_
  refine lv_icmp_le (tgt := 16) hx hb dX3_fitting_6 (by decide) (fun c6 => ?_) (fun c6 => ?_)
  · have h := itT c6 h
    refine lv_iconst (v := (0 : Int32)) hx hb dX3_fitting_16 (by decide) ?_
    refine lv_istore_n (lv' := [(2, .int (0 : Int32)), (0, .ref (f 0)), (1, .int p1)]) hx hb dX3_fitting_17 rfl hl (by decide) rfl (fun ls hl => ?_)
    refine lv_bipush (v := (-9 : Int32)) hx hb dX3_fitting_18 (by decide) ?_
    refine lv_istore_n (lv' := [(3, .int (-9 : Int32)), (2, .int (0 : Int32)), (0, .ref (f 0)), (1, .int p1)]) hx hb dX3_fitting_20 rfl hl (by decide) rfl (fun ls hl => ?_)
    refine lv_iconst (v := (0 : Int32)) hx hb dX3_fitting_21 (by decide) ?_
    refine lv_istore (lv' := [(4, .int (0 : Int32)), (3, .int (-9 : Int32)), (2, .int (0 : Int32)), (0, .ref (f 0)), (1, .int p1)]) hx hb dX3_fitting_22 hl (by decide) rfl (fun ls hl => ?_)
    have L24 : ∀ (K24 : Int32 → Int32 → Option (Int32 × AR)), (∀ (k24_2 : Int32) (k24_3 : Int32), K24 k24_2 k24_3 = some z → ∀ (H : Heap) (locs : List Loc) (ls : Array Slot), va_P (dC, dI) vwCl (zwX cI cC f c_lanes c_spots c_byLeaps c_load c_gone c_held c_strong c_done c_rn c_rt c_letters c_size c_rp c_seen c_refs c_inRow c_isPic) H → va_D A (zwX cI cC f c_lanes c_spots c_byLeaps c_load c_gone c_held c_strong c_done c_rn c_rt c_letters c_size c_rp c_seen c_refs c_inRow c_isPic) → va_S A s.heap H locs → lv_has ls 6 [(1, .int p1), (2, .int k24_2), (3, .int k24_3)] → W p l e (RMk 3 71) s m args below meth c H locs 0 0 Q (F0 m 85 ls [])) → ∀ (n : Nat) (x24_2 : Int32) (x24_3 : Int32) (x24_4 : Int32), fX3_fitting_L24 c_inRow c_seen K24 n x24_2 x24_3 x24_4 = some z → ∀ (H : Heap) (locs : List Loc) (ls : Array Slot), va_P (dC, dI) vwCl (zwX cI cC f c_lanes c_spots c_byLeaps c_load c_gone c_held c_strong c_done c_rn c_rt c_letters c_size c_rp c_seen c_refs c_inRow c_isPic) H → va_D A (zwX cI cC f c_lanes c_spots c_byLeaps c_load c_gone c_held c_strong c_done c_rn c_rt c_letters c_size c_rp c_seen c_refs c_inRow c_isPic) → va_S A s.heap H locs → lv_has ls 6 [(0, .ref (f 0)), (1, .int p1), (2, .int x24_2), (3, .int x24_3), (4, .int x24_4)] → W p l e (RMk 3 71) s m args below meth c H locs 0 0 Q (F0 m 24 ls []) := by
      intro K24 kx24 n
      induction n with
      | zero => intro x24_2 x24_3 x24_4 h; rw [fX3_fitting_L24] at h; cases h
      | succ n ih24 =>
        intro x24_2 x24_3 x24_4 h H locs ls hP hD hS hl
        rw [fX3_fitting_L24] at h
        refine lv_iload hx hb dX3_fitting_24 (lv_at hl 4 rfl) ?_
        refine lv_iconst (v := (2 : Int32)) hx hb dX3_fitting_26 (by decide) ?_
        refine lv_icmp_gt (tgt := 85) hx hb dX3_fitting_27 (by decide) (fun c27 => ?_) (fun c27 => ?_)
        · have h := itT c27 h
          exact kx24 _ _ h _ _ _ hP hD hS (lv_sub hl [1, 2, 3] rfl)
        have h := itF c27 h
        refine lv_bipush (v := (-2 : Int32)) hx hb dX3_fitting_30 (by decide) ?_
        refine lv_istore (lv' := [(5, .int (-2 : Int32)), (0, .ref (f 0)), (1, .int p1), (2, .int x24_2), (3, .int x24_3), (4, .int x24_4)]) hx hb dX3_fitting_32 hl (by decide) rfl (fun ls hl => ?_)
        have L34 : ∀ (K34 : Int32 → Int32 → Option (Int32 × AR)), (∀ (k34_2 : Int32) (k34_3 : Int32), K34 k34_2 k34_3 = some z → ∀ (H : Heap) (locs : List Loc) (ls : Array Slot), va_P (dC, dI) vwCl (zwX cI cC f c_lanes c_spots c_byLeaps c_load c_gone c_held c_strong c_done c_rn c_rt c_letters c_size c_rp c_seen c_refs c_inRow c_isPic) H → va_D A (zwX cI cC f c_lanes c_spots c_byLeaps c_load c_gone c_held c_strong c_done c_rn c_rt c_letters c_size c_rp c_seen c_refs c_inRow c_isPic) → va_S A s.heap H locs → lv_has ls 6 [(0, .ref (f 0)), (1, .int p1), (2, .int k34_2), (3, .int k34_3), (4, .int x24_4)] → W p l e (RMk 3 71) s m args below meth c H locs 0 0 Q (F0 m 79 ls [])) → ∀ (n : Nat) (x34_2 : Int32) (x34_3 : Int32) (x34_5 : Int32), fX3_fitting_L34 c_inRow c_seen x24_4 K34 n x34_2 x34_3 x34_5 = some z → ∀ (H : Heap) (locs : List Loc) (ls : Array Slot), va_P (dC, dI) vwCl (zwX cI cC f c_lanes c_spots c_byLeaps c_load c_gone c_held c_strong c_done c_rn c_rt c_letters c_size c_rp c_seen c_refs c_inRow c_isPic) H → va_D A (zwX cI cC f c_lanes c_spots c_byLeaps c_load c_gone c_held c_strong c_done c_rn c_rt c_letters c_size c_rp c_seen c_refs c_inRow c_isPic) → va_S A s.heap H locs → lv_has ls 6 [(0, .ref (f 0)), (1, .int p1), (2, .int x34_2), (3, .int x34_3), (4, .int x24_4), (5, .int x34_5)] → W p l e (RMk 3 71) s m args below meth c H locs 0 0 Q (F0 m 34 ls []) := by
          intro K34 kx34 n
          induction n with
          | zero => intro x34_2 x34_3 x34_5 h; rw [fX3_fitting_L34] at h; cases h
          | succ n ih34 =>
            intro x34_2 x34_3 x34_5 h H locs ls hP hD hS hl
            rw [fX3_fitting_L34] at h
            refine lv_iload hx hb dX3_fitting_34 (lv_at hl 5 rfl) ?_
            refine lv_iconst (v := (2 : Int32)) hx hb dX3_fitting_36 (by decide) ?_
            refine lv_icmp_gt (tgt := 79) hx hb dX3_fitting_37 (by decide) (fun c37 => ?_) (fun c37 => ?_)
            · have h := itT c37 h
              exact kx34 _ _ h _ _ _ hP hD hS (lv_sub hl [0, 1, 2, 3, 4] rfl)
            have h := itF c37 h
            refine lv_aload_n hx hb dX3_fitting_40 rfl (lv_at hl 0 rfl) ?_
            refine lv_iload hx hb dX3_fitting_41 (lv_at hl 4 rfl) ?_
            refine lv_iload hx hb dX3_fitting_43 (lv_at hl 5 rfl) ?_
            obtain ⟨q45, e45, h⟩ := bd_some h
            refine g_roV (wc := (zwX cI cC f c_lanes c_spots c_byLeaps c_load c_gone c_held c_strong c_done c_rn c_rt c_letters c_size c_rp c_seen c_refs c_inRow c_isPic)) ⟨hx, hb, hml, hown, hts⟩ hE hK hP hS [0, 1, 2, 3, 4, 5, 6, 7, 8, 9, 10, 11, 12, 13, 14, 15, 16, 17, 18, 19, 20, 21, 22, 23, 24, 25, 26] rfl (mX3_fitsRow l dC dI cI cC sk f x24_4 x34_5 c_lanes c_spots c_byLeaps c_load c_gone c_held c_strong c_done c_rn c_rt c_letters c_size c_rp c_seen c_refs c_inRow c_isPic q45 e45) (cwV 2 hts gX3_fitting_X3_fitsRow rfl rfl rfl (by decide +kernel) ⟨Nat.le_of_ble_eq_true rfl, Nat.le_of_ble_eq_true rfl⟩) (va_recv hK hP (ci := 3) (q0 := 0) rfl rfl) (As := [.int x24_4, .int x34_5]) (rest := []) rfl hl.1 rfl (Nat.le_of_ble_eq_true rfl) dX3_fitting_45 ⟨Nat.zero_le _, Nat.zero_le _⟩ (fun H locs hP hS => ?_)
            refine lv_if_eq (tgt := 73) hx hb dX3_fitting_48 (by decide) (fun c48 => ?_) (fun c48 => ?_)
            · have h := itT c48 h
              refine lv_iinc (v := (x34_5 + (1 : Int32))) (lv' := [(5, .int (x34_5 + (1 : Int32))), (0, .ref (f 0)), (1, .int p1), (2, .int x34_2), (3, .int x34_3), (4, .int x24_4)]) hx hb dX3_fitting_73 hl (k := 5) rfl rfl (by decide) rfl (fun ls hl => ?_)
              refine lv_goto (tgt := 34) hx hb dX3_fitting_76 (by decide) ?_
              exact ih34 _ _ _ h _ _ _ hP hD hS (lv_sub hl [1, 2, 3, 4, 5, 0] rfl)
            have h := itF c48 h
            refine lv_iload_n hx hb dX3_fitting_51 rfl (lv_at hl 2 rfl) ?_
            refine lv_if_ne (tgt := 68) hx hb dX3_fitting_52 (by decide) (fun c52 => ?_) (fun c52 => ?_)
            · have h := itF c52 h
              refine lv_iload_n hx hb dX3_fitting_68 rfl (lv_at hl 3 rfl) ?_
              refine lv_istore_n (lv' := [(3, .int x34_3), (0, .ref (f 0)), (1, .int p1), (2, .int x34_2), (4, .int x24_4), (5, .int x34_5)]) hx hb dX3_fitting_69 rfl hl (by decide) rfl (fun ls hl => ?_)
              refine lv_iinc (v := (x34_2 + (1 : Int32))) (lv' := [(2, .int (x34_2 + (1 : Int32))), (3, .int x34_3), (0, .ref (f 0)), (1, .int p1), (4, .int x24_4), (5, .int x34_5)]) hx hb dX3_fitting_70 hl (k := 3) rfl rfl (by decide) rfl (fun ls hl => ?_)
              refine lv_iinc (v := (x34_5 + (1 : Int32))) (lv' := [(5, .int (x34_5 + (1 : Int32))), (2, .int (x34_2 + (1 : Int32))), (3, .int x34_3), (0, .ref (f 0)), (1, .int p1), (4, .int x24_4)]) hx hb dX3_fitting_73 hl (k := 5) rfl rfl (by decide) rfl (fun ls hl => ?_)
              refine lv_goto (tgt := 34) hx hb dX3_fitting_76 (by decide) ?_
              exact ih34 _ _ _ h _ _ _ hP hD hS (lv_sub hl [3, 4, 1, 2, 5, 0] rfl)
            have h := itT c52 h
            refine lv_bipush (v := (10 : Int32)) hx hb dX3_fitting_55 (by decide) ?_
            refine lv_iload hx hb dX3_fitting_57 (lv_at hl 4 rfl) ?_
            refine lv_imul hx hb dX3_fitting_59 ?_
            refine lv_iload hx hb dX3_fitting_60 (lv_at hl 5 rfl) ?_
            refine lv_iadd hx hb dX3_fitting_62 ?_
            refine lv_iconst (v := (2 : Int32)) hx hb dX3_fitting_63 (by decide) ?_
            refine lv_iadd hx hb dX3_fitting_64 ?_
            refine lv_goto (tgt := 69) hx hb dX3_fitting_65 (by decide) ?_
            refine lv_istore_n (lv' := [(3, .int ((((10 : Int32) * x24_4) + x34_5) + (2 : Int32))), (0, .ref (f 0)), (1, .int p1), (2, .int x34_2), (4, .int x24_4), (5, .int x34_5)]) hx hb dX3_fitting_69 rfl hl (by decide) rfl (fun ls hl => ?_)
            refine lv_iinc (v := (x34_2 + (1 : Int32))) (lv' := [(2, .int (x34_2 + (1 : Int32))), (3, .int ((((10 : Int32) * x24_4) + x34_5) + (2 : Int32))), (0, .ref (f 0)), (1, .int p1), (4, .int x24_4), (5, .int x34_5)]) hx hb dX3_fitting_70 hl (k := 3) rfl rfl (by decide) rfl (fun ls hl => ?_)
            refine lv_iinc (v := (x34_5 + (1 : Int32))) (lv' := [(5, .int (x34_5 + (1 : Int32))), (2, .int (x34_2 + (1 : Int32))), (3, .int ((((10 : Int32) * x24_4) + x34_5) + (2 : Int32))), (0, .ref (f 0)), (1, .int p1), (4, .int x24_4)]) hx hb dX3_fitting_73 hl (k := 5) rfl rfl (by decide) rfl (fun ls hl => ?_)
            refine lv_goto (tgt := 34) hx hb dX3_fitting_76 (by decide) ?_
            exact ih34 _ _ _ h _ _ _ hP hD hS (lv_sub hl [3, 4, 1, 2, 5, 0] rfl)
        refine L34 _ (fun k34_2 k34_3 h H locs ls hP hD hS hl => ?_) _ _ _ _ h _ _ _ hP hD hS (lv_sub hl [1, 2, 3, 4, 5, 0] rfl)
        refine lv_iinc (v := (x24_4 + (1 : Int32))) (lv' := [(4, .int (x24_4 + (1 : Int32))), (0, .ref (f 0)), (1, .int p1), (2, .int k34_2), (3, .int k34_3)]) hx hb dX3_fitting_79 hl (k := 4) rfl rfl (by decide) rfl (fun ls hl => ?_)
        refine lv_goto (tgt := 24) hx hb dX3_fitting_82 (by decide) ?_
        exact ih24 _ _ _ h _ _ _ hP hD hS (lv_sub hl [1, 2, 3, 4, 0] rfl)
    refine L24 _ (fun k24_2 k24_3 h H locs ls hP hD hS hl => ?_) _ _ _ _ h _ _ _ hP hD hS (lv_sub hl [3, 4, 2, 1, 0] rfl)
    refine lv_iload_n hx hb dX3_fitting_85 rfl (lv_at hl 0 rfl) ?_
    refine lv_if_ne (tgt := 93) hx hb dX3_fitting_86 (by decide) (fun c86 => ?_) (fun c86 => ?_)
    · have h := itF c86 h
      refine lv_iload_n hx hb dX3_fitting_93 rfl (lv_at hl 2 rfl) ?_
      subst hQ
      exact retRW (zz := ((k24_3, c_refs) : Int32 × AR)) (fun z => z.1) (fun z => (zwX cI cC f c_lanes c_spots c_byLeaps c_load c_gone c_held c_strong c_done c_rn c_rt c_letters c_size c_rp c_seen z.2 c_inRow c_isPic)) hx hb hr hlocks rfl hS h rfl hP dX3_fitting_94
    have h := itT c86 h
    refine lv_iload_n hx hb dX3_fitting_89 rfl (lv_at hl 1 rfl) ?_
    refine lv_goto (tgt := 94) hx hb dX3_fitting_90 (by decide) ?_
    subst hQ
    exact retRW (zz := ((k24_2, c_refs) : Int32 × AR)) (fun z => z.1) (fun z => (zwX cI cC f c_lanes c_spots c_byLeaps c_load c_gone c_held c_strong c_done c_rn c_rt c_letters c_size c_rp c_seen z.2 c_inRow c_isPic)) hx hb hr hlocks rfl hS h rfl hP dX3_fitting_94
  have h := itF c6 h
  exact j9 _ h _ _ _ hP hD hS (lv_sub hl [0] rfl)
