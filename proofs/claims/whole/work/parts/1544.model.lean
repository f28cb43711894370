theorem dX4_leadsTo_0 : decode cX4_leadsTo 0 = .ok (.iload_n 2, 1) := by decide +kernel
theorem dX4_leadsTo_1 : decode cX4_leadsTo 1 = .ok (.bipush 18, 2) := by decide +kernel
theorem dX4_leadsTo_3 : decode cX4_leadsTo 3 = .ok (.if_icmp .ne 6, 3) := by decide +kernel
theorem dX4_leadsTo_6 : decode cX4_leadsTo 6 = .ok (.bipush (-9), 2) := by decide +kernel
theorem dX4_leadsTo_8 : decode cX4_leadsTo 8 = .ok (.ireturn, 1) := by decide +kernel
theorem dX4_leadsTo_9 : decode cX4_leadsTo 9 = .ok (.iload_n 1, 1) := by decide +kernel
theorem dX4_leadsTo_10 : decode cX4_leadsTo 10 = .ok (.bipush 9, 2) := by decide +kernel
theorem dX4_leadsTo_12 : decode cX4_leadsTo 12 = .ok (.if_icmp .ne 22, 3) := by decide +kernel
theorem dX4_leadsTo_15 : decode cX4_leadsTo 15 = .ok (.aload_n 0, 1) := by decide +kernel
theorem dX4_leadsTo_16 : decode cX4_leadsTo 16 = .ok (.iload_n 2, 1) := by decide +kernel
theorem dX4_leadsTo_17 : decode cX4_leadsTo 17 = .ok (.iload_n 2, 1) := by decide +kernel
theorem dX4_leadsTo_18 : decode cX4_leadsTo 18 = .ok (.iload_n 3, 1) := by decide +kernel
theorem dX4_leadsTo_19 : decode cX4_leadsTo 19 = .ok (.iload 4, 2) := by decide +kernel
theorem dX4_leadsTo_21 : decode cX4_leadsTo 21 = .ok (.invokevirtual 163, 3) := by decide +kernel
theorem dX4_leadsTo_24 : decode cX4_leadsTo 24 = .ok (.ifCond .eq 7, 3) := by decide +kernel
theorem dX4_leadsTo_27 : decode cX4_leadsTo 27 = .ok (.iload_n 2, 1) := by decide +kernel
theorem dX4_leadsTo_28 : decode cX4_leadsTo 28 = .ok (.goto 5, 3) := by decide +kernel
theorem dX4_leadsTo_31 : decode cX4_leadsTo 31 = .ok (.bipush (-9), 2) := by decide +kernel
theorem dX4_leadsTo_33 : decode cX4_leadsTo 33 = .ok (.ireturn, 1) := by decide +kernel
theorem dX4_leadsTo_34 : decode cX4_leadsTo 34 = .ok (.iload_n 1, 1) := by decide +kernel
theorem dX4_leadsTo_35 : decode cX4_leadsTo 35 = .ok (.bipush 10, 2) := by decide +kernel
theorem dX4_leadsTo_37 : decode cX4_leadsTo 37 = .ok (.if_icmp .eq 9, 3) := by decide +kernel
theorem dX4_leadsTo_40 : decode cX4_leadsTo 40 = .ok (.iload_n 1, 1) := by decide +kernel
theorem dX4_leadsTo_41 : decode cX4_leadsTo 41 = .ok (.bipush 11, 2) := by decide +kernel
theorem dX4_leadsTo_43 : decode cX4_leadsTo 43 = .ok (.if_icmp .ne 31, 3) := by decide +kernel
theorem dX4_leadsTo_46 : decode cX4_leadsTo 46 = .ok (.iload_n 2, 1) := by decide +kernel
theorem dX4_leadsTo_47 : decode cX4_leadsTo 47 = .ok (.bipush 10, 2) := by decide +kernel
theorem dX4_leadsTo_49 : decode cX4_leadsTo 49 = .ok (.if_icmp .ge 22, 3) := by decide +kernel
theorem dX4_leadsTo_52 : decode cX4_leadsTo 52 = .ok (.iload_n 2, 1) := by decide +kernel
theorem dX4_leadsTo_53 : decode cX4_leadsTo 53 = .ok (.iload_n 1, 1) := by decide +kernel
theorem dX4_leadsTo_54 : decode cX4_leadsTo 54 = .ok (.bipush 10, 2) := by decide +kernel
theorem dX4_leadsTo_56 : decode cX4_leadsTo 56 = .ok (.if_icmp .ne 7, 3) := by decide +kernel
theorem dX4_leadsTo_59 : decode cX4_leadsTo 59 = .ok (.iconst (-1), 1) := by decide +kernel
theorem dX4_leadsTo_60 : decode cX4_leadsTo 60 = .ok (.goto 4, 3) := by decide +kernel
theorem dX4_leadsTo_63 : decode cX4_leadsTo 63 = .ok (.iconst 1, 1) := by decide +kernel
theorem dX4_leadsTo_64 : decode cX4_leadsTo 64 = .ok (.iadd, 1) := by decide +kernel
theorem dX4_leadsTo_65 : decode cX4_leadsTo 65 = .ok (.invokestatic 138, 3) := by decide +kernel
theorem dX4_leadsTo_68 : decode cX4_leadsTo 68 = .ok (.goto 5, 3) := by decide +kernel
theorem dX4_leadsTo_71 : decode cX4_leadsTo 71 = .ok (.bipush (-9), 2) := by decide +kernel
theorem dX4_leadsTo_73 : decode cX4_leadsTo 73 = .ok (.ireturn, 1) := by decide +kernel
theorem dX4_leadsTo_74 : decode cX4_leadsTo 74 = .ok (.iload_n 1, 1) := by decide +kernel
theorem dX4_leadsTo_75 : decode cX4_leadsTo 75 = .ok (.bipush 8, 2) := by decide +kernel
theorem dX4_leadsTo_77 : decode cX4_leadsTo 77 = .ok (.if_icmp .ne 8, 3) := by decide +kernel
theorem dX4_leadsTo_80 : decode cX4_leadsTo 80 = .ok (.bipush 18, 2) := by decide +kernel
theorem dX4_leadsTo_82 : decode cX4_leadsTo 82 = .ok (.goto 7, 3) := by decide +kernel
theorem dX4_leadsTo_85 : decode cX4_leadsTo 85 = .ok (.bipush 10, 2) := by decide +kernel
theorem dX4_leadsTo_87 : decode cX4_leadsTo 87 = .ok (.iload_n 1, 1) := by decide +kernel
theorem dX4_leadsTo_88 : decode cX4_leadsTo 88 = .ok (.iadd, 1) := by decide +kernel
theorem dX4_leadsTo_89 : decode cX4_leadsTo 89 = .ok (.istore 5, 2) := by decide +kernel
theorem dX4_leadsTo_91 : decode cX4_leadsTo 91 = .ok (.iload_n 1, 1) := by decide +kernel
theorem dX4_leadsTo_92 : decode cX4_leadsTo 92 = .ok (.bipush 12, 2) := by decide +kernel
theorem dX4_leadsTo_94 : decode cX4_leadsTo 94 = .ok (.if_icmp .ne 31, 3) := by decide +kernel
theorem dX4_leadsTo_97 : decode cX4_leadsTo 97 = .ok (.iload_n 2, 1) := by decide +kernel
theorem dX4_leadsTo_98 : decode cX4_leadsTo 98 = .ok (.bipush 10, 2) := by decide +kernel
theorem dX4_leadsTo_100 : decode cX4_leadsTo 100 = .ok (.bipush 17, 2) := by decide +kernel
theorem dX4_leadsTo_102 : decode cX4_leadsTo 102 = .ok (.invokestatic 62, 3) := by decide +kernel
theorem dX4_leadsTo_105 : decode cX4_leadsTo 105 = .ok (.ifCond .eq 16, 3) := by decide +kernel
theorem dX4_leadsTo_108 : decode cX4_leadsTo 108 = .ok (.aload_n 0, 1) := by decide +kernel
theorem dX4_leadsTo_109 : decode cX4_leadsTo 109 = .ok (.iload_n 2, 1) := by decide +kernel
theorem dX4_leadsTo_110 : decode cX4_leadsTo 110 = .ok (.bipush 10, 2) := by decide +kernel
theorem dX4_leadsTo_112 : decode cX4_leadsTo 112 = .ok (.isub, 1) := by decide +kernel
theorem dX4_leadsTo_113 : decode cX4_leadsTo 113 = .ok (.iload 4, 2) := by decide +kernel
theorem dX4_leadsTo_115 : decode cX4_leadsTo 115 = .ok (.invokevirtual 144, 3) := by decide +kernel
theorem dX4_leadsTo_118 : decode cX4_leadsTo 118 = .ok (.goto 5, 3) := by decide +kernel
theorem dX4_leadsTo_121 : decode cX4_leadsTo 121 = .ok (.bipush 18, 2) := by decide +kernel
theorem dX4_leadsTo_123 : decode cX4_leadsTo 123 = .ok (.istore 5, 2) := by decide +kernel
theorem dX4_leadsTo_125 : decode cX4_leadsTo 125 = .ok (.aload_n 0, 1) := by decide +kernel
theorem dX4_leadsTo_126 : decode cX4_leadsTo 126 = .ok (.iload_n 2, 1) := by decide +kernel
theorem dX4_leadsTo_127 : decode cX4_leadsTo 127 = .ok (.iload 5, 2) := by decide +kernel
theorem dX4_leadsTo_129 : decode cX4_leadsTo 129 = .ok (.iload_n 3, 1) := by decide +kernel
theorem dX4_leadsTo_130 : decode cX4_leadsTo 130 = .ok (.iload 4, 2) := by decide +kernel
theorem dX4_leadsTo_132 : decode cX4_leadsTo 132 = .ok (.invokevirtual 167, 3) := by decide +kernel
theorem dX4_leadsTo_135 : decode cX4_leadsTo 135 = .ok (.ifCond .eq 21, 3) := by decide +kernel
theorem dX4_leadsTo_138 : decode cX4_leadsTo 138 = .ok (.iload_n 1, 1) := by decide +kernel
theorem dX4_leadsTo_139 : decode cX4_leadsTo 139 = .ok (.bipush 12, 2) := by decide +kernel
theorem dX4_leadsTo_141 : decode cX4_leadsTo 141 = .ok (.if_icmp .ne 10, 3) := by decide +kernel
theorem dX4_leadsTo_144 : decode cX4_leadsTo 144 = .ok (.iload 5, 2) := by decide +kernel
theorem dX4_leadsTo_146 : decode cX4_leadsTo 146 = .ok (.bipush 10, 2) := by decide +kernel
theorem dX4_leadsTo_148 : decode cX4_leadsTo 148 = .ok (.if_icmp .ge 8, 3) := by decide +kernel
theorem dX4_leadsTo_151 : decode cX4_leadsTo 151 = .ok (.iload 5, 2) := by decide +kernel
theorem dX4_leadsTo_153 : decode cX4_leadsTo 153 = .ok (.goto 5, 3) := by decide +kernel
theorem dX4_leadsTo_156 : decode cX4_leadsTo 156 = .ok (.bipush (-9), 2) := by decide +kernel
theorem dX4_leadsTo_158 : decode cX4_leadsTo 158 = .ok (.ireturn, 1) := by decide +kernel
set_option maxRecDepth 20000 in
theorem ggX4_leadsTo_X4_mayStay : GoodIn wsX4_leadsTo wsX4_mayStay := goodIn_r _ [5, 6, 7, 8, 4, 9, 10, 11, 12, 13, 14, 15, 16, 17, 18, 19, 20, 21, 22, 48, 49, 50, 51, 52, 53, 54, 55, 56, 57, 58, 59, 60, 61, 62, 63, 64, 65, 66, 67, 68, 69, 70, 71, 72, 73, 74, 75] (by decide +kernel) (by decide +kernel)
set_option maxRecDepth 20000 in
theorem gX4_leadsTo_X4_mayStay : GoodIn wsX4_leadsTo (wsV RX4 163 RX4 yX4_mayStay wsX4_mayStay) := goodIn_app (goodIn_of _ (by decide +kernel)) ggX4_leadsTo_X4_mayStay
set_option maxRecDepth 20000 in
theorem ggX4_leadsTo_X4_round : GoodIn wsX4_leadsTo wsX4_round := goodIn_r _ [22] (by decide +kernel) (by decide +kernel)
set_option maxRecDepth 20000 in
theorem gX4_leadsTo_X4_round : GoodIn wsX4_leadsTo (va_wsS RX4 138 yX4_round wsX4_round) := goodIn_app (goodIn_of _ (by decide +kernel)) ggX4_leadsTo_X4_round
set_option maxRecDepth 20000 in
theorem ggX4_leadsTo_X4_isIn : GoodIn wsX4_leadsTo wsX4_isIn := goodIn_r _ [25] (by decide +kernel) (by decide +kernel)
set_option maxRecDepth 20000 in
theorem gX4_leadsTo_X4_isIn : GoodIn wsX4_leadsTo (va_wsS RX4 62 yX4_isIn wsX4_isIn) := goodIn_app (goodIn_of _ (by decide +kernel)) ggX4_leadsTo_X4_isIn
set_option maxRecDepth 20000 in
theorem ggX4_leadsTo_X4_whereIs : GoodIn wsX4_leadsTo wsX4_whereIs := goodIn_r _ [29, 30, 31, 16, 32, 33, 34, 35, 4, 36, 20, 21, 22, 48, 49, 50, 51, 52, 53, 54, 55, 56, 57, 58, 59, 60, 61, 62, 63, 64, 65, 66, 67, 68, 69, 70, 71, 72, 73, 74, 75] (by decide +kernel) (by decide +kernel)
set_option maxRecDepth 20000 in
theorem gX4_leadsTo_X4_whereIs : GoodIn wsX4_leadsTo (wsV RX4 144 RX4 yX4_whereIs wsX4_whereIs) := goodIn_app (goodIn_of _ (by decide +kernel)) ggX4_leadsTo_X4_whereIs
set_option maxRecDepth 20000 in
theorem ggX4_leadsTo_X4_mayLeap : GoodIn wsX4_leadsTo wsX4_mayLeap := goodIn_r _ [40, 41, 42, 43, 23, 24, 4, 25, 6, 7, 8, 9, 10, 11, 12, 13, 14, 15, 16, 26, 27, 28, 29, 30, 31, 32, 33, 34, 35, 36, 20, 21, 22, 17, 18, 19, 44, 45, 46, 47, 48, 49, 50, 51, 52, 53, 54, 55, 56, 57, 58, 59, 60, 61, 62, 63, 64, 65, 66, 67, 68, 69, 70, 71, 72, 73, 74, 75] (by decide +kernel) (by decide +kernel)
set_option maxRecDepth 20000 in
theorem gX4_leadsTo_X4_mayLeap : GoodIn wsX4_leadsTo (wsV RX4 167 RX4 yX4_mayLeap wsX4_mayLeap) := goodIn_app (goodIn_of _ (by decide +kernel)) ggX4_leadsTo_X4_mayLeap
set_option maxHeartbeats 4000000 in
set_option maxRecDepth 100000 in
theorem mX4_leadsTo (l : Launch) (dC : Nat → ClassId) (dI : Nat → Nat → Nat) (cI cC : ClassId) (sk : (Nat → Nat) × (Nat → Nat)) (f : Nat → Nat) (p1 : Int32) (p2 : Int32) (p3 : Int32) (p4 : Int32) (c_r : RT) (c_refused : AR) (c_tape : AR) (c_letter : AR) (c_letterAt : AR) (c_number : AR) (c_taped : Int32) (c_at : Int32) (c_statements : Int32) (c_kept : AR) (c_hasImage : Int32) (c_isKeeping : Int32) (c_cursor : Int32) (c_poled : Int32) (c_barred : Int32) (c_leapsTo : AR) (c_leapsThen : AR) (c_lands : AR) (c_row : AR) (c_rowMany : Int32) (c_endsAt : Int32) (z : Int32) (h : fX4_leadsTo p1 p2 p3 p4 c_r c_poled c_barred = some z) : cRO l yX4_leadsTo wsX4_leadsTo (RMk 4 92) sk (dC, dI) (tyz cI cC) (zwM cI cC f c_r c_refused c_tape c_letter c_letterAt c_number c_taped c_at c_statements c_kept c_hasImage c_isKeeping c_cursor c_poled c_barred c_leapsTo c_leapsThen c_lands c_row c_rowMany c_endsAt) [.ref (f 0), .int p1, .int p2, .int p3, .int p4] z := by
  refine ofRO (cc := cX4_leadsTo) (maxL := 6) (ret := (some .int)) (own := RX4) (plainFor_of_name (by decide)) rfl rfl (Nat.le_of_ble_eq_true rfl) ?_
  intro p e s m args below meth c hx hb hml hr hts hown hlocks hE hK hP hS ls hl
  generalize hQ : qRO _ _ _ _ = Q
  have hl : lv_has ls 6 [(0, .ref (f 0)), (1, .int p1), (2, .int p2), (3, .int p3), (4, .int p4)] := hl
  rw [fX4_leadsTo] at h
  refine lv_iload_n hx hb dX4_leadsTo_0 rfl (lv_at hl 2 rfl) ?_
  refine lv_bipush (v := (18 : Int32)) hx hb dX4_leadsTo_1 (by decide) ?_
  refine lv_icmp_ne (tgt := 9) hx hb dX4_leadsTo_3 (by decide) (fun c3 => ?_) (fun c3 => ?_)
  · have h := itF c3 h
    refine lv_iload_n hx hb dX4_leadsTo_9 rfl (lv_at hl 1 rfl) ?_
    refine lv_bipush (v := (9 : Int32)) hx hb dX4_leadsTo_10 (by decide) ?_
    refine lv_icmp_ne (tgt := 34) hx hb dX4_leadsTo_12 (by decide) (fun c12 => ?_) (fun c12 => ?_)
    · have h := itF c12 h
      refine lv_iload_n hx hb dX4_leadsTo_34 rfl (lv_at hl 1 rfl) ?_
      refine lv_bipush (v := (10 : Int32)) hx hb dX4_leadsTo_35 (by decide) ?_
      refine jnW (fun (v46 : Unit) => ∀ (H : Heap) (locs : List Loc) (ls : Array Slot), va_P (dC, dI) vwCl (zwM cI cC f c_r c_refused c_tape c_letter c_letterAt c_number c_taped c_at c_statements c_kept c_hasImage c_isKeeping c_cursor c_poled c_barred c_leapsTo c_leapsThen c_lands c_row c_rowMany c_endsAt) H → va_S noA s.heap H locs → lv_has ls 6 [(1, .int p1), (2, .int p2)] → W p l e (RMk 4 92) s m args below meth c H locs 0 0 Q (F0 m 46 ls [])) h (fun v46 h H locs ls hP hS hl => ?_) (fun J46 j46 h => ?_)
      · refine lv_iload_n hx hb dX4_leadsTo_46 rfl (lv_at hl 1 rfl) ?_
        refine lv_bipush (v := (10 : Int32)) hx hb dX4_leadsTo_47 (by decide) ?_
        refine lv_icmp_ge (tgt := 71) hx hb dX4_leadsTo_49 (by decide) (fun c49 => ?_) (fun c49 => ?_)
        · have h := itT c49 h
          refine lv_bipush (v := (-9 : Int32)) hx hb dX4_leadsTo_71 (by decide) ?_
          subst hQ
          exact retRO hx hb hr hlocks rfl hS h dX4_leadsTo_73
        have h := itF c49 h
        refine lv_iload_n hx hb dX4_leadsTo_52 rfl (lv_at hl 1 rfl) ?_
        refine lv_iload_n hx hb dX4_leadsTo_53 rfl (lv_at hl 0 rfl) ?_
        refine lv_bipush (v := (10 : Int32)) hx hb dX4_leadsTo_54 (by decide) ?_
        refine jnW (fun (v64 : Int32) => ∀ (H : Heap) (locs : List Loc) (ls : Array Slot), va_P (dC, dI) vwCl (zwM cI cC f c_r c_refused c_tape c_letter c_letterAt c_number c_taped c_at c_statements c_kept c_hasImage c_isKeeping c_cursor c_poled c_barred c_leapsTo c_leapsThen c_lands c_row c_rowMany c_endsAt) H → va_S noA s.heap H locs → lv_has ls 6 [] → W p l e (RMk 4 92) s m args below meth c H locs 0 0 Q (F0 m 64 ls [.int v64, .int p2])) h (fun v64 h H locs ls hP hS hl => ?_) (fun J64 j64 h => ?_)
        · refine lv_iadd hx hb dX4_leadsTo_64 ?_
          obtain ⟨q65, e65, h⟩ := bd_some h
          refine g_roS (wc := ([] : va_W)) ⟨hx, hb, hml, hown, hts⟩ hE hK hP hS [] rfl (mX4_round l dC dI cI cC sk  (p2 + v64) q65 e65) (va_cwS 1 hts gX4_leadsTo_X4_round rfl rfl rfl (by decide +kernel) ⟨Nat.le_of_ble_eq_true rfl, Nat.le_of_ble_eq_true rfl⟩) (As := [.int (p2 + v64)]) (rest := []) rfl hl.1 rfl (Nat.le_of_ble_eq_true rfl) dX4_leadsTo_65 ⟨Nat.zero_le _, Nat.zero_le _⟩ (fun H locs hP hS => ?_)
          refine lv_goto (tgt := 73) hx hb dX4_leadsTo_68 (by decide) ?_
          subst hQ
          exact retRO hx hb hr hlocks rfl hS h dX4_leadsTo_73
        refine lv_icmp_ne (tgt := 63) hx hb dX4_leadsTo_56 (by decide) (fun c56 => ?_) (fun c56 => ?_)
        · have h := itF c56 h
          refine lv_iconst (v := (1 : Int32)) hx hb dX4_leadsTo_63 (by decide) ?_
          exact j64 _ h _ _ _ hP hS (lv_sub hl [] rfl)
        have h := itT c56 h
        refine lv_iconst (v := (-1 : Int32)) hx hb dX4_leadsTo_59 (by decide) ?_
        refine lv_goto (tgt := 64) hx hb dX4_leadsTo_60 (by decide) ?_
        exact j64 _ h _ _ _ hP hS (lv_sub hl [] rfl)
      refine lv_icmp_eq (tgt := 46) hx hb dX4_leadsTo_37 (by decide) (fun c37 => ?_) (fun c37 => ?_)
      · have h := itT c37 h
        exact j46 _ h _ _ _ hP hS (lv_sub hl [1, 2] rfl)
      have h := itF c37 h
      refine lv_iload_n hx hb dX4_leadsTo_40 rfl (lv_at hl 1 rfl) ?_
      refine lv_bipush (v := (11 : Int32)) hx hb dX4_leadsTo_41 (by decide) ?_
      refine lv_icmp_ne (tgt := 74) hx hb dX4_leadsTo_43 (by decide) (fun c43 => ?_) (fun c43 => ?_)
      · have h := itF c43 h
        refine lv_iload_n hx hb dX4_leadsTo_74 rfl (lv_at hl 1 rfl) ?_
        refine lv_bipush (v := (8 : Int32)) hx hb dX4_leadsTo_75 (by decide) ?_
        refine jnW (fun (v89 : Int32) => ∀ (H : Heap) (locs : List Loc) (ls : Array Slot), va_P (dC, dI) vwCl (zwM cI cC f c_r c_refused c_tape c_letter c_letterAt c_number c_taped c_at c_statements c_kept c_hasImage c_isKeeping c_cursor c_poled c_barred c_leapsTo c_leapsThen c_lands c_row c_rowMany c_endsAt) H → va_S noA s.heap H locs → lv_has ls 6 [(0, .ref (f 0)), (1, .int p1), (2, .int p2), (3, .int p3), (4, .int p4)] → W p l e (RMk 4 92) s m args below meth c H locs 0 0 Q (F0 m 89 ls [.int v89])) h (fun v89 h H locs ls hP hS hl => ?_) (fun J89 j89 h => ?_)
        · refine lv_istore (lv' := [(5, .int v89), (0, .ref (f 0)), (1, .int p1), (2, .int p2), (3, .int p3), (4, .int p4)]) hx hb dX4_leadsTo_89 hl (by decide) rfl (fun ls hl => ?_)
          refine lv_iload_n hx hb dX4_leadsTo_91 rfl (lv_at hl 2 rfl) ?_
          refine lv_bipush (v := (12 : Int32)) hx hb dX4_leadsTo_92 (by decide) ?_
          refine jnW (fun (v125 : Int32) => ∀ (H : Heap) (locs : List Loc) (ls : Array Slot), va_P (dC, dI) vwCl (zwM cI cC f c_r c_refused c_tape c_letter c_letterAt c_number c_taped c_at c_statements c_kept c_hasImage c_isKeeping c_cursor c_poled c_barred c_leapsTo c_leapsThen c_lands c_row c_rowMany c_endsAt) H → va_S noA s.heap H locs → lv_has ls 6 [(0, .ref (f 0)), (1, .int p1), (2, .int p2), (3, .int p3), (4, .int p4), (5, .int v125)] → W p l e (RMk 4 92) s m args below meth c H locs 0 0 Q (F0 m 125 ls [])) h (fun v125 h H locs ls hP hS hl => ?_) (fun J125 j125 h => ?_)
          · refine lv_aload_n hx hb dX4_leadsTo_125 rfl (lv_at hl 0 rfl) ?_
            refine lv_iload_n hx hb dX4_leadsTo_126 rfl (lv_at hl 2 rfl) ?_
            refine lv_iload hx hb dX4_leadsTo_127 (lv_at hl 5 rfl) ?_
            refine lv_iload_n hx hb dX4_leadsTo_129 rfl (lv_at hl 3 rfl) ?_
            refine lv_iload hx hb dX4_leadsTo_130 (lv_at hl 4 rfl) ?_
            obtain ⟨q132, e132, h⟩ := bd_some h
            refine g_roV (wc := (zwM cI cC f c_r c_refused c_tape c_letter c_letterAt c_number c_taped c_at c_statements c_kept c_hasImage c_isKeeping c_cursor c_poled c_barred c_leapsTo c_leapsThen c_lands c_row c_rowMany c_endsAt)) ⟨hx, hb, hml, hown, hts⟩ hE hK hP hS [0, 1, 2, 3, 4, 5, 6, 7, 8, 9, 10, 11, 12, 13, 14, 15] rfl (mX4_mayLeap l dC dI cI cC sk f p2 v125 p3 p4 c_r c_refused c_tape c_letter c_letterAt c_number c_taped c_at c_statements c_kept c_hasImage c_isKeeping c_cursor c_poled c_barred c_leapsTo c_leapsThen c_lands c_row c_rowMany c_endsAt q132 e132) (cwV 4 hts gX4_leadsTo_X4_mayLeap rfl rfl rfl (by decide +kernel) ⟨Nat.le_of_ble_eq_true rfl, Nat.le_of_ble_eq_true rfl⟩) (va_recv hK hP (ci := 4) (q0 := 0) rfl rfl) (As := [.int p2, .int v125, .int p3, .int p4]) (rest := []) rfl hl.1 rfl (Nat.le_of_ble_eq_true rfl) dX4_leadsTo_132 ⟨Nat.zero_le _, Nat.zero_le _⟩ (fun H locs hP hS => ?_)
            refine lv_if_eq (tgt := 156) hx hb dX4_leadsTo_135 (by decide) (fun c135 => ?_) (fun c135 => ?_)
            · have h := itT c135 h
              refine lv_bipush (v := (-9 : Int32)) hx hb dX4_leadsTo_156 (by decide) ?_
              subst hQ
              exact retRO hx hb hr hlocks rfl hS h dX4_leadsTo_158
            have h := itF c135 h
            refine lv_iload_n hx hb dX4_leadsTo_138 rfl (lv_at hl 1 rfl) ?_
            refine lv_bipush (v := (12 : Int32)) hx hb dX4_leadsTo_139 (by decide) ?_
            refine lv_icmp_ne (tgt := 151) hx hb dX4_leadsTo_141 (by decide) (fun c141 => ?_) (fun c141 => ?_)
            · have h := itF c141 h
              refine lv_iload hx hb dX4_leadsTo_151 (lv_at hl 5 rfl) ?_
              refine lv_goto (tgt := 158) hx hb dX4_leadsTo_153 (by decide) ?_
              subst hQ
              exact retRO hx hb hr hlocks rfl hS h dX4_leadsTo_158
            have h := itT c141 h
            refine lv_iload hx hb dX4_leadsTo_144 (lv_at hl 5 rfl) ?_
            refine lv_bipush (v := (10 : Int32)) hx hb dX4_leadsTo_146 (by decide) ?_
            refine lv_icmp_ge (tgt := 156) hx hb dX4_leadsTo_148 (by decide) (fun c148 => ?_) (fun c148 => ?_)
            · have h := itT c148 h
              refine lv_bipush (v := (-9 : Int32)) hx hb dX4_leadsTo_156 (by decide) ?_
              subst hQ
              exact retRO hx hb hr hlocks rfl hS h dX4_leadsTo_158
            have h := itF c148 h
            refine lv_iload hx hb dX4_leadsTo_151 (lv_at hl 5 rfl) ?_
            refine lv_goto (tgt := 158) hx hb dX4_leadsTo_153 (by decide) ?_
            subst hQ
            exact retRO hx hb hr hlocks rfl hS h dX4_leadsTo_158
          refine lv_icmp_ne (tgt := 125) hx hb dX4_leadsTo_94 (by decide) (fun c94 => ?_) (fun c94 => ?_)
          · have h := itF c94 h
            exact j125 _ h _ _ _ hP hS (lv_sub hl [1, 2, 3, 4, 5, 0] rfl)
          have h := itT c94 h
          refine lv_iload_n hx hb dX4_leadsTo_97 rfl (lv_at hl 3 rfl) ?_
          refine lv_bipush (v := (10 : Int32)) hx hb dX4_leadsTo_98 (by decide) ?_
          refine lv_bipush (v := (17 : Int32)) hx hb dX4_leadsTo_100 (by decide) ?_
          obtain ⟨q102, e102, h⟩ := bd_some h
          refine g_roS (wc := ([] : va_W)) ⟨hx, hb, hml, hown, hts⟩ hE hK hP hS [] rfl (mX4_isIn l dC dI cI cC sk  p2 (10 : Int32) (17 : Int32) q102 e102) (va_cwS 3 hts gX4_leadsTo_X4_isIn rfl rfl rfl (by decide +kernel) ⟨Nat.le_of_ble_eq_true rfl, Nat.le_of_ble_eq_true rfl⟩) (As := [.int p2, .int (10 : Int32), .int (17 : Int32)]) (rest := []) rfl hl.1 rfl (Nat.le_of_ble_eq_true rfl) dX4_leadsTo_102 ⟨Nat.zero_le _, Nat.zero_le _⟩ (fun H locs hP hS => ?_)
          refine lv_if_eq (tgt := 121) hx hb dX4_leadsTo_105 (by decide) (fun c105 => ?_) (fun c105 => ?_)
          · have h := itT c105 h
            refine lv_bipush (v := (18 : Int32)) hx hb dX4_leadsTo_121 (by decide) ?_
            refine lv_istore (lv' := [(5, .int (18 : Int32)), (0, .ref (f 0)), (1, .int p1), (2, .int p2), (3, .int p3), (4, .int p4)]) hx hb dX4_leadsTo_123 hl (by decide) rfl (fun ls hl => ?_)
            exact j125 _ h _ _ _ hP hS (lv_sub hl [1, 2, 3, 4, 5, 0] rfl)
          have h := itF c105 h
          refine lv_aload_n hx hb dX4_leadsTo_108 rfl (lv_at hl 1 rfl) ?_
          refine lv_iload_n hx hb dX4_leadsTo_109 rfl (lv_at hl 3 rfl) ?_
          refine lv_bipush (v := (10 : Int32)) hx hb dX4_leadsTo_110 (by decide) ?_
          refine lv_isub hx hb dX4_leadsTo_112 ?_
          refine lv_iload hx hb dX4_leadsTo_113 (lv_at hl 5 rfl) ?_
          obtain ⟨q115, e115, h⟩ := bd_some h
          refine g_roV (wc := (zwM cI cC f c_r c_refused c_tape c_letter c_letterAt c_number c_taped c_at c_statements c_kept c_hasImage c_isKeeping c_cursor c_poled c_barred c_leapsTo c_leapsThen c_lands c_row c_rowMany c_endsAt)) ⟨hx, hb, hml, hown, hts⟩ hE hK hP hS [0, 1, 2, 3, 4, 5, 6, 7, 8, 9, 10, 11, 12, 13, 14, 15] rfl (mX4_whereIs l dC dI cI cC sk f (p2 - (10 : Int32)) p4 c_r c_refused c_tape c_letter c_letterAt c_number c_taped c_at c_statements c_kept c_hasImage c_isKeeping c_cursor c_poled c_barred c_leapsTo c_leapsThen c_lands c_row c_rowMany c_endsAt q115 e115) (cwV 2 hts gX4_leadsTo_X4_whereIs rfl rfl rfl (by decide +kernel) ⟨Nat.le_of_ble_eq_true rfl, Nat.le_of_ble_eq_true rfl⟩) (va_recv hK hP (ci := 4) (q0 := 0) rfl rfl) (As := [.int (p2 - (10 : Int32)), .int p4]) (rest := []) rfl hl.1 rfl (Nat.le_of_ble_eq_true rfl) dX4_leadsTo_115 ⟨Nat.zero_le _, Nat.zero_le _⟩ (fun H locs hP hS => ?_)
          refine lv_goto (tgt := 123) hx hb dX4_leadsTo_118 (by decide) ?_
          refine lv_istore (lv' := [(5, .int q115), (0, .ref (f 0)), (1, .int p1), (2, .int p2), (3, .int p3), (4, .int p4)]) hx hb dX4_leadsTo_123 hl (by decide) rfl (fun ls hl => ?_)
          exact j125 _ h _ _ _ hP hS (lv_sub hl [1, 2, 3, 4, 5, 0] rfl)
        refine lv_icmp_ne (tgt := 85) hx hb dX4_leadsTo_77 (by decide) (fun c77 => ?_) (fun c77 => ?_)
        · have h := itF c77 h
          refine lv_bipush (v := (10 : Int32)) hx hb dX4_leadsTo_85 (by decide) ?_
          refine lv_iload_n hx hb dX4_leadsTo_87 rfl (lv_at hl 1 rfl) ?_
          refine lv_iadd hx hb dX4_leadsTo_88 ?_
          exact j89 _ h _ _ _ hP hS (lv_sub hl [0, 1, 2, 3, 4] rfl)
        have h := itT c77 h
        refine lv_bipush (v := (18 : Int32)) hx hb dX4_leadsTo_80 (by decide) ?_
        refine lv_goto (tgt := 89) hx hb dX4_leadsTo_82 (by decide) ?_
        exact j89 _ h _ _ _ hP hS (lv_sub hl [0, 1, 2, 3, 4] rfl)
      have h := itT c43 h
      exact j46 _ h _ _ _ hP hS (lv_sub hl [1, 2] rfl)
    have h := itT c12 h
    refine lv_aload_n hx hb dX4_leadsTo_15 rfl (lv_at hl 0 rfl) ?_
    refine lv_iload_n hx hb dX4_leadsTo_16 rfl (lv_at hl 2 rfl) ?_
    refine lv_iload_n hx hb dX4_leadsTo_17 rfl (lv_at hl 2 rfl) ?_
    refine lv_iload_n hx hb dX4_leadsTo_18 rfl (lv_at hl 3 rfl) ?_
    refine lv_iload hx hb dX4_leadsTo_19 (lv_at hl 4 rfl) ?_
    obtain ⟨q21, e21, h⟩ := bd_some h
    refine g_roV (wc := (zwM cI cC f c_r c_refused c_tape c_letter c_letterAt c_number c_taped c_at c_statements c_kept c_hasImage c_isKeeping c_cursor c_poled c_barred c_leapsTo c_leapsThen c_lands c_row c_rowMany c_endsAt)) ⟨hx, hb, hml, hown, hts⟩ hE hK hP hS [0, 1, 2, 3, 4, 5, 6, 7, 8, 9, 10, 11, 12, 13, 14, 15] rfl (mX4_mayStay l dC dI cI cC sk f p2 p2 p3 p4 c_r c_refused c_tape c_letter c_letterAt c_number c_taped c_at c_statements c_kept c_hasImage c_isKeeping c_cursor c_poled c_barred c_leapsTo c_leapsThen c_lands c_row c_rowMany c_endsAt q21 e21) (cwV 4 hts gX4_leadsTo_X4_mayStay rfl rfl rfl (by decide +kernel) ⟨Nat.le_of_ble_eq_true rfl, Nat.le_of_ble_eq_true rfl⟩) (va_recv hK hP (ci := 4) (q0 := 0) rfl rfl) (As := [.int p2, .int p2, .int p3, .int p4]) (rest := []) rfl hl.1 rfl (Nat.le_of_ble_eq_true rfl) dX4_leadsTo_21 ⟨Nat.zero_le _, Nat.zero_le _⟩ (fun H locs hP hS => ?_)
    refine lv_if_eq (tgt := 31) hx hb dX4_leadsTo_24 (by decide) (fun c24 => ?_) (fun c24 => ?_)
    · have h := itT c24 h
      refine lv_bipush (v := (-9 : Int32)) hx hb dX4_leadsTo_31 (by decide) ?_
      subst hQ
      exact retRO hx hb hr hlocks rfl hS h dX4_leadsTo_33
    have h := itF c24 h
    refine lv_iload_n hx hb dX4_leadsTo_27 rfl (lv_at hl 2 rfl) ?_
    refine lv_goto (tgt := 33) hx hb dX4_leadsTo_28 (by decide) ?_
    subst hQ
    exact retRO hx hb hr hlocks rfl hS h dX4_leadsTo_33
  have h := itT c3 h
  refine lv_bipush (v := (-9 : Int32)) hx hb dX4_leadsTo_6 (by decide) ?_
  subst hQ
  exact retRO hx hb hr hlocks rfl hS h dX4_leadsTo_8
