theorem dX4_mayLeap_0 : decode cX4_mayLeap 0 = .ok (.iload_n 2, 1) := by decide +kernel
theorem dX4_mayLeap_1 : decode cX4_mayLeap 1 = .ok (.bipush 10, 2) := by decide +kernel
theorem dX4_mayLeap_3 : decode cX4_mayLeap 3 = .ok (.bipush 17, 2) := by decide +kernel
theorem dX4_mayLeap_5 : decode cX4_mayLeap 5 = .ok (.invokestatic 62, 3) := by decide +kernel
theorem dX4_mayLeap_8 : decode cX4_mayLeap 8 = .ok (.ifCond .eq 101, 3) := by decide +kernel
theorem dX4_mayLeap_11 : decode cX4_mayLeap 11 = .ok (.iload_n 2, 1) := by decide +kernel
theorem dX4_mayLeap_12 : decode cX4_mayLeap 12 = .ok (.bipush 10, 2) := by decide +kernel
theorem dX4_mayLeap_14 : decode cX4_mayLeap 14 = .ok (.isub, 1) := by decide +kernel
theorem dX4_mayLeap_15 : decode cX4_mayLeap 15 = .ok (.istore 5, 2) := by decide +kernel
theorem dX4_mayLeap_17 : decode cX4_mayLeap 17 = .ok (.iload 5, 2) := by decide +kernel
theorem dX4_mayLeap_19 : decode cX4_mayLeap 19 = .ok (.aload_n 0, 1) := by decide +kernel
theorem dX4_mayLeap_20 : decode cX4_mayLeap 20 = .ok (.getfield 59, 3) := by decide +kernel
theorem dX4_mayLeap_23 : decode cX4_mayLeap 23 = .ok (.if_icmp .ge 15, 3) := by decide +kernel
theorem dX4_mayLeap_26 : decode cX4_mayLeap 26 = .ok (.aload_n 0, 1) := by decide +kernel
theorem dX4_mayLeap_27 : decode cX4_mayLeap 27 = .ok (.iload 5, 2) := by decide +kernel
theorem dX4_mayLeap_29 : decode cX4_mayLeap 29 = .ok (.iload_n 3, 1) := by decide +kernel
theorem dX4_mayLeap_30 : decode cX4_mayLeap 30 = .ok (.iload 4, 2) := by decide +kernel
theorem dX4_mayLeap_32 : decode cX4_mayLeap 32 = .ok (.invokevirtual 160, 3) := by decide +kernel
theorem dX4_mayLeap_35 : decode cX4_mayLeap 35 = .ok (.ifCond .ne 5, 3) := by decide +kernel
theorem dX4_mayLeap_38 : decode cX4_mayLeap 38 = .ok (.iconst 0, 1) := by decide +kernel
theorem dX4_mayLeap_39 : decode cX4_mayLeap 39 = .ok (.ireturn, 1) := by decide +kernel
theorem dX4_mayLeap_40 : decode cX4_mayLeap 40 = .ok (.iload_n 1, 1) := by decide +kernel
theorem dX4_mayLeap_41 : decode cX4_mayLeap 41 = .ok (.bipush 10, 2) := by decide +kernel
theorem dX4_mayLeap_43 : decode cX4_mayLeap 43 = .ok (.if_icmp .ge 34, 3) := by decide +kernel
theorem dX4_mayLeap_46 : decode cX4_mayLeap 46 = .ok (.aload_n 0, 1) := by decide +kernel
theorem dX4_mayLeap_47 : decode cX4_mayLeap 47 = .ok (.getfield 16, 3) := by decide +kernel
theorem dX4_mayLeap_50 : decode cX4_mayLeap 50 = .ok (.iload 5, 2) := by decide +kernel
theorem dX4_mayLeap_52 : decode cX4_mayLeap 52 = .ok (.iaload, 1) := by decide +kernel
theorem dX4_mayLeap_53 : decode cX4_mayLeap 53 = .ok (.ifCond .ne 22, 3) := by decide +kernel
theorem dX4_mayLeap_56 : decode cX4_mayLeap 56 = .ok (.iload_n 1, 1) := by decide +kernel
theorem dX4_mayLeap_57 : decode cX4_mayLeap 57 = .ok (.aload_n 0, 1) := by decide +kernel
theorem dX4_mayLeap_58 : decode cX4_mayLeap 58 = .ok (.iload 5, 2) := by decide +kernel
theorem dX4_mayLeap_60 : decode cX4_mayLeap 60 = .ok (.iload 4, 2) := by decide +kernel
theorem dX4_mayLeap_62 : decode cX4_mayLeap 62 = .ok (.invokevirtual 144, 3) := by decide +kernel
theorem dX4_mayLeap_65 : decode cX4_mayLeap 65 = .ok (.invokestatic 151, 3) := by decide +kernel
theorem dX4_mayLeap_68 : decode cX4_mayLeap 68 = .ok (.ifCond .eq 7, 3) := by decide +kernel
theorem dX4_mayLeap_71 : decode cX4_mayLeap 71 = .ok (.iconst 1, 1) := by decide +kernel
theorem dX4_mayLeap_72 : decode cX4_mayLeap 72 = .ok (.goto 4, 3) := by decide +kernel
theorem dX4_mayLeap_75 : decode cX4_mayLeap 75 = .ok (.iconst 0, 1) := by decide +kernel
theorem dX4_mayLeap_76 : decode cX4_mayLeap 76 = .ok (.ireturn, 1) := by decide +kernel
theorem dX4_mayLeap_77 : decode cX4_mayLeap 77 = .ok (.iload_n 1, 1) := by decide +kernel
theorem dX4_mayLeap_78 : decode cX4_mayLeap 78 = .ok (.bipush 18, 2) := by decide +kernel
theorem dX4_mayLeap_80 : decode cX4_mayLeap 80 = .ok (.if_icmp .ge 27, 3) := by decide +kernel
theorem dX4_mayLeap_83 : decode cX4_mayLeap 83 = .ok (.iload_n 1, 1) := by decide +kernel
theorem dX4_mayLeap_84 : decode cX4_mayLeap 84 = .ok (.iload_n 2, 1) := by decide +kernel
theorem dX4_mayLeap_85 : decode cX4_mayLeap 85 = .ok (.if_icmp .eq 22, 3) := by decide +kernel
theorem dX4_mayLeap_88 : decode cX4_mayLeap 88 = .ok (.aload_n 0, 1) := by decide +kernel
theorem dX4_mayLeap_89 : decode cX4_mayLeap 89 = .ok (.iload_n 1, 1) := by decide +kernel
theorem dX4_mayLeap_90 : decode cX4_mayLeap 90 = .ok (.bipush 10, 2) := by decide +kernel
theorem dX4_mayLeap_92 : decode cX4_mayLeap 92 = .ok (.isub, 1) := by decide +kernel
theorem dX4_mayLeap_93 : decode cX4_mayLeap 93 = .ok (.iload 5, 2) := by decide +kernel
theorem dX4_mayLeap_95 : decode cX4_mayLeap 95 = .ok (.iload 4, 2) := by decide +kernel
theorem dX4_mayLeap_97 : decode cX4_mayLeap 97 = .ok (.invokevirtual 154, 3) := by decide +kernel
theorem dX4_mayLeap_100 : decode cX4_mayLeap 100 = .ok (.ifCond .eq 7, 3) := by decide +kernel
theorem dX4_mayLeap_103 : decode cX4_mayLeap 103 = .ok (.iconst 1, 1) := by decide +kernel
theorem dX4_mayLeap_104 : decode cX4_mayLeap 104 = .ok (.goto 4, 3) := by decide +kernel
theorem dX4_mayLeap_107 : decode cX4_mayLeap 107 = .ok (.iconst 0, 1) := by decide +kernel
theorem dX4_mayLeap_108 : decode cX4_mayLeap 108 = .ok (.ireturn, 1) := by decide +kernel
theorem dX4_mayLeap_109 : decode cX4_mayLeap 109 = .ok (.iload_n 1, 1) := by decide +kernel
theorem dX4_mayLeap_110 : decode cX4_mayLeap 110 = .ok (.bipush 10, 2) := by decide +kernel
theorem dX4_mayLeap_112 : decode cX4_mayLeap 112 = .ok (.bipush 17, 2) := by decide +kernel
theorem dX4_mayLeap_114 : decode cX4_mayLeap 114 = .ok (.invokestatic 62, 3) := by decide +kernel
theorem dX4_mayLeap_117 : decode cX4_mayLeap 117 = .ok (.ifCond .ne 5, 3) := by decide +kernel
theorem dX4_mayLeap_120 : decode cX4_mayLeap 120 = .ok (.iconst 0, 1) := by decide +kernel
theorem dX4_mayLeap_121 : decode cX4_mayLeap 121 = .ok (.ireturn, 1) := by decide +kernel
theorem dX4_mayLeap_122 : decode cX4_mayLeap 122 = .ok (.iload_n 1, 1) := by decide +kernel
theorem dX4_mayLeap_123 : decode cX4_mayLeap 123 = .ok (.bipush 10, 2) := by decide +kernel
theorem dX4_mayLeap_125 : decode cX4_mayLeap 125 = .ok (.isub, 1) := by decide +kernel
theorem dX4_mayLeap_126 : decode cX4_mayLeap 126 = .ok (.istore 5, 2) := by decide +kernel
theorem dX4_mayLeap_128 : decode cX4_mayLeap 128 = .ok (.iload_n 2, 1) := by decide +kernel
theorem dX4_mayLeap_129 : decode cX4_mayLeap 129 = .ok (.bipush 18, 2) := by decide +kernel
theorem dX4_mayLeap_131 : decode cX4_mayLeap 131 = .ok (.if_icmp .ne 27, 3) := by decide +kernel
theorem dX4_mayLeap_134 : decode cX4_mayLeap 134 = .ok (.aload_n 0, 1) := by decide +kernel
theorem dX4_mayLeap_135 : decode cX4_mayLeap 135 = .ok (.getfield 16, 3) := by decide +kernel
theorem dX4_mayLeap_138 : decode cX4_mayLeap 138 = .ok (.iload 5, 2) := by decide +kernel
theorem dX4_mayLeap_140 : decode cX4_mayLeap 140 = .ok (.iaload, 1) := by decide +kernel
theorem dX4_mayLeap_141 : decode cX4_mayLeap 141 = .ok (.aload_n 0, 1) := by decide +kernel
theorem dX4_mayLeap_142 : decode cX4_mayLeap 142 = .ok (.getfield 28, 3) := by decide +kernel
theorem dX4_mayLeap_145 : decode cX4_mayLeap 145 = .ok (.iconst 1, 1) := by decide +kernel
theorem dX4_mayLeap_146 : decode cX4_mayLeap 146 = .ok (.isub, 1) := by decide +kernel
theorem dX4_mayLeap_147 : decode cX4_mayLeap 147 = .ok (.if_icmp .ne 7, 3) := by decide +kernel
theorem dX4_mayLeap_150 : decode cX4_mayLeap 150 = .ok (.iconst 1, 1) := by decide +kernel
theorem dX4_mayLeap_151 : decode cX4_mayLeap 151 = .ok (.goto 34, 3) := by decide +kernel
theorem dX4_mayLeap_154 : decode cX4_mayLeap 154 = .ok (.iconst 0, 1) := by decide +kernel
theorem dX4_mayLeap_155 : decode cX4_mayLeap 155 = .ok (.goto 30, 3) := by decide +kernel
theorem dX4_mayLeap_158 : decode cX4_mayLeap 158 = .ok (.aload_n 0, 1) := by decide +kernel
theorem dX4_mayLeap_159 : decode cX4_mayLeap 159 = .ok (.getfield 16, 3) := by decide +kernel
theorem dX4_mayLeap_162 : decode cX4_mayLeap 162 = .ok (.iload 5, 2) := by decide +kernel
theorem dX4_mayLeap_164 : decode cX4_mayLeap 164 = .ok (.iaload, 1) := by decide +kernel
theorem dX4_mayLeap_165 : decode cX4_mayLeap 165 = .ok (.ifCond .ne 19, 3) := by decide +kernel
theorem dX4_mayLeap_168 : decode cX4_mayLeap 168 = .ok (.aload_n 0, 1) := by decide +kernel
theorem dX4_mayLeap_169 : decode cX4_mayLeap 169 = .ok (.iload 5, 2) := by decide +kernel
theorem dX4_mayLeap_171 : decode cX4_mayLeap 171 = .ok (.iload 4, 2) := by decide +kernel
theorem dX4_mayLeap_173 : decode cX4_mayLeap 173 = .ok (.invokevirtual 144, 3) := by decide +kernel
theorem dX4_mayLeap_176 : decode cX4_mayLeap 176 = .ok (.iload_n 2, 1) := by decide +kernel
theorem dX4_mayLeap_177 : decode cX4_mayLeap 177 = .ok (.if_icmp .ne 7, 3) := by decide +kernel
theorem dX4_mayLeap_180 : decode cX4_mayLeap 180 = .ok (.iconst 1, 1) := by decide +kernel
theorem dX4_mayLeap_181 : decode cX4_mayLeap 181 = .ok (.goto 4, 3) := by decide +kernel
theorem dX4_mayLeap_184 : decode cX4_mayLeap 184 = .ok (.iconst 0, 1) := by decide +kernel
theorem dX4_mayLeap_185 : decode cX4_mayLeap 185 = .ok (.ireturn, 1) := by decide +kernel
set_option maxRecDepth 20000 in
theorem ggX4_mayLeap_X4_isIn : GoodIn wsX4_mayLeap wsX4_isIn := goodIn_r _ [7] (by decide +kernel) (by decide +kernel)
set_option maxRecDepth 20000 in
theorem gX4_mayLeap_X4_isIn : GoodIn wsX4_mayLeap (va_wsS RX4 62 yX4_isIn wsX4_isIn) := goodIn_app (goodIn_of _ (by decide +kernel)) ggX4_mayLeap_X4_isIn
set_option maxRecDepth 20000 in
theorem ggX4_mayLeap_X4_doesBear : GoodIn wsX4_mayLeap wsX4_doesBear := goodIn_r _ [11, 12, 13, 14, 15, 6, 16, 17, 18, 40, 41, 42, 43, 44, 45, 46, 47, 48, 49, 50, 51, 52, 53, 54, 55, 56, 57, 58, 59, 60, 61, 62, 63, 64, 65, 66, 67] (by decide +kernel) (by decide +kernel)
set_option maxRecDepth 20000 in
theorem gX4_mayLeap_X4_doesBear : GoodIn wsX4_mayLeap (wsV RX4 160 RX4 yX4_doesBear wsX4_doesBear) := goodIn_app (goodIn_of _ (by decide +kernel)) ggX4_mayLeap_X4_doesBear
set_option maxRecDepth 20000 in
theorem ggX4_mayLeap_X4_whereIs : GoodIn wsX4_mayLeap wsX4_whereIs := goodIn_r _ [22, 23, 24, 18, 25, 26, 27, 28, 6, 29, 30, 31, 32, 40, 41, 42, 43, 44, 45, 46, 47, 48, 49, 50, 51, 52, 53, 54, 55, 56, 57, 58, 59, 60, 61, 62, 63, 64, 65, 66, 67] (by decide +kernel) (by decide +kernel)
set_option maxRecDepth 20000 in
theorem gX4_mayLeap_X4_whereIs : GoodIn wsX4_mayLeap (wsV RX4 144 RX4 yX4_whereIs wsX4_whereIs) := goodIn_app (goodIn_of _ (by decide +kernel)) ggX4_mayLeap_X4_whereIs
set_option maxRecDepth 20000 in
theorem ggX4_mayLeap_X4_isNear : GoodIn wsX4_mayLeap wsX4_isNear := goodIn_r _ [35, 30, 31, 6, 32] (by decide +kernel) (by decide +kernel)
set_option maxRecDepth 20000 in
theorem gX4_mayLeap_X4_isNear : GoodIn wsX4_mayLeap (va_wsS RX4 151 yX4_isNear wsX4_isNear) := goodIn_app (goodIn_of _ (by decide +kernel)) ggX4_mayLeap_X4_isNear
set_option maxRecDepth 20000 in
theorem ggX4_mayLeap_X4_canLeap : GoodIn wsX4_mayLeap wsX4_canLeap := goodIn_r _ [39, 2, 19, 20, 21, 6, 22, 23, 24, 18, 25, 26, 27, 28, 29, 30, 31, 32, 33, 34, 35, 40, 41, 42, 43, 44, 45, 46, 47, 48, 49, 50, 51, 52, 53, 54, 55, 56, 57, 58, 59, 60, 61, 62, 63, 64, 65, 66, 67] (by decide +kernel) (by decide +kernel)
set_option maxRecDepth 20000 in
theorem gX4_mayLeap_X4_canLeap : GoodIn wsX4_mayLeap (wsV RX4 154 RX4 yX4_canLeap wsX4_canLeap) := goodIn_app (goodIn_of _ (by decide +kernel)) ggX4_mayLeap_X4_canLeap
set_option maxHeartbeats 4000000 in
set_option maxRecDepth 100000 in
theorem mX4_mayLeap (l : Launch) (dC : Nat → ClassId) (dI : Nat → Nat → Nat) (cI cC : ClassId) (sk : (Nat → Nat) × (Nat → Nat)) (f : Nat → Nat) (p1 : Int32) (p2 : Int32) (p3 : Int32) (p4 : Int32) (c_r : RT) (c_refused : AR) (c_tape : AR) (c_letter : AR) (c_letterAt : AR) (c_number : AR) (c_taped : Int32) (c_at : Int32) (c_statements : Int32) (c_kept : AR) (c_hasImage : Int32) (c_isKeeping : Int32) (c_cursor : Int32) (c_poled : Int32) (c_barred : Int32) (c_leapsTo : AR) (c_leapsThen : AR) (c_lands : AR) (c_row : AR) (c_rowMany : Int32) (c_endsAt : Int32) (z : Int32) (h : fX4_mayLeap p1 p2 p3 p4 c_r c_poled c_barred = some z) : cRO l yX4_mayLeap wsX4_mayLeap (RMk 3 67) sk (dC, dI) (tyz cI cC) (zwM cI cC f c_r c_refused c_tape c_letter c_letterAt c_number c_taped c_at c_statements c_kept c_hasImage c_isKeeping c_cursor c_poled c_barred c_leapsTo c_leapsThen c_lands c_row c_rowMany c_endsAt) [.ref (f 0), .int p1, .int p2, .int p3, .int p4] z := by
  refine ofRO (cc := cX4_mayLeap) (maxL := 6) (ret := (some .boolean)) (own := RX4) (plainFor_of_name (by decide)) rfl rfl (Nat.le_of_ble_eq_true rfl) ?_
  intro p e s m args below meth c hx hb hml hr hts hown hlocks hE hK hP hS ls hl
  generalize hQ : qRO _ _ _ _ = Q
  have hl : lv_has ls 6 [(0, .ref (f 0)), (1, .int p1), (2, .int p2), (3, .int p3), (4, .int p4)] := hl
  have hiX4 : ∀ w ∈ wsX40, w ∈ wsX4_mayLeap := fun w h => List.mem_cons_of_mem _ (List.mem_append_right _ h)
  have hw2 := hts (Cond.fieldLink RX4 16 "FloeToFloeModel" "laneOf" "[I") (List.mem_of_getElem? (i := 2) rfl)
  have hw3 := hts (Cond.fieldLink RX4 28 "FloeToFloeModel" "lanes" "I") (List.mem_of_getElem? (i := 3) rfl)
  have hw1 := hts (Cond.fieldLink RX4 59 "FloeToFloeModel" "floes" "I") (List.mem_of_getElem? (i := 1) rfl)
  rw [fX4_mayLeap] at h
  refine lv_iload_n hx hb dX4_mayLeap_0 rfl (lv_at hl 2 rfl) ?_
  refine lv_bipush (v := (10 : Int32)) hx hb dX4_mayLeap_1 (by decide) ?_
  refine lv_bipush (v := (17 : Int32)) hx hb dX4_mayLeap_3 (by decide) ?_
  obtain ⟨q5, e5, h⟩ := bd_some h
  refine g_roS (wc := ([] : va_W)) ⟨hx, hb, hml, hown, hts⟩ hE hK hP hS [] rfl (mX4_isIn l dC dI cI cC sk  p2 (10 : Int32) (17 : Int32) q5 e5) (va_cwS 3 hts gX4_mayLeap_X4_isIn rfl rfl rfl (by decide +kernel) ⟨Nat.le_of_ble_eq_true rfl, Nat.le_of_ble_eq_true rfl⟩) (As := [.int p2, .int (10 : Int32), .int (17 : Int32)]) (rest := []) rfl hl.1 rfl (Nat.le_of_ble_eq_true rfl) dX4_mayLeap_5 ⟨Nat.zero_le _, Nat.zero_le _⟩ (fun H locs hP hS => ?_)
  refine lv_if_eq (tgt := 109) hx hb dX4_mayLeap_8 (by decide) (fun c8 => ?_) (fun c8 => ?_)
  · have h := itT c8 h
    refine lv_iload_n hx hb dX4_mayLeap_109 rfl (lv_at hl 1 rfl) ?_
    refine lv_bipush (v := (10 : Int32)) hx hb dX4_mayLeap_110 (by decide) ?_
    refine lv_bipush (v := (17 : Int32)) hx hb dX4_mayLeap_112 (by decide) ?_
    obtain ⟨q114, e114, h⟩ := bd_some h
    refine g_roS (wc := ([] : va_W)) ⟨hx, hb, hml, hown, hts⟩ hE hK hP hS [] rfl (mX4_isIn l dC dI cI cC sk  p1 (10 : Int32) (17 : Int32) q114 e114) (va_cwS 3 hts gX4_mayLeap_X4_isIn rfl rfl rfl (by decide +kernel) ⟨Nat.le_of_ble_eq_true rfl, Nat.le_of_ble_eq_true rfl⟩) (As := [.int p1, .int (10 : Int32), .int (17 : Int32)]) (rest := []) rfl hl.1 rfl (Nat.le_of_ble_eq_true rfl) dX4_mayLeap_114 ⟨Nat.zero_le _, Nat.zero_le _⟩ (fun H locs hP hS => ?_)
    refine lv_if_ne (tgt := 122) hx hb dX4_mayLeap_117 (by decide) (fun c117 => ?_) (fun c117 => ?_)
    · have h := itF c117 h
      refine lv_iload_n hx hb dX4_mayLeap_122 rfl (lv_at hl 1 rfl) ?_
      refine lv_bipush (v := (10 : Int32)) hx hb dX4_mayLeap_123 (by decide) ?_
      refine lv_isub hx hb dX4_mayLeap_125 ?_
      refine lv_istore (lv' := [(5, .int (p1 - (10 : Int32))), (0, .ref (f 0)), (1, .int p1), (2, .int p2), (3, .int p3), (4, .int p4)]) hx hb dX4_mayLeap_126 hl (by decide) rfl (fun ls hl => ?_)
      refine lv_iload_n hx hb dX4_mayLeap_128 rfl (lv_at hl 3 rfl) ?_
      refine lv_bipush (v := (18 : Int32)) hx hb dX4_mayLeap_129 (by decide) ?_
      refine lv_icmp_ne (tgt := 158) hx hb dX4_mayLeap_131 (by decide) (fun c131 => ?_) (fun c131 => ?_)
      · have h := itF c131 h
        refine lv_aload_n hx hb dX4_mayLeap_158 rfl (lv_at hl 1 rfl) ?_
        refine va_get (D := (dC, dI)) (ci := 4) (v := .ref (f 3)) (C := RX4) (T := TX4) (N := 28) hx hb hts hiX4 hown hK hP 0 rfl rfl 2 (by decide) hw2 (fun _ h9 => h9) rfl dX4_mayLeap_159 ?_
        refine lv_iload hx hb dX4_mayLeap_162 (lv_at hl 0 rfl) ?_
        obtain ⟨hin, h⟩ := ck_some h
        refine va_iald hx hb hK hP 3 0 rfl rfl hin dX4_mayLeap_164 ?_
        refine lv_if_ne (tgt := 184) hx hb dX4_mayLeap_165 (by decide) (fun c165 => ?_) (fun c165 => ?_)
        · have h := itF c165 h
          refine lv_iconst (v := (0 : Int32)) hx hb dX4_mayLeap_184 (by decide) ?_
          subst hQ
          exact retRO hx hb hr hlocks rfl hS h dX4_mayLeap_185
        have h := itT c165 h
        refine lv_aload_n hx hb dX4_mayLeap_168 rfl (lv_at hl 1 rfl) ?_
        refine lv_iload hx hb dX4_mayLeap_169 (lv_at hl 0 rfl) ?_
        refine lv_iload hx hb dX4_mayLeap_171 (lv_at hl 5 rfl) ?_
        obtain ⟨q173, e173, h⟩ := bd_some h
        refine g_roV (wc := (zwM cI cC f c_r c_refused c_tape c_letter c_letterAt c_number c_taped c_at c_statements c_kept c_hasImage c_isKeeping c_cursor c_poled c_barred c_leapsTo c_leapsThen c_lands c_row c_rowMany c_endsAt)) ⟨hx, hb, hml, hown, hts⟩ hE hK hP hS [0, 1, 2, 3, 4, 5, 6, 7, 8, 9, 10, 11, 12, 13, 14, 15] rfl (mX4_whereIs l dC dI cI cC sk f (p1 - (10 : Int32)) p4 c_r c_refused c_tape c_letter c_letterAt c_number c_taped c_at c_statements c_kept c_hasImage c_isKeeping c_cursor c_poled c_barred c_leapsTo c_leapsThen c_lands c_row c_rowMany c_endsAt q173 e173) (cwV 2 hts gX4_mayLeap_X4_whereIs rfl rfl rfl (by decide +kernel) ⟨Nat.le_of_ble_eq_true rfl, Nat.le_of_ble_eq_true rfl⟩) (va_recv hK hP (ci := 4) (q0 := 0) rfl rfl) (As := [.int (p1 - (10 : Int32)), .int p4]) (rest := []) rfl hl.1 rfl (Nat.le_of_ble_eq_true rfl) dX4_mayLeap_173 ⟨Nat.zero_le _, Nat.zero_le _⟩ (fun H locs hP hS => ?_)
        refine lv_iload_n hx hb dX4_mayLeap_176 rfl (lv_at hl 3 rfl) ?_
        refine lv_icmp_ne (tgt := 184) hx hb dX4_mayLeap_177 (by decide) (fun c177 => ?_) (fun c177 => ?_)
        · have h := itF c177 h
          refine lv_iconst (v := (0 : Int32)) hx hb dX4_mayLeap_184 (by decide) ?_
          subst hQ
          exact retRO hx hb hr hlocks rfl hS h dX4_mayLeap_185
        have h := itT c177 h
        refine lv_iconst (v := (1 : Int32)) hx hb dX4_mayLeap_180 (by decide) ?_
        refine lv_goto (tgt := 185) hx hb dX4_mayLeap_181 (by decide) ?_
        subst hQ
        exact retRO hx hb hr hlocks rfl hS h dX4_mayLeap_185
      have h := itT c131 h
      refine lv_aload_n hx hb dX4_mayLeap_134 rfl (lv_at hl 1 rfl) ?_
      refine va_get (D := (dC, dI)) (ci := 4) (v := .ref (f 3)) (C := RX4) (T := TX4) (N := 28) hx hb hts hiX4 hown hK hP 0 rfl rfl 2 (by decide) hw2 (fun _ h9 => h9) rfl dX4_mayLeap_135 ?_
      refine lv_iload hx hb dX4_mayLeap_138 (lv_at hl 0 rfl) ?_
      obtain ⟨hin, h⟩ := ck_some h
      refine va_iald hx hb hK hP 3 0 rfl rfl hin dX4_mayLeap_140 ?_
      refine lv_aload_n hx hb dX4_mayLeap_141 rfl (lv_at hl 1 rfl) ?_
      refine va_get (D := (dC, dI)) (ci := 4) (v := .int (R_lanes c_r)) (C := RX4) (T := TX4) (N := 28) hx hb hts hiX4 hown hK hP 0 rfl rfl 7 (by decide) hw3 (fun _ h9 => h9) rfl dX4_mayLeap_142 ?_
      refine lv_iconst (v := (1 : Int32)) hx hb dX4_mayLeap_145 (by decide) ?_
      refine lv_isub hx hb dX4_mayLeap_146 ?_
      refine lv_icmp_ne (tgt := 154) hx hb dX4_mayLeap_147 (by decide) (fun c147 => ?_) (fun c147 => ?_)
      · have h := itF c147 h
        refine lv_iconst (v := (0 : Int32)) hx hb dX4_mayLeap_154 (by decide) ?_
        refine lv_goto (tgt := 185) hx hb dX4_mayLeap_155 (by decide) ?_
        subst hQ
        exact retRO hx hb hr hlocks rfl hS h dX4_mayLeap_185
      have h := itT c147 h
      refine lv_iconst (v := (1 : Int32)) hx hb dX4_mayLeap_150 (by decide) ?_
      refine lv_goto (tgt := 185) hx hb dX4_mayLeap_151 (by decide) ?_
      subst hQ
      exact retRO hx hb hr hlocks rfl hS h dX4_mayLeap_185
    have h := itT c117 h
    refine lv_iconst (v := (0 : Int32)) hx hb dX4_mayLeap_120 (by decide) ?_
    subst hQ
    exact retRO hx hb hr hlocks rfl hS h dX4_mayLeap_121
  have h := itF c8 h
  refine lv_iload_n hx hb dX4_mayLeap_11 rfl (lv_at hl 2 rfl) ?_
  refine lv_bipush (v := (10 : Int32)) hx hb dX4_mayLeap_12 (by decide) ?_
  refine lv_isub hx hb dX4_mayLeap_14 ?_
  refine lv_istore (lv' := [(5, .int (p2 - (10 : Int32))), (0, .ref (f 0)), (1, .int p1), (2, .int p2), (3, .int p3), (4, .int p4)]) hx hb dX4_mayLeap_15 hl (by decide) rfl (fun ls hl => ?_)
  refine lv_iload hx hb dX4_mayLeap_17 (lv_at hl 0 rfl) ?_
  refine lv_aload_n hx hb dX4_mayLeap_19 rfl (lv_at hl 1 rfl) ?_
  refine va_get (D := (dC, dI)) (ci := 4) (v := .int (R_floes c_r)) (C := RX4) (T := TX4) (N := 28) hx hb hts hiX4 hown hK hP 0 rfl rfl 6 (by decide) hw1 (fun _ h9 => h9) rfl dX4_mayLeap_20 ?_
  refine lv_icmp_ge (tgt := 38) hx hb dX4_mayLeap_23 (by decide) (fun c23 => ?_) (fun c23 => ?_)
  · have h := itT c23 h
    refine lv_iconst (v := (0 : Int32)) hx hb dX4_mayLeap_38 (by decide) ?_
    subst hQ
    exact retRO hx hb hr hlocks rfl hS h dX4_mayLeap_39
  have h := itF c23 h
  refine lv_aload_n hx hb dX4_mayLeap_26 rfl (lv_at hl 1 rfl) ?_
  refine lv_iload hx hb dX4_mayLeap_27 (lv_at hl 0 rfl) ?_
  refine lv_iload_n hx hb dX4_mayLeap_29 rfl (lv_at hl 4 rfl) ?_
  refine lv_iload hx hb dX4_mayLeap_30 (lv_at hl 5 rfl) ?_
  obtain ⟨q32, e32, h⟩ := bd_some h
  refine g_roV (wc := (zwM cI cC f c_r c_refused c_tape c_letter c_letterAt c_number c_taped c_at c_statements c_kept c_hasImage c_isKeeping c_cursor c_poled c_barred c_leapsTo c_leapsThen c_lands c_row c_rowMany c_endsAt)) ⟨hx, hb, hml, hown, hts⟩ hE hK hP hS [0, 1, 2, 3, 4, 5, 6, 7, 8, 9, 10, 11, 12, 13, 14, 15] rfl (mX4_doesBear l dC dI cI cC sk f (p2 - (10 : Int32)) p3 p4 c_r c_refused c_tape c_letter c_letterAt c_number c_taped c_at c_statements c_kept c_hasImage c_isKeeping c_cursor c_poled c_barred c_leapsTo c_leapsThen c_lands c_row c_rowMany c_endsAt q32 e32) (cwV 3 hts gX4_mayLeap_X4_doesBear rfl rfl rfl (by decide +kernel) ⟨Nat.le_of_ble_eq_true rfl, Nat.le_of_ble_eq_true rfl⟩) (va_recv hK hP (ci := 4) (q0 := 0) rfl rfl) (As := [.int (p2 - (10 : Int32)), .int p3, .int p4]) (rest := []) rfl hl.1 rfl (Nat.le_of_ble_eq_true rfl) dX4_mayLeap_32 ⟨Nat.zero_le _, Nat.zero_le _⟩ (fun H locs hP hS => ?_)
  refine lv_if_ne (tgt := 40) hx hb dX4_mayLeap_35 (by decide) (fun c35 => ?_) (fun c35 => ?_)
  · have h := itF c35 h
    refine lv_iload_n hx hb dX4_mayLeap_40 rfl (lv_at hl 2 rfl) ?_
    refine lv_bipush (v := (10 : Int32)) hx hb dX4_mayLeap_41 (by decide) ?_
    refine lv_icmp_ge (tgt := 77) hx hb dX4_mayLeap_43 (by decide) (fun c43 => ?_) (fun c43 => ?_)
    · have h := itT c43 h
      refine lv_iload_n hx hb dX4_mayLeap_77 rfl (lv_at hl 2 rfl) ?_
      refine lv_bipush (v := (18 : Int32)) hx hb dX4_mayLeap_78 (by decide) ?_
      refine lv_icmp_ge (tgt := 107) hx hb dX4_mayLeap_80 (by decide) (fun c80 => ?_) (fun c80 => ?_)
      · have h := itT c80 h
        refine lv_iconst (v := (0 : Int32)) hx hb dX4_mayLeap_107 (by decide) ?_
        subst hQ
        exact retRO hx hb hr hlocks rfl hS h dX4_mayLeap_108
      have h := itF c80 h
      refine lv_iload_n hx hb dX4_mayLeap_83 rfl (lv_at hl 2 rfl) ?_
      refine lv_iload_n hx hb dX4_mayLeap_84 rfl (lv_at hl 3 rfl) ?_
      refine lv_icmp_eq (tgt := 107) hx hb dX4_mayLeap_85 (by decide) (fun c85 => ?_) (fun c85 => ?_)
      · have h := itT c85 h
        refine lv_iconst (v := (0 : Int32)) hx hb dX4_mayLeap_107 (by decide) ?_
        subst hQ
        exact retRO hx hb hr hlocks rfl hS h dX4_mayLeap_108
      have h := itF c85 h
      refine lv_aload_n hx hb dX4_mayLeap_88 rfl (lv_at hl 1 rfl) ?_
      refine lv_iload_n hx hb dX4_mayLeap_89 rfl (lv_at hl 2 rfl) ?_
      refine lv_bipush (v := (10 : Int32)) hx hb dX4_mayLeap_90 (by decide) ?_
      refine lv_isub hx hb dX4_mayLeap_92 ?_
      refine lv_iload hx hb dX4_mayLeap_93 (lv_at hl 0 rfl) ?_
      refine lv_iload hx hb dX4_mayLeap_95 (lv_at hl 5 rfl) ?_
      obtain ⟨q97, e97, h⟩ := bd_some h
      refine g_roV (wc := (zwM cI cC f c_r c_refused c_tape c_letter c_letterAt c_number c_taped c_at c_statements c_kept c_hasImage c_isKeeping c_cursor c_poled c_barred c_leapsTo c_leapsThen c_lands c_row c_rowMany c_endsAt)) ⟨hx, hb, hml, hown, hts⟩ hE hK hP hS [0, 1, 2, 3, 4, 5, 6, 7, 8, 9, 10, 11, 12, 13, 14, 15] rfl (mX4_canLeap l dC dI cI cC sk f (p1 - (10 : Int32)) (p2 - (10 : Int32)) p4 c_r c_refused c_tape c_letter c_letterAt c_number c_taped c_at c_statements c_kept c_hasImage c_isKeeping c_cursor c_poled c_barred c_leapsTo c_leapsThen c_lands c_row c_rowMany c_endsAt q97 e97) (cwV 3 hts gX4_mayLeap_X4_canLeap rfl rfl rfl (by decide +kernel) ⟨Nat.le_of_ble_eq_true rfl, Nat.le_of_ble_eq_true rfl⟩) (va_recv hK hP (ci := 4) (q0 := 0) rfl rfl) (As := [.int (p1 - (10 : Int32)), .int (p2 - (10 : Int32)), .int p4]) (rest := []) rfl hl.1 rfl (Nat.le_of_ble_eq_true rfl) dX4_mayLeap_97 ⟨Nat.zero_le _, Nat.zero_le _⟩ (fun H locs hP hS => ?_)
      refine lv_if_eq (tgt := 107) hx hb dX4_mayLeap_100 (by decide) (fun c100 => ?_) (fun c100 => ?_)
      · have h := itT c100 h
        refine lv_iconst (v := (0 : Int32)) hx hb dX4_mayLeap_107 (by decide) ?_
        subst hQ
        exact retRO hx hb hr hlocks rfl hS h dX4_mayLeap_108
      have h := itF c100 h
      refine lv_iconst (v := (1 : Int32)) hx hb dX4_mayLeap_103 (by decide) ?_
      refine lv_goto (tgt := 108) hx hb dX4_mayLeap_104 (by decide) ?_
      subst hQ
      exact retRO hx hb hr hlocks rfl hS h dX4_mayLeap_108
    have h := itF c43 h
    refine lv_aload_n hx hb dX4_mayLeap_46 rfl (lv_at hl 1 rfl) ?_
    refine va_get (D := (dC, dI)) (ci := 4) (v := .ref (f 3)) (C := RX4) (T := TX4) (N := 28) hx hb hts hiX4 hown hK hP 0 rfl rfl 2 (by decide) hw2 (fun _ h9 => h9) rfl dX4_mayLeap_47 ?_
    refine lv_iload hx hb dX4_mayLeap_50 (lv_at hl 0 rfl) ?_
    obtain ⟨hin, h⟩ := ck_some h
    refine va_iald hx hb hK hP 3 0 rfl rfl hin dX4_mayLeap_52 ?_
    refine lv_if_ne (tgt := 75) hx hb dX4_mayLeap_53 (by decide) (fun c53 => ?_) (fun c53 => ?_)
    · have h := itF c53 h
      refine lv_iconst (v := (0 : Int32)) hx hb dX4_mayLeap_75 (by decide) ?_
      subst hQ
      exact retRO hx hb hr hlocks rfl hS h dX4_mayLeap_76
    have h := itT c53 h
    refine lv_iload_n hx hb dX4_mayLeap_56 rfl (lv_at hl 2 rfl) ?_
    refine lv_aload_n hx hb dX4_mayLeap_57 rfl (lv_at hl 1 rfl) ?_
    refine lv_iload hx hb dX4_mayLeap_58 (lv_at hl 0 rfl) ?_
    refine lv_iload hx hb dX4_mayLeap_60 (lv_at hl 5 rfl) ?_
    obtain ⟨q62, e62, h⟩ := bd_some h
    refine g_roV (wc := (zwM cI cC f c_r c_refused c_tape c_letter c_letterAt c_number c_taped c_at c_statements c_kept c_hasImage c_isKeeping c_cursor c_poled c_barred c_leapsTo c_leapsThen c_lands c_row c_rowMany c_endsAt)) ⟨hx, hb, hml, hown, hts⟩ hE hK hP hS [0, 1, 2, 3, 4, 5, 6, 7, 8, 9, 10, 11, 12, 13, 14, 15] rfl (mX4_whereIs l dC dI cI cC sk f (p2 - (10 : Int32)) p4 c_r c_refused c_tape c_letter c_letterAt c_number c_taped c_at c_statements c_kept c_hasImage c_isKeeping c_cursor c_poled c_barred c_leapsTo c_leapsThen c_lands c_row c_rowMany c_endsAt q62 e62) (cwV 2 hts gX4_mayLeap_X4_whereIs rfl rfl rfl (by decide +kernel) ⟨Nat.le_of_ble_eq_true rfl, Nat.le_of_ble_eq_true rfl⟩) (va_recv hK hP (ci := 4) (q0 := 0) rfl rfl) (As := [.int (p2 - (10 : Int32)), .int p4]) (rest := [.int p1]) rfl hl.1 rfl (Nat.le_of_ble_eq_true rfl) dX4_mayLeap_62 ⟨Nat.zero_le _, Nat.zero_le _⟩ (fun H locs hP hS => ?_)
    obtain ⟨q65, e65, h⟩ := bd_some h
    refine g_roS (wc := ([] : va_W)) ⟨hx, hb, hml, hown, hts⟩ hE hK hP hS [] rfl (mX4_isNear l dC dI cI cC sk  p1 q62 q65 e65) (va_cwS 2 hts gX4_mayLeap_X4_isNear rfl rfl rfl (by decide +kernel) ⟨Nat.le_of_ble_eq_true rfl, Nat.le_of_ble_eq_true rfl⟩) (As := [.int p1, .int q62]) (rest := []) rfl hl.1 rfl (Nat.le_of_ble_eq_true rfl) dX4_mayLeap_65 ⟨Nat.zero_le _, Nat.zero_le _⟩ (fun H locs hP hS => ?_)
    refine lv_if_eq (tgt := 75) hx hb dX4_mayLeap_68 (by decide) (fun c68 => ?_) (fun c68 => ?_)
    · have h := itT c68 h
      refine lv_iconst (v := (0 : Int32)) hx hb dX4_mayLeap_75 (by decide) ?_
      subst hQ
      exact retRO hx hb hr hlocks rfl hS h dX4_mayLeap_76
    have h := itF c68 h
    refine lv_iconst (v := (1 : Int32)) hx hb dX4_mayLeap_71 (by decide) ?_
    refine lv_goto (tgt := 76) hx hb dX4_mayLeap_72 (by decide) ?_
    subst hQ
    exact retRO hx hb hr hlocks rfl hS h dX4_mayLeap_76
  have h := itT c35 h
  refine lv_iconst (v := (0 : Int32)) hx hb dX4_mayLeap_38 (by decide) ?_
  subst hQ
  exact retRO hx hb hr hlocks rfl hS h dX4_mayLeap_39
