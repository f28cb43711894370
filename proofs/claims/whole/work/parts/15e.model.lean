theorem dX4_mayLeap_0 : decode cX4_mayLeap 0 = .ok (.iload_n 2, 1) := by decide +kernel
theorem dX4_mayLeap_1 : decode cX4_mayLeap 1 = .ok (.bipush 10, 2) := by decide +kernel
theorem dX4_mayLeap_3 : decode cX4_mayLeap 3 = .ok (.bipush 17, 2) := by decide +kernel
theorem dX4_mayLeap_5 : decode cX4_mayLeap 5 = .ok (.invokestatic 62, 3) := by decide +kernel
theorem dX4_mayLeap_8 : decode cX4_mayLeap 8 = .ok (.ifCond .eq 101, 3) := by decide +kernel
theorem dX4_mayLeap_11 : decode cX4_mayLeap 11 = .ok (.iload_n 2, 1) := by decide +kernel
theorem dX4_mayLeap_12 : decode cX4_mayLeap 12 = .ok (.bipush 10, 2) := by decide +kernel
theorem dX4_mayLeap_14 : decode cX4_mayLeap 14 = .ok (.isub, 1) := by decide +kernel
theorem dX4_mayLeap_15 : decode cX4_mayLeap 15 = .ok (.istore 5, 2) := by decide +kernel
theorem dX4_mayLeap_17 : decode cX4_mayLeap 17 = .ok (.iload 5, 2) := by decide +kernel
theorem dX4_mayLeap_19 : decode cX4_mayLeap 19 = .ok (.aload_n 0, 1) := by decide +kernel
theorem dX4_mayLeap_20 : decode cX4_mayLeap 20 = .ok (.getfield 59, 3) := by decide +kernel
theorem dX4_mayLeap_23 : decode cX4_mayLeap 23 = .ok (.if_icmp .ge 15, 3) := by decide +kernel
theorem dX4_mayLeap_26 : decode cX4_mayLeap 26 = .ok (.aload_n 0, 1) := by decide +kernel
theorem dX4_mayLeap_27 : decode cX4_mayLeap 27 = .ok (.iload 5, 2) := by decide +kernel
theorem dX4_mayLeap_29 : decode cX4_mayLeap 29 = .ok (.iload_n 3, 1) := by decide +kernel
theorem dX4_mayLeap_30 : decode cX4_mayLeap 30 = .ok (.iload 4, 2) := by decide +kernel
theorem dX4_mayLeap_32 : decode cX4_mayLeap 32 = .ok (.invokevirtual 160, 3) := by decide +kernel
theorem dX4_mayLeap_35 : decode cX4_mayLeap 35 = .ok (.ifCond .ne 5, 3) := by decide +kernel
theorem dX4_mayLeap_38 : decode cX4_mayLeap 38 = .ok (.iconst 0, 1) := by decide +kernel
theorem dX4_mayLeap_39 : decode cX4_mayLeap 39 = .ok (.ireturn, 1) := by decide +kernel
theorem dX4_mayLeap_40 : decode cX4_mayLeap 40 = .ok (.iload_n 1, 1) := by decide +kernel
theorem dX4_mayLeap_41 : decode cX4_mayLeap 41 = .ok (.bipush 10, 2) := by decide +kernel
theorem dX4_mayLeap_43 : decode cX4_mayLeap 43 = .ok (.if_icmp .ge 34, 3) := by decide +kernel
theorem dX4_mayLeap_46 : decode cX4_mayLeap 46 = .ok (.aload_n 0, 1) := by decide +kernel
theorem dX4_mayLeap_47 : decode cX4_mayLeap 47 = .ok (.getfield 16, 3) := by decide +kernel
theorem dX4_mayLeap_50 : decode cX4_mayLeap 50 = .ok (.iload 5, 2) := by decide +kernel
theorem dX4_mayLeap_52 : decode cX4_mayLeap 52 = .ok (.iaload, 1) := by decide +kernel
theorem dX4_mayLeap_53 : decode cX4_mayLeap 53 = .ok (.ifCond .ne 22, 3) := by decide +kernel
theorem dX4_mayLeap_56 : decode cX4_mayLeap 56 = .ok (.iload_n 1, 1) := by decide +kernel
theorem dX4_mayLeap_57 : decode cX4_mayLeap 57 = .ok (.aload_n 0, 1) := by decide +kernel
theorem dX4_mayLeap_58 : decode cX4_mayLeap 58 = .ok (.iload 5, 2) := by decide +kernel
theorem dX4_mayLeap_60 : decode cX4_mayLeap 60 = .ok (.iload 4, 2) := by decide +kernel
theorem dX4_mayLeap_62 : decode cX4_mayLeap 62 = .ok (.invokevirtual 144, 3) := by decide +kernel
theorem dX4_mayLeap_65 : decode cX4_mayLeap 65 = .ok (.invokestatic 151, 3) := by decide +kernel
theorem dX4_mayLeap_68 : decode cX4_mayLeap 68 = .ok (.ifCond .eq 7, 3) := by decide +kernel
theorem dX4_mayLeap_71 : decode cX4_mayLeap 71 = .ok (.iconst 1, 1) := by decide +kernel
theorem dX4_mayLeap_72 : decode cX4_mayLeap 72 = .ok (.goto 4, 3) := by decide +kernel
theorem dX4_mayLeap_75 : decode cX4_mayLeap 75 = .ok (.iconst 0, 1) := by decide +kernel
theorem dX4_mayLeap_76 : decode cX4_mayLeap 76 = .ok (.ireturn, 1) := by decide +kernel
theorem dX4_mayLeap_77 : decode cX4_mayLeap 77 = .ok (.iload_n 1, 1) := by decide +kernel
theorem dX4_mayLeap_78 : decode cX4_mayLeap 78 = .ok (.bipush 18, 2) := by decide +kernel
theorem dX4_mayLeap_80 : decode cX4_mayLeap 80 = .ok (.if_icmp .ge 27, 3) := by decide +kernel
theorem dX4_mayLeap_83 : decode cX4_mayLeap 83 = .ok (.iload_n 1, 1) := by decide +kernel
theorem dX4_mayLeap_84 : decode cX4_mayLeap 84 = .ok (.iload_n 2, 1) := by decide +kernel
theorem dX4_mayLeap_85 : decode cX4_mayLeap 85 = .ok (.if_icmp .eq 22, 3) := by decide +kernel
theorem dX4_mayLeap_88 : decode cX4_mayLeap 88 = .ok (.aload_n 0, 1) := by decide +kernel
theorem dX4_mayLeap_89 : decode cX4_mayLeap 89 = .ok (.iload_n 1, 1) := by decide +kernel
theorem dX4_mayLeap_90 : decode cX4_mayLeap 90 = .ok (.bipush 10, 2) := by decide +kernel
theorem dX4_mayLeap_92 : decode cX4_mayLeap 92 = .ok (.isub, 1) := by decide +kernel
theorem dX4_mayLeap_93 : decode cX4_mayLeap 93 = .ok (.iload 5, 2) := by decide +kernel
theorem dX4_mayLeap_95 : decode cX4_mayLeap 95 = .ok (.iload 4, 2) := by decide +kernel
theorem dX4_mayLeap_97 : decode cX4_mayLeap 97 = .ok (.invokevirtual 154, 3) := by decide +kernel
theorem dX4_mayLeap_100 : decode cX4_mayLeap 100 = .ok (.ifCond .eq 7, 3) := by decide +kernel
theorem dX4_mayLeap_103 : decode cX4_mayLeap 103 = .ok (.iconst 1, 1) := by decide +kernel
theorem dX4_mayLeap_104 : decode cX4_mayLeap 104 = .ok (.goto 4, 3) := by decide +kernel
theorem dX4_mayLeap_107 : decode cX4_mayLeap 107 = .ok (.iconst 0, 1) := by decide +kernel
theorem dX4_mayLeap_108 : decode cX4_mayLeap 108 = .ok (.ireturn, 1) := by decide +kernel
theorem dX4_mayLeap_109 : decode cX4_mayLeap 109 = .ok (.iload_n 1, 1) := by decide +kernel
theorem dX4_mayLeap_110 : decode cX4_mayLeap 110 = .ok (.bipush 10, 2) := by decide +kernel
theorem dX4_mayLeap_112 : decode cX4_mayLeap 112 = .ok (.bipush 17, 2) := by decide +kernel
theorem dX4_mayLeap_114 : decode cX4_mayLeap 114 = .ok (.invokestatic 62, 3) := by decide +kernel
theorem dX4_mayLeap_117 : decode cX4_mayLeap 117 = .ok (.ifCond .ne 5, 3) := by decide +kernel
theorem dX4_mayLeap_120 : decode cX4_mayLeap 120 = .ok (.iconst 0, 1) := by decide +kernel
theorem dX4_mayLeap_121 : decode cX4_mayLeap 121 = .ok (.ireturn, 1) := by decide +kernel
theorem dX4_mayLeap_122 : decode cX4_mayLeap 122 = .ok (.iload_n 1, 1) := by decide +kernel
theorem dX4_mayLeap_123 : decode cX4_mayLeap 123 = .ok (.bipush 10, 2) := by decide +kernel
theorem dX4_mayLeap_125 : decode cX4_mayLeap 125 = .ok (.isub, 1) := by decide +kernel
theorem dX4_mayLeap_126 : decode cX4_mayLeap 126 = .ok (.istore 5, 2) := by decide +kernel
theorem dX4_mayLeap_128 : decode cX4_mayLeap 128 = .ok (.iload_n 2, 1) := by decide +kernel
theorem dX4_mayLeap_129 : decode cX4_mayLeap 129 = .ok (.bipush 18, 2) := by decide +kernel
theorem dX4_mayLeap_131 : decode cX4_mayLeap 131 = .ok (.if_icmp .ne 27, 3) := by decide +kernel
theorem dX4_mayLeap_134 : decode cX4_mayLeap 134 = .ok (.aload_n 0, 1) := by decide +kernel
theorem dX4_mayLeap_135 : decode cX4_mayLeap 135 = .ok (.getfield 16, 3) := by decide +kernel
theorem dX4_mayLeap_138 : decode cX4_mayLeap 138 = .ok (.iload 5, 2) := by decide +kernel
theorem dX4_mayLeap_140 : decode cX4_mayLeap 140 = .ok (.iaload, 1) := by decide +kernel
theorem dX4_mayLeap_141 : decode cX4_mayLeap 141 = .ok (.aload_n 0, 1) := by decide +kernel
theorem dX4_mayLeap_142 : decode cX4_mayLeap 142 = .ok (.getfield 28, 3) := by decide +kernel
theorem dX4_mayLeap_145 : decode cX4_mayLeap 145 = .ok (.iconst 1, 1) := by decide +kernel
theorem dX4_mayLeap_146 : decode cX4_mayLeap 146 = .ok (.isub, 1) := by decide +kernel
theorem dX4_mayLeap_147 : decode cX4_mayLeap 147 = .ok (.if_icmp .ne 7, 3) := by decide +kernel
theorem dX4_mayLeap_150 : decode cX4_mayLeap 150 = .ok (.iconst 1, 1) := by decide +kernel
theorem dX4_mayLeap_151 : decode cX4_mayLeap 151 = .ok (.goto 34, 3) := by decide +kernel
theorem dX4_mayLeap_154 : decode cX4_mayLeap 154 = .ok (.iconst 0, 1) := by decide +kernel
theorem dX4_mayLeap_155 : decode cX4_mayLeap 155 = .ok (.goto 30, 3) := by decide +kernel
theorem dX4_mayLeap_158 : decode cX4_mayLeap 158 = .ok (.aload_n 0, 1) := by decide +kernel
theorem dX4_mayLeap_159 : decode cX4_mayLeap 159 = .ok (.getfield 16, 3) := by decide +kernel
theorem dX4_mayLeap_162 : decode cX4_mayLeap 162 = .ok (.iload 5, 2) := by decide +kernel
theorem dX4_mayLeap_164 : decode cX4_mayLeap 164 = .ok (.iaload, 1) := by decide +kernel
theorem dX4_mayLeap_165 : decode cX4_mayLeap 165 = .ok (.ifCond .ne 19, 3) := by decide +kernel
theorem dX4_mayLeap_168 : decode cX4_mayLeap 168 = .ok (.aload_n 0, 1) := by decide +kernel
theorem dX4_mayLeap_169 : decode cX4_mayLeap 169 = .ok (.iload 5, 2) := by decide +kernel
theorem dX4_mayLeap_171 : decode cX4_mayLeap 171 = .ok (.iload 4, 2) := by decide +kernel
theorem dX4_mayLeap_173 : decode cX4_mayLeap 173 = .ok (.invokevirtual 144, 3) := by decide +kernel
theorem dX4_mayLeap_176 : decode cX4_mayLeap 176 = .ok (.iload_n 2, 1) := by decide +kernel
theorem dX4_mayLeap_177 : decode cX4_mayLeap 177 = .ok (.if_icmp .ne 7, 3) := by decide +kernel
theorem dX4_mayLeap_180 : decode cX4_mayLeap 180 = .ok (.iconst 1, 1) := by decide +kernel
theorem dX4_mayLeap_181 : decode cX4_mayLeap 181 = .ok (.goto 4, 3) := by decide +kernel
theorem dX4_mayLeap_184 : decode cX4_mayLeap 184 = .ok (.iconst 0, 1) := by decide +kernel
theorem dX4_mayLeap_185 : decode cX4_mayLeap 185 = .ok (.ireturn, 1) := by decide +kernel
set_option maxRecDepth 20000 in
theorem ggX4_mayLeap_X4_isIn : GoodIn wsX4_mayLeap wsX4_isIn := goodIn_r _ [7] (by decide +kernel) (by decide +kernel)
set_option maxRecDepth 20000 in
theorem gX4_mayLeap_X4_isIn : GoodIn wsX4_mayLeap (va_wsS RX4 62 yX4_isIn wsX4_isIn) := goodIn_app (goodIn_of _ (by decide +kernel)) ggX4_mayLeap_X4_isIn
set_option maxRecDepth 20000 in
theorem ggX4_mayLeap_X4_doesBear : GoodIn wsX4_mayLeap wsX4_doesBear := goodIn_r _ [11, 12, 13, 14, 15, 6, 16, 17, 18, 40, 41, 42, 43, 44, 45, 46, 47, 48, 49, 50, 51, 52, 53, 54, 55, 56, 57, 58, 59, 60, 61, 62, 63, 64, 65, 66, 67] (by decide +kernel) (by decide +kernel)
set_option maxRecDepth 20000 in
theorem gX4_mayLeap_X4_doesBear : GoodIn wsX4_mayLeap (wsV RX4 160 RX4 yX4_doesBear wsX4_doesBear) := goodIn_app (goodIn_of _ (by decide +kernel)) ggX4_mayLeap_X4_doesBear
set_option maxRecDepth 20000 in
theorem ggX4_mayLeap_X4_whereIs : GoodIn wsX4_mayLeap wsX4_whereIs := goodIn_r _ [22, 23, 24, 18, 25, 26, 27, 28, 6, 29, 30, 31, 32, 40, 41, 42, 43, 44, 45, 46, 47, 48, 49, 50, 51, 52, 53, 54, 55, 56, 57, 58, 59, 60, 61, 62, 63, 64, 65, 66, 67] (by decide +kernel) (by decide +kernel)
set_option maxRecDepth 20000 in
theorem gX4_mayLeap_X4_whereIs : GoodIn wsX4_mayLeap (wsV RX4 144 RX4 yX4_whereIs wsX4_whereIs) := goodIn_app (goodIn_of _ (by decide +kernel)) ggX4_mayLeap_X4_whereIs
set_option maxRecDepth 20000 in
theorem ggX4_mayLeap_X4_isNear : GoodIn wsX4_mayLeap wsX4_isNear := goodIn_r _ [35, 30, 31, 6, 32] (by decide +kernel) (by decide +kernel)
set_option maxRecDepth 20000 in
theorem gX4_mayLeap_X4_isNear : GoodIn wsX4_mayLeap (va_wsS RX4 151 yX4_isNear wsX4_isNear) := goodIn_app (goodIn_of _ (by decide +kernel)) ggX4_mayLeap_X4_isNear
set_option maxRecDepth 20000 in
theorem ggX4_mayLeap_X4_canLeap : GoodIn wsX4_mayLeap wsX4_canLeap := goodIn_r _ [39, 2, 19, 20, 21, 6, 22, 23, 24, 18, 25, 26, 27, 28, 29, 30, 31, 32, 33, 34, 35, 40, 41, 42, 43, 44, 45, 46, 47, 48, 49, 50, 51, 52, 53, 54, 55, 56, 57, 58, 59, 60, 61, 62, 63, 64, 65, 66, 67] (by decide +kernel) (by decide +kernel)
set_option maxRecDepth 20000 in
theorem gX4_mayLeap_X4_canLeap : GoodIn wsX4_mayLeap (wsV RX4 154 RX4 yX4_canLeap wsX4_canLeap) := goodIn_app (goodIn_of _ (by decide +kernel)) ggX4_mayLeap_X4_canLeap
set_option maxHeartbeats 4000000 in
set_option maxRecDepth 100000 in
theorem mX4_mayLeap (l : Launch) (dC : Nat → ClassId) (dI : Nat → Nat → Nat) (cI cC : ClassId) (sk : (Nat → Nat) × (Nat → Nat)) (f : Nat → Nat) (p1 : Int32) (p2 : Int32) (p3 : Int32) (p4 : Int32) (c_r : RT) (c_refused : AR) (c_tape : AR) (c_letter : AR) (c_letterAt : AR) (c_number : AR) (c_taped : Int32) (c_at : Int32) (c_statements : Int32) (c_kept : AR) (c_hasImage : Int32) (c_isKeeping : Int32) (c_cursor : Int32) (c_poled : Int32) (c_barred : Int32) (c_leapsTo : AR) (c_leapsThen : AR) (c_lands : AR) (c_row : AR) (c_rowMany : Int32) (c_endsAt : Int32) (z : Int32) (h : fX4_mayLeap p1 p2 p3 p4 c_r c_poled c_barred = some z) : cRO l yX4_mayLeap wsX4_mayLeap (RMk 3 67) sk (dC, dI) (tyz cI cC) (zwM cI cC f c_r c_refused c_tape c_letter c_letterAt c_number c_taped c_at c_statements c_kept c_hasImage c_isKeeping c_cursor c_poled c_barred c_leapsTo c_leapsThen c_lands c_row c_rowMany c_endsAt) [.ref (f 0), .int p1, .int p2, .int p3, .int p4] z := by
  refine ofRO (cc := cX4_mayLeap) (maxL := 6) (ret := (some .boolean)) (own := RX4) (plainFor_of_name (by decide)) rfl rfl (Nat.le_of_ble_eq_true rfl) ?_
  intro p e s m args below meth c hx hb hml hr hts hown hlocks hE hK hP hS ls hl
  generalize hQ : qRO _ _ _ _ = Q
  have hl : lv_has ls 6 [(0, .ref (f 0)), (1, .int p1), (2, .int p2), (3, .int p3), (4, .int p4)] := hl
  have hiX4 : ∀ w ∈ wsX40, w ∈ wsX4_mayLeap := fun w h => List.mem_cons_of_mem _ (List.mem_append_right _ h)
  have hw2 := hts (Cond.fieldLink RX4 16 "FloeToFloeModel" "laneOf" "[I") (List.mem_of_getElem? (i := 2) rfl)
  have hw3 := hts (Cond.fieldLink RX4 28 "FloeToFloeModel" "lanes" "I") (List.mem_of_getElem? (i := 3) rfl)
  have hw1 := hts (Cond.fieldLink RX4 59 "FloeToFloeModel" "floes" "I") (List.mem_of_getElem? (i := 1) rfl)
  rw [fX4_mayLeap] at h
  refine lv_iload_n hx hb dX4_mayLeap_0 rfl (lv_at hl 2 rfl) ?_
  refine lv_bipush (v := (10 : Int32)) hx hb dX4_mayLeap_1 (by decide) ?_
  refine lv_bipush (v := (17 : Int32)) hx hb dX4_mayLeap_3 (by decide) ?_
  obtain ⟨q5, e5, h⟩ := bd_some h
  refine g_roS (wc := ([] : va_W)) ⟨hx, hb, hml, hown, hts⟩ hE hK hP hS [] rfl (mX4_isIn l dC dI cI cC sk  p2 (10 : Int32) (17 : Int32) q5 e5) (va_cwS 3 hts gX4_mayLeap_X4_isIn rfl rfl rfl (by decide +kernel) ⟨Nat.le_of_ble_eq_true rfl, Nat.le_of_ble_eq_true rfl⟩) (As := [.int p2, .int (10 : Int32), .int (17 : Int32)]) (rest := []) rfl hl.1 rfl (Nat.le_of_ble_eq_true rfl) dX4_mayLeap_5 ⟨Nat.zero_le _, Nat.zero_le _⟩ (fun H locs hP hS => ?_)
  refine lv_if_eq (tgt := 109) hx hb dX4_mayLeap_8 (by decide) (fun c8 => ?_) (fun c8 => ?_)
  · have h := itT c8 h
    refine lv_iload_n hx hb dX4_mayLeap_109 rfl (lv_at hl 1 rfl) ?_
    refine lv_bipush (v := (10 : Int32)) hx hb dX4_mayLeap_110 (by decide) ?_
    refine lv_bipush (v := (17 : Int32)) hx hb dX4_mayLeap_112 (by decide) ?_
    obtain ⟨q114, e114, h⟩ := bd_some h
    refine g_roS (wc := ([] : va_W)) ⟨hx, hb, hml, hown, hts⟩ hE hK hP hS [] rfl (mX4_isIn l dC dI cI cC sk  p1 (10 : Int32) (17 : Int32) q114 e114) (va_cwS 3 hts gX4_mayLeap_X4_isIn rfl rfl rfl (by decide +kernel) ⟨Nat.le_of_ble_eq_true rfl, Nat.le_of_ble_eq_true rfl⟩) (As := [.int p1, .int (10 : Int32), .int (17 : Int32)]) (rest := []) rfl hl.1 rfl (Nat.le_of_ble_eq_true rfl) dX4_mayLeap_114 ⟨Nat.zero_le _, Nat.zero_le _⟩ (fun H locs hP hS => ?_)
    refine lv_if_ne (tgt := 122) hx hb dX4_mayLeap_117 (by decide) (fun c117 => ?_) (fun c117 => ?_)
    · have h := itF c117 h
      refine lv_iload_n hx hb dX4_mayLeap_122 rfl (lv_at hl 1 rfl) ?_
      refine lv_bipush (v := (10 : Int32)) hx hb dX4_mayLeap_123 (by decide) ?_
      refine lv_isub hx hb dX4_mayLeap_125 ?_
      refine lv_istore (lv' := [(5, .int (p1 - (10 : Int32))), (0, .ref (f 0)), (1, .int p1), (2, .int p2), (3, .int p3), (4, .int p4)]) hx hb dX4_mayLeap_126 hl (by decide) rfl (fun ls hl => ?_)
      refine lv_iload_n hx hb dX4_mayLeap_128 rfl (lv_at hl 3 rfl) ?_
      refine lv_bipush (v := (18 : Int32)) hx hb dX4_mayLeap_129 (by decide) ?_
      refine lv_icmp_ne (tgt := 158) hx hb dX4_mayLeap_131 (by decide) (fun c131 => ?_) (fun c131 => ?_)
      · have h := itF c131 h
        refine lv_aload_n hx hb dX4_mayLeap_158 rfl (lv_at hl 1 rfl) ?_
        refine va_get (D := (dC, dI)) (ci := 4) (v := .ref (f 3)) (C := RX4) (T := TX4) (N := 28) hx hb hts hiX4 hown hK hP 0 rfl rfl 2 (by decide) hw2 (fun _ h9 => h9) rfl dX4_mayLeap_159 ?_
        refine lv_iload hx hb dX4_mayLeap_162 (lv_at hl 0 rfl) ?_
        obtain ⟨hin, h⟩ := ck_some h
        refine va_iald hx hb hK hP 3 0 rfl rfl hin dX4_mayLeap_164 ?_
        refine lv_if_ne (tgt := 184) hx hb dX4_mayLeap_165 (by decide) (fun c165 => ?_) (fun c165 => ?_)
        · have h := itF c165 h
          refine lv_iconst (v := (0 : Int32)) hx hb dX4_mayLeap_184 (by decide) ?_
          subst hQ
          exact retRO hx hb hr hlocks rfl hS h dX4_mayLeap_185
        have h := itT c165 h
        refine lv_aload_n hx hb dX4_mayLeap_168 rfl (lv_at hl 1 rfl) ?_
        refine lv_iload hx hb dX4_mayLeap_169 (lv_at hl 0 rfl) ?_
        refine lv_iload hx hb dX4_mayLeap_171 (lv_at hl 5 rfl) ?_
        obtain ⟨q173, e173, h⟩ := bd_some h
        refine g_roV (wc := (zwM cI cC f c_r c_refused c_tape c_letter c_letterAt c_number c_taped c_at c_statements c_kept c_hasImage c_isKeeping c_cursor c_poled c_barred c_leapsTo c_leapsThen c_lands c_row c_rowMany c_endsAt)) ⟨hx, hb, hml, hown, hts⟩ hE hK hP hS [0, 1, 2, 3, 4, 5, 6, 7, 8, 9, 10, 11, 12, 13, 14, 15] rfl (mX4_whereIs l dC dI cI cC sk f (p1 - (10 : Int32)) p4 c_r c_refused c_tape c_letter c_letterAt c_number c_taped c_at c_statements c_kept c_hasImage c_isKeeping c_cursor c_poled c_barred c_leapsTo c_leapsThen c_lands c_row c_rowMany c_endsAt q173 e173) (cwV 2 hts gX4_mayLeap_X4_whereIs rfl rfl rfl (by decide +kernel) ⟨Nat.le_of_ble_eq_true rfl, Nat.le_of_ble_eq_true rfl⟩) (va_recv hK hP (ci := 4) (q0 := 0) rfl rfl) (As := [.int (p1 - (10 : Int32)), .int p4]) (rest := []) rfl hl.1 rfl (Nat.le_of_ble_eq_true rfl) dX4_mayLeap_173 ⟨Nat.zero_le _, Nat.zero_le _⟩ (fun H locs hP hS => ?_)
        refine lv_iload_n hx hb dX4_mayLeap_176 rfl (lv_at hl 3 rfl) ?_
        refine lv_icmp_ne (tgt := 184) hx hb dX4_mayLeap_177 (by decide) (fun c177 => ?_) (fun c177 => ?_)
        · have h := itF c177 h
          refine lv_iconst (v := (0 : Int32)) hx hb dX4_mayLeap_184 (by decide) ?_
          subst hQ
          exact retRO hx hb hr hlocks rfl hS h dX4_mayLeap_185
        have h := itT c177 h
        refine lv_iconst (v := (1 : Int32)) hx hb dX4_mayLeap_180 (by decide) ?_
        refine lv_goto (tgt := 185) hx hb dX4_mayLeap_181 (by decide) ?_
        subst hQ
        exact retRO hx hb hr hlocks rfl hS h dX4_mayLeap_185
      have h := itT c131 h
      refine lv_aload_n hx hb dX4_mayLeap_134 rfl (lv_at hl 1 rfl) ?_
      refine va_get (D := (dC, dI)) (ci := 4) (v := .ref (f 3)) (C := RX4) (T := TX4) (N := 28) hx hb hts hiX4 hown hK hP 0 rfl rfl 2 (by decide) hw2 (fun _ h9 => h9) rfl dX4_mayLeap_135 ?_
      refine lv_iload hx hb dX4_mayLeap_138 (lv_at hl 0 rfl) ?_
      obtain ⟨hin, h⟩ := ck_some h
      refine va_iald hx hb hK hP 3 0 rfl rfl hin dX4_mayLeap_140 ?_
      refine lv_aload_n hx hb dX4_mayLeap_141 rfl (lv_at hl 1 rfl) ?_
      refine va_get (D := (dC, dI)) (ci := 4) (v := .int (R_lanes c_r)) (C := RX4) (T := TX4) (N := 28) hx hb hts hiX4 hown hK hP 0 rfl rfl 7 (by decide) hw3 (fun _ h9 => h9) rfl dX4_mayLeap_142 ?_
      refine lv_iconst (v := (1 : Int32)) hx hb dX4_mayLeap_145 (by decide) ?_
      refine lv_isub hx hb dX4_mayLeap_146 ?_
      refine lv_icmp_ne (tgt := 154) hx hb dX4_mayLeap_147 (by decide) (fun c147 => ?_) (fun c147 => ?_)
      · have h := itF c147 h
        refine lv_iconst (v := (0 : Int32)) hx hb dX4_mayLeap_154 (by decide) ?_
        refine lv_goto (tgt := 185) hx hb dX4_mayLeap_155 (by decide) ?_
        subst hQ
        exact retRO hx hb hr hlocks rfl hS h dX4_mayLeap_185
      have h := itT c147 h
      refine lv_iconst (v := (1 : Int32)) hx hb dX4_mayLeap_150 (by decide) ?_
      refine lv_goto (tgt := 185) hx hb dX4_mayLeap_151 (by decide) ?_
      subst hQ
      exact retRO hx hb hr hlocks rfl hS h dX4_mayLeap_185
    have h := itT c117 h
    refine lv_iconst (v := (0 : Int32)) hx hb dX4_mayLeap_120 (by decide) ?_
    subst hQ
    exact retRO hx hb hr hlocks rfl hS h dX4_mayLeap_121
  have h := itF c8 h
  refine lv_iload_n hx hb dX4_mayLeap_11 rfl (lv_at hl 2 rfl) ?_
  refine lv_bipush (v := (10 : Int32)) hx hb dX4_mayLeap_12 (by decide) ?_
  refine lv_isub hx hb dX4_mayLeap_14 ?_
  refine lv_istore (lv' := [(5, .int (p2 - (10 : Int32))), (0, .ref (f 0)), (1, .int p1), (2, .int p2), (3, .int p3), (4, .int p4)]) hx hb dX4_mayLeap_15 hl (by decide) rfl (fun ls hl => ?_)
  refine lv_iload hx hb dX4_mayLeap_17 (lv_at hl 0 rfl) ?_
  refine lv_aload_n hx hb dX4_mayLeap_19 rfl (lv_at hl 1 rfl) ?_
  refine va_get (D := (dC, dI)) (ci := 4) (v := .int (R_floes c_r)) (C := RX4) (T := TX4) (N := 28) hx hb hts hiX4 hown hK hP 0 rfl rfl 6 (by decide) hw1 (fun _ h9 => h9) rfl dX4_mayLeap_20 ?_
  refine lv_icmp_ge (tgt := 38) hx hb dX4_mayLeap_23 (by decide) (fun c23 => ?_) (fun c23 => ?_)
  · have h := itT c23 h
    refine lv_iconst (v := (0 : Int32)) hx hb dX4_mayLeap_38 (by decide) ?_
    subst hQ
    exact retRO hx hb hr hlocks rfl hS h dX4_mayLeap_39
  have h := itF c23 h
  refine lv_aload_n hx hb dX4_mayLeap_26 rfl (lv_at hl 1 rfl) ?_
  refine lv_iload hx hb dX4_mayLeap_27 (lv_at hl 0 rfl) ?_
  refine lv_iload_n hx hb dX4_mayLeap_29 rfl (lv_at hl 4 rfl) ?_
  refine lv_iload hx hb dX4_mayLeap_30 (lv_at hl 5 rfl) ?_
  obtain ⟨q32, e32, h⟩ := bd_some h
  refine g_roV (wc := (zwM cI cC f c_r c_refused c_tape c_letter c_letterAt c_number c_taped c_at c_statements c_kept c_hasImage c_isKeeping c_cursor c_poled c_barred c_leapsTo c_leapsThen c_lands c_row c_rowMany c_endsAt)) ⟨hx, hb, hml, hown, hts⟩ hE hK hP hS [0, 1, 2, 3, 4, 5, 6, 7, 8, 9, 10, 11, 12, 13, 14, 15] rfl (mX4_doesBear l dC dI cI cC sk f (p2 - (10 : Int32)) p3 p4 c_r c_refused c_tape c_letter c_letterAt c_number c_taped c_at c_statements c_kept c_hasImage c_isKeeping c_cursor c_poled c_barred c_leapsTo c_leapsThen c_lands c_row c_rowMany c_endsAt q32 e32) (cwV 3 hts gX4_mayLeap_X4_doesBear rfl rfl rfl (by decide +kernel) ⟨Nat.le_of_ble_eq_true rfl, Nat.le_of_ble_eq_true rfl⟩) (va_recv hK hP (ci := 4) (q0 := 0) rfl rfl) (As := [.int (p2 - (10 : Int32)), .int p3, .int p4]) (rest := []) rfl hl.1 rfl (Nat.le_of_ble_eq_true rfl) dX4_mayLeap_32 ⟨Nat.zero_le _, Nat.zero_le _⟩ (fun H locs hP hS => ?_)
  refine lv_if_ne (tgt := 40) hx hb dX4_mayLeap_35 (by decide) (fun c35 => ?_) (fun c35 => ?_)
  · have h := itF c35 h
    refine lv_iload_n hx hb dX4_mayLeap_40 rfl (lv_at hl 2 rfl) ?_
    refine lv_bipush (v := (10 : Int32)) hx hb dX4_mayLeap_41 (by decide) ?_
    refine lv_icmp_ge (tgt := 77) hx hb dX4_mayLeap_43 (by decide) (fun c43 => ?_) (fun c43 => ?_)
    · have h := itT c43 h
      refine lv_iload_n hx hb dX4_mayLeap_77 rfl (lv_at hl 2 rfl) ?_
      refine lv_bipush (v := (18 : Int32)) hx hb dX4_mayLeap_78 (by decide) ?_
      refine lv_icmp_ge (tgt := 107) hx hb dX4_mayLeap_80 (by decide) (fun c80 => ?_) (fun c80 => ?_)
      · have h := itT c80 h
        refine lv_iconst (v := (0 : Int32)) hx hb dX4_mayLeap_107 (by decide) ?_
        subst hQ
        exact retRO hx hb hr hlocks rfl hS h dX4_mayLeap_108
      have h := itF c80 h
      refine lv_iload_n hx hb dX4_mayLeap_83 rfl (lv_at hl 2 rfl) ?_
      refine lv_iload_n hx hb dX4_mayLeap_84 rfl (lv_at hl 3 rfl) ?_
      refine lv_icmp_eq (tgt := 107) hx hb dX4_mayLeap_85 (by decide) (fun c85 => ?_) (fun c85 => ?_)
      · have h := itT c85 h
        refine lv_iconst (v := (0 : Int32)) hx hb dX4_mayLeap_107 (by decide) ?_
        subst hQ
        exact retRO hx hb hr hlocks rfl hS h dX4_mayLeap_108
      have h := itF c85 h
      refine lv_aload_n hx hb dX4_mayLeap_88 rfl (lv_at hl 1 rfl) ?_
      refine lv_iload_n hx hb dX4_mayLeap_89 rfl (lv_at hl 2 rfl) ?_
      refine lv_bipush (v := (10 : Int32)) hx hb dX4_mayLeap_90 (by decide) ?_
      refine lv_isub hx hb dX4_mayLeap_92 ?_
      refine lv_iload hx hb dX4_mayLeap_93 (lv_at hl 0 rfl) ?_
      refine lv_iload hx hb dX4_mayLeap_95 (lv_at hl 5 rfl) ?_
      obtain ⟨q97, e97, h⟩ := bd_some h
      refine g_roV (wc := (zwM cI cC f c_r c_refused c_tape c_letter c_letterAt c_number c_taped c_at c_statements c_kept c_hasImage c_isKeeping c_cursor c_poled c_barred c_leapsTo c_leapsThen c_lands c_row c_rowMany c_endsAt)) ⟨hx, hb, hml, hown, hts⟩ hE hK hP hS [0, 1, 2, 3, 4, 5, 6, 7, 8, 9, 10, 11, 12, 13, 14, 15] rfl (mX4_canLeap l dC dI cI cC sk f (p1 - (10 : Int32)) (p2 - (10 : Int32)) p4 c_r c_refused c_tape c_letter c_letterAt c_number c_taped c_at c_statements c_kept c_hasImage c_isKeeping c_cursor c_poled c_barred c_leapsTo c_leapsThen c_lands c_row c_rowMany c_endsAt q97 e97) (cwV 3 hts gX4_mayLeap_X4_canLeap rfl rfl rfl (by decide +kernel) ⟨Nat.le_of_ble_eq_true rfl, Nat.le_of_ble_eq_true rfl⟩) (va_recv hK hP (ci := 4) (q0 := 0) rfl rfl) (As := [.int (p1 - (10 : Int32)), .int (p2 - (10 : Int32)), .int p4]) (rest := []) rfl hl.1 rfl (Nat.le_of_ble_eq_true rfl) dX4_mayLeap_97 ⟨Nat.zero_le _, Nat.zero_le _⟩ (fun H locs hP hS => ?_)
      refine lv_if_eq (tgt := 107) hx hb dX4_mayLeap_100 (by decide) (fun c100 => ?_) (fun c100 => ?_)
      · have h := itT c100 h
        refine lv_iconst (v := (0 : Int32)) hx hb dX4_mayLeap_107 (by decide) ?_
        subst hQ
        exact retRO hx hb hr hlocks rfl hS h dX4_mayLeap_108
      have h := itF c100 h
      refine lv_iconst (v := (1 : Int32)) hx hb dX4_mayLeap_103 (by decide) ?_
      refine lv_goto (tgt := 108) hx hb dX4_mayLeap_104 (by decide) ?_
      subst hQ
      exact retRO hx hb hr hlocks rfl hS h dX4_mayLeap_108
    have h := itF c43 h
    refine lv_aload_n hx hb dX4_mayLeap_46 rfl (lv_at hl 1 rfl) ?_
    refine va_get (D := (dC, dI)) (ci := 4) (v := .ref (f 3)) (C := RX4) (T := TX4) (N := 28) hx hb hts hiX4 hown hK hP 0 rfl rfl 2 (by decide) hw2 (fun _ h9 => h9) rfl dX4_mayLeap_47 ?_
    refine lv_iload hx hb dX4_mayLeap_50 (lv_at hl 0 rfl) ?_
    obtain ⟨hin, h⟩ := ck_some h
    refine va_iald hx hb hK hP 3 0 rfl rfl hin dX4_mayLeap_52 ?_
    refine lv_if_ne (tgt := 75) hx hb dX4_mayLeap_53 (by decide) (fun c53 => ?_) (fun c53 => ?_)
    · have h := itF c53 h
      refine lv_iconst (v := (0 : Int32)) hx hb dX4_mayLeap_75 (by decide) ?_
      subst hQ
      exact retRO hx hb hr hlocks rfl hS h dX4_mayLeap_76
    have h := itT c53 h
    refine lv_iload_n hx hb dX4_mayLeap_56 rfl (lv_at hl 2 rfl) ?_
    refine lv_aload_n hx hb dX4_mayLeap_57 rfl (lv_at hl 1 rfl) ?_
    refine lv_iload hx hb dX4_mayLeap_58 (lv_at hl 0 rfl) ?_
    refine lv_iload hx hb dX4_mayLeap_60 (lv_at hl 5 rfl) ?_
    obtain ⟨q62, e62, h⟩ := bd_some h
    refine g_roV (wc := (zwM cI cC f c_r c_refused c_tape c_letter c_letterAt c_number c_taped c_at c_statements c_kept c_hasImage c_isKeeping c_cursor c_poled c_barred c_leapsTo c_leapsThen c_lands c_row c_rowMany c_endsAt)) ⟨hx, hb, hml, hown, hts⟩ hE hK hP hS [0, 1, 2, 3, 4, 5, 6, 7, 8, 9, 10, 11, 12, 13, 14, 15] rfl (mX4_whereIs l dC dI cI cC sk f (p2 - (10 : Int32)) p4 c_r c_refused c_tape c_letter c_letterAt c_number c_taped c_at c_statements c_kept c_hasImage c_isKeeping c_cursor c_poled c_barred c_leapsTo c_leapsThen c_lands c_row c_rowMany c_endsAt q62 e62) (cwV 2 hts gX4_mayLeap_X4_whereIs rfl rfl rfl (by decide +kernel) ⟨Nat.le_of_ble_eq_true rfl, Nat.le_of_ble_eq_true rfl⟩) (va_recv hK hP (ci := 4) (q0 := 0) rfl rfl) (As := [.int (p2 - (10 : Int32)), .int p4]) (rest := [.int p1]) rfl hl.1 rfl (Nat.le_of_ble_eq_true rfl) dX4_mayLeap_62 ⟨Nat.zero_le _, Nat.zero_le _⟩ (fun H locs hP hS => ?_)
    obtain ⟨q65, e65, h⟩ := bd_some h
    refine g_roS (wc := ([] : va_W)) ⟨hx, hb, hml, hown, hts⟩ hE hK hP hS [] rfl (mX4_isNear l dC dI cI cC sk  p1 q62 q65 e65) (va_cwS 2 hts gX4_mayLeap_X4_isNear rfl rfl rfl (by decide +kernel) ⟨Nat.le_of_ble_eq_true rfl, Nat.le_of_ble_eq_true rfl⟩) (As := [.int p1, .int q62]) (rest := []) rfl hl.1 rfl (Nat.le_of_ble_eq_true rfl) dX4_mayLeap_65 ⟨Nat.zero_le _, Nat.zero_le _⟩ (fun H locs hP hS => ?_)
    refine lv_if_eq (tgt := 75) hx hb dX4_mayLeap_68 (by decide) (fun c68 => ?_) (fun c68 => ?_)
    · have h := itT c68 h
      refine lv_iconst (v := (0 : Int32)) hx hb dX4_mayLeap_75 (by decide) ?_
      subst hQ
      exact retRO hx hb hr hlocks rfl hS h dX4_mayLeap_76
    have h := itF c68 h
    refine lv_iconst (v := (1 : Int32)) hx hb dX4_mayLeap_71 (by decide) ?_
    refine lv_goto (tgt := 76) hx hb dX4_mayLeap_72 (by decide) ?_
    subst hQ
    exact retRO hx hb hr hlocks rfl hS h dX4_mayLeap_76
  have h := itT c35 h
  refine lv_iconst (v := (0 : Int32)) hx hb dX4_mayLeap_38 (by decide) ?_
  subst hQ
  exact retRO hx hb hr hlocks rfl hS h dX4_mayLeap_39
theorem dX4_mayStay_0 : decode cX4_mayStay 0 = .ok (.iload_n 1, 1) := by decide +kernel
theorem dX4_mayStay_1 : decode cX4_mayStay 1 = .ok (.iload_n 2, 1) := by decide +kernel
theorem dX4_mayStay_2 : decode cX4_mayStay 2 = .ok (.if_icmp .ne 35, 3) := by decide +kernel
theorem dX4_mayStay_5 : decode cX4_mayStay 5 = .ok (.iload_n 1, 1) := by decide +kernel
theorem dX4_mayStay_6 : decode cX4_mayStay 6 = .ok (.bipush 10, 2) := by decide +kernel
theorem dX4_mayStay_8 : decode cX4_mayStay 8 = .ok (.if_icmp .lt 23, 3) := by decide +kernel
theorem dX4_mayStay_11 : decode cX4_mayStay 11 = .ok (.iload_n 1, 1) := by decide +kernel
theorem dX4_mayStay_12 : decode cX4_mayStay 12 = .ok (.bipush 18, 2) := by decide +kernel
theorem dX4_mayStay_14 : decode cX4_mayStay 14 = .ok (.if_icmp .eq 17, 3) := by decide +kernel
theorem dX4_mayStay_17 : decode cX4_mayStay 17 = .ok (.aload_n 0, 1) := by decide +kernel
theorem dX4_mayStay_18 : decode cX4_mayStay 18 = .ok (.iload_n 1, 1) := by decide +kernel
theorem dX4_mayStay_19 : decode cX4_mayStay 19 = .ok (.bipush 10, 2) := by decide +kernel
theorem dX4_mayStay_21 : decode cX4_mayStay 21 = .ok (.isub, 1) := by decide +kernel
theorem dX4_mayStay_22 : decode cX4_mayStay 22 = .ok (.iload_n 3, 1) := by decide +kernel
theorem dX4_mayStay_23 : decode cX4_mayStay 23 = .ok (.iload 4, 2) := by decide +kernel
theorem dX4_mayStay_25 : decode cX4_mayStay 25 = .ok (.invokevirtual 160, 3) := by decide +kernel
theorem dX4_mayStay_28 : decode cX4_mayStay 28 = .ok (.ifCond .eq 7, 3) := by decide +kernel
theorem dX4_mayStay_31 : decode cX4_mayStay 31 = .ok (.iconst 1, 1) := by decide +kernel
theorem dX4_mayStay_32 : decode cX4_mayStay 32 = .ok (.goto 4, 3) := by decide +kernel
theorem dX4_mayStay_35 : decode cX4_mayStay 35 = .ok (.iconst 0, 1) := by decide +kernel
theorem dX4_mayStay_36 : decode cX4_mayStay 36 = .ok (.ireturn, 1) := by decide +kernel
theorem dX4_mayStay_37 : decode cX4_mayStay 37 = .ok (.iload_n 1, 1) := by decide +kernel
theorem dX4_mayStay_38 : decode cX4_mayStay 38 = .ok (.bipush 10, 2) := by decide +kernel
theorem dX4_mayStay_40 : decode cX4_mayStay 40 = .ok (.if_icmp .ge 21, 3) := by decide +kernel
theorem dX4_mayStay_43 : decode cX4_mayStay 43 = .ok (.iload_n 2, 1) := by decide +kernel
theorem dX4_mayStay_44 : decode cX4_mayStay 44 = .ok (.bipush 10, 2) := by decide +kernel
theorem dX4_mayStay_46 : decode cX4_mayStay 46 = .ok (.if_icmp .ge 15, 3) := by decide +kernel
theorem dX4_mayStay_49 : decode cX4_mayStay 49 = .ok (.iload_n 1, 1) := by decide +kernel
theorem dX4_mayStay_50 : decode cX4_mayStay 50 = .ok (.iload_n 2, 1) := by decide +kernel
theorem dX4_mayStay_51 : decode cX4_mayStay 51 = .ok (.invokestatic 151, 3) := by decide +kernel
theorem dX4_mayStay_54 : decode cX4_mayStay 54 = .ok (.ifCond .eq 7, 3) := by decide +kernel
theorem dX4_mayStay_57 : decode cX4_mayStay 57 = .ok (.iconst 1, 1) := by decide +kernel
theorem dX4_mayStay_58 : decode cX4_mayStay 58 = .ok (.goto 4, 3) := by decide +kernel
theorem dX4_mayStay_61 : decode cX4_mayStay 61 = .ok (.iconst 0, 1) := by decide +kernel
theorem dX4_mayStay_62 : decode cX4_mayStay 62 = .ok (.ireturn, 1) := by decide +kernel
set_option maxRecDepth 20000 in
theorem ggX4_mayStay_X4_doesBear : GoodIn wsX4_mayStay wsX4_doesBear := goodIn_r _ [5, 6, 7, 8, 9, 4, 10, 11, 12, 19, 20, 21, 22, 23, 24, 25, 26, 27, 28, 29, 30, 31, 32, 33, 34, 35, 36, 37, 38, 39, 40, 41, 42, 43, 44, 45, 46] (by decide +kernel) (by decide +kernel)
set_option maxRecDepth 20000 in
theorem gX4_mayStay_X4_doesBear : GoodIn wsX4_mayStay (wsV RX4 160 RX4 yX4_doesBear wsX4_doesBear) := goodIn_app (goodIn_of _ (by decide +kernel)) ggX4_mayStay_X4_doesBear
set_option maxRecDepth 20000 in
theorem ggX4_mayStay_X4_isNear : GoodIn wsX4_mayStay wsX4_isNear := goodIn_r _ [15, 16, 17, 4, 18] (by decide +kernel) (by decide +kernel)
set_option maxRecDepth 20000 in
theorem gX4_mayStay_X4_isNear : GoodIn wsX4_mayStay (va_wsS RX4 151 yX4_isNear wsX4_isNear) := goodIn_app (goodIn_of _ (by decide +kernel)) ggX4_mayStay_X4_isNear
set_option maxHeartbeats 4000000 in
set_option maxRecDepth 100000 in
theorem mX4_mayStay (l : Launch) (dC : Nat → ClassId) (dI : Nat → Nat → Nat) (cI cC : ClassId) (sk : (Nat → Nat) × (Nat → Nat)) (f : Nat → Nat) (p1 : Int32) (p2 : Int32) (p3 : Int32) (p4 : Int32) (c_r : RT) (c_refused : AR) (c_tape : AR) (c_letter : AR) (c_letterAt : AR) (c_number : AR) (c_taped : Int32) (c_at : Int32) (c_statements : Int32) (c_kept : AR) (c_hasImage : Int32) (c_isKeeping : Int32) (c_cursor : Int32) (c_poled : Int32) (c_barred : Int32) (c_leapsTo : AR) (c_leapsThen : AR) (c_lands : AR) (c_row : AR) (c_rowMany : Int32) (c_endsAt : Int32) (z : Int32) (h : fX4_mayStay p1 p2 p3 p4 c_r c_barred = some z) : cRO l yX4_mayStay wsX4_mayStay (RMk 2 46) sk (dC, dI) (tyz cI cC) (zwM cI cC f c_r c_refused c_tape c_letter c_letterAt c_number c_taped c_at c_statements c_kept c_hasImage c_isKeeping c_cursor c_poled c_barred c_leapsTo c_leapsThen c_lands c_row c_rowMany c_endsAt) [.ref (f 0), .int p1, .int p2, .int p3, .int p4] z := by
  refine ofRO (cc := cX4_mayStay) (maxL := 5) (ret := (some .boolean)) (own := RX4) (plainFor_of_name (by decide)) rfl rfl (Nat.le_of_ble_eq_true rfl) ?_
  intro p e s m args below meth c hx hb hml hr hts hown hlocks hE hK hP hS ls hl
  generalize hQ : qRO _ _ _ _ = Q
  have hl : lv_has ls 5 [(0, .ref (f 0)), (1, .int p1), (2, .int p2), (3, .int p3), (4, .int p4)] := hl
  rw [fX4_mayStay] at h
  refine lv_iload_n hx hb dX4_mayStay_0 rfl (lv_at hl 1 rfl) ?_
  refine lv_iload_n hx hb dX4_mayStay_1 rfl (lv_at hl 2 rfl) ?_
  refine lv_icmp_ne (tgt := 37) hx hb dX4_mayStay_2 (by decide) (fun c2 => ?_) (fun c2 => ?_)
  · have h := itF c2 h
    refine lv_iload_n hx hb dX4_mayStay_37 rfl (lv_at hl 1 rfl) ?_
    refine lv_bipush (v := (10 : Int32)) hx hb dX4_mayStay_38 (by decide) ?_
    refine lv_icmp_ge (tgt := 61) hx hb dX4_mayStay_40 (by decide) (fun c40 => ?_) (fun c40 => ?_)
    · have h := itT c40 h
      refine lv_iconst (v := (0 : Int32)) hx hb dX4_mayStay_61 (by decide) ?_
      subst hQ
      exact retRO hx hb hr hlocks rfl hS h dX4_mayStay_62
    have h := itF c40 h
    refine lv_iload_n hx hb dX4_mayStay_43 rfl (lv_at hl 2 rfl) ?_
    refine lv_bipush (v := (10 : Int32)) hx hb dX4_mayStay_44 (by decide) ?_
    refine lv_icmp_ge (tgt := 61) hx hb dX4_mayStay_46 (by decide) (fun c46 => ?_) (fun c46 => ?_)
    · have h := itT c46 h
      refine lv_iconst (v := (0 : Int32)) hx hb dX4_mayStay_61 (by decide) ?_
      subst hQ
      exact retRO hx hb hr hlocks rfl hS h dX4_mayStay_62
    have h := itF c46 h
    refine lv_iload_n hx hb dX4_mayStay_49 rfl (lv_at hl 1 rfl) ?_
    refine lv_iload_n hx hb dX4_mayStay_50 rfl (lv_at hl 2 rfl) ?_
    obtain ⟨q51, e51, h⟩ := bd_some h
    refine g_roS (wc := ([] : va_W)) ⟨hx, hb, hml, hown, hts⟩ hE hK hP hS [] rfl (mX4_isNear l dC dI cI cC sk  p1 p2 q51 e51) (va_cwS 2 hts gX4_mayStay_X4_isNear rfl rfl rfl (by decide +kernel) ⟨Nat.le_of_ble_eq_true rfl, Nat.le_of_ble_eq_true rfl⟩) (As := [.int p1, .int p2]) (rest := []) rfl hl.1 rfl (Nat.le_of_ble_eq_true rfl) dX4_mayStay_51 ⟨Nat.zero_le _, Nat.zero_le _⟩ (fun H locs hP hS => ?_)
    refine lv_if_eq (tgt := 61) hx hb dX4_mayStay_54 (by decide) (fun c54 => ?_) (fun c54 => ?_)
    · have h := itT c54 h
      refine lv_iconst (v := (0 : Int32)) hx hb dX4_mayStay_61 (by decide) ?_
      subst hQ
      exact retRO hx hb hr hlocks rfl hS h dX4_mayStay_62
    have h := itF c54 h
    refine lv_iconst (v := (1 : Int32)) hx hb dX4_mayStay_57 (by decide) ?_
    refine lv_goto (tgt := 62) hx hb dX4_mayStay_58 (by decide) ?_
    subst hQ
    exact retRO hx hb hr hlocks rfl hS h dX4_mayStay_62
  have h := itT c2 h
  refine lv_iload_n hx hb dX4_mayStay_5 rfl (lv_at hl 1 rfl) ?_
  refine lv_bipush (v := (10 : Int32)) hx hb dX4_mayStay_6 (by decide) ?_
  refine lv_icmp_lt (tgt := 31) hx hb dX4_mayStay_8 (by decide) (fun c8 => ?_) (fun c8 => ?_)
  · have h := itT c8 h
    refine lv_iconst (v := (1 : Int32)) hx hb dX4_mayStay_31 (by decide) ?_
    refine lv_goto (tgt := 36) hx hb dX4_mayStay_32 (by decide) ?_
    subst hQ
    exact retRO hx hb hr hlocks rfl hS h dX4_mayStay_36
  have h := itF c8 h
  refine lv_iload_n hx hb dX4_mayStay_11 rfl (lv_at hl 1 rfl) ?_
  refine lv_bipush (v := (18 : Int32)) hx hb dX4_mayStay_12 (by decide) ?_
  refine lv_icmp_eq (tgt := 31) hx hb dX4_mayStay_14 (by decide) (fun c14 => ?_) (fun c14 => ?_)
  · have h := itT c14 h
    refine lv_iconst (v := (1 : Int32)) hx hb dX4_mayStay_31 (by decide) ?_
    refine lv_goto (tgt := 36) hx hb dX4_mayStay_32 (by decide) ?_
    subst hQ
    exact retRO hx hb hr hlocks rfl hS h dX4_mayStay_36
  have h := itF c14 h
  refine lv_aload_n hx hb dX4_mayStay_17 rfl (lv_at hl 0 rfl) ?_
  refine lv_iload_n hx hb dX4_mayStay_18 rfl (lv_at hl 1 rfl) ?_
  refine lv_bipush (v := (10 : Int32)) hx hb dX4_mayStay_19 (by decide) ?_
  refine lv_isub hx hb dX4_mayStay_21 ?_
  refine lv_iload_n hx hb dX4_mayStay_22 rfl (lv_at hl 3 rfl) ?_
  refine lv_iload hx hb dX4_mayStay_23 (lv_at hl 4 rfl) ?_
  obtain ⟨q25, e25, h⟩ := bd_some h
  refine g_roV (wc := (zwM cI cC f c_r c_refused c_tape c_letter c_letterAt c_number c_taped c_at c_statements c_kept c_hasImage c_isKeeping c_cursor c_poled c_barred c_leapsTo c_leapsThen c_lands c_row c_rowMany c_endsAt)) ⟨hx, hb, hml, hown, hts⟩ hE hK hP hS [0, 1, 2, 3, 4, 5, 6, 7, 8, 9, 10, 11, 12, 13, 14, 15] rfl (mX4_doesBear l dC dI cI cC sk f (p1 - (10 : Int32)) p3 p4 c_r c_refused c_tape c_letter c_letterAt c_number c_taped c_at c_statements c_kept c_hasImage c_isKeeping c_cursor c_poled c_barred c_leapsTo c_leapsThen c_lands c_row c_rowMany c_endsAt q25 e25) (cwV 3 hts gX4_mayStay_X4_doesBear rfl rfl rfl (by decide +kernel) ⟨Nat.le_of_ble_eq_true rfl, Nat.le_of_ble_eq_true rfl⟩) (va_recv hK hP (ci := 4) (q0 := 0) rfl rfl) (As := [.int (p1 - (10 : Int32)), .int p3, .int p4]) (rest := []) rfl hl.1 rfl (Nat.le_of_ble_eq_true rfl) dX4_mayStay_25 ⟨Nat.zero_le _, Nat.zero_le _⟩ (fun H locs hP hS => ?_)
  refine lv_if_eq (tgt := 35) hx hb dX4_mayStay_28 (by decide) (fun c28 => ?_) (fun c28 => ?_)
  · have h := itT c28 h
    refine lv_iconst (v := (0 : Int32)) hx hb dX4_mayStay_35 (by decide) ?_
    subst hQ
    exact retRO hx hb hr hlocks rfl hS h dX4_mayStay_36
  have h := itF c28 h
  refine lv_iconst (v := (1 : Int32)) hx hb dX4_mayStay_31 (by decide) ?_
  refine lv_goto (tgt := 36) hx hb dX4_mayStay_32 (by decide) ?_
  subst hQ
  exact retRO hx hb hr hlocks rfl hS h dX4_mayStay_36
theorem dX4_goesOn_0 : decode cX4_goesOn 0 = .ok (.iconst 0, 1) := by decide +kernel
theorem dX4_goesOn_1 : decode cX4_goesOn 1 = .ok (.istore 4, 2) := by decide +kernel
theorem dX4_goesOn_3 : decode cX4_goesOn 3 = .ok (.iconst 0, 1) := by decide +kernel
theorem dX4_goesOn_4 : decode cX4_goesOn 4 = .ok (.istore 5, 2) := by decide +kernel
theorem dX4_goesOn_6 : decode cX4_goesOn 6 = .ok (.iload 5, 2) := by decide +kernel
theorem dX4_goesOn_8 : decode cX4_goesOn 8 = .ok (.bipush 19, 2) := by decide +kernel
theorem dX4_goesOn_10 : decode cX4_goesOn 10 = .ok (.if_icmp .ge 72, 3) := by decide +kernel
theorem dX4_goesOn_13 : decode cX4_goesOn 13 = .ok (.iload_n 1, 1) := by decide +kernel
theorem dX4_goesOn_14 : decode cX4_goesOn 14 = .ok (.iload 5, 2) := by decide +kernel
theorem dX4_goesOn_16 : decode cX4_goesOn 16 = .ok (.ishr, 1) := by decide +kernel
theorem dX4_goesOn_17 : decode cX4_goesOn 17 = .ok (.iconst 1, 1) := by decide +kernel
theorem dX4_goesOn_18 : decode cX4_goesOn 18 = .ok (.iand, 1) := by decide +kernel
theorem dX4_goesOn_19 : decode cX4_goesOn 19 = .ok (.ifCond .ne 6, 3) := by decide +kernel
theorem dX4_goesOn_22 : decode cX4_goesOn 22 = .ok (.goto 54, 3) := by decide +kernel
theorem dX4_goesOn_25 : decode cX4_goesOn 25 = .ok (.iconst 0, 1) := by decide +kernel
theorem dX4_goesOn_26 : decode cX4_goesOn 26 = .ok (.istore 6, 2) := by decide +kernel
theorem dX4_goesOn_28 : decode cX4_goesOn 28 = .ok (.iload 6, 2) := by decide +kernel
theorem dX4_goesOn_30 : decode cX4_goesOn 30 = .ok (.bipush 19, 2) := by decide +kernel
theorem dX4_goesOn_32 : decode cX4_goesOn 32 = .ok (.if_icmp .ge 44, 3) := by decide +kernel
theorem dX4_goesOn_35 : decode cX4_goesOn 35 = .ok (.aload_n 0, 1) := by decide +kernel
theorem dX4_goesOn_36 : decode cX4_goesOn 36 = .ok (.iload 5, 2) := by decide +kernel
theorem dX4_goesOn_38 : decode cX4_goesOn 38 = .ok (.iload 6, 2) := by decide +kernel
theorem dX4_goesOn_40 : decode cX4_goesOn 40 = .ok (.iload_n 2, 1) := by decide +kernel
theorem dX4_goesOn_41 : decode cX4_goesOn 41 = .ok (.iload_n 3, 1) := by decide +kernel
theorem dX4_goesOn_42 : decode cX4_goesOn 42 = .ok (.invokevirtual 163, 3) := by decide +kernel
theorem dX4_goesOn_45 : decode cX4_goesOn 45 = .ok (.ifCond .ne 16, 3) := by decide +kernel
theorem dX4_goesOn_48 : decode cX4_goesOn 48 = .ok (.aload_n 0, 1) := by decide +kernel
theorem dX4_goesOn_49 : decode cX4_goesOn 49 = .ok (.iload 5, 2) := by decide +kernel
theorem dX4_goesOn_51 : decode cX4_goesOn 51 = .ok (.iload 6, 2) := by decide +kernel
theorem dX4_goesOn_53 : decode cX4_goesOn 53 = .ok (.iload_n 2, 1) := by decide +kernel
theorem dX4_goesOn_54 : decode cX4_goesOn 54 = .ok (.iload_n 3, 1) := by decide +kernel
theorem dX4_goesOn_55 : decode cX4_goesOn 55 = .ok (.invokevirtual 167, 3) := by decide +kernel
theorem dX4_goesOn_58 : decode cX4_goesOn 58 = .ok (.ifCond .eq 12, 3) := by decide +kernel
theorem dX4_goesOn_61 : decode cX4_goesOn 61 = .ok (.iload 4, 2) := by decide +kernel
theorem dX4_goesOn_63 : decode cX4_goesOn 63 = .ok (.iconst 1, 1) := by decide +kernel
theorem dX4_goesOn_64 : decode cX4_goesOn 64 = .ok (.iload 6, 2) := by decide +kernel
theorem dX4_goesOn_66 : decode cX4_goesOn 66 = .ok (.ishl, 1) := by decide +kernel
theorem dX4_goesOn_67 : decode cX4_goesOn 67 = .ok (.ior, 1) := by decide +kernel
theorem dX4_goesOn_68 : decode cX4_goesOn 68 = .ok (.istore 4, 2) := by decide +kernel
theorem dX4_goesOn_70 : decode cX4_goesOn 70 = .ok (.iinc 6 1, 3) := by decide +kernel
theorem dX4_goesOn_73 : decode cX4_goesOn 73 = .ok (.goto (-45), 3) := by decide +kernel
theorem dX4_goesOn_76 : decode cX4_goesOn 76 = .ok (.iinc 5 1, 3) := by decide +kernel
theorem dX4_goesOn_79 : decode cX4_goesOn 79 = .ok (.goto (-73), 3) := by decide +kernel
theorem dX4_goesOn_82 : decode cX4_goesOn 82 = .ok (.iload 4, 2) := by decide +kernel
theorem dX4_goesOn_84 : decode cX4_goesOn 84 = .ok (.ireturn, 1) := by decide +kernel
set_option maxRecDepth 20000 in
theorem ggX4_goesOn_X4_mayStay : GoodIn wsX4_goesOn wsX4_mayStay := goodIn_r _ [5, 6, 7, 8, 4, 9, 10, 11, 12, 13, 14, 15, 16, 17, 18, 19, 20, 21, 22, 48, 49, 50, 51, 52, 53, 54, 55, 56, 57, 58, 59, 60, 61, 62, 63, 64, 65, 66, 67, 68, 69, 70, 71, 72, 73, 74, 75] (by decide +kernel) (by decide +kernel)
set_option maxRecDepth 20000 in
theorem gX4_goesOn_X4_mayStay : GoodIn wsX4_goesOn (wsV RX4 163 RX4 yX4_mayStay wsX4_mayStay) := goodIn_app (goodIn_of _ (by decide +kernel)) ggX4_goesOn_X4_mayStay
set_option maxRecDepth 20000 in
theorem ggX4_goesOn_X4_mayLeap : GoodIn wsX4_goesOn wsX4_mayLeap := goodIn_r _ [26, 27, 28, 29, 30, 31, 4, 32, 6, 7, 8, 9, 10, 11, 12, 13, 14, 15, 16, 33, 34, 35, 36, 37, 38, 39, 40, 41, 42, 43, 20, 21, 22, 17, 18, 19, 44, 45, 46, 47, 48, 49, 50, 51, 52, 53, 54, 55, 56, 57, 58, 59, 60, 61, 62, 63, 64, 65, 66, 67, 68, 69, 70, 71, 72, 73, 74, 75] (by decide +kernel) (by decide +kernel)
set_option maxRecDepth 20000 in
theorem gX4_goesOn_X4_mayLeap : GoodIn wsX4_goesOn (wsV RX4 167 RX4 yX4_mayLeap wsX4_mayLeap) := goodIn_app (goodIn_of _ (by decide +kernel)) ggX4_goesOn_X4_mayLeap
set_option maxHeartbeats 4000000 in
set_option maxRecDepth 100000 in
theorem mX4_goesOn (l : Launch) (dC : Nat → ClassId) (dI : Nat → Nat → Nat) (cI cC : ClassId) (sk : (Nat → Nat) × (Nat → Nat)) (f : Nat → Nat) (p1 : Int32) (p2 : Int32) (p3 : Int32) (c_r : RT) (c_refused : AR) (c_tape : AR) (c_letter : AR) (c_letterAt : AR) (c_number : AR) (c_taped : Int32) (c_at : Int32) (c_statements : Int32) (c_kept : AR) (c_hasImage : Int32) (c_isKeeping : Int32) (c_cursor : Int32) (c_poled : Int32) (c_barred : Int32) (c_leapsTo : AR) (c_leapsThen : AR) (c_lands : AR) (c_row : AR) (c_rowMany : Int32) (c_endsAt : Int32) (z : Int32) (h : fX4_goesOn p1 p2 p3 c_r c_poled c_barred = some z) : cRO l yX4_goesOn wsX4_goesOn (RMk 4 92) sk (dC, dI) (tyz cI cC) (zwM cI cC f c_r c_refused c_tape c_letter c_letterAt c_number c_taped c_at c_statements c_kept c_hasImage c_isKeeping c_cursor c_poled c_barred c_leapsTo c_leapsThen c_lands c_row c_rowMany c_endsAt) [.ref (f 0), .int p1, .int p2, .int p3] z := by
  refine ofRO (cc := cX4_goesOn) (maxL := 7) (ret := (some .int)) (own := RX4) (plainFor_of_name (by decide)) rfl rfl (Nat.le_of_ble_eq_true rfl) ?_
  intro p e s m args below meth c hx hb hml hr hts hown hlocks hE hK hP hS ls hl
  generalize hQ : qRO _ _ _ _ = Q
  have hl : lv_has ls 7 [(0, .ref (f 0)), (1, .int p1), (2, .int p2), (3, .int p3)] := hl
  rw [fX4_goesOn] at h
  refine lv_iconst (v := (0 : Int32)) hx hb dX4_goesOn_0 (by decide) ?_
  refine lv_istore (lv' := [(4, .int (0 : Int32)), (0, .ref (f 0)), (1, .int p1), (2, .int p2), (3, .int p3)]) hx hb dX4_goesOn_1 hl (by decide) rfl (fun ls hl => ?_)
  refine lv_iconst (v := (0 : Int32)) hx hb dX4_goesOn_3 (by decide) ?_
  refine lv_istore (lv' := [(5, .int (0 : Int32)), (4, .int (0 : Int32)), (0, .ref (f 0)), (1, .int p1), (2, .int p2), (3, .int p3)]) hx hb dX4_goesOn_4 hl (by decide) rfl (fun ls hl => ?_)
  have L6 : ∀ (K6 : Int32 → Option (Int32)), (∀ (k6_4 : Int32), K6 k6_4 = some z → ∀ (H : Heap) (locs : List Loc) (ls : Array Slot), va_P (dC, dI) vwCl (zwM cI cC f c_r c_refused c_tape c_letter c_letterAt c_number c_taped c_at c_statements c_kept c_hasImage c_isKeeping c_cursor c_poled c_barred c_leapsTo c_leapsThen c_lands c_row c_rowMany c_endsAt) H → va_S noA s.heap H locs → lv_has ls 7 [(4, .int k6_4)] → W p l e (RMk 4 92) s m args below meth c H locs 0 0 Q (F0 m 82 ls [])) → ∀ (n : Nat) (x6_4 : Int32) (x6_5 : Int32), fX4_goesOn_L6 c_barred c_poled c_r p1 p2 p3 K6 n x6_4 x6_5 = some z → ∀ (H : Heap) (locs : List Loc) (ls : Array Slot), va_P (dC, dI) vwCl (zwM cI cC f c_r c_refused c_tape c_letter c_letterAt c_number c_taped c_at c_statements c_kept c_hasImage c_isKeeping c_cursor c_poled c_barred c_leapsTo c_leapsThen c_lands c_row c_rowMany c_endsAt) H → va_S noA s.heap H locs → lv_has ls 7 [(0, .ref (f 0)), (1, .int p1), (2, .int p2), (3, .int p3), (4, .int x6_4), (5, .int x6_5)] → W p l e (RMk 4 92) s m args below meth c H locs 0 0 Q (F0 m 6 ls []) := by
    intro K6 kx6 n
    induction n with
    | zero => intro x6_4 x6_5 h; rw [fX4_goesOn_L6] at h; cases h
    | succ n ih6 =>
      intro x6_4 x6_5 h H locs ls hP hS hl
      rw [fX4_goesOn_L6] at h
      refine lv_iload hx hb dX4_goesOn_6 (lv_at hl 5 rfl) ?_
      refine lv_bipush (v := (19 : Int32)) hx hb dX4_goesOn_8 (by decide) ?_
      refine lv_icmp_ge (tgt := 82) hx hb dX4_goesOn_10 (by decide) (fun c10 => ?_) (fun c10 => ?_)
      · have h := itT c10 h
        exact kx6 _ h _ _ _ hP hS (lv_sub hl [4] rfl)
      have h := itF c10 h
      refine lv_iload_n hx hb dX4_goesOn_13 rfl (lv_at hl 1 rfl) ?_
      refine lv_iload hx hb dX4_goesOn_14 (lv_at hl 5 rfl) ?_
      refine lv_ishr hx hb dX4_goesOn_16 ?_
      refine lv_iconst (v := (1 : Int32)) hx hb dX4_goesOn_17 (by decide) ?_
      refine lv_iand hx hb dX4_goesOn_18 ?_
      refine lv_if_ne (tgt := 25) hx hb dX4_goesOn_19 (by decide) (fun c19 => ?_) (fun c19 => ?_)
      · have h := itF c19 h
        refine lv_iconst (v := (0 : Int32)) hx hb dX4_goesOn_25 (by decide) ?_
        refine lv_istore (lv' := [(6, .int (0 : Int32)), (0, .ref (f 0)), (1, .int p1), (2, .int p2), (3, .int p3), (4, .int x6_4), (5, .int x6_5)]) hx hb dX4_goesOn_26 hl (by decide) rfl (fun ls hl => ?_)
        have L28 : ∀ (K28 : Int32 → Option (Int32)), (∀ (k28_4 : Int32), K28 k28_4 = some z → ∀ (H : Heap) (locs : List Loc) (ls : Array Slot), va_P (dC, dI) vwCl (zwM cI cC f c_r c_refused c_tape c_letter c_letterAt c_number c_taped c_at c_statements c_kept c_hasImage c_isKeeping c_cursor c_poled c_barred c_leapsTo c_leapsThen c_lands c_row c_rowMany c_endsAt) H → va_S noA s.heap H locs → lv_has ls 7 [(0, .ref (f 0)), (1, .int p1), (2, .int p2), (3, .int p3), (4, .int k28_4), (5, .int x6_5)] → W p l e (RMk 4 92) s m args below meth c H locs 0 0 Q (F0 m 76 ls [])) → ∀ (n : Nat) (x28_4 : Int32) (x28_6 : Int32), fX4_goesOn_L28 c_barred c_poled c_r p2 p3 x6_5 K28 n x28_4 x28_6 = some z → ∀ (H : Heap) (locs : List Loc) (ls : Array Slot), va_P (dC, dI) vwCl (zwM cI cC f c_r c_refused c_tape c_letter c_letterAt c_number c_taped c_at c_statements c_kept c_hasImage c_isKeeping c_cursor c_poled c_barred c_leapsTo c_leapsThen c_lands c_row c_rowMany c_endsAt) H → va_S noA s.heap H locs → lv_has ls 7 [(0, .ref (f 0)), (1, .int p1), (2, .int p2), (3, .int p3), (4, .int x28_4), (5, .int x6_5), (6, .int x28_6)] → W p l e (RMk 4 92) s m args below meth c H locs 0 0 Q (F0 m 28 ls []) := by
          intro K28 kx28 n
          induction n with
          | zero => intro x28_4 x28_6 h; rw [fX4_goesOn_L28] at h; cases h
          | succ n ih28 =>
            intro x28_4 x28_6 h H locs ls hP hS hl
            rw [fX4_goesOn_L28] at h
            refine lv_iload hx hb dX4_goesOn_28 (lv_at hl 6 rfl) ?_
            refine lv_bipush (v := (19 : Int32)) hx hb dX4_goesOn_30 (by decide) ?_
            refine lv_icmp_ge (tgt := 76) hx hb dX4_goesOn_32 (by decide) (fun c32 => ?_) (fun c32 => ?_)
            · have h := itT c32 h
              exact kx28 _ h _ _ _ hP hS (lv_sub hl [0, 1, 2, 3, 4, 5] rfl)
            have h := itF c32 h
            refine lv_aload_n hx hb dX4_goesOn_35 rfl (lv_at hl 0 rfl) ?_
            refine lv_iload hx hb dX4_goesOn_36 (lv_at hl 5 rfl) ?_
            refine lv_iload hx hb dX4_goesOn_38 (lv_at hl 6 rfl) ?_
            refine lv_iload_n hx hb dX4_goesOn_40 rfl (lv_at hl 2 rfl) ?_
            refine lv_iload_n hx hb dX4_goesOn_41 rfl (lv_at hl 3 rfl) ?_
            obtain ⟨q42, e42, h⟩ := bd_some h
            refine g_roV (wc := (zwM cI cC f c_r c_refused c_tape c_letter c_letterAt c_number c_taped c_at c_statements c_kept c_hasImage c_isKeeping c_cursor c_poled c_barred c_leapsTo c_leapsThen c_lands c_row c_rowMany c_endsAt)) ⟨hx, hb, hml, hown, hts⟩ hE hK hP hS [0, 1, 2, 3, 4, 5, 6, 7, 8, 9, 10, 11, 12, 13, 14, 15] rfl (mX4_mayStay l dC dI cI cC sk f x6_5 x28_6 p2 p3 c_r c_refused c_tape c_letter c_letterAt c_number c_taped c_at c_statements c_kept c_hasImage c_isKeeping c_cursor c_poled c_barred c_leapsTo c_leapsThen c_lands c_row c_rowMany c_endsAt q42 e42) (cwV 4 hts gX4_goesOn_X4_mayStay rfl rfl rfl (by decide +kernel) ⟨Nat.le_of_ble_eq_true rfl, Nat.le_of_ble_eq_true rfl⟩) (va_recv hK hP (ci := 4) (q0 := 0) rfl rfl) (As := [.int x6_5, .int x28_6, .int p2, .int p3]) (rest := []) rfl hl.1 rfl (Nat.le_of_ble_eq_true rfl) dX4_goesOn_42 ⟨Nat.zero_le _, Nat.zero_le _⟩ (fun H locs hP hS => ?_)
            refine jnW (fun (v61 : Unit) => ∀ (H : Heap) (locs : List Loc) (ls : Array Slot), va_P (dC, dI) vwCl (zwM cI cC f c_r c_refused c_tape c_letter c_letterAt c_number c_taped c_at c_statements c_kept c_hasImage c_isKeeping c_cursor c_poled c_barred c_leapsTo c_leapsThen c_lands c_row c_rowMany c_endsAt) H → va_S noA s.heap H locs → lv_has ls 7 [(0, .ref (f 0)), (1, .int p1), (2, .int p2), (3, .int p3), (4, .int x28_4), (5, .int x6_5), (6, .int x28_6)] → W p l e (RMk 4 92) s m args below meth c H locs 0 0 Q (F0 m 61 ls [])) h (fun v61 h H locs ls hP hS hl => ?_) (fun J61 j61 h => ?_)
            · refine lv_iload hx hb dX4_goesOn_61 (lv_at hl 4 rfl) ?_
              refine lv_iconst (v := (1 : Int32)) hx hb dX4_goesOn_63 (by decide) ?_
              refine lv_iload hx hb dX4_goesOn_64 (lv_at hl 6 rfl) ?_
              refine lv_ishl hx hb dX4_goesOn_66 ?_
              refine lv_ior hx hb dX4_goesOn_67 ?_
              refine lv_istore (lv' := [(4, .int (x28_4 ||| ((1 : Int32) <<< (x28_6 &&& 31)))), (0, .ref (f 0)), (1, .int p1), (2, .int p2), (3, .int p3), (5, .int x6_5), (6, .int x28_6)]) hx hb dX4_goesOn_68 hl (by decide) rfl (fun ls hl => ?_)
              refine lv_iinc (v := (x28_6 + (1 : Int32))) (lv' := [(6, .int (x28_6 + (1 : Int32))), (4, .int (x28_4 ||| ((1 : Int32) <<< (x28_6 &&& 31)))), (0, .ref (f 0)), (1, .int p1), (2, .int p2), (3, .int p3), (5, .int x6_5)]) hx hb dX4_goesOn_70 hl (k := 6) rfl rfl (by decide) rfl (fun ls hl => ?_)
              refine lv_goto (tgt := 28) hx hb dX4_goesOn_73 (by decide) ?_
              exact ih28 _ _ h _ _ _ hP hS (lv_sub hl [2, 3, 4, 5, 1, 6, 0] rfl)
            refine lv_if_ne (tgt := 61) hx hb dX4_goesOn_45 (by decide) (fun c45 => ?_) (fun c45 => ?_)
            · have h := itF c45 h
              exact j61 _ h _ _ _ hP hS (lv_sub hl [0, 1, 2, 3, 4, 5, 6] rfl)
            have h := itT c45 h
            refine lv_aload_n hx hb dX4_goesOn_48 rfl (lv_at hl 0 rfl) ?_
            refine lv_iload hx hb dX4_goesOn_49 (lv_at hl 5 rfl) ?_
            refine lv_iload hx hb dX4_goesOn_51 (lv_at hl 6 rfl) ?_
            refine lv_iload_n hx hb dX4_goesOn_53 rfl (lv_at hl 2 rfl) ?_
            refine lv_iload_n hx hb dX4_goesOn_54 rfl (lv_at hl 3 rfl) ?_
            obtain ⟨q55, e55, h⟩ := bd_some h
            refine g_roV (wc := (zwM cI cC f c_r c_refused c_tape c_letter c_letterAt c_number c_taped c_at c_statements c_kept c_hasImage c_isKeeping c_cursor c_poled c_barred c_leapsTo c_leapsThen c_lands c_row c_rowMany c_endsAt)) ⟨hx, hb, hml, hown, hts⟩ hE hK hP hS [0, 1, 2, 3, 4, 5, 6, 7, 8, 9, 10, 11, 12, 13, 14, 15] rfl (mX4_mayLeap l dC dI cI cC sk f x6_5 x28_6 p2 p3 c_r c_refused c_tape c_letter c_letterAt c_number c_taped c_at c_statements c_kept c_hasImage c_isKeeping c_cursor c_poled c_barred c_leapsTo c_leapsThen c_lands c_row c_rowMany c_endsAt q55 e55) (cwV 4 hts gX4_goesOn_X4_mayLeap rfl rfl rfl (by decide +kernel) ⟨Nat.le_of_ble_eq_true rfl, Nat.le_of_ble_eq_true rfl⟩) (va_recv hK hP (ci := 4) (q0 := 0) rfl rfl) (As := [.int x6_5, .int x28_6, .int p2, .int p3]) (rest := []) rfl hl.1 rfl (Nat.le_of_ble_eq_true rfl) dX4_goesOn_55 ⟨Nat.zero_le _, Nat.zero_le _⟩ (fun H locs hP hS => ?_)
            refine lv_if_eq (tgt := 70) hx hb dX4_goesOn_58 (by decide) (fun c58 => ?_) (fun c58 => ?_)
            · have h := itT c58 h
              refine lv_iinc (v := (x28_6 + (1 : Int32))) (lv' := [(6, .int (x28_6 + (1 : Int32))), (0, .ref (f 0)), (1, .int p1), (2, .int p2), (3, .int p3), (4, .int x28_4), (5, .int x6_5)]) hx hb dX4_goesOn_70 hl (k := 6) rfl rfl (by decide) rfl (fun ls hl => ?_)
              refine lv_goto (tgt := 28) hx hb dX4_goesOn_73 (by decide) ?_
              exact ih28 _ _ h _ _ _ hP hS (lv_sub hl [1, 2, 3, 4, 5, 6, 0] rfl)
            have h := itF c58 h
            exact j61 _ h _ _ _ hP hS (lv_sub hl [0, 1, 2, 3, 4, 5, 6] rfl)
        refine L28 _ (fun k28_4 h H locs ls hP hS hl => ?_) _ _ _ h _ _ _ hP hS (lv_sub hl [1, 2, 3, 4, 5, 6, 0] rfl)
        refine lv_iinc (v := (x6_5 + (1 : Int32))) (lv' := [(5, .int (x6_5 + (1 : Int32))), (0, .ref (f 0)), (1, .int p1), (2, .int p2), (3, .int p3), (4, .int k28_4)]) hx hb dX4_goesOn_76 hl (k := 5) rfl rfl (by decide) rfl (fun ls hl => ?_)
        refine lv_goto (tgt := 6) hx hb dX4_goesOn_79 (by decide) ?_
        exact ih6 _ _ h _ _ _ hP hS (lv_sub hl [1, 2, 3, 4, 5, 0] rfl)
      have h := itT c19 h
      refine lv_goto (tgt := 76) hx hb dX4_goesOn_22 (by decide) ?_
      refine lv_iinc (v := (x6_5 + (1 : Int32))) (lv' := [(5, .int (x6_5 + (1 : Int32))), (0, .ref (f 0)), (1, .int p1), (2, .int p2), (3, .int p3), (4, .int x6_4)]) hx hb dX4_goesOn_76 hl (k := 5) rfl rfl (by decide) rfl (fun ls hl => ?_)
      refine lv_goto (tgt := 6) hx hb dX4_goesOn_79 (by decide) ?_
      exact ih6 _ _ h _ _ _ hP hS (lv_sub hl [1, 2, 3, 4, 5, 0] rfl)
  refine L6 _ (fun k6_4 h H locs ls hP hS hl => ?_) _ _ _ h _ _ _ hP hS (lv_sub hl [2, 3, 4, 5, 1, 0] rfl)
  refine lv_iload hx hb dX4_goesOn_82 (lv_at hl 0 rfl) ?_
  subst hQ
  exact retRO hx hb hr hlocks rfl hS h dX4_goesOn_84
theorem dX4_soonestFrom_0 : decode cX4_soonestFrom 0 = .ok (.iconst 1, 1) := by decide +kernel
theorem dX4_soonestFrom_1 : decode cX4_soonestFrom 1 = .ok (.iload_n 2, 1) := by decide +kernel
theorem dX4_soonestFrom_2 : decode cX4_soonestFrom 2 = .ok (.ishl, 1) := by decide +kernel
theorem dX4_soonestFrom_3 : decode cX4_soonestFrom 3 = .ok (.istore 4, 2) := by decide +kernel
theorem dX4_soonestFrom_5 : decode cX4_soonestFrom 5 = .ok (.iconst 0, 1) := by decide +kernel
theorem dX4_soonestFrom_6 : decode cX4_soonestFrom 6 = .ok (.istore 5, 2) := by decide +kernel
theorem dX4_soonestFrom_8 : decode cX4_soonestFrom 8 = .ok (.iload 5, 2) := by decide +kernel
theorem dX4_soonestFrom_10 : decode cX4_soonestFrom 10 = .ok (.bipush 40, 2) := by decide +kernel
theorem dX4_soonestFrom_12 : decode cX4_soonestFrom 12 = .ok (.if_icmp .gt 36, 3) := by decide +kernel
theorem dX4_soonestFrom_15 : decode cX4_soonestFrom 15 = .ok (.iload 4, 2) := by decide +kernel
theorem dX4_soonestFrom_17 : decode cX4_soonestFrom 17 = .ok (.bipush 18, 2) := by decide +kernel
theorem dX4_soonestFrom_19 : decode cX4_soonestFrom 19 = .ok (.ishr, 1) := by decide +kernel
theorem dX4_soonestFrom_20 : decode cX4_soonestFrom 20 = .ok (.iconst 1, 1) := by decide +kernel
theorem dX4_soonestFrom_21 : decode cX4_soonestFrom 21 = .ok (.iand, 1) := by decide +kernel
theorem dX4_soonestFrom_22 : decode cX4_soonestFrom 22 = .ok (.iconst 1, 1) := by decide +kernel
theorem dX4_soonestFrom_23 : decode cX4_soonestFrom 23 = .ok (.if_icmp .ne 6, 3) := by decide +kernel
theorem dX4_soonestFrom_26 : decode cX4_soonestFrom 26 = .ok (.iload 5, 2) := by decide +kernel
theorem dX4_soonestFrom_28 : decode cX4_soonestFrom 28 = .ok (.ireturn, 1) := by decide +kernel
theorem dX4_soonestFrom_29 : decode cX4_soonestFrom 29 = .ok (.aload_n 0, 1) := by decide +kernel
theorem dX4_soonestFrom_30 : decode cX4_soonestFrom 30 = .ok (.iload 4, 2) := by decide +kernel
theorem dX4_soonestFrom_32 : decode cX4_soonestFrom 32 = .ok (.iload_n 1, 1) := by decide +kernel
theorem dX4_soonestFrom_33 : decode cX4_soonestFrom 33 = .ok (.iload_n 3, 1) := by decide +kernel
theorem dX4_soonestFrom_34 : decode cX4_soonestFrom 34 = .ok (.iload 5, 2) := by decide +kernel
theorem dX4_soonestFrom_36 : decode cX4_soonestFrom 36 = .ok (.iadd, 1) := by decide +kernel
theorem dX4_soonestFrom_37 : decode cX4_soonestFrom 37 = .ok (.invokevirtual 170, 3) := by decide +kernel
theorem dX4_soonestFrom_40 : decode cX4_soonestFrom 40 = .ok (.istore 4, 2) := by decide +kernel
theorem dX4_soonestFrom_42 : decode cX4_soonestFrom 42 = .ok (.iinc 5 1, 3) := by decide +kernel
theorem dX4_soonestFrom_45 : decode cX4_soonestFrom 45 = .ok (.goto (-37), 3) := by decide +kernel
theorem dX4_soonestFrom_48 : decode cX4_soonestFrom 48 = .ok (.bipush (-9), 2) := by decide +kernel
theorem dX4_soonestFrom_50 : decode cX4_soonestFrom 50 = .ok (.ireturn, 1) := by decide +kernel
set_option maxRecDepth 20000 in
theorem ggX4_soonestFrom_X4_goesOn : GoodIn wsX4_soonestFrom wsX4_goesOn := goodIn_r _ [5, 6, 7, 8, 4, 9, 10, 11, 12, 13, 14, 15, 16, 17, 18, 19, 20, 21, 22, 23, 24, 25, 26, 27, 28, 29, 30, 31, 32, 33, 34, 35, 36, 37, 38, 39, 40, 41, 42, 43, 44, 45, 46, 47, 48, 49, 50, 51, 52, 53, 54, 55, 56, 57, 58, 59, 60, 61, 62, 63, 64, 65, 66, 67, 68, 69, 70, 71, 72, 73, 74, 75, 76, 77, 78, 79] (by decide +kernel) (by decide +kernel)
set_option maxRecDepth 20000 in
theorem gX4_soonestFrom_X4_goesOn : GoodIn wsX4_soonestFrom (wsV RX4 170 RX4 yX4_goesOn wsX4_goesOn) := goodIn_app (goodIn_of _ (by decide +kernel)) ggX4_soonestFrom_X4_goesOn
set_option maxHeartbeats 4000000 in
set_option maxRecDepth 100000 in
theorem mX4_soonestFrom (l : Launch) (dC : Nat → ClassId) (dI : Nat → Nat → Nat) (cI cC : ClassId) (sk : (Nat → Nat) × (Nat → Nat)) (f : Nat → Nat) (p1 : Int32) (p2 : Int32) (p3 : Int32) (c_r : RT) (c_refused : AR) (c_tape : AR) (c_letter : AR) (c_letterAt : AR) (c_number : AR) (c_taped : Int32) (c_at : Int32) (c_statements : Int32) (c_kept : AR) (c_hasImage : Int32) (c_isKeeping : Int32) (c_cursor : Int32) (c_poled : Int32) (c_barred : Int32) (c_leapsTo : AR) (c_leapsThen : AR) (c_lands : AR) (c_row : AR) (c_rowMany : Int32) (c_endsAt : Int32) (z : Int32) (h : fX4_soonestFrom p1 p2 p3 c_r c_poled c_barred = some z) : cRO l yX4_soonestFrom wsX4_soonestFrom (RMk 5 118) sk (dC, dI) (tyz cI cC) (zwM cI cC f c_r c_refused c_tape c_letter c_letterAt c_number c_taped c_at c_statements c_kept c_hasImage c_isKeeping c_cursor c_poled c_barred c_leapsTo c_leapsThen c_lands c_row c_rowMany c_endsAt) [.ref (f 0), .int p1, .int p2, .int p3] z := by
  refine ofRO (cc := cX4_soonestFrom) (maxL := 6) (ret := (some .int)) (own := RX4) (plainFor_of_name (by decide)) rfl rfl (Nat.le_of_ble_eq_true rfl) ?_
  intro p e s m args below meth c hx hb hml hr hts hown hlocks hE hK hP hS ls hl
  generalize hQ : qRO _ _ _ _ = Q
  have hl : lv_has ls 6 [(0, .ref (f 0)), (1, .int p1), (2, .int p2), (3, .int p3)] := hl
  rw [fX4_soonestFrom] at h
  refine lv_iconst (v := (1 : Int32)) hx hb dX4_soonestFrom_0 (by decide) ?_
  refine lv_iload_n hx hb dX4_soonestFrom_1 rfl (lv_at hl 2 rfl) ?_
  refine lv_ishl hx hb dX4_soonestFrom_2 ?_
  refine lv_istore (lv' := [(4, .int ((1 : Int32) <<< (p2 &&& 31))), (0, .ref (f 0)), (1, .int p1), (2, .int p2), (3, .int p3)]) hx hb dX4_soonestFrom_3 hl (by decide) rfl (fun ls hl => ?_)
  refine lv_iconst (v := (0 : Int32)) hx hb dX4_soonestFrom_5 (by decide) ?_
  refine lv_istore (lv' := [(5, .int (0 : Int32)), (4, .int ((1 : Int32) <<< (p2 &&& 31))), (0, .ref (f 0)), (1, .int p1), (2, .int p2), (3, .int p3)]) hx hb dX4_soonestFrom_6 hl (by decide) rfl (fun ls hl => ?_)
  have L8 : ∀ (K8 : Unit → Option (Int32)), (∀ (_ : Unit), K8 () = some z → ∀ (H : Heap) (locs : List Loc) (ls : Array Slot), va_P (dC, dI) vwCl (zwM cI cC f c_r c_refused c_tape c_letter c_letterAt c_number c_taped c_at c_statements c_kept c_hasImage c_isKeeping c_cursor c_poled c_barred c_leapsTo c_leapsThen c_lands c_row c_rowMany c_endsAt) H → va_S noA s.heap H locs → lv_has ls 6 [] → W p l e (RMk 5 118) s m args below meth c H locs 0 0 Q (F0 m 48 ls [])) → ∀ (n : Nat) (x8_4 : Int32) (x8_5 : Int32), fX4_soonestFrom_L8 c_barred c_poled c_r p1 p3 K8 n x8_4 x8_5 = some z → ∀ (H : Heap) (locs : List Loc) (ls : Array Slot), va_P (dC, dI) vwCl (zwM cI cC f c_r c_refused c_tape c_letter c_letterAt c_number c_taped c_at c_statements c_kept c_hasImage c_isKeeping c_cursor c_poled c_barred c_leapsTo c_leapsThen c_lands c_row c_rowMany c_endsAt) H → va_S noA s.heap H locs → lv_has ls 6 [(0, .ref (f 0)), (1, .int p1), (3, .int p3), (4, .int x8_4), (5, .int x8_5)] → W p l e (RMk 5 118) s m args below meth c H locs 0 0 Q (F0 m 8 ls []) := by
    intro K8 kx8 n
    induction n with
    | zero => intro x8_4 x8_5 h; rw [fX4_soonestFrom_L8] at h; cases h
    | succ n ih8 =>
      intro x8_4 x8_5 h H locs ls hP hS hl
      rw [fX4_soonestFrom_L8] at h
      refine lv_iload hx hb dX4_soonestFrom_8 (lv_at hl 4 rfl) ?_
      refine lv_bipush (v := (40 : Int32)) hx hb dX4_soonestFrom_10 (by decide) ?_
      refine lv_icmp_gt (tgt := 48) hx hb dX4_soonestFrom_12 (by decide) (fun c12 => ?_) (fun c12 => ?_)
      · have h := itT c12 h
        exact kx8 () h _ _ _ hP hS (lv_sub hl [] rfl)
      have h := itF c12 h
      refine lv_iload hx hb dX4_soonestFrom_15 (lv_at hl 3 rfl) ?_
      refine lv_bipush (v := (18 : Int32)) hx hb dX4_soonestFrom_17 (by decide) ?_
      refine lv_ishr hx hb dX4_soonestFrom_19 ?_
      refine lv_iconst (v := (1 : Int32)) hx hb dX4_soonestFrom_20 (by decide) ?_
      refine lv_iand hx hb dX4_soonestFrom_21 ?_
      refine lv_iconst (v := (1 : Int32)) hx hb dX4_soonestFrom_22 (by decide) ?_
      refine lv_icmp_ne (tgt := 29) hx hb dX4_soonestFrom_23 (by decide) (fun c23 => ?_) (fun c23 => ?_)
      · have h := itF c23 h
        refine lv_aload_n hx hb dX4_soonestFrom_29 rfl (lv_at hl 0 rfl) ?_
        refine lv_iload hx hb dX4_soonestFrom_30 (lv_at hl 3 rfl) ?_
        refine lv_iload_n hx hb dX4_soonestFrom_32 rfl (lv_at hl 1 rfl) ?_
        refine lv_iload_n hx hb dX4_soonestFrom_33 rfl (lv_at hl 2 rfl) ?_
        refine lv_iload hx hb dX4_soonestFrom_34 (lv_at hl 4 rfl) ?_
        refine lv_iadd hx hb dX4_soonestFrom_36 ?_
        obtain ⟨q37, e37, h⟩ := bd_some h
        refine g_roV (wc := (zwM cI cC f c_r c_refused c_tape c_letter c_letterAt c_number c_taped c_at c_statements c_kept c_hasImage c_isKeeping c_cursor c_poled c_barred c_leapsTo c_leapsThen c_lands c_row c_rowMany c_endsAt)) ⟨hx, hb, hml, hown, hts⟩ hE hK hP hS [0, 1, 2, 3, 4, 5, 6, 7, 8, 9, 10, 11, 12, 13, 14, 15] rfl (mX4_goesOn l dC dI cI cC sk f x8_4 p1 (p3 + x8_5) c_r c_refused c_tape c_letter c_letterAt c_number c_taped c_at c_statements c_kept c_hasImage c_isKeeping c_cursor c_poled c_barred c_leapsTo c_leapsThen c_lands c_row c_rowMany c_endsAt q37 e37) (cwV 3 hts gX4_soonestFrom_X4_goesOn rfl rfl rfl (by decide +kernel) ⟨Nat.le_of_ble_eq_true rfl, Nat.le_of_ble_eq_true rfl⟩) (va_recv hK hP (ci := 4) (q0 := 0) rfl rfl) (As := [.int x8_4, .int p1, .int (p3 + x8_5)]) (rest := []) rfl hl.1 rfl (Nat.le_of_ble_eq_true rfl) dX4_soonestFrom_37 ⟨Nat.zero_le _, Nat.zero_le _⟩ (fun H locs hP hS => ?_)
        refine lv_istore (lv' := [(4, .int q37), (0, .ref (f 0)), (1, .int p1), (3, .int p3), (5, .int x8_5)]) hx hb dX4_soonestFrom_40 hl (by decide) rfl (fun ls hl => ?_)
        refine lv_iinc (v := (x8_5 + (1 : Int32))) (lv' := [(5, .int (x8_5 + (1 : Int32))), (4, .int q37), (0, .ref (f 0)), (1, .int p1), (3, .int p3)]) hx hb dX4_soonestFrom_42 hl (k := 4) rfl rfl (by decide) rfl (fun ls hl => ?_)
        refine lv_goto (tgt := 8) hx hb dX4_soonestFrom_45 (by decide) ?_
        exact ih8 _ _ h _ _ _ hP hS (lv_sub hl [2, 3, 4, 1, 0] rfl)
      have h := itT c23 h
      refine lv_iload hx hb dX4_soonestFrom_26 (lv_at hl 4 rfl) ?_
      subst hQ
      exact retRO hx hb hr hlocks rfl hS h dX4_soonestFrom_28
  refine L8 _ (fun _ h H locs ls hP hS hl => ?_) _ _ _ h _ _ _ hP hS (lv_sub hl [2, 3, 5, 1, 0] rfl)
  refine lv_bipush (v := (-9 : Int32)) hx hb dX4_soonestFrom_48 (by decide) ?_
  subst hQ
  exact retRO hx hb hr hlocks rfl hS h dX4_soonestFrom_50
theorem dX4_notLoad_0 : decode cX4_notLoad 0 = .ok (.iload_n 1, 1) := by decide +kernel
theorem dX4_notLoad_1 : decode cX4_notLoad 1 = .ok (.invokestatic 173, 3) := by decide +kernel
theorem dX4_notLoad_4 : decode cX4_notLoad 4 = .ok (.ifCond .ne 7, 3) := by decide +kernel
theorem dX4_notLoad_7 : decode cX4_notLoad 7 = .ok (.iconst (-1), 1) := by decide +kernel
theorem dX4_notLoad_8 : decode cX4_notLoad 8 = .ok (.goto 10, 3) := by decide +kernel
theorem dX4_notLoad_11 : decode cX4_notLoad 11 = .ok (.iload_n 0, 1) := by decide +kernel
theorem dX4_notLoad_12 : decode cX4_notLoad 12 = .ok (.iconst 1, 1) := by decide +kernel
theorem dX4_notLoad_13 : decode cX4_notLoad 13 = .ok (.bipush 9, 2) := by decide +kernel
theorem dX4_notLoad_15 : decode cX4_notLoad 15 = .ok (.invokestatic 66, 3) := by decide +kernel
theorem dX4_notLoad_18 : decode cX4_notLoad 18 = .ok (.ireturn, 1) := by decide +kernel
set_option maxRecDepth 20000 in
theorem ggX4_notLoad_X4_isCell : GoodIn wsX4_notLoad wsX4_isCell := goodIn_r _ [4, 5, 6, 3, 7] (by decide +kernel) (by decide +kernel)
set_option maxRecDepth 20000 in
theorem gX4_notLoad_X4_isCell : GoodIn wsX4_notLoad (va_wsS RX4 173 yX4_isCell wsX4_isCell) := goodIn_app (goodIn_of _ (by decide +kernel)) ggX4_notLoad_X4_isCell
set_option maxRecDepth 20000 in
theorem ggX4_notLoad_X4_bound : GoodIn wsX4_notLoad wsX4_bound := goodIn_r _ [10] (by decide +kernel) (by decide +kernel)
set_option maxRecDepth 20000 in
theorem gX4_notLoad_X4_bound : GoodIn wsX4_notLoad (va_wsS RX4 66 yX4_bound wsX4_bound) := goodIn_app (goodIn_of _ (by decide +kernel)) ggX4_notLoad_X4_bound
set_option maxHeartbeats 4000000 in
set_option maxRecDepth 100000 in
theorem mX4_notLoad (l : Launch) (dC : Nat → ClassId) (dI : Nat → Nat → Nat) (cI cC : ClassId) (sk : (Nat → Nat) × (Nat → Nat))  (p0 : Int32) (p1 : Int32)  (z : Int32) (h : fX4_notLoad p0 p1 = some z) : cRO l yX4_notLoad wsX4_notLoad (RMk 2 42) sk (dC, dI) (tyz cI cC) ([] : va_W) [.int p0, .int p1] z := by
  refine ofRO (cc := cX4_notLoad) (maxL := 2) (ret := (some .int)) (own := RX4) (plainFor_of_name (by decide)) rfl rfl (Nat.le_of_ble_eq_true rfl) ?_
  intro p e s m args below meth c hx hb hml hr hts hown hlocks hE hK hP hS ls hl
  generalize hQ : qRO _ _ _ _ = Q
  have hl : lv_has ls 2 [(0, .int p0), (1, .int p1)] := hl
  rw [fX4_notLoad] at h
  refine lv_iload_n hx hb dX4_notLoad_0 rfl (lv_at hl 1 rfl) ?_
  obtain ⟨q1, e1, h⟩ := bd_some h
  refine g_roS (wc := ([] : va_W)) ⟨hx, hb, hml, hown, hts⟩ hE hK hP hS [] rfl (mX4_isCell l dC dI cI cC sk  p1 q1 e1) (va_cwS 1 hts gX4_notLoad_X4_isCell rfl rfl rfl (by decide +kernel) ⟨Nat.le_of_ble_eq_true rfl, Nat.le_of_ble_eq_true rfl⟩) (As := [.int p1]) (rest := []) rfl hl.1 rfl (Nat.le_of_ble_eq_true rfl) dX4_notLoad_1 ⟨Nat.zero_le _, Nat.zero_le _⟩ (fun H locs hP hS => ?_)
  refine lv_if_ne (tgt := 11) hx hb dX4_notLoad_4 (by decide) (fun c4 => ?_) (fun c4 => ?_)
  · have h := itF c4 h
    refine lv_iload_n hx hb dX4_notLoad_11 rfl (lv_at hl 0 rfl) ?_
    refine lv_iconst (v := (1 : Int32)) hx hb dX4_notLoad_12 (by decide) ?_
    refine lv_bipush (v := (9 : Int32)) hx hb dX4_notLoad_13 (by decide) ?_
    obtain ⟨q15, e15, h⟩ := bd_some h
    refine g_roS (wc := ([] : va_W)) ⟨hx, hb, hml, hown, hts⟩ hE hK hP hS [] rfl (mX4_bound l dC dI cI cC sk  p0 (1 : Int32) (9 : Int32) q15 e15) (va_cwS 3 hts gX4_notLoad_X4_bound rfl rfl rfl (by decide +kernel) ⟨Nat.le_of_ble_eq_true rfl, Nat.le_of_ble_eq_true rfl⟩) (As := [.int p0, .int (1 : Int32), .int (9 : Int32)]) (rest := []) rfl hl.1 rfl (Nat.le_of_ble_eq_true rfl) dX4_notLoad_15 ⟨Nat.zero_le _, Nat.zero_le _⟩ (fun H locs hP hS => ?_)
    subst hQ
    exact retRO hx hb hr hlocks rfl hS h dX4_notLoad_18
  have h := itT c4 h
  refine lv_iconst (v := (-1 : Int32)) hx hb dX4_notLoad_7 (by decide) ?_
  refine lv_goto (tgt := 18) hx hb dX4_notLoad_8 (by decide) ?_
  subst hQ
  exact retRO hx hb hr hlocks rfl hS h dX4_notLoad_18
theorem dX4_soonest_0 : decode cX4_soonest 0 = .ok (.iload_n 1, 1) := by decide +kernel
theorem dX4_soonest_1 : decode cX4_soonest 1 = .ok (.iload_n 2, 1) := by decide +kernel
theorem dX4_soonest_2 : decode cX4_soonest 2 = .ok (.invokestatic 176, 3) := by decide +kernel
theorem dX4_soonest_5 : decode cX4_soonest 5 = .ok (.istore_n 3, 1) := by decide +kernel
theorem dX4_soonest_6 : decode cX4_soonest 6 = .ok (.iload_n 3, 1) := by decide +kernel
theorem dX4_soonest_7 : decode cX4_soonest 7 = .ok (.ifCond .eq 11, 3) := by decide +kernel
theorem dX4_soonest_10 : decode cX4_soonest 10 = .ok (.aload_n 0, 1) := by decide +kernel
theorem dX4_soonest_11 : decode cX4_soonest 11 = .ok (.iload_n 3, 1) := by decide +kernel
theorem dX4_soonest_12 : decode cX4_soonest 12 = .ok (.invokevirtual 73, 3) := by decide +kernel
theorem dX4_soonest_15 : decode cX4_soonest 15 = .ok (.goto 13, 3) := by decide +kernel
theorem dX4_soonest_18 : decode cX4_soonest 18 = .ok (.aload_n 0, 1) := by decide +kernel
theorem dX4_soonest_19 : decode cX4_soonest 19 = .ok (.iload_n 1, 1) := by decide +kernel
theorem dX4_soonest_20 : decode cX4_soonest 20 = .ok (.iload_n 2, 1) := by decide +kernel
theorem dX4_soonest_21 : decode cX4_soonest 21 = .ok (.aload_n 0, 1) := by decide +kernel
theorem dX4_soonest_22 : decode cX4_soonest 22 = .ok (.getfield 101, 3) := by decide +kernel
theorem dX4_soonest_25 : decode cX4_soonest 25 = .ok (.invokevirtual 179, 3) := by decide +kernel
theorem dX4_soonest_28 : decode cX4_soonest 28 = .ok (.ireturn, 1) := by decide +kernel
set_option maxRecDepth 20000 in
theorem ggX4_soonest_X4_notLoad : GoodIn wsX4_soonest wsX4_notLoad := goodIn_r _ [5, 6, 7, 4, 8, 9, 10, 11, 12, 13, 14] (by decide +kernel) (by decide +kernel)
set_option maxRecDepth 20000 in
theorem gX4_soonest_X4_notLoad : GoodIn wsX4_soonest (va_wsS RX4 176 yX4_notLoad wsX4_notLoad) := goodIn_app (goodIn_of _ (by decide +kernel)) ggX4_soonest_X4_notLoad
set_option maxRecDepth 20000 in
theorem ggX4_soonest_X4_no : GoodIn wsX4_soonest wsX4_no := goodIn_r _ [18, 19, 70, 71, 72, 73, 74, 75, 76, 77, 78, 79, 80, 81, 82, 83, 84, 85, 86, 87, 88, 89, 90, 91, 92, 93, 94, 95, 96, 97] (by decide +kernel) (by decide +kernel)
set_option maxRecDepth 20000 in
theorem gX4_soonest_X4_no : GoodIn wsX4_soonest (wsV RX4 73 RX4 yX4_no wsX4_no) := goodIn_app (goodIn_of _ (by decide +kernel)) ggX4_soonest_X4_no
set_option maxRecDepth 20000 in
theorem ggX4_soonest_X4_soonestFrom : GoodIn wsX4_soonest wsX4_soonestFrom := goodIn_r _ [23, 24, 25, 26, 4, 27, 28, 29, 30, 31, 32, 33, 34, 35, 36, 37, 38, 39, 40, 41, 42, 43, 44, 45, 46, 47, 48, 49, 50, 51, 52, 53, 54, 55, 9, 10, 11, 56, 57, 58, 59, 60, 1, 61, 62, 63, 64, 65, 66, 67, 68, 69, 70, 71, 72, 73, 74, 75, 76, 77, 78, 79, 80, 81, 82, 83, 84, 85, 86, 87, 88, 89, 90, 91, 92, 93, 94, 95, 96, 97] (by decide +kernel) (by decide +kernel)
set_option maxRecDepth 20000 in
theorem gX4_soonest_X4_soonestFrom : GoodIn wsX4_soonest (wsV RX4 179 RX4 yX4_soonestFrom wsX4_soonestFrom) := goodIn_app (goodIn_of _ (by decide +kernel)) ggX4_soonest_X4_soonestFrom
set_option maxHeartbeats 4000000 in
set_option maxRecDepth 100000 in
theorem mX4_soonest (l : Launch) (dC : Nat → ClassId) (dI : Nat → Nat → Nat) (cI cC : ClassId) (sk : (Nat → Nat) × (Nat → Nat)) (f : Nat → Nat) (sz : Nat) (p1 : Int32) (p2 : Int32) (c_r : RT) (c_refused : AR) (c_tape : AR) (c_letter : AR) (c_letterAt : AR) (c_number : AR) (c_taped : Int32) (c_at : Int32) (c_statements : Int32) (c_kept : AR) (c_hasImage : Int32) (c_isKeeping : Int32) (c_cursor : Int32) (c_poled : Int32) (c_barred : Int32) (c_leapsTo : AR) (c_leapsThen : AR) (c_lands : AR) (c_row : AR) (c_rowMany : Int32) (c_endsAt : Int32) (z : Int32 × AR) (h : fX4_soonest p1 p2 c_r c_refused c_poled c_barred = some z) : cRW l yX4_soonest wsX4_soonest (RMk 6 143) sk (dC, dI) (tyz cI cC) sz (zwM cI cC f c_r c_refused c_tape c_letter c_letterAt c_number c_taped c_at c_statements c_kept c_hasImage c_isKeeping c_cursor c_poled c_barred c_leapsTo c_leapsThen c_lands c_row c_rowMany c_endsAt) (zwM cI cC f c_r z.2 c_tape c_letter c_letterAt c_number c_taped c_at c_statements c_kept c_hasImage c_isKeeping c_cursor c_poled c_barred c_leapsTo c_leapsThen c_lands c_row c_rowMany c_endsAt) [.ref (f 0), .int p1, .int p2] z.1 := by
  refine ofRW (cc := cX4_soonest) (maxL := 4) (ret := (some .int)) (own := RX4) (plainFor_of_name (by decide)) rfl rfl (Nat.le_of_ble_eq_true rfl) ?_
  intro p e s m args below meth c A hA hx hb hml hr hts hown hlocks hE hK hP hD hS ls hl
  generalize hQ : qRW _ _ _ _ _ _ _ = Q
  have hl : lv_has ls 4 [(0, .ref (f 0)), (1, .int p1), (2, .int p2)] := hl
  have hiX4 : ∀ w ∈ wsX40, w ∈ wsX4_soonest := fun w h => List.mem_cons_of_mem _ (List.mem_append_right _ h)
  have hw1 := hts (Cond.fieldLink RX4 101 "FloeToFloeModel" "minute" "I") (List.mem_of_getElem? (i := 1) rfl)
  rw [fX4_soonest] at h
  refine lv_iload_n hx hb dX4_soonest_0 rfl (lv_at hl 1 rfl) ?_
  refine lv_iload_n hx hb dX4_soonest_1 rfl (lv_at hl 2 rfl) ?_
  obtain ⟨q2, e2, h⟩ := bd_some h
  refine g_roS (wc := ([] : va_W)) ⟨hx, hb, hml, hown, hts⟩ hE hK hP hS [] rfl (mX4_notLoad l dC dI cI cC sk  p1 p2 q2 e2) (va_cwS 2 hts gX4_soonest_X4_notLoad rfl rfl rfl (by decide +kernel) ⟨Nat.le_of_ble_eq_true rfl, Nat.le_of_ble_eq_true rfl⟩) (As := [.int p1, .int p2]) (rest := []) rfl hl.1 rfl (Nat.le_of_ble_eq_true rfl) dX4_soonest_2 ⟨Nat.zero_le _, Nat.zero_le _⟩ (fun H locs hP hS => ?_)
  refine lv_istore_n (lv' := [(3, .int q2), (0, .ref (f 0)), (1, .int p1), (2, .int p2)]) hx hb dX4_soonest_5 rfl hl (by decide) rfl (fun ls hl => ?_)
  refine lv_iload_n hx hb dX4_soonest_6 rfl (lv_at hl 0 rfl) ?_
  refine lv_if_eq (tgt := 18) hx hb dX4_soonest_7 (by decide) (fun c7 => ?_) (fun c7 => ?_)
  · have h := itT c7 h
    refine lv_aload_n hx hb dX4_soonest_18 rfl (lv_at hl 1 rfl) ?_
    refine lv_iload_n hx hb dX4_soonest_19 rfl (lv_at hl 2 rfl) ?_
    refine lv_iload_n hx hb dX4_soonest_20 rfl (lv_at hl 3 rfl) ?_
    refine lv_aload_n hx hb dX4_soonest_21 rfl (lv_at hl 1 rfl) ?_
    refine va_get (D := (dC, dI)) (ci := 4) (v := .int (R_minute c_r)) (C := RX4) (T := TX4) (N := 28) hx hb hts hiX4 hown hK hP 0 rfl rfl 8 (by decide) hw1 (fun _ h9 => h9) rfl dX4_soonest_22 ?_
    obtain ⟨q25, e25, h⟩ := bd_some h
    refine g_roV (wc := (zwM cI cC f c_r c_refused c_tape c_letter c_letterAt c_number c_taped c_at c_statements c_kept c_hasImage c_isKeeping c_cursor c_poled c_barred c_leapsTo c_leapsThen c_lands c_row c_rowMany c_endsAt)) ⟨hx, hb, hml, hown, hts⟩ hE hK hP hS [0, 1, 2, 3, 4, 5, 6, 7, 8, 9, 10, 11, 12, 13, 14, 15] rfl (mX4_soonestFrom l dC dI cI cC sk f p1 p2 (R_minute c_r) c_r c_refused c_tape c_letter c_letterAt c_number c_taped c_at c_statements c_kept c_hasImage c_isKeeping c_cursor c_poled c_barred c_leapsTo c_leapsThen c_lands c_row c_rowMany c_endsAt q25 e25) (cwV 3 hts gX4_soonest_X4_soonestFrom rfl rfl rfl (by decide +kernel) ⟨Nat.le_of_ble_eq_true rfl, Nat.le_of_ble_eq_true rfl⟩) (va_recv hK hP (ci := 4) (q0 := 0) rfl rfl) (As := [.int p1, .int p2, .int (R_minute c_r)]) (rest := []) rfl hl.1 rfl (Nat.le_of_ble_eq_true rfl) dX4_soonest_25 ⟨Nat.zero_le _, Nat.zero_le _⟩ (fun H locs hP hS => ?_)
    subst hQ
    exact retRW (zz := ((q25, c_refused) : Int32 × AR)) (fun z => z.1) (fun z => (zwM cI cC f c_r z.2 c_tape c_letter c_letterAt c_number c_taped c_at c_statements c_kept c_hasImage c_isKeeping c_cursor c_poled c_barred c_leapsTo c_leapsThen c_lands c_row c_rowMany c_endsAt)) hx hb hr hlocks rfl hS h rfl hP dX4_soonest_28
  have h := itF c7 h
  refine lv_aload_n hx hb dX4_soonest_10 rfl (lv_at hl 1 rfl) ?_
  refine lv_iload_n hx hb dX4_soonest_11 rfl (lv_at hl 0 rfl) ?_
  obtain ⟨q12, e12, h⟩ := bd_some h
  refine g_rwV (wc := (zwM cI cC f c_r c_refused c_tape c_letter c_letterAt c_number c_taped c_at c_statements c_kept c_hasImage c_isKeeping c_cursor c_poled c_barred c_leapsTo c_leapsThen c_lands c_row c_rowMany c_endsAt)) (wc' := (zwM cI cC f c_r q12.2 c_tape c_letter c_letterAt c_number c_taped c_at c_statements c_kept c_hasImage c_isKeeping c_cursor c_poled c_barred c_leapsTo c_leapsThen c_lands c_row c_rowMany c_endsAt)) ⟨hx, hb, hml, hown, hts⟩ hE hK hA hP hD hS [0, 1, 2, 3, 4, 5, 6, 7, 8, 9, 10, 11, 12, 13, 14, 15] rfl rfl rfl (mX4_no l dC dI cI cC sk f H.size q2 c_r c_refused c_tape c_letter c_letterAt c_number c_taped c_at c_statements c_kept c_hasImage c_isKeeping c_cursor c_poled c_barred c_leapsTo c_leapsThen c_lands c_row c_rowMany c_endsAt q12 e12) (cwV 1 hts gX4_soonest_X4_no rfl rfl rfl (by decide +kernel) ⟨Nat.le_of_ble_eq_true rfl, Nat.le_of_ble_eq_true rfl⟩) (va_recv hK hP (ci := 4) (q0 := 0) rfl rfl) (As := [.int q2]) (rest := []) rfl hl.1 rfl (Nat.le_of_ble_eq_true rfl) dX4_soonest_12 ⟨Nat.zero_le _, Nat.zero_le _⟩ (fun H locs hP hD hS => ?_)
  have hP : va_P (dC, dI) vwCl (zwM cI cC f c_r q12.2 c_tape c_letter c_letterAt c_number c_taped c_at c_statements c_kept c_hasImage c_isKeeping c_cursor c_poled c_barred c_leapsTo c_leapsThen c_lands c_row c_rowMany c_endsAt) H := hP
  have hD : va_D A (zwM cI cC f c_r q12.2 c_tape c_letter c_letterAt c_number c_taped c_at c_statements c_kept c_hasImage c_isKeeping c_cursor c_poled c_barred c_leapsTo c_leapsThen c_lands c_row c_rowMany c_endsAt) := hD
  refine lv_goto (tgt := 28) hx hb dX4_soonest_15 (by decide) ?_
  subst hQ
  exact retRW (zz := ((q12.1, q12.2) : Int32 × AR)) (fun z => z.1) (fun z => (zwM cI cC f c_r z.2 c_tape c_letter c_letterAt c_number c_taped c_at c_statements c_kept c_hasImage c_isKeeping c_cursor c_poled c_barred c_leapsTo c_leapsThen c_lands c_row c_rowMany c_endsAt)) hx hb hr hlocks rfl hS h rfl hP dX4_soonest_28
theorem dX4_lowers_0 : decode cX4_lowers 0 = .ok (.aload_n 0, 1) := by decide +kernel
theorem dX4_lowers_1 : decode cX4_lowers 1 = .ok (.getfield 50, 3) := by decide +kernel
theorem dX4_lowers_4 : decode cX4_lowers 4 = .ok (.iload_n 1, 1) := by decide +kernel
theorem dX4_lowers_5 : decode cX4_lowers 5 = .ok (.iaload, 1) := by decide +kernel
theorem dX4_lowers_6 : decode cX4_lowers 6 = .ok (.ifCond .lt 13, 3) := by decide +kernel
theorem dX4_lowers_9 : decode cX4_lowers 9 = .ok (.iload_n 2, 1) := by decide +kernel
theorem dX4_lowers_10 : decode cX4_lowers 10 = .ok (.aload_n 0, 1) := by decide +kernel
theorem dX4_lowers_11 : decode cX4_lowers 11 = .ok (.getfield 50, 3) := by decide +kernel
theorem dX4_lowers_14 : decode cX4_lowers 14 = .ok (.iload_n 1, 1) := by decide +kernel
theorem dX4_lowers_15 : decode cX4_lowers 15 = .ok (.iaload, 1) := by decide +kernel
theorem dX4_lowers_16 : decode cX4_lowers 16 = .ok (.if_icmp .ge 10, 3) := by decide +kernel
theorem dX4_lowers_19 : decode cX4_lowers 19 = .ok (.aload_n 0, 1) := by decide +kernel
theorem dX4_lowers_20 : decode cX4_lowers 20 = .ok (.getfield 50, 3) := by decide +kernel
theorem dX4_lowers_23 : decode cX4_lowers 23 = .ok (.iload_n 1, 1) := by decide +kernel
theorem dX4_lowers_24 : decode cX4_lowers 24 = .ok (.iload_n 2, 1) := by decide +kernel
theorem dX4_lowers_25 : decode cX4_lowers 25 = .ok (.iastore, 1) := by decide +kernel
theorem dX4_lowers_26 : decode cX4_lowers 26 = .ok (.return_, 1) := by decide +kernel
set_option maxHeartbeats 4000000 in
set_option maxRecDepth 100000 in
theorem mX4_lowers (l : Launch) (dC : Nat → ClassId) (dI : Nat → Nat → Nat) (cI cC : ClassId) (sk : (Nat → Nat) × (Nat → Nat)) (f : Nat → Nat) (sz : Nat) (p1 : Int32) (p2 : Int32) (c_r : RT) (c_refused : AR) (c_tape : AR) (c_letter : AR) (c_letterAt : AR) (c_number : AR) (c_taped : Int32) (c_at : Int32) (c_statements : Int32) (c_kept : AR) (c_hasImage : Int32) (c_isKeeping : Int32) (c_cursor : Int32) (c_poled : Int32) (c_barred : Int32) (c_leapsTo : AR) (c_leapsThen : AR) (c_lands : AR) (c_row : AR) (c_rowMany : Int32) (c_endsAt : Int32) (z : AR) (h : fX4_lowers p1 p2 c_leapsThen = some z) : cRV l yX4_lowers wsX4_lowers (RMk 0 0) sk (dC, dI) (tyz cI cC) sz (zwM cI cC f c_r c_refused c_tape c_letter c_letterAt c_number c_taped c_at c_statements c_kept c_hasImage c_isKeeping c_cursor c_poled c_barred c_leapsTo c_leapsThen c_lands c_row c_rowMany c_endsAt) (zwM cI cC f c_r c_refused c_tape c_letter c_letterAt c_number c_taped c_at c_statements c_kept c_hasImage c_isKeeping c_cursor c_poled c_barred c_leapsTo z c_lands c_row c_rowMany c_endsAt) [.ref (f 0), .int p1, .int p2] := by
  refine ofRV (cc := cX4_lowers) (maxL := 3) (ret := none) (own := RX4) (plainFor_of_name (by decide)) rfl rfl (Nat.le_of_ble_eq_true rfl) ?_
  intro p e s m args below meth c A hA hx hb hml hr hts hown hlocks hE hK hP hD hS ls hl
  generalize hQ : qRV _ _ _ _ _ _ = Q
  have hl : lv_has ls 3 [(0, .ref (f 0)), (1, .int p1), (2, .int p2)] := hl
  have hiX4 : ∀ w ∈ wsX40, w ∈ wsX4_lowers := fun w h => List.mem_cons_of_mem _ (List.mem_append_right _ h)
  have hw1 := hts (Cond.fieldLink RX4 50 "FloeToFloeModel" "leapsThen" "[I") (List.mem_of_getElem? (i := 1) rfl)
  rw [fX4_lowers] at h
  refine lv_aload_n hx hb dX4_lowers_0 rfl (lv_at hl 0 rfl) ?_
  refine va_get (D := (dC, dI)) (ci := 4) (v := .ref (f 13)) (C := RX4) (T := TX4) (N := 28) hx hb hts hiX4 hown hK hP 0 rfl rfl 23 (by decide) hw1 (fun _ h9 => h9) rfl dX4_lowers_1 ?_
  refine lv_iload_n hx hb dX4_lowers_4 rfl (lv_at hl 1 rfl) ?_
  obtain ⟨hin, h⟩ := ck_some h
  refine va_iald hx hb hK hP 13 0 rfl rfl hin dX4_lowers_5 ?_
  refine jnW (fun (v19 : Unit) => ∀ (H : Heap) (locs : List Loc) (ls : Array Slot), va_P (dC, dI) vwCl (zwM cI cC f c_r c_refused c_tape c_letter c_letterAt c_number c_taped c_at c_statements c_kept c_hasImage c_isKeeping c_cursor c_poled c_barred c_leapsTo c_leapsThen c_lands c_row c_rowMany c_endsAt) H → va_D A (zwM cI cC f c_r c_refused c_tape c_letter c_letterAt c_number c_taped c_at c_statements c_kept c_hasImage c_isKeeping c_cursor c_poled c_barred c_leapsTo c_leapsThen c_lands c_row c_rowMany c_endsAt) → va_S A s.heap H locs → lv_has ls 3 [(0, .ref (f 0)), (1, .int p1), (2, .int p2)] → W p l e (RMk 0 0) s m args below meth c H locs 0 0 Q (F0 m 19 ls [])) h (fun v19 h H locs ls hP hD hS hl => ?_) (fun J19 j19 h => ?_)
  · refine lv_aload_n hx hb dX4_lowers_19 rfl (lv_at hl 0 rfl) ?_
    refine va_get (D := (dC, dI)) (ci := 4) (v := .ref (f 13)) (C := RX4) (T := TX4) (N := 28) hx hb hts hiX4 hown hK hP 0 rfl rfl 23 (by decide) hw1 (fun _ h9 => h9) rfl dX4_lowers_20 ?_
    refine lv_iload_n hx hb dX4_lowers_23 rfl (lv_at hl 1 rfl) ?_
    refine lv_iload_n hx hb dX4_lowers_24 rfl (lv_at hl 2 rfl) ?_
    obtain ⟨hin, h⟩ := ck_some h
    refine va_iast hx hb hK hP hD hS 13 0 rfl rfl hin dX4_lowers_25 (fun H locs hP hD hS => ?_)
    have hP : va_P (dC, dI) vwCl (zwM cI cC f c_r c_refused c_tape c_letter c_letterAt c_number c_taped c_at c_statements c_kept c_hasImage c_isKeeping c_cursor c_poled c_barred c_leapsTo (upd c_leapsThen (p1).toNatClampNeg p2) c_lands c_row c_rowMany c_endsAt) H := hP
    have hD : va_D A (zwM cI cC f c_r c_refused c_tape c_letter c_letterAt c_number c_taped c_at c_statements c_kept c_hasImage c_isKeeping c_cursor c_poled c_barred c_leapsTo (upd c_leapsThen (p1).toNatClampNeg p2) c_lands c_row c_rowMany c_endsAt) := hD
    subst hQ
    exact retRV (zz := ((upd c_leapsThen (p1).toNatClampNeg p2) : AR)) (fun z => (zwM cI cC f c_r c_refused c_tape c_letter c_letterAt c_number c_taped c_at c_statements c_kept c_hasImage c_isKeeping c_cursor c_poled c_barred c_leapsTo z c_lands c_row c_rowMany c_endsAt)) hx hb hr hlocks hS h hP dX4_lowers_26
  refine lv_if_lt (tgt := 19) hx hb dX4_lowers_6 (by decide) (fun c6 => ?_) (fun c6 => ?_)
  · have h := itT c6 h
    exact j19 _ h _ _ _ hP hD hS (lv_sub hl [0, 1, 2] rfl)
  have h := itF c6 h
  refine lv_iload_n hx hb dX4_lowers_9 rfl (lv_at hl 2 rfl) ?_
  refine lv_aload_n hx hb dX4_lowers_10 rfl (lv_at hl 0 rfl) ?_
  refine va_get (D := (dC, dI)) (ci := 4) (v := .ref (f 13)) (C := RX4) (T := TX4) (N := 28) hx hb hts hiX4 hown hK hP 0 rfl rfl 23 (by decide) hw1 (fun _ h9 => h9) rfl dX4_lowers_11 ?_
  refine lv_iload_n hx hb dX4_lowers_14 rfl (lv_at hl 1 rfl) ?_
  obtain ⟨hin, h⟩ := ck_some h
  refine va_iald hx hb hK hP 13 0 rfl rfl hin dX4_lowers_15 ?_
  refine lv_icmp_ge (tgt := 26) hx hb dX4_lowers_16 (by decide) (fun c16 => ?_) (fun c16 => ?_)
  · have h := itT c16 h
    subst hQ
    exact retRV (zz := (c_leapsThen : AR)) (fun z => (zwM cI cC f c_r c_refused c_tape c_letter c_letterAt c_number c_taped c_at c_statements c_kept c_hasImage c_isKeeping c_cursor c_poled c_barred c_leapsTo z c_lands c_row c_rowMany c_endsAt)) hx hb hr hlocks hS h hP dX4_lowers_26
  have h := itF c16 h
  exact j19 _ h _ _ _ hP hD hS (lv_sub hl [0, 1, 2] rfl)
theorem dX4_goesOnLeaping_0 : decode cX4_goesOnLeaping 0 = .ok (.iconst 0, 1) := by decide +kernel
theorem dX4_goesOnLeaping_1 : decode cX4_goesOnLeaping 1 = .ok (.istore_n 3, 1) := by decide +kernel
theorem dX4_goesOnLeaping_2 : decode cX4_goesOnLeaping 2 = .ok (.iload_n 3, 1) := by decide +kernel
theorem dX4_goesOnLeaping_3 : decode cX4_goesOnLeaping 3 = .ok (.bipush 19, 2) := by decide +kernel
theorem dX4_goesOnLeaping_5 : decode cX4_goesOnLeaping 5 = .ok (.if_icmp .ge 17, 3) := by decide +kernel
theorem dX4_goesOnLeaping_8 : decode cX4_goesOnLeaping 8 = .ok (.aload_n 0, 1) := by decide +kernel
theorem dX4_goesOnLeaping_9 : decode cX4_goesOnLeaping 9 = .ok (.getfield 50, 3) := by decide +kernel
theorem dX4_goesOnLeaping_12 : decode cX4_goesOnLeaping 12 = .ok (.iload_n 3, 1) := by decide +kernel
theorem dX4_goesOnLeaping_13 : decode cX4_goesOnLeaping 13 = .ok (.bipush (-9), 2) := by decide +kernel
theorem dX4_goesOnLeaping_15 : decode cX4_goesOnLeaping 15 = .ok (.iastore, 1) := by decide +kernel
theorem dX4_goesOnLeaping_16 : decode cX4_goesOnLeaping 16 = .ok (.iinc 3 1, 3) := by decide +kernel
theorem dX4_goesOnLeaping_19 : decode cX4_goesOnLeaping 19 = .ok (.goto (-17), 3) := by decide +kernel
theorem dX4_goesOnLeaping_22 : decode cX4_goesOnLeaping 22 = .ok (.iconst 0, 1) := by decide +kernel
theorem dX4_goesOnLeaping_23 : decode cX4_goesOnLeaping 23 = .ok (.istore_n 3, 1) := by decide +kernel
theorem dX4_goesOnLeaping_24 : decode cX4_goesOnLeaping 24 = .ok (.iload_n 3, 1) := by decide +kernel
theorem dX4_goesOnLeaping_25 : decode cX4_goesOnLeaping 25 = .ok (.bipush 19, 2) := by decide +kernel
theorem dX4_goesOnLeaping_27 : decode cX4_goesOnLeaping 27 = .ok (.if_icmp .ge 84, 3) := by decide +kernel
theorem dX4_goesOnLeaping_30 : decode cX4_goesOnLeaping 30 = .ok (.iconst 0, 1) := by decide +kernel
theorem dX4_goesOnLeaping_31 : decode cX4_goesOnLeaping 31 = .ok (.istore 4, 2) := by decide +kernel
theorem dX4_goesOnLeaping_33 : decode cX4_goesOnLeaping 33 = .ok (.iload 4, 2) := by decide +kernel
theorem dX4_goesOnLeaping_35 : decode cX4_goesOnLeaping 35 = .ok (.bipush 19, 2) := by decide +kernel
theorem dX4_goesOnLeaping_37 : decode cX4_goesOnLeaping 37 = .ok (.if_icmp .ge 68, 3) := by decide +kernel
theorem dX4_goesOnLeaping_40 : decode cX4_goesOnLeaping 40 = .ok (.aload_n 0, 1) := by decide +kernel
theorem dX4_goesOnLeaping_41 : decode cX4_goesOnLeaping 41 = .ok (.getfield 47, 3) := by decide +kernel
theorem dX4_goesOnLeaping_44 : decode cX4_goesOnLeaping 44 = .ok (.iload_n 3, 1) := by decide +kernel
theorem dX4_goesOnLeaping_45 : decode cX4_goesOnLeaping 45 = .ok (.iaload, 1) := by decide +kernel
theorem dX4_goesOnLeaping_46 : decode cX4_goesOnLeaping 46 = .ok (.ifCond .lt 59, 3) := by decide +kernel
theorem dX4_goesOnLeaping_49 : decode cX4_goesOnLeaping 49 = .ok (.aload_n 0, 1) := by decide +kernel
theorem dX4_goesOnLeaping_50 : decode cX4_goesOnLeaping 50 = .ok (.iload_n 3, 1) := by decide +kernel
theorem dX4_goesOnLeaping_51 : decode cX4_goesOnLeaping 51 = .ok (.iload 4, 2) := by decide +kernel
theorem dX4_goesOnLeaping_53 : decode cX4_goesOnLeaping 53 = .ok (.iload_n 1, 1) := by decide +kernel
theorem dX4_goesOnLeaping_54 : decode cX4_goesOnLeaping 54 = .ok (.iload_n 2, 1) := by decide +kernel
theorem dX4_goesOnLeaping_55 : decode cX4_goesOnLeaping 55 = .ok (.invokevirtual 163, 3) := by decide +kernel
theorem dX4_goesOnLeaping_58 : decode cX4_goesOnLeaping 58 = .ok (.ifCond .eq 15, 3) := by decide +kernel
theorem dX4_goesOnLeaping_61 : decode cX4_goesOnLeaping 61 = .ok (.aload_n 0, 1) := by decide +kernel
theorem dX4_goesOnLeaping_62 : decode cX4_goesOnLeaping 62 = .ok (.iload 4, 2) := by decide +kernel
theorem dX4_goesOnLeaping_64 : decode cX4_goesOnLeaping 64 = .ok (.aload_n 0, 1) := by decide +kernel
theorem dX4_goesOnLeaping_65 : decode cX4_goesOnLeaping 65 = .ok (.getfield 47, 3) := by decide +kernel
theorem dX4_goesOnLeaping_68 : decode cX4_goesOnLeaping 68 = .ok (.iload_n 3, 1) := by decide +kernel
theorem dX4_goesOnLeaping_69 : decode cX4_goesOnLeaping 69 = .ok (.iaload, 1) := by decide +kernel
theorem dX4_goesOnLeaping_70 : decode cX4_goesOnLeaping 70 = .ok (.invokevirtual 182, 3) := by decide +kernel
theorem dX4_goesOnLeaping_73 : decode cX4_goesOnLeaping 73 = .ok (.aload_n 0, 1) := by decide +kernel
theorem dX4_goesOnLeaping_74 : decode cX4_goesOnLeaping 74 = .ok (.iload_n 3, 1) := by decide +kernel
theorem dX4_goesOnLeaping_75 : decode cX4_goesOnLeaping 75 = .ok (.iload 4, 2) := by decide +kernel
theorem dX4_goesOnLeaping_77 : decode cX4_goesOnLeaping 77 = .ok (.iload_n 1, 1) := by decide +kernel
theorem dX4_goesOnLeaping_78 : decode cX4_goesOnLeaping 78 = .ok (.iload_n 2, 1) := by decide +kernel
theorem dX4_goesOnLeaping_79 : decode cX4_goesOnLeaping 79 = .ok (.invokevirtual 167, 3) := by decide +kernel
theorem dX4_goesOnLeaping_82 : decode cX4_goesOnLeaping 82 = .ok (.ifCond .eq 17, 3) := by decide +kernel
theorem dX4_goesOnLeaping_85 : decode cX4_goesOnLeaping 85 = .ok (.aload_n 0, 1) := by decide +kernel
theorem dX4_goesOnLeaping_86 : decode cX4_goesOnLeaping 86 = .ok (.iload 4, 2) := by decide +kernel
theorem dX4_goesOnLeaping_88 : decode cX4_goesOnLeaping 88 = .ok (.aload_n 0, 1) := by decide +kernel
theorem dX4_goesOnLeaping_89 : decode cX4_goesOnLeaping 89 = .ok (.getfield 47, 3) := by decide +kernel
theorem dX4_goesOnLeaping_92 : decode cX4_goesOnLeaping 92 = .ok (.iload_n 3, 1) := by decide +kernel
theorem dX4_goesOnLeaping_93 : decode cX4_goesOnLeaping 93 = .ok (.iaload, 1) := by decide +kernel
theorem dX4_goesOnLeaping_94 : decode cX4_goesOnLeaping 94 = .ok (.iconst 1, 1) := by decide +kernel
theorem dX4_goesOnLeaping_95 : decode cX4_goesOnLeaping 95 = .ok (.iadd, 1) := by decide +kernel
theorem dX4_goesOnLeaping_96 : decode cX4_goesOnLeaping 96 = .ok (.invokevirtual 182, 3) := by decide +kernel
theorem dX4_goesOnLeaping_99 : decode cX4_goesOnLeaping 99 = .ok (.iinc 4 1, 3) := by decide +kernel
theorem dX4_goesOnLeaping_102 : decode cX4_goesOnLeaping 102 = .ok (.goto (-69), 3) := by decide +kernel
theorem dX4_goesOnLeaping_105 : decode cX4_goesOnLeaping 105 = .ok (.iinc 3 1, 3) := by decide +kernel
theorem dX4_goesOnLeaping_108 : decode cX4_goesOnLeaping 108 = .ok (.goto (-84), 3) := by decide +kernel
theorem dX4_goesOnLeaping_111 : decode cX4_goesOnLeaping 111 = .ok (.iconst 0, 1) := by decide +kernel
theorem dX4_goesOnLeaping_112 : decode cX4_goesOnLeaping 112 = .ok (.istore_n 3, 1) := by decide +kernel
theorem dX4_goesOnLeaping_113 : decode cX4_goesOnLeaping 113 = .ok (.iload_n 3, 1) := by decide +kernel
theorem dX4_goesOnLeaping_114 : decode cX4_goesOnLeaping 114 = .ok (.bipush 19, 2) := by decide +kernel
theorem dX4_goesOnLeaping_116 : decode cX4_goesOnLeaping 116 = .ok (.if_icmp .ge 21, 3) := by decide +kernel
theorem dX4_goesOnLeaping_119 : decode cX4_goesOnLeaping 119 = .ok (.aload_n 0, 1) := by decide +kernel
theorem dX4_goesOnLeaping_120 : decode cX4_goesOnLeaping 120 = .ok (.getfield 47, 3) := by decide +kernel
theorem dX4_goesOnLeaping_123 : decode cX4_goesOnLeaping 123 = .ok (.iload_n 3, 1) := by decide +kernel
theorem dX4_goesOnLeaping_124 : decode cX4_goesOnLeaping 124 = .ok (.aload_n 0, 1) := by decide +kernel
theorem dX4_goesOnLeaping_125 : decode cX4_goesOnLeaping 125 = .ok (.getfield 50, 3) := by decide +kernel
theorem dX4_goesOnLeaping_128 : decode cX4_goesOnLeaping 128 = .ok (.iload_n 3, 1) := by decide +kernel
theorem dX4_goesOnLeaping_129 : decode cX4_goesOnLeaping 129 = .ok (.iaload, 1) := by decide +kernel
theorem dX4_goesOnLeaping_130 : decode cX4_goesOnLeaping 130 = .ok (.iastore, 1) := by decide +kernel
theorem dX4_goesOnLeaping_131 : decode cX4_goesOnLeaping 131 = .ok (.iinc 3 1, 3) := by decide +kernel
theorem dX4_goesOnLeaping_134 : decode cX4_goesOnLeaping 134 = .ok (.goto (-21), 3) := by decide +kernel
theorem dX4_goesOnLeaping_137 : decode cX4_goesOnLeaping 137 = .ok (.return_, 1) := by decide +kernel
set_option maxRecDepth 20000 in
theorem ggX4_goesOnLeaping_X4_mayStay : GoodIn wsX4_goesOnLeaping wsX4_mayStay := goodIn_r _ [7, 8, 9, 10, 6, 11, 12, 13, 14, 15, 16, 17, 18, 19, 20, 21, 22, 23, 24, 54, 55, 56, 57, 58, 59, 60, 61, 62, 63, 64, 65, 66, 67, 68, 69, 70, 71, 72, 73, 74, 75, 76, 77, 78, 79, 80, 81] (by decide +kernel) (by decide +kernel)
set_option maxRecDepth 20000 in
theorem gX4_goesOnLeaping_X4_mayStay : GoodIn wsX4_goesOnLeaping (wsV RX4 163 RX4 yX4_mayStay wsX4_mayStay) := goodIn_app (goodIn_of _ (by decide +kernel)) ggX4_goesOnLeaping_X4_mayStay
set_option maxRecDepth 20000 in
theorem ggX4_goesOnLeaping_X4_lowers : GoodIn wsX4_goesOnLeaping wsX4_lowers := goodIn_r _ [28, 1, 54, 55, 56, 57, 58, 59, 60, 61, 62, 63, 64, 65, 66, 67, 68, 69, 70, 71, 72, 73, 74, 75, 76, 77, 78, 79, 80, 81] (by decide +kernel) (by decide +kernel)
set_option maxRecDepth 20000 in
theorem gX4_goesOnLeaping_X4_lowers : GoodIn wsX4_goesOnLeaping (wsV RX4 182 RX4 yX4_lowers wsX4_lowers) := goodIn_app (goodIn_of _ (by decide +kernel)) ggX4_goesOnLeaping_X4_lowers
set_option maxRecDepth 20000 in
theorem ggX4_goesOnLeaping_X4_mayLeap : GoodIn wsX4_goesOnLeaping wsX4_mayLeap := goodIn_r _ [32, 33, 34, 35, 36, 37, 6, 38, 8, 9, 10, 11, 12, 13, 14, 15, 16, 17, 18, 39, 40, 41, 42, 43, 44, 45, 46, 47, 48, 49, 22, 23, 24, 19, 20, 21, 50, 51, 52, 53, 54, 55, 56, 57, 58, 59, 60, 61, 62, 63, 64, 65, 66, 67, 68, 69, 70, 71, 72, 73, 74, 75, 76, 77, 78, 79, 80, 81] (by decide +kernel) (by decide +kernel)
set_option maxRecDepth 20000 in
theorem gX4_goesOnLeaping_X4_mayLeap : GoodIn wsX4_goesOnLeaping (wsV RX4 167 RX4 yX4_mayLeap wsX4_mayLeap) := goodIn_app (goodIn_of _ (by decide +kernel)) ggX4_goesOnLeaping_X4_mayLeap
set_option maxHeartbeats 4000000 in
set_option maxRecDepth 100000 in
theorem mX4_goesOnLeaping (l : Launch) (dC : Nat → ClassId) (dI : Nat → Nat → Nat) (cI cC : ClassId) (sk : (Nat → Nat) × (Nat → Nat)) (f : Nat → Nat) (sz : Nat) (p1 : Int32) (p2 : Int32) (c_r : RT) (c_refused : AR) (c_tape : AR) (c_letter : AR) (c_letterAt : AR) (c_number : AR) (c_taped : Int32) (c_at : Int32) (c_statements : Int32) (c_kept : AR) (c_hasImage : Int32) (c_isKeeping : Int32) (c_cursor : Int32) (c_poled : Int32) (c_barred : Int32) (c_leapsTo : AR) (c_leapsThen : AR) (c_lands : AR) (c_row : AR) (c_rowMany : Int32) (c_endsAt : Int32) (z : AR × AR) (h : fX4_goesOnLeaping p1 p2 c_r c_poled c_barred c_leapsTo c_leapsThen = some z) : cRV l yX4_goesOnLeaping wsX4_goesOnLeaping (RMk 4 92) sk (dC, dI) (tyz cI cC) sz (zwM cI cC f c_r c_refused c_tape c_letter c_letterAt c_number c_taped c_at c_statements c_kept c_hasImage c_isKeeping c_cursor c_poled c_barred c_leapsTo c_leapsThen c_lands c_row c_rowMany c_endsAt) (zwM cI cC f c_r c_refused c_tape c_letter c_letterAt c_number c_taped c_at c_statements c_kept c_hasImage c_isKeeping c_cursor c_poled c_barred z.1 z.2 c_lands c_row c_rowMany c_endsAt) [.ref (f 0), .int p1, .int p2] := by
  refine ofRV (cc := cX4_goesOnLeaping) (maxL := 5) (ret := none) (own := RX4) (plainFor_of_name (by decide)) rfl rfl (Nat.le_of_ble_eq_true rfl) ?_
  intro p e s m args below meth c A hA hx hb hml hr hts hown hlocks hE hK hP hD hS ls hl
  generalize hQ : qRV _ _ _ _ _ _ = Q
  have hl : lv_has ls 5 [(0, .ref (f 0)), (1, .int p1), (2, .int p2)] := hl
  have hiX4 : ∀ w ∈ wsX40, w ∈ wsX4_goesOnLeaping := fun w h => List.mem_cons_of_mem _ (List.mem_append_right _ h)
  have hw1 := hts (Cond.fieldLink RX4 50 "FloeToFloeModel" "leapsThen" "[I") (List.mem_of_getElem? (i := 1) rfl)
  have hw2 := hts (Cond.fieldLink RX4 47 "FloeToFloeModel" "leapsTo" "[I") (List.mem_of_getElem? (i := 2) rfl)
  rw [fX4_goesOnLeaping] at h
  refine lv_iconst (v := (0 : Int32)) hx hb dX4_goesOnLeaping_0 (by decide) ?_
  refine lv_istore_n (lv' := [(3, .int (0 : Int32)), (0, .ref (f 0)), (1, .int p1), (2, .int p2)]) hx hb dX4_goesOnLeaping_1 rfl hl (by decide) rfl (fun ls hl => ?_)
  have L2 : ∀ (K2 : AR → Option (AR × AR)), (∀ (k2_leapsThen : AR), K2 k2_leapsThen = some z → ∀ (H : Heap) (locs : List Loc) (ls : Array Slot), va_P (dC, dI) vwCl (zwM cI cC f c_r c_refused c_tape c_letter c_letterAt c_number c_taped c_at c_statements c_kept c_hasImage c_isKeeping c_cursor c_poled c_barred c_leapsTo k2_leapsThen c_lands c_row c_rowMany c_endsAt) H → va_D A (zwM cI cC f c_r c_refused c_tape c_letter c_letterAt c_number c_taped c_at c_statements c_kept c_hasImage c_isKeeping c_cursor c_poled c_barred c_leapsTo k2_leapsThen c_lands c_row c_rowMany c_endsAt) → va_S A s.heap H locs → lv_has ls 5 [(0, .ref (f 0)), (1, .int p1), (2, .int p2)] → W p l e (RMk 4 92) s m args below meth c H locs 0 0 Q (F0 m 22 ls [])) → ∀ (n : Nat) (x2_3 : Int32) (x2_leapsThen : AR), fX4_goesOnLeaping_L2  K2 n x2_3 x2_leapsThen = some z → ∀ (H : Heap) (locs : List Loc) (ls : Array Slot), va_P (dC, dI) vwCl (zwM cI cC f c_r c_refused c_tape c_letter c_letterAt c_number c_taped c_at c_statements c_kept c_hasImage c_isKeeping c_cursor c_poled c_barred c_leapsTo x2_leapsThen c_lands c_row c_rowMany c_endsAt) H → va_D A (zwM cI cC f c_r c_refused c_tape c_letter c_letterAt c_number c_taped c_at c_statements c_kept c_hasImage c_isKeeping c_cursor c_poled c_barred c_leapsTo x2_leapsThen c_lands c_row c_rowMany c_endsAt) → va_S A s.heap H locs → lv_has ls 5 [(0, .ref (f 0)), (1, .int p1), (2, .int p2), (3, .int x2_3)] → W p l e (RMk 4 92) s m args below meth c H locs 0 0 Q (F0 m 2 ls []) := by
    intro K2 kx2 n
    induction n with
    | zero => intro x2_3 x2_leapsThen h; rw [fX4_goesOnLeaping_L2] at h; cases h
    | succ n ih2 =>
      intro x2_3 x2_leapsThen h H locs ls hP hD hS hl
      rw [fX4_goesOnLeaping_L2] at h
      refine lv_iload_n hx hb dX4_goesOnLeaping_2 rfl (lv_at hl 3 rfl) ?_
      refine lv_bipush (v := (19 : Int32)) hx hb dX4_goesOnLeaping_3 (by decide) ?_
      refine lv_icmp_ge (tgt := 22) hx hb dX4_goesOnLeaping_5 (by decide) (fun c5 => ?_) (fun c5 => ?_)
      · have h := itT c5 h
        exact kx2 _ h _ _ _ hP hD hS (lv_sub hl [0, 1, 2] rfl)
      have h := itF c5 h
      refine lv_aload_n hx hb dX4_goesOnLeaping_8 rfl (lv_at hl 0 rfl) ?_
      refine va_get (D := (dC, dI)) (ci := 4) (v := .ref (f 13)) (C := RX4) (T := TX4) (N := 28) hx hb hts hiX4 hown hK hP 0 rfl rfl 23 (by decide) hw1 (fun _ h9 => h9) rfl dX4_goesOnLeaping_9 ?_
      refine lv_iload_n hx hb dX4_goesOnLeaping_12 rfl (lv_at hl 3 rfl) ?_
      refine lv_bipush (v := (-9 : Int32)) hx hb dX4_goesOnLeaping_13 (by decide) ?_
      obtain ⟨hin, h⟩ := ck_some h
      refine va_iast hx hb hK hP hD hS 13 0 rfl rfl hin dX4_goesOnLeaping_15 (fun H locs hP hD hS => ?_)
      have hP : va_P (dC, dI) vwCl (zwM cI cC f c_r c_refused c_tape c_letter c_letterAt c_number c_taped c_at c_statements c_kept c_hasImage c_isKeeping c_cursor c_poled c_barred c_leapsTo (upd x2_leapsThen (x2_3).toNatClampNeg (-9 : Int32)) c_lands c_row c_rowMany c_endsAt) H := hP
      have hD : va_D A (zwM cI cC f c_r c_refused c_tape c_letter c_letterAt c_number c_taped c_at c_statements c_kept c_hasImage c_isKeeping c_cursor c_poled c_barred c_leapsTo (upd x2_leapsThen (x2_3).toNatClampNeg (-9 : Int32)) c_lands c_row c_rowMany c_endsAt) := hD
      refine lv_iinc (v := (x2_3 + (1 : Int32))) (lv' := [(3, .int (x2_3 + (1 : Int32))), (0, .ref (f 0)), (1, .int p1), (2, .int p2)]) hx hb dX4_goesOnLeaping_16 hl (k := 3) rfl rfl (by decide) rfl (fun ls hl => ?_)
      refine lv_goto (tgt := 2) hx hb dX4_goesOnLeaping_19 (by decide) ?_
      exact ih2 _ _ h _ _ _ hP hD hS (lv_sub hl [1, 2, 3, 0] rfl)
  refine L2 _ (fun k2_leapsThen h H locs ls hP hD hS hl => ?_) _ _ _ h _ _ _ hP hD hS (lv_sub hl [1, 2, 3, 0] rfl)
  refine lv_iconst (v := (0 : Int32)) hx hb dX4_goesOnLeaping_22 (by decide) ?_
  refine lv_istore_n (lv' := [(3, .int (0 : Int32)), (0, .ref (f 0)), (1, .int p1), (2, .int p2)]) hx hb dX4_goesOnLeaping_23 rfl hl (by decide) rfl (fun ls hl => ?_)
  have L24 : ∀ (K24 : AR → Option (AR × AR)), (∀ (k24_leapsThen : AR), K24 k24_leapsThen = some z → ∀ (H : Heap) (locs : List Loc) (ls : Array Slot), va_P (dC, dI) vwCl (zwM cI cC f c_r c_refused c_tape c_letter c_letterAt c_number c_taped c_at c_statements c_kept c_hasImage c_isKeeping c_cursor c_poled c_barred c_leapsTo k24_leapsThen c_lands c_row c_rowMany c_endsAt) H → va_D A (zwM cI cC f c_r c_refused c_tape c_letter c_letterAt c_number c_taped c_at c_statements c_kept c_hasImage c_isKeeping c_cursor c_poled c_barred c_leapsTo k24_leapsThen c_lands c_row c_rowMany c_endsAt) → va_S A s.heap H locs → lv_has ls 5 [(0, .ref (f 0))] → W p l e (RMk 4 92) s m args below meth c H locs 0 0 Q (F0 m 111 ls [])) → ∀ (n : Nat) (x24_3 : Int32) (x24_leapsThen : AR), fX4_goesOnLeaping_L24 c_barred c_leapsTo c_poled c_r p1 p2 K24 n x24_3 x24_leapsThen = some z → ∀ (H : Heap) (locs : List Loc) (ls : Array Slot), va_P (dC, dI) vwCl (zwM cI cC f c_r c_refused c_tape c_letter c_letterAt c_number c_taped c_at c_statements c_kept c_hasImage c_isKeeping c_cursor c_poled c_barred c_leapsTo x24_leapsThen c_lands c_row c_rowMany c_endsAt) H → va_D A (zwM cI cC f c_r c_refused c_tape c_letter c_letterAt c_number c_taped c_at c_statements c_kept c_hasImage c_isKeeping c_cursor c_poled c_barred c_leapsTo x24_leapsThen c_lands c_row c_rowMany c_endsAt) → va_S A s.heap H locs → lv_has ls 5 [(0, .ref (f 0)), (1, .int p1), (2, .int p2), (3, .int x24_3)] → W p l e (RMk 4 92) s m args below meth c H locs 0 0 Q (F0 m 24 ls []) := by
    intro K24 kx24 n
    induction n with
    | zero => intro x24_3 x24_leapsThen h; rw [fX4_goesOnLeaping_L24] at h; cases h
    | succ n ih24 =>
      intro x24_3 x24_leapsThen h H locs ls hP hD hS hl
      rw [fX4_goesOnLeaping_L24] at h
      refine lv_iload_n hx hb dX4_goesOnLeaping_24 rfl (lv_at hl 3 rfl) ?_
      refine lv_bipush (v := (19 : Int32)) hx hb dX4_goesOnLeaping_25 (by decide) ?_
      refine lv_icmp_ge (tgt := 111) hx hb dX4_goesOnLeaping_27 (by decide) (fun c27 => ?_) (fun c27 => ?_)
      · have h := itT c27 h
        exact kx24 _ h _ _ _ hP hD hS (lv_sub hl [0] rfl)
      have h := itF c27 h
      refine lv_iconst (v := (0 : Int32)) hx hb dX4_goesOnLeaping_30 (by decide) ?_
      refine lv_istore (lv' := [(4, .int (0 : Int32)), (0, .ref (f 0)), (1, .int p1), (2, .int p2), (3, .int x24_3)]) hx hb dX4_goesOnLeaping_31 hl (by decide) rfl (fun ls hl => ?_)
      have L33 : ∀ (K33 : AR → Option (AR × AR)), (∀ (k33_leapsThen : AR), K33 k33_leapsThen = some z → ∀ (H : Heap) (locs : List Loc) (ls : Array Slot), va_P (dC, dI) vwCl (zwM cI cC f c_r c_refused c_tape c_letter c_letterAt c_number c_taped c_at c_statements c_kept c_hasImage c_isKeeping c_cursor c_poled c_barred c_leapsTo k33_leapsThen c_lands c_row c_rowMany c_endsAt) H → va_D A (zwM cI cC f c_r c_refused c_tape c_letter c_letterAt c_number c_taped c_at c_statements c_kept c_hasImage c_isKeeping c_cursor c_poled c_barred c_leapsTo k33_leapsThen c_lands c_row c_rowMany c_endsAt) → va_S A s.heap H locs → lv_has ls 5 [(0, .ref (f 0)), (1, .int p1), (2, .int p2), (3, .int x24_3)] → W p l e (RMk 4 92) s m args below meth c H locs 0 0 Q (F0 m 105 ls [])) → ∀ (n : Nat) (x33_4 : Int32) (x33_leapsThen : AR), fX4_goesOnLeaping_L33 c_barred c_leapsTo c_poled c_r p1 p2 x24_3 K33 n x33_4 x33_leapsThen = some z → ∀ (H : Heap) (locs : List Loc) (ls : Array Slot), va_P (dC, dI) vwCl (zwM cI cC f c_r c_refused c_tape c_letter c_letterAt c_number c_taped c_at c_statements c_kept c_hasImage c_isKeeping c_cursor c_poled c_barred c_leapsTo x33_leapsThen c_lands c_row c_rowMany c_endsAt) H → va_D A (zwM cI cC f c_r c_refused c_tape c_letter c_letterAt c_number c_taped c_at c_statements c_kept c_hasImage c_isKeeping c_cursor c_poled c_barred c_leapsTo x33_leapsThen c_lands c_row c_rowMany c_endsAt) → va_S A s.heap H locs → lv_has ls 5 [(0, .ref (f 0)), (1, .int p1), (2, .int p2), (3, .int x24_3), (4, .int x33_4)] → W p l e (RMk 4 92) s m args below meth c H locs 0 0 Q (F0 m 33 ls []) := by
        intro K33 kx33 n
        induction n with
        | zero => intro x33_4 x33_leapsThen h; rw [fX4_goesOnLeaping_L33] at h; cases h
        | succ n ih33 =>
          intro x33_4 x33_leapsThen h H locs ls hP hD hS hl
          rw [fX4_goesOnLeaping_L33] at h
          refine lv_iload hx hb dX4_goesOnLeaping_33 (lv_at hl 4 rfl) ?_
          refine lv_bipush (v := (19 : Int32)) hx hb dX4_goesOnLeaping_35 (by decide) ?_
          refine lv_icmp_ge (tgt := 105) hx hb dX4_goesOnLeaping_37 (by decide) (fun c37 => ?_) (fun c37 => ?_)
          · have h := itT c37 h
            exact kx33 _ h _ _ _ hP hD hS (lv_sub hl [0, 1, 2, 3] rfl)
          have h := itF c37 h
          refine lv_aload_n hx hb dX4_goesOnLeaping_40 rfl (lv_at hl 0 rfl) ?_
          refine va_get (D := (dC, dI)) (ci := 4) (v := .ref (f 12)) (C := RX4) (T := TX4) (N := 28) hx hb hts hiX4 hown hK hP 0 rfl rfl 22 (by decide) hw2 (fun _ h9 => h9) rfl dX4_goesOnLeaping_41 ?_
          refine lv_iload_n hx hb dX4_goesOnLeaping_44 rfl (lv_at hl 3 rfl) ?_
          obtain ⟨hin, h⟩ := ck_some h
          refine va_iald hx hb hK hP 12 0 rfl rfl hin dX4_goesOnLeaping_45 ?_
          refine lv_if_lt (tgt := 105) hx hb dX4_goesOnLeaping_46 (by decide) (fun c46 => ?_) (fun c46 => ?_)
          · have h := itT c46 h
            exact kx33 _ h _ _ _ hP hD hS (lv_sub hl [0, 1, 2, 3] rfl)
          have h := itF c46 h
          refine lv_aload_n hx hb dX4_goesOnLeaping_49 rfl (lv_at hl 0 rfl) ?_
          refine lv_iload_n hx hb dX4_goesOnLeaping_50 rfl (lv_at hl 3 rfl) ?_
          refine lv_iload hx hb dX4_goesOnLeaping_51 (lv_at hl 4 rfl) ?_
          refine lv_iload_n hx hb dX4_goesOnLeaping_53 rfl (lv_at hl 1 rfl) ?_
          refine lv_iload_n hx hb dX4_goesOnLeaping_54 rfl (lv_at hl 2 rfl) ?_
          obtain ⟨q55, e55, h⟩ := bd_some h
          refine g_roV (wc := (zwM cI cC f c_r c_refused c_tape c_letter c_letterAt c_number c_taped c_at c_statements c_kept c_hasImage c_isKeeping c_cursor c_poled c_barred c_leapsTo x33_leapsThen c_lands c_row c_rowMany c_endsAt)) ⟨hx, hb, hml, hown, hts⟩ hE hK hP hS [0, 1, 2, 3, 4, 5, 6, 7, 8, 9, 10, 11, 12, 13, 14, 15] rfl (mX4_mayStay l dC dI cI cC sk f x24_3 x33_4 p1 p2 c_r c_refused c_tape c_letter c_letterAt c_number c_taped c_at c_statements c_kept c_hasImage c_isKeeping c_cursor c_poled c_barred c_leapsTo x33_leapsThen c_lands c_row c_rowMany c_endsAt q55 e55) (cwV 4 hts gX4_goesOnLeaping_X4_mayStay rfl rfl rfl (by decide +kernel) ⟨Nat.le_of_ble_eq_true rfl, Nat.le_of_ble_eq_true rfl⟩) (va_recv hK hP (ci := 4) (q0 := 0) rfl rfl) (As := [.int x24_3, .int x33_4, .int p1, .int p2]) (rest := []) rfl hl.1 rfl (Nat.le_of_ble_eq_true rfl) dX4_goesOnLeaping_55 ⟨Nat.zero_le _, Nat.zero_le _⟩ (fun H locs hP hS => ?_)
          refine jnW (fun (v73 : AR) => ∀ (H : Heap) (locs : List Loc) (ls : Array Slot), va_P (dC, dI) vwCl (zwM cI cC f c_r c_refused c_tape c_letter c_letterAt c_number c_taped c_at c_statements c_kept c_hasImage c_isKeeping c_cursor c_poled c_barred c_leapsTo v73 c_lands c_row c_rowMany c_endsAt) H → va_D A (zwM cI cC f c_r c_refused c_tape c_letter c_letterAt c_number c_taped c_at c_statements c_kept c_hasImage c_isKeeping c_cursor c_poled c_barred c_leapsTo v73 c_lands c_row c_rowMany c_endsAt) → va_S A s.heap H locs → lv_has ls 5 [(0, .ref (f 0)), (1, .int p1), (2, .int p2), (3, .int x24_3), (4, .int x33_4)] → W p l e (RMk 4 92) s m args below meth c H locs 0 0 Q (F0 m 73 ls [])) h (fun v73 h H locs ls hP hD hS hl => ?_) (fun J73 j73 h => ?_)
          · refine lv_aload_n hx hb dX4_goesOnLeaping_73 rfl (lv_at hl 0 rfl) ?_
            refine lv_iload_n hx hb dX4_goesOnLeaping_74 rfl (lv_at hl 3 rfl) ?_
            refine lv_iload hx hb dX4_goesOnLeaping_75 (lv_at hl 4 rfl) ?_
            refine lv_iload_n hx hb dX4_goesOnLeaping_77 rfl (lv_at hl 1 rfl) ?_
            refine lv_iload_n hx hb dX4_goesOnLeaping_78 rfl (lv_at hl 2 rfl) ?_
            obtain ⟨q79, e79, h⟩ := bd_some h
            refine g_roV (wc := (zwM cI cC f c_r c_refused c_tape c_letter c_letterAt c_number c_taped c_at c_statements c_kept c_hasImage c_isKeeping c_cursor c_poled c_barred c_leapsTo v73 c_lands c_row c_rowMany c_endsAt)) ⟨hx, hb, hml, hown, hts⟩ hE hK hP hS [0, 1, 2, 3, 4, 5, 6, 7, 8, 9, 10, 11, 12, 13, 14, 15] rfl (mX4_mayLeap l dC dI cI cC sk f x24_3 x33_4 p1 p2 c_r c_refused c_tape c_letter c_letterAt c_number c_taped c_at c_statements c_kept c_hasImage c_isKeeping c_cursor c_poled c_barred c_leapsTo v73 c_lands c_row c_rowMany c_endsAt q79 e79) (cwV 4 hts gX4_goesOnLeaping_X4_mayLeap rfl rfl rfl (by decide +kernel) ⟨Nat.le_of_ble_eq_true rfl, Nat.le_of_ble_eq_true rfl⟩) (va_recv hK hP (ci := 4) (q0 := 0) rfl rfl) (As := [.int x24_3, .int x33_4, .int p1, .int p2]) (rest := []) rfl hl.1 rfl (Nat.le_of_ble_eq_true rfl) dX4_goesOnLeaping_79 ⟨Nat.zero_le _, Nat.zero_le _⟩ (fun H locs hP hS => ?_)
            refine lv_if_eq (tgt := 99) hx hb dX4_goesOnLeaping_82 (by decide) (fun c82 => ?_) (fun c82 => ?_)
            · have h := itT c82 h
              refine lv_iinc (v := (x33_4 + (1 : Int32))) (lv' := [(4, .int (x33_4 + (1 : Int32))), (0, .ref (f 0)), (1, .int p1), (2, .int p2), (3, .int x24_3)]) hx hb dX4_goesOnLeaping_99 hl (k := 4) rfl rfl (by decide) rfl (fun ls hl => ?_)
              refine lv_goto (tgt := 33) hx hb dX4_goesOnLeaping_102 (by decide) ?_
              exact ih33 _ _ h _ _ _ hP hD hS (lv_sub hl [1, 2, 3, 4, 0] rfl)
            have h := itF c82 h
            refine lv_aload_n hx hb dX4_goesOnLeaping_85 rfl (lv_at hl 0 rfl) ?_
            refine lv_iload hx hb dX4_goesOnLeaping_86 (lv_at hl 4 rfl) ?_
            refine lv_aload_n hx hb dX4_goesOnLeaping_88 rfl (lv_at hl 0 rfl) ?_
            refine va_get (D := (dC, dI)) (ci := 4) (v := .ref (f 12)) (C := RX4) (T := TX4) (N := 28) hx hb hts hiX4 hown hK hP 0 rfl rfl 22 (by decide) hw2 (fun _ h9 => h9) rfl dX4_goesOnLeaping_89 ?_
            refine lv_iload_n hx hb dX4_goesOnLeaping_92 rfl (lv_at hl 3 rfl) ?_
            obtain ⟨hin, h⟩ := ck_some h
            refine va_iald hx hb hK hP 12 0 rfl rfl hin dX4_goesOnLeaping_93 ?_
            refine lv_iconst (v := (1 : Int32)) hx hb dX4_goesOnLeaping_94 (by decide) ?_
            refine lv_iadd hx hb dX4_goesOnLeaping_95 ?_
            obtain ⟨q96, e96, h⟩ := bd_some h
            refine g_rvV (wc := (zwM cI cC f c_r c_refused c_tape c_letter c_letterAt c_number c_taped c_at c_statements c_kept c_hasImage c_isKeeping c_cursor c_poled c_barred c_leapsTo v73 c_lands c_row c_rowMany c_endsAt)) (wc' := (zwM cI cC f c_r c_refused c_tape c_letter c_letterAt c_number c_taped c_at c_statements c_kept c_hasImage c_isKeeping c_cursor c_poled c_barred c_leapsTo q96 c_lands c_row c_rowMany c_endsAt)) ⟨hx, hb, hml, hown, hts⟩ hE hK hA hP hD hS [0, 1, 2, 3, 4, 5, 6, 7, 8, 9, 10, 11, 12, 13, 14, 15] rfl rfl rfl (mX4_lowers l dC dI cI cC sk f H.size x33_4 ((c_leapsTo (x24_3).toNatClampNeg) + (1 : Int32)) c_r c_refused c_tape c_letter c_letterAt c_number c_taped c_at c_statements c_kept c_hasImage c_isKeeping c_cursor c_poled c_barred c_leapsTo v73 c_lands c_row c_rowMany c_endsAt q96 e96) (cwV 2 hts gX4_goesOnLeaping_X4_lowers rfl rfl rfl (by decide +kernel) ⟨Nat.le_of_ble_eq_true rfl, Nat.le_of_ble_eq_true rfl⟩) (va_recv hK hP (ci := 4) (q0 := 0) rfl rfl) (As := [.int x33_4, .int ((c_leapsTo (x24_3).toNatClampNeg) + (1 : Int32))]) (rest := []) rfl hl.1 rfl (Nat.le_of_ble_eq_true rfl) dX4_goesOnLeaping_96 ⟨Nat.zero_le _, Nat.zero_le _⟩ (fun H locs hP hD hS => ?_)
            have hP : va_P (dC, dI) vwCl (zwM cI cC f c_r c_refused c_tape c_letter c_letterAt c_number c_taped c_at c_statements c_kept c_hasImage c_isKeeping c_cursor c_poled c_barred c_leapsTo q96 c_lands c_row c_rowMany c_endsAt) H := hP
            have hD : va_D A (zwM cI cC f c_r c_refused c_tape c_letter c_letterAt c_number c_taped c_at c_statements c_kept c_hasImage c_isKeeping c_cursor c_poled c_barred c_leapsTo q96 c_lands c_row c_rowMany c_endsAt) := hD
            refine lv_iinc (v := (x33_4 + (1 : Int32))) (lv' := [(4, .int (x33_4 + (1 : Int32))), (0, .ref (f 0)), (1, .int p1), (2, .int p2), (3, .int x24_3)]) hx hb dX4_goesOnLeaping_99 hl (k := 4) rfl rfl (by decide) rfl (fun ls hl => ?_)
            refine lv_goto (tgt := 33) hx hb dX4_goesOnLeaping_102 (by decide) ?_
            exact ih33 _ _ h _ _ _ hP hD hS (lv_sub hl [1, 2, 3, 4, 0] rfl)
          refine lv_if_eq (tgt := 73) hx hb dX4_goesOnLeaping_58 (by decide) (fun c58 => ?_) (fun c58 => ?_)
          · have h := itT c58 h
            exact j73 _ h _ _ _ hP hD hS (lv_sub hl [0, 1, 2, 3, 4] rfl)
          have h := itF c58 h
          refine lv_aload_n hx hb dX4_goesOnLeaping_61 rfl (lv_at hl 0 rfl) ?_
          refine lv_iload hx hb dX4_goesOnLeaping_62 (lv_at hl 4 rfl) ?_
          refine lv_aload_n hx hb dX4_goesOnLeaping_64 rfl (lv_at hl 0 rfl) ?_
          refine va_get (D := (dC, dI)) (ci := 4) (v := .ref (f 12)) (C := RX4) (T := TX4) (N := 28) hx hb hts hiX4 hown hK hP 0 rfl rfl 22 (by decide) hw2 (fun _ h9 => h9) rfl dX4_goesOnLeaping_65 ?_
          refine lv_iload_n hx hb dX4_goesOnLeaping_68 rfl (lv_at hl 3 rfl) ?_
          obtain ⟨hin, h⟩ := ck_some h
          refine va_iald hx hb hK hP 12 0 rfl rfl hin dX4_goesOnLeaping_69 ?_
          obtain ⟨q70, e70, h⟩ := bd_some h
          refine g_rvV (wc := (zwM cI cC f c_r c_refused c_tape c_letter c_letterAt c_number c_taped c_at c_statements c_kept c_hasImage c_isKeeping c_cursor c_poled c_barred c_leapsTo x33_leapsThen c_lands c_row c_rowMany c_endsAt)) (wc' := (zwM cI cC f c_r c_refused c_tape c_letter c_letterAt c_number c_taped c_at c_statements c_kept c_hasImage c_isKeeping c_cursor c_poled c_barred c_leapsTo q70 c_lands c_row c_rowMany c_endsAt)) ⟨hx, hb, hml, hown, hts⟩ hE hK hA hP hD hS [0, 1, 2, 3, 4, 5, 6, 7, 8, 9, 10, 11, 12, 13, 14, 15] rfl rfl rfl (mX4_lowers l dC dI cI cC sk f H.size x33_4 (c_leapsTo (x24_3).toNatClampNeg) c_r c_refused c_tape c_letter c_letterAt c_number c_taped c_at c_statements c_kept c_hasImage c_isKeeping c_cursor c_poled c_barred c_leapsTo x33_leapsThen c_lands c_row c_rowMany c_endsAt q70 e70) (cwV 2 hts gX4_goesOnLeaping_X4_lowers rfl rfl rfl (by decide +kernel) ⟨Nat.le_of_ble_eq_true rfl, Nat.le_of_ble_eq_true rfl⟩) (va_recv hK hP (ci := 4) (q0 := 0) rfl rfl) (As := [.int x33_4, .int (c_leapsTo (x24_3).toNatClampNeg)]) (rest := []) rfl hl.1 rfl (Nat.le_of_ble_eq_true rfl) dX4_goesOnLeaping_70 ⟨Nat.zero_le _, Nat.zero_le _⟩ (fun H locs hP hD hS => ?_)
          have hP : va_P (dC, dI) vwCl (zwM cI cC f c_r c_refused c_tape c_letter c_letterAt c_number c_taped c_at c_statements c_kept c_hasImage c_isKeeping c_cursor c_poled c_barred c_leapsTo q70 c_lands c_row c_rowMany c_endsAt) H := hP
          have hD : va_D A (zwM cI cC f c_r c_refused c_tape c_letter c_letterAt c_number c_taped c_at c_statements c_kept c_hasImage c_isKeeping c_cursor c_poled c_barred c_leapsTo q70 c_lands c_row c_rowMany c_endsAt) := hD
          exact j73 _ h _ _ _ hP hD hS (lv_sub hl [0, 1, 2, 3, 4] rfl)
      refine L33 _ (fun k33_leapsThen h H locs ls hP hD hS hl => ?_) _ _ _ h _ _ _ hP hD hS (lv_sub hl [1, 2, 3, 4, 0] rfl)
      refine lv_iinc (v := (x24_3 + (1 : Int32))) (lv' := [(3, .int (x24_3 + (1 : Int32))), (0, .ref (f 0)), (1, .int p1), (2, .int p2)]) hx hb dX4_goesOnLeaping_105 hl (k := 3) rfl rfl (by decide) rfl (fun ls hl => ?_)
      refine lv_goto (tgt := 24) hx hb dX4_goesOnLeaping_108 (by decide) ?_
      exact ih24 _ _ h _ _ _ hP hD hS (lv_sub hl [1, 2, 3, 0] rfl)
  refine L24 _ (fun k24_leapsThen h H locs ls hP hD hS hl => ?_) _ _ _ h _ _ _ hP hD hS (lv_sub hl [1, 2, 3, 0] rfl)
  refine lv_iconst (v := (0 : Int32)) hx hb dX4_goesOnLeaping_111 (by decide) ?_
  refine lv_istore_n (lv' := [(3, .int (0 : Int32)), (0, .ref (f 0))]) hx hb dX4_goesOnLeaping_112 rfl hl (by decide) rfl (fun ls hl => ?_)
  have L113 : ∀ (K113 : AR → Option (AR × AR)), (∀ (k113_leapsTo : AR), K113 k113_leapsTo = some z → ∀ (H : Heap) (locs : List Loc) (ls : Array Slot), va_P (dC, dI) vwCl (zwM cI cC f c_r c_refused c_tape c_letter c_letterAt c_number c_taped c_at c_statements c_kept c_hasImage c_isKeeping c_cursor c_poled c_barred k113_leapsTo k24_leapsThen c_lands c_row c_rowMany c_endsAt) H → va_D A (zwM cI cC f c_r c_refused c_tape c_letter c_letterAt c_number c_taped c_at c_statements c_kept c_hasImage c_isKeeping c_cursor c_poled c_barred k113_leapsTo k24_leapsThen c_lands c_row c_rowMany c_endsAt) → va_S A s.heap H locs → lv_has ls 5 [] → W p l e (RMk 4 92) s m args below meth c H locs 0 0 Q (F0 m 137 ls [])) → ∀ (n : Nat) (x113_3 : Int32) (x113_leapsTo : AR), fX4_goesOnLeaping_L113 k24_leapsThen K113 n x113_3 x113_leapsTo = some z → ∀ (H : Heap) (locs : List Loc) (ls : Array Slot), va_P (dC, dI) vwCl (zwM cI cC f c_r c_refused c_tape c_letter c_letterAt c_number c_taped c_at c_statements c_kept c_hasImage c_isKeeping c_cursor c_poled c_barred x113_leapsTo k24_leapsThen c_lands c_row c_rowMany c_endsAt) H → va_D A (zwM cI cC f c_r c_refused c_tape c_letter c_letterAt c_number c_taped c_at c_statements c_kept c_hasImage c_isKeeping c_cursor c_poled c_barred x113_leapsTo k24_leapsThen c_lands c_row c_rowMany c_endsAt) → va_S A s.heap H locs → lv_has ls 5 [(0, .ref (f 0)), (3, .int x113_3)] → W p l e (RMk 4 92) s m args below meth c H locs 0 0 Q (F0 m 113 ls []) := by
    intro K113 kx113 n
    induction n with
    | zero => intro x113_3 x113_leapsTo h; rw [fX4_goesOnLeaping_L113] at h; cases h
    | succ n ih113 =>
      intro x113_3 x113_leapsTo h H locs ls hP hD hS hl
      rw [fX4_goesOnLeaping_L113] at h
      refine lv_iload_n hx hb dX4_goesOnLeaping_113 rfl (lv_at hl 1 rfl) ?_
      refine lv_bipush (v := (19 : Int32)) hx hb dX4_goesOnLeaping_114 (by decide) ?_
      refine lv_icmp_ge (tgt := 137) hx hb dX4_goesOnLeaping_116 (by decide) (fun c116 => ?_) (fun c116 => ?_)
      · have h := itT c116 h
        exact kx113 _ h _ _ _ hP hD hS (lv_sub hl [] rfl)
      have h := itF c116 h
      refine lv_aload_n hx hb dX4_goesOnLeaping_119 rfl (lv_at hl 0 rfl) ?_
      refine va_get (D := (dC, dI)) (ci := 4) (v := .ref (f 12)) (C := RX4) (T := TX4) (N := 28) hx hb hts hiX4 hown hK hP 0 rfl rfl 22 (by decide) hw2 (fun _ h9 => h9) rfl dX4_goesOnLeaping_120 ?_
      refine lv_iload_n hx hb dX4_goesOnLeaping_123 rfl (lv_at hl 1 rfl) ?_
      refine lv_aload_n hx hb dX4_goesOnLeaping_124 rfl (lv_at hl 0 rfl) ?_
      refine va_get (D := (dC, dI)) (ci := 4) (v := .ref (f 13)) (C := RX4) (T := TX4) (N := 28) hx hb hts hiX4 hown hK hP 0 rfl rfl 23 (by decide) hw1 (fun _ h9 => h9) rfl dX4_goesOnLeaping_125 ?_
      refine lv_iload_n hx hb dX4_goesOnLeaping_128 rfl (lv_at hl 1 rfl) ?_
      obtain ⟨hin, h⟩ := ck_some h
      refine va_iald hx hb hK hP 13 0 rfl rfl hin dX4_goesOnLeaping_129 ?_
      obtain ⟨hin, h⟩ := ck_some h
      refine va_iast hx hb hK hP hD hS 12 0 rfl rfl hin dX4_goesOnLeaping_130 (fun H locs hP hD hS => ?_)
      have hP : va_P (dC, dI) vwCl (zwM cI cC f c_r c_refused c_tape c_letter c_letterAt c_number c_taped c_at c_statements c_kept c_hasImage c_isKeeping c_cursor c_poled c_barred (upd x113_leapsTo (x113_3).toNatClampNeg (k24_leapsThen (x113_3).toNatClampNeg)) k24_leapsThen c_lands c_row c_rowMany c_endsAt) H := hP
      have hD : va_D A (zwM cI cC f c_r c_refused c_tape c_letter c_letterAt c_number c_taped c_at c_statements c_kept c_hasImage c_isKeeping c_cursor c_poled c_barred (upd x113_leapsTo (x113_3).toNatClampNeg (k24_leapsThen (x113_3).toNatClampNeg)) k24_leapsThen c_lands c_row c_rowMany c_endsAt) := hD
      refine lv_iinc (v := (x113_3 + (1 : Int32))) (lv' := [(3, .int (x113_3 + (1 : Int32))), (0, .ref (f 0))]) hx hb dX4_goesOnLeaping_131 hl (k := 1) rfl rfl (by decide) rfl (fun ls hl => ?_)
      refine lv_goto (tgt := 113) hx hb dX4_goesOnLeaping_134 (by decide) ?_
      exact ih113 _ _ h _ _ _ hP hD hS (lv_sub hl [1, 0] rfl)
  refine L113 _ (fun k113_leapsTo h H locs ls hP hD hS hl => ?_) _ _ _ h _ _ _ hP hD hS (lv_sub hl [1, 0] rfl)
  subst hQ
  exact retRV (zz := ((k113_leapsTo, k24_leapsThen) : AR × AR)) (fun z => (zwM cI cC f c_r c_refused c_tape c_letter c_letterAt c_number c_taped c_at c_statements c_kept c_hasImage c_isKeeping c_cursor c_poled c_barred z.1 z.2 c_lands c_row c_rowMany c_endsAt)) hx hb hr hlocks hS h hP dX4_goesOnLeaping_137
theorem dX4_leaps_0 : decode cX4_leaps 0 = .ok (.iload_n 1, 1) := by decide +kernel
theorem dX4_leaps_1 : decode cX4_leaps 1 = .ok (.iload_n 2, 1) := by decide +kernel
theorem dX4_leaps_2 : decode cX4_leaps 2 = .ok (.invokestatic 176, 3) := by decide +kernel
theorem dX4_leaps_5 : decode cX4_leaps 5 = .ok (.istore_n 3, 1) := by decide +kernel
theorem dX4_leaps_6 : decode cX4_leaps 6 = .ok (.iload_n 3, 1) := by decide +kernel
theorem dX4_leaps_7 : decode cX4_leaps 7 = .ok (.ifCond .eq 9, 3) := by decide +kernel
theorem dX4_leaps_10 : decode cX4_leaps 10 = .ok (.aload_n 0, 1) := by decide +kernel
theorem dX4_leaps_11 : decode cX4_leaps 11 = .ok (.iload_n 3, 1) := by decide +kernel
theorem dX4_leaps_12 : decode cX4_leaps 12 = .ok (.invokevirtual 73, 3) := by decide +kernel
theorem dX4_leaps_15 : decode cX4_leaps 15 = .ok (.ireturn, 1) := by decide +kernel
theorem dX4_leaps_16 : decode cX4_leaps 16 = .ok (.iconst 0, 1) := by decide +kernel
theorem dX4_leaps_17 : decode cX4_leaps 17 = .ok (.istore 4, 2) := by decide +kernel
theorem dX4_leaps_19 : decode cX4_leaps 19 = .ok (.iload 4, 2) := by decide +kernel
theorem dX4_leaps_21 : decode cX4_leaps 21 = .ok (.bipush 19, 2) := by decide +kernel
theorem dX4_leaps_23 : decode cX4_leaps 23 = .ok (.if_icmp .ge 28, 3) := by decide +kernel
theorem dX4_leaps_26 : decode cX4_leaps 26 = .ok (.aload_n 0, 1) := by decide +kernel
theorem dX4_leaps_27 : decode cX4_leaps 27 = .ok (.getfield 47, 3) := by decide +kernel
theorem dX4_leaps_30 : decode cX4_leaps 30 = .ok (.iload 4, 2) := by decide +kernel
theorem dX4_leaps_32 : decode cX4_leaps 32 = .ok (.iload 4, 2) := by decide +kernel
theorem dX4_leaps_34 : decode cX4_leaps 34 = .ok (.iload_n 2, 1) := by decide +kernel
theorem dX4_leaps_35 : decode cX4_leaps 35 = .ok (.if_icmp .ne 7, 3) := by decide +kernel
theorem dX4_leaps_38 : decode cX4_leaps 38 = .ok (.iconst 0, 1) := by decide +kernel
theorem dX4_leaps_39 : decode cX4_leaps 39 = .ok (.goto 5, 3) := by decide +kernel
theorem dX4_leaps_42 : decode cX4_leaps 42 = .ok (.bipush (-9), 2) := by decide +kernel
theorem dX4_leaps_44 : decode cX4_leaps 44 = .ok (.iastore, 1) := by decide +kernel
theorem dX4_leaps_45 : decode cX4_leaps 45 = .ok (.iinc 4 1, 3) := by decide +kernel
theorem dX4_leaps_48 : decode cX4_leaps 48 = .ok (.goto (-29), 3) := by decide +kernel
theorem dX4_leaps_51 : decode cX4_leaps 51 = .ok (.iconst 0, 1) := by decide +kernel
theorem dX4_leaps_52 : decode cX4_leaps 52 = .ok (.istore 4, 2) := by decide +kernel
theorem dX4_leaps_54 : decode cX4_leaps 54 = .ok (.iload 4, 2) := by decide +kernel
theorem dX4_leaps_56 : decode cX4_leaps 56 = .ok (.bipush 40, 2) := by decide +kernel
theorem dX4_leaps_58 : decode cX4_leaps 58 = .ok (.if_icmp .ge 21, 3) := by decide +kernel
theorem dX4_leaps_61 : decode cX4_leaps 61 = .ok (.aload_n 0, 1) := by decide +kernel
theorem dX4_leaps_62 : decode cX4_leaps 62 = .ok (.iload_n 1, 1) := by decide +kernel
theorem dX4_leaps_63 : decode cX4_leaps 63 = .ok (.aload_n 0, 1) := by decide +kernel
theorem dX4_leaps_64 : decode cX4_leaps 64 = .ok (.getfield 101, 3) := by decide +kernel
theorem dX4_leaps_67 : decode cX4_leaps 67 = .ok (.iload 4, 2) := by decide +kernel
theorem dX4_leaps_69 : decode cX4_leaps 69 = .ok (.iadd, 1) := by decide +kernel
theorem dX4_leaps_70 : decode cX4_leaps 70 = .ok (.invokevirtual 186, 3) := by decide +kernel
theorem dX4_leaps_73 : decode cX4_leaps 73 = .ok (.iinc 4 1, 3) := by decide +kernel
theorem dX4_leaps_76 : decode cX4_leaps 76 = .ok (.goto (-22), 3) := by decide +kernel
theorem dX4_leaps_79 : decode cX4_leaps 79 = .ok (.aload_n 0, 1) := by decide +kernel
theorem dX4_leaps_80 : decode cX4_leaps 80 = .ok (.getfield 47, 3) := by decide +kernel
theorem dX4_leaps_83 : decode cX4_leaps 83 = .ok (.bipush 18, 2) := by decide +kernel
theorem dX4_leaps_85 : decode cX4_leaps 85 = .ok (.iaload, 1) := by decide +kernel
theorem dX4_leaps_86 : decode cX4_leaps 86 = .ok (.ireturn, 1) := by decide +kernel
set_option maxRecDepth 20000 in
theorem ggX4_leaps_X4_notLoad : GoodIn wsX4_leaps wsX4_notLoad := goodIn_r _ [6, 7, 8, 5, 9, 10, 11, 12, 13, 14, 15] (by decide +kernel) (by decide +kernel)
set_option maxRecDepth 20000 in
theorem gX4_leaps_X4_notLoad : GoodIn wsX4_leaps (va_wsS RX4 176 yX4_notLoad wsX4_notLoad) := goodIn_app (goodIn_of _ (by decide +kernel)) ggX4_leaps_X4_notLoad
set_option maxRecDepth 20000 in
theorem ggX4_leaps_X4_no : GoodIn wsX4_leaps wsX4_no := goodIn_r _ [19, 20, 72, 73, 74, 75, 76, 77, 78, 79, 80, 81, 82, 83, 84, 85, 86, 87, 88, 89, 90, 91, 92, 93, 94, 95, 96, 97, 98, 99] (by decide +kernel) (by decide +kernel)
set_option maxRecDepth 20000 in
theorem gX4_leaps_X4_no : GoodIn wsX4_leaps (wsV RX4 73 RX4 yX4_no wsX4_no) := goodIn_app (goodIn_of _ (by decide +kernel)) ggX4_leaps_X4_no
set_option maxRecDepth 20000 in
theorem ggX4_leaps_X4_goesOnLeaping : GoodIn wsX4_leaps wsX4_goesOnLeaping := goodIn_r _ [24, 25, 1, 26, 27, 28, 5, 29, 30, 31, 32, 33, 34, 35, 36, 37, 38, 39, 40, 41, 42, 43, 44, 45, 46, 47, 48, 49, 50, 51, 52, 53, 54, 55, 56, 57, 10, 11, 12, 58, 59, 60, 61, 62, 2, 63, 64, 65, 66, 67, 68, 69, 70, 71, 72, 73, 74, 75, 76, 77, 78, 79, 80, 81, 82, 83, 84, 85, 86, 87, 88, 89, 90, 91, 92, 93, 94, 95, 96, 97, 98, 99] (by decide +kernel) (by decide +kernel)
set_option maxRecDepth 20000 in
theorem gX4_leaps_X4_goesOnLeaping : GoodIn wsX4_leaps (wsV RX4 186 RX4 yX4_goesOnLeaping wsX4_goesOnLeaping) := goodIn_app (goodIn_of _ (by decide +kernel)) ggX4_leaps_X4_goesOnLeaping
set_option maxHeartbeats 4000000 in
set_option maxRecDepth 100000 in
theorem mX4_leaps (l : Launch) (dC : Nat → ClassId) (dI : Nat → Nat → Nat) (cI cC : ClassId) (sk : (Nat → Nat) × (Nat → Nat)) (f : Nat → Nat) (sz : Nat) (p1 : Int32) (p2 : Int32) (c_r : RT) (c_refused : AR) (c_tape : AR) (c_letter : AR) (c_letterAt : AR) (c_number : AR) (c_taped : Int32) (c_at : Int32) (c_statements : Int32) (c_kept : AR) (c_hasImage : Int32) (c_isKeeping : Int32) (c_cursor : Int32) (c_poled : Int32) (c_barred : Int32) (c_leapsTo : AR) (c_leapsThen : AR) (c_lands : AR) (c_row : AR) (c_rowMany : Int32) (c_endsAt : Int32) (z : Int32 × AR × AR × AR) (h : fX4_leaps p1 p2 c_r c_refused c_poled c_barred c_leapsTo c_leapsThen = some z) : cRW l yX4_leaps wsX4_leaps (RMk 5 116) sk (dC, dI) (tyz cI cC) sz (zwM cI cC f c_r c_refused c_tape c_letter c_letterAt c_number c_taped c_at c_statements c_kept c_hasImage c_isKeeping c_cursor c_poled c_barred c_leapsTo c_leapsThen c_lands c_row c_rowMany c_endsAt) (zwM cI cC f c_r z.2.1 c_tape c_letter c_letterAt c_number c_taped c_at c_statements c_kept c_hasImage c_isKeeping c_cursor c_poled c_barred z.2.2.1 z.2.2.2 c_lands c_row c_rowMany c_endsAt) [.ref (f 0), .int p1, .int p2] z.1 := by
  refine ofRW (cc := cX4_leaps) (maxL := 5) (ret := (some .int)) (own := RX4) (plainFor_of_name (by decide)) rfl rfl (Nat.le_of_ble_eq_true rfl) ?_
  intro p e s m args below meth c A hA hx hb hml hr hts hown hlocks hE hK hP hD hS ls hl
  generalize hQ : qRW _ _ _ _ _ _ _ = Q
  have hl : lv_has ls 5 [(0, .ref (f 0)), (1, .int p1), (2, .int p2)] := hl
  have hiX4 : ∀ w ∈ wsX40, w ∈ wsX4_leaps := fun w h => List.mem_cons_of_mem _ (List.mem_append_right _ h)
  have hw1 := hts (Cond.fieldLink RX4 47 "FloeToFloeModel" "leapsTo" "[I") (List.mem_of_getElem? (i := 1) rfl)
  have hw2 := hts (Cond.fieldLink RX4 101 "FloeToFloeModel" "minute" "I") (List.mem_of_getElem? (i := 2) rfl)
  rw [fX4_leaps] at h
  refine lv_iload_n hx hb dX4_leaps_0 rfl (lv_at hl 1 rfl) ?_
  refine lv_iload_n hx hb dX4_leaps_1 rfl (lv_at hl 2 rfl) ?_
  obtain ⟨q2, e2, h⟩ := bd_some h
  refine g_roS (wc := ([] : va_W)) ⟨hx, hb, hml, hown, hts⟩ hE hK hP hS [] rfl (mX4_notLoad l dC dI cI cC sk  p1 p2 q2 e2) (va_cwS 2 hts gX4_leaps_X4_notLoad rfl rfl rfl (by decide +kernel) ⟨Nat.le_of_ble_eq_true rfl, Nat.le_of_ble_eq_true rfl⟩) (As := [.int p1, .int p2]) (rest := []) rfl hl.1 rfl (Nat.le_of_ble_eq_true rfl) dX4_leaps_2 ⟨Nat.zero_le _, Nat.zero_le _⟩ (fun H locs hP hS => ?_)
  refine lv_istore_n (lv' := [(3, .int q2), (0, .ref (f 0)), (1, .int p1), (2, .int p2)]) hx hb dX4_leaps_5 rfl hl (by decide) rfl (fun ls hl => ?_)
  refine lv_iload_n hx hb dX4_leaps_6 rfl (lv_at hl 0 rfl) ?_
  refine lv_if_eq (tgt := 16) hx hb dX4_leaps_7 (by decide) (fun c7 => ?_) (fun c7 => ?_)
  · have h := itT c7 h
    refine lv_iconst (v := (0 : Int32)) hx hb dX4_leaps_16 (by decide) ?_
    refine lv_istore (lv' := [(4, .int (0 : Int32)), (3, .int q2), (0, .ref (f 0)), (1, .int p1), (2, .int p2)]) hx hb dX4_leaps_17 hl (by decide) rfl (fun ls hl => ?_)
    have L19 : ∀ (K19 : AR → Option (Int32 × AR × AR × AR)), (∀ (k19_leapsTo : AR), K19 k19_leapsTo = some z → ∀ (H : Heap) (locs : List Loc) (ls : Array Slot), va_P (dC, dI) vwCl (zwM cI cC f c_r c_refused c_tape c_letter c_letterAt c_number c_taped c_at c_statements c_kept c_hasImage c_isKeeping c_cursor c_poled c_barred k19_leapsTo c_leapsThen c_lands c_row c_rowMany c_endsAt) H → va_D A (zwM cI cC f c_r c_refused c_tape c_letter c_letterAt c_number c_taped c_at c_statements c_kept c_hasImage c_isKeeping c_cursor c_poled c_barred k19_leapsTo c_leapsThen c_lands c_row c_rowMany c_endsAt) → va_S A s.heap H locs → lv_has ls 5 [(0, .ref (f 0)), (1, .int p1)] → W p l e (RMk 5 116) s m args below meth c H locs 0 0 Q (F0 m 51 ls [])) → ∀ (n : Nat) (x19_4 : Int32) (x19_leapsTo : AR), fX4_leaps_L19 p2 K19 n x19_4 x19_leapsTo = some z → ∀ (H : Heap) (locs : List Loc) (ls : Array Slot), va_P (dC, dI) vwCl (zwM cI cC f c_r c_refused c_tape c_letter c_letterAt c_number c_taped c_at c_statements c_kept c_hasImage c_isKeeping c_cursor c_poled c_barred x19_leapsTo c_leapsThen c_lands c_row c_rowMany c_endsAt) H → va_D A (zwM cI cC f c_r c_refused c_tape c_letter c_letterAt c_number c_taped c_at c_statements c_kept c_hasImage c_isKeeping c_cursor c_poled c_barred x19_leapsTo c_leapsThen c_lands c_row c_rowMany c_endsAt) → va_S A s.heap H locs → lv_has ls 5 [(0, .ref (f 0)), (1, .int p1), (2, .int p2), (4, .int x19_4)] → W p l e (RMk 5 116) s m args below meth c H locs 0 0 Q (F0 m 19 ls []) := by
      intro K19 kx19 n
      induction n with
      | zero => intro x19_4 x19_leapsTo h; rw [fX4_leaps_L19] at h; cases h
      | succ n ih19 =>
        intro x19_4 x19_leapsTo h H locs ls hP hD hS hl
        rw [fX4_leaps_L19] at h
        refine lv_iload hx hb dX4_leaps_19 (lv_at hl 3 rfl) ?_
        refine lv_bipush (v := (19 : Int32)) hx hb dX4_leaps_21 (by decide) ?_
        refine lv_icmp_ge (tgt := 51) hx hb dX4_leaps_23 (by decide) (fun c23 => ?_) (fun c23 => ?_)
        · have h := itT c23 h
          exact kx19 _ h _ _ _ hP hD hS (lv_sub hl [0, 1] rfl)
        have h := itF c23 h
        refine lv_aload_n hx hb dX4_leaps_26 rfl (lv_at hl 0 rfl) ?_
        refine va_get (D := (dC, dI)) (ci := 4) (v := .ref (f 12)) (C := RX4) (T := TX4) (N := 28) hx hb hts hiX4 hown hK hP 0 rfl rfl 22 (by decide) hw1 (fun _ h9 => h9) rfl dX4_leaps_27 ?_
        refine lv_iload hx hb dX4_leaps_30 (lv_at hl 3 rfl) ?_
        refine lv_iload hx hb dX4_leaps_32 (lv_at hl 3 rfl) ?_
        refine lv_iload_n hx hb dX4_leaps_34 rfl (lv_at hl 2 rfl) ?_
        refine jnW (fun (v44 : Int32) => ∀ (H : Heap) (locs : List Loc) (ls : Array Slot), va_P (dC, dI) vwCl (zwM cI cC f c_r c_refused c_tape c_letter c_letterAt c_number c_taped c_at c_statements c_kept c_hasImage c_isKeeping c_cursor c_poled c_barred x19_leapsTo c_leapsThen c_lands c_row c_rowMany c_endsAt) H → va_D A (zwM cI cC f c_r c_refused c_tape c_letter c_letterAt c_number c_taped c_at c_statements c_kept c_hasImage c_isKeeping c_cursor c_poled c_barred x19_leapsTo c_leapsThen c_lands c_row c_rowMany c_endsAt) → va_S A s.heap H locs → lv_has ls 5 [(0, .ref (f 0)), (1, .int p1), (2, .int p2), (4, .int x19_4)] → W p l e (RMk 5 116) s m args below meth c H locs 0 0 Q (F0 m 44 ls [.int v44, .int x19_4, .ref (f 12)])) h (fun v44 h H locs ls hP hD hS hl => ?_) (fun J44 j44 h => ?_)
        · obtain ⟨hin, h⟩ := ck_some h
          refine va_iast hx hb hK hP hD hS 12 0 rfl rfl hin dX4_leaps_44 (fun H locs hP hD hS => ?_)
          have hP : va_P (dC, dI) vwCl (zwM cI cC f c_r c_refused c_tape c_letter c_letterAt c_number c_taped c_at c_statements c_kept c_hasImage c_isKeeping c_cursor c_poled c_barred (upd x19_leapsTo (x19_4).toNatClampNeg v44) c_leapsThen c_lands c_row c_rowMany c_endsAt) H := hP
          have hD : va_D A (zwM cI cC f c_r c_refused c_tape c_letter c_letterAt c_number c_taped c_at c_statements c_kept c_hasImage c_isKeeping c_cursor c_poled c_barred (upd x19_leapsTo (x19_4).toNatClampNeg v44) c_leapsThen c_lands c_row c_rowMany c_endsAt) := hD
          refine lv_iinc (v := (x19_4 + (1 : Int32))) (lv' := [(4, .int (x19_4 + (1 : Int32))), (0, .ref (f 0)), (1, .int p1), (2, .int p2)]) hx hb dX4_leaps_45 hl (k := 3) rfl rfl (by decide) rfl (fun ls hl => ?_)
          refine lv_goto (tgt := 19) hx hb dX4_leaps_48 (by decide) ?_
          exact ih19 _ _ h _ _ _ hP hD hS (lv_sub hl [1, 2, 3, 0] rfl)
        refine lv_icmp_ne (tgt := 42) hx hb dX4_leaps_35 (by decide) (fun c35 => ?_) (fun c35 => ?_)
        · have h := itF c35 h
          refine lv_bipush (v := (-9 : Int32)) hx hb dX4_leaps_42 (by decide) ?_
          exact j44 _ h _ _ _ hP hD hS (lv_sub hl [0, 1, 2, 3] rfl)
        have h := itT c35 h
        refine lv_iconst (v := (0 : Int32)) hx hb dX4_leaps_38 (by decide) ?_
        refine lv_goto (tgt := 44) hx hb dX4_leaps_39 (by decide) ?_
        exact j44 _ h _ _ _ hP hD hS (lv_sub hl [0, 1, 2, 3] rfl)
    refine L19 _ (fun k19_leapsTo h H locs ls hP hD hS hl => ?_) _ _ _ h _ _ _ hP hD hS (lv_sub hl [2, 3, 4, 0] rfl)
    refine lv_iconst (v := (0 : Int32)) hx hb dX4_leaps_51 (by decide) ?_
    refine lv_istore (lv' := [(4, .int (0 : Int32)), (0, .ref (f 0)), (1, .int p1)]) hx hb dX4_leaps_52 hl (by decide) rfl (fun ls hl => ?_)
    have L54 : ∀ (K54 : AR → AR → Option (Int32 × AR × AR × AR)), (∀ (k54_leapsTo : AR) (k54_leapsThen : AR), K54 k54_leapsTo k54_leapsThen = some z → ∀ (H : Heap) (locs : List Loc) (ls : Array Slot), va_P (dC, dI) vwCl (zwM cI cC f c_r c_refused c_tape c_letter c_letterAt c_number c_taped c_at c_statements c_kept c_hasImage c_isKeeping c_cursor c_poled c_barred k54_leapsTo k54_leapsThen c_lands c_row c_rowMany c_endsAt) H → va_D A (zwM cI cC f c_r c_refused c_tape c_letter c_letterAt c_number c_taped c_at c_statements c_kept c_hasImage c_isKeeping c_cursor c_poled c_barred k54_leapsTo k54_leapsThen c_lands c_row c_rowMany c_endsAt) → va_S A s.heap H locs → lv_has ls 5 [(0, .ref (f 0))] → W p l e (RMk 5 116) s m args below meth c H locs 0 0 Q (F0 m 79 ls [])) → ∀ (n : Nat) (x54_4 : Int32) (x54_leapsTo : AR) (x54_leapsThen : AR), fX4_leaps_L54 c_barred c_poled c_r p1 K54 n x54_4 x54_leapsTo x54_leapsThen = some z → ∀ (H : Heap) (locs : List Loc) (ls : Array Slot), va_P (dC, dI) vwCl (zwM cI cC f c_r c_refused c_tape c_letter c_letterAt c_number c_taped c_at c_statements c_kept c_hasImage c_isKeeping c_cursor c_poled c_barred x54_leapsTo x54_leapsThen c_lands c_row c_rowMany c_endsAt) H → va_D A (zwM cI cC f c_r c_refused c_tape c_letter c_letterAt c_number c_taped c_at c_statements c_kept c_hasImage c_isKeeping c_cursor c_poled c_barred x54_leapsTo x54_leapsThen c_lands c_row c_rowMany c_endsAt) → va_S A s.heap H locs → lv_has ls 5 [(0, .ref (f 0)), (1, .int p1), (4, .int x54_4)] → W p l e (RMk 5 116) s m args below meth c H locs 0 0 Q (F0 m 54 ls []) := by
      intro K54 kx54 n
      induction n with
      | zero => intro x54_4 x54_leapsTo x54_leapsThen h; rw [fX4_leaps_L54] at h; cases h
      | succ n ih54 =>
        intro x54_4 x54_leapsTo x54_leapsThen h H locs ls hP hD hS hl
        rw [fX4_leaps_L54] at h
        refine lv_iload hx hb dX4_leaps_54 (lv_at hl 2 rfl) ?_
        refine lv_bipush (v := (40 : Int32)) hx hb dX4_leaps_56 (by decide) ?_
        refine lv_icmp_ge (tgt := 79) hx hb dX4_leaps_58 (by decide) (fun c58 => ?_) (fun c58 => ?_)
        · have h := itT c58 h
          exact kx54 _ _ h _ _ _ hP hD hS (lv_sub hl [0] rfl)
        have h := itF c58 h
        refine lv_aload_n hx hb dX4_leaps_61 rfl (lv_at hl 0 rfl) ?_
        refine lv_iload_n hx hb dX4_leaps_62 rfl (lv_at hl 1 rfl) ?_
        refine lv_aload_n hx hb dX4_leaps_63 rfl (lv_at hl 0 rfl) ?_
        refine va_get (D := (dC, dI)) (ci := 4) (v := .int (R_minute c_r)) (C := RX4) (T := TX4) (N := 28) hx hb hts hiX4 hown hK hP 0 rfl rfl 8 (by decide) hw2 (fun _ h9 => h9) rfl dX4_leaps_64 ?_
        refine lv_iload hx hb dX4_leaps_67 (lv_at hl 2 rfl) ?_
        refine lv_iadd hx hb dX4_leaps_69 ?_
        obtain ⟨q70, e70, h⟩ := bd_some h
        refine g_rvV (wc := (zwM cI cC f c_r c_refused c_tape c_letter c_letterAt c_number c_taped c_at c_statements c_kept c_hasImage c_isKeeping c_cursor c_poled c_barred x54_leapsTo x54_leapsThen c_lands c_row c_rowMany c_endsAt)) (wc' := (zwM cI cC f c_r c_refused c_tape c_letter c_letterAt c_number c_taped c_at c_statements c_kept c_hasImage c_isKeeping c_cursor c_poled c_barred q70.1 q70.2 c_lands c_row c_rowMany c_endsAt)) ⟨hx, hb, hml, hown, hts⟩ hE hK hA hP hD hS [0, 1, 2, 3, 4, 5, 6, 7, 8, 9, 10, 11, 12, 13, 14, 15] rfl rfl rfl (mX4_goesOnLeaping l dC dI cI cC sk f H.size p1 ((R_minute c_r) + x54_4) c_r c_refused c_tape c_letter c_letterAt c_number c_taped c_at c_statements c_kept c_hasImage c_isKeeping c_cursor c_poled c_barred x54_leapsTo x54_leapsThen c_lands c_row c_rowMany c_endsAt q70 e70) (cwV 2 hts gX4_leaps_X4_goesOnLeaping rfl rfl rfl (by decide +kernel) ⟨Nat.le_of_ble_eq_true rfl, Nat.le_of_ble_eq_true rfl⟩) (va_recv hK hP (ci := 4) (q0 := 0) rfl rfl) (As := [.int p1, .int ((R_minute c_r) + x54_4)]) (rest := []) rfl hl.1 rfl (Nat.le_of_ble_eq_true rfl) dX4_leaps_70 ⟨Nat.zero_le _, Nat.zero_le _⟩ (fun H locs hP hD hS => ?_)
        have hP : va_P (dC, dI) vwCl (zwM cI cC f c_r c_refused c_tape c_letter c_letterAt c_number c_taped c_at c_statements c_kept c_hasImage c_isKeeping c_cursor c_poled c_barred q70.1 q70.2 c_lands c_row c_rowMany c_endsAt) H := hP
        have hD : va_D A (zwM cI cC f c_r c_refused c_tape c_letter c_letterAt c_number c_taped c_at c_statements c_kept c_hasImage c_isKeeping c_cursor c_poled c_barred q70.1 q70.2 c_lands c_row c_rowMany c_endsAt) := hD
        refine lv_iinc (v := (x54_4 + (1 : Int32))) (lv' := [(4, .int (x54_4 + (1 : Int32))), (0, .ref (f 0)), (1, .int p1)]) hx hb dX4_leaps_73 hl (k := 2) rfl rfl (by decide) rfl (fun ls hl => ?_)
        refine lv_goto (tgt := 54) hx hb dX4_leaps_76 (by decide) ?_
        exact ih54 _ _ _ h _ _ _ hP hD hS (lv_sub hl [1, 2, 0] rfl)
    refine L54 _ (fun k54_leapsTo k54_leapsThen h H locs ls hP hD hS hl => ?_) _ _ _ _ h _ _ _ hP hD hS (lv_sub hl [1, 2, 0] rfl)
    refine lv_aload_n hx hb dX4_leaps_79 rfl (lv_at hl 0 rfl) ?_
    refine va_get (D := (dC, dI)) (ci := 4) (v := .ref (f 12)) (C := RX4) (T := TX4) (N := 28) hx hb hts hiX4 hown hK hP 0 rfl rfl 22 (by decide) hw1 (fun _ h9 => h9) rfl dX4_leaps_80 ?_
    refine lv_bipush (v := (18 : Int32)) hx hb dX4_leaps_83 (by decide) ?_
    obtain ⟨hin, h⟩ := ck_some h
    refine va_iald hx hb hK hP 12 0 rfl rfl hin dX4_leaps_85 ?_
    subst hQ
    exact retRW (zz := (((k54_leapsTo ((18 : Int32)).toNatClampNeg), c_refused, k54_leapsTo, k54_leapsThen) : Int32 × AR × AR × AR)) (fun z => z.1) (fun z => (zwM cI cC f c_r z.2.1 c_tape c_letter c_letterAt c_number c_taped c_at c_statements c_kept c_hasImage c_isKeeping c_cursor c_poled c_barred z.2.2.1 z.2.2.2 c_lands c_row c_rowMany c_endsAt)) hx hb hr hlocks rfl hS h rfl hP dX4_leaps_86
  have h := itF c7 h
  refine lv_aload_n hx hb dX4_leaps_10 rfl (lv_at hl 1 rfl) ?_
  refine lv_iload_n hx hb dX4_leaps_11 rfl (lv_at hl 0 rfl) ?_
  obtain ⟨q12, e12, h⟩ := bd_some h
  refine g_rwV (wc := (zwM cI cC f c_r c_refused c_tape c_letter c_letterAt c_number c_taped c_at c_statements c_kept c_hasImage c_isKeeping c_cursor c_poled c_barred c_leapsTo c_leapsThen c_lands c_row c_rowMany c_endsAt)) (wc' := (zwM cI cC f c_r q12.2 c_tape c_letter c_letterAt c_number c_taped c_at c_statements c_kept c_hasImage c_isKeeping c_cursor c_poled c_barred c_leapsTo c_leapsThen c_lands c_row c_rowMany c_endsAt)) ⟨hx, hb, hml, hown, hts⟩ hE hK hA hP hD hS [0, 1, 2, 3, 4, 5, 6, 7, 8, 9, 10, 11, 12, 13, 14, 15] rfl rfl rfl (mX4_no l dC dI cI cC sk f H.size q2 c_r c_refused c_tape c_letter c_letterAt c_number c_taped c_at c_statements c_kept c_hasImage c_isKeeping c_cursor c_poled c_barred c_leapsTo c_leapsThen c_lands c_row c_rowMany c_endsAt q12 e12) (cwV 1 hts gX4_leaps_X4_no rfl rfl rfl (by decide +kernel) ⟨Nat.le_of_ble_eq_true rfl, Nat.le_of_ble_eq_true rfl⟩) (va_recv hK hP (ci := 4) (q0 := 0) rfl rfl) (As := [.int q2]) (rest := []) rfl hl.1 rfl (Nat.le_of_ble_eq_true rfl) dX4_leaps_12 ⟨Nat.zero_le _, Nat.zero_le _⟩ (fun H locs hP hD hS => ?_)
  have hP : va_P (dC, dI) vwCl (zwM cI cC f c_r q12.2 c_tape c_letter c_letterAt c_number c_taped c_at c_statements c_kept c_hasImage c_isKeeping c_cursor c_poled c_barred c_leapsTo c_leapsThen c_lands c_row c_rowMany c_endsAt) H := hP
  have hD : va_D A (zwM cI cC f c_r q12.2 c_tape c_letter c_letterAt c_number c_taped c_at c_statements c_kept c_hasImage c_isKeeping c_cursor c_poled c_barred c_leapsTo c_leapsThen c_lands c_row c_rowMany c_endsAt) := hD
  subst hQ
  exact retRW (zz := ((q12.1, q12.2, c_leapsTo, c_leapsThen) : Int32 × AR × AR × AR)) (fun z => z.1) (fun z => (zwM cI cC f c_r z.2.1 c_tape c_letter c_letterAt c_number c_taped c_at c_statements c_kept c_hasImage c_isKeeping c_cursor c_poled c_barred z.2.2.1 z.2.2.2 c_lands c_row c_rowMany c_endsAt)) hx hb hr hlocks rfl hS h rfl hP dX4_leaps_15
theorem dX4_floesOf_0 : decode cX4_floesOf 0 = .ok (.iload_n 0, 1) := by decide +kernel
theorem dX4_floesOf_1 : decode cX4_floesOf 1 = .ok (.bipush 10, 2) := by decide +kernel
theorem dX4_floesOf_3 : decode cX4_floesOf 3 = .ok (.ishr, 1) := by decide +kernel
theorem dX4_floesOf_4 : decode cX4_floesOf 4 = .ok (.sipush 255, 3) := by decide +kernel
theorem dX4_floesOf_7 : decode cX4_floesOf 7 = .ok (.iand, 1) := by decide +kernel
theorem dX4_floesOf_8 : decode cX4_floesOf 8 = .ok (.ireturn, 1) := by decide +kernel
set_option maxHeartbeats 4000000 in
set_option maxRecDepth 100000 in
theorem mX4_floesOf (l : Launch) (dC : Nat → ClassId) (dI : Nat → Nat → Nat) (cI cC : ClassId) (sk : (Nat → Nat) × (Nat → Nat))  (p0 : Int32)  (z : Int32) (h : fX4_floesOf p0 = some z) : cRO l yX4_floesOf wsX4_floesOf (RMk 0 0) sk (dC, dI) (tyz cI cC) ([] : va_W) [.int p0] z := by
  refine ofRO (cc := cX4_floesOf) (maxL := 1) (ret := (some .int)) (own := RX4) (plainFor_of_name (by decide)) rfl rfl (Nat.le_of_ble_eq_true rfl) ?_
  intro p e s m args below meth c hx hb hml hr hts hown hlocks hE hK hP hS ls hl
  generalize hQ : qRO _ _ _ _ = Q
  have hl : lv_has ls 1 [(0, .int p0)] := hl
  rw [fX4_floesOf] at h
  refine lv_iload_n hx hb dX4_floesOf_0 rfl (lv_at hl 0 rfl) ?_
  refine lv_bipush (v := (10 : Int32)) hx hb dX4_floesOf_1 (by decide) ?_
  refine lv_ishr hx hb dX4_floesOf_3 ?_
  refine lv_sipush (v := (255 : Int32)) hx hb dX4_floesOf_4 (by decide) ?_
  refine lv_iand hx hb dX4_floesOf_7 ?_
  subst hQ
  exact retRO hx hb hr hlocks rfl hS h dX4_floesOf_8
theorem dX4_reach_0 : decode cX4_reach 0 = .ok (.iload_n 2, 1) := by decide +kernel
theorem dX4_reach_1 : decode cX4_reach 1 = .ok (.invokestatic 173, 3) := by decide +kernel
theorem dX4_reach_4 : decode cX4_reach 4 = .ok (.ifCond .ne 7, 3) := by decide +kernel
theorem dX4_reach_7 : decode cX4_reach 7 = .ok (.iconst (-1), 1) := by decide +kernel
theorem dX4_reach_8 : decode cX4_reach 8 = .ok (.goto 35, 3) := by decide +kernel
theorem dX4_reach_11 : decode cX4_reach 11 = .ok (.iload_n 1, 1) := by decide +kernel
theorem dX4_reach_12 : decode cX4_reach 12 = .ok (.iconst 1, 1) := by decide +kernel
theorem dX4_reach_13 : decode cX4_reach 13 = .ok (.if_icmp .lt 7, 3) := by decide +kernel
theorem dX4_reach_16 : decode cX4_reach 16 = .ok (.iload_n 3, 1) := by decide +kernel
theorem dX4_reach_17 : decode cX4_reach 17 = .ok (.ifCond .ge 8, 3) := by decide +kernel
theorem dX4_reach_20 : decode cX4_reach 20 = .ok (.bipush (-4), 2) := by decide +kernel
theorem dX4_reach_22 : decode cX4_reach 22 = .ok (.goto 21, 3) := by decide +kernel
theorem dX4_reach_25 : decode cX4_reach 25 = .ok (.iload_n 1, 1) := by decide +kernel
theorem dX4_reach_26 : decode cX4_reach 26 = .ok (.bipush 9, 2) := by decide +kernel
theorem dX4_reach_28 : decode cX4_reach 28 = .ok (.if_icmp .gt 9, 3) := by decide +kernel
theorem dX4_reach_31 : decode cX4_reach 31 = .ok (.iload_n 3, 1) := by decide +kernel
theorem dX4_reach_32 : decode cX4_reach 32 = .ok (.bipush 40, 2) := by decide +kernel
theorem dX4_reach_34 : decode cX4_reach 34 = .ok (.if_icmp .le 8, 3) := by decide +kernel
theorem dX4_reach_37 : decode cX4_reach 37 = .ok (.bipush (-6), 2) := by decide +kernel
theorem dX4_reach_39 : decode cX4_reach 39 = .ok (.goto 4, 3) := by decide +kernel
theorem dX4_reach_42 : decode cX4_reach 42 = .ok (.iconst 0, 1) := by decide +kernel
theorem dX4_reach_43 : decode cX4_reach 43 = .ok (.istore 4, 2) := by decide +kernel
theorem dX4_reach_45 : decode cX4_reach 45 = .ok (.iload 4, 2) := by decide +kernel
theorem dX4_reach_47 : decode cX4_reach 47 = .ok (.ifCond .eq 10, 3) := by decide +kernel
theorem dX4_reach_50 : decode cX4_reach 50 = .ok (.aload_n 0, 1) := by decide +kernel
theorem dX4_reach_51 : decode cX4_reach 51 = .ok (.iload 4, 2) := by decide +kernel
theorem dX4_reach_53 : decode cX4_reach 53 = .ok (.invokevirtual 73, 3) := by decide +kernel
theorem dX4_reach_56 : decode cX4_reach 56 = .ok (.ireturn, 1) := by decide +kernel
theorem dX4_reach_57 : decode cX4_reach 57 = .ok (.iconst 1, 1) := by decide +kernel
theorem dX4_reach_58 : decode cX4_reach 58 = .ok (.iload_n 2, 1) := by decide +kernel
theorem dX4_reach_59 : decode cX4_reach 59 = .ok (.ishl, 1) := by decide +kernel
theorem dX4_reach_60 : decode cX4_reach 60 = .ok (.istore 5, 2) := by decide +kernel
theorem dX4_reach_62 : decode cX4_reach 62 = .ok (.iconst 0, 1) := by decide +kernel
theorem dX4_reach_63 : decode cX4_reach 63 = .ok (.istore 6, 2) := by decide +kernel
theorem dX4_reach_65 : decode cX4_reach 65 = .ok (.iload 6, 2) := by decide +kernel
theorem dX4_reach_67 : decode cX4_reach 67 = .ok (.iload_n 3, 1) := by decide +kernel
theorem dX4_reach_68 : decode cX4_reach 68 = .ok (.if_icmp .ge 25, 3) := by decide +kernel
theorem dX4_reach_71 : decode cX4_reach 71 = .ok (.aload_n 0, 1) := by decide +kernel
theorem dX4_reach_72 : decode cX4_reach 72 = .ok (.iload 5, 2) := by decide +kernel
theorem dX4_reach_74 : decode cX4_reach 74 = .ok (.iload_n 1, 1) := by decide +kernel
theorem dX4_reach_75 : decode cX4_reach 75 = .ok (.aload_n 0, 1) := by decide +kernel
theorem dX4_reach_76 : decode cX4_reach 76 = .ok (.getfield 101, 3) := by decide +kernel
theorem dX4_reach_79 : decode cX4_reach 79 = .ok (.iload 6, 2) := by decide +kernel
theorem dX4_reach_81 : decode cX4_reach 81 = .ok (.iadd, 1) := by decide +kernel
theorem dX4_reach_82 : decode cX4_reach 82 = .ok (.invokevirtual 170, 3) := by decide +kernel
theorem dX4_reach_85 : decode cX4_reach 85 = .ok (.istore 5, 2) := by decide +kernel
theorem dX4_reach_87 : decode cX4_reach 87 = .ok (.iinc 6 1, 3) := by decide +kernel
theorem dX4_reach_90 : decode cX4_reach 90 = .ok (.goto (-25), 3) := by decide +kernel
theorem dX4_reach_93 : decode cX4_reach 93 = .ok (.iload 5, 2) := by decide +kernel
theorem dX4_reach_95 : decode cX4_reach 95 = .ok (.invokestatic 189, 3) := by decide +kernel
theorem dX4_reach_98 : decode cX4_reach 98 = .ok (.iload 5, 2) := by decide +kernel
theorem dX4_reach_100 : decode cX4_reach 100 = .ok (.bipush 18, 2) := by decide +kernel
theorem dX4_reach_102 : decode cX4_reach 102 = .ok (.ishr, 1) := by decide +kernel
theorem dX4_reach_103 : decode cX4_reach 103 = .ok (.iconst 1, 1) := by decide +kernel
theorem dX4_reach_104 : decode cX4_reach 104 = .ok (.iand, 1) := by decide +kernel
theorem dX4_reach_105 : decode cX4_reach 105 = .ok (.sipush 256, 3) := by decide +kernel
theorem dX4_reach_108 : decode cX4_reach 108 = .ok (.imul, 1) := by decide +kernel
theorem dX4_reach_109 : decode cX4_reach 109 = .ok (.iadd, 1) := by decide +kernel
theorem dX4_reach_110 : decode cX4_reach 110 = .ok (.iload 5, 2) := by decide +kernel
theorem dX4_reach_112 : decode cX4_reach 112 = .ok (.sipush 1023, 3) := by decide +kernel
theorem dX4_reach_115 : decode cX4_reach 115 = .ok (.iand, 1) := by decide +kernel
theorem dX4_reach_116 : decode cX4_reach 116 = .ok (.ifCond .eq 9, 3) := by decide +kernel
theorem dX4_reach_119 : decode cX4_reach 119 = .ok (.sipush 512, 3) := by decide +kernel
theorem dX4_reach_122 : decode cX4_reach 122 = .ok (.goto 4, 3) := by decide +kernel
theorem dX4_reach_125 : decode cX4_reach 125 = .ok (.iconst 0, 1) := by decide +kernel
theorem dX4_reach_126 : decode cX4_reach 126 = .ok (.iadd, 1) := by decide +kernel
theorem dX4_reach_127 : decode cX4_reach 127 = .ok (.ireturn, 1) := by decide +kernel
set_option maxRecDepth 20000 in
theorem ggX4_reach_X4_isCell : GoodIn wsX4_reach wsX4_isCell := goodIn_r _ [5, 6, 7, 4, 8] (by decide +kernel) (by decide +kernel)
set_option maxRecDepth 20000 in
theorem gX4_reach_X4_isCell : GoodIn wsX4_reach (va_wsS RX4 173 yX4_isCell wsX4_isCell) := goodIn_app (goodIn_of _ (by decide +kernel)) ggX4_reach_X4_isCell
set_option maxRecDepth 20000 in
theorem ggX4_reach_X4_no : GoodIn wsX4_reach wsX4_no := goodIn_r _ [12, 13, 63, 64, 65, 66, 67, 68, 69, 70, 71, 72, 73, 74, 75, 76, 77, 78, 79, 80, 81, 82, 83, 84, 85, 86, 87, 88, 89, 90] (by decide +kernel) (by decide +kernel)
set_option maxRecDepth 20000 in
theorem gX4_reach_X4_no : GoodIn wsX4_reach (wsV RX4 73 RX4 yX4_no wsX4_no) := goodIn_app (goodIn_of _ (by decide +kernel)) ggX4_reach_X4_no
set_option maxRecDepth 20000 in
theorem ggX4_reach_X4_goesOn : GoodIn wsX4_reach wsX4_goesOn := goodIn_r _ [17, 18, 19, 20, 4, 21, 22, 23, 24, 25, 26, 27, 28, 29, 30, 31, 32, 33, 34, 35, 36, 37, 38, 39, 40, 41, 42, 43, 44, 45, 6, 7, 8, 46, 47, 48, 49, 50, 1, 51, 52, 53, 54, 55, 56, 57, 58, 59, 63, 64, 65, 66, 67, 68, 69, 70, 71, 72, 73, 74, 75, 76, 77, 78, 79, 80, 81, 82, 83, 84, 85, 86, 87, 88, 89, 90] (by decide +kernel) (by decide +kernel)
set_option maxRecDepth 20000 in
theorem gX4_reach_X4_goesOn : GoodIn wsX4_reach (wsV RX4 170 RX4 yX4_goesOn wsX4_goesOn) := goodIn_app (goodIn_of _ (by decide +kernel)) ggX4_reach_X4_goesOn
set_option maxRecDepth 20000 in
theorem ggX4_reach_X4_floesOf : GoodIn wsX4_reach wsX4_floesOf := goodIn_r _ [62] (by decide +kernel) (by decide +kernel)
set_option maxRecDepth 20000 in
theorem gX4_reach_X4_floesOf : GoodIn wsX4_reach (va_wsS RX4 189 yX4_floesOf wsX4_floesOf) := goodIn_app (goodIn_of _ (by decide +kernel)) ggX4_reach_X4_floesOf
set_option maxHeartbeats 4000000 in
set_option maxRecDepth 100000 in
theorem mX4_reach (l : Launch) (dC : Nat → ClassId) (dI : Nat → Nat → Nat) (cI cC : ClassId) (sk : (Nat → Nat) × (Nat → Nat)) (f : Nat → Nat) (sz : Nat) (p1 : Int32) (p2 : Int32) (p3 : Int32) (c_r : RT) (c_refused : AR) (c_tape : AR) (c_letter : AR) (c_letterAt : AR) (c_number : AR) (c_taped : Int32) (c_at : Int32) (c_statements : Int32) (c_kept : AR) (c_hasImage : Int32) (c_isKeeping : Int32) (c_cursor : Int32) (c_poled : Int32) (c_barred : Int32) (c_leapsTo : AR) (c_leapsThen : AR) (c_lands : AR) (c_row : AR) (c_rowMany : Int32) (c_endsAt : Int32) (z : Int32 × AR) (h : fX4_reach p1 p2 p3 c_r c_refused c_poled c_barred = some z) : cRW l yX4_reach wsX4_reach (RMk 5 118) sk (dC, dI) (tyz cI cC) sz (zwM cI cC f c_r c_refused c_tape c_letter c_letterAt c_number c_taped c_at c_statements c_kept c_hasImage c_isKeeping c_cursor c_poled c_barred c_leapsTo c_leapsThen c_lands c_row c_rowMany c_endsAt) (zwM cI cC f c_r z.2 c_tape c_letter c_letterAt c_number c_taped c_at c_statements c_kept c_hasImage c_isKeeping c_cursor c_poled c_barred c_leapsTo c_leapsThen c_lands c_row c_rowMany c_endsAt) [.ref (f 0), .int p1, .int p2, .int p3] z.1 := by
  refine ofRW (cc := cX4_reach) (maxL := 7) (ret := (some .int)) (own := RX4) (plainFor_of_name (by decide)) rfl rfl (Nat.le_of_ble_eq_true rfl) ?_
  intro p e s m args below meth c A hA hx hb hml hr hts hown hlocks hE hK hP hD hS ls hl
  generalize hQ : qRW _ _ _ _ _ _ _ = Q
  have hl : lv_has ls 7 [(0, .ref (f 0)), (1, .int p1), (2, .int p2), (3, .int p3)] := hl
  have hiX4 : ∀ w ∈ wsX40, w ∈ wsX4_reach := fun w h => List.mem_cons_of_mem _ (List.mem_append_right _ h)
  have hw1 := hts (Cond.fieldLink RX4 101 "FloeToFloeModel" "minute" "I") (List.mem_of_getElem? (i := 1) rfl)
  rw [fX4_reach] at h
  refine lv_iload_n hx hb dX4_reach_0 rfl (lv_at hl 2 rfl) ?_
  obtain ⟨q1, e1, h⟩ := bd_some h
  refine g_roS (wc := ([] : va_W)) ⟨hx, hb, hml, hown, hts⟩ hE hK hP hS [] rfl (mX4_isCell l dC dI cI cC sk  p2 q1 e1) (va_cwS 1 hts gX4_reach_X4_isCell rfl rfl rfl (by decide +kernel) ⟨Nat.le_of_ble_eq_true rfl, Nat.le_of_ble_eq_true rfl⟩) (As := [.int p2]) (rest := []) rfl hl.1 rfl (Nat.le_of_ble_eq_true rfl) dX4_reach_1 ⟨Nat.zero_le _, Nat.zero_le _⟩ (fun H locs hP hS => ?_)
  refine jnW (fun (v43 : Int32) => ∀ (H : Heap) (locs : List Loc) (ls : Array Slot), va_P (dC, dI) vwCl (zwM cI cC f c_r c_refused c_tape c_letter c_letterAt c_number c_taped c_at c_statements c_kept c_hasImage c_isKeeping c_cursor c_poled c_barred c_leapsTo c_leapsThen c_lands c_row c_rowMany c_endsAt) H → va_D A (zwM cI cC f c_r c_refused c_tape c_letter c_letterAt c_number c_taped c_at c_statements c_kept c_hasImage c_isKeeping c_cursor c_poled c_barred c_leapsTo c_leapsThen c_lands c_row c_rowMany c_endsAt) → va_S A s.heap H locs → lv_has ls 7 [(0, .ref (f 0)), (1, .int p1), (2, .int p2), (3, .int p3)] → W p l e (RMk 5 118) s m args below meth c H locs 0 0 Q (F0 m 43 ls [.int v43])) h (fun v43 h H locs ls hP hD hS hl => ?_) (fun J43 j43 h => ?_)
  · refine lv_istore (lv' := [(4, .int v43), (0, .ref (f 0)), (1, .int p1), (2, .int p2), (3, .int p3)]) hx hb dX4_reach_43 hl (by decide) rfl (fun ls hl => ?_)
    refine lv_iload hx hb dX4_reach_45 (lv_at hl 0 rfl) ?_
    refine lv_if_eq (tgt := 57) hx hb dX4_reach_47 (by decide) (fun c47 => ?_) (fun c47 => ?_)
    · have h := itT c47 h
      refine lv_iconst (v := (1 : Int32)) hx hb dX4_reach_57 (by decide) ?_
      refine lv_iload_n hx hb dX4_reach_58 rfl (lv_at hl 3 rfl) ?_
      refine lv_ishl hx hb dX4_reach_59 ?_
      refine lv_istore (lv' := [(5, .int ((1 : Int32) <<< (p2 &&& 31))), (4, .int v43), (0, .ref (f 0)), (1, .int p1), (2, .int p2), (3, .int p3)]) hx hb dX4_reach_60 hl (by decide) rfl (fun ls hl => ?_)
      refine lv_iconst (v := (0 : Int32)) hx hb dX4_reach_62 (by decide) ?_
      refine lv_istore (lv' := [(6, .int (0 : Int32)), (5, .int ((1 : Int32) <<< (p2 &&& 31))), (4, .int v43), (0, .ref (f 0)), (1, .int p1), (2, .int p2), (3, .int p3)]) hx hb dX4_reach_63 hl (by decide) rfl (fun ls hl => ?_)
      have L65 : ∀ (K65 : Int32 → Option (Int32 × AR)), (∀ (k65_5 : Int32), K65 k65_5 = some z → ∀ (H : Heap) (locs : List Loc) (ls : Array Slot), va_P (dC, dI) vwCl (zwM cI cC f c_r c_refused c_tape c_letter c_letterAt c_number c_taped c_at c_statements c_kept c_hasImage c_isKeeping c_cursor c_poled c_barred c_leapsTo c_leapsThen c_lands c_row c_rowMany c_endsAt) H → va_D A (zwM cI cC f c_r c_refused c_tape c_letter c_letterAt c_number c_taped c_at c_statements c_kept c_hasImage c_isKeeping c_cursor c_poled c_barred c_leapsTo c_leapsThen c_lands c_row c_rowMany c_endsAt) → va_S A s.heap H locs → lv_has ls 7 [(5, .int k65_5)] → W p l e (RMk 5 118) s m args below meth c H locs 0 0 Q (F0 m 93 ls [])) → ∀ (n : Nat) (x65_5 : Int32) (x65_6 : Int32), fX4_reach_L65 c_barred c_poled c_r p1 p3 K65 n x65_5 x65_6 = some z → ∀ (H : Heap) (locs : List Loc) (ls : Array Slot), va_P (dC, dI) vwCl (zwM cI cC f c_r c_refused c_tape c_letter c_letterAt c_number c_taped c_at c_statements c_kept c_hasImage c_isKeeping c_cursor c_poled c_barred c_leapsTo c_leapsThen c_lands c_row c_rowMany c_endsAt) H → va_D A (zwM cI cC f c_r c_refused c_tape c_letter c_letterAt c_number c_taped c_at c_statements c_kept c_hasImage c_isKeeping c_cursor c_poled c_barred c_leapsTo c_leapsThen c_lands c_row c_rowMany c_endsAt) → va_S A s.heap H locs → lv_has ls 7 [(0, .ref (f 0)), (1, .int p1), (3, .int p3), (5, .int x65_5), (6, .int x65_6)] → W p l e (RMk 5 118) s m args below meth c H locs 0 0 Q (F0 m 65 ls []) := by
        intro K65 kx65 n
        induction n with
        | zero => intro x65_5 x65_6 h; rw [fX4_reach_L65] at h; cases h
        | succ n ih65 =>
          intro x65_5 x65_6 h H locs ls hP hD hS hl
          rw [fX4_reach_L65] at h
          refine lv_iload hx hb dX4_reach_65 (lv_at hl 4 rfl) ?_
          refine lv_iload_n hx hb dX4_reach_67 rfl (lv_at hl 2 rfl) ?_
          refine lv_icmp_ge (tgt := 93) hx hb dX4_reach_68 (by decide) (fun c68 => ?_) (fun c68 => ?_)
          · have h := itT c68 h
            exact kx65 _ h _ _ _ hP hD hS (lv_sub hl [3] rfl)
          have h := itF c68 h
          refine lv_aload_n hx hb dX4_reach_71 rfl (lv_at hl 0 rfl) ?_
          refine lv_iload hx hb dX4_reach_72 (lv_at hl 3 rfl) ?_
          refine lv_iload_n hx hb dX4_reach_74 rfl (lv_at hl 1 rfl) ?_
          refine lv_aload_n hx hb dX4_reach_75 rfl (lv_at hl 0 rfl) ?_
          refine va_get (D := (dC, dI)) (ci := 4) (v := .int (R_minute c_r)) (C := RX4) (T := TX4) (N := 28) hx hb hts hiX4 hown hK hP 0 rfl rfl 8 (by decide) hw1 (fun _ h9 => h9) rfl dX4_reach_76 ?_
          refine lv_iload hx hb dX4_reach_79 (lv_at hl 4 rfl) ?_
          refine lv_iadd hx hb dX4_reach_81 ?_
          obtain ⟨q82, e82, h⟩ := bd_some h
          refine g_roV (wc := (zwM cI cC f c_r c_refused c_tape c_letter c_letterAt c_number c_taped c_at c_statements c_kept c_hasImage c_isKeeping c_cursor c_poled c_barred c_leapsTo c_leapsThen c_lands c_row c_rowMany c_endsAt)) ⟨hx, hb, hml, hown, hts⟩ hE hK hP hS [0, 1, 2, 3, 4, 5, 6, 7, 8, 9, 10, 11, 12, 13, 14, 15] rfl (mX4_goesOn l dC dI cI cC sk f x65_5 p1 ((R_minute c_r) + x65_6) c_r c_refused c_tape c_letter c_letterAt c_number c_taped c_at c_statements c_kept c_hasImage c_isKeeping c_cursor c_poled c_barred c_leapsTo c_leapsThen c_lands c_row c_rowMany c_endsAt q82 e82) (cwV 3 hts gX4_reach_X4_goesOn rfl rfl rfl (by decide +kernel) ⟨Nat.le_of_ble_eq_true rfl, Nat.le_of_ble_eq_true rfl⟩) (va_recv hK hP (ci := 4) (q0 := 0) rfl rfl) (As := [.int x65_5, .int p1, .int ((R_minute c_r) + x65_6)]) (rest := []) rfl hl.1 rfl (Nat.le_of_ble_eq_true rfl) dX4_reach_82 ⟨Nat.zero_le _, Nat.zero_le _⟩ (fun H locs hP hS => ?_)
          refine lv_istore (lv' := [(5, .int q82), (0, .ref (f 0)), (1, .int p1), (3, .int p3), (6, .int x65_6)]) hx hb dX4_reach_85 hl (by decide) rfl (fun ls hl => ?_)
          refine lv_iinc (v := (x65_6 + (1 : Int32))) (lv' := [(6, .int (x65_6 + (1 : Int32))), (5, .int q82), (0, .ref (f 0)), (1, .int p1), (3, .int p3)]) hx hb dX4_reach_87 hl (k := 4) rfl rfl (by decide) rfl (fun ls hl => ?_)
          refine lv_goto (tgt := 65) hx hb dX4_reach_90 (by decide) ?_
          exact ih65 _ _ h _ _ _ hP hD hS (lv_sub hl [2, 3, 4, 1, 0] rfl)
      refine L65 _ (fun k65_5 h H locs ls hP hD hS hl => ?_) _ _ _ h _ _ _ hP hD hS (lv_sub hl [3, 4, 6, 1, 0] rfl)
      refine lv_iload hx hb dX4_reach_93 (lv_at hl 0 rfl) ?_
      obtain ⟨q95, e95, h⟩ := bd_some h
      refine g_roS (wc := ([] : va_W)) ⟨hx, hb, hml, hown, hts⟩ hE hK hP hS [] rfl (mX4_floesOf l dC dI cI cC sk  k65_5 q95 e95) (va_cwS 1 hts gX4_reach_X4_floesOf rfl rfl rfl (by decide +kernel) ⟨Nat.le_of_ble_eq_true rfl, Nat.le_of_ble_eq_true rfl⟩) (As := [.int k65_5]) (rest := []) rfl hl.1 rfl (Nat.le_of_ble_eq_true rfl) dX4_reach_95 ⟨Nat.zero_le _, Nat.zero_le _⟩ (fun H locs hP hS => ?_)
      refine lv_iload hx hb dX4_reach_98 (lv_at hl 0 rfl) ?_
      refine lv_bipush (v := (18 : Int32)) hx hb dX4_reach_100 (by decide) ?_
      refine lv_ishr hx hb dX4_reach_102 ?_
      refine lv_iconst (v := (1 : Int32)) hx hb dX4_reach_103 (by decide) ?_
      refine lv_iand hx hb dX4_reach_104 ?_
      refine lv_sipush (v := (256 : Int32)) hx hb dX4_reach_105 (by decide) ?_
      refine lv_imul hx hb dX4_reach_108 ?_
      refine lv_iadd hx hb dX4_reach_109 ?_
      refine lv_iload hx hb dX4_reach_110 (lv_at hl 0 rfl) ?_
      refine lv_sipush (v := (1023 : Int32)) hx hb dX4_reach_112 (by decide) ?_
      refine lv_iand hx hb dX4_reach_115 ?_
      refine lv_if_eq (tgt := 125) hx hb dX4_reach_116 (by decide) (fun c116 => ?_) (fun c116 => ?_)
      · have h := itT c116 h
        refine lv_iconst (v := (0 : Int32)) hx hb dX4_reach_125 (by decide) ?_
        refine lv_iadd hx hb dX4_reach_126 ?_
        subst hQ
        exact retRW (zz := ((((q95 + (((k65_5 >>> ((18 : Int32) &&& 31)) &&& (1 : Int32)) * (256 : Int32))) + (0 : Int32)), c_refused) : Int32 × AR)) (fun z => z.1) (fun z => (zwM cI cC f c_r z.2 c_tape c_letter c_letterAt c_number c_taped c_at c_statements c_kept c_hasImage c_isKeeping c_cursor c_poled c_barred c_leapsTo c_leapsThen c_lands c_row c_rowMany c_endsAt)) hx hb hr hlocks rfl hS h rfl hP dX4_reach_127
      have h := itF c116 h
      refine lv_sipush (v := (512 : Int32)) hx hb dX4_reach_119 (by decide) ?_
      refine lv_goto (tgt := 126) hx hb dX4_reach_122 (by decide) ?_
      refine lv_iadd hx hb dX4_reach_126 ?_
      subst hQ
      exact retRW (zz := ((((q95 + (((k65_5 >>> ((18 : Int32) &&& 31)) &&& (1 : Int32)) * (256 : Int32))) + (512 : Int32)), c_refused) : Int32 × AR)) (fun z => z.1) (fun z => (zwM cI cC f c_r z.2 c_tape c_letter c_letterAt c_number c_taped c_at c_statements c_kept c_hasImage c_isKeeping c_cursor c_poled c_barred c_leapsTo c_leapsThen c_lands c_row c_rowMany c_endsAt)) hx hb hr hlocks rfl hS h rfl hP dX4_reach_127
    have h := itF c47 h
    refine lv_aload_n hx hb dX4_reach_50 rfl (lv_at hl 1 rfl) ?_
    refine lv_iload hx hb dX4_reach_51 (lv_at hl 0 rfl) ?_
    obtain ⟨q53, e53, h⟩ := bd_some h
    refine g_rwV (wc := (zwM cI cC f c_r c_refused c_tape c_letter c_letterAt c_number c_taped c_at c_statements c_kept c_hasImage c_isKeeping c_cursor c_poled c_barred c_leapsTo c_leapsThen c_lands c_row c_rowMany c_endsAt)) (wc' := (zwM cI cC f c_r q53.2 c_tape c_letter c_letterAt c_number c_taped c_at c_statements c_kept c_hasImage c_isKeeping c_cursor c_poled c_barred c_leapsTo c_leapsThen c_lands c_row c_rowMany c_endsAt)) ⟨hx, hb, hml, hown, hts⟩ hE hK hA hP hD hS [0, 1, 2, 3, 4, 5, 6, 7, 8, 9, 10, 11, 12, 13, 14, 15] rfl rfl rfl (mX4_no l dC dI cI cC sk f H.size v43 c_r c_refused c_tape c_letter c_letterAt c_number c_taped c_at c_statements c_kept c_hasImage c_isKeeping c_cursor c_poled c_barred c_leapsTo c_leapsThen c_lands c_row c_rowMany c_endsAt q53 e53) (cwV 1 hts gX4_reach_X4_no rfl rfl rfl (by decide +kernel) ⟨Nat.le_of_ble_eq_true rfl, Nat.le_of_ble_eq_true rfl⟩) (va_recv hK hP (ci := 4) (q0 := 0) rfl rfl) (As := [.int v43]) (rest := []) rfl hl.1 rfl (Nat.le_of_ble_eq_true rfl) dX4_reach_53 ⟨Nat.zero_le _, Nat.zero_le _⟩ (fun H locs hP hD hS => ?_)
    have hP : va_P (dC, dI) vwCl (zwM cI cC f c_r q53.2 c_tape c_letter c_letterAt c_number c_taped c_at c_statements c_kept c_hasImage c_isKeeping c_cursor c_poled c_barred c_leapsTo c_leapsThen c_lands c_row c_rowMany c_endsAt) H := hP
    have hD : va_D A (zwM cI cC f c_r q53.2 c_tape c_letter c_letterAt c_number c_taped c_at c_statements c_kept c_hasImage c_isKeeping c_cursor c_poled c_barred c_leapsTo c_leapsThen c_lands c_row c_rowMany c_endsAt) := hD
    subst hQ
    exact retRW (zz := ((q53.1, q53.2) : Int32 × AR)) (fun z => z.1) (fun z => (zwM cI cC f c_r z.2 c_tape c_letter c_letterAt c_number c_taped c_at c_statements c_kept c_hasImage c_isKeeping c_cursor c_poled c_barred c_leapsTo c_leapsThen c_lands c_row c_rowMany c_endsAt)) hx hb hr hlocks rfl hS h rfl hP dX4_reach_56
  refine lv_if_ne (tgt := 11) hx hb dX4_reach_4 (by decide) (fun c4 => ?_) (fun c4 => ?_)
  · have h := itF c4 h
    refine lv_iload_n hx hb dX4_reach_11 rfl (lv_at hl 1 rfl) ?_
    refine lv_iconst (v := (1 : Int32)) hx hb dX4_reach_12 (by decide) ?_
    refine lv_icmp_lt (tgt := 20) hx hb dX4_reach_13 (by decide) (fun c13 => ?_) (fun c13 => ?_)
    · have h := itT c13 h
      refine lv_bipush (v := (-4 : Int32)) hx hb dX4_reach_20 (by decide) ?_
      refine lv_goto (tgt := 43) hx hb dX4_reach_22 (by decide) ?_
      exact j43 _ h _ _ _ hP hD hS (lv_sub hl [0, 1, 2, 3] rfl)
    have h := itF c13 h
    refine lv_iload_n hx hb dX4_reach_16 rfl (lv_at hl 3 rfl) ?_
    refine lv_if_ge (tgt := 25) hx hb dX4_reach_17 (by decide) (fun c17 => ?_) (fun c17 => ?_)
    · have h := itT c17 h
      refine lv_iload_n hx hb dX4_reach_25 rfl (lv_at hl 1 rfl) ?_
      refine lv_bipush (v := (9 : Int32)) hx hb dX4_reach_26 (by decide) ?_
      refine lv_icmp_gt (tgt := 37) hx hb dX4_reach_28 (by decide) (fun c28 => ?_) (fun c28 => ?_)
      · have h := itT c28 h
        refine lv_bipush (v := (-6 : Int32)) hx hb dX4_reach_37 (by decide) ?_
        refine lv_goto (tgt := 43) hx hb dX4_reach_39 (by decide) ?_
        exact j43 _ h _ _ _ hP hD hS (lv_sub hl [0, 1, 2, 3] rfl)
      have h := itF c28 h
      refine lv_iload_n hx hb dX4_reach_31 rfl (lv_at hl 3 rfl) ?_
      refine lv_bipush (v := (40 : Int32)) hx hb dX4_reach_32 (by decide) ?_
      refine lv_icmp_le (tgt := 42) hx hb dX4_reach_34 (by decide) (fun c34 => ?_) (fun c34 => ?_)
      · have h := itT c34 h
        refine lv_iconst (v := (0 : Int32)) hx hb dX4_reach_42 (by decide) ?_
        exact j43 _ h _ _ _ hP hD hS (lv_sub hl [0, 1, 2, 3] rfl)
      have h := itF c34 h
      refine lv_bipush (v := (-6 : Int32)) hx hb dX4_reach_37 (by decide) ?_
      refine lv_goto (tgt := 43) hx hb dX4_reach_39 (by decide) ?_
      exact j43 _ h _ _ _ hP hD hS (lv_sub hl [0, 1, 2, 3] rfl)
    have h := itF c17 h
    refine lv_bipush (v := (-4 : Int32)) hx hb dX4_reach_20 (by decide) ?_
    refine lv_goto (tgt := 43) hx hb dX4_reach_22 (by decide) ?_
    exact j43 _ h _ _ _ hP hD hS (lv_sub hl [0, 1, 2, 3] rfl)
  have h := itT c4 h
  refine lv_iconst (v := (-1 : Int32)) hx hb dX4_reach_7 (by decide) ?_
  refine lv_goto (tgt := 43) hx hb dX4_reach_8 (by decide) ?_
  exact j43 _ h _ _ _ hP hD hS (lv_sub hl [0, 1, 2, 3] rfl)
