theorem dX4_river_0 : decode cX4_river 0 = .ok (.aload_n 0, 1) := by decide +kernel
theorem dX4_river_1 : decode cX4_river 1 = .ok (.iconst 0, 1) := by decide +kernel
theorem dX4_river_2 : decode cX4_river 2 = .ok (.putfield 77, 3) := by decide +kernel
theorem dX4_river_5 : decode cX4_river 5 = .ok (.aload_n 0, 1) := by decide +kernel
theorem dX4_river_6 : decode cX4_river 6 = .ok (.iconst 0, 1) := by decide +kernel
theorem dX4_river_7 : decode cX4_river 7 = .ok (.putfield 91, 3) := by decide +kernel
theorem dX4_river_10 : decode cX4_river 10 = .ok (.iconst 1, 1) := by decide +kernel
theorem dX4_river_11 : decode cX4_river 11 = .ok (.istore_n 1, 1) := by decide +kernel
theorem dX4_river_12 : decode cX4_river 12 = .ok (.iload_n 1, 1) := by decide +kernel
theorem dX4_river_13 : decode cX4_river 13 = .ok (.ifCond .eq 47, 3) := by decide +kernel
theorem dX4_river_16 : decode cX4_river 16 = .ok (.aload_n 0, 1) := by decide +kernel
theorem dX4_river_17 : decode cX4_river 17 = .ok (.getfield 77, 3) := by decide +kernel
theorem dX4_river_20 : decode cX4_river 20 = .ok (.aload_n 0, 1) := by decide +kernel
theorem dX4_river_21 : decode cX4_river 21 = .ok (.getfield 70, 3) := by decide +kernel
theorem dX4_river_24 : decode cX4_river 24 = .ok (.if_icmp .lt 10, 3) := by decide +kernel
theorem dX4_river_27 : decode cX4_river 27 = .ok (.aload_n 0, 1) := by decide +kernel
theorem dX4_river_28 : decode cX4_river 28 = .ok (.getfield 91, 3) := by decide +kernel
theorem dX4_river_31 : decode cX4_river 31 = .ok (.ifCond .ne 29, 3) := by decide +kernel
theorem dX4_river_34 : decode cX4_river 34 = .ok (.aload_n 0, 1) := by decide +kernel
theorem dX4_river_35 : decode cX4_river 35 = .ok (.invokevirtual 104, 3) := by decide +kernel
theorem dX4_river_38 : decode cX4_river 38 = .ok (.istore_n 1, 1) := by decide +kernel
theorem dX4_river_39 : decode cX4_river 39 = .ok (.aload_n 0, 1) := by decide +kernel
theorem dX4_river_40 : decode cX4_river 40 = .ok (.dup, 1) := by decide +kernel
theorem dX4_river_41 : decode cX4_river 41 = .ok (.getfield 91, 3) := by decide +kernel
theorem dX4_river_44 : decode cX4_river 44 = .ok (.iload_n 1, 1) := by decide +kernel
theorem dX4_river_45 : decode cX4_river 45 = .ok (.ifCond .eq 7, 3) := by decide +kernel
theorem dX4_river_48 : decode cX4_river 48 = .ok (.iconst 1, 1) := by decide +kernel
theorem dX4_river_49 : decode cX4_river 49 = .ok (.goto 4, 3) := by decide +kernel
theorem dX4_river_52 : decode cX4_river 52 = .ok (.iconst 0, 1) := by decide +kernel
theorem dX4_river_53 : decode cX4_river 53 = .ok (.iadd, 1) := by decide +kernel
theorem dX4_river_54 : decode cX4_river 54 = .ok (.putfield 91, 3) := by decide +kernel
theorem dX4_river_57 : decode cX4_river 57 = .ok (.goto (-45), 3) := by decide +kernel
theorem dX4_river_60 : decode cX4_river 60 = .ok (.aload_n 0, 1) := by decide +kernel
theorem dX4_river_61 : decode cX4_river 61 = .ok (.iconst 0, 1) := by decide +kernel
theorem dX4_river_62 : decode cX4_river 62 = .ok (.putfield 70, 3) := by decide +kernel
theorem dX4_river_65 : decode cX4_river 65 = .ok (.iload_n 1, 1) := by decide +kernel
theorem dX4_river_66 : decode cX4_river 66 = .ok (.ifCond .ne 12, 3) := by decide +kernel
theorem dX4_river_69 : decode cX4_river 69 = .ok (.sipush (-1000), 3) := by decide +kernel
theorem dX4_river_72 : decode cX4_river 72 = .ok (.aload_n 0, 1) := by decide +kernel
theorem dX4_river_73 : decode cX4_river 73 = .ok (.getfield 77, 3) := by decide +kernel
theorem dX4_river_76 : decode cX4_river 76 = .ok (.isub, 1) := by decide +kernel
theorem dX4_river_77 : decode cX4_river 77 = .ok (.ireturn, 1) := by decide +kernel
theorem dX4_river_78 : decode cX4_river 78 = .ok (.aload_n 0, 1) := by decide +kernel
theorem dX4_river_79 : decode cX4_river 79 = .ok (.iconst 1, 1) := by decide +kernel
theorem dX4_river_80 : decode cX4_river 80 = .ok (.iconst 1, 1) := by decide +kernel
theorem dX4_river_81 : decode cX4_river 81 = .ok (.invokevirtual 108, 3) := by decide +kernel
theorem dX4_river_84 : decode cX4_river 84 = .ok (.iconst 0, 1) := by decide +kernel
theorem dX4_river_85 : decode cX4_river 85 = .ok (.istore_n 2, 1) := by decide +kernel
theorem dX4_river_86 : decode cX4_river 86 = .ok (.iload_n 2, 1) := by decide +kernel
theorem dX4_river_87 : decode cX4_river 87 = .ok (.aload_n 0, 1) := by decide +kernel
theorem dX4_river_88 : decode cX4_river 88 = .ok (.getfield 91, 3) := by decide +kernel
theorem dX4_river_91 : decode cX4_river 91 = .ok (.if_icmp .ge 37, 3) := by decide +kernel
theorem dX4_river_94 : decode cX4_river 94 = .ok (.aload_n 0, 1) := by decide +kernel
theorem dX4_river_95 : decode cX4_river 95 = .ok (.iload_n 2, 1) := by decide +kernel
theorem dX4_river_96 : decode cX4_river 96 = .ok (.invokevirtual 112, 3) := by decide +kernel
theorem dX4_river_99 : decode cX4_river 99 = .ok (.ifCond .eq 6, 3) := by decide +kernel
theorem dX4_river_102 : decode cX4_river 102 = .ok (.goto 20, 3) := by decide +kernel
theorem dX4_river_105 : decode cX4_river 105 = .ok (.aload_n 0, 1) := by decide +kernel
theorem dX4_river_106 : decode cX4_river 106 = .ok (.iconst 1, 1) := by decide +kernel
theorem dX4_river_107 : decode cX4_river 107 = .ok (.iconst 0, 1) := by decide +kernel
theorem dX4_river_108 : decode cX4_river 108 = .ok (.invokevirtual 108, 3) := by decide +kernel
theorem dX4_river_111 : decode cX4_river 111 = .ok (.sipush (-2000), 3) := by decide +kernel
theorem dX4_river_114 : decode cX4_river 114 = .ok (.aload_n 0, 1) := by decide +kernel
theorem dX4_river_115 : decode cX4_river 115 = .ok (.getfield 38, 3) := by decide +kernel
theorem dX4_river_118 : decode cX4_river 118 = .ok (.iload_n 2, 1) := by decide +kernel
theorem dX4_river_119 : decode cX4_river 119 = .ok (.iaload, 1) := by decide +kernel
theorem dX4_river_120 : decode cX4_river 120 = .ok (.isub, 1) := by decide +kernel
theorem dX4_river_121 : decode cX4_river 121 = .ok (.ireturn, 1) := by decide +kernel
theorem dX4_river_122 : decode cX4_river 122 = .ok (.iinc 2 1, 3) := by decide +kernel
theorem dX4_river_125 : decode cX4_river 125 = .ok (.goto (-39), 3) := by decide +kernel
theorem dX4_river_128 : decode cX4_river 128 = .ok (.aload_n 0, 1) := by decide +kernel
theorem dX4_river_129 : decode cX4_river 129 = .ok (.getfield 91, 3) := by decide +kernel
theorem dX4_river_132 : decode cX4_river 132 = .ok (.ireturn, 1) := by decide +kernel
set_option maxRecDepth 20000 in
theorem ggX4_river_X4_statement : GoodIn wsX4_river wsX4_statement := goodIn_r _ [9, 10, 2, 4, 1, 11, 12, 13, 8, 14, 3, 15, 16, 17, 18, 19, 20, 21, 22, 23, 24, 25, 26, 27, 28, 29, 30, 62, 63, 64, 65, 66, 67, 68, 69, 70, 71, 72, 73, 74, 75, 76, 77, 78, 79, 80, 81, 82, 83, 84, 85, 86, 87, 88, 89] (by decide +kernel) (by decide +kernel)
set_option maxRecDepth 20000 in
theorem gX4_river_X4_statement : GoodIn wsX4_river (wsV RX4 104 RX4 yX4_statement wsX4_statement) := goodIn_app (goodIn_of _ (by decide +kernel)) ggX4_river_X4_statement
set_option maxRecDepth 20000 in
theorem ggX4_river_X4_passesAll : GoodIn wsX4_river wsX4_passesAll := goodIn_r _ [34, 35, 36, 37, 38, 39, 40, 41, 42, 43, 44, 45, 46, 47, 8, 48, 49, 50, 51, 52, 53, 62, 63, 64, 65, 66, 67, 68, 69, 70, 71, 72, 73, 74, 75, 76, 77, 78, 79, 80, 81, 82, 83, 84, 85, 86, 87, 88, 89] (by decide +kernel) (by decide +kernel)
set_option maxRecDepth 20000 in
theorem gX4_river_X4_passesAll : GoodIn wsX4_river (wsV RX4 108 RX4 yX4_passesAll wsX4_passesAll) := goodIn_app (goodIn_of _ (by decide +kernel)) ggX4_river_X4_passesAll
set_option maxRecDepth 20000 in
theorem ggX4_river_X4_comes : GoodIn wsX4_river wsX4_comes := goodIn_r _ [57, 10, 20, 44, 43, 42, 38, 58, 59, 60, 8, 61, 37, 39, 40, 41, 28, 29, 30, 62, 63, 64, 65, 66, 67, 68, 69, 70, 71, 72, 73, 74, 75, 76, 77, 78, 79, 80, 81, 82, 83, 84, 85, 86, 87, 88, 89] (by decide +kernel) (by decide +kernel)
set_option maxRecDepth 20000 in
theorem gX4_river_X4_comes : GoodIn wsX4_river (wsV RX4 112 RX4 yX4_comes wsX4_comes) := goodIn_app (goodIn_of _ (by decide +kernel)) ggX4_river_X4_comes
set_option maxHeartbeats 4000000 in
set_option maxRecDepth 100000 in
theorem mX4_river (l : Launch) (dC : Nat → ClassId) (dI : Nat → Nat → Nat) (cI cC : ClassId) (sk : (Nat → Nat) × (Nat → Nat)) (f : Nat → Nat) (sz : Nat)  (c_r : RT) (c_refused : AR) (c_tape : AR) (c_letter : AR) (c_letterAt : AR) (c_number : AR) (c_taped : Int32) (c_at : Int32) (c_statements : Int32) (c_kept : AR) (c_hasImage : Int32) (c_isKeeping : Int32) (c_cursor : Int32) (c_poled : Int32) (c_barred : Int32) (c_leapsTo : AR) (c_leapsThen : AR) (c_lands : AR) (c_row : AR) (c_rowMany : Int32) (c_endsAt : Int32) (z : Int32 × RT × AR × AR × AR × Int32 × Int32 × Int32 × AR × Int32 × Int32) (h : fX4_river c_r c_tape c_letter c_letterAt c_number c_taped c_kept c_isKeeping c_cursor = some z) : cRW l yX4_river wsX4_river (RMk 4 90) sk (dC, dI) (tyz cI cC) sz (zwM cI cC f c_r c_refused c_tape c_letter c_letterAt c_number c_taped c_at c_statements c_kept c_hasImage c_isKeeping c_cursor c_poled c_barred c_leapsTo c_leapsThen c_lands c_row c_rowMany c_endsAt) (zwM cI cC f z.2.1 c_refused c_tape z.2.2.1 z.2.2.2.1 z.2.2.2.2.1 z.2.2.2.2.2.1 z.2.2.2.2.2.2.1 z.2.2.2.2.2.2.2.1 z.2.2.2.2.2.2.2.2.1 c_hasImage z.2.2.2.2.2.2.2.2.2.1 z.2.2.2.2.2.2.2.2.2.2 c_poled c_barred c_leapsTo c_leapsThen c_lands c_row c_rowMany c_endsAt) [.ref (f 0)] z.1 := by
  refine ofRW (cc := cX4_river) (maxL := 3) (ret := (some .int)) (own := RX4) (plainFor_of_name (by decide)) rfl rfl (Nat.le_of_ble_eq_true rfl) ?_
  intro p e s m args below meth c A hA hx hb hml hr hts hown hlocks hE hK hP hD hS ls hl
  generalize hQ : qRW _ _ _ _ _ _ _ = Q
  have hl : lv_has ls 3 [(0, .ref (f 0))] := hl
  have hiX4 : ∀ w ∈ wsX40, w ∈ wsX4_river := fun w h => List.mem_cons_of_mem _ (List.mem_append_right _ h)
  have hw1 := hts (Cond.fieldLink RX4 77 "FloeToFloeModel" "at" "I") (List.mem_of_getElem? (i := 1) rfl)
  have hw2 := hts (Cond.fieldLink RX4 91 "FloeToFloeModel" "statements" "I") (List.mem_of_getElem? (i := 2) rfl)
  have hw3 := hts (Cond.fieldLink RX4 70 "FloeToFloeModel" "taped" "I") (List.mem_of_getElem? (i := 3) rfl)
  have hw4 := hts (Cond.fieldLink RX4 38 "FloeToFloeModel" "letterAt" "[I") (List.mem_of_getElem? (i := 4) rfl)
  rw [fX4_river] at h
  refine lv_aload_n hx hb dX4_river_0 rfl (lv_at hl 0 rfl) ?_
  refine lv_iconst (v := (0 : Int32)) hx hb dX4_river_1 (by decide) ?_
  refine va_put (D := (dC, dI)) (ci := 4) (v := .int (0 : Int32)) (ty := .int) (C := RX4) (T := TX4) (N := 28) hx hb hts hiX4 tyX4 tyX4_ok nmX4 hown hK hP hD hS 0 rfl rfl 14 (by decide) hw1 (fun _ h9 => h9) rfl (by decide +kernel) rfl rfl (Nat.le_of_ble_eq_true rfl) dX4_river_2 (fun H locs hP hD hS => ?_)
  have hP : va_P (dC, dI) vwCl (zwM cI cC f c_r c_refused c_tape c_letter c_letterAt c_number c_taped (0 : Int32) c_statements c_kept c_hasImage c_isKeeping c_cursor c_poled c_barred c_leapsTo c_leapsThen c_lands c_row c_rowMany c_endsAt) H := hP
  have hD : va_D A (zwM cI cC f c_r c_refused c_tape c_letter c_letterAt c_number c_taped (0 : Int32) c_statements c_kept c_hasImage c_isKeeping c_cursor c_poled c_barred c_leapsTo c_leapsThen c_lands c_row c_rowMany c_endsAt) := hD
  refine lv_aload_n hx hb dX4_river_5 rfl (lv_at hl 0 rfl) ?_
  refine lv_iconst (v := (0 : Int32)) hx hb dX4_river_6 (by decide) ?_
  refine va_put (D := (dC, dI)) (ci := 4) (v := .int (0 : Int32)) (ty := .int) (C := RX4) (T := TX4) (N := 28) hx hb hts hiX4 tyX4 tyX4_ok nmX4 hown hK hP hD hS 0 rfl rfl 15 (by decide) hw2 (fun _ h9 => h9) rfl (by decide +kernel) rfl rfl (Nat.le_of_ble_eq_true rfl) dX4_river_7 (fun H locs hP hD hS => ?_)
  have hP : va_P (dC, dI) vwCl (zwM cI cC f c_r c_refused c_tape c_letter c_letterAt c_number c_taped (0 : Int32) (0 : Int32) c_kept c_hasImage c_isKeeping c_cursor c_poled c_barred c_leapsTo c_leapsThen c_lands c_row c_rowMany c_endsAt) H := hP
  have hD : va_D A (zwM cI cC f c_r c_refused c_tape c_letter c_letterAt c_number c_taped (0 : Int32) (0 : Int32) c_kept c_hasImage c_isKeeping c_cursor c_poled c_barred c_leapsTo c_leapsThen c_lands c_row c_rowMany c_endsAt) := hD
  refine lv_iconst (v := (1 : Int32)) hx hb dX4_river_10 (by decide) ?_
  refine lv_istore_n (lv' := [(1, .int (1 : Int32)), (0, .ref (f 0))]) hx hb dX4_river_11 rfl hl (by decide) rfl (fun ls hl => ?_)
  have L12 : ∀ (K12 : Int32 → AR → AR → AR → Int32 → Int32 → Option (Int32 × RT × AR × AR × AR × Int32 × Int32 × Int32 × AR × Int32 × Int32)), (∀ (k12_1 : Int32) (k12_letter : AR) (k12_letterAt : AR) (k12_number : AR) (k12_at : Int32) (k12_statements : Int32), K12 k12_1 k12_letter k12_letterAt k12_number k12_at k12_statements = some z → ∀ (H : Heap) (locs : List Loc) (ls : Array Slot), va_P (dC, dI) vwCl (zwM cI cC f c_r c_refused c_tape k12_letter k12_letterAt k12_number c_taped k12_at k12_statements c_kept c_hasImage c_isKeeping c_cursor c_poled c_barred c_leapsTo c_leapsThen c_lands c_row c_rowMany c_endsAt) H → va_D A (zwM cI cC f c_r c_refused c_tape k12_letter k12_letterAt k12_number c_taped k12_at k12_statements c_kept c_hasImage c_isKeeping c_cursor c_poled c_barred c_leapsTo c_leapsThen c_lands c_row c_rowMany c_endsAt) → va_S A s.heap H locs → lv_has ls 3 [(0, .ref (f 0)), (1, .int k12_1)] → W p l e (RMk 4 90) s m args below meth c H locs 0 0 Q (F0 m 60 ls [])) → ∀ (n : Nat) (x12_1 : Int32) (x12_letter : AR) (x12_letterAt : AR) (x12_number : AR) (x12_at : Int32) (x12_statements : Int32), fX4_river_L12 c_tape c_taped K12 n x12_1 x12_letter x12_letterAt x12_number x12_at x12_statements = some z → ∀ (H : Heap) (locs : List Loc) (ls : Array Slot), va_P (dC, dI) vwCl (zwM cI cC f c_r c_refused c_tape x12_letter x12_letterAt x12_number c_taped x12_at x12_statements c_kept c_hasImage c_isKeeping c_cursor c_poled c_barred c_leapsTo c_leapsThen c_lands c_row c_rowMany c_endsAt) H → va_D A (zwM cI cC f c_r c_refused c_tape x12_letter x12_letterAt x12_number c_taped x12_at x12_statements c_kept c_hasImage c_isKeeping c_cursor c_poled c_barred c_leapsTo c_leapsThen c_lands c_row c_rowMany c_endsAt) → va_S A s.heap H locs → lv_has ls 3 [(0, .ref (f 0)), (1, .int x12_1)] → W p l e (RMk 4 90) s m args below meth c H locs 0 0 Q (F0 m 12 ls []) := by
    intro K12 kx12 n
    induction n with
    | zero => intro x12_1 x12_letter x12_letterAt x12_number x12_at x12_statements h; rw [fX4_river_L12] at h; cases h
    | succ n ih12 =>
      intro x12_1 x12_letter x12_letterAt x12_number x12_at x12_statements h H locs ls hP hD hS hl
      rw [fX4_river_L12] at h
      refine lv_iload_n hx hb dX4_river_12 rfl (lv_at hl 1 rfl) ?_
      refine lv_if_eq (tgt := 60) hx hb dX4_river_13 (by decide) (fun c13 => ?_) (fun c13 => ?_)
      · have h := itT c13 h
        exact kx12 _ _ _ _ _ _ h _ _ _ hP hD hS (lv_sub hl [0, 1] rfl)
      have h := itF c13 h
      refine lv_aload_n hx hb dX4_river_16 rfl (lv_at hl 0 rfl) ?_
      refine va_get (D := (dC, dI)) (ci := 4) (v := .int x12_at) (C := RX4) (T := TX4) (N := 28) hx hb hts hiX4 hown hK hP 0 rfl rfl 14 (by decide) hw1 (fun _ h9 => h9) rfl dX4_river_17 ?_
      refine lv_aload_n hx hb dX4_river_20 rfl (lv_at hl 0 rfl) ?_
      refine va_get (D := (dC, dI)) (ci := 4) (v := .int c_taped) (C := RX4) (T := TX4) (N := 28) hx hb hts hiX4 hown hK hP 0 rfl rfl 13 (by decide) hw3 (fun _ h9 => h9) rfl dX4_river_21 ?_
      refine jnW (fun (v34 : Unit) => ∀ (H : Heap) (locs : List Loc) (ls : Array Slot), va_P (dC, dI) vwCl (zwM cI cC f c_r c_refused c_tape x12_letter x12_letterAt x12_number c_taped x12_at x12_statements c_kept c_hasImage c_isKeeping c_cursor c_poled c_barred c_leapsTo c_leapsThen c_lands c_row c_rowMany c_endsAt) H → va_D A (zwM cI cC f c_r c_refused c_tape x12_letter x12_letterAt x12_number c_taped x12_at x12_statements c_kept c_hasImage c_isKeeping c_cursor c_poled c_barred c_leapsTo c_leapsThen c_lands c_row c_rowMany c_endsAt) → va_S A s.heap H locs → lv_has ls 3 [(0, .ref (f 0))] → W p l e (RMk 4 90) s m args below meth c H locs 0 0 Q (F0 m 34 ls [])) h (fun v34 h H locs ls hP hD hS hl => ?_) (fun J34 j34 h => ?_)
      · refine lv_aload_n hx hb dX4_river_34 rfl (lv_at hl 0 rfl) ?_
        obtain ⟨q35, e35, h⟩ := bd_some h
        refine g_rwA (wc := (zwM cI cC f c_r c_refused c_tape x12_letter x12_letterAt x12_number c_taped x12_at x12_statements c_kept c_hasImage c_isKeeping c_cursor c_poled c_barred c_leapsTo c_leapsThen c_lands c_row c_rowMany c_endsAt)) (wc' := (zwM cI cC f c_r c_refused c_tape q35.2.1 q35.2.2.1 q35.2.2.2.1 c_taped q35.2.2.2.2 x12_statements c_kept c_hasImage c_isKeeping c_cursor c_poled c_barred c_leapsTo c_leapsThen c_lands c_row c_rowMany c_endsAt)) ⟨hx, hb, hml, hown, hts⟩ hE hK hA hP hD hS rfl (mX4_statement l dC dI cI cC sk f H.size c_r c_refused c_tape x12_letter x12_letterAt x12_number c_taped x12_at x12_statements c_kept c_hasImage c_isKeeping c_cursor c_poled c_barred c_leapsTo c_leapsThen c_lands c_row c_rowMany c_endsAt q35 e35) (cwV 0 hts gX4_river_X4_statement rfl rfl rfl (by decide +kernel) ⟨Nat.le_of_ble_eq_true rfl, Nat.le_of_ble_eq_true rfl⟩) (va_recv hK hP (ci := 4) (q0 := 0) rfl rfl) (As := []) (rest := []) rfl hl.1 rfl (Nat.le_of_ble_eq_true rfl) dX4_river_35 ⟨Nat.zero_le _, Nat.zero_le _⟩ (fun H locs hP hD hS => ?_)
        have hP : va_P (dC, dI) vwCl (zwM cI cC f c_r c_refused c_tape q35.2.1 q35.2.2.1 q35.2.2.2.1 c_taped q35.2.2.2.2 x12_statements c_kept c_hasImage c_isKeeping c_cursor c_poled c_barred c_leapsTo c_leapsThen c_lands c_row c_rowMany c_endsAt) H := hP
        have hD : va_D A (zwM cI cC f c_r c_refused c_tape q35.2.1 q35.2.2.1 q35.2.2.2.1 c_taped q35.2.2.2.2 x12_statements c_kept c_hasImage c_isKeeping c_cursor c_poled c_barred c_leapsTo c_leapsThen c_lands c_row c_rowMany c_endsAt) := hD
        refine lv_istore_n (lv' := [(1, .int q35.1), (0, .ref (f 0))]) hx hb dX4_river_38 rfl hl (by decide) rfl (fun ls hl => ?_)
        refine lv_aload_n hx hb dX4_river_39 rfl (lv_at hl 1 rfl) ?_
        refine lv_dup hx hb dX4_river_40 rfl ?_
        refine va_get (D := (dC, dI)) (ci := 4) (v := .int x12_statements) (C := RX4) (T := TX4) (N := 28) hx hb hts hiX4 hown hK hP 0 rfl rfl 15 (by decide) hw2 (fun _ h9 => h9) rfl dX4_river_41 ?_
        refine lv_iload_n hx hb dX4_river_44 rfl (lv_at hl 0 rfl) ?_
        refine jnW (fun (v53 : Int32) => ∀ (H : Heap) (locs : List Loc) (ls : Array Slot), va_P (dC, dI) vwCl (zwM cI cC f c_r c_refused c_tape q35.2.1 q35.2.2.1 q35.2.2.2.1 c_taped q35.2.2.2.2 x12_statements c_kept c_hasImage c_isKeeping c_cursor c_poled c_barred c_leapsTo c_leapsThen c_lands c_row c_rowMany c_endsAt) H → va_D A (zwM cI cC f c_r c_refused c_tape q35.2.1 q35.2.2.1 q35.2.2.2.1 c_taped q35.2.2.2.2 x12_statements c_kept c_hasImage c_isKeeping c_cursor c_poled c_barred c_leapsTo c_leapsThen c_lands c_row c_rowMany c_endsAt) → va_S A s.heap H locs → lv_has ls 3 [(0, .ref (f 0)), (1, .int q35.1)] → W p l e (RMk 4 90) s m args below meth c H locs 0 0 Q (F0 m 53 ls [.int v53, .int x12_statements, .ref (f 0)])) h (fun v53 h H locs ls hP hD hS hl => ?_) (fun J53 j53 h => ?_)
        · refine lv_iadd hx hb dX4_river_53 ?_
          refine va_put (D := (dC, dI)) (ci := 4) (v := .int (x12_statements + v53)) (ty := .int) (C := RX4) (T := TX4) (N := 28) hx hb hts hiX4 tyX4 tyX4_ok nmX4 hown hK hP hD hS 0 rfl rfl 15 (by decide) hw2 (fun _ h9 => h9) rfl (by decide +kernel) rfl rfl (Nat.le_of_ble_eq_true rfl) dX4_river_54 (fun H locs hP hD hS => ?_)
          have hP : va_P (dC, dI) vwCl (zwM cI cC f c_r c_refused c_tape q35.2.1 q35.2.2.1 q35.2.2.2.1 c_taped q35.2.2.2.2 (x12_statements + v53) c_kept c_hasImage c_isKeeping c_cursor c_poled c_barred c_leapsTo c_leapsThen c_lands c_row c_rowMany c_endsAt) H := hP
          have hD : va_D A (zwM cI cC f c_r c_refused c_tape q35.2.1 q35.2.2.1 q35.2.2.2.1 c_taped q35.2.2.2.2 (x12_statements + v53) c_kept c_hasImage c_isKeeping c_cursor c_poled c_barred c_leapsTo c_leapsThen c_lands c_row c_rowMany c_endsAt) := hD
          refine lv_goto (tgt := 12) hx hb dX4_river_57 (by decide) ?_
          exact ih12 _ _ _ _ _ _ h _ _ _ hP hD hS (lv_sub hl [0, 1] rfl)
        refine lv_if_eq (tgt := 52) hx hb dX4_river_45 (by decide) (fun c45 => ?_) (fun c45 => ?_)
        · have h := itT c45 h
          refine lv_iconst (v := (0 : Int32)) hx hb dX4_river_52 (by decide) ?_
          exact j53 _ h _ _ _ hP hD hS (lv_sub hl [1, 0] rfl)
        have h := itF c45 h
        refine lv_iconst (v := (1 : Int32)) hx hb dX4_river_48 (by decide) ?_
        refine lv_goto (tgt := 53) hx hb dX4_river_49 (by decide) ?_
        exact j53 _ h _ _ _ hP hD hS (lv_sub hl [1, 0] rfl)
      refine lv_icmp_lt (tgt := 34) hx hb dX4_river_24 (by decide) (fun c24 => ?_) (fun c24 => ?_)
      · have h := itT c24 h
        exact j34 _ h _ _ _ hP hD hS (lv_sub hl [0] rfl)
      have h := itF c24 h
      refine lv_aload_n hx hb dX4_river_27 rfl (lv_at hl 0 rfl) ?_
      refine va_get (D := (dC, dI)) (ci := 4) (v := .int x12_statements) (C := RX4) (T := TX4) (N := 28) hx hb hts hiX4 hown hK hP 0 rfl rfl 15 (by decide) hw2 (fun _ h9 => h9) rfl dX4_river_28 ?_
      refine lv_if_ne (tgt := 60) hx hb dX4_river_31 (by decide) (fun c31 => ?_) (fun c31 => ?_)
      · have h := itF c31 h
        exact kx12 _ _ _ _ _ _ h _ _ _ hP hD hS (lv_sub hl [0, 1] rfl)
      have h := itT c31 h
      exact j34 _ h _ _ _ hP hD hS (lv_sub hl [0] rfl)
  refine L12 _ (fun k12_1 k12_letter k12_letterAt k12_number k12_at k12_statements h H locs ls hP hD hS hl => ?_) _ _ _ _ _ _ _ h _ _ _ hP hD hS (lv_sub hl [1, 0] rfl)
  refine lv_aload_n hx hb dX4_river_60 rfl (lv_at hl 0 rfl) ?_
  refine lv_iconst (v := (0 : Int32)) hx hb dX4_river_61 (by decide) ?_
  refine va_put (D := (dC, dI)) (ci := 4) (v := .int (0 : Int32)) (ty := .int) (C := RX4) (T := TX4) (N := 28) hx hb hts hiX4 tyX4 tyX4_ok nmX4 hown hK hP hD hS 0 rfl rfl 13 (by decide) hw3 (fun _ h9 => h9) rfl (by decide +kernel) rfl rfl (Nat.le_of_ble_eq_true rfl) dX4_river_62 (fun H locs hP hD hS => ?_)
  have hP : va_P (dC, dI) vwCl (zwM cI cC f c_r c_refused c_tape k12_letter k12_letterAt k12_number (0 : Int32) k12_at k12_statements c_kept c_hasImage c_isKeeping c_cursor c_poled c_barred c_leapsTo c_leapsThen c_lands c_row c_rowMany c_endsAt) H := hP
  have hD : va_D A (zwM cI cC f c_r c_refused c_tape k12_letter k12_letterAt k12_number (0 : Int32) k12_at k12_statements c_kept c_hasImage c_isKeeping c_cursor c_poled c_barred c_leapsTo c_leapsThen c_lands c_row c_rowMany c_endsAt) := hD
  refine lv_iload_n hx hb dX4_river_65 rfl (lv_at hl 1 rfl) ?_
  refine lv_if_ne (tgt := 78) hx hb dX4_river_66 (by decide) (fun c66 => ?_) (fun c66 => ?_)
  · have h := itF c66 h
    refine lv_aload_n hx hb dX4_river_78 rfl (lv_at hl 0 rfl) ?_
    refine lv_iconst (v := (1 : Int32)) hx hb dX4_river_79 (by decide) ?_
    refine lv_iconst (v := (1 : Int32)) hx hb dX4_river_80 (by decide) ?_
    obtain ⟨q81, e81, h⟩ := bd_some h
    refine g_rvA (wc := (zwM cI cC f c_r c_refused c_tape k12_letter k12_letterAt k12_number (0 : Int32) k12_at k12_statements c_kept c_hasImage c_isKeeping c_cursor c_poled c_barred c_leapsTo c_leapsThen c_lands c_row c_rowMany c_endsAt)) (wc' := (zwM cI cC f q81.1 c_refused c_tape k12_letter k12_letterAt k12_number (0 : Int32) k12_at k12_statements q81.2.1 c_hasImage q81.2.2.1 q81.2.2.2 c_poled c_barred c_leapsTo c_leapsThen c_lands c_row c_rowMany c_endsAt)) ⟨hx, hb, hml, hown, hts⟩ hE hK hA hP hD hS rfl (mX4_passesAll l dC dI cI cC sk f H.size (1 : Int32) (1 : Int32) c_r c_refused c_tape k12_letter k12_letterAt k12_number (0 : Int32) k12_at k12_statements c_kept c_hasImage c_isKeeping c_cursor c_poled c_barred c_leapsTo c_leapsThen c_lands c_row c_rowMany c_endsAt q81 e81) (cwV 2 hts gX4_river_X4_passesAll rfl rfl rfl (by decide +kernel) ⟨Nat.le_of_ble_eq_true rfl, Nat.le_of_ble_eq_true rfl⟩) (va_recv hK hP (ci := 4) (q0 := 0) rfl rfl) (As := [.int (1 : Int32), .int (1 : Int32)]) (rest := []) rfl hl.1 rfl (Nat.le_of_ble_eq_true rfl) dX4_river_81 ⟨Nat.zero_le _, Nat.zero_le _⟩ (fun H locs hP hD hS => ?_)
    have hP : va_P (dC, dI) vwCl (zwM cI cC f q81.1 c_refused c_tape k12_letter k12_letterAt k12_number (0 : Int32) k12_at k12_statements q81.2.1 c_hasImage q81.2.2.1 q81.2.2.2 c_poled c_barred c_leapsTo c_leapsThen c_lands c_row c_rowMany c_endsAt) H := hP
    have hD : va_D A (zwM cI cC f q81.1 c_refused c_tape k12_letter k12_letterAt k12_number (0 : Int32) k12_at k12_statements q81.2.1 c_hasImage q81.2.2.1 q81.2.2.2 c_poled c_barred c_leapsTo c_leapsThen c_lands c_row c_rowMany c_endsAt) := hD
    refine lv_iconst (v := (0 : Int32)) hx hb dX4_river_84 (by decide) ?_
    refine lv_istore_n (lv' := [(2, .int (0 : Int32)), (0, .ref (f 0)), (1, .int k12_1)]) hx hb dX4_river_85 rfl hl (by decide) rfl (fun ls hl => ?_)
    have L86 : ∀ (K86 : RT → Option (Int32 × RT × AR × AR × AR × Int32 × Int32 × Int32 × AR × Int32 × Int32)), (∀ (k86_r : RT), K86 k86_r = some z → ∀ (H : Heap) (locs : List Loc) (ls : Array Slot), va_P (dC, dI) vwCl (zwM cI cC f k86_r c_refused c_tape k12_letter k12_letterAt k12_number (0 : Int32) k12_at k12_statements q81.2.1 c_hasImage q81.2.2.1 q81.2.2.2 c_poled c_barred c_leapsTo c_leapsThen c_lands c_row c_rowMany c_endsAt) H → va_D A (zwM cI cC f k86_r c_refused c_tape k12_letter k12_letterAt k12_number (0 : Int32) k12_at k12_statements q81.2.1 c_hasImage q81.2.2.1 q81.2.2.2 c_poled c_barred c_leapsTo c_leapsThen c_lands c_row c_rowMany c_endsAt) → va_S A s.heap H locs → lv_has ls 3 [(0, .ref (f 0))] → W p l e (RMk 4 90) s m args below meth c H locs 0 0 Q (F0 m 128 ls [])) → ∀ (n : Nat) (x86_2 : Int32) (x86_r : RT), fX4_river_L86 k12_at k12_letter k12_letterAt k12_number k12_statements q81 K86 n x86_2 x86_r = some z → ∀ (H : Heap) (locs : List Loc) (ls : Array Slot), va_P (dC, dI) vwCl (zwM cI cC f x86_r c_refused c_tape k12_letter k12_letterAt k12_number (0 : Int32) k12_at k12_statements q81.2.1 c_hasImage q81.2.2.1 q81.2.2.2 c_poled c_barred c_leapsTo c_leapsThen c_lands c_row c_rowMany c_endsAt) H → va_D A (zwM cI cC f x86_r c_refused c_tape k12_letter k12_letterAt k12_number (0 : Int32) k12_at k12_statements q81.2.1 c_hasImage q81.2.2.1 q81.2.2.2 c_poled c_barred c_leapsTo c_leapsThen c_lands c_row c_rowMany c_endsAt) → va_S A s.heap H locs → lv_has ls 3 [(0, .ref (f 0)), (2, .int x86_2)] → W p l e (RMk 4 90) s m args below meth c H locs 0 0 Q (F0 m 86 ls []) := by
      intro K86 kx86 n
      induction n with
      | zero => intro x86_2 x86_r h; rw [fX4_river_L86] at h; cases h
      | succ n ih86 =>
        intro x86_2 x86_r h H locs ls hP hD hS hl
        rw [fX4_river_L86] at h
        refine lv_iload_n hx hb dX4_river_86 rfl (lv_at hl 1 rfl) ?_
        refine lv_aload_n hx hb dX4_river_87 rfl (lv_at hl 0 rfl) ?_
        refine va_get (D := (dC, dI)) (ci := 4) (v := .int k12_statements) (C := RX4) (T := TX4) (N := 28) hx hb hts hiX4 hown hK hP 0 rfl rfl 15 (by decide) hw2 (fun _ h9 => h9) rfl dX4_river_88 ?_
        refine lv_icmp_ge (tgt := 128) hx hb dX4_river_91 (by decide) (fun c91 => ?_) (fun c91 => ?_)
        · have h := itT c91 h
          exact kx86 _ h _ _ _ hP hD hS (lv_sub hl [0] rfl)
        have h := itF c91 h
        refine lv_aload_n hx hb dX4_river_94 rfl (lv_at hl 0 rfl) ?_
        refine lv_iload_n hx hb dX4_river_95 rfl (lv_at hl 1 rfl) ?_
        obtain ⟨q96, e96, h⟩ := bd_some h
        refine g_rwA (wc := (zwM cI cC f x86_r c_refused c_tape k12_letter k12_letterAt k12_number (0 : Int32) k12_at k12_statements q81.2.1 c_hasImage q81.2.2.1 q81.2.2.2 c_poled c_barred c_leapsTo c_leapsThen c_lands c_row c_rowMany c_endsAt)) (wc' := (zwM cI cC f q96.2 c_refused c_tape k12_letter k12_letterAt k12_number (0 : Int32) k12_at k12_statements q81.2.1 c_hasImage q81.2.2.1 q81.2.2.2 c_poled c_barred c_leapsTo c_leapsThen c_lands c_row c_rowMany c_endsAt)) ⟨hx, hb, hml, hown, hts⟩ hE hK hA hP hD hS rfl (mX4_comes l dC dI cI cC sk f H.size x86_2 x86_r c_refused c_tape k12_letter k12_letterAt k12_number (0 : Int32) k12_at k12_statements q81.2.1 c_hasImage q81.2.2.1 q81.2.2.2 c_poled c_barred c_leapsTo c_leapsThen c_lands c_row c_rowMany c_endsAt q96 e96) (cwV 1 hts gX4_river_X4_comes rfl rfl rfl (by decide +kernel) ⟨Nat.le_of_ble_eq_true rfl, Nat.le_of_ble_eq_true rfl⟩) (va_recv hK hP (ci := 4) (q0 := 0) rfl rfl) (As := [.int x86_2]) (rest := []) rfl hl.1 rfl (Nat.le_of_ble_eq_true rfl) dX4_river_96 ⟨Nat.zero_le _, Nat.zero_le _⟩ (fun H locs hP hD hS => ?_)
        have hP : va_P (dC, dI) vwCl (zwM cI cC f q96.2 c_refused c_tape k12_letter k12_letterAt k12_number (0 : Int32) k12_at k12_statements q81.2.1 c_hasImage q81.2.2.1 q81.2.2.2 c_poled c_barred c_leapsTo c_leapsThen c_lands c_row c_rowMany c_endsAt) H := hP
        have hD : va_D A (zwM cI cC f q96.2 c_refused c_tape k12_letter k12_letterAt k12_number (0 : Int32) k12_at k12_statements q81.2.1 c_hasImage q81.2.2.1 q81.2.2.2 c_poled c_barred c_leapsTo c_leapsThen c_lands c_row c_rowMany c_endsAt) := hD
        refine lv_if_eq (tgt := 105) hx hb dX4_river_99 (by decide) (fun c99 => ?_) (fun c99 => ?_)
        · have h := itT c99 h
          refine lv_aload_n hx hb dX4_river_105 rfl (lv_at hl 0 rfl) ?_
          refine lv_iconst (v := (1 : Int32)) hx hb dX4_river_106 (by decide) ?_
          refine lv_iconst (v := (0 : Int32)) hx hb dX4_river_107 (by decide) ?_
          obtain ⟨q108, e108, h⟩ := bd_some h
          refine g_rvA (wc := (zwM cI cC f q96.2 c_refused c_tape k12_letter k12_letterAt k12_number (0 : Int32) k12_at k12_statements q81.2.1 c_hasImage q81.2.2.1 q81.2.2.2 c_poled c_barred c_leapsTo c_leapsThen c_lands c_row c_rowMany c_endsAt)) (wc' := (zwM cI cC f q108.1 c_refused c_tape k12_letter k12_letterAt k12_number (0 : Int32) k12_at k12_statements q108.2.1 c_hasImage q108.2.2.1 q108.2.2.2 c_poled c_barred c_leapsTo c_leapsThen c_lands c_row c_rowMany c_endsAt)) ⟨hx, hb, hml, hown, hts⟩ hE hK hA hP hD hS rfl (mX4_passesAll l dC dI cI cC sk f H.size (1 : Int32) (0 : Int32) q96.2 c_refused c_tape k12_letter k12_letterAt k12_number (0 : Int32) k12_at k12_statements q81.2.1 c_hasImage q81.2.2.1 q81.2.2.2 c_poled c_barred c_leapsTo c_leapsThen c_lands c_row c_rowMany c_endsAt q108 e108) (cwV 2 hts gX4_river_X4_passesAll rfl rfl rfl (by decide +kernel) ⟨Nat.le_of_ble_eq_true rfl, Nat.le_of_ble_eq_true rfl⟩) (va_recv hK hP (ci := 4) (q0 := 0) rfl rfl) (As := [.int (1 : Int32), .int (0 : Int32)]) (rest := []) rfl hl.1 rfl (Nat.le_of_ble_eq_true rfl) dX4_river_108 ⟨Nat.zero_le _, Nat.zero_le _⟩ (fun H locs hP hD hS => ?_)
          have hP : va_P (dC, dI) vwCl (zwM cI cC f q108.1 c_refused c_tape k12_letter k12_letterAt k12_number (0 : Int32) k12_at k12_statements q108.2.1 c_hasImage q108.2.2.1 q108.2.2.2 c_poled c_barred c_leapsTo c_leapsThen c_lands c_row c_rowMany c_endsAt) H := hP
          have hD : va_D A (zwM cI cC f q108.1 c_refused c_tape k12_letter k12_letterAt k12_number (0 : Int32) k12_at k12_statements q108.2.1 c_hasImage q108.2.2.1 q108.2.2.2 c_poled c_barred c_leapsTo c_leapsThen c_lands c_row c_rowMany c_endsAt) := hD
          refine lv_sipush (v := (-2000 : Int32)) hx hb dX4_river_111 (by decide) ?_
          refine lv_aload_n hx hb dX4_river_114 rfl (lv_at hl 0 rfl) ?_
          refine va_get (D := (dC, dI)) (ci := 4) (v := .ref (f 9)) (C := RX4) (T := TX4) (N := 28) hx hb hts hiX4 hown hK hP 0 rfl rfl 11 (by decide) hw4 (fun _ h9 => h9) rfl dX4_river_115 ?_
          refine lv_iload_n hx hb dX4_river_118 rfl (lv_at hl 1 rfl) ?_
          obtain ⟨hin, h⟩ := ck_some h
          refine va_iald hx hb hK hP 9 0 rfl rfl hin dX4_river_119 ?_
          refine lv_isub hx hb dX4_river_120 ?_
          subst hQ
          exact retRW (zz := ((((-2000 : Int32) - (k12_letterAt (x86_2).toNatClampNeg)), q108.1, k12_letter, k12_letterAt, k12_number, (0 : Int32), k12_at, k12_statements, q108.2.1, q108.2.2.1, q108.2.2.2) : Int32 × RT × AR × AR × AR × Int32 × Int32 × Int32 × AR × Int32 × Int32)) (fun z => z.1) (fun z => (zwM cI cC f z.2.1 c_refused c_tape z.2.2.1 z.2.2.2.1 z.2.2.2.2.1 z.2.2.2.2.2.1 z.2.2.2.2.2.2.1 z.2.2.2.2.2.2.2.1 z.2.2.2.2.2.2.2.2.1 c_hasImage z.2.2.2.2.2.2.2.2.2.1 z.2.2.2.2.2.2.2.2.2.2 c_poled c_barred c_leapsTo c_leapsThen c_lands c_row c_rowMany c_endsAt)) hx hb hr hlocks rfl hS h rfl hP dX4_river_121
        have h := itF c99 h
        refine lv_goto (tgt := 122) hx hb dX4_river_102 (by decide) ?_
        refine lv_iinc (v := (x86_2 + (1 : Int32))) (lv' := [(2, .int (x86_2 + (1 : Int32))), (0, .ref (f 0))]) hx hb dX4_river_122 hl (k := 1) rfl rfl (by decide) rfl (fun ls hl => ?_)
        refine lv_goto (tgt := 86) hx hb dX4_river_125 (by decide) ?_
        exact ih86 _ _ h _ _ _ hP hD hS (lv_sub hl [1, 0] rfl)
    refine L86 _ (fun k86_r h H locs ls hP hD hS hl => ?_) _ _ _ h _ _ _ hP hD hS (lv_sub hl [1, 0] rfl)
    refine lv_aload_n hx hb dX4_river_128 rfl (lv_at hl 0 rfl) ?_
    refine va_get (D := (dC, dI)) (ci := 4) (v := .int k12_statements) (C := RX4) (T := TX4) (N := 28) hx hb hts hiX4 hown hK hP 0 rfl rfl 15 (by decide) hw2 (fun _ h9 => h9) rfl dX4_river_129 ?_
    subst hQ
    exact retRW (zz := ((k12_statements, k86_r, k12_letter, k12_letterAt, k12_number, (0 : Int32), k12_at, k12_statements, q81.2.1, q81.2.2.1, q81.2.2.2) : Int32 × RT × AR × AR × AR × Int32 × Int32 × Int32 × AR × Int32 × Int32)) (fun z => z.1) (fun z => (zwM cI cC f z.2.1 c_refused c_tape z.2.2.1 z.2.2.2.1 z.2.2.2.2.1 z.2.2.2.2.2.1 z.2.2.2.2.2.2.1 z.2.2.2.2.2.2.2.1 z.2.2.2.2.2.2.2.2.1 c_hasImage z.2.2.2.2.2.2.2.2.2.1 z.2.2.2.2.2.2.2.2.2.2 c_poled c_barred c_leapsTo c_leapsThen c_lands c_row c_rowMany c_endsAt)) hx hb hr hlocks rfl hS h rfl hP dX4_river_132
  have h := itT c66 h
  refine lv_sipush (v := (-1000 : Int32)) hx hb dX4_river_69 (by decide) ?_
  refine lv_aload_n hx hb dX4_river_72 rfl (lv_at hl 0 rfl) ?_
  refine va_get (D := (dC, dI)) (ci := 4) (v := .int k12_at) (C := RX4) (T := TX4) (N := 28) hx hb hts hiX4 hown hK hP 0 rfl rfl 14 (by decide) hw1 (fun _ h9 => h9) rfl dX4_river_73 ?_
  refine lv_isub hx hb dX4_river_76 ?_
  subst hQ
  exact retRW (zz := ((((-1000 : Int32) - k12_at), c_r, k12_letter, k12_letterAt, k12_number, (0 : Int32), k12_at, k12_statements, c_kept, c_isKeeping, c_cursor) : Int32 × RT × AR × AR × AR × Int32 × Int32 × Int32 × AR × Int32 × Int32)) (fun z => z.1) (fun z => (zwM cI cC f z.2.1 c_refused c_tape z.2.2.1 z.2.2.2.1 z.2.2.2.2.1 z.2.2.2.2.2.1 z.2.2.2.2.2.2.1 z.2.2.2.2.2.2.2.1 z.2.2.2.2.2.2.2.2.1 c_hasImage z.2.2.2.2.2.2.2.2.2.1 z.2.2.2.2.2.2.2.2.2.2 c_poled c_barred c_leapsTo c_leapsThen c_lands c_row c_rowMany c_endsAt)) hx hb hr hlocks rfl hS h rfl hP dX4_river_77
