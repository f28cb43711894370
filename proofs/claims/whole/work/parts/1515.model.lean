theorem dX4_bearsIn_0 : decode cX4_bearsIn 0 = .ok (.aload_n 0, 1) := by decide +kernel
theorem dX4_bearsIn_1 : decode cX4_bearsIn 1 = .ok (.getfield 25, 3) := by decide +kernel
theorem dX4_bearsIn_4 : decode cX4_bearsIn 4 = .ok (.iload_n 1, 1) := by decide +kernel
theorem dX4_bearsIn_5 : decode cX4_bearsIn 5 = .ok (.iaload, 1) := by decide +kernel
theorem dX4_bearsIn_6 : decode cX4_bearsIn 6 = .ok (.iload_n 2, 1) := by decide +kernel
theorem dX4_bearsIn_7 : decode cX4_bearsIn 7 = .ok (.iconst 4, 1) := by decide +kernel
theorem dX4_bearsIn_8 : decode cX4_bearsIn 8 = .ok (.idiv, 1) := by decide +kernel
theorem dX4_bearsIn_9 : decode cX4_bearsIn 9 = .ok (.if_icmp .le 16, 3) := by decide +kernel
theorem dX4_bearsIn_12 : decode cX4_bearsIn 12 = .ok (.aload_n 0, 1) := by decide +kernel
theorem dX4_bearsIn_13 : decode cX4_bearsIn 13 = .ok (.getfield 25, 3) := by decide +kernel
theorem dX4_bearsIn_16 : decode cX4_bearsIn 16 = .ok (.iload_n 1, 1) := by decide +kernel
theorem dX4_bearsIn_17 : decode cX4_bearsIn 17 = .ok (.iaload, 1) := by decide +kernel
theorem dX4_bearsIn_18 : decode cX4_bearsIn 18 = .ok (.iload_n 2, 1) := by decide +kernel
theorem dX4_bearsIn_19 : decode cX4_bearsIn 19 = .ok (.iconst 4, 1) := by decide +kernel
theorem dX4_bearsIn_20 : decode cX4_bearsIn 20 = .ok (.idiv, 1) := by decide +kernel
theorem dX4_bearsIn_21 : decode cX4_bearsIn 21 = .ok (.isub, 1) := by decide +kernel
theorem dX4_bearsIn_22 : decode cX4_bearsIn 22 = .ok (.goto 4, 3) := by decide +kernel
theorem dX4_bearsIn_25 : decode cX4_bearsIn 25 = .ok (.iconst 0, 1) := by decide +kernel
theorem dX4_bearsIn_26 : decode cX4_bearsIn 26 = .ok (.istore_n 3, 1) := by decide +kernel
theorem dX4_bearsIn_27 : decode cX4_bearsIn 27 = .ok (.aload_n 0, 1) := by decide +kernel
theorem dX4_bearsIn_28 : decode cX4_bearsIn 28 = .ok (.getfield 13, 3) := by decide +kernel
theorem dX4_bearsIn_31 : decode cX4_bearsIn 31 = .ok (.iload_n 1, 1) := by decide +kernel
theorem dX4_bearsIn_32 : decode cX4_bearsIn 32 = .ok (.iaload, 1) := by decide +kernel
theorem dX4_bearsIn_33 : decode cX4_bearsIn 33 = .ok (.tableswitch 63 1 5 #[35, 37, 63, 63, 51], 35) := by decide +kernel
theorem dX4_bearsIn_68 : decode cX4_bearsIn 68 = .ok (.iload_n 3, 1) := by decide +kernel
theorem dX4_bearsIn_69 : decode cX4_bearsIn 69 = .ok (.ireturn, 1) := by decide +kernel
theorem dX4_bearsIn_70 : decode cX4_bearsIn 70 = .ok (.iload_n 3, 1) := by decide +kernel
theorem dX4_bearsIn_71 : decode cX4_bearsIn 71 = .ok (.ifCond .le 11, 3) := by decide +kernel
theorem dX4_bearsIn_74 : decode cX4_bearsIn 74 = .ok (.iload_n 3, 1) := by decide +kernel
theorem dX4_bearsIn_75 : decode cX4_bearsIn 75 = .ok (.iload_n 2, 1) := by decide +kernel
theorem dX4_bearsIn_76 : decode cX4_bearsIn 76 = .ok (.iconst 2, 1) := by decide +kernel
theorem dX4_bearsIn_77 : decode cX4_bearsIn 77 = .ok (.irem, 1) := by decide +kernel
theorem dX4_bearsIn_78 : decode cX4_bearsIn 78 = .ok (.isub, 1) := by decide +kernel
theorem dX4_bearsIn_79 : decode cX4_bearsIn 79 = .ok (.goto 4, 3) := by decide +kernel
theorem dX4_bearsIn_82 : decode cX4_bearsIn 82 = .ok (.iconst 0, 1) := by decide +kernel
theorem dX4_bearsIn_83 : decode cX4_bearsIn 83 = .ok (.ireturn, 1) := by decide +kernel
theorem dX4_bearsIn_84 : decode cX4_bearsIn 84 = .ok (.aload_n 0, 1) := by decide +kernel
theorem dX4_bearsIn_85 : decode cX4_bearsIn 85 = .ok (.getfield 25, 3) := by decide +kernel
theorem dX4_bearsIn_88 : decode cX4_bearsIn 88 = .ok (.iload_n 1, 1) := by decide +kernel
theorem dX4_bearsIn_89 : decode cX4_bearsIn 89 = .ok (.iaload, 1) := by decide +kernel
theorem dX4_bearsIn_90 : decode cX4_bearsIn 90 = .ok (.iload_n 2, 1) := by decide +kernel
theorem dX4_bearsIn_91 : decode cX4_bearsIn 91 = .ok (.bipush 6, 2) := by decide +kernel
theorem dX4_bearsIn_93 : decode cX4_bearsIn 93 = .ok (.idiv, 1) := by decide +kernel
theorem dX4_bearsIn_94 : decode cX4_bearsIn 94 = .ok (.iadd, 1) := by decide +kernel
theorem dX4_bearsIn_95 : decode cX4_bearsIn 95 = .ok (.ireturn, 1) := by decide +kernel
theorem dX4_bearsIn_96 : decode cX4_bearsIn 96 = .ok (.aload_n 0, 1) := by decide +kernel
theorem dX4_bearsIn_97 : decode cX4_bearsIn 97 = .ok (.getfield 25, 3) := by decide +kernel
theorem dX4_bearsIn_100 : decode cX4_bearsIn 100 = .ok (.iload_n 1, 1) := by decide +kernel
theorem dX4_bearsIn_101 : decode cX4_bearsIn 101 = .ok (.iaload, 1) := by decide +kernel
theorem dX4_bearsIn_102 : decode cX4_bearsIn 102 = .ok (.ireturn, 1) := by decide +kernel
set_option maxHeartbeats 4000000 in
set_option maxRecDepth 100000 in
theorem mX4_bearsIn (l : Launch) (dC : Nat → ClassId) (dI : Nat → Nat → Nat) (cI cC : ClassId) (sk : (Nat → Nat) × (Nat → Nat)) (f : Nat → Nat) (p1 : Int32) (p2 : Int32) (c_r : RT) (c_refused : AR) (c_tape : AR) (c_letter : AR) (c_letterAt : AR) (c_number : AR) (c_taped : Int32) (c_at : Int32) (c_statements : Int32) (c_kept : AR) (c_hasImage : Int32) (c_isKeeping : Int32) (c_cursor : Int32) (c_poled : Int32) (c_barred : Int32) (c_leapsTo : AR) (c_leapsThen : AR) (c_lands : AR) (c_row : AR) (c_rowMany : Int32) (c_endsAt : Int32) (z : Int32) (h : fX4_bearsIn p1 p2 c_r = some z) : cRO l yX4_bearsIn wsX4_bearsIn (RMk 0 0) sk (dC, dI) (tyz cI cC) (zwM cI cC f c_r c_refused c_tape c_letter c_letterAt c_number c_taped c_at c_statements c_kept c_hasImage c_isKeeping c_cursor c_poled c_barred c_leapsTo c_leapsThen c_lands c_row c_rowMany c_endsAt) [.ref (f 0), .int p1, .int p2] z := by
  refine ofRO (cc := cX4_bearsIn) (maxL := 4) (ret := (some .int)) (own := RX4) (plainFor_of_name (by decide)) rfl rfl (Nat.le_of_ble_eq_true rfl) ?_
  intro p e s m args below meth c hx hb hml hr hts hown hlocks hE hK hP hS ls hl
  generalize hQ : qRO _ _ _ _ = Q
  have hl : lv_has ls 4 [(0, .ref (f 0)), (1, .int p1), (2, .int p2)] := hl
  have hiX4 : ∀ w ∈ wsX40, w ∈ wsX4_bearsIn := fun w h => List.mem_cons_of_mem _ (List.mem_append_right _ h)
  have hw1 := hts (Cond.fieldLink RX4 25 "FloeToFloeModel" "strong" "[I") (List.mem_of_getElem? (i := 1) rfl)
  have hw2 := hts (Cond.fieldLink RX4 13 "FloeToFloeModel" "kind" "[I") (List.mem_of_getElem? (i := 2) rfl)
  rw [fX4_bearsIn] at h
  refine lv_aload_n hx hb dX4_bearsIn_0 rfl (lv_at hl 0 rfl) ?_
  refine va_get (D := (dC, dI)) (ci := 4) (v := .ref (f 6)) (C := RX4) (T := TX4) (N := 28) hx hb hts hiX4 hown hK hP 0 rfl rfl 5 (by decide) hw1 (fun _ h9 => h9) rfl dX4_bearsIn_1 ?_
  refine lv_iload_n hx hb dX4_bearsIn_4 rfl (lv_at hl 1 rfl) ?_
  obtain ⟨hin, h⟩ := ck_some h
  refine va_iald hx hb hK hP 6 0 rfl rfl hin dX4_bearsIn_5 ?_
  refine lv_iload_n hx hb dX4_bearsIn_6 rfl (lv_at hl 2 rfl) ?_
  refine lv_iconst (v := (4 : Int32)) hx hb dX4_bearsIn_7 (by decide) ?_
  refine lv_idiv hx hb dX4_bearsIn_8 (by decide) ?_
  refine jnW (fun (v26 : Int32) => ∀ (H : Heap) (locs : List Loc) (ls : Array Slot), va_P (dC, dI) vwCl (zwM cI cC f c_r c_refused c_tape c_letter c_letterAt c_number c_taped c_at c_statements c_kept c_hasImage c_isKeeping c_cursor c_poled c_barred c_leapsTo c_leapsThen c_lands c_row c_rowMany c_endsAt) H → va_S noA s.heap H locs → lv_has ls 4 [(0, .ref (f 0)), (1, .int p1), (2, .int p2)] → W p l e (RMk 0 0) s m args below meth c H locs 0 0 Q (F0 m 26 ls [.int v26])) h (fun v26 h H locs ls hP hS hl => ?_) (fun J26 j26 h => ?_)
  · refine lv_istore_n (lv' := [(3, .int v26), (0, .ref (f 0)), (1, .int p1), (2, .int p2)]) hx hb dX4_bearsIn_26 rfl hl (by decide) rfl (fun ls hl => ?_)
    refine lv_aload_n hx hb dX4_bearsIn_27 rfl (lv_at hl 1 rfl) ?_
    refine va_get (D := (dC, dI)) (ci := 4) (v := .ref (f 2)) (C := RX4) (T := TX4) (N := 28) hx hb hts hiX4 hown hK hP 0 rfl rfl 1 (by decide) hw2 (fun _ h9 => h9) rfl dX4_bearsIn_28 ?_
    refine lv_iload_n hx hb dX4_bearsIn_31 rfl (lv_at hl 2 rfl) ?_
    obtain ⟨hin, h⟩ := ck_some h
    refine va_iald hx hb hK hP 2 0 rfl rfl hin dX4_bearsIn_32 ?_
    by_cases n1 : ((R_kinds c_r) (p1).toNatClampNeg) = (1 : Int32)
    · have h := itT n1 h
      refine lv_tableIn (off := 35) (tgt := 68) hx hb dX4_bearsIn_33 (by rw [n1]; decide) (by rw [n1]; decide) (by rw [n1]; decide) (by decide) ?_
      refine lv_iload_n hx hb dX4_bearsIn_68 rfl (lv_at hl 0 rfl) ?_
      subst hQ
      exact retRO hx hb hr hlocks rfl hS h dX4_bearsIn_69
    have h := itF n1 h
    by_cases n2 : ((R_kinds c_r) (p1).toNatClampNeg) = (2 : Int32)
    · have h := itT n2 h
      refine lv_tableIn (off := 37) (tgt := 70) hx hb dX4_bearsIn_33 (by rw [n2]; decide) (by rw [n2]; decide) (by rw [n2]; decide) (by decide) ?_
      refine lv_iload_n hx hb dX4_bearsIn_70 rfl (lv_at hl 0 rfl) ?_
      refine lv_if_le (tgt := 82) hx hb dX4_bearsIn_71 (by decide) (fun c71 => ?_) (fun c71 => ?_)
      · have h := itT c71 h
        refine lv_iconst (v := (0 : Int32)) hx hb dX4_bearsIn_82 (by decide) ?_
        subst hQ
        exact retRO hx hb hr hlocks rfl hS h dX4_bearsIn_83
      have h := itF c71 h
      refine lv_iload_n hx hb dX4_bearsIn_74 rfl (lv_at hl 0 rfl) ?_
      refine lv_iload_n hx hb dX4_bearsIn_75 rfl (lv_at hl 3 rfl) ?_
      refine lv_iconst (v := (2 : Int32)) hx hb dX4_bearsIn_76 (by decide) ?_
      refine lv_irem hx hb dX4_bearsIn_77 (by decide) ?_
      refine lv_isub hx hb dX4_bearsIn_78 ?_
      refine lv_goto (tgt := 83) hx hb dX4_bearsIn_79 (by decide) ?_
      subst hQ
      exact retRO hx hb hr hlocks rfl hS h dX4_bearsIn_83
    have h := itF n2 h
    by_cases n3 : ((R_kinds c_r) (p1).toNatClampNeg) = (3 : Int32)
    · have h := itT n3 h
      refine lv_tableIn (off := 63) (tgt := 96) hx hb dX4_bearsIn_33 (by rw [n3]; decide) (by rw [n3]; decide) (by rw [n3]; decide) (by decide) ?_
      refine lv_aload_n hx hb dX4_bearsIn_96 rfl (lv_at hl 1 rfl) ?_
      refine va_get (D := (dC, dI)) (ci := 4) (v := .ref (f 6)) (C := RX4) (T := TX4) (N := 28) hx hb hts hiX4 hown hK hP 0 rfl rfl 5 (by decide) hw1 (fun _ h9 => h9) rfl dX4_bearsIn_97 ?_
      refine lv_iload_n hx hb dX4_bearsIn_100 rfl (lv_at hl 2 rfl) ?_
      obtain ⟨hin, h⟩ := ck_some h
      refine va_iald hx hb hK hP 6 0 rfl rfl hin dX4_bearsIn_101 ?_
      subst hQ
      exact retRO hx hb hr hlocks rfl hS h dX4_bearsIn_102
    have h := itF n3 h
    by_cases n4 : ((R_kinds c_r) (p1).toNatClampNeg) = (4 : Int32)
    · have h := itT n4 h
      refine lv_tableIn (off := 63) (tgt := 96) hx hb dX4_bearsIn_33 (by rw [n4]; decide) (by rw [n4]; decide) (by rw [n4]; decide) (by decide) ?_
      refine lv_aload_n hx hb dX4_bearsIn_96 rfl (lv_at hl 1 rfl) ?_
      refine va_get (D := (dC, dI)) (ci := 4) (v := .ref (f 6)) (C := RX4) (T := TX4) (N := 28) hx hb hts hiX4 hown hK hP 0 rfl rfl 5 (by decide) hw1 (fun _ h9 => h9) rfl dX4_bearsIn_97 ?_
      refine lv_iload_n hx hb dX4_bearsIn_100 rfl (lv_at hl 2 rfl) ?_
      obtain ⟨hin, h⟩ := ck_some h
      refine va_iald hx hb hK hP 6 0 rfl rfl hin dX4_bearsIn_101 ?_
      subst hQ
      exact retRO hx hb hr hlocks rfl hS h dX4_bearsIn_102
    have h := itF n4 h
    by_cases n5 : ((R_kinds c_r) (p1).toNatClampNeg) = (5 : Int32)
    · have h := itT n5 h
      refine lv_tableIn (off := 51) (tgt := 84) hx hb dX4_bearsIn_33 (by rw [n5]; decide) (by rw [n5]; decide) (by rw [n5]; decide) (by decide) ?_
      refine lv_aload_n hx hb dX4_bearsIn_84 rfl (lv_at hl 1 rfl) ?_
      refine va_get (D := (dC, dI)) (ci := 4) (v := .ref (f 6)) (C := RX4) (T := TX4) (N := 28) hx hb hts hiX4 hown hK hP 0 rfl rfl 5 (by decide) hw1 (fun _ h9 => h9) rfl dX4_bearsIn_85 ?_
      refine lv_iload_n hx hb dX4_bearsIn_88 rfl (lv_at hl 2 rfl) ?_
      obtain ⟨hin, h⟩ := ck_some h
      refine va_iald hx hb hK hP 6 0 rfl rfl hin dX4_bearsIn_89 ?_
      refine lv_iload_n hx hb dX4_bearsIn_90 rfl (lv_at hl 3 rfl) ?_
      refine lv_bipush (v := (6 : Int32)) hx hb dX4_bearsIn_91 (by decide) ?_
      refine lv_idiv hx hb dX4_bearsIn_93 (by decide) ?_
      refine lv_iadd hx hb dX4_bearsIn_94 ?_
      subst hQ
      exact retRO hx hb hr hlocks rfl hS h dX4_bearsIn_95
    have h := itF n5 h
    have m1 := neI n1 (i := 1) rfl
    have m2 := neI n2 (i := 2) rfl
    have m3 := neI n3 (i := 3) rfl
    have m4 := neI n4 (i := 4) rfl
    have m5 := neI n5 (i := 5) rfl
    refine lv_tableOut (tgt := 96) hx hb dX4_bearsIn_33 (by omega) (by decide) ?_
    refine lv_aload_n hx hb dX4_bearsIn_96 rfl (lv_at hl 1 rfl) ?_
    refine va_get (D := (dC, dI)) (ci := 4) (v := .ref (f 6)) (C := RX4) (T := TX4) (N := 28) hx hb hts hiX4 hown hK hP 0 rfl rfl 5 (by decide) hw1 (fun _ h9 => h9) rfl dX4_bearsIn_97 ?_
    refine lv_iload_n hx hb dX4_bearsIn_100 rfl (lv_at hl 2 rfl) ?_
    obtain ⟨hin, h⟩ := ck_some h
    refine va_iald hx hb hK hP 6 0 rfl rfl hin dX4_bearsIn_101 ?_
    subst hQ
    exact retRO hx hb hr hlocks rfl hS h dX4_bearsIn_102
  refine lv_icmp_le (tgt := 25) hx hb dX4_bearsIn_9 (by decide) (fun c9 => ?_) (fun c9 => ?_)
  · have h := itT c9 h
    refine lv_iconst (v := (0 : Int32)) hx hb dX4_bearsIn_25 (by decide) ?_
    exact j26 _ h _ _ _ hP hS (lv_sub hl [0, 1, 2] rfl)
  have h := itF c9 h
  refine lv_aload_n hx hb dX4_bearsIn_12 rfl (lv_at hl 0 rfl) ?_
  refine va_get (D := (dC, dI)) (ci := 4) (v := .ref (f 6)) (C := RX4) (T := TX4) (N := 28) hx hb hts hiX4 hown hK hP 0 rfl rfl 5 (by decide) hw1 (fun _ h9 => h9) rfl dX4_bearsIn_13 ?_
  refine lv_iload_n hx hb dX4_bearsIn_16 rfl (lv_at hl 1 rfl) ?_
  obtain ⟨hin, h⟩ := ck_some h
  refine va_iald hx hb hK hP 6 0 rfl rfl hin dX4_bearsIn_17 ?_
  refine lv_iload_n hx hb dX4_bearsIn_18 rfl (lv_at hl 2 rfl) ?_
  refine lv_iconst (v := (4 : Int32)) hx hb dX4_bearsIn_19 (by decide) ?_
  refine lv_idiv hx hb dX4_bearsIn_20 (by decide) ?_
  refine lv_isub hx hb dX4_bearsIn_21 ?_
  refine lv_goto (tgt := 26) hx hb dX4_bearsIn_22 (by decide) ?_
  exact j26 _ h _ _ _ hP hS (lv_sub hl [0, 1, 2] rfl)
