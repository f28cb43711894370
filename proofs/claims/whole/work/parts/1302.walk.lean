theorem dX2_placesStayed_0 : decode cX2_placesStayed 0 = .ok (.iload_n 1, 1) := by decide +kernel
theorem dX2_placesStayed_1 : decode cX2_placesStayed 1 = .ok (.ldc 88, 2) := by decide +kernel
theorem dX2_placesStayed_3 : decode cX2_placesStayed 3 = .ok (.aload_n 0, 1) := by decide +kernel
theorem dX2_placesStayed_4 : decode cX2_placesStayed 4 = .ok (.getfield 38, 3) := by decide +kernel
theorem dX2_placesStayed_7 : decode cX2_placesStayed 7 = .ok (.ior, 1) := by decide +kernel
theorem dX2_placesStayed_8 : decode cX2_placesStayed 8 = .ok (.iand, 1) := by decide +kernel
theorem dX2_placesStayed_9 : decode cX2_placesStayed 9 = .ok (.ireturn, 1) := by decide +kernel
set_option maxHeartbeats 4000000 in
set_option maxRecDepth 100000 in
theorem mX2_placesStayed (l : Launch) (dC : Nat → ClassId) (dI : Nat → Nat → Nat) (cI cC : ClassId) (sk : (Nat → Nat) × (Nat → Nat)) (f : Nat → Nat) (p1 : Int32) (c_lanes : AR) (c_spots : AR) (c_byLeaps : AR) (c_load : Int32) (c_gone : Int32) (c_held : Int32) (c_strong : Int32) (c_done : Int32) (c_r : RT) (z : Int32) (h : fX2_placesStayed p1 c_strong = some z) : cRO l yX2_placesStayed wsX2_placesStayed (RMk 0 0) sk (dC, dI) (tyz cI cC) (zwV cI cC f c_lanes c_spots c_byLeaps c_load c_gone c_held c_strong c_done c_r) [.ref (f 0), .int p1] z := by
  refine ofRO (cc := cX2_placesStayed) (maxL := 2) (ret := (some .int)) (own := RX2) (plainFor_of_name (by decide)) rfl rfl (Nat.le_of_ble_eq_true rfl) ?_
  intro p e s m args below meth c hx hb hml hr hts hown hlocks hE hK hP hS ls hl
  generalize hQ : qRO _ _ _ _ = Q
  have hl : lv_has ls 2 [(0, .ref (f 0)), (1, .int p1)] := hl
  have hiX2 : ∀ w ∈ wsX20, w ∈ wsX2_placesStayed := fun w h => List.mem_cons_of_mem _ (List.mem_append_right _ h)
  have hw1 := hts (Cond.constant RX2 88 (1047808)) (List.mem_of_getElem? (i := 1) rfl)
  have hw2 := hts (Cond.fieldLink RX2 38 "FloeToFloe$Walk" "strong" "I") (List.mem_of_getElem? (i := 2) rfl)
  rw [fX2_placesStayed] at h
  refine lv_iload_n hx hb dX2_placesStayed_0 rfl (lv_at hl 1 rfl) ?_
  refine lv_ldc hx hb hown hw1 dX2_placesStayed_1 ?_
  refine lv_aload_n hx hb dX2_placesStayed_3 rfl (lv_at hl 0 rfl) ?_
  refine va_get (D := (dC, dI)) (ci := 2) (v := .int c_strong) (C := RX2) (T := TX2) (N := 9) hx hb hts hiX2 hown hK hP 0 rfl rfl 7 (by decide) hw2 (fun _ h9 => h9) rfl dX2_placesStayed_4 ?_
  refine lv_ior hx hb dX2_placesStayed_7 ?_
  refine lv_iand hx hb dX2_placesStayed_8 ?_
  subst hQ
  exact retRO hx hb hr hlocks rfl hS h dX2_placesStayed_9
theorem dX2_walkedLess_0 : decode cX2_walkedLess 0 = .ok (.iload_n 0, 1) := by decide +kernel
theorem dX2_walkedLess_1 : decode cX2_walkedLess 1 = .ok (.bipush 10, 2) := by decide +kernel
theorem dX2_walkedLess_3 : decode cX2_walkedLess 3 = .ok (.ishr, 1) := by decide +kernel
theorem dX2_walkedLess_4 : decode cX2_walkedLess 4 = .ok (.sipush 1023, 3) := by decide +kernel
theorem dX2_walkedLess_7 : decode cX2_walkedLess 7 = .ok (.iand, 1) := by decide +kernel
theorem dX2_walkedLess_8 : decode cX2_walkedLess 8 = .ok (.istore_n 1, 1) := by decide +kernel
theorem dX2_walkedLess_9 : decode cX2_walkedLess 9 = .ok (.iload_n 1, 1) := by decide +kernel
theorem dX2_walkedLess_10 : decode cX2_walkedLess 10 = .ok (.iconst 1, 1) := by decide +kernel
theorem dX2_walkedLess_11 : decode cX2_walkedLess 11 = .ok (.ishr, 1) := by decide +kernel
theorem dX2_walkedLess_12 : decode cX2_walkedLess 12 = .ok (.iload_n 1, 1) := by decide +kernel
theorem dX2_walkedLess_13 : decode cX2_walkedLess 13 = .ok (.iconst 1, 1) := by decide +kernel
theorem dX2_walkedLess_14 : decode cX2_walkedLess 14 = .ok (.iand, 1) := by decide +kernel
theorem dX2_walkedLess_15 : decode cX2_walkedLess 15 = .ok (.bipush 9, 2) := by decide +kernel
theorem dX2_walkedLess_17 : decode cX2_walkedLess 17 = .ok (.ishl, 1) := by decide +kernel
theorem dX2_walkedLess_18 : decode cX2_walkedLess 18 = .ok (.ior, 1) := by decide +kernel
theorem dX2_walkedLess_19 : decode cX2_walkedLess 19 = .ok (.bipush 10, 2) := by decide +kernel
theorem dX2_walkedLess_21 : decode cX2_walkedLess 21 = .ok (.ishl, 1) := by decide +kernel
theorem dX2_walkedLess_22 : decode cX2_walkedLess 22 = .ok (.ireturn, 1) := by decide +kernel
set_option maxHeartbeats 4000000 in
set_option maxRecDepth 100000 in
theorem mX2_walkedLess (l : Launch) (dC : Nat → ClassId) (dI : Nat → Nat → Nat) (cI cC : ClassId) (sk : (Nat → Nat) × (Nat → Nat))  (p0 : Int32)  (z : Int32) (h : fX2_walkedLess p0 = some z) : cRO l yX2_walkedLess wsX2_walkedLess (RMk 0 0) sk (dC, dI) (tyz cI cC) ([] : va_W) [.int p0] z := by
  refine ofRO (cc := cX2_walkedLess) (maxL := 2) (ret := (some .int)) (own := RX2) (plainFor_of_name (by decide)) rfl rfl (Nat.le_of_ble_eq_true rfl) ?_
  intro p e s m args below meth c hx hb hml hr hts hown hlocks hE hK hP hS ls hl
  generalize hQ : qRO _ _ _ _ = Q
  have hl : lv_has ls 2 [(0, .int p0)] := hl
  rw [fX2_walkedLess] at h
  refine lv_iload_n hx hb dX2_walkedLess_0 rfl (lv_at hl 0 rfl) ?_
  refine lv_bipush (v := (10 : Int32)) hx hb dX2_walkedLess_1 (by decide) ?_
  refine lv_ishr hx hb dX2_walkedLess_3 ?_
  refine lv_sipush (v := (1023 : Int32)) hx hb dX2_walkedLess_4 (by decide) ?_
  refine lv_iand hx hb dX2_walkedLess_7 ?_
  refine lv_istore_n (lv' := [(1, .int ((p0 >>> ((10 : Int32) &&& 31)) &&& (1023 : Int32))), (0, .int p0)]) hx hb dX2_walkedLess_8 rfl hl (by decide) rfl (fun ls hl => ?_)
  refine lv_iload_n hx hb dX2_walkedLess_9 rfl (lv_at hl 0 rfl) ?_
  refine lv_iconst (v := (1 : Int32)) hx hb dX2_walkedLess_10 (by decide) ?_
  refine lv_ishr hx hb dX2_walkedLess_11 ?_
  refine lv_iload_n hx hb dX2_walkedLess_12 rfl (lv_at hl 0 rfl) ?_
  refine lv_iconst (v := (1 : Int32)) hx hb dX2_walkedLess_13 (by decide) ?_
  refine lv_iand hx hb dX2_walkedLess_14 ?_
  refine lv_bipush (v := (9 : Int32)) hx hb dX2_walkedLess_15 (by decide) ?_
  refine lv_ishl hx hb dX2_walkedLess_17 ?_
  refine lv_ior hx hb dX2_walkedLess_18 ?_
  refine lv_bipush (v := (10 : Int32)) hx hb dX2_walkedLess_19 (by decide) ?_
  refine lv_ishl hx hb dX2_walkedLess_21 ?_
  subst hQ
  exact retRO hx hb hr hlocks rfl hS h dX2_walkedLess_22
theorem dX2_walkedGreater_0 : decode cX2_walkedGreater 0 = .ok (.iload_n 0, 1) := by decide +kernel
theorem dX2_walkedGreater_1 : decode cX2_walkedGreater 1 = .ok (.bipush 10, 2) := by decide +kernel
theorem dX2_walkedGreater_3 : decode cX2_walkedGreater 3 = .ok (.ishr, 1) := by decide +kernel
theorem dX2_walkedGreater_4 : decode cX2_walkedGreater 4 = .ok (.sipush 1023, 3) := by decide +kernel
theorem dX2_walkedGreater_7 : decode cX2_walkedGreater 7 = .ok (.iand, 1) := by decide +kernel
theorem dX2_walkedGreater_8 : decode cX2_walkedGreater 8 = .ok (.istore_n 1, 1) := by decide +kernel
theorem dX2_walkedGreater_9 : decode cX2_walkedGreater 9 = .ok (.iload_n 1, 1) := by decide +kernel
theorem dX2_walkedGreater_10 : decode cX2_walkedGreater 10 = .ok (.iconst 1, 1) := by decide +kernel
theorem dX2_walkedGreater_11 : decode cX2_walkedGreater 11 = .ok (.ishl, 1) := by decide +kernel
theorem dX2_walkedGreater_12 : decode cX2_walkedGreater 12 = .ok (.sipush 1023, 3) := by decide +kernel
theorem dX2_walkedGreater_15 : decode cX2_walkedGreater 15 = .ok (.iand, 1) := by decide +kernel
theorem dX2_walkedGreater_16 : decode cX2_walkedGreater 16 = .ok (.iload_n 1, 1) := by decide +kernel
theorem dX2_walkedGreater_17 : decode cX2_walkedGreater 17 = .ok (.bipush 9, 2) := by decide +kernel
theorem dX2_walkedGreater_19 : decode cX2_walkedGreater 19 = .ok (.ishr, 1) := by decide +kernel
theorem dX2_walkedGreater_20 : decode cX2_walkedGreater 20 = .ok (.ior, 1) := by decide +kernel
theorem dX2_walkedGreater_21 : decode cX2_walkedGreater 21 = .ok (.bipush 10, 2) := by decide +kernel
theorem dX2_walkedGreater_23 : decode cX2_walkedGreater 23 = .ok (.ishl, 1) := by decide +kernel
theorem dX2_walkedGreater_24 : decode cX2_walkedGreater 24 = .ok (.ireturn, 1) := by decide +kernel
set_option maxHeartbeats 4000000 in
set_option maxRecDepth 100000 in
theorem mX2_walkedGreater (l : Launch) (dC : Nat → ClassId) (dI : Nat → Nat → Nat) (cI cC : ClassId) (sk : (Nat → Nat) × (Nat → Nat))  (p0 : Int32)  (z : Int32) (h : fX2_walkedGreater p0 = some z) : cRO l yX2_walkedGreater wsX2_walkedGreater (RMk 0 0) sk (dC, dI) (tyz cI cC) ([] : va_W) [.int p0] z := by
  refine ofRO (cc := cX2_walkedGreater) (maxL := 2) (ret := (some .int)) (own := RX2) (plainFor_of_name (by decide)) rfl rfl (Nat.le_of_ble_eq_true rfl) ?_
  intro p e s m args below meth c hx hb hml hr hts hown hlocks hE hK hP hS ls hl
  generalize hQ : qRO _ _ _ _ = Q
  have hl : lv_has ls 2 [(0, .int p0)] := hl
  rw [fX2_walkedGreater] at h
  refine lv_iload_n hx hb dX2_walkedGreater_0 rfl (lv_at hl 0 rfl) ?_
  refine lv_bipush (v := (10 : Int32)) hx hb dX2_walkedGreater_1 (by decide) ?_
  refine lv_ishr hx hb dX2_walkedGreater_3 ?_
  refine lv_sipush (v := (1023 : Int32)) hx hb dX2_walkedGreater_4 (by decide) ?_
  refine lv_iand hx hb dX2_walkedGreater_7 ?_
  refine lv_istore_n (lv' := [(1, .int ((p0 >>> ((10 : Int32) &&& 31)) &&& (1023 : Int32))), (0, .int p0)]) hx hb dX2_walkedGreater_8 rfl hl (by decide) rfl (fun ls hl => ?_)
  refine lv_iload_n hx hb dX2_walkedGreater_9 rfl (lv_at hl 0 rfl) ?_
  refine lv_iconst (v := (1 : Int32)) hx hb dX2_walkedGreater_10 (by decide) ?_
  refine lv_ishl hx hb dX2_walkedGreater_11 ?_
  refine lv_sipush (v := (1023 : Int32)) hx hb dX2_walkedGreater_12 (by decide) ?_
  refine lv_iand hx hb dX2_walkedGreater_15 ?_
  refine lv_iload_n hx hb dX2_walkedGreater_16 rfl (lv_at hl 0 rfl) ?_
  refine lv_bipush (v := (9 : Int32)) hx hb dX2_walkedGreater_17 (by decide) ?_
  refine lv_ishr hx hb dX2_walkedGreater_19 ?_
  refine lv_ior hx hb dX2_walkedGreater_20 ?_
  refine lv_bipush (v := (10 : Int32)) hx hb dX2_walkedGreater_21 (by decide) ?_
  refine lv_ishl hx hb dX2_walkedGreater_23 ?_
  subst hQ
  exact retRO hx hb hr hlocks rfl hS h dX2_walkedGreater_24
theorem dX2_placesUnleaped_0 : decode cX2_placesUnleaped 0 = .ok (.aload_n 0, 1) := by decide +kernel
theorem dX2_placesUnleaped_1 : decode cX2_placesUnleaped 1 = .ok (.iload_n 1, 1) := by decide +kernel
theorem dX2_placesUnleaped_2 : decode cX2_placesUnleaped 2 = .ok (.invokevirtual 78, 3) := by decide +kernel
theorem dX2_placesUnleaped_5 : decode cX2_placesUnleaped 5 = .ok (.iload_n 1, 1) := by decide +kernel
theorem dX2_placesUnleaped_6 : decode cX2_placesUnleaped 6 = .ok (.invokestatic 81, 3) := by decide +kernel
theorem dX2_placesUnleaped_9 : decode cX2_placesUnleaped 9 = .ok (.ior, 1) := by decide +kernel
theorem dX2_placesUnleaped_10 : decode cX2_placesUnleaped 10 = .ok (.iload_n 1, 1) := by decide +kernel
theorem dX2_placesUnleaped_11 : decode cX2_placesUnleaped 11 = .ok (.invokestatic 84, 3) := by decide +kernel
theorem dX2_placesUnleaped_14 : decode cX2_placesUnleaped 14 = .ok (.ior, 1) := by decide +kernel
theorem dX2_placesUnleaped_15 : decode cX2_placesUnleaped 15 = .ok (.ireturn, 1) := by decide +kernel
set_option maxRecDepth 20000 in
theorem ggX2_placesUnleaped_X2_placesStayed : GoodIn wsX2_placesUnleaped wsX2_placesStayed := goodIn_r _ [5, 6, 7, 14, 15, 16, 17, 18, 19, 20, 21, 22] (by decide +kernel) (by decide +kernel)
set_option maxRecDepth 20000 in
theorem gX2_placesUnleaped_X2_placesStayed : GoodIn wsX2_placesUnleaped (wsV RX2 78 RX2 yX2_placesStayed wsX2_placesStayed) := goodIn_app (goodIn_of _ (by decide +kernel)) ggX2_placesUnleaped_X2_placesStayed
set_option maxRecDepth 20000 in
theorem ggX2_placesUnleaped_X2_walkedLess : GoodIn wsX2_placesUnleaped wsX2_walkedLess := goodIn_r _ [10] (by decide +kernel) (by decide +kernel)
set_option maxRecDepth 20000 in
theorem gX2_placesUnleaped_X2_walkedLess : GoodIn wsX2_placesUnleaped (va_wsS RX2 81 yX2_walkedLess wsX2_walkedLess) := goodIn_app (goodIn_of _ (by decide +kernel)) ggX2_placesUnleaped_X2_walkedLess
set_option maxRecDepth 20000 in
theorem ggX2_placesUnleaped_X2_walkedGreater : GoodIn wsX2_placesUnleaped wsX2_walkedGreater := goodIn_r _ [13] (by decide +kernel) (by decide +kernel)
set_option maxRecDepth 20000 in
theorem gX2_placesUnleaped_X2_walkedGreater : GoodIn wsX2_placesUnleaped (va_wsS RX2 84 yX2_walkedGreater wsX2_walkedGreater) := goodIn_app (goodIn_of _ (by decide +kernel)) ggX2_placesUnleaped_X2_walkedGreater
set_option maxHeartbeats 4000000 in
set_option maxRecDepth 100000 in
theorem mX2_placesUnleaped (l : Launch) (dC : Nat → ClassId) (dI : Nat → Nat → Nat) (cI cC : ClassId) (sk : (Nat → Nat) × (Nat → Nat)) (f : Nat → Nat) (p1 : Int32) (c_lanes : AR) (c_spots : AR) (c_byLeaps : AR) (c_load : Int32) (c_gone : Int32) (c_held : Int32) (c_strong : Int32) (c_done : Int32) (c_r : RT) (z : Int32) (h : fX2_placesUnleaped p1 c_strong = some z) : cRO l yX2_placesUnleaped wsX2_placesUnleaped (RMk 1 21) sk (dC, dI) (tyz cI cC) (zwV cI cC f c_lanes c_spots c_byLeaps c_load c_gone c_held c_strong c_done c_r) [.ref (f 0), .int p1] z := by
  refine ofRO (cc := cX2_placesUnleaped) (maxL := 2) (ret := (some .int)) (own := RX2) (plainFor_of_name (by decide)) rfl rfl (Nat.le_of_ble_eq_true rfl) ?_
  intro p e s m args below meth c hx hb hml hr hts hown hlocks hE hK hP hS ls hl
  generalize hQ : qRO _ _ _ _ = Q
  have hl : lv_has ls 2 [(0, .ref (f 0)), (1, .int p1)] := hl
  rw [fX2_placesUnleaped] at h
  refine lv_aload_n hx hb dX2_placesUnleaped_0 rfl (lv_at hl 0 rfl) ?_
  refine lv_iload_n hx hb dX2_placesUnleaped_1 rfl (lv_at hl 1 rfl) ?_
  obtain ⟨q2, e2, h⟩ := bd_some h
  refine g_roV (wc := (zwV cI cC f c_lanes c_spots c_byLeaps c_load c_gone c_held c_strong c_done c_r)) ⟨hx, hb, hml, hown, hts⟩ hE hK hP hS [0, 1, 2, 3, 4, 5, 6, 7, 8, 9] rfl (mX2_placesStayed l dC dI cI cC sk f p1 c_lanes c_spots c_byLeaps c_load c_gone c_held c_strong c_done c_r q2 e2) (cwV 1 hts gX2_placesUnleaped_X2_placesStayed rfl rfl rfl (by decide +kernel) ⟨Nat.le_of_ble_eq_true rfl, Nat.le_of_ble_eq_true rfl⟩) (va_recv hK hP (ci := 2) (q0 := 0) rfl rfl) (As := [.int p1]) (rest := []) rfl hl.1 rfl (Nat.le_of_ble_eq_true rfl) dX2_placesUnleaped_2 ⟨Nat.zero_le _, Nat.zero_le _⟩ (fun H locs hP hS => ?_)
  refine lv_iload_n hx hb dX2_placesUnleaped_5 rfl (lv_at hl 1 rfl) ?_
  obtain ⟨q6, e6, h⟩ := bd_some h
  refine g_roS (wc := ([] : va_W)) ⟨hx, hb, hml, hown, hts⟩ hE hK hP hS [] rfl (mX2_walkedLess l dC dI cI cC sk  p1 q6 e6) (va_cwS 1 hts gX2_placesUnleaped_X2_walkedLess rfl rfl rfl (by decide +kernel) ⟨Nat.le_of_ble_eq_true rfl, Nat.le_of_ble_eq_true rfl⟩) (As := [.int p1]) (rest := [.int q2]) rfl hl.1 rfl (Nat.le_of_ble_eq_true rfl) dX2_placesUnleaped_6 ⟨Nat.zero_le _, Nat.zero_le _⟩ (fun H locs hP hS => ?_)
  refine lv_ior hx hb dX2_placesUnleaped_9 ?_
  refine lv_iload_n hx hb dX2_placesUnleaped_10 rfl (lv_at hl 1 rfl) ?_
  obtain ⟨q11, e11, h⟩ := bd_some h
  refine g_roS (wc := ([] : va_W)) ⟨hx, hb, hml, hown, hts⟩ hE hK hP hS [] rfl (mX2_walkedGreater l dC dI cI cC sk  p1 q11 e11) (va_cwS 1 hts gX2_placesUnleaped_X2_walkedGreater rfl rfl rfl (by decide +kernel) ⟨Nat.le_of_ble_eq_true rfl, Nat.le_of_ble_eq_true rfl⟩) (As := [.int p1]) (rest := [.int (q2 ||| q6)]) rfl hl.1 rfl (Nat.le_of_ble_eq_true rfl) dX2_placesUnleaped_11 ⟨Nat.zero_le _, Nat.zero_le _⟩ (fun H locs hP hS => ?_)
  refine lv_ior hx hb dX2_placesUnleaped_14 ?_
  subst hQ
  exact retRO hx hb hr hlocks rfl hS h dX2_placesUnleaped_15
theorem dX2_cellsNear_0 : decode cX2_cellsNear 0 = .ok (.iconst 1, 1) := by decide +kernel
theorem dX2_cellsNear_1 : decode cX2_cellsNear 1 = .ok (.iload_n 0, 1) := by decide +kernel
theorem dX2_cellsNear_2 : decode cX2_cellsNear 2 = .ok (.ishl, 1) := by decide +kernel
theorem dX2_cellsNear_3 : decode cX2_cellsNear 3 = .ok (.iconst 1, 1) := by decide +kernel
theorem dX2_cellsNear_4 : decode cX2_cellsNear 4 = .ok (.iload_n 0, 1) := by decide +kernel
theorem dX2_cellsNear_5 : decode cX2_cellsNear 5 = .ok (.iconst 1, 1) := by decide +kernel
theorem dX2_cellsNear_6 : decode cX2_cellsNear 6 = .ok (.iadd, 1) := by decide +kernel
theorem dX2_cellsNear_7 : decode cX2_cellsNear 7 = .ok (.bipush 10, 2) := by decide +kernel
theorem dX2_cellsNear_9 : decode cX2_cellsNear 9 = .ok (.irem, 1) := by decide +kernel
theorem dX2_cellsNear_10 : decode cX2_cellsNear 10 = .ok (.ishl, 1) := by decide +kernel
theorem dX2_cellsNear_11 : decode cX2_cellsNear 11 = .ok (.ior, 1) := by decide +kernel
theorem dX2_cellsNear_12 : decode cX2_cellsNear 12 = .ok (.iconst 1, 1) := by decide +kernel
theorem dX2_cellsNear_13 : decode cX2_cellsNear 13 = .ok (.iload_n 0, 1) := by decide +kernel
theorem dX2_cellsNear_14 : decode cX2_cellsNear 14 = .ok (.bipush 10, 2) := by decide +kernel
theorem dX2_cellsNear_16 : decode cX2_cellsNear 16 = .ok (.iadd, 1) := by decide +kernel
theorem dX2_cellsNear_17 : decode cX2_cellsNear 17 = .ok (.iconst 1, 1) := by decide +kernel
theorem dX2_cellsNear_18 : decode cX2_cellsNear 18 = .ok (.isub, 1) := by decide +kernel
theorem dX2_cellsNear_19 : decode cX2_cellsNear 19 = .ok (.bipush 10, 2) := by decide +kernel
theorem dX2_cellsNear_21 : decode cX2_cellsNear 21 = .ok (.irem, 1) := by decide +kernel
theorem dX2_cellsNear_22 : decode cX2_cellsNear 22 = .ok (.ishl, 1) := by decide +kernel
theorem dX2_cellsNear_23 : decode cX2_cellsNear 23 = .ok (.ior, 1) := by decide +kernel
theorem dX2_cellsNear_24 : decode cX2_cellsNear 24 = .ok (.ireturn, 1) := by decide +kernel
set_option maxHeartbeats 4000000 in
set_option maxRecDepth 100000 in
theorem mX2_cellsNear (l : Launch) (dC : Nat → ClassId) (dI : Nat → Nat → Nat) (cI cC : ClassId) (sk : (Nat → Nat) × (Nat → Nat))  (p0 : Int32)  (z : Int32) (h : fX2_cellsNear p0 = some z) : cRO l yX2_cellsNear wsX2_cellsNear (RMk 0 0) sk (dC, dI) (tyz cI cC) ([] : va_W) [.int p0] z := by
  refine ofRO (cc := cX2_cellsNear) (maxL := 1) (ret := (some .int)) (own := RX2) (plainFor_of_name (by decide)) rfl rfl (Nat.le_of_ble_eq_true rfl) ?_
  intro p e s m args below meth c hx hb hml hr hts hown hlocks hE hK hP hS ls hl
  generalize hQ : qRO _ _ _ _ = Q
  have hl : lv_has ls 1 [(0, .int p0)] := hl
  rw [fX2_cellsNear] at h
  refine lv_iconst (v := (1 : Int32)) hx hb dX2_cellsNear_0 (by decide) ?_
  refine lv_iload_n hx hb dX2_cellsNear_1 rfl (lv_at hl 0 rfl) ?_
  refine lv_ishl hx hb dX2_cellsNear_2 ?_
  refine lv_iconst (v := (1 : Int32)) hx hb dX2_cellsNear_3 (by decide) ?_
  refine lv_iload_n hx hb dX2_cellsNear_4 rfl (lv_at hl 0 rfl) ?_
  refine lv_iconst (v := (1 : Int32)) hx hb dX2_cellsNear_5 (by decide) ?_
  refine lv_iadd hx hb dX2_cellsNear_6 ?_
  refine lv_bipush (v := (10 : Int32)) hx hb dX2_cellsNear_7 (by decide) ?_
  refine lv_irem hx hb dX2_cellsNear_9 (by decide) ?_
  refine lv_ishl hx hb dX2_cellsNear_10 ?_
  refine lv_ior hx hb dX2_cellsNear_11 ?_
  refine lv_iconst (v := (1 : Int32)) hx hb dX2_cellsNear_12 (by decide) ?_
  refine lv_iload_n hx hb dX2_cellsNear_13 rfl (lv_at hl 0 rfl) ?_
  refine lv_bipush (v := (10 : Int32)) hx hb dX2_cellsNear_14 (by decide) ?_
  refine lv_iadd hx hb dX2_cellsNear_16 ?_
  refine lv_iconst (v := (1 : Int32)) hx hb dX2_cellsNear_17 (by decide) ?_
  refine lv_isub hx hb dX2_cellsNear_18 ?_
  refine lv_bipush (v := (10 : Int32)) hx hb dX2_cellsNear_19 (by decide) ?_
  refine lv_irem hx hb dX2_cellsNear_21 (by decide) ?_
  refine lv_ishl hx hb dX2_cellsNear_22 ?_
  refine lv_ior hx hb dX2_cellsNear_23 ?_
  subst hQ
  exact retRO hx hb hr hlocks rfl hS h dX2_cellsNear_24
