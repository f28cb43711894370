theorem dX2_bankBeside_0 : decode cX2_bankBeside 0 = .ok (.aload_n 0, 1) := by decide +kernel
theorem dX2_bankBeside_1 : decode cX2_bankBeside 1 = .ok (.getfield 12, 3) := by decide +kernel
theorem dX2_bankBeside_4 : decode cX2_bankBeside 4 = .ok (.iload_n 1, 1) := by decide +kernel
theorem dX2_bankBeside_5 : decode cX2_bankBeside 5 = .ok (.invokevirtual 52, 3) := by decide +kernel
theorem dX2_bankBeside_8 : decode cX2_bankBeside 8 = .ok (.ifCond .ne 5, 3) := by decide +kernel
theorem dX2_bankBeside_11 : decode cX2_bankBeside 11 = .ok (.iconst 0, 1) := by decide +kernel
theorem dX2_bankBeside_12 : decode cX2_bankBeside 12 = .ok (.ireturn, 1) := by decide +kernel
theorem dX2_bankBeside_13 : decode cX2_bankBeside 13 = .ok (.aload_n 0, 1) := by decide +kernel
theorem dX2_bankBeside_14 : decode cX2_bankBeside 14 = .ok (.getfield 18, 3) := by decide +kernel
theorem dX2_bankBeside_17 : decode cX2_bankBeside 17 = .ok (.iload_n 1, 1) := by decide +kernel
theorem dX2_bankBeside_18 : decode cX2_bankBeside 18 = .ok (.iaload, 1) := by decide +kernel
theorem dX2_bankBeside_19 : decode cX2_bankBeside 19 = .ok (.ifCond .ne 15, 3) := by decide +kernel
theorem dX2_bankBeside_22 : decode cX2_bankBeside 22 = .ok (.aload_n 0, 1) := by decide +kernel
theorem dX2_bankBeside_23 : decode cX2_bankBeside 23 = .ok (.getfield 22, 3) := by decide +kernel
theorem dX2_bankBeside_26 : decode cX2_bankBeside 26 = .ok (.iload_n 1, 1) := by decide +kernel
theorem dX2_bankBeside_27 : decode cX2_bankBeside 27 = .ok (.iaload, 1) := by decide +kernel
theorem dX2_bankBeside_28 : decode cX2_bankBeside 28 = .ok (.invokestatic 59, 3) := by decide +kernel
theorem dX2_bankBeside_31 : decode cX2_bankBeside 31 = .ok (.goto 4, 3) := by decide +kernel
theorem dX2_bankBeside_34 : decode cX2_bankBeside 34 = .ok (.iconst 0, 1) := by decide +kernel
theorem dX2_bankBeside_35 : decode cX2_bankBeside 35 = .ok (.istore_n 2, 1) := by decide +kernel
theorem dX2_bankBeside_36 : decode cX2_bankBeside 36 = .ok (.aload_n 0, 1) := by decide +kernel
theorem dX2_bankBeside_37 : decode cX2_bankBeside 37 = .ok (.getfield 18, 3) := by decide +kernel
theorem dX2_bankBeside_40 : decode cX2_bankBeside 40 = .ok (.iload_n 1, 1) := by decide +kernel
theorem dX2_bankBeside_41 : decode cX2_bankBeside 41 = .ok (.iaload, 1) := by decide +kernel
theorem dX2_bankBeside_42 : decode cX2_bankBeside 42 = .ok (.aload_n 0, 1) := by decide +kernel
theorem dX2_bankBeside_43 : decode cX2_bankBeside 43 = .ok (.getfield 12, 3) := by decide +kernel
theorem dX2_bankBeside_46 : decode cX2_bankBeside 46 = .ok (.getfield 103, 3) := by decide +kernel
theorem dX2_bankBeside_49 : decode cX2_bankBeside 49 = .ok (.iconst 1, 1) := by decide +kernel
theorem dX2_bankBeside_50 : decode cX2_bankBeside 50 = .ok (.isub, 1) := by decide +kernel
theorem dX2_bankBeside_51 : decode cX2_bankBeside 51 = .ok (.if_icmp .ne 11, 3) := by decide +kernel
theorem dX2_bankBeside_54 : decode cX2_bankBeside 54 = .ok (.iload_n 2, 1) := by decide +kernel
theorem dX2_bankBeside_55 : decode cX2_bankBeside 55 = .ok (.sipush 256, 3) := by decide +kernel
theorem dX2_bankBeside_58 : decode cX2_bankBeside 58 = .ok (.ior, 1) := by decide +kernel
theorem dX2_bankBeside_59 : decode cX2_bankBeside 59 = .ok (.goto 4, 3) := by decide +kernel
theorem dX2_bankBeside_62 : decode cX2_bankBeside 62 = .ok (.iload_n 2, 1) := by decide +kernel
theorem dX2_bankBeside_63 : decode cX2_bankBeside 63 = .ok (.ireturn, 1) := by decide +kernel
set_option maxRecDepth 20000 in
theorem ggX2_bankBeside_X0_has : GoodIn wsX2_bankBeside wsX0_has := goodIn_r _ [8, 9, 22, 23, 24, 25, 26, 27, 28, 29] (by decide +kernel) (by decide +kernel)
set_option maxRecDepth 20000 in
theorem gX2_bankBeside_X0_has : GoodIn wsX2_bankBeside (wsV RX2 52 RX0 yX0_has wsX0_has) := goodIn_app (goodIn_of _ (by decide +kernel)) ggX2_bankBeside_X0_has
set_option maxRecDepth 20000 in
theorem ggX2_bankBeside_X3_southCell : GoodIn wsX2_bankBeside wsX3_southCell := goodIn_r _ [12] (by decide +kernel) (by decide +kernel)
set_option maxRecDepth 20000 in
theorem gX2_bankBeside_X3_southCell_n59 : GoodIn wsX2_bankBeside (wsX3_southCell) := ggX2_bankBeside_X3_southCell
set_option maxHeartbeats 4000000 in
set_option maxRecDepth 100000 in
theorem mX2_bankBeside (l : Launch) (dC : Nat → ClassId) (dI : Nat → Nat → Nat) (cI cC : ClassId) (sk : (Nat → Nat) × (Nat → Nat)) (f : Nat → Nat) (p1 : Int32) (c_lanes : AR) (c_spots : AR) (c_byLeaps : AR) (c_load : Int32) (c_gone : Int32) (c_held : Int32) (c_strong : Int32) (c_done : Int32) (c_r : RT) (z : Int32) (h : fX2_bankBeside p1 c_lanes c_spots c_r = some z) : cRO l yX2_bankBeside wsX2_bankBeside (RMk 1 21) sk (dC, dI) (tyz cI cC) (zwV cI cC f c_lanes c_spots c_byLeaps c_load c_gone c_held c_strong c_done c_r) [.ref (f 0), .int p1] z := by
  refine ofRO (cc := cX2_bankBeside) (maxL := 3) (ret := (some .int)) (own := RX2) (plainFor_of_name (by decide)) rfl rfl (Nat.le_of_ble_eq_true rfl) ?_
  intro p e s m args below meth c hx hb hml hr hts hown hlocks hE hK hP hS ls hl
  generalize hQ : qRO _ _ _ _ = Q
  have hl : lv_has ls 3 [(0, .ref (f 0)), (1, .int p1)] := hl
  have hiX0 : ∀ w ∈ wsX00, w ∈ wsX2_bankBeside := fun w h => List.mem_cons_of_mem _ (List.mem_append_right _ h)
  have hiX2 : ∀ w ∈ wsX20, w ∈ wsX2_bankBeside := fun w h => List.mem_cons_of_mem _ (List.mem_append_left _ (List.mem_append_right _ h))
  have hw1 := hts (Cond.fieldLink RX2 12 "FloeToFloe$Walk" "river" "LFloeToFloe$River;") (List.mem_of_getElem? (i := 1) rfl)
  have hw2 := hts (Cond.fieldLink RX2 18 "FloeToFloe$Walk" "lanes" "[I") (List.mem_of_getElem? (i := 2) rfl)
  have hw3 := hts (Cond.fieldLink RX2 22 "FloeToFloe$Walk" "spots" "[I") (List.mem_of_getElem? (i := 3) rfl)
  have hw11 := hts (Cond.initialized RX3) (List.mem_of_getElem? (i := 11) rfl)
  have hw10 := hts (Cond.static yX3_southCell) (List.mem_of_getElem? (i := 10) rfl)
  have hnw0 : (Cond.fieldLinkNest "FloeToFloe$Walk" 103 "FloeToFloe$River" "lanes" "I" "FloeToFloe").before args s = true := va_Nw.use rfl (hE.1 0 _ rfl)
  rw [fX2_bankBeside] at h
  refine lv_aload_n hx hb dX2_bankBeside_0 rfl (lv_at hl 0 rfl) ?_
  refine va_get (D := (dC, dI)) (ci := 2) (v := .ref (f 4)) (C := RX2) (T := TX2) (N := 9) hx hb hts hiX2 hown hK hP 0 rfl rfl 0 (by decide) hw1 (fun _ h9 => h9) rfl dX2_bankBeside_1 ?_
  refine lv_iload_n hx hb dX2_bankBeside_4 rfl (lv_at hl 1 rfl) ?_
  obtain ⟨q5, e5, h⟩ := bd_some h
  refine g_roV (wc := (zwR cI cC (fun k => f (k + 4)) c_r)) ⟨hx, hb, hml, hown, hts⟩ hE hK hP hS [4, 5, 6, 7, 8, 9] rfl (mX0_has l dC dI cI cC sk (fun k => f (k + 4)) p1 c_r q5 e5) (cwV 1 hts gX2_bankBeside_X0_has rfl rfl rfl (by decide +kernel) ⟨Nat.le_of_ble_eq_true rfl, Nat.le_of_ble_eq_true rfl⟩) (va_recv hK hP (ci := 0) (q0 := 4) rfl rfl) (As := [.int p1]) (rest := []) rfl hl.1 rfl (Nat.le_of_ble_eq_true rfl) dX2_bankBeside_5 ⟨Nat.zero_le _, Nat.zero_le _⟩ (fun H locs hP hS => ?_)
  refine lv_if_ne (tgt := 13) hx hb dX2_bankBeside_8 (by decide) (fun c8 => ?_) (fun c8 => ?_)
  · have h := itF c8 h
    refine lv_aload_n hx hb dX2_bankBeside_13 rfl (lv_at hl 0 rfl) ?_
    refine va_get (D := (dC, dI)) (ci := 2) (v := .ref (f 1)) (C := RX2) (T := TX2) (N := 9) hx hb hts hiX2 hown hK hP 0 rfl rfl 1 (by decide) hw2 (fun _ h9 => h9) rfl dX2_bankBeside_14 ?_
    refine lv_iload_n hx hb dX2_bankBeside_17 rfl (lv_at hl 1 rfl) ?_
    obtain ⟨hin, h⟩ := ck_some h
    refine va_iald hx hb hK hP 1 0 rfl rfl hin dX2_bankBeside_18 ?_
    refine jnW (fun (v35 : Int32) => ∀ (H : Heap) (locs : List Loc) (ls : Array Slot), va_P (dC, dI) vwCl (zwV cI cC f c_lanes c_spots c_byLeaps c_load c_gone c_held c_strong c_done c_r) H → va_S noA s.heap H locs → lv_has ls 3 [(0, .ref (f 0)), (1, .int p1)] → W p l e (RMk 1 21) s m args below meth c H locs 0 0 Q (F0 m 35 ls [.int v35])) h (fun v35 h H locs ls hP hS hl => ?_) (fun J35 j35 h => ?_)
    · refine lv_istore_n (lv' := [(2, .int v35), (0, .ref (f 0)), (1, .int p1)]) hx hb dX2_bankBeside_35 rfl hl (by decide) rfl (fun ls hl => ?_)
      refine lv_aload_n hx hb dX2_bankBeside_36 rfl (lv_at hl 1 rfl) ?_
      refine va_get (D := (dC, dI)) (ci := 2) (v := .ref (f 1)) (C := RX2) (T := TX2) (N := 9) hx hb hts hiX2 hown hK hP 0 rfl rfl 1 (by decide) hw2 (fun _ h9 => h9) rfl dX2_bankBeside_37 ?_
      refine lv_iload_n hx hb dX2_bankBeside_40 rfl (lv_at hl 2 rfl) ?_
      obtain ⟨hin, h⟩ := ck_some h
      refine va_iald hx hb hK hP 1 0 rfl rfl hin dX2_bankBeside_41 ?_
      refine lv_aload_n hx hb dX2_bankBeside_42 rfl (lv_at hl 1 rfl) ?_
      refine va_get (D := (dC, dI)) (ci := 2) (v := .ref (f 4)) (C := RX2) (T := TX2) (N := 9) hx hb hts hiX2 hown hK hP 0 rfl rfl 0 (by decide) hw1 (fun _ h9 => h9) rfl dX2_bankBeside_43 ?_
      refine va_getN (D := (dC, dI)) (ci := 0) (v := .int (R_lanes c_r)) (C := RX0) (T := TX0) (N := 8) hx hb hts hiX0 hown hK hP 4 rfl rfl 5 (by decide) hnw0 (fun _ h9 => h9) rfl dX2_bankBeside_46 ?_
      refine lv_iconst (v := (1 : Int32)) hx hb dX2_bankBeside_49 (by decide) ?_
      refine lv_isub hx hb dX2_bankBeside_50 ?_
      refine lv_icmp_ne (tgt := 62) hx hb dX2_bankBeside_51 (by decide) (fun c51 => ?_) (fun c51 => ?_)
      · have h := itF c51 h
        refine lv_iload_n hx hb dX2_bankBeside_62 rfl (lv_at hl 0 rfl) ?_
        subst hQ
        exact retRO hx hb hr hlocks rfl hS h dX2_bankBeside_63
      have h := itT c51 h
      refine lv_iload_n hx hb dX2_bankBeside_54 rfl (lv_at hl 0 rfl) ?_
      refine lv_sipush (v := (256 : Int32)) hx hb dX2_bankBeside_55 (by decide) ?_
      refine lv_ior hx hb dX2_bankBeside_58 ?_
      refine lv_goto (tgt := 63) hx hb dX2_bankBeside_59 (by decide) ?_
      subst hQ
      exact retRO hx hb hr hlocks rfl hS h dX2_bankBeside_63
    refine lv_if_ne (tgt := 34) hx hb dX2_bankBeside_19 (by decide) (fun c19 => ?_) (fun c19 => ?_)
    · have h := itF c19 h
      refine lv_iconst (v := (0 : Int32)) hx hb dX2_bankBeside_34 (by decide) ?_
      exact j35 _ h _ _ _ hP hS (lv_sub hl [0, 1] rfl)
    have h := itT c19 h
    refine lv_aload_n hx hb dX2_bankBeside_22 rfl (lv_at hl 0 rfl) ?_
    refine va_get (D := (dC, dI)) (ci := 2) (v := .ref (f 2)) (C := RX2) (T := TX2) (N := 9) hx hb hts hiX2 hown hK hP 0 rfl rfl 2 (by decide) hw3 (fun _ h9 => h9) rfl dX2_bankBeside_23 ?_
    refine lv_iload_n hx hb dX2_bankBeside_26 rfl (lv_at hl 1 rfl) ?_
    obtain ⟨hin, h⟩ := ck_some h
    refine va_iald hx hb hK hP 2 0 rfl rfl hin dX2_bankBeside_27 ?_
    obtain ⟨q28, e28, h⟩ := bd_some h
    refine g_roN (wc := ([] : va_W)) ⟨hx, hb, hml, hown, hts⟩ hE hK hP hS [] rfl (mX3_southCell l dC dI cI cC sk  (c_spots (p1).toNatClampNeg) q28 e28) ⟨va_cnB 1 hts gX2_bankBeside_X3_southCell_n59 rfl rfl rfl (hE.1 10 _ rfl) hw11 (by decide +kernel) ⟨Nat.le_of_ble_eq_true rfl, Nat.le_of_ble_eq_true rfl⟩, hw10, trivial⟩ (As := [.int (c_spots (p1).toNatClampNeg)]) (rest := []) rfl hl.1 rfl (Nat.le_of_ble_eq_true rfl) dX2_bankBeside_28 ⟨Nat.zero_le _, Nat.zero_le _⟩ (fun H locs hP hS => ?_)
    refine lv_goto (tgt := 35) hx hb dX2_bankBeside_31 (by decide) ?_
    exact j35 _ h _ _ _ hP hS (lv_sub hl [0, 1] rfl)
  have h := itT c8 h
  refine lv_iconst (v := (0 : Int32)) hx hb dX2_bankBeside_11 (by decide) ?_
  subst hQ
  exact retRO hx hb hr hlocks rfl hS h dX2_bankBeside_12
