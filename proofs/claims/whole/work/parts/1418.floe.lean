theorem dX3_fitsRow_0 : decode cX3_fitsRow 0 = .ok (.iload_n 1, 1) := by decide +kernel
theorem dX3_fitsRow_1 : decode cX3_fitsRow 1 = .ok (.ifCond .ne 7, 3) := by decide +kernel
theorem dX3_fitsRow_4 : decode cX3_fitsRow 4 = .ok (.iconst 0, 1) := by decide +kernel
theorem dX3_fitsRow_5 : decode cX3_fitsRow 5 = .ok (.goto 13, 3) := by decide +kernel
theorem dX3_fitsRow_8 : decode cX3_fitsRow 8 = .ok (.iload_n 1, 1) := by decide +kernel
theorem dX3_fitsRow_9 : decode cX3_fitsRow 9 = .ok (.iconst 1, 1) := by decide +kernel
theorem dX3_fitsRow_10 : decode cX3_fitsRow 10 = .ok (.if_icmp .ne 7, 3) := by decide +kernel
theorem dX3_fitsRow_13 : decode cX3_fitsRow 13 = .ok (.iconst 3, 1) := by decide +kernel
theorem dX3_fitsRow_14 : decode cX3_fitsRow 14 = .ok (.goto 4, 3) := by decide +kernel
theorem dX3_fitsRow_17 : decode cX3_fitsRow 17 = .ok (.iconst 4, 1) := by decide +kernel
theorem dX3_fitsRow_18 : decode cX3_fitsRow 18 = .ok (.istore_n 3, 1) := by decide +kernel
theorem dX3_fitsRow_19 : decode cX3_fitsRow 19 = .ok (.iconst 0, 1) := by decide +kernel
theorem dX3_fitsRow_20 : decode cX3_fitsRow 20 = .ok (.istore 4, 2) := by decide +kernel
theorem dX3_fitsRow_22 : decode cX3_fitsRow 22 = .ok (.iload 4, 2) := by decide +kernel
theorem dX3_fitsRow_24 : decode cX3_fitsRow 24 = .ok (.aload_n 0, 1) := by decide +kernel
theorem dX3_fitsRow_25 : decode cX3_fitsRow 25 = .ok (.getfield 138, 3) := by decide +kernel
theorem dX3_fitsRow_28 : decode cX3_fitsRow 28 = .ok (.if_icmp .ge 44, 3) := by decide +kernel
theorem dX3_fitsRow_31 : decode cX3_fitsRow 31 = .ok (.iload 4, 2) := by decide +kernel
theorem dX3_fitsRow_33 : decode cX3_fitsRow 33 = .ok (.aload_n 0, 1) := by decide +kernel
theorem dX3_fitsRow_34 : decode cX3_fitsRow 34 = .ok (.getfield 39, 3) := by decide +kernel
theorem dX3_fitsRow_37 : decode cX3_fitsRow 37 = .ok (.arraylength, 1) := by decide +kernel
theorem dX3_fitsRow_38 : decode cX3_fitsRow 38 = .ok (.if_icmp .ge 34, 3) := by decide +kernel
theorem dX3_fitsRow_41 : decode cX3_fitsRow 41 = .ok (.aload_n 0, 1) := by decide +kernel
theorem dX3_fitsRow_42 : decode cX3_fitsRow 42 = .ok (.getfield 39, 3) := by decide +kernel
theorem dX3_fitsRow_45 : decode cX3_fitsRow 45 = .ok (.iload 4, 2) := by decide +kernel
theorem dX3_fitsRow_47 : decode cX3_fitsRow 47 = .ok (.iaload, 1) := by decide +kernel
theorem dX3_fitsRow_48 : decode cX3_fitsRow 48 = .ok (.iload_n 3, 1) := by decide +kernel
theorem dX3_fitsRow_49 : decode cX3_fitsRow 49 = .ok (.aload_n 0, 1) := by decide +kernel
theorem dX3_fitsRow_50 : decode cX3_fitsRow 50 = .ok (.getfield 39, 3) := by decide +kernel
theorem dX3_fitsRow_53 : decode cX3_fitsRow 53 = .ok (.iconst 0, 1) := by decide +kernel
theorem dX3_fitsRow_54 : decode cX3_fitsRow 54 = .ok (.iaload, 1) := by decide +kernel
theorem dX3_fitsRow_55 : decode cX3_fitsRow 55 = .ok (.iload_n 2, 1) := by decide +kernel
theorem dX3_fitsRow_56 : decode cX3_fitsRow 56 = .ok (.iload 4, 2) := by decide +kernel
theorem dX3_fitsRow_58 : decode cX3_fitsRow 58 = .ok (.invokestatic 171, 3) := by decide +kernel
theorem dX3_fitsRow_61 : decode cX3_fitsRow 61 = .ok (.if_icmp .eq 5, 3) := by decide +kernel
theorem dX3_fitsRow_64 : decode cX3_fitsRow 64 = .ok (.iconst 0, 1) := by decide +kernel
theorem dX3_fitsRow_65 : decode cX3_fitsRow 65 = .ok (.ireturn, 1) := by decide +kernel
theorem dX3_fitsRow_66 : decode cX3_fitsRow 66 = .ok (.iinc 4 1, 3) := by decide +kernel
theorem dX3_fitsRow_69 : decode cX3_fitsRow 69 = .ok (.goto (-47), 3) := by decide +kernel
theorem dX3_fitsRow_72 : decode cX3_fitsRow 72 = .ok (.aload_n 0, 1) := by decide +kernel
theorem dX3_fitsRow_73 : decode cX3_fitsRow 73 = .ok (.getfield 138, 3) := by decide +kernel
theorem dX3_fitsRow_76 : decode cX3_fitsRow 76 = .ok (.ifCond .le 19, 3) := by decide +kernel
theorem dX3_fitsRow_79 : decode cX3_fitsRow 79 = .ok (.aload_n 0, 1) := by decide +kernel
theorem dX3_fitsRow_80 : decode cX3_fitsRow 80 = .ok (.getfield 39, 3) := by decide +kernel
theorem dX3_fitsRow_83 : decode cX3_fitsRow 83 = .ok (.iconst 0, 1) := by decide +kernel
theorem dX3_fitsRow_84 : decode cX3_fitsRow 84 = .ok (.iaload, 1) := by decide +kernel
theorem dX3_fitsRow_85 : decode cX3_fitsRow 85 = .ok (.invokestatic 116, 3) := by decide +kernel
theorem dX3_fitsRow_88 : decode cX3_fitsRow 88 = .ok (.ifCond .eq 7, 3) := by decide +kernel
theorem dX3_fitsRow_91 : decode cX3_fitsRow 91 = .ok (.iconst 1, 1) := by decide +kernel
theorem dX3_fitsRow_92 : decode cX3_fitsRow 92 = .ok (.goto 4, 3) := by decide +kernel
theorem dX3_fitsRow_95 : decode cX3_fitsRow 95 = .ok (.iconst 0, 1) := by decide +kernel
theorem dX3_fitsRow_96 : decode cX3_fitsRow 96 = .ok (.ireturn, 1) := by decide +kernel
set_option maxRecDepth 20000 in
theorem ggX3_fitsRow_X0_spotAt : GoodIn wsX3_fitsRow wsX0_spotAt := goodIn_r _ [6, 7, 8, 9, 10] (by decide +kernel) (by decide +kernel)
set_option maxRecDepth 20000 in
theorem gX3_fitsRow_X0_spotAt : GoodIn wsX3_fitsRow (va_wsS RX3 171 yX0_spotAt wsX0_spotAt) := goodIn_app (goodIn_of _ (by decide +kernel)) ggX3_fitsRow_X0_spotAt
set_option maxRecDepth 20000 in
theorem ggX3_fitsRow_X3_isCell : GoodIn wsX3_fitsRow wsX3_isCell := goodIn_r _ [14] (by decide +kernel) (by decide +kernel)
set_option maxRecDepth 20000 in
theorem gX3_fitsRow_X3_isCell : GoodIn wsX3_fitsRow (va_wsS RX3 116 yX3_isCell wsX3_isCell) := goodIn_app (goodIn_of _ (by decide +kernel)) ggX3_fitsRow_X3_isCell
set_option maxHeartbeats 4000000 in
set_option maxRecDepth 100000 in
theorem mX3_fitsRow (l : Launch) (dC : Nat → ClassId) (dI : Nat → Nat → Nat) (cI cC : ClassId) (sk : (Nat → Nat) × (Nat → Nat)) (f : Nat → Nat) (p1 : Int32) (p2 : Int32) (c_lanes : AR) (c_spots : AR) (c_byLeaps : AR) (c_load : Int32) (c_gone : Int32) (c_held : Int32) (c_strong : Int32) (c_done : Int32) (c_rn : RT) (c_rt : RT) (c_letters : AR) (c_size : Int32) (c_rp : RT) (c_seen : AR) (c_refs : AR) (c_inRow : Int32) (c_isPic : Int32) (z : Int32) (h : fX3_fitsRow p1 p2 c_seen c_inRow = some z) : cRO l yX3_fitsRow wsX3_fitsRow (RMk 2 47) sk (dC, dI) (tyz cI cC) (zwX cI cC f c_lanes c_spots c_byLeaps c_load c_gone c_held c_strong c_done c_rn c_rt c_letters c_size c_rp c_seen c_refs c_inRow c_isPic) [.ref (f 0), .int p1, .int p2] z := by
  refine ofRO (cc := cX3_fitsRow) (maxL := 5) (ret := (some .boolean)) (own := RX3) (plainFor_of_name (by decide)) rfl rfl (Nat.le_of_ble_eq_true rfl) ?_
  intro p e s m args below meth c hx hb hml hr hts hown hlocks hE hK hP hS ls hl
  generalize hQ : qRO _ _ _ _ = Q
  have hl : lv_has ls 5 [(0, .ref (f 0)), (1, .int p1), (2, .int p2)] := hl
  have hiX3 : ∀ w ∈ wsX30, w ∈ wsX3_fitsRow := fun w h => List.mem_cons_of_mem _ (List.mem_append_right _ h)
  have hw1 := hts (Cond.fieldLink RX3 138 "FloeToFloe" "inRow" "I") (List.mem_of_getElem? (i := 1) rfl)
  have hw2 := hts (Cond.fieldLink RX3 39 "FloeToFloe" "seen" "[I") (List.mem_of_getElem? (i := 2) rfl)
  rw [fX3_fitsRow] at h
  refine lv_iload_n hx hb dX3_fitsRow_0 rfl (lv_at hl 1 rfl) ?_
  refine jnW (fun (v18 : Int32) => ∀ (H : Heap) (locs : List Loc) (ls : Array Slot), va_P (dC, dI) vwCl (zwX cI cC f c_lanes c_spots c_byLeaps c_load c_gone c_held c_strong c_done c_rn c_rt c_letters c_size c_rp c_seen c_refs c_inRow c_isPic) H → va_S noA s.heap H locs → lv_has ls 5 [(0, .ref (f 0)), (2, .int p2)] → W p l e (RMk 2 47) s m args below meth c H locs 0 0 Q (F0 m 18 ls [.int v18])) h (fun v18 h H locs ls hP hS hl => ?_) (fun J18 j18 h => ?_)
  · refine lv_istore_n (lv' := [(3, .int v18), (0, .ref (f 0)), (2, .int p2)]) hx hb dX3_fitsRow_18 rfl hl (by decide) rfl (fun ls hl => ?_)
    refine lv_iconst (v := (0 : Int32)) hx hb dX3_fitsRow_19 (by decide) ?_
    refine lv_istore (lv' := [(4, .int (0 : Int32)), (3, .int v18), (0, .ref (f 0)), (2, .int p2)]) hx hb dX3_fitsRow_20 hl (by decide) rfl (fun ls hl => ?_)
    have L22 : ∀ (K22 : Unit → Option (Int32)), (∀ (_ : Unit), K22 () = some z → ∀ (H : Heap) (locs : List Loc) (ls : Array Slot), va_P (dC, dI) vwCl (zwX cI cC f c_lanes c_spots c_byLeaps c_load c_gone c_held c_strong c_done c_rn c_rt c_letters c_size c_rp c_seen c_refs c_inRow c_isPic) H → va_S noA s.heap H locs → lv_has ls 5 [(0, .ref (f 0))] → W p l e (RMk 2 47) s m args below meth c H locs 0 0 Q (F0 m 72 ls [])) → ∀ (n : Nat) (x22_4 : Int32), fX3_fitsRow_L22 c_inRow c_seen p2 v18 K22 n x22_4 = some z → ∀ (H : Heap) (locs : List Loc) (ls : Array Slot), va_P (dC, dI) vwCl (zwX cI cC f c_lanes c_spots c_byLeaps c_load c_gone c_held c_strong c_done c_rn c_rt c_letters c_size c_rp c_seen c_refs c_inRow c_isPic) H → va_S noA s.heap H locs → lv_has ls 5 [(0, .ref (f 0)), (2, .int p2), (3, .int v18), (4, .int x22_4)] → W p l e (RMk 2 47) s m args below meth c H locs 0 0 Q (F0 m 22 ls []) := by
      intro K22 kx22 n
      induction n with
      | zero => intro x22_4 h; rw [fX3_fitsRow_L22] at h; cases h
      | succ n ih22 =>
        intro x22_4 h H locs ls hP hS hl
        rw [fX3_fitsRow_L22] at h
        refine lv_iload hx hb dX3_fitsRow_22 (lv_at hl 3 rfl) ?_
        refine lv_aload_n hx hb dX3_fitsRow_24 rfl (lv_at hl 0 rfl) ?_
        refine va_get (D := (dC, dI)) (ci := 3) (v := .int c_inRow) (C := RX3) (T := TX3) (N := 9) hx hb hts hiX3 hown hK hP 0 rfl rfl 7 (by decide) hw1 (fun _ h9 => h9) rfl dX3_fitsRow_25 ?_
        refine lv_icmp_ge (tgt := 72) hx hb dX3_fitsRow_28 (by decide) (fun c28 => ?_) (fun c28 => ?_)
        · have h := itT c28 h
          exact kx22 () h _ _ _ hP hS (lv_sub hl [0] rfl)
        have h := itF c28 h
        refine lv_iload hx hb dX3_fitsRow_31 (lv_at hl 3 rfl) ?_
        refine lv_aload_n hx hb dX3_fitsRow_33 rfl (lv_at hl 0 rfl) ?_
        refine va_get (D := (dC, dI)) (ci := 3) (v := .ref (f 25)) (C := RX3) (T := TX3) (N := 9) hx hb hts hiX3 hown hK hP 0 rfl rfl 5 (by decide) hw2 (fun _ h9 => h9) rfl dX3_fitsRow_34 ?_
        refine va_alen hx hb hK hP 25 0 rfl rfl (v := (12 : Int32)) rfl dX3_fitsRow_37 ?_
        refine lv_icmp_ge (tgt := 72) hx hb dX3_fitsRow_38 (by decide) (fun c38 => ?_) (fun c38 => ?_)
        · have h := itT c38 h
          exact kx22 () h _ _ _ hP hS (lv_sub hl [0] rfl)
        have h := itF c38 h
        refine lv_aload_n hx hb dX3_fitsRow_41 rfl (lv_at hl 0 rfl) ?_
        refine va_get (D := (dC, dI)) (ci := 3) (v := .ref (f 25)) (C := RX3) (T := TX3) (N := 9) hx hb hts hiX3 hown hK hP 0 rfl rfl 5 (by decide) hw2 (fun _ h9 => h9) rfl dX3_fitsRow_42 ?_
        refine lv_iload hx hb dX3_fitsRow_45 (lv_at hl 3 rfl) ?_
        obtain ⟨hin, h⟩ := ck_some h
        refine va_iald hx hb hK hP 25 0 rfl rfl hin dX3_fitsRow_47 ?_
        refine lv_iload_n hx hb dX3_fitsRow_48 rfl (lv_at hl 2 rfl) ?_
        refine lv_aload_n hx hb dX3_fitsRow_49 rfl (lv_at hl 0 rfl) ?_
        refine va_get (D := (dC, dI)) (ci := 3) (v := .ref (f 25)) (C := RX3) (T := TX3) (N := 9) hx hb hts hiX3 hown hK hP 0 rfl rfl 5 (by decide) hw2 (fun _ h9 => h9) rfl dX3_fitsRow_50 ?_
        refine lv_iconst (v := (0 : Int32)) hx hb dX3_fitsRow_53 (by decide) ?_
        obtain ⟨hin, h⟩ := ck_some h
        refine va_iald hx hb hK hP 25 0 rfl rfl hin dX3_fitsRow_54 ?_
        refine lv_iload_n hx hb dX3_fitsRow_55 rfl (lv_at hl 1 rfl) ?_
        refine lv_iload hx hb dX3_fitsRow_56 (lv_at hl 3 rfl) ?_
        obtain ⟨q58, e58, h⟩ := bd_some h
        refine g_roS (wc := ([] : va_W)) ⟨hx, hb, hml, hown, hts⟩ hE hK hP hS [] rfl (mX0_spotAt l dC dI cI cC sk  v18 (c_seen ((0 : Int32)).toNatClampNeg) p2 x22_4 q58 e58) (va_cwS 4 hts gX3_fitsRow_X0_spotAt rfl rfl rfl (by decide +kernel) ⟨Nat.le_of_ble_eq_true rfl, Nat.le_of_ble_eq_true rfl⟩) (As := [.int v18, .int (c_seen ((0 : Int32)).toNatClampNeg), .int p2, .int x22_4]) (rest := [.int (c_seen (x22_4).toNatClampNeg)]) rfl hl.1 rfl (Nat.le_of_ble_eq_true rfl) dX3_fitsRow_58 ⟨Nat.zero_le _, Nat.zero_le _⟩ (fun H locs hP hS => ?_)
        refine lv_icmp_eq (tgt := 66) hx hb dX3_fitsRow_61 (by decide) (fun c61 => ?_) (fun c61 => ?_)
        · have h := itT c61 h
          refine lv_iinc (v := (x22_4 + (1 : Int32))) (lv' := [(4, .int (x22_4 + (1 : Int32))), (0, .ref (f 0)), (2, .int p2), (3, .int v18)]) hx hb dX3_fitsRow_66 hl (k := 3) rfl rfl (by decide) rfl (fun ls hl => ?_)
          refine lv_goto (tgt := 22) hx hb dX3_fitsRow_69 (by decide) ?_
          exact ih22 _ h _ _ _ hP hS (lv_sub hl [1, 2, 3, 0] rfl)
        have h := itF c61 h
        refine lv_iconst (v := (0 : Int32)) hx hb dX3_fitsRow_64 (by decide) ?_
        subst hQ
        exact retRO hx hb hr hlocks rfl hS h dX3_fitsRow_65
    refine L22 _ (fun _ h H locs ls hP hS hl => ?_) _ _ h _ _ _ hP hS (lv_sub hl [2, 3, 1, 0] rfl)
    refine lv_aload_n hx hb dX3_fitsRow_72 rfl (lv_at hl 0 rfl) ?_
    refine va_get (D := (dC, dI)) (ci := 3) (v := .int c_inRow) (C := RX3) (T := TX3) (N := 9) hx hb hts hiX3 hown hK hP 0 rfl rfl 7 (by decide) hw1 (fun _ h9 => h9) rfl dX3_fitsRow_73 ?_
    refine lv_if_le (tgt := 95) hx hb dX3_fitsRow_76 (by decide) (fun c76 => ?_) (fun c76 => ?_)
    · have h := itT c76 h
      refine lv_iconst (v := (0 : Int32)) hx hb dX3_fitsRow_95 (by decide) ?_
      subst hQ
      exact retRO hx hb hr hlocks rfl hS h dX3_fitsRow_96
    have h := itF c76 h
    refine lv_aload_n hx hb dX3_fitsRow_79 rfl (lv_at hl 0 rfl) ?_
    refine va_get (D := (dC, dI)) (ci := 3) (v := .ref (f 25)) (C := RX3) (T := TX3) (N := 9) hx hb hts hiX3 hown hK hP 0 rfl rfl 5 (by decide) hw2 (fun _ h9 => h9) rfl dX3_fitsRow_80 ?_
    refine lv_iconst (v := (0 : Int32)) hx hb dX3_fitsRow_83 (by decide) ?_
    obtain ⟨hin, h⟩ := ck_some h
    refine va_iald hx hb hK hP 25 0 rfl rfl hin dX3_fitsRow_84 ?_
    obtain ⟨q85, e85, h⟩ := bd_some h
    refine g_roS (wc := ([] : va_W)) ⟨hx, hb, hml, hown, hts⟩ hE hK hP hS [] rfl (mX3_isCell l dC dI cI cC sk  (c_seen ((0 : Int32)).toNatClampNeg) q85 e85) (va_cwS 1 hts gX3_fitsRow_X3_isCell rfl rfl rfl (by decide +kernel) ⟨Nat.le_of_ble_eq_true rfl, Nat.le_of_ble_eq_true rfl⟩) (As := [.int (c_seen ((0 : Int32)).toNatClampNeg)]) (rest := []) rfl hl.1 rfl (Nat.le_of_ble_eq_true rfl) dX3_fitsRow_85 ⟨Nat.zero_le _, Nat.zero_le _⟩ (fun H locs hP hS => ?_)
    refine lv_if_eq (tgt := 95) hx hb dX3_fitsRow_88 (by decide) (fun c88 => ?_) (fun c88 => ?_)
    · have h := itT c88 h
      refine lv_iconst (v := (0 : Int32)) hx hb dX3_fitsRow_95 (by decide) ?_
      subst hQ
      exact retRO hx hb hr hlocks rfl hS h dX3_fitsRow_96
    have h := itF c88 h
    refine lv_iconst (v := (1 : Int32)) hx hb dX3_fitsRow_91 (by decide) ?_
    refine lv_goto (tgt := 96) hx hb dX3_fitsRow_92 (by decide) ?_
    subst hQ
    exact retRO hx hb hr hlocks rfl hS h dX3_fitsRow_96
  refine lv_if_ne (tgt := 8) hx hb dX3_fitsRow_1 (by decide) (fun c1 => ?_) (fun c1 => ?_)
  · have h := itF c1 h
    refine lv_iload_n hx hb dX3_fitsRow_8 rfl (lv_at hl 1 rfl) ?_
    refine lv_iconst (v := (1 : Int32)) hx hb dX3_fitsRow_9 (by decide) ?_
    refine lv_icmp_ne (tgt := 17) hx hb dX3_fitsRow_10 (by decide) (fun c10 => ?_) (fun c10 => ?_)
    · have h := itF c10 h
      refine lv_iconst (v := (4 : Int32)) hx hb dX3_fitsRow_17 (by decide) ?_
      exact j18 _ h _ _ _ hP hS (lv_sub hl [0, 2] rfl)
    have h := itT c10 h
    refine lv_iconst (v := (3 : Int32)) hx hb dX3_fitsRow_13 (by decide) ?_
    refine lv_goto (tgt := 18) hx hb dX3_fitsRow_14 (by decide) ?_
    exact j18 _ h _ _ _ hP hS (lv_sub hl [0, 2] rfl)
  have h := itT c1 h
  refine lv_iconst (v := (0 : Int32)) hx hb dX3_fitsRow_4 (by decide) ?_
  refine lv_goto (tgt := 18) hx hb dX3_fitsRow_5 (by decide) ?_
  exact j18 _ h _ _ _ hP hS (lv_sub hl [0, 2] rfl)
