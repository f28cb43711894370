theorem dX2_look_0 : decode cX2_look 0 = .ok (.aload_n 0, 1) := by decide +kernel
theorem dX2_look_1 : decode cX2_look 1 = .ok (.iconst 0, 1) := by decide +kernel
theorem dX2_look_2 : decode cX2_look 2 = .ok (.putfield 38, 3) := by decide +kernel
theorem dX2_look_5 : decode cX2_look 5 = .ok (.iconst 0, 1) := by decide +kernel
theorem dX2_look_6 : decode cX2_look 6 = .ok (.istore_n 2, 1) := by decide +kernel
theorem dX2_look_7 : decode cX2_look 7 = .ok (.iload_n 2, 1) := by decide +kernel
theorem dX2_look_8 : decode cX2_look 8 = .ok (.bipush 8, 2) := by decide +kernel
theorem dX2_look_10 : decode cX2_look 10 = .ok (.if_icmp .ge 150, 3) := by decide +kernel
theorem dX2_look_13 : decode cX2_look 13 = .ok (.aload_n 0, 1) := by decide +kernel
theorem dX2_look_14 : decode cX2_look 14 = .ok (.getfield 35, 3) := by decide +kernel
theorem dX2_look_17 : decode cX2_look 17 = .ok (.iload_n 2, 1) := by decide +kernel
theorem dX2_look_18 : decode cX2_look 18 = .ok (.ishr, 1) := by decide +kernel
theorem dX2_look_19 : decode cX2_look 19 = .ok (.iconst 1, 1) := by decide +kernel
theorem dX2_look_20 : decode cX2_look 20 = .ok (.iand, 1) := by decide +kernel
theorem dX2_look_21 : decode cX2_look 21 = .ok (.iconst 1, 1) := by decide +kernel
theorem dX2_look_22 : decode cX2_look 22 = .ok (.if_icmp .ne 7, 3) := by decide +kernel
theorem dX2_look_25 : decode cX2_look 25 = .ok (.iconst 1, 1) := by decide +kernel
theorem dX2_look_26 : decode cX2_look 26 = .ok (.goto 4, 3) := by decide +kernel
theorem dX2_look_29 : decode cX2_look 29 = .ok (.iconst 0, 1) := by decide +kernel
theorem dX2_look_30 : decode cX2_look 30 = .ok (.istore_n 3, 1) := by decide +kernel
theorem dX2_look_31 : decode cX2_look 31 = .ok (.aload_n 0, 1) := by decide +kernel
theorem dX2_look_32 : decode cX2_look 32 = .ok (.getfield 18, 3) := by decide +kernel
theorem dX2_look_35 : decode cX2_look 35 = .ok (.iload_n 2, 1) := by decide +kernel
theorem dX2_look_36 : decode cX2_look 36 = .ok (.aload_n 0, 1) := by decide +kernel
theorem dX2_look_37 : decode cX2_look 37 = .ok (.getfield 12, 3) := by decide +kernel
theorem dX2_look_40 : decode cX2_look 40 = .ok (.iload_n 2, 1) := by decide +kernel
theorem dX2_look_41 : decode cX2_look 41 = .ok (.invokevirtual 41, 3) := by decide +kernel
theorem dX2_look_44 : decode cX2_look 44 = .ok (.iastore, 1) := by decide +kernel
theorem dX2_look_45 : decode cX2_look 45 = .ok (.aload_n 0, 1) := by decide +kernel
theorem dX2_look_46 : decode cX2_look 46 = .ok (.getfield 22, 3) := by decide +kernel
theorem dX2_look_49 : decode cX2_look 49 = .ok (.iload_n 2, 1) := by decide +kernel
theorem dX2_look_50 : decode cX2_look 50 = .ok (.aload_n 0, 1) := by decide +kernel
theorem dX2_look_51 : decode cX2_look 51 = .ok (.getfield 12, 3) := by decide +kernel
theorem dX2_look_54 : decode cX2_look 54 = .ok (.iload_n 2, 1) := by decide +kernel
theorem dX2_look_55 : decode cX2_look 55 = .ok (.iload_n 3, 1) := by decide +kernel
theorem dX2_look_56 : decode cX2_look 56 = .ok (.ifCond .eq 13, 3) := by decide +kernel
theorem dX2_look_59 : decode cX2_look 59 = .ok (.aload_n 0, 1) := by decide +kernel
theorem dX2_look_60 : decode cX2_look 60 = .ok (.getfield 12, 3) := by decide +kernel
theorem dX2_look_63 : decode cX2_look 63 = .ok (.getfield 45, 3) := by decide +kernel
theorem dX2_look_66 : decode cX2_look 66 = .ok (.goto 4, 3) := by decide +kernel
theorem dX2_look_69 : decode cX2_look 69 = .ok (.iload_n 1, 1) := by decide +kernel
theorem dX2_look_70 : decode cX2_look 70 = .ok (.invokevirtual 48, 3) := by decide +kernel
theorem dX2_look_73 : decode cX2_look 73 = .ok (.iastore, 1) := by decide +kernel
theorem dX2_look_74 : decode cX2_look 74 = .ok (.aload_n 0, 1) := by decide +kernel
theorem dX2_look_75 : decode cX2_look 75 = .ok (.getfield 12, 3) := by decide +kernel
theorem dX2_look_78 : decode cX2_look 78 = .ok (.iload_n 2, 1) := by decide +kernel
theorem dX2_look_79 : decode cX2_look 79 = .ok (.invokevirtual 52, 3) := by decide +kernel
theorem dX2_look_82 : decode cX2_look 82 = .ok (.ifCond .eq 18, 3) := by decide +kernel
theorem dX2_look_85 : decode cX2_look 85 = .ok (.aload_n 0, 1) := by decide +kernel
theorem dX2_look_86 : decode cX2_look 86 = .ok (.getfield 32, 3) := by decide +kernel
theorem dX2_look_89 : decode cX2_look 89 = .ok (.iload_n 2, 1) := by decide +kernel
theorem dX2_look_90 : decode cX2_look 90 = .ok (.ishr, 1) := by decide +kernel
theorem dX2_look_91 : decode cX2_look 91 = .ok (.iconst 1, 1) := by decide +kernel
theorem dX2_look_92 : decode cX2_look 92 = .ok (.iand, 1) := by decide +kernel
theorem dX2_look_93 : decode cX2_look 93 = .ok (.ifCond .ne 7, 3) := by decide +kernel
theorem dX2_look_96 : decode cX2_look 96 = .ok (.iconst 1, 1) := by decide +kernel
theorem dX2_look_97 : decode cX2_look 97 = .ok (.goto 4, 3) := by decide +kernel
theorem dX2_look_100 : decode cX2_look 100 = .ok (.iconst 0, 1) := by decide +kernel
theorem dX2_look_101 : decode cX2_look 101 = .ok (.istore 4, 2) := by decide +kernel
theorem dX2_look_103 : decode cX2_look 103 = .ok (.iload 4, 2) := by decide +kernel
theorem dX2_look_105 : decode cX2_look 105 = .ok (.ifCond .eq 49, 3) := by decide +kernel
theorem dX2_look_108 : decode cX2_look 108 = .ok (.aload_n 0, 1) := by decide +kernel
theorem dX2_look_109 : decode cX2_look 109 = .ok (.getfield 12, 3) := by decide +kernel
theorem dX2_look_112 : decode cX2_look 112 = .ok (.iload_n 2, 1) := by decide +kernel
theorem dX2_look_113 : decode cX2_look 113 = .ok (.iload_n 1, 1) := by decide +kernel
theorem dX2_look_114 : decode cX2_look 114 = .ok (.invokevirtual 56, 3) := by decide +kernel
theorem dX2_look_117 : decode cX2_look 117 = .ok (.aload_n 0, 1) := by decide +kernel
theorem dX2_look_118 : decode cX2_look 118 = .ok (.getfield 28, 3) := by decide +kernel
theorem dX2_look_121 : decode cX2_look 121 = .ok (.if_icmp .lt 33, 3) := by decide +kernel
theorem dX2_look_124 : decode cX2_look 124 = .ok (.aload_n 0, 1) := by decide +kernel
theorem dX2_look_125 : decode cX2_look 125 = .ok (.getfield 12, 3) := by decide +kernel
theorem dX2_look_128 : decode cX2_look 128 = .ok (.iload_n 2, 1) := by decide +kernel
theorem dX2_look_129 : decode cX2_look 129 = .ok (.iload_n 1, 1) := by decide +kernel
theorem dX2_look_130 : decode cX2_look 130 = .ok (.iconst 1, 1) := by decide +kernel
theorem dX2_look_131 : decode cX2_look 131 = .ok (.iadd, 1) := by decide +kernel
theorem dX2_look_132 : decode cX2_look 132 = .ok (.invokevirtual 56, 3) := by decide +kernel
theorem dX2_look_135 : decode cX2_look 135 = .ok (.aload_n 0, 1) := by decide +kernel
theorem dX2_look_136 : decode cX2_look 136 = .ok (.getfield 28, 3) := by decide +kernel
theorem dX2_look_139 : decode cX2_look 139 = .ok (.if_icmp .lt 15, 3) := by decide +kernel
theorem dX2_look_142 : decode cX2_look 142 = .ok (.aload_n 0, 1) := by decide +kernel
theorem dX2_look_143 : decode cX2_look 143 = .ok (.dup, 1) := by decide +kernel
theorem dX2_look_144 : decode cX2_look 144 = .ok (.getfield 38, 3) := by decide +kernel
theorem dX2_look_147 : decode cX2_look 147 = .ok (.iconst 1, 1) := by decide +kernel
theorem dX2_look_148 : decode cX2_look 148 = .ok (.iload_n 2, 1) := by decide +kernel
theorem dX2_look_149 : decode cX2_look 149 = .ok (.ishl, 1) := by decide +kernel
theorem dX2_look_150 : decode cX2_look 150 = .ok (.ior, 1) := by decide +kernel
theorem dX2_look_151 : decode cX2_look 151 = .ok (.putfield 38, 3) := by decide +kernel
theorem dX2_look_154 : decode cX2_look 154 = .ok (.iinc 2 1, 3) := by decide +kernel
theorem dX2_look_157 : decode cX2_look 157 = .ok (.goto (-150), 3) := by decide +kernel
theorem dX2_look_160 : decode cX2_look 160 = .ok (.return_, 1) := by decide +kernel
set_option maxRecDepth 20000 in
theorem ggX2_look_X0_laneOf : GoodIn wsX2_look wsX0_laneOf := goodIn_r _ [12, 13, 14, 15, 16, 11, 17, 18, 52, 53, 54, 55, 56, 57, 58, 59] (by decide +kernel) (by decide +kernel)
set_option maxRecDepth 20000 in
theorem gX2_look_X0_laneOf : GoodIn wsX2_look (wsV RX2 41 RX0 yX0_laneOf wsX0_laneOf) := goodIn_app (goodIn_of _ (by decide +kernel)) ggX2_look_X0_laneOf
set_option maxRecDepth 20000 in
theorem ggX2_look_X0_spotOf : GoodIn wsX2_look wsX0_spotOf := goodIn_r _ [22, 23, 24, 25, 14, 15, 16, 11, 17, 18, 26, 27, 28, 29, 30, 31, 32, 52, 53, 54, 55, 56, 57, 58, 59] (by decide +kernel) (by decide +kernel)
set_option maxRecDepth 20000 in
theorem gX2_look_X0_spotOf : GoodIn wsX2_look (wsV RX2 48 RX0 yX0_spotOf wsX0_spotOf) := goodIn_app (goodIn_of _ (by decide +kernel)) ggX2_look_X0_spotOf
set_option maxRecDepth 20000 in
theorem ggX2_look_X0_has : GoodIn wsX2_look wsX0_has := goodIn_r _ [17, 18, 52, 53, 54, 55, 56, 57, 58, 59] (by decide +kernel) (by decide +kernel)
set_option maxRecDepth 20000 in
theorem gX2_look_X0_has : GoodIn wsX2_look (wsV RX2 52 RX0 yX0_has wsX0_has) := goodIn_app (goodIn_of _ (by decide +kernel)) ggX2_look_X0_has
set_option maxRecDepth 20000 in
theorem ggX2_look_X0_strengthOf : GoodIn wsX2_look wsX0_strengthOf := goodIn_r _ [37, 38, 23, 39, 40, 41, 42, 14, 15, 16, 11, 17, 18, 52, 53, 54, 55, 56, 57, 58, 59] (by decide +kernel) (by decide +kernel)
set_option maxRecDepth 20000 in
theorem gX2_look_X0_strengthOf : GoodIn wsX2_look (wsV RX2 56 RX0 yX0_strengthOf wsX0_strengthOf) := goodIn_app (goodIn_of _ (by decide +kernel)) ggX2_look_X0_strengthOf
set_option maxHeartbeats 4000000 in
set_option maxRecDepth 100000 in
theorem mX2_look (l : Launch) (dC : Nat → ClassId) (dI : Nat → Nat → Nat) (cI cC : ClassId) (sk : (Nat → Nat) × (Nat → Nat)) (f : Nat → Nat) (sz : Nat) (p1 : Int32) (c_lanes : AR) (c_spots : AR) (c_byLeaps : AR) (c_load : Int32) (c_gone : Int32) (c_held : Int32) (c_strong : Int32) (c_done : Int32) (c_r : RT) (z : AR × AR × Int32) (h : fX2_look p1 c_lanes c_spots c_load c_gone c_held c_r = some z) : cRV l yX2_look wsX2_look (RMk 3 69) sk (dC, dI) (tyz cI cC) sz (zwV cI cC f c_lanes c_spots c_byLeaps c_load c_gone c_held c_strong c_done c_r) (zwV cI cC f z.1 z.2.1 c_byLeaps c_load c_gone c_held z.2.2 c_done c_r) [.ref (f 0), .int p1] := by
  refine ofRV (cc := cX2_look) (maxL := 5) (ret := none) (own := RX2) (plainFor_of_name (by decide)) rfl rfl (Nat.le_of_ble_eq_true rfl) ?_
  intro p e s m args below meth c A hA hx hb hml hr hts hown hlocks hE hK hP hD hS ls hl
  generalize hQ : qRV _ _ _ _ _ _ = Q
  have hl : lv_has ls 5 [(0, .ref (f 0)), (1, .int p1)] := hl
  have hiX0 : ∀ w ∈ wsX00, w ∈ wsX2_look := fun w h => List.mem_cons_of_mem _ (List.mem_append_right _ h)
  have hiX2 : ∀ w ∈ wsX20, w ∈ wsX2_look := fun w h => List.mem_cons_of_mem _ (List.mem_append_left _ (List.mem_append_right _ h))
  have hw1 := hts (Cond.fieldLink RX2 38 "FloeToFloe$Walk" "strong" "I") (List.mem_of_getElem? (i := 1) rfl)
  have hw2 := hts (Cond.fieldLink RX2 35 "FloeToFloe$Walk" "held" "I") (List.mem_of_getElem? (i := 2) rfl)
  have hw3 := hts (Cond.fieldLink RX2 18 "FloeToFloe$Walk" "lanes" "[I") (List.mem_of_getElem? (i := 3) rfl)
  have hw4 := hts (Cond.fieldLink RX2 12 "FloeToFloe$Walk" "river" "LFloeToFloe$River;") (List.mem_of_getElem? (i := 4) rfl)
  have hw5 := hts (Cond.fieldLink RX2 22 "FloeToFloe$Walk" "spots" "[I") (List.mem_of_getElem? (i := 5) rfl)
  have hw6 := hts (Cond.fieldLink RX2 32 "FloeToFloe$Walk" "gone" "I") (List.mem_of_getElem? (i := 6) rfl)
  have hw7 := hts (Cond.fieldLink RX2 28 "FloeToFloe$Walk" "load" "I") (List.mem_of_getElem? (i := 7) rfl)
  have hnw3 : (Cond.fieldLinkNest "FloeToFloe$Walk" 45 "FloeToFloe$River" "minute" "I" "FloeToFloe").before args s = true := va_Nw.use rfl (hE.1 3 _ rfl)
  rw [fX2_look] at h
  refine lv_aload_n hx hb dX2_look_0 rfl (lv_at hl 0 rfl) ?_
  refine lv_iconst (v := (0 : Int32)) hx hb dX2_look_1 (by decide) ?_
  refine va_put (D := (dC, dI)) (ci := 2) (v := .int (0 : Int32)) (ty := .int) (C := RX2) (T := TX2) (N := 9) hx hb hts hiX2 tyX2 tyX2_ok nmX2 hown hK hP hD hS 0 rfl rfl 7 (by decide) hw1 (fun _ h9 => h9) rfl (by decide +kernel) rfl rfl (Nat.le_of_ble_eq_true rfl) dX2_look_2 (fun H locs hP hD hS => ?_)
  have hP : va_P (dC, dI) vwCl (zwV cI cC f c_lanes c_spots c_byLeaps c_load c_gone c_held (0 : Int32) c_done c_r) H := hP
  have hD : va_D A (zwV cI cC f c_lanes c_spots c_byLeaps c_load c_gone c_held (0 : Int32) c_done c_r) := hD
  refine lv_iconst (v := (0 : Int32)) hx hb dX2_look_5 (by decide) ?_
  refine lv_istore_n (lv' := [(2, .int (0 : Int32)), (0, .ref (f 0)), (1, .int p1)]) hx hb dX2_look_6 rfl hl (by decide) rfl (fun ls hl => ?_)
  have L7 : ∀ (K7 : AR → AR → Int32 → Option (AR × AR × Int32)), (∀ (k7_lanes : AR) (k7_spots : AR) (k7_strong : Int32), K7 k7_lanes k7_spots k7_strong = some z → ∀ (H : Heap) (locs : List Loc) (ls : Array Slot), va_P (dC, dI) vwCl (zwV cI cC f k7_lanes k7_spots c_byLeaps c_load c_gone c_held k7_strong c_done c_r) H → va_D A (zwV cI cC f k7_lanes k7_spots c_byLeaps c_load c_gone c_held k7_strong c_done c_r) → va_S A s.heap H locs → lv_has ls 5 [] → W p l e (RMk 3 69) s m args below meth c H locs 0 0 Q (F0 m 160 ls [])) → ∀ (n : Nat) (x7_2 : Int32) (x7_lanes : AR) (x7_spots : AR) (x7_strong : Int32), fX2_look_L7 c_gone c_held c_load c_r p1 K7 n x7_2 x7_lanes x7_spots x7_strong = some z → ∀ (H : Heap) (locs : List Loc) (ls : Array Slot), va_P (dC, dI) vwCl (zwV cI cC f x7_lanes x7_spots c_byLeaps c_load c_gone c_held x7_strong c_done c_r) H → va_D A (zwV cI cC f x7_lanes x7_spots c_byLeaps c_load c_gone c_held x7_strong c_done c_r) → va_S A s.heap H locs → lv_has ls 5 [(0, .ref (f 0)), (1, .int p1), (2, .int x7_2)] → W p l e (RMk 3 69) s m args below meth c H locs 0 0 Q (F0 m 7 ls []) := by
    intro K7 kx7 n
    induction n with
    | zero => intro x7_2 x7_lanes x7_spots x7_strong h; rw [fX2_look_L7] at h; cases h
    | succ n ih7 =>
      intro x7_2 x7_lanes x7_spots x7_strong h H locs ls hP hD hS hl
      rw [fX2_look_L7] at h
      refine lv_iload_n hx hb dX2_look_7 rfl (lv_at hl 2 rfl) ?_
      refine lv_bipush (v := (8 : Int32)) hx hb dX2_look_8 (by decide) ?_
      refine lv_icmp_ge (tgt := 160) hx hb dX2_look_10 (by decide) (fun c10 => ?_) (fun c10 => ?_)
      · have h := itT c10 h
        exact kx7 _ _ _ h _ _ _ hP hD hS (lv_sub hl [] rfl)
      have h := itF c10 h
      refine lv_aload_n hx hb dX2_look_13 rfl (lv_at hl 0 rfl) ?_
      refine va_get (D := (dC, dI)) (ci := 2) (v := .int c_held) (C := RX2) (T := TX2) (N := 9) hx hb hts hiX2 hown hK hP 0 rfl rfl 6 (by decide) hw2 (fun _ h9 => h9) rfl dX2_look_14 ?_
      refine lv_iload_n hx hb dX2_look_17 rfl (lv_at hl 2 rfl) ?_
      refine lv_ishr hx hb dX2_look_18 ?_
      refine lv_iconst (v := (1 : Int32)) hx hb dX2_look_19 (by decide) ?_
      refine lv_iand hx hb dX2_look_20 ?_
      refine lv_iconst (v := (1 : Int32)) hx hb dX2_look_21 (by decide) ?_
      refine jnW (fun (v30 : Int32) => ∀ (H : Heap) (locs : List Loc) (ls : Array Slot), va_P (dC, dI) vwCl (zwV cI cC f x7_lanes x7_spots c_byLeaps c_load c_gone c_held x7_strong c_done c_r) H → va_D A (zwV cI cC f x7_lanes x7_spots c_byLeaps c_load c_gone c_held x7_strong c_done c_r) → va_S A s.heap H locs → lv_has ls 5 [(0, .ref (f 0)), (1, .int p1), (2, .int x7_2)] → W p l e (RMk 3 69) s m args below meth c H locs 0 0 Q (F0 m 30 ls [.int v30])) h (fun v30 h H locs ls hP hD hS hl => ?_) (fun J30 j30 h => ?_)
      · refine lv_istore_n (lv' := [(3, .int v30), (0, .ref (f 0)), (1, .int p1), (2, .int x7_2)]) hx hb dX2_look_30 rfl hl (by decide) rfl (fun ls hl => ?_)
        refine lv_aload_n hx hb dX2_look_31 rfl (lv_at hl 1 rfl) ?_
        refine va_get (D := (dC, dI)) (ci := 2) (v := .ref (f 1)) (C := RX2) (T := TX2) (N := 9) hx hb hts hiX2 hown hK hP 0 rfl rfl 1 (by decide) hw3 (fun _ h9 => h9) rfl dX2_look_32 ?_
        refine lv_iload_n hx hb dX2_look_35 rfl (lv_at hl 3 rfl) ?_
        refine lv_aload_n hx hb dX2_look_36 rfl (lv_at hl 1 rfl) ?_
        refine va_get (D := (dC, dI)) (ci := 2) (v := .ref (f 4)) (C := RX2) (T := TX2) (N := 9) hx hb hts hiX2 hown hK hP 0 rfl rfl 0 (by decide) hw4 (fun _ h9 => h9) rfl dX2_look_37 ?_
        refine lv_iload_n hx hb dX2_look_40 rfl (lv_at hl 3 rfl) ?_
        obtain ⟨q41, e41, h⟩ := bd_some h
        refine g_roV (wc := (zwR cI cC (fun k => f (k + 4)) c_r)) ⟨hx, hb, hml, hown, hts⟩ hE hK hP hS [4, 5, 6, 7, 8, 9] rfl (mX0_laneOf l dC dI cI cC sk (fun k => f (k + 4)) x7_2 c_r q41 e41) (cwV 1 hts gX2_look_X0_laneOf rfl rfl rfl (by decide +kernel) ⟨Nat.le_of_ble_eq_true rfl, Nat.le_of_ble_eq_true rfl⟩) (va_recv hK hP (ci := 0) (q0 := 4) rfl rfl) (As := [.int x7_2]) (rest := [.int x7_2, .ref (f 1)]) rfl hl.1 rfl (Nat.le_of_ble_eq_true rfl) dX2_look_41 ⟨Nat.zero_le _, Nat.zero_le _⟩ (fun H locs hP hS => ?_)
        obtain ⟨hin, h⟩ := ck_some h
        refine va_iast hx hb hK hP hD hS 1 0 rfl rfl hin dX2_look_44 (fun H locs hP hD hS => ?_)
        have hP : va_P (dC, dI) vwCl (zwV cI cC f (upd x7_lanes (x7_2).toNatClampNeg q41) x7_spots c_byLeaps c_load c_gone c_held x7_strong c_done c_r) H := hP
        have hD : va_D A (zwV cI cC f (upd x7_lanes (x7_2).toNatClampNeg q41) x7_spots c_byLeaps c_load c_gone c_held x7_strong c_done c_r) := hD
        refine lv_aload_n hx hb dX2_look_45 rfl (lv_at hl 1 rfl) ?_
        refine va_get (D := (dC, dI)) (ci := 2) (v := .ref (f 2)) (C := RX2) (T := TX2) (N := 9) hx hb hts hiX2 hown hK hP 0 rfl rfl 2 (by decide) hw5 (fun _ h9 => h9) rfl dX2_look_46 ?_
        refine lv_iload_n hx hb dX2_look_49 rfl (lv_at hl 3 rfl) ?_
        refine lv_aload_n hx hb dX2_look_50 rfl (lv_at hl 1 rfl) ?_
        refine va_get (D := (dC, dI)) (ci := 2) (v := .ref (f 4)) (C := RX2) (T := TX2) (N := 9) hx hb hts hiX2 hown hK hP 0 rfl rfl 0 (by decide) hw4 (fun _ h9 => h9) rfl dX2_look_51 ?_
        refine lv_iload_n hx hb dX2_look_54 rfl (lv_at hl 3 rfl) ?_
        refine lv_iload_n hx hb dX2_look_55 rfl (lv_at hl 0 rfl) ?_
        refine jnW (fun (v70 : Int32) => ∀ (H : Heap) (locs : List Loc) (ls : Array Slot), va_P (dC, dI) vwCl (zwV cI cC f (upd x7_lanes (x7_2).toNatClampNeg q41) x7_spots c_byLeaps c_load c_gone c_held x7_strong c_done c_r) H → va_D A (zwV cI cC f (upd x7_lanes (x7_2).toNatClampNeg q41) x7_spots c_byLeaps c_load c_gone c_held x7_strong c_done c_r) → va_S A s.heap H locs → lv_has ls 5 [(0, .ref (f 0)), (1, .int p1), (2, .int x7_2)] → W p l e (RMk 3 69) s m args below meth c H locs 0 0 Q (F0 m 70 ls [.int v70, .int x7_2, .ref (f 4), .int x7_2, .ref (f 2)])) h (fun v70 h H locs ls hP hD hS hl => ?_) (fun J70 j70 h => ?_)
        · obtain ⟨q70, e70, h⟩ := bd_some h
          refine g_roV (wc := (zwR cI cC (fun k => f (k + 4)) c_r)) ⟨hx, hb, hml, hown, hts⟩ hE hK hP hS [4, 5, 6, 7, 8, 9] rfl (mX0_spotOf l dC dI cI cC sk (fun k => f (k + 4)) x7_2 v70 c_r q70 e70) (cwV 2 hts gX2_look_X0_spotOf rfl rfl rfl (by decide +kernel) ⟨Nat.le_of_ble_eq_true rfl, Nat.le_of_ble_eq_true rfl⟩) (va_recv hK hP (ci := 0) (q0 := 4) rfl rfl) (As := [.int x7_2, .int v70]) (rest := [.int x7_2, .ref (f 2)]) rfl hl.1 rfl (Nat.le_of_ble_eq_true rfl) dX2_look_70 ⟨Nat.zero_le _, Nat.zero_le _⟩ (fun H locs hP hS => ?_)
          obtain ⟨hin, h⟩ := ck_some h
          refine va_iast hx hb hK hP hD hS 2 0 rfl rfl hin dX2_look_73 (fun H locs hP hD hS => ?_)
          have hP : va_P (dC, dI) vwCl (zwV cI cC f (upd x7_lanes (x7_2).toNatClampNeg q41) (upd x7_spots (x7_2).toNatClampNeg q70) c_byLeaps c_load c_gone c_held x7_strong c_done c_r) H := hP
          have hD : va_D A (zwV cI cC f (upd x7_lanes (x7_2).toNatClampNeg q41) (upd x7_spots (x7_2).toNatClampNeg q70) c_byLeaps c_load c_gone c_held x7_strong c_done c_r) := hD
          refine lv_aload_n hx hb dX2_look_74 rfl (lv_at hl 0 rfl) ?_
          refine va_get (D := (dC, dI)) (ci := 2) (v := .ref (f 4)) (C := RX2) (T := TX2) (N := 9) hx hb hts hiX2 hown hK hP 0 rfl rfl 0 (by decide) hw4 (fun _ h9 => h9) rfl dX2_look_75 ?_
          refine lv_iload_n hx hb dX2_look_78 rfl (lv_at hl 2 rfl) ?_
          obtain ⟨q79, e79, h⟩ := bd_some h
          refine g_roV (wc := (zwR cI cC (fun k => f (k + 4)) c_r)) ⟨hx, hb, hml, hown, hts⟩ hE hK hP hS [4, 5, 6, 7, 8, 9] rfl (mX0_has l dC dI cI cC sk (fun k => f (k + 4)) x7_2 c_r q79 e79) (cwV 1 hts gX2_look_X0_has rfl rfl rfl (by decide +kernel) ⟨Nat.le_of_ble_eq_true rfl, Nat.le_of_ble_eq_true rfl⟩) (va_recv hK hP (ci := 0) (q0 := 4) rfl rfl) (As := [.int x7_2]) (rest := []) rfl hl.1 rfl (Nat.le_of_ble_eq_true rfl) dX2_look_79 ⟨Nat.zero_le _, Nat.zero_le _⟩ (fun H locs hP hS => ?_)
          refine jnW (fun (v101 : Int32) => ∀ (H : Heap) (locs : List Loc) (ls : Array Slot), va_P (dC, dI) vwCl (zwV cI cC f (upd x7_lanes (x7_2).toNatClampNeg q41) (upd x7_spots (x7_2).toNatClampNeg q70) c_byLeaps c_load c_gone c_held x7_strong c_done c_r) H → va_D A (zwV cI cC f (upd x7_lanes (x7_2).toNatClampNeg q41) (upd x7_spots (x7_2).toNatClampNeg q70) c_byLeaps c_load c_gone c_held x7_strong c_done c_r) → va_S A s.heap H locs → lv_has ls 5 [(0, .ref (f 0)), (1, .int p1), (2, .int x7_2)] → W p l e (RMk 3 69) s m args below meth c H locs 0 0 Q (F0 m 101 ls [.int v101])) h (fun v101 h H locs ls hP hD hS hl => ?_) (fun J101 j101 h => ?_)
          · refine lv_istore (lv' := [(4, .int v101), (0, .ref (f 0)), (1, .int p1), (2, .int x7_2)]) hx hb dX2_look_101 hl (by decide) rfl (fun ls hl => ?_)
            refine lv_iload hx hb dX2_look_103 (lv_at hl 0 rfl) ?_
            refine lv_if_eq (tgt := 154) hx hb dX2_look_105 (by decide) (fun c105 => ?_) (fun c105 => ?_)
            · have h := itT c105 h
              refine lv_iinc (v := (x7_2 + (1 : Int32))) (lv' := [(2, .int (x7_2 + (1 : Int32))), (4, .int v101), (0, .ref (f 0)), (1, .int p1)]) hx hb dX2_look_154 hl (k := 3) rfl rfl (by decide) rfl (fun ls hl => ?_)
              refine lv_goto (tgt := 7) hx hb dX2_look_157 (by decide) ?_
              exact ih7 _ _ _ _ h _ _ _ hP hD hS (lv_sub hl [2, 3, 0] rfl)
            have h := itF c105 h
            refine lv_aload_n hx hb dX2_look_108 rfl (lv_at hl 1 rfl) ?_
            refine va_get (D := (dC, dI)) (ci := 2) (v := .ref (f 4)) (C := RX2) (T := TX2) (N := 9) hx hb hts hiX2 hown hK hP 0 rfl rfl 0 (by decide) hw4 (fun _ h9 => h9) rfl dX2_look_109 ?_
            refine lv_iload_n hx hb dX2_look_112 rfl (lv_at hl 3 rfl) ?_
            refine lv_iload_n hx hb dX2_look_113 rfl (lv_at hl 2 rfl) ?_
            obtain ⟨q114, e114, h⟩ := bd_some h
            refine g_roV (wc := (zwR cI cC (fun k => f (k + 4)) c_r)) ⟨hx, hb, hml, hown, hts⟩ hE hK hP hS [4, 5, 6, 7, 8, 9] rfl (mX0_strengthOf l dC dI cI cC sk (fun k => f (k + 4)) x7_2 p1 c_r q114 e114) (cwV 2 hts gX2_look_X0_strengthOf rfl rfl rfl (by decide +kernel) ⟨Nat.le_of_ble_eq_true rfl, Nat.le_of_ble_eq_true rfl⟩) (va_recv hK hP (ci := 0) (q0 := 4) rfl rfl) (As := [.int x7_2, .int p1]) (rest := []) rfl hl.1 rfl (Nat.le_of_ble_eq_true rfl) dX2_look_114 ⟨Nat.zero_le _, Nat.zero_le _⟩ (fun H locs hP hS => ?_)
            refine lv_aload_n hx hb dX2_look_117 rfl (lv_at hl 1 rfl) ?_
            refine va_get (D := (dC, dI)) (ci := 2) (v := .int c_load) (C := RX2) (T := TX2) (N := 9) hx hb hts hiX2 hown hK hP 0 rfl rfl 4 (by decide) hw7 (fun _ h9 => h9) rfl dX2_look_118 ?_
            refine lv_icmp_lt (tgt := 154) hx hb dX2_look_121 (by decide) (fun c121 => ?_) (fun c121 => ?_)
            · have h := itT c121 h
              refine lv_iinc (v := (x7_2 + (1 : Int32))) (lv' := [(2, .int (x7_2 + (1 : Int32))), (4, .int v101), (0, .ref (f 0)), (1, .int p1)]) hx hb dX2_look_154 hl (k := 3) rfl rfl (by decide) rfl (fun ls hl => ?_)
              refine lv_goto (tgt := 7) hx hb dX2_look_157 (by decide) ?_
              exact ih7 _ _ _ _ h _ _ _ hP hD hS (lv_sub hl [2, 3, 0] rfl)
            have h := itF c121 h
            refine lv_aload_n hx hb dX2_look_124 rfl (lv_at hl 1 rfl) ?_
            refine va_get (D := (dC, dI)) (ci := 2) (v := .ref (f 4)) (C := RX2) (T := TX2) (N := 9) hx hb hts hiX2 hown hK hP 0 rfl rfl 0 (by decide) hw4 (fun _ h9 => h9) rfl dX2_look_125 ?_
            refine lv_iload_n hx hb dX2_look_128 rfl (lv_at hl 3 rfl) ?_
            refine lv_iload_n hx hb dX2_look_129 rfl (lv_at hl 2 rfl) ?_
            refine lv_iconst (v := (1 : Int32)) hx hb dX2_look_130 (by decide) ?_
            refine lv_iadd hx hb dX2_look_131 ?_
            obtain ⟨q132, e132, h⟩ := bd_some h
            refine g_roV (wc := (zwR cI cC (fun k => f (k + 4)) c_r)) ⟨hx, hb, hml, hown, hts⟩ hE hK hP hS [4, 5, 6, 7, 8, 9] rfl (mX0_strengthOf l dC dI cI cC sk (fun k => f (k + 4)) x7_2 (p1 + (1 : Int32)) c_r q132 e132) (cwV 2 hts gX2_look_X0_strengthOf rfl rfl rfl (by decide +kernel) ⟨Nat.le_of_ble_eq_true rfl, Nat.le_of_ble_eq_true rfl⟩) (va_recv hK hP (ci := 0) (q0 := 4) rfl rfl) (As := [.int x7_2, .int (p1 + (1 : Int32))]) (rest := []) rfl hl.1 rfl (Nat.le_of_ble_eq_true rfl) dX2_look_132 ⟨Nat.zero_le _, Nat.zero_le _⟩ (fun H locs hP hS => ?_)
            refine lv_aload_n hx hb dX2_look_135 rfl (lv_at hl 1 rfl) ?_
            refine va_get (D := (dC, dI)) (ci := 2) (v := .int c_load) (C := RX2) (T := TX2) (N := 9) hx hb hts hiX2 hown hK hP 0 rfl rfl 4 (by decide) hw7 (fun _ h9 => h9) rfl dX2_look_136 ?_
            refine lv_icmp_lt (tgt := 154) hx hb dX2_look_139 (by decide) (fun c139 => ?_) (fun c139 => ?_)
            · have h := itT c139 h
              refine lv_iinc (v := (x7_2 + (1 : Int32))) (lv' := [(2, .int (x7_2 + (1 : Int32))), (4, .int v101), (0, .ref (f 0)), (1, .int p1)]) hx hb dX2_look_154 hl (k := 3) rfl rfl (by decide) rfl (fun ls hl => ?_)
              refine lv_goto (tgt := 7) hx hb dX2_look_157 (by decide) ?_
              exact ih7 _ _ _ _ h _ _ _ hP hD hS (lv_sub hl [2, 3, 0] rfl)
            have h := itF c139 h
            refine lv_aload_n hx hb dX2_look_142 rfl (lv_at hl 1 rfl) ?_
            refine lv_dup hx hb dX2_look_143 rfl ?_
            refine va_get (D := (dC, dI)) (ci := 2) (v := .int x7_strong) (C := RX2) (T := TX2) (N := 9) hx hb hts hiX2 hown hK hP 0 rfl rfl 7 (by decide) hw1 (fun _ h9 => h9) rfl dX2_look_144 ?_
            refine lv_iconst (v := (1 : Int32)) hx hb dX2_look_147 (by decide) ?_
            refine lv_iload_n hx hb dX2_look_148 rfl (lv_at hl 3 rfl) ?_
            refine lv_ishl hx hb dX2_look_149 ?_
            refine lv_ior hx hb dX2_look_150 ?_
            refine va_put (D := (dC, dI)) (ci := 2) (v := .int (x7_strong ||| ((1 : Int32) <<< (x7_2 &&& 31)))) (ty := .int) (C := RX2) (T := TX2) (N := 9) hx hb hts hiX2 tyX2 tyX2_ok nmX2 hown hK hP hD hS 0 rfl rfl 7 (by decide) hw1 (fun _ h9 => h9) rfl (by decide +kernel) rfl rfl (Nat.le_of_ble_eq_true rfl) dX2_look_151 (fun H locs hP hD hS => ?_)
            have hP : va_P (dC, dI) vwCl (zwV cI cC f (upd x7_lanes (x7_2).toNatClampNeg q41) (upd x7_spots (x7_2).toNatClampNeg q70) c_byLeaps c_load c_gone c_held (x7_strong ||| ((1 : Int32) <<< (x7_2 &&& 31))) c_done c_r) H := hP
            have hD : va_D A (zwV cI cC f (upd x7_lanes (x7_2).toNatClampNeg q41) (upd x7_spots (x7_2).toNatClampNeg q70) c_byLeaps c_load c_gone c_held (x7_strong ||| ((1 : Int32) <<< (x7_2 &&& 31))) c_done c_r) := hD
            refine lv_iinc (v := (x7_2 + (1 : Int32))) (lv' := [(2, .int (x7_2 + (1 : Int32))), (4, .int v101), (0, .ref (f 0)), (1, .int p1)]) hx hb dX2_look_154 hl (k := 3) rfl rfl (by decide) rfl (fun ls hl => ?_)
            refine lv_goto (tgt := 7) hx hb dX2_look_157 (by decide) ?_
            exact ih7 _ _ _ _ h _ _ _ hP hD hS (lv_sub hl [2, 3, 0] rfl)
          refine jnW (fun (v100 : Unit) => ∀ (H : Heap) (locs : List Loc) (ls : Array Slot), va_P (dC, dI) vwCl (zwV cI cC f (upd x7_lanes (x7_2).toNatClampNeg q41) (upd x7_spots (x7_2).toNatClampNeg q70) c_byLeaps c_load c_gone c_held x7_strong c_done c_r) H → va_D A (zwV cI cC f (upd x7_lanes (x7_2).toNatClampNeg q41) (upd x7_spots (x7_2).toNatClampNeg q70) c_byLeaps c_load c_gone c_held x7_strong c_done c_r) → va_S A s.heap H locs → lv_has ls 5 [(0, .ref (f 0)), (1, .int p1), (2, .int x7_2)] → W p l e (RMk 3 69) s m args below meth c H locs 0 0 Q (F0 m 100 ls [])) h (fun v100 h H locs ls hP hD hS hl => ?_) (fun J100 j100 h => ?_)
          · refine lv_iconst (v := (0 : Int32)) hx hb dX2_look_100 (by decide) ?_
            exact j101 _ h _ _ _ hP hD hS (lv_sub hl [0, 1, 2] rfl)
          refine lv_if_eq (tgt := 100) hx hb dX2_look_82 (by decide) (fun c82 => ?_) (fun c82 => ?_)
          · have h := itT c82 h
            exact j100 _ h _ _ _ hP hD hS (lv_sub hl [0, 1, 2] rfl)
          have h := itF c82 h
          refine lv_aload_n hx hb dX2_look_85 rfl (lv_at hl 0 rfl) ?_
          refine va_get (D := (dC, dI)) (ci := 2) (v := .int c_gone) (C := RX2) (T := TX2) (N := 9) hx hb hts hiX2 hown hK hP 0 rfl rfl 5 (by decide) hw6 (fun _ h9 => h9) rfl dX2_look_86 ?_
          refine lv_iload_n hx hb dX2_look_89 rfl (lv_at hl 2 rfl) ?_
          refine lv_ishr hx hb dX2_look_90 ?_
          refine lv_iconst (v := (1 : Int32)) hx hb dX2_look_91 (by decide) ?_
          refine lv_iand hx hb dX2_look_92 ?_
          refine lv_if_ne (tgt := 100) hx hb dX2_look_93 (by decide) (fun c93 => ?_) (fun c93 => ?_)
          · have h := itF c93 h
            exact j100 _ h _ _ _ hP hD hS (lv_sub hl [0, 1, 2] rfl)
          have h := itT c93 h
          refine lv_iconst (v := (1 : Int32)) hx hb dX2_look_96 (by decide) ?_
          refine lv_goto (tgt := 101) hx hb dX2_look_97 (by decide) ?_
          exact j101 _ h _ _ _ hP hD hS (lv_sub hl [0, 1, 2] rfl)
        refine lv_if_eq (tgt := 69) hx hb dX2_look_56 (by decide) (fun c56 => ?_) (fun c56 => ?_)
        · have h := itT c56 h
          refine lv_iload_n hx hb dX2_look_69 rfl (lv_at hl 2 rfl) ?_
          exact j70 _ h _ _ _ hP hD hS (lv_sub hl [1, 2, 3] rfl)
        have h := itF c56 h
        refine lv_aload_n hx hb dX2_look_59 rfl (lv_at hl 1 rfl) ?_
        refine va_get (D := (dC, dI)) (ci := 2) (v := .ref (f 4)) (C := RX2) (T := TX2) (N := 9) hx hb hts hiX2 hown hK hP 0 rfl rfl 0 (by decide) hw4 (fun _ h9 => h9) rfl dX2_look_60 ?_
        refine va_getN (D := (dC, dI)) (ci := 0) (v := .int (R_minute c_r)) (C := RX0) (T := TX0) (N := 8) hx hb hts hiX0 hown hK hP 4 rfl rfl 7 (by decide) hnw3 (fun _ h9 => h9) rfl dX2_look_63 ?_
        refine lv_goto (tgt := 70) hx hb dX2_look_66 (by decide) ?_
        exact j70 _ h _ _ _ hP hD hS (lv_sub hl [1, 2, 3] rfl)
      refine lv_icmp_ne (tgt := 29) hx hb dX2_look_22 (by decide) (fun c22 => ?_) (fun c22 => ?_)
      · have h := itF c22 h
        refine lv_iconst (v := (0 : Int32)) hx hb dX2_look_29 (by decide) ?_
        exact j30 _ h _ _ _ hP hD hS (lv_sub hl [0, 1, 2] rfl)
      have h := itT c22 h
      refine lv_iconst (v := (1 : Int32)) hx hb dX2_look_25 (by decide) ?_
      refine lv_goto (tgt := 30) hx hb dX2_look_26 (by decide) ?_
      exact j30 _ h _ _ _ hP hD hS (lv_sub hl [0, 1, 2] rfl)
  refine L7 _ (fun k7_lanes k7_spots k7_strong h H locs ls hP hD hS hl => ?_) _ _ _ _ _ h _ _ _ hP hD hS (lv_sub hl [1, 2, 0] rfl)
  subst hQ
  exact retRV (zz := ((k7_lanes, k7_spots, k7_strong) : AR × AR × Int32)) (fun z => (zwV cI cC f z.1 z.2.1 c_byLeaps c_load c_gone c_held z.2.2 c_done c_r)) hx hb hr hlocks hS h hP dX2_look_160
