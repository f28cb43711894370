theorem dX2_begin_0 : decode cX2_begin 0 = .ok (.aload_n 0, 1) := by decide +kernel
theorem dX2_begin_1 : decode cX2_begin 1 = .ok (.iload_n 1, 1) := by decide +kernel
theorem dX2_begin_2 : decode cX2_begin 2 = .ok (.putfield 25, 3) := by decide +kernel
theorem dX2_begin_5 : decode cX2_begin 5 = .ok (.aload_n 0, 1) := by decide +kernel
theorem dX2_begin_6 : decode cX2_begin 6 = .ok (.iload_n 2, 1) := by decide +kernel
theorem dX2_begin_7 : decode cX2_begin 7 = .ok (.putfield 29, 3) := by decide +kernel
theorem dX2_begin_10 : decode cX2_begin 10 = .ok (.aload_n 0, 1) := by decide +kernel
theorem dX2_begin_11 : decode cX2_begin 11 = .ok (.iload_n 3, 1) := by decide +kernel
theorem dX2_begin_12 : decode cX2_begin 12 = .ok (.putfield 32, 3) := by decide +kernel
theorem dX2_begin_15 : decode cX2_begin 15 = .ok (.return_, 1) := by decide +kernel
set_option maxHeartbeats 4000000 in
set_option maxRecDepth 100000 in
theorem mX2_begin (l : Launch) (dC : Nat → ClassId) (dI : Nat → Nat → Nat) (cI cC : ClassId) (sk : (Nat → Nat) × (Nat → Nat)) (f : Nat → Nat) (sz : Nat) (p1 : Int32) (p2 : Int32) (p3 : Int32) (c_lanes : AR) (c_spots : AR) (c_byLeaps : AR) (c_load : Int32) (c_gone : Int32) (c_held : Int32) (c_strong : Int32) (c_done : Int32) (c_r : RT) (z : Int32 × Int32 × Int32) (h : fX2_begin p1 p2 p3 = some z) : cRV l yX2_begin wsX2_begin (RMk 0 0) sk (dC, dI) (tyz cI cC) sz (zwV cI cC f c_lanes c_spots c_byLeaps c_load c_gone c_held c_strong c_done c_r) (zwV cI cC f c_lanes c_spots c_byLeaps z.1 z.2.1 z.2.2 c_strong c_done c_r) [.ref (f 0), .int p1, .int p2, .int p3] := by
  refine ofRV (cc := cX2_begin) (maxL := 4) (ret := none) (own := RX2) (plainFor_of_name (by decide)) rfl rfl (Nat.le_of_ble_eq_true rfl) ?_
  intro p e s m args below meth c A hA hx hb hml hr hts hown hlocks hE hK hP hD hS ls hl
  generalize hQ : qRV _ _ _ _ _ _ = Q
  have hl : lv_has ls 4 [(0, .ref (f 0)), (1, .int p1), (2, .int p2), (3, .int p3)] := hl
  have hiX2 : ∀ w ∈ wsX20, w ∈ wsX2_begin := fun w h => List.mem_cons_of_mem _ (List.mem_append_right _ h)
  have hw1 := hts (Cond.fieldLink RX2 25 "FloeToFloe$Walk" "load" "I") (List.mem_of_getElem? (i := 1) rfl)
  have hw2 := hts (Cond.fieldLink RX2 29 "FloeToFloe$Walk" "gone" "I") (List.mem_of_getElem? (i := 2) rfl)
  have hw3 := hts (Cond.fieldLink RX2 32 "FloeToFloe$Walk" "held" "I") (List.mem_of_getElem? (i := 3) rfl)
  rw [fX2_begin] at h
  refine lv_aload_n hx hb dX2_begin_0 rfl (lv_at hl 0 rfl) ?_
  refine lv_iload_n hx hb dX2_begin_1 rfl (lv_at hl 1 rfl) ?_
  refine va_put (D := (dC, dI)) (ci := 2) (v := .int p1) (ty := .int) (C := RX2) (T := TX2) (N := 9) hx hb hts hiX2 tyX2 tyX2_ok nmX2 hown hK hP hD hS 0 rfl rfl 4 (by decide) hw1 (fun _ h9 => h9) rfl (by decide +kernel) rfl rfl (Nat.le_of_ble_eq_true rfl) dX2_begin_2 (fun H locs hP hD hS => ?_)
  have hP : va_P (dC, dI) vwCl (zwV cI cC f c_lanes c_spots c_byLeaps p1 c_gone c_held c_strong c_done c_r) H := hP
  have hD : va_D A (zwV cI cC f c_lanes c_spots c_byLeaps p1 c_gone c_held c_strong c_done c_r) := hD
  refine lv_aload_n hx hb dX2_begin_5 rfl (lv_at hl 0 rfl) ?_
  refine lv_iload_n hx hb dX2_begin_6 rfl (lv_at hl 2 rfl) ?_
  refine va_put (D := (dC, dI)) (ci := 2) (v := .int p2) (ty := .int) (C := RX2) (T := TX2) (N := 9) hx hb hts hiX2 tyX2 tyX2_ok nmX2 hown hK hP hD hS 0 rfl rfl 5 (by decide) hw2 (fun _ h9 => h9) rfl (by decide +kernel) rfl rfl (Nat.le_of_ble_eq_true rfl) dX2_begin_7 (fun H locs hP hD hS => ?_)
  have hP : va_P (dC, dI) vwCl (zwV cI cC f c_lanes c_spots c_byLeaps p1 p2 c_held c_strong c_done c_r) H := hP
  have hD : va_D A (zwV cI cC f c_lanes c_spots c_byLeaps p1 p2 c_held c_strong c_done c_r) := hD
  refine lv_aload_n hx hb dX2_begin_10 rfl (lv_at hl 0 rfl) ?_
  refine lv_iload_n hx hb dX2_begin_11 rfl (lv_at hl 3 rfl) ?_
  refine va_put (D := (dC, dI)) (ci := 2) (v := .int p3) (ty := .int) (C := RX2) (T := TX2) (N := 9) hx hb hts hiX2 tyX2 tyX2_ok nmX2 hown hK hP hD hS 0 rfl rfl 6 (by decide) hw3 (fun _ h9 => h9) rfl (by decide +kernel) rfl rfl (Nat.le_of_ble_eq_true rfl) dX2_begin_12 (fun H locs hP hD hS => ?_)
  have hP : va_P (dC, dI) vwCl (zwV cI cC f c_lanes c_spots c_byLeaps p1 p2 p3 c_strong c_done c_r) H := hP
  have hD : va_D A (zwV cI cC f c_lanes c_spots c_byLeaps p1 p2 p3 c_strong c_done c_r) := hD
  subst hQ
  exact retRV (zz := ((p1, p2, p3) : Int32 × Int32 × Int32)) (fun z => (zwV cI cC f c_lanes c_spots c_byLeaps z.1 z.2.1 z.2.2 c_strong c_done c_r)) hx hb hr hlocks hS h hP dX2_begin_15
theorem dX2_look_0 : decode cX2_look 0 = .ok (.aload_n 0, 1) := by decide +kernel
theorem dX2_look_1 : decode cX2_look 1 = .ok (.iconst 0, 1) := by decide +kernel
theorem dX2_look_2 : decode cX2_look 2 = .ok (.putfield 35, 3) := by decide +kernel
theorem dX2_look_5 : decode cX2_look 5 = .ok (.iconst 0, 1) := by decide +kernel
theorem dX2_look_6 : decode cX2_look 6 = .ok (.istore_n 2, 1) := by decide +kernel
theorem dX2_look_7 : decode cX2_look 7 = .ok (.iload_n 2, 1) := by decide +kernel
theorem dX2_look_8 : decode cX2_look 8 = .ok (.bipush 8, 2) := by decide +kernel
theorem dX2_look_10 : decode cX2_look 10 = .ok (.if_icmp .ge 150, 3) := by decide +kernel
theorem dX2_look_13 : decode cX2_look 13 = .ok (.aload_n 0, 1) := by decide +kernel
theorem dX2_look_14 : decode cX2_look 14 = .ok (.getfield 32, 3) := by decide +kernel
theorem dX2_look_17 : decode cX2_look 17 = .ok (.iload_n 2, 1) := by decide +kernel
theorem dX2_look_18 : decode cX2_look 18 = .ok (.ishr, 1) := by decide +kernel
theorem dX2_look_19 : decode cX2_look 19 = .ok (.iconst 1, 1) := by decide +kernel
theorem dX2_look_20 : decode cX2_look 20 = .ok (.iand, 1) := by decide +kernel
theorem dX2_look_21 : decode cX2_look 21 = .ok (.iconst 1, 1) := by decide +kernel
theorem dX2_look_22 : decode cX2_look 22 = .ok (.if_icmp .ne 7, 3) := by decide +kernel
theorem dX2_look_25 : decode cX2_look 25 = .ok (.iconst 1, 1) := by decide +kernel
theorem dX2_look_26 : decode cX2_look 26 = .ok (.goto 4, 3) := by decide +kernel
theorem dX2_look_29 : decode cX2_look 29 = .ok (.iconst 0, 1) := by decide +kernel
theorem dX2_look_30 : decode cX2_look 30 = .ok (.istore_n 3, 1) := by decide +kernel
theorem dX2_look_31 : decode cX2_look 31 = .ok (.aload_n 0, 1) := by decide +kernel
theorem dX2_look_32 : decode cX2_look 32 = .ok (.getfield 9, 3) := by decide +kernel
theorem dX2_look_35 : decode cX2_look 35 = .ok (.iload_n 2, 1) := by decide +kernel
theorem dX2_look_36 : decode cX2_look 36 = .ok (.aload_n 0, 1) := by decide +kernel
theorem dX2_look_37 : decode cX2_look 37 = .ok (.getfield 21, 3) := by decide +kernel
theorem dX2_look_40 : decode cX2_look 40 = .ok (.iload_n 2, 1) := by decide +kernel
theorem dX2_look_41 : decode cX2_look 41 = .ok (.invokevirtual 38, 3) := by decide +kernel
theorem dX2_look_44 : decode cX2_look 44 = .ok (.iastore, 1) := by decide +kernel
theorem dX2_look_45 : decode cX2_look 45 = .ok (.aload_n 0, 1) := by decide +kernel
theorem dX2_look_46 : decode cX2_look 46 = .ok (.getfield 15, 3) := by decide +kernel
theorem dX2_look_49 : decode cX2_look 49 = .ok (.iload_n 2, 1) := by decide +kernel
theorem dX2_look_50 : decode cX2_look 50 = .ok (.aload_n 0, 1) := by decide +kernel
theorem dX2_look_51 : decode cX2_look 51 = .ok (.getfield 21, 3) := by decide +kernel
theorem dX2_look_54 : decode cX2_look 54 = .ok (.iload_n 2, 1) := by decide +kernel
theorem dX2_look_55 : decode cX2_look 55 = .ok (.iload_n 3, 1) := by decide +kernel
theorem dX2_look_56 : decode cX2_look 56 = .ok (.ifCond .eq 13, 3) := by decide +kernel
theorem dX2_look_59 : decode cX2_look 59 = .ok (.aload_n 0, 1) := by decide +kernel
theorem dX2_look_60 : decode cX2_look 60 = .ok (.getfield 21, 3) := by decide +kernel
theorem dX2_look_63 : decode cX2_look 63 = .ok (.getfield 44, 3) := by decide +kernel
theorem dX2_look_66 : decode cX2_look 66 = .ok (.goto 4, 3) := by decide +kernel
theorem dX2_look_69 : decode cX2_look 69 = .ok (.iload_n 1, 1) := by decide +kernel
theorem dX2_look_70 : decode cX2_look 70 = .ok (.invokevirtual 47, 3) := by decide +kernel
theorem dX2_look_73 : decode cX2_look 73 = .ok (.iastore, 1) := by decide +kernel
theorem dX2_look_74 : decode cX2_look 74 = .ok (.aload_n 0, 1) := by decide +kernel
theorem dX2_look_75 : decode cX2_look 75 = .ok (.getfield 21, 3) := by decide +kernel
theorem dX2_look_78 : decode cX2_look 78 = .ok (.iload_n 2, 1) := by decide +kernel
theorem dX2_look_79 : decode cX2_look 79 = .ok (.invokevirtual 51, 3) := by decide +kernel
theorem dX2_look_82 : decode cX2_look 82 = .ok (.ifCond .eq 18, 3) := by decide +kernel
theorem dX2_look_85 : decode cX2_look 85 = .ok (.aload_n 0, 1) := by decide +kernel
theorem dX2_look_86 : decode cX2_look 86 = .ok (.getfield 29, 3) := by decide +kernel
theorem dX2_look_89 : decode cX2_look 89 = .ok (.iload_n 2, 1) := by decide +kernel
theorem dX2_look_90 : decode cX2_look 90 = .ok (.ishr, 1) := by decide +kernel
theorem dX2_look_91 : decode cX2_look 91 = .ok (.iconst 1, 1) := by decide +kernel
theorem dX2_look_92 : decode cX2_look 92 = .ok (.iand, 1) := by decide +kernel
theorem dX2_look_93 : decode cX2_look 93 = .ok (.ifCond .ne 7, 3) := by decide +kernel
theorem dX2_look_96 : decode cX2_look 96 = .ok (.iconst 1, 1) := by decide +kernel
theorem dX2_look_97 : decode cX2_look 97 = .ok (.goto 4, 3) := by decide +kernel
theorem dX2_look_100 : decode cX2_look 100 = .ok (.iconst 0, 1) := by decide +kernel
theorem dX2_look_101 : decode cX2_look 101 = .ok (.istore 4, 2) := by decide +kernel
theorem dX2_look_103 : decode cX2_look 103 = .ok (.iload 4, 2) := by decide +kernel
theorem dX2_look_105 : decode cX2_look 105 = .ok (.ifCond .eq 49, 3) := by decide +kernel
theorem dX2_look_108 : decode cX2_look 108 = .ok (.aload_n 0, 1) := by decide +kernel
theorem dX2_look_109 : decode cX2_look 109 = .ok (.getfield 21, 3) := by decide +kernel
theorem dX2_look_112 : decode cX2_look 112 = .ok (.iload_n 2, 1) := by decide +kernel
theorem dX2_look_113 : decode cX2_look 113 = .ok (.iload_n 1, 1) := by decide +kernel
theorem dX2_look_114 : decode cX2_look 114 = .ok (.invokevirtual 55, 3) := by decide +kernel
theorem dX2_look_117 : decode cX2_look 117 = .ok (.aload_n 0, 1) := by decide +kernel
theorem dX2_look_118 : decode cX2_look 118 = .ok (.getfield 25, 3) := by decide +kernel
theorem dX2_look_121 : decode cX2_look 121 = .ok (.if_icmp .lt 33, 3) := by decide +kernel
theorem dX2_look_124 : decode cX2_look 124 = .ok (.aload_n 0, 1) := by decide +kernel
theorem dX2_look_125 : decode cX2_look 125 = .ok (.getfield 21, 3) := by decide +kernel
theorem dX2_look_128 : decode cX2_look 128 = .ok (.iload_n 2, 1) := by decide +kernel
theorem dX2_look_129 : decode cX2_look 129 = .ok (.iload_n 1, 1) := by decide +kernel
theorem dX2_look_130 : decode cX2_look 130 = .ok (.iconst 1, 1) := by decide +kernel
theorem dX2_look_131 : decode cX2_look 131 = .ok (.iadd, 1) := by decide +kernel
theorem dX2_look_132 : decode cX2_look 132 = .ok (.invokevirtual 55, 3) := by decide +kernel
theorem dX2_look_135 : decode cX2_look 135 = .ok (.aload_n 0, 1) := by decide +kernel
theorem dX2_look_136 : decode cX2_look 136 = .ok (.getfield 25, 3) := by decide +kernel
theorem dX2_look_139 : decode cX2_look 139 = .ok (.if_icmp .lt 15, 3) := by decide +kernel
theorem dX2_look_142 : decode cX2_look 142 = .ok (.aload_n 0, 1) := by decide +kernel
theorem dX2_look_143 : decode cX2_look 143 = .ok (.dup, 1) := by decide +kernel
theorem dX2_look_144 : decode cX2_look 144 = .ok (.getfield 35, 3) := by decide +kernel
theorem dX2_look_147 : decode cX2_look 147 = .ok (.iconst 1, 1) := by decide +kernel
theorem dX2_look_148 : decode cX2_look 148 = .ok (.iload_n 2, 1) := by decide +kernel
theorem dX2_look_149 : decode cX2_look 149 = .ok (.ishl, 1) := by decide +kernel
theorem dX2_look_150 : decode cX2_look 150 = .ok (.ior, 1) := by decide +kernel
theorem dX2_look_151 : decode cX2_look 151 = .ok (.putfield 35, 3) := by decide +kernel
theorem dX2_look_154 : decode cX2_look 154 = .ok (.iinc 2 1, 3) := by decide +kernel
theorem dX2_look_157 : decode cX2_look 157 = .ok (.goto (-150), 3) := by decide +kernel
theorem dX2_look_160 : decode cX2_look 160 = .ok (.return_, 1) := by decide +kernel
set_option maxRecDepth 20000 in
theorem ggX2_look_X0_laneOf : GoodIn wsX2_look wsX0_laneOf := goodIn_r _ [12, 13, 14, 15, 16, 11, 17, 18, 52, 53, 54, 55, 56, 57, 58, 59] (by decide +kernel) (by decide +kernel)
set_option maxRecDepth 20000 in
theorem gX2_look_X0_laneOf : GoodIn wsX2_look (wsV RX2 38 RX0 yX0_laneOf wsX0_laneOf) := goodIn_app (goodIn_of _ (by decide +kernel)) ggX2_look_X0_laneOf
set_option maxRecDepth 20000 in
theorem ggX2_look_X0_spotOf : GoodIn wsX2_look wsX0_spotOf := goodIn_r _ [22, 23, 24, 25, 14, 15, 16, 11, 17, 18, 26, 27, 28, 29, 30, 31, 32, 52, 53, 54, 55, 56, 57, 58, 59] (by decide +kernel) (by decide +kernel)
set_option maxRecDepth 20000 in
theorem gX2_look_X0_spotOf : GoodIn wsX2_look (wsV RX2 47 RX0 yX0_spotOf wsX0_spotOf) := goodIn_app (goodIn_of _ (by decide +kernel)) ggX2_look_X0_spotOf
set_option maxRecDepth 20000 in
theorem ggX2_look_X0_has : GoodIn wsX2_look wsX0_has := goodIn_r _ [17, 18, 52, 53, 54, 55, 56, 57, 58, 59] (by decide +kernel) (by decide +kernel)
set_option maxRecDepth 20000 in
theorem gX2_look_X0_has : GoodIn wsX2_look (wsV RX2 51 RX0 yX0_has wsX0_has) := goodIn_app (goodIn_of _ (by decide +kernel)) ggX2_look_X0_has
set_option maxRecDepth 20000 in
theorem ggX2_look_X0_strengthOf : GoodIn wsX2_look wsX0_strengthOf := goodIn_r _ [37, 38, 23, 39, 40, 41, 42, 14, 15, 16, 11, 17, 18, 52, 53, 54, 55, 56, 57, 58, 59] (by decide +kernel) (by decide +kernel)
set_option maxRecDepth 20000 in
theorem gX2_look_X0_strengthOf : GoodIn wsX2_look (wsV RX2 55 RX0 yX0_strengthOf wsX0_strengthOf) := goodIn_app (goodIn_of _ (by decide +kernel)) ggX2_look_X0_strengthOf
set_option maxHeartbeats 4000000 in
set_option maxRecDepth 100000 in
theorem mX2_look (l : Launch) (dC : Nat → ClassId) (dI : Nat → Nat → Nat) (cI cC : ClassId) (sk : (Nat → Nat) × (Nat → Nat)) (f : Nat → Nat) (sz : Nat) (p1 : Int32) (c_lanes : AR) (c_spots : AR) (c_byLeaps : AR) (c_load : Int32) (c_gone : Int32) (c_held : Int32) (c_strong : Int32) (c_done : Int32) (c_r : RT) (z : AR × AR × Int32) (h : fX2_look p1 c_lanes c_spots c_load c_gone c_held c_r = some z) : cRV l yX2_look wsX2_look (RMk 3 69) sk (dC, dI) (tyz cI cC) sz (zwV cI cC f c_lanes c_spots c_byLeaps c_load c_gone c_held c_strong c_done c_r) (zwV cI cC f z.1 z.2.1 c_byLeaps c_load c_gone c_held z.2.2 c_done c_r) [.ref (f 0), .int p1] := by
  refine ofRV (cc := cX2_look) (maxL := 5) (ret := none) (own := RX2) (plainFor_of_name (by decide)) rfl rfl (Nat.le_of_ble_eq_true rfl) ?_
  intro p e s m args below meth c A hA hx hb hml hr hts hown hlocks hE hK hP hD hS ls hl
  generalize hQ : qRV _ _ _ _ _ _ = Q
  have hl : lv_has ls 5 [(0, .ref (f 0)), (1, .int p1)] := hl
  have hiX0 : ∀ w ∈ wsX00, w ∈ wsX2_look := fun w h => List.mem_cons_of_mem _ (List.mem_append_right _ h)
  have hiX2 : ∀ w ∈ wsX20, w ∈ wsX2_look := fun w h => List.mem_cons_of_mem _ (List.mem_append_left _ (List.mem_append_right _ h))
  have hw1 := hts (Cond.fieldLink RX2 35 "FloeToFloe$Walk" "strong" "I") (List.mem_of_getElem? (i := 1) rfl)
  have hw2 := hts (Cond.fieldLink RX2 32 "FloeToFloe$Walk" "held" "I") (List.mem_of_getElem? (i := 2) rfl)
  have hw3 := hts (Cond.fieldLink RX2 9 "FloeToFloe$Walk" "lanes" "[I") (List.mem_of_getElem? (i := 3) rfl)
  have hw4 := hts (Cond.fieldLink RX2 21 "FloeToFloe$Walk" "river" "LFloeToFloe$River;") (List.mem_of_getElem? (i := 4) rfl)
  have hw5 := hts (Cond.fieldLink RX2 15 "FloeToFloe$Walk" "spots" "[I") (List.mem_of_getElem? (i := 5) rfl)
  have hw6 := hts (Cond.fieldLink RX2 29 "FloeToFloe$Walk" "gone" "I") (List.mem_of_getElem? (i := 6) rfl)
  have hw7 := hts (Cond.fieldLink RX2 25 "FloeToFloe$Walk" "load" "I") (List.mem_of_getElem? (i := 7) rfl)
  have hnw3 : (Cond.fieldLinkNest "FloeToFloe$Walk" 44 "FloeToFloe$River" "minute" "I" "FloeToFloe").before args s = true := va_Nw.use rfl (hE.1 3 _ rfl)
  rw [fX2_look] at h
  refine lv_aload_n hx hb dX2_look_0 rfl (lv_at hl 0 rfl) ?_
  refine lv_iconst (v := (0 : Int32)) hx hb dX2_look_1 (by decide) ?_
  refine va_put (D := (dC, dI)) (ci := 2) (v := .int (0 : Int32)) (ty := .int) (C := RX2) (T := TX2) (N := 9) hx hb hts hiX2 tyX2 tyX2_ok nmX2 hown hK hP hD hS 0 rfl rfl 7 (by decide) hw1 (fun _ h9 => h9) rfl (by decide +kernel) rfl rfl (Nat.le_of_ble_eq_true rfl) dX2_look_2 (fun H locs hP hD hS => ?_)
  have hP : va_P (dC, dI) vwCl (zwV cI cC f c_lanes c_spots c_byLeaps c_load c_gone c_held (0 : Int32) c_done c_r) H := hP
  have hD : va_D A (zwV cI cC f c_lanes c_spots c_byLeaps c_load c_gone c_held (0 : Int32) c_done c_r) := hD
  refine lv_iconst (v := (0 : Int32)) hx hb dX2_look_5 (by decide) ?_
  refine lv_istore_n (lv' := [(2, .int (0 : Int32)), (0, .ref (f 0)), (1, .int p1)]) hx hb dX2_look_6 rfl hl (by decide) rfl (fun ls hl => ?_)
  have L7 : ∀ (K7 : AR → AR → Int32 → Option (AR × AR × Int32)), (∀ (k7_lanes : AR) (k7_spots : AR) (k7_strong : Int32), K7 k7_lanes k7_spots k7_strong = some z → ∀ (H : Heap) (locs : List Loc) (ls : Array Slot), va_P (dC, dI) vwCl (zwV cI cC f k7_lanes k7_spots c_byLeaps c_load c_gone c_held k7_strong c_done c_r) H → va_D A (zwV cI cC f k7_lanes k7_spots c_byLeaps c_load c_gone c_held k7_strong c_done c_r) → va_S A s.heap H locs → lv_has ls 5 [] → W p l e (RMk 3 69) s m args below meth c H locs 0 0 Q (F0 m 160 ls [])) → ∀ (n : Nat) (x7_2 : Int32) (x7_lanes : AR) (x7_spots : AR) (x7_strong : Int32), fX2_look_L7 c_gone c_held c_load c_r p1 K7 n x7_2 x7_lanes x7_spots x7_strong = some z → ∀ (H : Heap) (locs : List Loc) (ls : Array Slot), va_P (dC, dI) vwCl (zwV cI cC f x7_lanes x7_spots c_byLeaps c_load c_gone c_held x7_strong c_done c_r) H → va_D A (zwV cI cC f x7_lanes x7_spots c_byLeaps c_load c_gone c_held x7_strong c_done c_r) → va_S A s.heap H locs → lv_has ls 5 [(0, .ref (f 0)), (1, .int p1), (2, .int x7_2)] → W p l e (RMk 3 69) s m args below meth c H locs 0 0 Q (F0 m 7 ls []) := by
    intro K7 kx7 n
    induction n with
    | zero => intro x7_2 x7_lanes x7_spots x7_strong h; rw [fX2_look_L7] at h; cases h
    | succ n ih7 =>
      intro x7_2 x7_lanes x7_spots x7_strong h H locs ls hP hD hS hl
      rw [fX2_look_L7] at h
      refine lv_iload_n hx hb dX2_look_7 rfl (lv_at hl 2 rfl) ?_
      refine lv_bipush (v := (8 : Int32)) hx hb dX2_look_8 (by decide) ?_
      refine lv_icmp_ge (tgt := 160) hx hb dX2_look_10 (by decide) (fun c10 => ?_) (fun c10 => ?_)
      · have h := itT c10 h
        exact kx7 _ _ _ h _ _ _ hP hD hS (lv_sub hl [] rfl)
      have h := itF c10 h
      refine lv_aload_n hx hb dX2_look_13 rfl (lv_at hl 0 rfl) ?_
      refine va_get (D := (dC, dI)) (ci := 2) (v := .int c_held) (C := RX2) (T := TX2) (N := 9) hx hb hts hiX2 hown hK hP 0 rfl rfl 6 (by decide) hw2 (fun _ h9 => h9) rfl dX2_look_14 ?_
      refine lv_iload_n hx hb dX2_look_17 rfl (lv_at hl 2 rfl) ?_
      refine lv_ishr hx hb dX2_look_18 ?_
      refine lv_iconst (v := (1 : Int32)) hx hb dX2_look_19 (by decide) ?_
      refine lv_iand hx hb dX2_look_20 ?_
      refine lv_iconst (v := (1 : Int32)) hx hb dX2_look_21 (by decide) ?_
      refine jnW (fun (v30 : Int32) => ∀ (H : Heap) (locs : List Loc) (ls : Array Slot), va_P (dC, dI) vwCl (zwV cI cC f x7_lanes x7_spots c_byLeaps c_load c_gone c_held x7_strong c_done c_r) H → va_D A (zwV cI cC f x7_lanes x7_spots c_byLeaps c_load c_gone c_held x7_strong c_done c_r) → va_S A s.heap H locs → lv_has ls 5 [(0, .ref (f 0)), (1, .int p1), (2, .int x7_2)] → W p l e (RMk 3 69) s m args below meth c H locs 0 0 Q (F0 m 30 ls [.int v30])) h (fun v30 h H locs ls hP hD hS hl => ?_) (fun J30 j30 h => ?_)
      · refine lv_istore_n (lv' := [(3, .int v30), (0, .ref (f 0)), (1, .int p1), (2, .int x7_2)]) hx hb dX2_look_30 rfl hl (by decide) rfl (fun ls hl => ?_)
        refine lv_aload_n hx hb dX2_look_31 rfl (lv_at hl 1 rfl) ?_
        refine va_get (D := (dC, dI)) (ci := 2) (v := .ref (f 1)) (C := RX2) (T := TX2) (N := 9) hx hb hts hiX2 hown hK hP 0 rfl rfl 1 (by decide) hw3 (fun _ h9 => h9) rfl dX2_look_32 ?_
        refine lv_iload_n hx hb dX2_look_35 rfl (lv_at hl 3 rfl) ?_
        refine lv_aload_n hx hb dX2_look_36 rfl (lv_at hl 1 rfl) ?_
        refine va_get (D := (dC, dI)) (ci := 2) (v := .ref (f 4)) (C := RX2) (T := TX2) (N := 9) hx hb hts hiX2 hown hK hP 0 rfl rfl 0 (by decide) hw4 (fun _ h9 => h9) rfl dX2_look_37 ?_
        refine lv_iload_n hx hb dX2_look_40 rfl (lv_at hl 3 rfl) ?_
        obtain ⟨q41, e41, h⟩ := bd_some h
        refine g_roV (wc := (zwR cI cC (fun k => f (k + 4)) c_r)) ⟨hx, hb, hml, hown, hts⟩ hE hK hP hS [4, 5, 6, 7, 8, 9] rfl (mX0_laneOf l dC dI cI cC sk (fun k => f (k + 4)) x7_2 c_r q41 e41) (cwV 1 hts gX2_look_X0_laneOf rfl rfl rfl (by decide +kernel) ⟨Nat.le_of_ble_eq_true rfl, Nat.le_of_ble_eq_true rfl⟩) (va_recv hK hP (ci := 0) (q0 := 4) rfl rfl) (As := [.int x7_2]) (rest := [.int x7_2, .ref (f 1)]) rfl hl.1 rfl (Nat.le_of_ble_eq_true rfl) dX2_look_41 ⟨Nat.zero_le _, Nat.zero_le _⟩ (fun H locs hP hS => ?_)
        obtain ⟨hin, h⟩ := ck_some h
        refine va_iast hx hb hK hP hD hS 1 0 rfl rfl hin dX2_look_44 (fun H locs hP hD hS => ?_)
        have hP : va_P (dC, dI) vwCl (zwV cI cC f (upd x7_lanes (x7_2).toNatClampNeg q41) x7_spots c_byLeaps c_load c_gone c_held x7_strong c_done c_r) H := hP
        have hD : va_D A (zwV cI cC f (upd x7_lanes (x7_2).toNatClampNeg q41) x7_spots c_byLeaps c_load c_gone c_held x7_strong c_done c_r) := hD
        refine lv_aload_n hx hb dX2_look_45 rfl (lv_at hl 1 rfl) ?_
        refine va_get (D := (dC, dI)) (ci := 2) (v := .ref (f 2)) (C := RX2) (T := TX2) (N := 9) hx hb hts hiX2 hown hK hP 0 rfl rfl 2 (by decide) hw5 (fun _ h9 => h9) rfl dX2_look_46 ?_
        refine lv_iload_n hx hb dX2_look_49 rfl (lv_at hl 3 rfl) ?_
        refine lv_aload_n hx hb dX2_look_50 rfl (lv_at hl 1 rfl) ?_
        refine va_get (D := (dC, dI)) (ci := 2) (v := .ref (f 4)) (C := RX2) (T := TX2) (N := 9) hx hb hts hiX2 hown hK hP 0 rfl rfl 0 (by decide) hw4 (fun _ h9 => h9) rfl dX2_look_51 ?_
        refine lv_iload_n hx hb dX2_look_54 rfl (lv_at hl 3 rfl) ?_
        refine lv_iload_n hx hb dX2_look_55 rfl (lv_at hl 0 rfl) ?_
        refine jnW (fun (v70 : Int32) => ∀ (H : Heap) (locs : List Loc) (ls : Array Slot), va_P (dC, dI) vwCl (zwV cI cC f (upd x7_lanes (x7_2).toNatClampNeg q41) x7_spots c_byLeaps c_load c_gone c_held x7_strong c_done c_r) H → va_D A (zwV cI cC f (upd x7_lanes (x7_2).toNatClampNeg q41) x7_spots c_byLeaps c_load c_gone c_held x7_strong c_done c_r) → va_S A s.heap H locs → lv_has ls 5 [(0, .ref (f 0)), (1, .int p1), (2, .int x7_2)] → W p l e (RMk 3 69) s m args below meth c H locs 0 0 Q (F0 m 70 ls [.int v70, .int x7_2, .ref (f 4), .int x7_2, .ref (f 2)])) h (fun v70 h H locs ls hP hD hS hl => ?_) (fun J70 j70 h => ?_)
        · obtain ⟨q70, e70, h⟩ := bd_some h
          refine g_roV (wc := (zwR cI cC (fun k => f (k + 4)) c_r)) ⟨hx, hb, hml, hown, hts⟩ hE hK hP hS [4, 5, 6, 7, 8, 9] rfl (mX0_spotOf l dC dI cI cC sk (fun k => f (k + 4)) x7_2 v70 c_r q70 e70) (cwV 2 hts gX2_look_X0_spotOf rfl rfl rfl (by decide +kernel) ⟨Nat.le_of_ble_eq_true rfl, Nat.le_of_ble_eq_true rfl⟩) (va_recv hK hP (ci := 0) (q0 := 4) rfl rfl) (As := [.int x7_2, .int v70]) (rest := [.int x7_2, .ref (f 2)]) rfl hl.1 rfl (Nat.le_of_ble_eq_true rfl) dX2_look_70 ⟨Nat.zero_le _, Nat.zero_le _⟩ (fun H locs hP hS => ?_)
          obtain ⟨hin, h⟩ := ck_some h
          refine va_iast hx hb hK hP hD hS 2 0 rfl rfl hin dX2_look_73 (fun H locs hP hD hS => ?_)
          have hP : va_P (dC, dI) vwCl (zwV cI cC f (upd x7_lanes (x7_2).toNatClampNeg q41) (upd x7_spots (x7_2).toNatClampNeg q70) c_byLeaps c_load c_gone c_held x7_strong c_done c_r) H := hP
          have hD : va_D A (zwV cI cC f (upd x7_lanes (x7_2).toNatClampNeg q41) (upd x7_spots (x7_2).toNatClampNeg q70) c_byLeaps c_load c_gone c_held x7_strong c_done c_r) := hD
          refine lv_aload_n hx hb dX2_look_74 rfl (lv_at hl 0 rfl) ?_
          refine va_get (D := (dC, dI)) (ci := 2) (v := .ref (f 4)) (C := RX2) (T := TX2) (N := 9) hx hb hts hiX2 hown hK hP 0 rfl rfl 0 (by decide) hw4 (fun _ h9 => h9) rfl dX2_look_75 ?_
          refine lv_iload_n hx hb dX2_look_78 rfl (lv_at hl 2 rfl) ?_
          obtain ⟨q79, e79, h⟩ := bd_some h
          refine g_roV (wc := (zwR cI cC (fun k => f (k + 4)) c_r)) ⟨hx, hb, hml, hown, hts⟩ hE hK hP hS [4, 5, 6, 7, 8, 9] rfl (mX0_has l dC dI cI cC sk (fun k => f (k + 4)) x7_2 c_r q79 e79) (cwV 1 hts gX2_look_X0_has rfl rfl rfl (by decide +kernel) ⟨Nat.le_of_ble_eq_true rfl, Nat.le_of_ble_eq_true rfl⟩) (va_recv hK hP (ci := 0) (q0 := 4) rfl rfl) (As := [.int x7_2]) (rest := []) rfl hl.1 rfl (Nat.le_of_ble_eq_true rfl) dX2_look_79 ⟨Nat.zero_le _, Nat.zero_le _⟩ (fun H locs hP hS => ?_)
          refine jnW (fun (v101 : Int32) => ∀ (H : Heap) (locs : List Loc) (ls : Array Slot), va_P (dC, dI) vwCl (zwV cI cC f (upd x7_lanes (x7_2).toNatClampNeg q41) (upd x7_spots (x7_2).toNatClampNeg q70) c_byLeaps c_load c_gone c_held x7_strong c_done c_r) H → va_D A (zwV cI cC f (upd x7_lanes (x7_2).toNatClampNeg q41) (upd x7_spots (x7_2).toNatClampNeg q70) c_byLeaps c_load c_gone c_held x7_strong c_done c_r) → va_S A s.heap H locs → lv_has ls 5 [(0, .ref (f 0)), (1, .int p1), (2, .int x7_2)] → W p l e (RMk 3 69) s m args below meth c H locs 0 0 Q (F0 m 101 ls [.int v101])) h (fun v101 h H locs ls hP hD hS hl => ?_) (fun J101 j101 h => ?_)
          · refine lv_istore (lv' := [(4, .int v101), (0, .ref (f 0)), (1, .int p1), (2, .int x7_2)]) hx hb dX2_look_101 hl (by decide) rfl (fun ls hl => ?_)
            refine lv_iload hx hb dX2_look_103 (lv_at hl 0 rfl) ?_
            refine lv_if_eq (tgt := 154) hx hb dX2_look_105 (by decide) (fun c105 => ?_) (fun c105 => ?_)
            · have h := itT c105 h
              refine lv_iinc (v := (x7_2 + (1 : Int32))) (lv' := [(2, .int (x7_2 + (1 : Int32))), (4, .int v101), (0, .ref (f 0)), (1, .int p1)]) hx hb dX2_look_154 hl (k := 3) rfl rfl (by decide) rfl (fun ls hl => ?_)
              refine lv_goto (tgt := 7) hx hb dX2_look_157 (by decide) ?_
              exact ih7 _ _ _ _ h _ _ _ hP hD hS (lv_sub hl [2, 3, 0] rfl)
            have h := itF c105 h
            refine lv_aload_n hx hb dX2_look_108 rfl (lv_at hl 1 rfl) ?_
            refine va_get (D := (dC, dI)) (ci := 2) (v := .ref (f 4)) (C := RX2) (T := TX2) (N := 9) hx hb hts hiX2 hown hK hP 0 rfl rfl 0 (by decide) hw4 (fun _ h9 => h9) rfl dX2_look_109 ?_
            refine lv_iload_n hx hb dX2_look_112 rfl (lv_at hl 3 rfl) ?_
            refine lv_iload_n hx hb dX2_look_113 rfl (lv_at hl 2 rfl) ?_
            obtain ⟨q114, e114, h⟩ := bd_some h
            refine g_roV (wc := (zwR cI cC (fun k => f (k + 4)) c_r)) ⟨hx, hb, hml, hown, hts⟩ hE hK hP hS [4, 5, 6, 7, 8, 9] rfl (mX0_strengthOf l dC dI cI cC sk (fun k => f (k + 4)) x7_2 p1 c_r q114 e114) (cwV 2 hts gX2_look_X0_strengthOf rfl rfl rfl (by decide +kernel) ⟨Nat.le_of_ble_eq_true rfl, Nat.le_of_ble_eq_true rfl⟩) (va_recv hK hP (ci := 0) (q0 := 4) rfl rfl) (As := [.int x7_2, .int p1]) (rest := []) rfl hl.1 rfl (Nat.le_of_ble_eq_true rfl) dX2_look_114 ⟨Nat.zero_le _, Nat.zero_le _⟩ (fun H locs hP hS => ?_)
            refine lv_aload_n hx hb dX2_look_117 rfl (lv_at hl 1 rfl) ?_
            refine va_get (D := (dC, dI)) (ci := 2) (v := .int c_load) (C := RX2) (T := TX2) (N := 9) hx hb hts hiX2 hown hK hP 0 rfl rfl 4 (by decide) hw7 (fun _ h9 => h9) rfl dX2_look_118 ?_
            refine lv_icmp_lt (tgt := 154) hx hb dX2_look_121 (by decide) (fun c121 => ?_) (fun c121 => ?_)
            · have h := itT c121 h
              refine lv_iinc (v := (x7_2 + (1 : Int32))) (lv' := [(2, .int (x7_2 + (1 : Int32))), (4, .int v101), (0, .ref (f 0)), (1, .int p1)]) hx hb dX2_look_154 hl (k := 3) rfl rfl (by decide) rfl (fun ls hl => ?_)
              refine lv_goto (tgt := 7) hx hb dX2_look_157 (by decide) ?_
              exact ih7 _ _ _ _ h _ _ _ hP hD hS (lv_sub hl [2, 3, 0] rfl)
            have h := itF c121 h
            refine lv_aload_n hx hb dX2_look_124 rfl (lv_at hl 1 rfl) ?_
            refine va_get (D := (dC, dI)) (ci := 2) (v := .ref (f 4)) (C := RX2) (T := TX2) (N := 9) hx hb hts hiX2 hown hK hP 0 rfl rfl 0 (by decide) hw4 (fun _ h9 => h9) rfl dX2_look_125 ?_
            refine lv_iload_n hx hb dX2_look_128 rfl (lv_at hl 3 rfl) ?_
            refine lv_iload_n hx hb dX2_look_129 rfl (lv_at hl 2 rfl) ?_
            refine lv_iconst (v := (1 : Int32)) hx hb dX2_look_130 (by decide) ?_
            refine lv_iadd hx hb dX2_look_131 ?_
            obtain ⟨q132, e132, h⟩ := bd_some h
            refine g_roV (wc := (zwR cI cC (fun k => f (k + 4)) c_r)) ⟨hx, hb, hml, hown, hts⟩ hE hK hP hS [4, 5, 6, 7, 8, 9] rfl (mX0_strengthOf l dC dI cI cC sk (fun k => f (k + 4)) x7_2 (p1 + (1 : Int32)) c_r q132 e132) (cwV 2 hts gX2_look_X0_strengthOf rfl rfl rfl (by decide +kernel) ⟨Nat.le_of_ble_eq_true rfl, Nat.le_of_ble_eq_true rfl⟩) (va_recv hK hP (ci := 0) (q0 := 4) rfl rfl) (As := [.int x7_2, .int (p1 + (1 : Int32))]) (rest := []) rfl hl.1 rfl (Nat.le_of_ble_eq_true rfl) dX2_look_132 ⟨Nat.zero_le _, Nat.zero_le _⟩ (fun H locs hP hS => ?_)
            refine lv_aload_n hx hb dX2_look_135 rfl (lv_at hl 1 rfl) ?_
            refine va_get (D := (dC, dI)) (ci := 2) (v := .int c_load) (C := RX2) (T := TX2) (N := 9) hx hb hts hiX2 hown hK hP 0 rfl rfl 4 (by decide) hw7 (fun _ h9 => h9) rfl dX2_look_136 ?_
            refine lv_icmp_lt (tgt := 154) hx hb dX2_look_139 (by decide) (fun c139 => ?_) (fun c139 => ?_)
            · have h := itT c139 h
              refine lv_iinc (v := (x7_2 + (1 : Int32))) (lv' := [(2, .int (x7_2 + (1 : Int32))), (4, .int v101), (0, .ref (f 0)), (1, .int p1)]) hx hb dX2_look_154 hl (k := 3) rfl rfl (by decide) rfl (fun ls hl => ?_)
              refine lv_goto (tgt := 7) hx hb dX2_look_157 (by decide) ?_
              exact ih7 _ _ _ _ h _ _ _ hP hD hS (lv_sub hl [2, 3, 0] rfl)
            have h := itF c139 h
            refine lv_aload_n hx hb dX2_look_142 rfl (lv_at hl 1 rfl) ?_
            refine lv_dup hx hb dX2_look_143 rfl ?_
            refine va_get (D := (dC, dI)) (ci := 2) (v := .int x7_strong) (C := RX2) (T := TX2) (N := 9) hx hb hts hiX2 hown hK hP 0 rfl rfl 7 (by decide) hw1 (fun _ h9 => h9) rfl dX2_look_144 ?_
            refine lv_iconst (v := (1 : Int32)) hx hb dX2_look_147 (by decide) ?_
            refine lv_iload_n hx hb dX2_look_148 rfl (lv_at hl 3 rfl) ?_
            refine lv_ishl hx hb dX2_look_149 ?_
            refine lv_ior hx hb dX2_look_150 ?_
            refine va_put (D := (dC, dI)) (ci := 2) (v := .int (x7_strong ||| ((1 : Int32) <<< (x7_2 &&& 31)))) (ty := .int) (C := RX2) (T := TX2) (N := 9) hx hb hts hiX2 tyX2 tyX2_ok nmX2 hown hK hP hD hS 0 rfl rfl 7 (by decide) hw1 (fun _ h9 => h9) rfl (by decide +kernel) rfl rfl (Nat.le_of_ble_eq_true rfl) dX2_look_151 (fun H locs hP hD hS => ?_)
            have hP : va_P (dC, dI) vwCl (zwV cI cC f (upd x7_lanes (x7_2).toNatClampNeg q41) (upd x7_spots (x7_2).toNatClampNeg q70) c_byLeaps c_load c_gone c_held (x7_strong ||| ((1 : Int32) <<< (x7_2 &&& 31))) c_done c_r) H := hP
            have hD : va_D A (zwV cI cC f (upd x7_lanes (x7_2).toNatClampNeg q41) (upd x7_spots (x7_2).toNatClampNeg q70) c_byLeaps c_load c_gone c_held (x7_strong ||| ((1 : Int32) <<< (x7_2 &&& 31))) c_done c_r) := hD
            refine lv_iinc (v := (x7_2 + (1 : Int32))) (lv' := [(2, .int (x7_2 + (1 : Int32))), (4, .int v101), (0, .ref (f 0)), (1, .int p1)]) hx hb dX2_look_154 hl (k := 3) rfl rfl (by decide) rfl (fun ls hl => ?_)
            refine lv_goto (tgt := 7) hx hb dX2_look_157 (by decide) ?_
            exact ih7 _ _ _ _ h _ _ _ hP hD hS (lv_sub hl [2, 3, 0] rfl)
          refine jnW (fun (v100 : Unit) => ∀ (H : Heap) (locs : List Loc) (ls : Array Slot), va_P (dC, dI) vwCl (zwV cI cC f (upd x7_lanes (x7_2).toNatClampNeg q41) (upd x7_spots (x7_2).toNatClampNeg q70) c_byLeaps c_load c_gone c_held x7_strong c_done c_r) H → va_D A (zwV cI cC f (upd x7_lanes (x7_2).toNatClampNeg q41) (upd x7_spots (x7_2).toNatClampNeg q70) c_byLeaps c_load c_gone c_held x7_strong c_done c_r) → va_S A s.heap H locs → lv_has ls 5 [(0, .ref (f 0)), (1, .int p1), (2, .int x7_2)] → W p l e (RMk 3 69) s m args below meth c H locs 0 0 Q (F0 m 100 ls [])) h (fun v100 h H locs ls hP hD hS hl => ?_) (fun J100 j100 h => ?_)
          · refine lv_iconst (v := (0 : Int32)) hx hb dX2_look_100 (by decide) ?_
            exact j101 _ h _ _ _ hP hD hS (lv_sub hl [0, 1, 2] rfl)
          refine lv_if_eq (tgt := 100) hx hb dX2_look_82 (by decide) (fun c82 => ?_) (fun c82 => ?_)
          · have h := itT c82 h
            exact j100 _ h _ _ _ hP hD hS (lv_sub hl [0, 1, 2] rfl)
          have h := itF c82 h
          refine lv_aload_n hx hb dX2_look_85 rfl (lv_at hl 0 rfl) ?_
          refine va_get (D := (dC, dI)) (ci := 2) (v := .int c_gone) (C := RX2) (T := TX2) (N := 9) hx hb hts hiX2 hown hK hP 0 rfl rfl 5 (by decide) hw6 (fun _ h9 => h9) rfl dX2_look_86 ?_
          refine lv_iload_n hx hb dX2_look_89 rfl (lv_at hl 2 rfl) ?_
          refine lv_ishr hx hb dX2_look_90 ?_
          refine lv_iconst (v := (1 : Int32)) hx hb dX2_look_91 (by decide) ?_
          refine lv_iand hx hb dX2_look_92 ?_
          refine lv_if_ne (tgt := 100) hx hb dX2_look_93 (by decide) (fun c93 => ?_) (fun c93 => ?_)
          · have h := itF c93 h
            exact j100 _ h _ _ _ hP hD hS (lv_sub hl [0, 1, 2] rfl)
          have h := itT c93 h
          refine lv_iconst (v := (1 : Int32)) hx hb dX2_look_96 (by decide) ?_
          refine lv_goto (tgt := 101) hx hb dX2_look_97 (by decide) ?_
          exact j101 _ h _ _ _ hP hD hS (lv_sub hl [0, 1, 2] rfl)
        refine lv_if_eq (tgt := 69) hx hb dX2_look_56 (by decide) (fun c56 => ?_) (fun c56 => ?_)
        · have h := itT c56 h
          refine lv_iload_n hx hb dX2_look_69 rfl (lv_at hl 2 rfl) ?_
          exact j70 _ h _ _ _ hP hD hS (lv_sub hl [1, 2, 3] rfl)
        have h := itF c56 h
        refine lv_aload_n hx hb dX2_look_59 rfl (lv_at hl 1 rfl) ?_
        refine va_get (D := (dC, dI)) (ci := 2) (v := .ref (f 4)) (C := RX2) (T := TX2) (N := 9) hx hb hts hiX2 hown hK hP 0 rfl rfl 0 (by decide) hw4 (fun _ h9 => h9) rfl dX2_look_60 ?_
        refine va_getN (D := (dC, dI)) (ci := 0) (v := .int (R_minute c_r)) (C := RX0) (T := TX0) (N := 8) hx hb hts hiX0 hown hK hP 4 rfl rfl 7 (by decide) hnw3 (fun _ h9 => h9) rfl dX2_look_63 ?_
        refine lv_goto (tgt := 70) hx hb dX2_look_66 (by decide) ?_
        exact j70 _ h _ _ _ hP hD hS (lv_sub hl [1, 2, 3] rfl)
      refine lv_icmp_ne (tgt := 29) hx hb dX2_look_22 (by decide) (fun c22 => ?_) (fun c22 => ?_)
      · have h := itF c22 h
        refine lv_iconst (v := (0 : Int32)) hx hb dX2_look_29 (by decide) ?_
        exact j30 _ h _ _ _ hP hD hS (lv_sub hl [0, 1, 2] rfl)
      have h := itT c22 h
      refine lv_iconst (v := (1 : Int32)) hx hb dX2_look_25 (by decide) ?_
      refine lv_goto (tgt := 30) hx hb dX2_look_26 (by decide) ?_
      exact j30 _ h _ _ _ hP hD hS (lv_sub hl [0, 1, 2] rfl)
  refine L7 _ (fun k7_lanes k7_spots k7_strong h H locs ls hP hD hS hl => ?_) _ _ _ _ _ h _ _ _ hP hD hS (lv_sub hl [1, 2, 0] rfl)
  subst hQ
  exact retRV (zz := ((k7_lanes, k7_spots, k7_strong) : AR × AR × Int32)) (fun z => (zwV cI cC f z.1 z.2.1 c_byLeaps c_load c_gone c_held z.2.2 c_done c_r)) hx hb hr hlocks hS h hP dX2_look_160
theorem dX2_placesStayed_0 : decode cX2_placesStayed 0 = .ok (.iload_n 1, 1) := by decide +kernel
theorem dX2_placesStayed_1 : decode cX2_placesStayed 1 = .ok (.ldc 87, 2) := by decide +kernel
theorem dX2_placesStayed_3 : decode cX2_placesStayed 3 = .ok (.aload_n 0, 1) := by decide +kernel
theorem dX2_placesStayed_4 : decode cX2_placesStayed 4 = .ok (.getfield 35, 3) := by decide +kernel
theorem dX2_placesStayed_7 : decode cX2_placesStayed 7 = .ok (.ior, 1) := by decide +kernel
theorem dX2_placesStayed_8 : decode cX2_placesStayed 8 = .ok (.iand, 1) := by decide +kernel
theorem dX2_placesStayed_9 : decode cX2_placesStayed 9 = .ok (.ireturn, 1) := by decide +kernel
set_option maxHeartbeats 4000000 in
set_option maxRecDepth 100000 in
theorem mX2_placesStayed (l : Launch) (dC : Nat → ClassId) (dI : Nat → Nat → Nat) (cI cC : ClassId) (sk : (Nat → Nat) × (Nat → Nat)) (f : Nat → Nat) (p1 : Int32) (c_lanes : AR) (c_spots : AR) (c_byLeaps : AR) (c_load : Int32) (c_gone : Int32) (c_held : Int32) (c_strong : Int32) (c_done : Int32) (c_r : RT) (z : Int32) (h : fX2_placesStayed p1 c_strong = some z) : cRO l yX2_placesStayed wsX2_placesStayed (RMk 0 0) sk (dC, dI) (tyz cI cC) (zwV cI cC f c_lanes c_spots c_byLeaps c_load c_gone c_held c_strong c_done c_r) [.ref (f 0), .int p1] z := by
  refine ofRO (cc := cX2_placesStayed) (maxL := 2) (ret := (some .int)) (own := RX2) (plainFor_of_name (by decide)) rfl rfl (Nat.le_of_ble_eq_true rfl) ?_
  intro p e s m args below meth c hx hb hml hr hts hown hlocks hE hK hP hS ls hl
  generalize hQ : qRO _ _ _ _ = Q
  have hl : lv_has ls 2 [(0, .ref (f 0)), (1, .int p1)] := hl
  have hiX2 : ∀ w ∈ wsX20, w ∈ wsX2_placesStayed := fun w h => List.mem_cons_of_mem _ (List.mem_append_right _ h)
  have hw1 := hts (Cond.constant RX2 87 (1047808)) (List.mem_of_getElem? (i := 1) rfl)
  have hw2 := hts (Cond.fieldLink RX2 35 "FloeToFloe$Walk" "strong" "I") (List.mem_of_getElem? (i := 2) rfl)
  rw [fX2_placesStayed] at h
  refine lv_iload_n hx hb dX2_placesStayed_0 rfl (lv_at hl 1 rfl) ?_
  refine lv_ldc hx hb hown hw1 dX2_placesStayed_1 ?_
  refine lv_aload_n hx hb dX2_placesStayed_3 rfl (lv_at hl 0 rfl) ?_
  refine va_get (D := (dC, dI)) (ci := 2) (v := .int c_strong) (C := RX2) (T := TX2) (N := 9) hx hb hts hiX2 hown hK hP 0 rfl rfl 7 (by decide) hw2 (fun _ h9 => h9) rfl dX2_placesStayed_4 ?_
  refine lv_ior hx hb dX2_placesStayed_7 ?_
  refine lv_iand hx hb dX2_placesStayed_8 ?_
  subst hQ
  exact retRO hx hb hr hlocks rfl hS h dX2_placesStayed_9
theorem dX2_walkedLess_0 : decode cX2_walkedLess 0 = .ok (.iload_n 0, 1) := by decide +kernel
theorem dX2_walkedLess_1 : decode cX2_walkedLess 1 = .ok (.bipush 10, 2) := by decide +kernel
theorem dX2_walkedLess_3 : decode cX2_walkedLess 3 = .ok (.ishr, 1) := by decide +kernel
theorem dX2_walkedLess_4 : decode cX2_walkedLess 4 = .ok (.sipush 1023, 3) := by decide +kernel
theorem dX2_walkedLess_7 : decode cX2_walkedLess 7 = .ok (.iand, 1) := by decide +kernel
theorem dX2_walkedLess_8 : decode cX2_walkedLess 8 = .ok (.istore_n 1, 1) := by decide +kernel
theorem dX2_walkedLess_9 : decode cX2_walkedLess 9 = .ok (.iload_n 1, 1) := by decide +kernel
theorem dX2_walkedLess_10 : decode cX2_walkedLess 10 = .ok (.iconst 1, 1) := by decide +kernel
theorem dX2_walkedLess_11 : decode cX2_walkedLess 11 = .ok (.ishr, 1) := by decide +kernel
theorem dX2_walkedLess_12 : decode cX2_walkedLess 12 = .ok (.iload_n 1, 1) := by decide +kernel
theorem dX2_walkedLess_13 : decode cX2_walkedLess 13 = .ok (.iconst 1, 1) := by decide +kernel
theorem dX2_walkedLess_14 : decode cX2_walkedLess 14 = .ok (.iand, 1) := by decide +kernel
theorem dX2_walkedLess_15 : decode cX2_walkedLess 15 = .ok (.bipush 9, 2) := by decide +kernel
theorem dX2_walkedLess_17 : decode cX2_walkedLess 17 = .ok (.ishl, 1) := by decide +kernel
theorem dX2_walkedLess_18 : decode cX2_walkedLess 18 = .ok (.ior, 1) := by decide +kernel
theorem dX2_walkedLess_19 : decode cX2_walkedLess 19 = .ok (.bipush 10, 2) := by decide +kernel
theorem dX2_walkedLess_21 : decode cX2_walkedLess 21 = .ok (.ishl, 1) := by decide +kernel
theorem dX2_walkedLess_22 : decode cX2_walkedLess 22 = .ok (.ireturn, 1) := by decide +kernel
set_option maxHeartbeats 4000000 in
set_option maxRecDepth 100000 in
theorem mX2_walkedLess (l : Launch) (dC : Nat → ClassId) (dI : Nat → Nat → Nat) (cI cC : ClassId) (sk : (Nat → Nat) × (Nat → Nat))  (p0 : Int32)  (z : Int32) (h : fX2_walkedLess p0 = some z) : cRO l yX2_walkedLess wsX2_walkedLess (RMk 0 0) sk (dC, dI) (tyz cI cC) ([] : va_W) [.int p0] z := by
  refine ofRO (cc := cX2_walkedLess) (maxL := 2) (ret := (some .int)) (own := RX2) (plainFor_of_name (by decide)) rfl rfl (Nat.le_of_ble_eq_true rfl) ?_
  intro p e s m args below meth c hx hb hml hr hts hown hlocks hE hK hP hS ls hl
  generalize hQ : qRO _ _ _ _ = Q
  have hl : lv_has ls 2 [(0, .int p0)] := hl
  rw [fX2_walkedLess] at h
  refine lv_iload_n hx hb dX2_walkedLess_0 rfl (lv_at hl 0 rfl) ?_
  refine lv_bipush (v := (10 : Int32)) hx hb dX2_walkedLess_1 (by decide) ?_
  refine lv_ishr hx hb dX2_walkedLess_3 ?_
  refine lv_sipush (v := (1023 : Int32)) hx hb dX2_walkedLess_4 (by decide) ?_
  refine lv_iand hx hb dX2_walkedLess_7 ?_
  refine lv_istore_n (lv' := [(1, .int ((p0 >>> ((10 : Int32) &&& 31)) &&& (1023 : Int32))), (0, .int p0)]) hx hb dX2_walkedLess_8 rfl hl (by decide) rfl (fun ls hl => ?_)
  refine lv_iload_n hx hb dX2_walkedLess_9 rfl (lv_at hl 0 rfl) ?_
  refine lv_iconst (v := (1 : Int32)) hx hb dX2_walkedLess_10 (by decide) ?_
  refine lv_ishr hx hb dX2_walkedLess_11 ?_
  refine lv_iload_n hx hb dX2_walkedLess_12 rfl (lv_at hl 0 rfl) ?_
  refine lv_iconst (v := (1 : Int32)) hx hb dX2_walkedLess_13 (by decide) ?_
  refine lv_iand hx hb dX2_walkedLess_14 ?_
  refine lv_bipush (v := (9 : Int32)) hx hb dX2_walkedLess_15 (by decide) ?_
  refine lv_ishl hx hb dX2_walkedLess_17 ?_
  refine lv_ior hx hb dX2_walkedLess_18 ?_
  refine lv_bipush (v := (10 : Int32)) hx hb dX2_walkedLess_19 (by decide) ?_
  refine lv_ishl hx hb dX2_walkedLess_21 ?_
  subst hQ
  exact retRO hx hb hr hlocks rfl hS h dX2_walkedLess_22
theorem dX2_walkedGreater_0 : decode cX2_walkedGreater 0 = .ok (.iload_n 0, 1) := by decide +kernel
theorem dX2_walkedGreater_1 : decode cX2_walkedGreater 1 = .ok (.bipush 10, 2) := by decide +kernel
theorem dX2_walkedGreater_3 : decode cX2_walkedGreater 3 = .ok (.ishr, 1) := by decide +kernel
theorem dX2_walkedGreater_4 : decode cX2_walkedGreater 4 = .ok (.sipush 1023, 3) := by decide +kernel
theorem dX2_walkedGreater_7 : decode cX2_walkedGreater 7 = .ok (.iand, 1) := by decide +kernel
theorem dX2_walkedGreater_8 : decode cX2_walkedGreater 8 = .ok (.istore_n 1, 1) := by decide +kernel
theorem dX2_walkedGreater_9 : decode cX2_walkedGreater 9 = .ok (.iload_n 1, 1) := by decide +kernel
theorem dX2_walkedGreater_10 : decode cX2_walkedGreater 10 = .ok (.iconst 1, 1) := by decide +kernel
theorem dX2_walkedGreater_11 : decode cX2_walkedGreater 11 = .ok (.ishl, 1) := by decide +kernel
theorem dX2_walkedGreater_12 : decode cX2_walkedGreater 12 = .ok (.sipush 1023, 3) := by decide +kernel
theorem dX2_walkedGreater_15 : decode cX2_walkedGreater 15 = .ok (.iand, 1) := by decide +kernel
theorem dX2_walkedGreater_16 : decode cX2_walkedGreater 16 = .ok (.iload_n 1, 1) := by decide +kernel
theorem dX2_walkedGreater_17 : decode cX2_walkedGreater 17 = .ok (.bipush 9, 2) := by decide +kernel
theorem dX2_walkedGreater_19 : decode cX2_walkedGreater 19 = .ok (.ishr, 1) := by decide +kernel
theorem dX2_walkedGreater_20 : decode cX2_walkedGreater 20 = .ok (.ior, 1) := by decide +kernel
theorem dX2_walkedGreater_21 : decode cX2_walkedGreater 21 = .ok (.bipush 10, 2) := by decide +kernel
theorem dX2_walkedGreater_23 : decode cX2_walkedGreater 23 = .ok (.ishl, 1) := by decide +kernel
theorem dX2_walkedGreater_24 : decode cX2_walkedGreater 24 = .ok (.ireturn, 1) := by decide +kernel
set_option maxHeartbeats 4000000 in
set_option maxRecDepth 100000 in
theorem mX2_walkedGreater (l : Launch) (dC : Nat → ClassId) (dI : Nat → Nat → Nat) (cI cC : ClassId) (sk : (Nat → Nat) × (Nat → Nat))  (p0 : Int32)  (z : Int32) (h : fX2_walkedGreater p0 = some z) : cRO l yX2_walkedGreater wsX2_walkedGreater (RMk 0 0) sk (dC, dI) (tyz cI cC) ([] : va_W) [.int p0] z := by
  refine ofRO (cc := cX2_walkedGreater) (maxL := 2) (ret := (some .int)) (own := RX2) (plainFor_of_name (by decide)) rfl rfl (Nat.le_of_ble_eq_true rfl) ?_
  intro p e s m args below meth c hx hb hml hr hts hown hlocks hE hK hP hS ls hl
  generalize hQ : qRO _ _ _ _ = Q
  have hl : lv_has ls 2 [(0, .int p0)] := hl
  rw [fX2_walkedGreater] at h
  refine lv_iload_n hx hb dX2_walkedGreater_0 rfl (lv_at hl 0 rfl) ?_
  refine lv_bipush (v := (10 : Int32)) hx hb dX2_walkedGreater_1 (by decide) ?_
  refine lv_ishr hx hb dX2_walkedGreater_3 ?_
  refine lv_sipush (v := (1023 : Int32)) hx hb dX2_walkedGreater_4 (by decide) ?_
  refine lv_iand hx hb dX2_walkedGreater_7 ?_
  refine lv_istore_n (lv' := [(1, .int ((p0 >>> ((10 : Int32) &&& 31)) &&& (1023 : Int32))), (0, .int p0)]) hx hb dX2_walkedGreater_8 rfl hl (by decide) rfl (fun ls hl => ?_)
  refine lv_iload_n hx hb dX2_walkedGreater_9 rfl (lv_at hl 0 rfl) ?_
  refine lv_iconst (v := (1 : Int32)) hx hb dX2_walkedGreater_10 (by decide) ?_
  refine lv_ishl hx hb dX2_walkedGreater_11 ?_
  refine lv_sipush (v := (1023 : Int32)) hx hb dX2_walkedGreater_12 (by decide) ?_
  refine lv_iand hx hb dX2_walkedGreater_15 ?_
  refine lv_iload_n hx hb dX2_walkedGreater_16 rfl (lv_at hl 0 rfl) ?_
  refine lv_bipush (v := (9 : Int32)) hx hb dX2_walkedGreater_17 (by decide) ?_
  refine lv_ishr hx hb dX2_walkedGreater_19 ?_
  refine lv_ior hx hb dX2_walkedGreater_20 ?_
  refine lv_bipush (v := (10 : Int32)) hx hb dX2_walkedGreater_21 (by decide) ?_
  refine lv_ishl hx hb dX2_walkedGreater_23 ?_
  subst hQ
  exact retRO hx hb hr hlocks rfl hS h dX2_walkedGreater_24
theorem dX2_placesUnleaped_0 : decode cX2_placesUnleaped 0 = .ok (.aload_n 0, 1) := by decide +kernel
theorem dX2_placesUnleaped_1 : decode cX2_placesUnleaped 1 = .ok (.iload_n 1, 1) := by decide +kernel
theorem dX2_placesUnleaped_2 : decode cX2_placesUnleaped 2 = .ok (.invokevirtual 77, 3) := by decide +kernel
theorem dX2_placesUnleaped_5 : decode cX2_placesUnleaped 5 = .ok (.iload_n 1, 1) := by decide +kernel
theorem dX2_placesUnleaped_6 : decode cX2_placesUnleaped 6 = .ok (.invokestatic 80, 3) := by decide +kernel
theorem dX2_placesUnleaped_9 : decode cX2_placesUnleaped 9 = .ok (.ior, 1) := by decide +kernel
theorem dX2_placesUnleaped_10 : decode cX2_placesUnleaped 10 = .ok (.iload_n 1, 1) := by decide +kernel
theorem dX2_placesUnleaped_11 : decode cX2_placesUnleaped 11 = .ok (.invokestatic 83, 3) := by decide +kernel
theorem dX2_placesUnleaped_14 : decode cX2_placesUnleaped 14 = .ok (.ior, 1) := by decide +kernel
theorem dX2_placesUnleaped_15 : decode cX2_placesUnleaped 15 = .ok (.ireturn, 1) := by decide +kernel
set_option maxRecDepth 20000 in
theorem ggX2_placesUnleaped_X2_placesStayed : GoodIn wsX2_placesUnleaped wsX2_placesStayed := goodIn_r _ [5, 6, 7, 14, 15, 16, 17, 18, 19, 20, 21, 22] (by decide +kernel) (by decide +kernel)
set_option maxRecDepth 20000 in
theorem gX2_placesUnleaped_X2_placesStayed : GoodIn wsX2_placesUnleaped (wsV RX2 77 RX2 yX2_placesStayed wsX2_placesStayed) := goodIn_app (goodIn_of _ (by decide +kernel)) ggX2_placesUnleaped_X2_placesStayed
set_option maxRecDepth 20000 in
theorem ggX2_placesUnleaped_X2_walkedLess : GoodIn wsX2_placesUnleaped wsX2_walkedLess := goodIn_r _ [10] (by decide +kernel) (by decide +kernel)
set_option maxRecDepth 20000 in
theorem gX2_placesUnleaped_X2_walkedLess : GoodIn wsX2_placesUnleaped (va_wsS RX2 80 yX2_walkedLess wsX2_walkedLess) := goodIn_app (goodIn_of _ (by decide +kernel)) ggX2_placesUnleaped_X2_walkedLess
set_option maxRecDepth 20000 in
theorem ggX2_placesUnleaped_X2_walkedGreater : GoodIn wsX2_placesUnleaped wsX2_walkedGreater := goodIn_r _ [13] (by decide +kernel) (by decide +kernel)
set_option maxRecDepth 20000 in
theorem gX2_placesUnleaped_X2_walkedGreater : GoodIn wsX2_placesUnleaped (va_wsS RX2 83 yX2_walkedGreater wsX2_walkedGreater) := goodIn_app (goodIn_of _ (by decide +kernel)) ggX2_placesUnleaped_X2_walkedGreater
set_option maxHeartbeats 4000000 in
set_option maxRecDepth 100000 in
theorem mX2_placesUnleaped (l : Launch) (dC : Nat → ClassId) (dI : Nat → Nat → Nat) (cI cC : ClassId) (sk : (Nat → Nat) × (Nat → Nat)) (f : Nat → Nat) (p1 : Int32) (c_lanes : AR) (c_spots : AR) (c_byLeaps : AR) (c_load : Int32) (c_gone : Int32) (c_held : Int32) (c_strong : Int32) (c_done : Int32) (c_r : RT) (z : Int32) (h : fX2_placesUnleaped p1 c_strong = some z) : cRO l yX2_placesUnleaped wsX2_placesUnleaped (RMk 1 21) sk (dC, dI) (tyz cI cC) (zwV cI cC f c_lanes c_spots c_byLeaps c_load c_gone c_held c_strong c_done c_r) [.ref (f 0), .int p1] z := by
  refine ofRO (cc := cX2_placesUnleaped) (maxL := 2) (ret := (some .int)) (own := RX2) (plainFor_of_name (by decide)) rfl rfl (Nat.le_of_ble_eq_true rfl) ?_
  intro p e s m args below meth c hx hb hml hr hts hown hlocks hE hK hP hS ls hl
  generalize hQ : qRO _ _ _ _ = Q
  have hl : lv_has ls 2 [(0, .ref (f 0)), (1, .int p1)] := hl
  rw [fX2_placesUnleaped] at h
  refine lv_aload_n hx hb dX2_placesUnleaped_0 rfl (lv_at hl 0 rfl) ?_
  refine lv_iload_n hx hb dX2_placesUnleaped_1 rfl (lv_at hl 1 rfl) ?_
  obtain ⟨q2, e2, h⟩ := bd_some h
  refine g_roV (wc := (zwV cI cC f c_lanes c_spots c_byLeaps c_load c_gone c_held c_strong c_done c_r)) ⟨hx, hb, hml, hown, hts⟩ hE hK hP hS [0, 1, 2, 3, 4, 5, 6, 7, 8, 9] rfl (mX2_placesStayed l dC dI cI cC sk f p1 c_lanes c_spots c_byLeaps c_load c_gone c_held c_strong c_done c_r q2 e2) (cwV 1 hts gX2_placesUnleaped_X2_placesStayed rfl rfl rfl (by decide +kernel) ⟨Nat.le_of_ble_eq_true rfl, Nat.le_of_ble_eq_true rfl⟩) (va_recv hK hP (ci := 2) (q0 := 0) rfl rfl) (As := [.int p1]) (rest := []) rfl hl.1 rfl (Nat.le_of_ble_eq_true rfl) dX2_placesUnleaped_2 ⟨Nat.zero_le _, Nat.zero_le _⟩ (fun H locs hP hS => ?_)
  refine lv_iload_n hx hb dX2_placesUnleaped_5 rfl (lv_at hl 1 rfl) ?_
  obtain ⟨q6, e6, h⟩ := bd_some h
  refine g_roS (wc := ([] : va_W)) ⟨hx, hb, hml, hown, hts⟩ hE hK hP hS [] rfl (mX2_walkedLess l dC dI cI cC sk  p1 q6 e6) (va_cwS 1 hts gX2_placesUnleaped_X2_walkedLess rfl rfl rfl (by decide +kernel) ⟨Nat.le_of_ble_eq_true rfl, Nat.le_of_ble_eq_true rfl⟩) (As := [.int p1]) (rest := [.int q2]) rfl hl.1 rfl (Nat.le_of_ble_eq_true rfl) dX2_placesUnleaped_6 ⟨Nat.zero_le _, Nat.zero_le _⟩ (fun H locs hP hS => ?_)
  refine lv_ior hx hb dX2_placesUnleaped_9 ?_
  refine lv_iload_n hx hb dX2_placesUnleaped_10 rfl (lv_at hl 1 rfl) ?_
  obtain ⟨q11, e11, h⟩ := bd_some h
  refine g_roS (wc := ([] : va_W)) ⟨hx, hb, hml, hown, hts⟩ hE hK hP hS [] rfl (mX2_walkedGreater l dC dI cI cC sk  p1 q11 e11) (va_cwS 1 hts gX2_placesUnleaped_X2_walkedGreater rfl rfl rfl (by decide +kernel) ⟨Nat.le_of_ble_eq_true rfl, Nat.le_of_ble_eq_true rfl⟩) (As := [.int p1]) (rest := [.int (q2 ||| q6)]) rfl hl.1 rfl (Nat.le_of_ble_eq_true rfl) dX2_placesUnleaped_11 ⟨Nat.zero_le _, Nat.zero_le _⟩ (fun H locs hP hS => ?_)
  refine lv_ior hx hb dX2_placesUnleaped_14 ?_
  subst hQ
  exact retRO hx hb hr hlocks rfl hS h dX2_placesUnleaped_15
theorem dX2_cellsNear_0 : decode cX2_cellsNear 0 = .ok (.iconst 1, 1) := by decide +kernel
theorem dX2_cellsNear_1 : decode cX2_cellsNear 1 = .ok (.iload_n 0, 1) := by decide +kernel
theorem dX2_cellsNear_2 : decode cX2_cellsNear 2 = .ok (.ishl, 1) := by decide +kernel
theorem dX2_cellsNear_3 : decode cX2_cellsNear 3 = .ok (.iconst 1, 1) := by decide +kernel
theorem dX2_cellsNear_4 : decode cX2_cellsNear 4 = .ok (.iload_n 0, 1) := by decide +kernel
theorem dX2_cellsNear_5 : decode cX2_cellsNear 5 = .ok (.iconst 1, 1) := by decide +kernel
theorem dX2_cellsNear_6 : decode cX2_cellsNear 6 = .ok (.iadd, 1) := by decide +kernel
theorem dX2_cellsNear_7 : decode cX2_cellsNear 7 = .ok (.bipush 10, 2) := by decide +kernel
theorem dX2_cellsNear_9 : decode cX2_cellsNear 9 = .ok (.irem, 1) := by decide +kernel
theorem dX2_cellsNear_10 : decode cX2_cellsNear 10 = .ok (.ishl, 1) := by decide +kernel
theorem dX2_cellsNear_11 : decode cX2_cellsNear 11 = .ok (.ior, 1) := by decide +kernel
theorem dX2_cellsNear_12 : decode cX2_cellsNear 12 = .ok (.iconst 1, 1) := by decide +kernel
theorem dX2_cellsNear_13 : decode cX2_cellsNear 13 = .ok (.iload_n 0, 1) := by decide +kernel
theorem dX2_cellsNear_14 : decode cX2_cellsNear 14 = .ok (.bipush 10, 2) := by decide +kernel
theorem dX2_cellsNear_16 : decode cX2_cellsNear 16 = .ok (.iadd, 1) := by decide +kernel
theorem dX2_cellsNear_17 : decode cX2_cellsNear 17 = .ok (.iconst 1, 1) := by decide +kernel
theorem dX2_cellsNear_18 : decode cX2_cellsNear 18 = .ok (.isub, 1) := by decide +kernel
theorem dX2_cellsNear_19 : decode cX2_cellsNear 19 = .ok (.bipush 10, 2) := by decide +kernel
theorem dX2_cellsNear_21 : decode cX2_cellsNear 21 = .ok (.irem, 1) := by decide +kernel
theorem dX2_cellsNear_22 : decode cX2_cellsNear 22 = .ok (.ishl, 1) := by decide +kernel
theorem dX2_cellsNear_23 : decode cX2_cellsNear 23 = .ok (.ior, 1) := by decide +kernel
theorem dX2_cellsNear_24 : decode cX2_cellsNear 24 = .ok (.ireturn, 1) := by decide +kernel
set_option maxHeartbeats 4000000 in
set_option maxRecDepth 100000 in
theorem mX2_cellsNear (l : Launch) (dC : Nat → ClassId) (dI : Nat → Nat → Nat) (cI cC : ClassId) (sk : (Nat → Nat) × (Nat → Nat))  (p0 : Int32)  (z : Int32) (h : fX2_cellsNear p0 = some z) : cRO l yX2_cellsNear wsX2_cellsNear (RMk 0 0) sk (dC, dI) (tyz cI cC) ([] : va_W) [.int p0] z := by
  refine ofRO (cc := cX2_cellsNear) (maxL := 1) (ret := (some .int)) (own := RX2) (plainFor_of_name (by decide)) rfl rfl (Nat.le_of_ble_eq_true rfl) ?_
  intro p e s m args below meth c hx hb hml hr hts hown hlocks hE hK hP hS ls hl
  generalize hQ : qRO _ _ _ _ = Q
  have hl : lv_has ls 1 [(0, .int p0)] := hl
  rw [fX2_cellsNear] at h
  refine lv_iconst (v := (1 : Int32)) hx hb dX2_cellsNear_0 (by decide) ?_
  refine lv_iload_n hx hb dX2_cellsNear_1 rfl (lv_at hl 0 rfl) ?_
  refine lv_ishl hx hb dX2_cellsNear_2 ?_
  refine lv_iconst (v := (1 : Int32)) hx hb dX2_cellsNear_3 (by decide) ?_
  refine lv_iload_n hx hb dX2_cellsNear_4 rfl (lv_at hl 0 rfl) ?_
  refine lv_iconst (v := (1 : Int32)) hx hb dX2_cellsNear_5 (by decide) ?_
  refine lv_iadd hx hb dX2_cellsNear_6 ?_
  refine lv_bipush (v := (10 : Int32)) hx hb dX2_cellsNear_7 (by decide) ?_
  refine lv_irem hx hb dX2_cellsNear_9 (by decide) ?_
  refine lv_ishl hx hb dX2_cellsNear_10 ?_
  refine lv_ior hx hb dX2_cellsNear_11 ?_
  refine lv_iconst (v := (1 : Int32)) hx hb dX2_cellsNear_12 (by decide) ?_
  refine lv_iload_n hx hb dX2_cellsNear_13 rfl (lv_at hl 0 rfl) ?_
  refine lv_bipush (v := (10 : Int32)) hx hb dX2_cellsNear_14 (by decide) ?_
  refine lv_iadd hx hb dX2_cellsNear_16 ?_
  refine lv_iconst (v := (1 : Int32)) hx hb dX2_cellsNear_17 (by decide) ?_
  refine lv_isub hx hb dX2_cellsNear_18 ?_
  refine lv_bipush (v := (10 : Int32)) hx hb dX2_cellsNear_19 (by decide) ?_
  refine lv_irem hx hb dX2_cellsNear_21 (by decide) ?_
  refine lv_ishl hx hb dX2_cellsNear_22 ?_
  refine lv_ior hx hb dX2_cellsNear_23 ?_
  subst hQ
  exact retRO hx hb hr hlocks rfl hS h dX2_cellsNear_24
theorem dX2_floesBeside_0 : decode cX2_floesBeside 0 = .ok (.iconst 0, 1) := by decide +kernel
theorem dX2_floesBeside_1 : decode cX2_floesBeside 1 = .ok (.istore_n 2, 1) := by decide +kernel
theorem dX2_floesBeside_2 : decode cX2_floesBeside 2 = .ok (.aload_n 0, 1) := by decide +kernel
theorem dX2_floesBeside_3 : decode cX2_floesBeside 3 = .ok (.getfield 21, 3) := by decide +kernel
theorem dX2_floesBeside_6 : decode cX2_floesBeside 6 = .ok (.iload_n 1, 1) := by decide +kernel
theorem dX2_floesBeside_7 : decode cX2_floesBeside 7 = .ok (.invokevirtual 51, 3) := by decide +kernel
theorem dX2_floesBeside_10 : decode cX2_floesBeside 10 = .ok (.ifCond .ne 5, 3) := by decide +kernel
theorem dX2_floesBeside_13 : decode cX2_floesBeside 13 = .ok (.iload_n 2, 1) := by decide +kernel
theorem dX2_floesBeside_14 : decode cX2_floesBeside 14 = .ok (.ireturn, 1) := by decide +kernel
theorem dX2_floesBeside_15 : decode cX2_floesBeside 15 = .ok (.aload_n 0, 1) := by decide +kernel
theorem dX2_floesBeside_16 : decode cX2_floesBeside 16 = .ok (.getfield 15, 3) := by decide +kernel
theorem dX2_floesBeside_19 : decode cX2_floesBeside 19 = .ok (.iload_n 1, 1) := by decide +kernel
theorem dX2_floesBeside_20 : decode cX2_floesBeside 20 = .ok (.iaload, 1) := by decide +kernel
theorem dX2_floesBeside_21 : decode cX2_floesBeside 21 = .ok (.invokestatic 88, 3) := by decide +kernel
theorem dX2_floesBeside_24 : decode cX2_floesBeside 24 = .ok (.istore_n 3, 1) := by decide +kernel
theorem dX2_floesBeside_25 : decode cX2_floesBeside 25 = .ok (.iconst 0, 1) := by decide +kernel
theorem dX2_floesBeside_26 : decode cX2_floesBeside 26 = .ok (.istore 4, 2) := by decide +kernel
theorem dX2_floesBeside_28 : decode cX2_floesBeside 28 = .ok (.iload 4, 2) := by decide +kernel
theorem dX2_floesBeside_30 : decode cX2_floesBeside 30 = .ok (.bipush 8, 2) := by decide +kernel
theorem dX2_floesBeside_32 : decode cX2_floesBeside 32 = .ok (.if_icmp .ge 64, 3) := by decide +kernel
theorem dX2_floesBeside_35 : decode cX2_floesBeside 35 = .ok (.aload_n 0, 1) := by decide +kernel
theorem dX2_floesBeside_36 : decode cX2_floesBeside 36 = .ok (.getfield 21, 3) := by decide +kernel
theorem dX2_floesBeside_39 : decode cX2_floesBeside 39 = .ok (.iload 4, 2) := by decide +kernel
theorem dX2_floesBeside_41 : decode cX2_floesBeside 41 = .ok (.invokevirtual 51, 3) := by decide +kernel
theorem dX2_floesBeside_44 : decode cX2_floesBeside 44 = .ok (.ifCond .eq 46, 3) := by decide +kernel
theorem dX2_floesBeside_47 : decode cX2_floesBeside 47 = .ok (.aload_n 0, 1) := by decide +kernel
theorem dX2_floesBeside_48 : decode cX2_floesBeside 48 = .ok (.getfield 9, 3) := by decide +kernel
theorem dX2_floesBeside_51 : decode cX2_floesBeside 51 = .ok (.iload 4, 2) := by decide +kernel
theorem dX2_floesBeside_53 : decode cX2_floesBeside 53 = .ok (.iaload, 1) := by decide +kernel
theorem dX2_floesBeside_54 : decode cX2_floesBeside 54 = .ok (.aload_n 0, 1) := by decide +kernel
theorem dX2_floesBeside_55 : decode cX2_floesBeside 55 = .ok (.getfield 9, 3) := by decide +kernel
theorem dX2_floesBeside_58 : decode cX2_floesBeside 58 = .ok (.iload_n 1, 1) := by decide +kernel
theorem dX2_floesBeside_59 : decode cX2_floesBeside 59 = .ok (.iaload, 1) := by decide +kernel
theorem dX2_floesBeside_60 : decode cX2_floesBeside 60 = .ok (.isub, 1) := by decide +kernel
theorem dX2_floesBeside_61 : decode cX2_floesBeside 61 = .ok (.invokestatic 97, 3) := by decide +kernel
theorem dX2_floesBeside_64 : decode cX2_floesBeside 64 = .ok (.iconst 1, 1) := by decide +kernel
theorem dX2_floesBeside_65 : decode cX2_floesBeside 65 = .ok (.if_icmp .ne 25, 3) := by decide +kernel
theorem dX2_floesBeside_68 : decode cX2_floesBeside 68 = .ok (.iload_n 3, 1) := by decide +kernel
theorem dX2_floesBeside_69 : decode cX2_floesBeside 69 = .ok (.aload_n 0, 1) := by decide +kernel
theorem dX2_floesBeside_70 : decode cX2_floesBeside 70 = .ok (.getfield 15, 3) := by decide +kernel
theorem dX2_floesBeside_73 : decode cX2_floesBeside 73 = .ok (.iload 4, 2) := by decide +kernel
theorem dX2_floesBeside_75 : decode cX2_floesBeside 75 = .ok (.iaload, 1) := by decide +kernel
theorem dX2_floesBeside_76 : decode cX2_floesBeside 76 = .ok (.ishr, 1) := by decide +kernel
theorem dX2_floesBeside_77 : decode cX2_floesBeside 77 = .ok (.iconst 1, 1) := by decide +kernel
theorem dX2_floesBeside_78 : decode cX2_floesBeside 78 = .ok (.iand, 1) := by decide +kernel
theorem dX2_floesBeside_79 : decode cX2_floesBeside 79 = .ok (.iconst 1, 1) := by decide +kernel
theorem dX2_floesBeside_80 : decode cX2_floesBeside 80 = .ok (.if_icmp .ne 10, 3) := by decide +kernel
theorem dX2_floesBeside_83 : decode cX2_floesBeside 83 = .ok (.iload_n 2, 1) := by decide +kernel
theorem dX2_floesBeside_84 : decode cX2_floesBeside 84 = .ok (.iconst 1, 1) := by decide +kernel
theorem dX2_floesBeside_85 : decode cX2_floesBeside 85 = .ok (.iload 4, 2) := by decide +kernel
theorem dX2_floesBeside_87 : decode cX2_floesBeside 87 = .ok (.ishl, 1) := by decide +kernel
theorem dX2_floesBeside_88 : decode cX2_floesBeside 88 = .ok (.ior, 1) := by decide +kernel
theorem dX2_floesBeside_89 : decode cX2_floesBeside 89 = .ok (.istore_n 2, 1) := by decide +kernel
theorem dX2_floesBeside_90 : decode cX2_floesBeside 90 = .ok (.iinc 4 1, 3) := by decide +kernel
theorem dX2_floesBeside_93 : decode cX2_floesBeside 93 = .ok (.goto (-65), 3) := by decide +kernel
theorem dX2_floesBeside_96 : decode cX2_floesBeside 96 = .ok (.iload_n 2, 1) := by decide +kernel
theorem dX2_floesBeside_97 : decode cX2_floesBeside 97 = .ok (.ireturn, 1) := by decide +kernel
set_option maxRecDepth 20000 in
theorem ggX2_floesBeside_X0_has : GoodIn wsX2_floesBeside wsX0_has := goodIn_r _ [12, 13, 27, 28, 29, 30, 31, 32, 33, 34] (by decide +kernel) (by decide +kernel)
set_option maxRecDepth 20000 in
theorem gX2_floesBeside_X0_has : GoodIn wsX2_floesBeside (wsV RX2 51 RX0 yX0_has wsX0_has) := goodIn_app (goodIn_of _ (by decide +kernel)) ggX2_floesBeside_X0_has
set_option maxRecDepth 20000 in
theorem ggX2_floesBeside_X2_cellsNear : GoodIn wsX2_floesBeside wsX2_cellsNear := goodIn_r _ [17] (by decide +kernel) (by decide +kernel)
set_option maxRecDepth 20000 in
theorem gX2_floesBeside_X2_cellsNear : GoodIn wsX2_floesBeside (va_wsS RX2 88 yX2_cellsNear wsX2_cellsNear) := goodIn_app (goodIn_of _ (by decide +kernel)) ggX2_floesBeside_X2_cellsNear
set_option maxHeartbeats 4000000 in
set_option maxRecDepth 100000 in
theorem mX2_floesBeside (l : Launch) (dC : Nat → ClassId) (dI : Nat → Nat → Nat) (cI cC : ClassId) (sk : (Nat → Nat) × (Nat → Nat)) (f : Nat → Nat) (p1 : Int32) (c_lanes : AR) (c_spots : AR) (c_byLeaps : AR) (c_load : Int32) (c_gone : Int32) (c_held : Int32) (c_strong : Int32) (c_done : Int32) (c_r : RT) (z : Int32) (h : fX2_floesBeside p1 c_lanes c_spots c_r = some z) : cRO l yX2_floesBeside wsX2_floesBeside (RMk 1 21) sk (dC, dI) (tyz cI cC) (zwV cI cC f c_lanes c_spots c_byLeaps c_load c_gone c_held c_strong c_done c_r) [.ref (f 0), .int p1] z := by
  refine ofRO (cc := cX2_floesBeside) (maxL := 5) (ret := (some .int)) (own := RX2) (plainFor_of_name (by decide)) rfl rfl (Nat.le_of_ble_eq_true rfl) ?_
  intro p e s m args below meth c hx hb hml hr hts hown hlocks hE hK hP hS ls hl
  generalize hQ : qRO _ _ _ _ = Q
  have hl : lv_has ls 5 [(0, .ref (f 0)), (1, .int p1)] := hl
  have hiX2 : ∀ w ∈ wsX20, w ∈ wsX2_floesBeside := fun w h => List.mem_cons_of_mem _ (List.mem_append_left _ (List.mem_append_right _ h))
  have hw1 := hts (Cond.fieldLink RX2 21 "FloeToFloe$Walk" "river" "LFloeToFloe$River;") (List.mem_of_getElem? (i := 1) rfl)
  have hw2 := hts (Cond.fieldLink RX2 15 "FloeToFloe$Walk" "spots" "[I") (List.mem_of_getElem? (i := 2) rfl)
  have hw3 := hts (Cond.fieldLink RX2 9 "FloeToFloe$Walk" "lanes" "[I") (List.mem_of_getElem? (i := 3) rfl)
  have hw4 := hts (Cond.methodLink RX2 97 Lib.Math.abs.name) (List.mem_of_getElem? (i := 4) rfl)
  have hw5 := hts (Cond.static Lib.Math.abs.name) (List.mem_of_getElem? (i := 5) rfl)
  have hw6 := hts (Cond.initialized "java/lang/Math") (List.mem_of_getElem? (i := 6) rfl)
  have hw7 := hts (Cond.code Lib.Math.abs.name Lib.Math.abs.code 1 (some .int)) (List.mem_of_getElem? (i := 7) rfl)
  rw [fX2_floesBeside] at h
  refine lv_iconst (v := (0 : Int32)) hx hb dX2_floesBeside_0 (by decide) ?_
  refine lv_istore_n (lv' := [(2, .int (0 : Int32)), (0, .ref (f 0)), (1, .int p1)]) hx hb dX2_floesBeside_1 rfl hl (by decide) rfl (fun ls hl => ?_)
  refine lv_aload_n hx hb dX2_floesBeside_2 rfl (lv_at hl 1 rfl) ?_
  refine va_get (D := (dC, dI)) (ci := 2) (v := .ref (f 4)) (C := RX2) (T := TX2) (N := 9) hx hb hts hiX2 hown hK hP 0 rfl rfl 0 (by decide) hw1 (fun _ h9 => h9) rfl dX2_floesBeside_3 ?_
  refine lv_iload_n hx hb dX2_floesBeside_6 rfl (lv_at hl 2 rfl) ?_
  obtain ⟨q7, e7, h⟩ := bd_some h
  refine g_roV (wc := (zwR cI cC (fun k => f (k + 4)) c_r)) ⟨hx, hb, hml, hown, hts⟩ hE hK hP hS [4, 5, 6, 7, 8, 9] rfl (mX0_has l dC dI cI cC sk (fun k => f (k + 4)) p1 c_r q7 e7) (cwV 1 hts gX2_floesBeside_X0_has rfl rfl rfl (by decide +kernel) ⟨Nat.le_of_ble_eq_true rfl, Nat.le_of_ble_eq_true rfl⟩) (va_recv hK hP (ci := 0) (q0 := 4) rfl rfl) (As := [.int p1]) (rest := []) rfl hl.1 rfl (Nat.le_of_ble_eq_true rfl) dX2_floesBeside_7 ⟨Nat.zero_le _, Nat.zero_le _⟩ (fun H locs hP hS => ?_)
  refine lv_if_ne (tgt := 15) hx hb dX2_floesBeside_10 (by decide) (fun c10 => ?_) (fun c10 => ?_)
  · have h := itF c10 h
    refine lv_aload_n hx hb dX2_floesBeside_15 rfl (lv_at hl 1 rfl) ?_
    refine va_get (D := (dC, dI)) (ci := 2) (v := .ref (f 2)) (C := RX2) (T := TX2) (N := 9) hx hb hts hiX2 hown hK hP 0 rfl rfl 2 (by decide) hw2 (fun _ h9 => h9) rfl dX2_floesBeside_16 ?_
    refine lv_iload_n hx hb dX2_floesBeside_19 rfl (lv_at hl 2 rfl) ?_
    obtain ⟨hin, h⟩ := ck_some h
    refine va_iald hx hb hK hP 2 0 rfl rfl hin dX2_floesBeside_20 ?_
    obtain ⟨q21, e21, h⟩ := bd_some h
    refine g_roS (wc := ([] : va_W)) ⟨hx, hb, hml, hown, hts⟩ hE hK hP hS [] rfl (mX2_cellsNear l dC dI cI cC sk  (c_spots (p1).toNatClampNeg) q21 e21) (va_cwS 1 hts gX2_floesBeside_X2_cellsNear rfl rfl rfl (by decide +kernel) ⟨Nat.le_of_ble_eq_true rfl, Nat.le_of_ble_eq_true rfl⟩) (As := [.int (c_spots (p1).toNatClampNeg)]) (rest := []) rfl hl.1 rfl (Nat.le_of_ble_eq_true rfl) dX2_floesBeside_21 ⟨Nat.zero_le _, Nat.zero_le _⟩ (fun H locs hP hS => ?_)
    refine lv_istore_n (lv' := [(3, .int q21), (2, .int (0 : Int32)), (0, .ref (f 0)), (1, .int p1)]) hx hb dX2_floesBeside_24 rfl hl (by decide) rfl (fun ls hl => ?_)
    refine lv_iconst (v := (0 : Int32)) hx hb dX2_floesBeside_25 (by decide) ?_
    refine lv_istore (lv' := [(4, .int (0 : Int32)), (3, .int q21), (2, .int (0 : Int32)), (0, .ref (f 0)), (1, .int p1)]) hx hb dX2_floesBeside_26 hl (by decide) rfl (fun ls hl => ?_)
    have L28 : ∀ (K28 : Int32 → Option (Int32)), (∀ (k28_2 : Int32), K28 k28_2 = some z → ∀ (H : Heap) (locs : List Loc) (ls : Array Slot), va_P (dC, dI) vwCl (zwV cI cC f c_lanes c_spots c_byLeaps c_load c_gone c_held c_strong c_done c_r) H → va_S noA s.heap H locs → lv_has ls 5 [(2, .int k28_2)] → W p l e (RMk 1 21) s m args below meth c H locs 0 0 Q (F0 m 96 ls [])) → ∀ (n : Nat) (x28_2 : Int32) (x28_4 : Int32), fX2_floesBeside_L28 c_lanes c_r c_spots p1 q21 K28 n x28_2 x28_4 = some z → ∀ (H : Heap) (locs : List Loc) (ls : Array Slot), va_P (dC, dI) vwCl (zwV cI cC f c_lanes c_spots c_byLeaps c_load c_gone c_held c_strong c_done c_r) H → va_S noA s.heap H locs → lv_has ls 5 [(0, .ref (f 0)), (1, .int p1), (2, .int x28_2), (3, .int q21), (4, .int x28_4)] → W p l e (RMk 1 21) s m args below meth c H locs 0 0 Q (F0 m 28 ls []) := by
      intro K28 kx28 n
      induction n with
      | zero => intro x28_2 x28_4 h; rw [fX2_floesBeside_L28] at h; cases h
      | succ n ih28 =>
        intro x28_2 x28_4 h H locs ls hP hS hl
        rw [fX2_floesBeside_L28] at h
        refine lv_iload hx hb dX2_floesBeside_28 (lv_at hl 4 rfl) ?_
        refine lv_bipush (v := (8 : Int32)) hx hb dX2_floesBeside_30 (by decide) ?_
        refine lv_icmp_ge (tgt := 96) hx hb dX2_floesBeside_32 (by decide) (fun c32 => ?_) (fun c32 => ?_)
        · have h := itT c32 h
          exact kx28 _ h _ _ _ hP hS (lv_sub hl [2] rfl)
        have h := itF c32 h
        refine lv_aload_n hx hb dX2_floesBeside_35 rfl (lv_at hl 0 rfl) ?_
        refine va_get (D := (dC, dI)) (ci := 2) (v := .ref (f 4)) (C := RX2) (T := TX2) (N := 9) hx hb hts hiX2 hown hK hP 0 rfl rfl 0 (by decide) hw1 (fun _ h9 => h9) rfl dX2_floesBeside_36 ?_
        refine lv_iload hx hb dX2_floesBeside_39 (lv_at hl 4 rfl) ?_
        obtain ⟨q41, e41, h⟩ := bd_some h
        refine g_roV (wc := (zwR cI cC (fun k => f (k + 4)) c_r)) ⟨hx, hb, hml, hown, hts⟩ hE hK hP hS [4, 5, 6, 7, 8, 9] rfl (mX0_has l dC dI cI cC sk (fun k => f (k + 4)) x28_4 c_r q41 e41) (cwV 1 hts gX2_floesBeside_X0_has rfl rfl rfl (by decide +kernel) ⟨Nat.le_of_ble_eq_true rfl, Nat.le_of_ble_eq_true rfl⟩) (va_recv hK hP (ci := 0) (q0 := 4) rfl rfl) (As := [.int x28_4]) (rest := []) rfl hl.1 rfl (Nat.le_of_ble_eq_true rfl) dX2_floesBeside_41 ⟨Nat.zero_le _, Nat.zero_le _⟩ (fun H locs hP hS => ?_)
        refine lv_if_eq (tgt := 90) hx hb dX2_floesBeside_44 (by decide) (fun c44 => ?_) (fun c44 => ?_)
        · have h := itT c44 h
          refine lv_iinc (v := (x28_4 + (1 : Int32))) (lv' := [(4, .int (x28_4 + (1 : Int32))), (0, .ref (f 0)), (1, .int p1), (2, .int x28_2), (3, .int q21)]) hx hb dX2_floesBeside_90 hl (k := 4) rfl rfl (by decide) rfl (fun ls hl => ?_)
          refine lv_goto (tgt := 28) hx hb dX2_floesBeside_93 (by decide) ?_
          exact ih28 _ _ h _ _ _ hP hS (lv_sub hl [1, 2, 3, 4, 0] rfl)
        have h := itF c44 h
        refine lv_aload_n hx hb dX2_floesBeside_47 rfl (lv_at hl 0 rfl) ?_
        refine va_get (D := (dC, dI)) (ci := 2) (v := .ref (f 1)) (C := RX2) (T := TX2) (N := 9) hx hb hts hiX2 hown hK hP 0 rfl rfl 1 (by decide) hw3 (fun _ h9 => h9) rfl dX2_floesBeside_48 ?_
        refine lv_iload hx hb dX2_floesBeside_51 (lv_at hl 4 rfl) ?_
        obtain ⟨hin, h⟩ := ck_some h
        refine va_iald hx hb hK hP 1 0 rfl rfl hin dX2_floesBeside_53 ?_
        refine lv_aload_n hx hb dX2_floesBeside_54 rfl (lv_at hl 0 rfl) ?_
        refine va_get (D := (dC, dI)) (ci := 2) (v := .ref (f 1)) (C := RX2) (T := TX2) (N := 9) hx hb hts hiX2 hown hK hP 0 rfl rfl 1 (by decide) hw3 (fun _ h9 => h9) rfl dX2_floesBeside_55 ?_
        refine lv_iload_n hx hb dX2_floesBeside_58 rfl (lv_at hl 1 rfl) ?_
        obtain ⟨hin, h⟩ := ck_some h
        refine va_iald hx hb hK hP 1 0 rfl rfl hin dX2_floesBeside_59 ?_
        refine lv_isub hx hb dX2_floesBeside_60 ?_
        refine va_mabs hx hb (hml.trans hl.1.symm) hown hw4 hw5 hw6 hw7 (Nat.le_of_ble_eq_true rfl) (Nat.le_of_ble_eq_true rfl) (Nat.zero_le _) (Nat.zero_le _) dX2_floesBeside_61 ?_
        refine lv_iconst (v := (1 : Int32)) hx hb dX2_floesBeside_64 (by decide) ?_
        refine lv_icmp_ne (tgt := 90) hx hb dX2_floesBeside_65 (by decide) (fun c65 => ?_) (fun c65 => ?_)
        · have h := itF c65 h
          refine lv_iinc (v := (x28_4 + (1 : Int32))) (lv' := [(4, .int (x28_4 + (1 : Int32))), (0, .ref (f 0)), (1, .int p1), (2, .int x28_2), (3, .int q21)]) hx hb dX2_floesBeside_90 hl (k := 4) rfl rfl (by decide) rfl (fun ls hl => ?_)
          refine lv_goto (tgt := 28) hx hb dX2_floesBeside_93 (by decide) ?_
          exact ih28 _ _ h _ _ _ hP hS (lv_sub hl [1, 2, 3, 4, 0] rfl)
        have h := itT c65 h
        refine lv_iload_n hx hb dX2_floesBeside_68 rfl (lv_at hl 3 rfl) ?_
        refine lv_aload_n hx hb dX2_floesBeside_69 rfl (lv_at hl 0 rfl) ?_
        refine va_get (D := (dC, dI)) (ci := 2) (v := .ref (f 2)) (C := RX2) (T := TX2) (N := 9) hx hb hts hiX2 hown hK hP 0 rfl rfl 2 (by decide) hw2 (fun _ h9 => h9) rfl dX2_floesBeside_70 ?_
        refine lv_iload hx hb dX2_floesBeside_73 (lv_at hl 4 rfl) ?_
        obtain ⟨hin, h⟩ := ck_some h
        refine va_iald hx hb hK hP 2 0 rfl rfl hin dX2_floesBeside_75 ?_
        refine lv_ishr hx hb dX2_floesBeside_76 ?_
        refine lv_iconst (v := (1 : Int32)) hx hb dX2_floesBeside_77 (by decide) ?_
        refine lv_iand hx hb dX2_floesBeside_78 ?_
        refine lv_iconst (v := (1 : Int32)) hx hb dX2_floesBeside_79 (by decide) ?_
        refine lv_icmp_ne (tgt := 90) hx hb dX2_floesBeside_80 (by decide) (fun c80 => ?_) (fun c80 => ?_)
        · have h := itF c80 h
          refine lv_iinc (v := (x28_4 + (1 : Int32))) (lv' := [(4, .int (x28_4 + (1 : Int32))), (0, .ref (f 0)), (1, .int p1), (2, .int x28_2), (3, .int q21)]) hx hb dX2_floesBeside_90 hl (k := 4) rfl rfl (by decide) rfl (fun ls hl => ?_)
          refine lv_goto (tgt := 28) hx hb dX2_floesBeside_93 (by decide) ?_
          exact ih28 _ _ h _ _ _ hP hS (lv_sub hl [1, 2, 3, 4, 0] rfl)
        have h := itT c80 h
        refine lv_iload_n hx hb dX2_floesBeside_83 rfl (lv_at hl 2 rfl) ?_
        refine lv_iconst (v := (1 : Int32)) hx hb dX2_floesBeside_84 (by decide) ?_
        refine lv_iload hx hb dX2_floesBeside_85 (lv_at hl 4 rfl) ?_
        refine lv_ishl hx hb dX2_floesBeside_87 ?_
        refine lv_ior hx hb dX2_floesBeside_88 ?_
        refine lv_istore_n (lv' := [(2, .int (x28_2 ||| ((1 : Int32) <<< (x28_4 &&& 31)))), (0, .ref (f 0)), (1, .int p1), (3, .int q21), (4, .int x28_4)]) hx hb dX2_floesBeside_89 rfl hl (by decide) rfl (fun ls hl => ?_)
        refine lv_iinc (v := (x28_4 + (1 : Int32))) (lv' := [(4, .int (x28_4 + (1 : Int32))), (2, .int (x28_2 ||| ((1 : Int32) <<< (x28_4 &&& 31)))), (0, .ref (f 0)), (1, .int p1), (3, .int q21)]) hx hb dX2_floesBeside_90 hl (k := 4) rfl rfl (by decide) rfl (fun ls hl => ?_)
        refine lv_goto (tgt := 28) hx hb dX2_floesBeside_93 (by decide) ?_
        exact ih28 _ _ h _ _ _ hP hS (lv_sub hl [2, 3, 1, 4, 0] rfl)
    refine L28 _ (fun k28_2 h H locs ls hP hS hl => ?_) _ _ _ h _ _ _ hP hS (lv_sub hl [3, 4, 2, 1, 0] rfl)
    refine lv_iload_n hx hb dX2_floesBeside_96 rfl (lv_at hl 0 rfl) ?_
    subst hQ
    exact retRO hx hb hr hlocks rfl hS h dX2_floesBeside_97
  have h := itT c10 h
  refine lv_iload_n hx hb dX2_floesBeside_13 rfl (lv_at hl 0 rfl) ?_
  subst hQ
  exact retRO hx hb hr hlocks rfl hS h dX2_floesBeside_14
theorem dX2_bankBeside_0 : decode cX2_bankBeside 0 = .ok (.aload_n 0, 1) := by decide +kernel
theorem dX2_bankBeside_1 : decode cX2_bankBeside 1 = .ok (.getfield 21, 3) := by decide +kernel
theorem dX2_bankBeside_4 : decode cX2_bankBeside 4 = .ok (.iload_n 1, 1) := by decide +kernel
theorem dX2_bankBeside_5 : decode cX2_bankBeside 5 = .ok (.invokevirtual 51, 3) := by decide +kernel
theorem dX2_bankBeside_8 : decode cX2_bankBeside 8 = .ok (.ifCond .ne 5, 3) := by decide +kernel
theorem dX2_bankBeside_11 : decode cX2_bankBeside 11 = .ok (.iconst 0, 1) := by decide +kernel
theorem dX2_bankBeside_12 : decode cX2_bankBeside 12 = .ok (.ireturn, 1) := by decide +kernel
theorem dX2_bankBeside_13 : decode cX2_bankBeside 13 = .ok (.aload_n 0, 1) := by decide +kernel
theorem dX2_bankBeside_14 : decode cX2_bankBeside 14 = .ok (.getfield 9, 3) := by decide +kernel
theorem dX2_bankBeside_17 : decode cX2_bankBeside 17 = .ok (.iload_n 1, 1) := by decide +kernel
theorem dX2_bankBeside_18 : decode cX2_bankBeside 18 = .ok (.iaload, 1) := by decide +kernel
theorem dX2_bankBeside_19 : decode cX2_bankBeside 19 = .ok (.ifCond .ne 15, 3) := by decide +kernel
theorem dX2_bankBeside_22 : decode cX2_bankBeside 22 = .ok (.aload_n 0, 1) := by decide +kernel
theorem dX2_bankBeside_23 : decode cX2_bankBeside 23 = .ok (.getfield 15, 3) := by decide +kernel
theorem dX2_bankBeside_26 : decode cX2_bankBeside 26 = .ok (.iload_n 1, 1) := by decide +kernel
theorem dX2_bankBeside_27 : decode cX2_bankBeside 27 = .ok (.iaload, 1) := by decide +kernel
theorem dX2_bankBeside_28 : decode cX2_bankBeside 28 = .ok (.invokestatic 58, 3) := by decide +kernel
theorem dX2_bankBeside_31 : decode cX2_bankBeside 31 = .ok (.goto 4, 3) := by decide +kernel
theorem dX2_bankBeside_34 : decode cX2_bankBeside 34 = .ok (.iconst 0, 1) := by decide +kernel
theorem dX2_bankBeside_35 : decode cX2_bankBeside 35 = .ok (.istore_n 2, 1) := by decide +kernel
theorem dX2_bankBeside_36 : decode cX2_bankBeside 36 = .ok (.aload_n 0, 1) := by decide +kernel
theorem dX2_bankBeside_37 : decode cX2_bankBeside 37 = .ok (.getfield 9, 3) := by decide +kernel
theorem dX2_bankBeside_40 : decode cX2_bankBeside 40 = .ok (.iload_n 1, 1) := by decide +kernel
theorem dX2_bankBeside_41 : decode cX2_bankBeside 41 = .ok (.iaload, 1) := by decide +kernel
theorem dX2_bankBeside_42 : decode cX2_bankBeside 42 = .ok (.aload_n 0, 1) := by decide +kernel
theorem dX2_bankBeside_43 : decode cX2_bankBeside 43 = .ok (.getfield 21, 3) := by decide +kernel
theorem dX2_bankBeside_46 : decode cX2_bankBeside 46 = .ok (.getfield 102, 3) := by decide +kernel
theorem dX2_bankBeside_49 : decode cX2_bankBeside 49 = .ok (.iconst 1, 1) := by decide +kernel
theorem dX2_bankBeside_50 : decode cX2_bankBeside 50 = .ok (.isub, 1) := by decide +kernel
theorem dX2_bankBeside_51 : decode cX2_bankBeside 51 = .ok (.if_icmp .ne 11, 3) := by decide +kernel
theorem dX2_bankBeside_54 : decode cX2_bankBeside 54 = .ok (.iload_n 2, 1) := by decide +kernel
theorem dX2_bankBeside_55 : decode cX2_bankBeside 55 = .ok (.sipush 256, 3) := by decide +kernel
theorem dX2_bankBeside_58 : decode cX2_bankBeside 58 = .ok (.ior, 1) := by decide +kernel
theorem dX2_bankBeside_59 : decode cX2_bankBeside 59 = .ok (.goto 4, 3) := by decide +kernel
theorem dX2_bankBeside_62 : decode cX2_bankBeside 62 = .ok (.iload_n 2, 1) := by decide +kernel
theorem dX2_bankBeside_63 : decode cX2_bankBeside 63 = .ok (.ireturn, 1) := by decide +kernel
set_option maxRecDepth 20000 in
theorem ggX2_bankBeside_X0_has : GoodIn wsX2_bankBeside wsX0_has := goodIn_r _ [8, 9, 22, 23, 24, 25, 26, 27, 28, 29] (by decide +kernel) (by decide +kernel)
set_option maxRecDepth 20000 in
theorem gX2_bankBeside_X0_has : GoodIn wsX2_bankBeside (wsV RX2 51 RX0 yX0_has wsX0_has) := goodIn_app (goodIn_of _ (by decide +kernel)) ggX2_bankBeside_X0_has
set_option maxRecDepth 20000 in
theorem ggX2_bankBeside_X3_southCell : GoodIn wsX2_bankBeside wsX3_southCell := goodIn_r _ [12] (by decide +kernel) (by decide +kernel)
set_option maxRecDepth 20000 in
theorem gX2_bankBeside_X3_southCell_n58 : GoodIn wsX2_bankBeside (wsX3_southCell) := ggX2_bankBeside_X3_southCell
set_option maxHeartbeats 4000000 in
set_option maxRecDepth 100000 in
theorem mX2_bankBeside (l : Launch) (dC : Nat → ClassId) (dI : Nat → Nat → Nat) (cI cC : ClassId) (sk : (Nat → Nat) × (Nat → Nat)) (f : Nat → Nat) (p1 : Int32) (c_lanes : AR) (c_spots : AR) (c_byLeaps : AR) (c_load : Int32) (c_gone : Int32) (c_held : Int32) (c_strong : Int32) (c_done : Int32) (c_r : RT) (z : Int32) (h : fX2_bankBeside p1 c_lanes c_spots c_r = some z) : cRO l yX2_bankBeside wsX2_bankBeside (RMk 1 21) sk (dC, dI) (tyz cI cC) (zwV cI cC f c_lanes c_spots c_byLeaps c_load c_gone c_held c_strong c_done c_r) [.ref (f 0), .int p1] z := by
  refine ofRO (cc := cX2_bankBeside) (maxL := 3) (ret := (some .int)) (own := RX2) (plainFor_of_name (by decide)) rfl rfl (Nat.le_of_ble_eq_true rfl) ?_
  intro p e s m args below meth c hx hb hml hr hts hown hlocks hE hK hP hS ls hl
  generalize hQ : qRO _ _ _ _ = Q
  have hl : lv_has ls 3 [(0, .ref (f 0)), (1, .int p1)] := hl
  have hiX0 : ∀ w ∈ wsX00, w ∈ wsX2_bankBeside := fun w h => List.mem_cons_of_mem _ (List.mem_append_right _ h)
  have hiX2 : ∀ w ∈ wsX20, w ∈ wsX2_bankBeside := fun w h => List.mem_cons_of_mem _ (List.mem_append_left _ (List.mem_append_right _ h))
  have hw1 := hts (Cond.fieldLink RX2 21 "FloeToFloe$Walk" "river" "LFloeToFloe$River;") (List.mem_of_getElem? (i := 1) rfl)
  have hw2 := hts (Cond.fieldLink RX2 9 "FloeToFloe$Walk" "lanes" "[I") (List.mem_of_getElem? (i := 2) rfl)
  have hw3 := hts (Cond.fieldLink RX2 15 "FloeToFloe$Walk" "spots" "[I") (List.mem_of_getElem? (i := 3) rfl)
  have hw11 := hts (Cond.initialized RX3) (List.mem_of_getElem? (i := 11) rfl)
  have hw10 := hts (Cond.static yX3_southCell) (List.mem_of_getElem? (i := 10) rfl)
  have hnw0 : (Cond.fieldLinkNest "FloeToFloe$Walk" 102 "FloeToFloe$River" "lanes" "I" "FloeToFloe").before args s = true := va_Nw.use rfl (hE.1 0 _ rfl)
  rw [fX2_bankBeside] at h
  refine lv_aload_n hx hb dX2_bankBeside_0 rfl (lv_at hl 0 rfl) ?_
  refine va_get (D := (dC, dI)) (ci := 2) (v := .ref (f 4)) (C := RX2) (T := TX2) (N := 9) hx hb hts hiX2 hown hK hP 0 rfl rfl 0 (by decide) hw1 (fun _ h9 => h9) rfl dX2_bankBeside_1 ?_
  refine lv_iload_n hx hb dX2_bankBeside_4 rfl (lv_at hl 1 rfl) ?_
  obtain ⟨q5, e5, h⟩ := bd_some h
  refine g_roV (wc := (zwR cI cC (fun k => f (k + 4)) c_r)) ⟨hx, hb, hml, hown, hts⟩ hE hK hP hS [4, 5, 6, 7, 8, 9] rfl (mX0_has l dC dI cI cC sk (fun k => f (k + 4)) p1 c_r q5 e5) (cwV 1 hts gX2_bankBeside_X0_has rfl rfl rfl (by decide +kernel) ⟨Nat.le_of_ble_eq_true rfl, Nat.le_of_ble_eq_true rfl⟩) (va_recv hK hP (ci := 0) (q0 := 4) rfl rfl) (As := [.int p1]) (rest := []) rfl hl.1 rfl (Nat.le_of_ble_eq_true rfl) dX2_bankBeside_5 ⟨Nat.zero_le _, Nat.zero_le _⟩ (fun H locs hP hS => ?_)
  refine lv_if_ne (tgt := 13) hx hb dX2_bankBeside_8 (by decide) (fun c8 => ?_) (fun c8 => ?_)
  · have h := itF c8 h
    refine lv_aload_n hx hb dX2_bankBeside_13 rfl (lv_at hl 0 rfl) ?_
    refine va_get (D := (dC, dI)) (ci := 2) (v := .ref (f 1)) (C := RX2) (T := TX2) (N := 9) hx hb hts hiX2 hown hK hP 0 rfl rfl 1 (by decide) hw2 (fun _ h9 => h9) rfl dX2_bankBeside_14 ?_
    refine lv_iload_n hx hb dX2_bankBeside_17 rfl (lv_at hl 1 rfl) ?_
    obtain ⟨hin, h⟩ := ck_some h
    refine va_iald hx hb hK hP 1 0 rfl rfl hin dX2_bankBeside_18 ?_
    refine jnW (fun (v35 : Int32) => ∀ (H : Heap) (locs : List Loc) (ls : Array Slot), va_P (dC, dI) vwCl (zwV cI cC f c_lanes c_spots c_byLeaps c_load c_gone c_held c_strong c_done c_r) H → va_S noA s.heap H locs → lv_has ls 3 [(0, .ref (f 0)), (1, .int p1)] → W p l e (RMk 1 21) s m args below meth c H locs 0 0 Q (F0 m 35 ls [.int v35])) h (fun v35 h H locs ls hP hS hl => ?_) (fun J35 j35 h => ?_)
    · refine lv_istore_n (lv' := [(2, .int v35), (0, .ref (f 0)), (1, .int p1)]) hx hb dX2_bankBeside_35 rfl hl (by decide) rfl (fun ls hl => ?_)
      refine lv_aload_n hx hb dX2_bankBeside_36 rfl (lv_at hl 1 rfl) ?_
      refine va_get (D := (dC, dI)) (ci := 2) (v := .ref (f 1)) (C := RX2) (T := TX2) (N := 9) hx hb hts hiX2 hown hK hP 0 rfl rfl 1 (by decide) hw2 (fun _ h9 => h9) rfl dX2_bankBeside_37 ?_
      refine lv_iload_n hx hb dX2_bankBeside_40 rfl (lv_at hl 2 rfl) ?_
      obtain ⟨hin, h⟩ := ck_some h
      refine va_iald hx hb hK hP 1 0 rfl rfl hin dX2_bankBeside_41 ?_
      refine lv_aload_n hx hb dX2_bankBeside_42 rfl (lv_at hl 1 rfl) ?_
      refine va_get (D := (dC, dI)) (ci := 2) (v := .ref (f 4)) (C := RX2) (T := TX2) (N := 9) hx hb hts hiX2 hown hK hP 0 rfl rfl 0 (by decide) hw1 (fun _ h9 => h9) rfl dX2_bankBeside_43 ?_
      refine va_getN (D := (dC, dI)) (ci := 0) (v := .int (R_lanes c_r)) (C := RX0) (T := TX0) (N := 8) hx hb hts hiX0 hown hK hP 4 rfl rfl 5 (by decide) hnw0 (fun _ h9 => h9) rfl dX2_bankBeside_46 ?_
      refine lv_iconst (v := (1 : Int32)) hx hb dX2_bankBeside_49 (by decide) ?_
      refine lv_isub hx hb dX2_bankBeside_50 ?_
      refine lv_icmp_ne (tgt := 62) hx hb dX2_bankBeside_51 (by decide) (fun c51 => ?_) (fun c51 => ?_)
      · have h := itF c51 h
        refine lv_iload_n hx hb dX2_bankBeside_62 rfl (lv_at hl 0 rfl) ?_
        subst hQ
        exact retRO hx hb hr hlocks rfl hS h dX2_bankBeside_63
      have h := itT c51 h
      refine lv_iload_n hx hb dX2_bankBeside_54 rfl (lv_at hl 0 rfl) ?_
      refine lv_sipush (v := (256 : Int32)) hx hb dX2_bankBeside_55 (by decide) ?_
      refine lv_ior hx hb dX2_bankBeside_58 ?_
      refine lv_goto (tgt := 63) hx hb dX2_bankBeside_59 (by decide) ?_
      subst hQ
      exact retRO hx hb hr hlocks rfl hS h dX2_bankBeside_63
    refine lv_if_ne (tgt := 34) hx hb dX2_bankBeside_19 (by decide) (fun c19 => ?_) (fun c19 => ?_)
    · have h := itF c19 h
      refine lv_iconst (v := (0 : Int32)) hx hb dX2_bankBeside_34 (by decide) ?_
      exact j35 _ h _ _ _ hP hS (lv_sub hl [0, 1] rfl)
    have h := itT c19 h
    refine lv_aload_n hx hb dX2_bankBeside_22 rfl (lv_at hl 0 rfl) ?_
    refine va_get (D := (dC, dI)) (ci := 2) (v := .ref (f 2)) (C := RX2) (T := TX2) (N := 9) hx hb hts hiX2 hown hK hP 0 rfl rfl 2 (by decide) hw3 (fun _ h9 => h9) rfl dX2_bankBeside_23 ?_
    refine lv_iload_n hx hb dX2_bankBeside_26 rfl (lv_at hl 1 rfl) ?_
    obtain ⟨hin, h⟩ := ck_some h
    refine va_iald hx hb hK hP 2 0 rfl rfl hin dX2_bankBeside_27 ?_
    obtain ⟨q28, e28, h⟩ := bd_some h
    refine g_roN (wc := ([] : va_W)) ⟨hx, hb, hml, hown, hts⟩ hE hK hP hS [] rfl (mX3_southCell l dC dI cI cC sk  (c_spots (p1).toNatClampNeg) q28 e28) ⟨va_cnB 1 hts gX2_bankBeside_X3_southCell_n58 rfl rfl rfl (hE.1 10 _ rfl) hw11 (by decide +kernel) ⟨Nat.le_of_ble_eq_true rfl, Nat.le_of_ble_eq_true rfl⟩, hw10, trivial⟩ (As := [.int (c_spots (p1).toNatClampNeg)]) (rest := []) rfl hl.1 rfl (Nat.le_of_ble_eq_true rfl) dX2_bankBeside_28 ⟨Nat.zero_le _, Nat.zero_le _⟩ (fun H locs hP hS => ?_)
    refine lv_goto (tgt := 35) hx hb dX2_bankBeside_31 (by decide) ?_
    exact j35 _ h _ _ _ hP hS (lv_sub hl [0, 1] rfl)
  have h := itT c8 h
  refine lv_iconst (v := (0 : Int32)) hx hb dX2_bankBeside_11 (by decide) ?_
  subst hQ
  exact retRO hx hb hr hlocks rfl hS h dX2_bankBeside_12
theorem dX2_placesLeaped_0 : decode cX2_placesLeaped 0 = .ok (.iconst 0, 1) := by decide +kernel
theorem dX2_placesLeaped_1 : decode cX2_placesLeaped 1 = .ok (.istore_n 2, 1) := by decide +kernel
theorem dX2_placesLeaped_2 : decode cX2_placesLeaped 2 = .ok (.iload_n 1, 1) := by decide +kernel
theorem dX2_placesLeaped_3 : decode cX2_placesLeaped 3 = .ok (.bipush 10, 2) := by decide +kernel
theorem dX2_placesLeaped_5 : decode cX2_placesLeaped 5 = .ok (.ishr, 1) := by decide +kernel
theorem dX2_placesLeaped_6 : decode cX2_placesLeaped 6 = .ok (.sipush 1023, 3) := by decide +kernel
theorem dX2_placesLeaped_9 : decode cX2_placesLeaped 9 = .ok (.iand, 1) := by decide +kernel
theorem dX2_placesLeaped_10 : decode cX2_placesLeaped 10 = .ok (.istore_n 3, 1) := by decide +kernel
theorem dX2_placesLeaped_11 : decode cX2_placesLeaped 11 = .ok (.iconst 0, 1) := by decide +kernel
theorem dX2_placesLeaped_12 : decode cX2_placesLeaped 12 = .ok (.istore 4, 2) := by decide +kernel
theorem dX2_placesLeaped_14 : decode cX2_placesLeaped 14 = .ok (.iload 4, 2) := by decide +kernel
theorem dX2_placesLeaped_16 : decode cX2_placesLeaped 16 = .ok (.bipush 8, 2) := by decide +kernel
theorem dX2_placesLeaped_18 : decode cX2_placesLeaped 18 = .ok (.if_icmp .ge 77, 3) := by decide +kernel
theorem dX2_placesLeaped_21 : decode cX2_placesLeaped 21 = .ok (.aload_n 0, 1) := by decide +kernel
theorem dX2_placesLeaped_22 : decode cX2_placesLeaped 22 = .ok (.getfield 9, 3) := by decide +kernel
theorem dX2_placesLeaped_25 : decode cX2_placesLeaped 25 = .ok (.iload 4, 2) := by decide +kernel
theorem dX2_placesLeaped_27 : decode cX2_placesLeaped 27 = .ok (.iaload, 1) := by decide +kernel
theorem dX2_placesLeaped_28 : decode cX2_placesLeaped 28 = .ok (.ifCond .ne 30, 3) := by decide +kernel
theorem dX2_placesLeaped_31 : decode cX2_placesLeaped 31 = .ok (.aload_n 0, 1) := by decide +kernel
theorem dX2_placesLeaped_32 : decode cX2_placesLeaped 32 = .ok (.getfield 15, 3) := by decide +kernel
theorem dX2_placesLeaped_35 : decode cX2_placesLeaped 35 = .ok (.iload 4, 2) := by decide +kernel
theorem dX2_placesLeaped_37 : decode cX2_placesLeaped 37 = .ok (.iaload, 1) := by decide +kernel
theorem dX2_placesLeaped_38 : decode cX2_placesLeaped 38 = .ok (.invokestatic 88, 3) := by decide +kernel
theorem dX2_placesLeaped_41 : decode cX2_placesLeaped 41 = .ok (.iload_n 3, 1) := by decide +kernel
theorem dX2_placesLeaped_42 : decode cX2_placesLeaped 42 = .ok (.iand, 1) := by decide +kernel
theorem dX2_placesLeaped_43 : decode cX2_placesLeaped 43 = .ok (.ifCond .eq 15, 3) := by decide +kernel
theorem dX2_placesLeaped_46 : decode cX2_placesLeaped 46 = .ok (.iload_n 2, 1) := by decide +kernel
theorem dX2_placesLeaped_47 : decode cX2_placesLeaped 47 = .ok (.iconst 1, 1) := by decide +kernel
theorem dX2_placesLeaped_48 : decode cX2_placesLeaped 48 = .ok (.iload 4, 2) := by decide +kernel
theorem dX2_placesLeaped_50 : decode cX2_placesLeaped 50 = .ok (.ishl, 1) := by decide +kernel
theorem dX2_placesLeaped_51 : decode cX2_placesLeaped 51 = .ok (.aload_n 0, 1) := by decide +kernel
theorem dX2_placesLeaped_52 : decode cX2_placesLeaped 52 = .ok (.getfield 35, 3) := by decide +kernel
theorem dX2_placesLeaped_55 : decode cX2_placesLeaped 55 = .ok (.iand, 1) := by decide +kernel
theorem dX2_placesLeaped_56 : decode cX2_placesLeaped 56 = .ok (.ior, 1) := by decide +kernel
theorem dX2_placesLeaped_57 : decode cX2_placesLeaped 57 = .ok (.istore_n 2, 1) := by decide +kernel
theorem dX2_placesLeaped_58 : decode cX2_placesLeaped 58 = .ok (.iload_n 1, 1) := by decide +kernel
theorem dX2_placesLeaped_59 : decode cX2_placesLeaped 59 = .ok (.iload 4, 2) := by decide +kernel
theorem dX2_placesLeaped_61 : decode cX2_placesLeaped 61 = .ok (.ishr, 1) := by decide +kernel
theorem dX2_placesLeaped_62 : decode cX2_placesLeaped 62 = .ok (.iconst 1, 1) := by decide +kernel
theorem dX2_placesLeaped_63 : decode cX2_placesLeaped 63 = .ok (.iand, 1) := by decide +kernel
theorem dX2_placesLeaped_64 : decode cX2_placesLeaped 64 = .ok (.iconst 1, 1) := by decide +kernel
theorem dX2_placesLeaped_65 : decode cX2_placesLeaped 65 = .ok (.if_icmp .ne 24, 3) := by decide +kernel
theorem dX2_placesLeaped_68 : decode cX2_placesLeaped 68 = .ok (.iload_n 2, 1) := by decide +kernel
theorem dX2_placesLeaped_69 : decode cX2_placesLeaped 69 = .ok (.aload_n 0, 1) := by decide +kernel
theorem dX2_placesLeaped_70 : decode cX2_placesLeaped 70 = .ok (.iload 4, 2) := by decide +kernel
theorem dX2_placesLeaped_72 : decode cX2_placesLeaped 72 = .ok (.invokevirtual 91, 3) := by decide +kernel
theorem dX2_placesLeaped_75 : decode cX2_placesLeaped 75 = .ok (.aload_n 0, 1) := by decide +kernel
theorem dX2_placesLeaped_76 : decode cX2_placesLeaped 76 = .ok (.getfield 35, 3) := by decide +kernel
theorem dX2_placesLeaped_79 : decode cX2_placesLeaped 79 = .ok (.iand, 1) := by decide +kernel
theorem dX2_placesLeaped_80 : decode cX2_placesLeaped 80 = .ok (.aload_n 0, 1) := by decide +kernel
theorem dX2_placesLeaped_81 : decode cX2_placesLeaped 81 = .ok (.iload 4, 2) := by decide +kernel
theorem dX2_placesLeaped_83 : decode cX2_placesLeaped 83 = .ok (.invokevirtual 94, 3) := by decide +kernel
theorem dX2_placesLeaped_86 : decode cX2_placesLeaped 86 = .ok (.ior, 1) := by decide +kernel
theorem dX2_placesLeaped_87 : decode cX2_placesLeaped 87 = .ok (.ior, 1) := by decide +kernel
theorem dX2_placesLeaped_88 : decode cX2_placesLeaped 88 = .ok (.istore_n 2, 1) := by decide +kernel
theorem dX2_placesLeaped_89 : decode cX2_placesLeaped 89 = .ok (.iinc 4 1, 3) := by decide +kernel
theorem dX2_placesLeaped_92 : decode cX2_placesLeaped 92 = .ok (.goto (-78), 3) := by decide +kernel
theorem dX2_placesLeaped_95 : decode cX2_placesLeaped 95 = .ok (.iload_n 2, 1) := by decide +kernel
theorem dX2_placesLeaped_96 : decode cX2_placesLeaped 96 = .ok (.ireturn, 1) := by decide +kernel
set_option maxRecDepth 20000 in
theorem ggX2_placesLeaped_X2_cellsNear : GoodIn wsX2_placesLeaped wsX2_cellsNear := goodIn_r _ [7] (by decide +kernel) (by decide +kernel)
set_option maxRecDepth 20000 in
theorem gX2_placesLeaped_X2_cellsNear : GoodIn wsX2_placesLeaped (va_wsS RX2 88 yX2_cellsNear wsX2_cellsNear) := goodIn_app (goodIn_of _ (by decide +kernel)) ggX2_placesLeaped_X2_cellsNear
set_option maxRecDepth 20000 in
theorem ggX2_placesLeaped_X2_floesBeside : GoodIn wsX2_placesLeaped wsX2_floesBeside := goodIn_r _ [11, 12, 2, 1, 13, 14, 15, 16, 17, 18, 19, 20, 21, 22, 4, 5, 6, 7, 30, 31, 32, 33, 34, 35, 36, 37, 38, 39, 40, 41, 42, 43, 44, 45, 46] (by decide +kernel) (by decide +kernel)
set_option maxRecDepth 20000 in
theorem gX2_placesLeaped_X2_floesBeside : GoodIn wsX2_placesLeaped (wsV RX2 91 RX2 yX2_floesBeside wsX2_floesBeside) := goodIn_app (goodIn_of _ (by decide +kernel)) ggX2_placesLeaped_X2_floesBeside
set_option maxRecDepth 20000 in
theorem ggX2_placesLeaped_X2_bankBeside : GoodIn wsX2_placesLeaped wsX2_bankBeside := goodIn_r _ [26, 12, 1, 2, 17, 18, 19, 20, 21, 22, 27, 28, 29, 30, 31, 32, 33, 34, 35, 36, 37, 38, 39, 40, 41, 42, 43, 44, 45, 46] (by decide +kernel) (by decide +kernel)
set_option maxRecDepth 20000 in
theorem gX2_placesLeaped_X2_bankBeside : GoodIn wsX2_placesLeaped (wsV RX2 94 RX2 yX2_bankBeside wsX2_bankBeside) := goodIn_app (goodIn_of _ (by decide +kernel)) ggX2_placesLeaped_X2_bankBeside
set_option maxHeartbeats 4000000 in
set_option maxRecDepth 100000 in
theorem mX2_placesLeaped (l : Launch) (dC : Nat → ClassId) (dI : Nat → Nat → Nat) (cI cC : ClassId) (sk : (Nat → Nat) × (Nat → Nat)) (f : Nat → Nat) (p1 : Int32) (c_lanes : AR) (c_spots : AR) (c_byLeaps : AR) (c_load : Int32) (c_gone : Int32) (c_held : Int32) (c_strong : Int32) (c_done : Int32) (c_r : RT) (z : Int32) (h : fX2_placesLeaped p1 c_lanes c_spots c_strong c_r = some z) : cRO l yX2_placesLeaped wsX2_placesLeaped (RMk 2 45) sk (dC, dI) (tyz cI cC) (zwV cI cC f c_lanes c_spots c_byLeaps c_load c_gone c_held c_strong c_done c_r) [.ref (f 0), .int p1] z := by
  refine ofRO (cc := cX2_placesLeaped) (maxL := 5) (ret := (some .int)) (own := RX2) (plainFor_of_name (by decide)) rfl rfl (Nat.le_of_ble_eq_true rfl) ?_
  intro p e s m args below meth c hx hb hml hr hts hown hlocks hE hK hP hS ls hl
  generalize hQ : qRO _ _ _ _ = Q
  have hl : lv_has ls 5 [(0, .ref (f 0)), (1, .int p1)] := hl
  have hiX2 : ∀ w ∈ wsX20, w ∈ wsX2_placesLeaped := fun w h => List.mem_cons_of_mem _ (List.mem_append_left _ (List.mem_append_right _ h))
  have hw1 := hts (Cond.fieldLink RX2 9 "FloeToFloe$Walk" "lanes" "[I") (List.mem_of_getElem? (i := 1) rfl)
  have hw2 := hts (Cond.fieldLink RX2 15 "FloeToFloe$Walk" "spots" "[I") (List.mem_of_getElem? (i := 2) rfl)
  have hw3 := hts (Cond.fieldLink RX2 35 "FloeToFloe$Walk" "strong" "I") (List.mem_of_getElem? (i := 3) rfl)
  rw [fX2_placesLeaped] at h
  refine lv_iconst (v := (0 : Int32)) hx hb dX2_placesLeaped_0 (by decide) ?_
  refine lv_istore_n (lv' := [(2, .int (0 : Int32)), (0, .ref (f 0)), (1, .int p1)]) hx hb dX2_placesLeaped_1 rfl hl (by decide) rfl (fun ls hl => ?_)
  refine lv_iload_n hx hb dX2_placesLeaped_2 rfl (lv_at hl 2 rfl) ?_
  refine lv_bipush (v := (10 : Int32)) hx hb dX2_placesLeaped_3 (by decide) ?_
  refine lv_ishr hx hb dX2_placesLeaped_5 ?_
  refine lv_sipush (v := (1023 : Int32)) hx hb dX2_placesLeaped_6 (by decide) ?_
  refine lv_iand hx hb dX2_placesLeaped_9 ?_
  refine lv_istore_n (lv' := [(3, .int ((p1 >>> ((10 : Int32) &&& 31)) &&& (1023 : Int32))), (2, .int (0 : Int32)), (0, .ref (f 0)), (1, .int p1)]) hx hb dX2_placesLeaped_10 rfl hl (by decide) rfl (fun ls hl => ?_)
  refine lv_iconst (v := (0 : Int32)) hx hb dX2_placesLeaped_11 (by decide) ?_
  refine lv_istore (lv' := [(4, .int (0 : Int32)), (3, .int ((p1 >>> ((10 : Int32) &&& 31)) &&& (1023 : Int32))), (2, .int (0 : Int32)), (0, .ref (f 0)), (1, .int p1)]) hx hb dX2_placesLeaped_12 hl (by decide) rfl (fun ls hl => ?_)
  have L14 : ∀ (K14 : Int32 → Option (Int32)), (∀ (k14_2 : Int32), K14 k14_2 = some z → ∀ (H : Heap) (locs : List Loc) (ls : Array Slot), va_P (dC, dI) vwCl (zwV cI cC f c_lanes c_spots c_byLeaps c_load c_gone c_held c_strong c_done c_r) H → va_S noA s.heap H locs → lv_has ls 5 [(2, .int k14_2)] → W p l e (RMk 2 45) s m args below meth c H locs 0 0 Q (F0 m 95 ls [])) → ∀ (n : Nat) (x14_2 : Int32) (x14_4 : Int32), fX2_placesLeaped_L14 c_lanes c_r c_spots c_strong p1 K14 n x14_2 x14_4 = some z → ∀ (H : Heap) (locs : List Loc) (ls : Array Slot), va_P (dC, dI) vwCl (zwV cI cC f c_lanes c_spots c_byLeaps c_load c_gone c_held c_strong c_done c_r) H → va_S noA s.heap H locs → lv_has ls 5 [(0, .ref (f 0)), (1, .int p1), (2, .int x14_2), (3, .int ((p1 >>> ((10 : Int32) &&& 31)) &&& (1023 : Int32))), (4, .int x14_4)] → W p l e (RMk 2 45) s m args below meth c H locs 0 0 Q (F0 m 14 ls []) := by
    intro K14 kx14 n
    induction n with
    | zero => intro x14_2 x14_4 h; rw [fX2_placesLeaped_L14] at h; cases h
    | succ n ih14 =>
      intro x14_2 x14_4 h H locs ls hP hS hl
      rw [fX2_placesLeaped_L14] at h
      refine lv_iload hx hb dX2_placesLeaped_14 (lv_at hl 4 rfl) ?_
      refine lv_bipush (v := (8 : Int32)) hx hb dX2_placesLeaped_16 (by decide) ?_
      refine lv_icmp_ge (tgt := 95) hx hb dX2_placesLeaped_18 (by decide) (fun c18 => ?_) (fun c18 => ?_)
      · have h := itT c18 h
        exact kx14 _ h _ _ _ hP hS (lv_sub hl [2] rfl)
      have h := itF c18 h
      refine lv_aload_n hx hb dX2_placesLeaped_21 rfl (lv_at hl 0 rfl) ?_
      refine va_get (D := (dC, dI)) (ci := 2) (v := .ref (f 1)) (C := RX2) (T := TX2) (N := 9) hx hb hts hiX2 hown hK hP 0 rfl rfl 1 (by decide) hw1 (fun _ h9 => h9) rfl dX2_placesLeaped_22 ?_
      refine lv_iload hx hb dX2_placesLeaped_25 (lv_at hl 4 rfl) ?_
      obtain ⟨hin, h⟩ := ck_some h
      refine va_iald hx hb hK hP 1 0 rfl rfl hin dX2_placesLeaped_27 ?_
      refine jnW (fun (v58 : Int32) => ∀ (H : Heap) (locs : List Loc) (ls : Array Slot), va_P (dC, dI) vwCl (zwV cI cC f c_lanes c_spots c_byLeaps c_load c_gone c_held c_strong c_done c_r) H → va_S noA s.heap H locs → lv_has ls 5 [(0, .ref (f 0)), (1, .int p1), (2, .int v58), (3, .int ((p1 >>> ((10 : Int32) &&& 31)) &&& (1023 : Int32))), (4, .int x14_4)] → W p l e (RMk 2 45) s m args below meth c H locs 0 0 Q (F0 m 58 ls [])) h (fun v58 h H locs ls hP hS hl => ?_) (fun J58 j58 h => ?_)
      · refine lv_iload_n hx hb dX2_placesLeaped_58 rfl (lv_at hl 1 rfl) ?_
        refine lv_iload hx hb dX2_placesLeaped_59 (lv_at hl 4 rfl) ?_
        refine lv_ishr hx hb dX2_placesLeaped_61 ?_
        refine lv_iconst (v := (1 : Int32)) hx hb dX2_placesLeaped_62 (by decide) ?_
        refine lv_iand hx hb dX2_placesLeaped_63 ?_
        refine lv_iconst (v := (1 : Int32)) hx hb dX2_placesLeaped_64 (by decide) ?_
        refine lv_icmp_ne (tgt := 89) hx hb dX2_placesLeaped_65 (by decide) (fun c65 => ?_) (fun c65 => ?_)
        · have h := itF c65 h
          refine lv_iinc (v := (x14_4 + (1 : Int32))) (lv' := [(4, .int (x14_4 + (1 : Int32))), (0, .ref (f 0)), (1, .int p1), (2, .int v58), (3, .int ((p1 >>> ((10 : Int32) &&& 31)) &&& (1023 : Int32)))]) hx hb dX2_placesLeaped_89 hl (k := 4) rfl rfl (by decide) rfl (fun ls hl => ?_)
          refine lv_goto (tgt := 14) hx hb dX2_placesLeaped_92 (by decide) ?_
          exact ih14 _ _ h _ _ _ hP hS (lv_sub hl [1, 2, 3, 4, 0] rfl)
        have h := itT c65 h
        refine lv_iload_n hx hb dX2_placesLeaped_68 rfl (lv_at hl 2 rfl) ?_
        refine lv_aload_n hx hb dX2_placesLeaped_69 rfl (lv_at hl 0 rfl) ?_
        refine lv_iload hx hb dX2_placesLeaped_70 (lv_at hl 4 rfl) ?_
        obtain ⟨q72, e72, h⟩ := bd_some h
        refine g_roV (wc := (zwV cI cC f c_lanes c_spots c_byLeaps c_load c_gone c_held c_strong c_done c_r)) ⟨hx, hb, hml, hown, hts⟩ hE hK hP hS [0, 1, 2, 3, 4, 5, 6, 7, 8, 9] rfl (mX2_floesBeside l dC dI cI cC sk f x14_4 c_lanes c_spots c_byLeaps c_load c_gone c_held c_strong c_done c_r q72 e72) (cwV 1 hts gX2_placesLeaped_X2_floesBeside rfl rfl rfl (by decide +kernel) ⟨Nat.le_of_ble_eq_true rfl, Nat.le_of_ble_eq_true rfl⟩) (va_recv hK hP (ci := 2) (q0 := 0) rfl rfl) (As := [.int x14_4]) (rest := [.int v58]) rfl hl.1 rfl (Nat.le_of_ble_eq_true rfl) dX2_placesLeaped_72 ⟨Nat.zero_le _, Nat.zero_le _⟩ (fun H locs hP hS => ?_)
        refine lv_aload_n hx hb dX2_placesLeaped_75 rfl (lv_at hl 0 rfl) ?_
        refine va_get (D := (dC, dI)) (ci := 2) (v := .int c_strong) (C := RX2) (T := TX2) (N := 9) hx hb hts hiX2 hown hK hP 0 rfl rfl 7 (by decide) hw3 (fun _ h9 => h9) rfl dX2_placesLeaped_76 ?_
        refine lv_iand hx hb dX2_placesLeaped_79 ?_
        refine lv_aload_n hx hb dX2_placesLeaped_80 rfl (lv_at hl 0 rfl) ?_
        refine lv_iload hx hb dX2_placesLeaped_81 (lv_at hl 4 rfl) ?_
        obtain ⟨q83, e83, h⟩ := bd_some h
        refine g_roV (wc := (zwV cI cC f c_lanes c_spots c_byLeaps c_load c_gone c_held c_strong c_done c_r)) ⟨hx, hb, hml, hown, hts⟩ hE hK hP hS [0, 1, 2, 3, 4, 5, 6, 7, 8, 9] rfl (mX2_bankBeside l dC dI cI cC sk f x14_4 c_lanes c_spots c_byLeaps c_load c_gone c_held c_strong c_done c_r q83 e83) (cwV 1 hts gX2_placesLeaped_X2_bankBeside rfl rfl rfl (by decide +kernel) ⟨Nat.le_of_ble_eq_true rfl, Nat.le_of_ble_eq_true rfl⟩) (va_recv hK hP (ci := 2) (q0 := 0) rfl rfl) (As := [.int x14_4]) (rest := [.int (q72 &&& c_strong), .int v58]) rfl hl.1 rfl (Nat.le_of_ble_eq_true rfl) dX2_placesLeaped_83 ⟨Nat.zero_le _, Nat.zero_le _⟩ (fun H locs hP hS => ?_)
        refine lv_ior hx hb dX2_placesLeaped_86 ?_
        refine lv_ior hx hb dX2_placesLeaped_87 ?_
        refine lv_istore_n (lv' := [(2, .int (v58 ||| ((q72 &&& c_strong) ||| q83))), (0, .ref (f 0)), (1, .int p1), (3, .int ((p1 >>> ((10 : Int32) &&& 31)) &&& (1023 : Int32))), (4, .int x14_4)]) hx hb dX2_placesLeaped_88 rfl hl (by decide) rfl (fun ls hl => ?_)
        refine lv_iinc (v := (x14_4 + (1 : Int32))) (lv' := [(4, .int (x14_4 + (1 : Int32))), (2, .int (v58 ||| ((q72 &&& c_strong) ||| q83))), (0, .ref (f 0)), (1, .int p1), (3, .int ((p1 >>> ((10 : Int32) &&& 31)) &&& (1023 : Int32)))]) hx hb dX2_placesLeaped_89 hl (k := 4) rfl rfl (by decide) rfl (fun ls hl => ?_)
        refine lv_goto (tgt := 14) hx hb dX2_placesLeaped_92 (by decide) ?_
        exact ih14 _ _ h _ _ _ hP hS (lv_sub hl [2, 3, 1, 4, 0] rfl)
      refine lv_if_ne (tgt := 58) hx hb dX2_placesLeaped_28 (by decide) (fun c28 => ?_) (fun c28 => ?_)
      · have h := itF c28 h
        exact j58 _ h _ _ _ hP hS (lv_sub hl [0, 1, 2, 3, 4] rfl)
      have h := itT c28 h
      refine lv_aload_n hx hb dX2_placesLeaped_31 rfl (lv_at hl 0 rfl) ?_
      refine va_get (D := (dC, dI)) (ci := 2) (v := .ref (f 2)) (C := RX2) (T := TX2) (N := 9) hx hb hts hiX2 hown hK hP 0 rfl rfl 2 (by decide) hw2 (fun _ h9 => h9) rfl dX2_placesLeaped_32 ?_
      refine lv_iload hx hb dX2_placesLeaped_35 (lv_at hl 4 rfl) ?_
      obtain ⟨hin, h⟩ := ck_some h
      refine va_iald hx hb hK hP 2 0 rfl rfl hin dX2_placesLeaped_37 ?_
      obtain ⟨q38, e38, h⟩ := bd_some h
      refine g_roS (wc := ([] : va_W)) ⟨hx, hb, hml, hown, hts⟩ hE hK hP hS [] rfl (mX2_cellsNear l dC dI cI cC sk  (c_spots (x14_4).toNatClampNeg) q38 e38) (va_cwS 1 hts gX2_placesLeaped_X2_cellsNear rfl rfl rfl (by decide +kernel) ⟨Nat.le_of_ble_eq_true rfl, Nat.le_of_ble_eq_true rfl⟩) (As := [.int (c_spots (x14_4).toNatClampNeg)]) (rest := []) rfl hl.1 rfl (Nat.le_of_ble_eq_true rfl) dX2_placesLeaped_38 ⟨Nat.zero_le _, Nat.zero_le _⟩ (fun H locs hP hS => ?_)
      refine lv_iload_n hx hb dX2_placesLeaped_41 rfl (lv_at hl 3 rfl) ?_
      refine lv_iand hx hb dX2_placesLeaped_42 ?_
      refine lv_if_eq (tgt := 58) hx hb dX2_placesLeaped_43 (by decide) (fun c43 => ?_) (fun c43 => ?_)
      · have h := itT c43 h
        exact j58 _ h _ _ _ hP hS (lv_sub hl [0, 1, 2, 3, 4] rfl)
      have h := itF c43 h
      refine lv_iload_n hx hb dX2_placesLeaped_46 rfl (lv_at hl 2 rfl) ?_
      refine lv_iconst (v := (1 : Int32)) hx hb dX2_placesLeaped_47 (by decide) ?_
      refine lv_iload hx hb dX2_placesLeaped_48 (lv_at hl 4 rfl) ?_
      refine lv_ishl hx hb dX2_placesLeaped_50 ?_
      refine lv_aload_n hx hb dX2_placesLeaped_51 rfl (lv_at hl 0 rfl) ?_
      refine va_get (D := (dC, dI)) (ci := 2) (v := .int c_strong) (C := RX2) (T := TX2) (N := 9) hx hb hts hiX2 hown hK hP 0 rfl rfl 7 (by decide) hw3 (fun _ h9 => h9) rfl dX2_placesLeaped_52 ?_
      refine lv_iand hx hb dX2_placesLeaped_55 ?_
      refine lv_ior hx hb dX2_placesLeaped_56 ?_
      refine lv_istore_n (lv' := [(2, .int (x14_2 ||| (((1 : Int32) <<< (x14_4 &&& 31)) &&& c_strong))), (0, .ref (f 0)), (1, .int p1), (3, .int ((p1 >>> ((10 : Int32) &&& 31)) &&& (1023 : Int32))), (4, .int x14_4)]) hx hb dX2_placesLeaped_57 rfl hl (by decide) rfl (fun ls hl => ?_)
      exact j58 _ h _ _ _ hP hS (lv_sub hl [1, 2, 0, 3, 4] rfl)
  refine L14 _ (fun k14_2 h H locs ls hP hS hl => ?_) _ _ _ h _ _ _ hP hS (lv_sub hl [3, 4, 2, 1, 0] rfl)
  refine lv_iload_n hx hb dX2_placesLeaped_95 rfl (lv_at hl 0 rfl) ?_
  subst hQ
  exact retRO hx hb hr hlocks rfl hS h dX2_placesLeaped_96
theorem dX2_minutesOver_0 : decode cX2_minutesOver 0 = .ok (.iload_n 1, 1) := by decide +kernel
theorem dX2_minutesOver_1 : decode cX2_minutesOver 1 = .ok (.invokestatic 58, 3) := by decide +kernel
theorem dX2_minutesOver_4 : decode cX2_minutesOver 4 = .ok (.istore_n 3, 1) := by decide +kernel
theorem dX2_minutesOver_5 : decode cX2_minutesOver 5 = .ok (.iconst 0, 1) := by decide +kernel
theorem dX2_minutesOver_6 : decode cX2_minutesOver 6 = .ok (.istore 4, 2) := by decide +kernel
theorem dX2_minutesOver_8 : decode cX2_minutesOver 8 = .ok (.iload 4, 2) := by decide +kernel
theorem dX2_minutesOver_10 : decode cX2_minutesOver 10 = .ok (.bipush 40, 2) := by decide +kernel
theorem dX2_minutesOver_12 : decode cX2_minutesOver 12 = .ok (.if_icmp .ge 42, 3) := by decide +kernel
theorem dX2_minutesOver_15 : decode cX2_minutesOver 15 = .ok (.aload_n 0, 1) := by decide +kernel
theorem dX2_minutesOver_16 : decode cX2_minutesOver 16 = .ok (.iload_n 2, 1) := by decide +kernel
theorem dX2_minutesOver_17 : decode cX2_minutesOver 17 = .ok (.iload 4, 2) := by decide +kernel
theorem dX2_minutesOver_19 : decode cX2_minutesOver 19 = .ok (.iadd, 1) := by decide +kernel
theorem dX2_minutesOver_20 : decode cX2_minutesOver 20 = .ok (.invokevirtual 61, 3) := by decide +kernel
theorem dX2_minutesOver_23 : decode cX2_minutesOver 23 = .ok (.aload_n 0, 1) := by decide +kernel
theorem dX2_minutesOver_24 : decode cX2_minutesOver 24 = .ok (.iload_n 3, 1) := by decide +kernel
theorem dX2_minutesOver_25 : decode cX2_minutesOver 25 = .ok (.invokevirtual 65, 3) := by decide +kernel
theorem dX2_minutesOver_28 : decode cX2_minutesOver 28 = .ok (.aload_n 0, 1) := by decide +kernel
theorem dX2_minutesOver_29 : decode cX2_minutesOver 29 = .ok (.iload_n 3, 1) := by decide +kernel
theorem dX2_minutesOver_30 : decode cX2_minutesOver 30 = .ok (.invokevirtual 68, 3) := by decide +kernel
theorem dX2_minutesOver_33 : decode cX2_minutesOver 33 = .ok (.ior, 1) := by decide +kernel
theorem dX2_minutesOver_34 : decode cX2_minutesOver 34 = .ok (.istore_n 3, 1) := by decide +kernel
theorem dX2_minutesOver_35 : decode cX2_minutesOver 35 = .ok (.iload_n 3, 1) := by decide +kernel
theorem dX2_minutesOver_36 : decode cX2_minutesOver 36 = .ok (.sipush 256, 3) := by decide +kernel
theorem dX2_minutesOver_39 : decode cX2_minutesOver 39 = .ok (.iand, 1) := by decide +kernel
theorem dX2_minutesOver_40 : decode cX2_minutesOver 40 = .ok (.ifCond .eq 8, 3) := by decide +kernel
theorem dX2_minutesOver_43 : decode cX2_minutesOver 43 = .ok (.iload 4, 2) := by decide +kernel
theorem dX2_minutesOver_45 : decode cX2_minutesOver 45 = .ok (.iconst 1, 1) := by decide +kernel
theorem dX2_minutesOver_46 : decode cX2_minutesOver 46 = .ok (.iadd, 1) := by decide +kernel
theorem dX2_minutesOver_47 : decode cX2_minutesOver 47 = .ok (.ireturn, 1) := by decide +kernel
theorem dX2_minutesOver_48 : decode cX2_minutesOver 48 = .ok (.iinc 4 1, 3) := by decide +kernel
theorem dX2_minutesOver_51 : decode cX2_minutesOver 51 = .ok (.goto (-43), 3) := by decide +kernel
theorem dX2_minutesOver_54 : decode cX2_minutesOver 54 = .ok (.bipush (-9), 2) := by decide +kernel
theorem dX2_minutesOver_56 : decode cX2_minutesOver 56 = .ok (.ireturn, 1) := by decide +kernel
set_option maxRecDepth 20000 in
theorem ggX2_minutesOver_X3_southCell : GoodIn wsX2_minutesOver wsX3_southCell := goodIn_r _ [3] (by decide +kernel) (by decide +kernel)
set_option maxRecDepth 20000 in
theorem gX2_minutesOver_X3_southCell_n58 : GoodIn wsX2_minutesOver (wsX3_southCell) := ggX2_minutesOver_X3_southCell
set_option maxRecDepth 20000 in
theorem ggX2_minutesOver_X2_look : GoodIn wsX2_minutesOver wsX2_look := goodIn_r _ [8, 9, 10, 11, 12, 13, 14, 15, 16, 17, 18, 19, 20, 21, 22, 23, 24, 25, 26, 27, 28, 29, 30, 31, 32, 33, 34, 35, 36, 37, 38, 39, 40, 41, 42, 43, 44, 45, 46, 47, 48, 49, 50, 84, 85, 86, 87, 88, 89, 90, 91, 92, 93, 94, 95, 96, 97, 98, 99, 100] (by decide +kernel) (by decide +kernel)
set_option maxRecDepth 20000 in
theorem gX2_minutesOver_X2_look : GoodIn wsX2_minutesOver (wsV RX2 61 RX2 yX2_look wsX2_look) := goodIn_app (goodIn_of _ (by decide +kernel)) ggX2_minutesOver_X2_look
set_option maxRecDepth 20000 in
theorem ggX2_minutesOver_X2_placesUnleaped : GoodIn wsX2_minutesOver wsX2_placesUnleaped := goodIn_r _ [54, 55, 56, 57, 7, 58, 59, 9, 60, 61, 62, 63, 64, 65, 84, 85, 86, 87, 88, 89, 90, 91, 92] (by decide +kernel) (by decide +kernel)
set_option maxRecDepth 20000 in
theorem gX2_minutesOver_X2_placesUnleaped : GoodIn wsX2_minutesOver (wsV RX2 65 RX2 yX2_placesUnleaped wsX2_placesUnleaped) := goodIn_app (goodIn_of _ (by decide +kernel)) ggX2_minutesOver_X2_placesUnleaped
set_option maxRecDepth 20000 in
theorem ggX2_minutesOver_X2_placesLeaped : GoodIn wsX2_minutesOver wsX2_placesLeaped := goodIn_r _ [69, 11, 13, 9, 70, 71, 7, 72, 73, 74, 75, 76, 12, 77, 78, 49, 79, 41, 23, 24, 19, 25, 26, 80, 81, 82, 83, 1, 2, 3, 84, 85, 86, 87, 88, 89, 90, 91, 92, 93, 94, 95, 96, 97, 98, 99, 100] (by decide +kernel) (by decide +kernel)
set_option maxRecDepth 20000 in
theorem gX2_minutesOver_X2_placesLeaped : GoodIn wsX2_minutesOver (wsV RX2 68 RX2 yX2_placesLeaped wsX2_placesLeaped) := goodIn_app (goodIn_of _ (by decide +kernel)) ggX2_minutesOver_X2_placesLeaped
set_option maxHeartbeats 4000000 in
set_option maxRecDepth 100000 in
theorem mX2_minutesOver (l : Launch) (dC : Nat → ClassId) (dI : Nat → Nat → Nat) (cI cC : ClassId) (sk : (Nat → Nat) × (Nat → Nat)) (f : Nat → Nat) (sz : Nat) (p1 : Int32) (p2 : Int32) (c_lanes : AR) (c_spots : AR) (c_byLeaps : AR) (c_load : Int32) (c_gone : Int32) (c_held : Int32) (c_strong : Int32) (c_done : Int32) (c_r : RT) (z : Int32 × AR × AR × Int32) (h : fX2_minutesOver p1 p2 c_lanes c_spots c_load c_gone c_held c_strong c_r = some z) : cRW l yX2_minutesOver wsX2_minutesOver (RMk 4 93) sk (dC, dI) (tyz cI cC) sz (zwV cI cC f c_lanes c_spots c_byLeaps c_load c_gone c_held c_strong c_done c_r) (zwV cI cC f z.2.1 z.2.2.1 c_byLeaps c_load c_gone c_held z.2.2.2 c_done c_r) [.ref (f 0), .int p1, .int p2] z.1 := by
  refine ofRW (cc := cX2_minutesOver) (maxL := 5) (ret := (some .int)) (own := RX2) (plainFor_of_name (by decide)) rfl rfl (Nat.le_of_ble_eq_true rfl) ?_
  intro p e s m args below meth c A hA hx hb hml hr hts hown hlocks hE hK hP hD hS ls hl
  generalize hQ : qRW _ _ _ _ _ _ _ = Q
  have hl : lv_has ls 5 [(0, .ref (f 0)), (1, .int p1), (2, .int p2)] := hl
  have hw2 := hts (Cond.initialized RX3) (List.mem_of_getElem? (i := 2) rfl)
  have hw1 := hts (Cond.static yX3_southCell) (List.mem_of_getElem? (i := 1) rfl)
  rw [fX2_minutesOver] at h
  refine lv_iload_n hx hb dX2_minutesOver_0 rfl (lv_at hl 1 rfl) ?_
  obtain ⟨q1, e1, h⟩ := bd_some h
  refine g_roN (wc := ([] : va_W)) ⟨hx, hb, hml, hown, hts⟩ hE hK hP hS [] rfl (mX3_southCell l dC dI cI cC sk  p1 q1 e1) ⟨va_cnB 1 hts gX2_minutesOver_X3_southCell_n58 rfl rfl rfl (hE.1 10 _ rfl) hw2 (by decide +kernel) ⟨Nat.le_of_ble_eq_true rfl, Nat.le_of_ble_eq_true rfl⟩, hw1, trivial⟩ (As := [.int p1]) (rest := []) rfl hl.1 rfl (Nat.le_of_ble_eq_true rfl) dX2_minutesOver_1 ⟨Nat.zero_le _, Nat.zero_le _⟩ (fun H locs hP hS => ?_)
  refine lv_istore_n (lv' := [(3, .int q1), (0, .ref (f 0)), (1, .int p1), (2, .int p2)]) hx hb dX2_minutesOver_4 rfl hl (by decide) rfl (fun ls hl => ?_)
  refine lv_iconst (v := (0 : Int32)) hx hb dX2_minutesOver_5 (by decide) ?_
  refine lv_istore (lv' := [(4, .int (0 : Int32)), (3, .int q1), (0, .ref (f 0)), (1, .int p1), (2, .int p2)]) hx hb dX2_minutesOver_6 hl (by decide) rfl (fun ls hl => ?_)
  have L8 : ∀ (K8 : AR → AR → Int32 → Option (Int32 × AR × AR × Int32)), (∀ (k8_lanes : AR) (k8_spots : AR) (k8_strong : Int32), K8 k8_lanes k8_spots k8_strong = some z → ∀ (H : Heap) (locs : List Loc) (ls : Array Slot), va_P (dC, dI) vwCl (zwV cI cC f k8_lanes k8_spots c_byLeaps c_load c_gone c_held k8_strong c_done c_r) H → va_D A (zwV cI cC f k8_lanes k8_spots c_byLeaps c_load c_gone c_held k8_strong c_done c_r) → va_S A s.heap H locs → lv_has ls 5 [] → W p l e (RMk 4 93) s m args below meth c H locs 0 0 Q (F0 m 54 ls [])) → ∀ (n : Nat) (x8_3 : Int32) (x8_4 : Int32) (x8_lanes : AR) (x8_spots : AR) (x8_strong : Int32), fX2_minutesOver_L8 c_gone c_held c_load c_r p2 K8 n x8_3 x8_4 x8_lanes x8_spots x8_strong = some z → ∀ (H : Heap) (locs : List Loc) (ls : Array Slot), va_P (dC, dI) vwCl (zwV cI cC f x8_lanes x8_spots c_byLeaps c_load c_gone c_held x8_strong c_done c_r) H → va_D A (zwV cI cC f x8_lanes x8_spots c_byLeaps c_load c_gone c_held x8_strong c_done c_r) → va_S A s.heap H locs → lv_has ls 5 [(0, .ref (f 0)), (2, .int p2), (3, .int x8_3), (4, .int x8_4)] → W p l e (RMk 4 93) s m args below meth c H locs 0 0 Q (F0 m 8 ls []) := by
    intro K8 kx8 n
    induction n with
    | zero => intro x8_3 x8_4 x8_lanes x8_spots x8_strong h; rw [fX2_minutesOver_L8] at h; cases h
    | succ n ih8 =>
      intro x8_3 x8_4 x8_lanes x8_spots x8_strong h H locs ls hP hD hS hl
      rw [fX2_minutesOver_L8] at h
      refine lv_iload hx hb dX2_minutesOver_8 (lv_at hl 3 rfl) ?_
      refine lv_bipush (v := (40 : Int32)) hx hb dX2_minutesOver_10 (by decide) ?_
      refine lv_icmp_ge (tgt := 54) hx hb dX2_minutesOver_12 (by decide) (fun c12 => ?_) (fun c12 => ?_)
      · have h := itT c12 h
        exact kx8 _ _ _ h _ _ _ hP hD hS (lv_sub hl [] rfl)
      have h := itF c12 h
      refine lv_aload_n hx hb dX2_minutesOver_15 rfl (lv_at hl 0 rfl) ?_
      refine lv_iload_n hx hb dX2_minutesOver_16 rfl (lv_at hl 1 rfl) ?_
      refine lv_iload hx hb dX2_minutesOver_17 (lv_at hl 3 rfl) ?_
      refine lv_iadd hx hb dX2_minutesOver_19 ?_
      obtain ⟨q20, e20, h⟩ := bd_some h
      refine g_rvV (wc := (zwV cI cC f x8_lanes x8_spots c_byLeaps c_load c_gone c_held x8_strong c_done c_r)) (wc' := (zwV cI cC f q20.1 q20.2.1 c_byLeaps c_load c_gone c_held q20.2.2 c_done c_r)) ⟨hx, hb, hml, hown, hts⟩ hE hK hA hP hD hS [0, 1, 2, 3, 4, 5, 6, 7, 8, 9] rfl rfl rfl (mX2_look l dC dI cI cC sk f H.size (p2 + x8_4) x8_lanes x8_spots c_byLeaps c_load c_gone c_held x8_strong c_done c_r q20 e20) (cwV 1 hts gX2_minutesOver_X2_look rfl rfl rfl (by decide +kernel) ⟨Nat.le_of_ble_eq_true rfl, Nat.le_of_ble_eq_true rfl⟩) (va_recv hK hP (ci := 2) (q0 := 0) rfl rfl) (As := [.int (p2 + x8_4)]) (rest := []) rfl hl.1 rfl (Nat.le_of_ble_eq_true rfl) dX2_minutesOver_20 ⟨Nat.zero_le _, Nat.zero_le _⟩ (fun H locs hP hD hS => ?_)
      have hP : va_P (dC, dI) vwCl (zwV cI cC f q20.1 q20.2.1 c_byLeaps c_load c_gone c_held q20.2.2 c_done c_r) H := hP
      have hD : va_D A (zwV cI cC f q20.1 q20.2.1 c_byLeaps c_load c_gone c_held q20.2.2 c_done c_r) := hD
      refine lv_aload_n hx hb dX2_minutesOver_23 rfl (lv_at hl 0 rfl) ?_
      refine lv_iload_n hx hb dX2_minutesOver_24 rfl (lv_at hl 2 rfl) ?_
      obtain ⟨q25, e25, h⟩ := bd_some h
      refine g_roV (wc := (zwV cI cC f q20.1 q20.2.1 c_byLeaps c_load c_gone c_held q20.2.2 c_done c_r)) ⟨hx, hb, hml, hown, hts⟩ hE hK hP hS [0, 1, 2, 3, 4, 5, 6, 7, 8, 9] rfl (mX2_placesUnleaped l dC dI cI cC sk f x8_3 q20.1 q20.2.1 c_byLeaps c_load c_gone c_held q20.2.2 c_done c_r q25 e25) (cwV 1 hts gX2_minutesOver_X2_placesUnleaped rfl rfl rfl (by decide +kernel) ⟨Nat.le_of_ble_eq_true rfl, Nat.le_of_ble_eq_true rfl⟩) (va_recv hK hP (ci := 2) (q0 := 0) rfl rfl) (As := [.int x8_3]) (rest := []) rfl hl.1 rfl (Nat.le_of_ble_eq_true rfl) dX2_minutesOver_25 ⟨Nat.zero_le _, Nat.zero_le _⟩ (fun H locs hP hS => ?_)
      refine lv_aload_n hx hb dX2_minutesOver_28 rfl (lv_at hl 0 rfl) ?_
      refine lv_iload_n hx hb dX2_minutesOver_29 rfl (lv_at hl 2 rfl) ?_
      obtain ⟨q30, e30, h⟩ := bd_some h
      refine g_roV (wc := (zwV cI cC f q20.1 q20.2.1 c_byLeaps c_load c_gone c_held q20.2.2 c_done c_r)) ⟨hx, hb, hml, hown, hts⟩ hE hK hP hS [0, 1, 2, 3, 4, 5, 6, 7, 8, 9] rfl (mX2_placesLeaped l dC dI cI cC sk f x8_3 q20.1 q20.2.1 c_byLeaps c_load c_gone c_held q20.2.2 c_done c_r q30 e30) (cwV 1 hts gX2_minutesOver_X2_placesLeaped rfl rfl rfl (by decide +kernel) ⟨Nat.le_of_ble_eq_true rfl, Nat.le_of_ble_eq_true rfl⟩) (va_recv hK hP (ci := 2) (q0 := 0) rfl rfl) (As := [.int x8_3]) (rest := [.int q25]) rfl hl.1 rfl (Nat.le_of_ble_eq_true rfl) dX2_minutesOver_30 ⟨Nat.zero_le _, Nat.zero_le _⟩ (fun H locs hP hS => ?_)
      refine lv_ior hx hb dX2_minutesOver_33 ?_
      refine lv_istore_n (lv' := [(3, .int (q25 ||| q30)), (0, .ref (f 0)), (2, .int p2), (4, .int x8_4)]) hx hb dX2_minutesOver_34 rfl hl (by decide) rfl (fun ls hl => ?_)
      refine lv_iload_n hx hb dX2_minutesOver_35 rfl (lv_at hl 0 rfl) ?_
      refine lv_sipush (v := (256 : Int32)) hx hb dX2_minutesOver_36 (by decide) ?_
      refine lv_iand hx hb dX2_minutesOver_39 ?_
      refine lv_if_eq (tgt := 48) hx hb dX2_minutesOver_40 (by decide) (fun c40 => ?_) (fun c40 => ?_)
      · have h := itT c40 h
        refine lv_iinc (v := (x8_4 + (1 : Int32))) (lv' := [(4, .int (x8_4 + (1 : Int32))), (3, .int (q25 ||| q30)), (0, .ref (f 0)), (2, .int p2)]) hx hb dX2_minutesOver_48 hl (k := 3) rfl rfl (by decide) rfl (fun ls hl => ?_)
        refine lv_goto (tgt := 8) hx hb dX2_minutesOver_51 (by decide) ?_
        exact ih8 _ _ _ _ _ h _ _ _ hP hD hS (lv_sub hl [2, 3, 1, 0] rfl)
      have h := itF c40 h
      refine lv_iload hx hb dX2_minutesOver_43 (lv_at hl 3 rfl) ?_
      refine lv_iconst (v := (1 : Int32)) hx hb dX2_minutesOver_45 (by decide) ?_
      refine lv_iadd hx hb dX2_minutesOver_46 ?_
      subst hQ
      exact retRW (zz := (((x8_4 + (1 : Int32)), q20.1, q20.2.1, q20.2.2) : Int32 × AR × AR × Int32)) (fun z => z.1) (fun z => (zwV cI cC f z.2.1 z.2.2.1 c_byLeaps c_load c_gone c_held z.2.2.2 c_done c_r)) hx hb hr hlocks rfl hS h rfl hP dX2_minutesOver_47
  refine L8 _ (fun k8_lanes k8_spots k8_strong h H locs ls hP hD hS hl => ?_) _ _ _ _ _ _ h _ _ _ hP hD hS (lv_sub hl [2, 4, 1, 0] rfl)
  refine lv_bipush (v := (-9 : Int32)) hx hb dX2_minutesOver_54 (by decide) ?_
  subst hQ
  exact retRW (zz := (((-9 : Int32), k8_lanes, k8_spots, k8_strong) : Int32 × AR × AR × Int32)) (fun z => z.1) (fun z => (zwV cI cC f z.2.1 z.2.2.1 c_byLeaps c_load c_gone c_held z.2.2.2 c_done c_r)) hx hb hr hlocks rfl hS h rfl hP dX2_minutesOver_56
theorem dX2_placesBehind_0 : decode cX2_placesBehind 0 = .ok (.iload_n 1, 1) := by decide +kernel
theorem dX2_placesBehind_1 : decode cX2_placesBehind 1 = .ok (.istore 4, 2) := by decide +kernel
theorem dX2_placesBehind_3 : decode cX2_placesBehind 3 = .ok (.iconst 0, 1) := by decide +kernel
theorem dX2_placesBehind_4 : decode cX2_placesBehind 4 = .ok (.istore 5, 2) := by decide +kernel
theorem dX2_placesBehind_6 : decode cX2_placesBehind 6 = .ok (.iload 5, 2) := by decide +kernel
theorem dX2_placesBehind_8 : decode cX2_placesBehind 8 = .ok (.iload_n 3, 1) := by decide +kernel
theorem dX2_placesBehind_9 : decode cX2_placesBehind 9 = .ok (.if_icmp .ge 32, 3) := by decide +kernel
theorem dX2_placesBehind_12 : decode cX2_placesBehind 12 = .ok (.aload_n 0, 1) := by decide +kernel
theorem dX2_placesBehind_13 : decode cX2_placesBehind 13 = .ok (.iload_n 2, 1) := by decide +kernel
theorem dX2_placesBehind_14 : decode cX2_placesBehind 14 = .ok (.iload 5, 2) := by decide +kernel
theorem dX2_placesBehind_16 : decode cX2_placesBehind 16 = .ok (.iadd, 1) := by decide +kernel
theorem dX2_placesBehind_17 : decode cX2_placesBehind 17 = .ok (.invokevirtual 61, 3) := by decide +kernel
theorem dX2_placesBehind_20 : decode cX2_placesBehind 20 = .ok (.aload_n 0, 1) := by decide +kernel
theorem dX2_placesBehind_21 : decode cX2_placesBehind 21 = .ok (.iload 4, 2) := by decide +kernel
theorem dX2_placesBehind_23 : decode cX2_placesBehind 23 = .ok (.invokevirtual 65, 3) := by decide +kernel
theorem dX2_placesBehind_26 : decode cX2_placesBehind 26 = .ok (.aload_n 0, 1) := by decide +kernel
theorem dX2_placesBehind_27 : decode cX2_placesBehind 27 = .ok (.iload 4, 2) := by decide +kernel
theorem dX2_placesBehind_29 : decode cX2_placesBehind 29 = .ok (.invokevirtual 68, 3) := by decide +kernel
theorem dX2_placesBehind_32 : decode cX2_placesBehind 32 = .ok (.ior, 1) := by decide +kernel
theorem dX2_placesBehind_33 : decode cX2_placesBehind 33 = .ok (.istore 4, 2) := by decide +kernel
theorem dX2_placesBehind_35 : decode cX2_placesBehind 35 = .ok (.iinc 5 1, 3) := by decide +kernel
theorem dX2_placesBehind_38 : decode cX2_placesBehind 38 = .ok (.goto (-32), 3) := by decide +kernel
theorem dX2_placesBehind_41 : decode cX2_placesBehind 41 = .ok (.iload 4, 2) := by decide +kernel
theorem dX2_placesBehind_43 : decode cX2_placesBehind 43 = .ok (.ireturn, 1) := by decide +kernel
set_option maxRecDepth 20000 in
theorem ggX2_placesBehind_X2_look : GoodIn wsX2_placesBehind wsX2_look := goodIn_r _ [5, 6, 7, 8, 9, 10, 11, 12, 13, 14, 15, 16, 17, 18, 19, 20, 21, 22, 23, 24, 25, 26, 27, 28, 29, 30, 31, 32, 33, 34, 35, 36, 37, 38, 39, 40, 41, 42, 43, 44, 45, 46, 47, 84, 85, 86, 87, 88, 89, 90, 91, 92, 93, 94, 95, 96, 97, 98, 99, 100] (by decide +kernel) (by decide +kernel)
set_option maxRecDepth 20000 in
theorem gX2_placesBehind_X2_look : GoodIn wsX2_placesBehind (wsV RX2 61 RX2 yX2_look wsX2_look) := goodIn_app (goodIn_of _ (by decide +kernel)) ggX2_placesBehind_X2_look
set_option maxRecDepth 20000 in
theorem ggX2_placesBehind_X2_placesUnleaped : GoodIn wsX2_placesBehind wsX2_placesUnleaped := goodIn_r _ [51, 52, 53, 54, 4, 55, 56, 6, 57, 58, 59, 60, 61, 62, 84, 85, 86, 87, 88, 89, 90, 91, 92] (by decide +kernel) (by decide +kernel)
set_option maxRecDepth 20000 in
theorem gX2_placesBehind_X2_placesUnleaped : GoodIn wsX2_placesBehind (wsV RX2 65 RX2 yX2_placesUnleaped wsX2_placesUnleaped) := goodIn_app (goodIn_of _ (by decide +kernel)) ggX2_placesBehind_X2_placesUnleaped
set_option maxRecDepth 20000 in
theorem ggX2_placesBehind_X2_placesLeaped : GoodIn wsX2_placesBehind wsX2_placesLeaped := goodIn_r _ [66, 8, 10, 6, 67, 68, 4, 69, 70, 71, 72, 73, 9, 74, 75, 46, 76, 38, 20, 21, 16, 22, 23, 77, 78, 79, 80, 81, 82, 83, 84, 85, 86, 87, 88, 89, 90, 91, 92, 93, 94, 95, 96, 97, 98, 99, 100] (by decide +kernel) (by decide +kernel)
set_option maxRecDepth 20000 in
theorem gX2_placesBehind_X2_placesLeaped : GoodIn wsX2_placesBehind (wsV RX2 68 RX2 yX2_placesLeaped wsX2_placesLeaped) := goodIn_app (goodIn_of _ (by decide +kernel)) ggX2_placesBehind_X2_placesLeaped
set_option maxHeartbeats 4000000 in
set_option maxRecDepth 100000 in
theorem mX2_placesBehind (l : Launch) (dC : Nat → ClassId) (dI : Nat → Nat → Nat) (cI cC : ClassId) (sk : (Nat → Nat) × (Nat → Nat)) (f : Nat → Nat) (sz : Nat) (p1 : Int32) (p2 : Int32) (p3 : Int32) (c_lanes : AR) (c_spots : AR) (c_byLeaps : AR) (c_load : Int32) (c_gone : Int32) (c_held : Int32) (c_strong : Int32) (c_done : Int32) (c_r : RT) (z : Int32 × AR × AR × Int32) (h : fX2_placesBehind p1 p2 p3 c_lanes c_spots c_load c_gone c_held c_strong c_r = some z) : cRW l yX2_placesBehind wsX2_placesBehind (RMk 4 93) sk (dC, dI) (tyz cI cC) sz (zwV cI cC f c_lanes c_spots c_byLeaps c_load c_gone c_held c_strong c_done c_r) (zwV cI cC f z.2.1 z.2.2.1 c_byLeaps c_load c_gone c_held z.2.2.2 c_done c_r) [.ref (f 0), .int p1, .int p2, .int p3] z.1 := by
  refine ofRW (cc := cX2_placesBehind) (maxL := 6) (ret := (some .int)) (own := RX2) (plainFor_of_name (by decide)) rfl rfl (Nat.le_of_ble_eq_true rfl) ?_
  intro p e s m args below meth c A hA hx hb hml hr hts hown hlocks hE hK hP hD hS ls hl
  generalize hQ : qRW _ _ _ _ _ _ _ = Q
  have hl : lv_has ls 6 [(0, .ref (f 0)), (1, .int p1), (2, .int p2), (3, .int p3)] := hl
  rw [fX2_placesBehind] at h
  refine lv_iload_n hx hb dX2_placesBehind_0 rfl (lv_at hl 1 rfl) ?_
  refine lv_istore (lv' := [(4, .int p1), (0, .ref (f 0)), (1, .int p1), (2, .int p2), (3, .int p3)]) hx hb dX2_placesBehind_1 hl (by decide) rfl (fun ls hl => ?_)
  refine lv_iconst (v := (0 : Int32)) hx hb dX2_placesBehind_3 (by decide) ?_
  refine lv_istore (lv' := [(5, .int (0 : Int32)), (4, .int p1), (0, .ref (f 0)), (1, .int p1), (2, .int p2), (3, .int p3)]) hx hb dX2_placesBehind_4 hl (by decide) rfl (fun ls hl => ?_)
  have L6 : ∀ (K6 : Int32 → AR → AR → Int32 → Option (Int32 × AR × AR × Int32)), (∀ (k6_4 : Int32) (k6_lanes : AR) (k6_spots : AR) (k6_strong : Int32), K6 k6_4 k6_lanes k6_spots k6_strong = some z → ∀ (H : Heap) (locs : List Loc) (ls : Array Slot), va_P (dC, dI) vwCl (zwV cI cC f k6_lanes k6_spots c_byLeaps c_load c_gone c_held k6_strong c_done c_r) H → va_D A (zwV cI cC f k6_lanes k6_spots c_byLeaps c_load c_gone c_held k6_strong c_done c_r) → va_S A s.heap H locs → lv_has ls 6 [(4, .int k6_4)] → W p l e (RMk 4 93) s m args below meth c H locs 0 0 Q (F0 m 41 ls [])) → ∀ (n : Nat) (x6_4 : Int32) (x6_5 : Int32) (x6_lanes : AR) (x6_spots : AR) (x6_strong : Int32), fX2_placesBehind_L6 c_gone c_held c_load c_r p2 p3 K6 n x6_4 x6_5 x6_lanes x6_spots x6_strong = some z → ∀ (H : Heap) (locs : List Loc) (ls : Array Slot), va_P (dC, dI) vwCl (zwV cI cC f x6_lanes x6_spots c_byLeaps c_load c_gone c_held x6_strong c_done c_r) H → va_D A (zwV cI cC f x6_lanes x6_spots c_byLeaps c_load c_gone c_held x6_strong c_done c_r) → va_S A s.heap H locs → lv_has ls 6 [(0, .ref (f 0)), (2, .int p2), (3, .int p3), (4, .int x6_4), (5, .int x6_5)] → W p l e (RMk 4 93) s m args below meth c H locs 0 0 Q (F0 m 6 ls []) := by
    intro K6 kx6 n
    induction n with
    | zero => intro x6_4 x6_5 x6_lanes x6_spots x6_strong h; rw [fX2_placesBehind_L6] at h; cases h
    | succ n ih6 =>
      intro x6_4 x6_5 x6_lanes x6_spots x6_strong h H locs ls hP hD hS hl
      rw [fX2_placesBehind_L6] at h
      refine lv_iload hx hb dX2_placesBehind_6 (lv_at hl 4 rfl) ?_
      refine lv_iload_n hx hb dX2_placesBehind_8 rfl (lv_at hl 2 rfl) ?_
      refine lv_icmp_ge (tgt := 41) hx hb dX2_placesBehind_9 (by decide) (fun c9 => ?_) (fun c9 => ?_)
      · have h := itT c9 h
        exact kx6 _ _ _ _ h _ _ _ hP hD hS (lv_sub hl [3] rfl)
      have h := itF c9 h
      refine lv_aload_n hx hb dX2_placesBehind_12 rfl (lv_at hl 0 rfl) ?_
      refine lv_iload_n hx hb dX2_placesBehind_13 rfl (lv_at hl 1 rfl) ?_
      refine lv_iload hx hb dX2_placesBehind_14 (lv_at hl 4 rfl) ?_
      refine lv_iadd hx hb dX2_placesBehind_16 ?_
      obtain ⟨q17, e17, h⟩ := bd_some h
      refine g_rvV (wc := (zwV cI cC f x6_lanes x6_spots c_byLeaps c_load c_gone c_held x6_strong c_done c_r)) (wc' := (zwV cI cC f q17.1 q17.2.1 c_byLeaps c_load c_gone c_held q17.2.2 c_done c_r)) ⟨hx, hb, hml, hown, hts⟩ hE hK hA hP hD hS [0, 1, 2, 3, 4, 5, 6, 7, 8, 9] rfl rfl rfl (mX2_look l dC dI cI cC sk f H.size (p2 + x6_5) x6_lanes x6_spots c_byLeaps c_load c_gone c_held x6_strong c_done c_r q17 e17) (cwV 1 hts gX2_placesBehind_X2_look rfl rfl rfl (by decide +kernel) ⟨Nat.le_of_ble_eq_true rfl, Nat.le_of_ble_eq_true rfl⟩) (va_recv hK hP (ci := 2) (q0 := 0) rfl rfl) (As := [.int (p2 + x6_5)]) (rest := []) rfl hl.1 rfl (Nat.le_of_ble_eq_true rfl) dX2_placesBehind_17 ⟨Nat.zero_le _, Nat.zero_le _⟩ (fun H locs hP hD hS => ?_)
      have hP : va_P (dC, dI) vwCl (zwV cI cC f q17.1 q17.2.1 c_byLeaps c_load c_gone c_held q17.2.2 c_done c_r) H := hP
      have hD : va_D A (zwV cI cC f q17.1 q17.2.1 c_byLeaps c_load c_gone c_held q17.2.2 c_done c_r) := hD
      refine lv_aload_n hx hb dX2_placesBehind_20 rfl (lv_at hl 0 rfl) ?_
      refine lv_iload hx hb dX2_placesBehind_21 (lv_at hl 3 rfl) ?_
      obtain ⟨q23, e23, h⟩ := bd_some h
      refine g_roV (wc := (zwV cI cC f q17.1 q17.2.1 c_byLeaps c_load c_gone c_held q17.2.2 c_done c_r)) ⟨hx, hb, hml, hown, hts⟩ hE hK hP hS [0, 1, 2, 3, 4, 5, 6, 7, 8, 9] rfl (mX2_placesUnleaped l dC dI cI cC sk f x6_4 q17.1 q17.2.1 c_byLeaps c_load c_gone c_held q17.2.2 c_done c_r q23 e23) (cwV 1 hts gX2_placesBehind_X2_placesUnleaped rfl rfl rfl (by decide +kernel) ⟨Nat.le_of_ble_eq_true rfl, Nat.le_of_ble_eq_true rfl⟩) (va_recv hK hP (ci := 2) (q0 := 0) rfl rfl) (As := [.int x6_4]) (rest := []) rfl hl.1 rfl (Nat.le_of_ble_eq_true rfl) dX2_placesBehind_23 ⟨Nat.zero_le _, Nat.zero_le _⟩ (fun H locs hP hS => ?_)
      refine lv_aload_n hx hb dX2_placesBehind_26 rfl (lv_at hl 0 rfl) ?_
      refine lv_iload hx hb dX2_placesBehind_27 (lv_at hl 3 rfl) ?_
      obtain ⟨q29, e29, h⟩ := bd_some h
      refine g_roV (wc := (zwV cI cC f q17.1 q17.2.1 c_byLeaps c_load c_gone c_held q17.2.2 c_done c_r)) ⟨hx, hb, hml, hown, hts⟩ hE hK hP hS [0, 1, 2, 3, 4, 5, 6, 7, 8, 9] rfl (mX2_placesLeaped l dC dI cI cC sk f x6_4 q17.1 q17.2.1 c_byLeaps c_load c_gone c_held q17.2.2 c_done c_r q29 e29) (cwV 1 hts gX2_placesBehind_X2_placesLeaped rfl rfl rfl (by decide +kernel) ⟨Nat.le_of_ble_eq_true rfl, Nat.le_of_ble_eq_true rfl⟩) (va_recv hK hP (ci := 2) (q0 := 0) rfl rfl) (As := [.int x6_4]) (rest := [.int q23]) rfl hl.1 rfl (Nat.le_of_ble_eq_true rfl) dX2_placesBehind_29 ⟨Nat.zero_le _, Nat.zero_le _⟩ (fun H locs hP hS => ?_)
      refine lv_ior hx hb dX2_placesBehind_32 ?_
      refine lv_istore (lv' := [(4, .int (q23 ||| q29)), (0, .ref (f 0)), (2, .int p2), (3, .int p3), (5, .int x6_5)]) hx hb dX2_placesBehind_33 hl (by decide) rfl (fun ls hl => ?_)
      refine lv_iinc (v := (x6_5 + (1 : Int32))) (lv' := [(5, .int (x6_5 + (1 : Int32))), (4, .int (q23 ||| q29)), (0, .ref (f 0)), (2, .int p2), (3, .int p3)]) hx hb dX2_placesBehind_35 hl (k := 4) rfl rfl (by decide) rfl (fun ls hl => ?_)
      refine lv_goto (tgt := 6) hx hb dX2_placesBehind_38 (by decide) ?_
      exact ih6 _ _ _ _ _ h _ _ _ hP hD hS (lv_sub hl [2, 3, 4, 1, 0] rfl)
  refine L6 _ (fun k6_4 k6_lanes k6_spots k6_strong h H locs ls hP hD hS hl => ?_) _ _ _ _ _ _ h _ _ _ hP hD hS (lv_sub hl [2, 4, 5, 1, 0] rfl)
  refine lv_iload hx hb dX2_placesBehind_41 (lv_at hl 0 rfl) ?_
  subst hQ
  exact retRW (zz := ((k6_4, k6_lanes, k6_spots, k6_strong) : Int32 × AR × AR × Int32)) (fun z => z.1) (fun z => (zwV cI cC f z.2.1 z.2.2.1 c_byLeaps c_load c_gone c_held z.2.2.2 c_done c_r)) hx hb hr hlocks rfl hS h rfl hP dX2_placesBehind_43
theorem dX2_fewestLeaps_0 : decode cX2_fewestLeaps 0 = .ok (.iconst 1, 1) := by decide +kernel
theorem dX2_fewestLeaps_1 : decode cX2_fewestLeaps 1 = .ok (.istore_n 2, 1) := by decide +kernel
theorem dX2_fewestLeaps_2 : decode cX2_fewestLeaps 2 = .ok (.iload_n 2, 1) := by decide +kernel
theorem dX2_fewestLeaps_3 : decode cX2_fewestLeaps 3 = .ok (.bipush 40, 2) := by decide +kernel
theorem dX2_fewestLeaps_5 : decode cX2_fewestLeaps 5 = .ok (.if_icmp .gt 16, 3) := by decide +kernel
theorem dX2_fewestLeaps_8 : decode cX2_fewestLeaps 8 = .ok (.aload_n 0, 1) := by decide +kernel
theorem dX2_fewestLeaps_9 : decode cX2_fewestLeaps 9 = .ok (.getfield 18, 3) := by decide +kernel
theorem dX2_fewestLeaps_12 : decode cX2_fewestLeaps 12 = .ok (.iload_n 2, 1) := by decide +kernel
theorem dX2_fewestLeaps_13 : decode cX2_fewestLeaps 13 = .ok (.iconst 0, 1) := by decide +kernel
theorem dX2_fewestLeaps_14 : decode cX2_fewestLeaps 14 = .ok (.iastore, 1) := by decide +kernel
theorem dX2_fewestLeaps_15 : decode cX2_fewestLeaps 15 = .ok (.iinc 2 1, 3) := by decide +kernel
theorem dX2_fewestLeaps_18 : decode cX2_fewestLeaps 18 = .ok (.goto (-16), 3) := by decide +kernel
theorem dX2_fewestLeaps_21 : decode cX2_fewestLeaps 21 = .ok (.aload_n 0, 1) := by decide +kernel
theorem dX2_fewestLeaps_22 : decode cX2_fewestLeaps 22 = .ok (.getfield 18, 3) := by decide +kernel
theorem dX2_fewestLeaps_25 : decode cX2_fewestLeaps 25 = .ok (.iconst 0, 1) := by decide +kernel
theorem dX2_fewestLeaps_26 : decode cX2_fewestLeaps 26 = .ok (.iload_n 1, 1) := by decide +kernel
theorem dX2_fewestLeaps_27 : decode cX2_fewestLeaps 27 = .ok (.invokestatic 58, 3) := by decide +kernel
theorem dX2_fewestLeaps_30 : decode cX2_fewestLeaps 30 = .ok (.iastore, 1) := by decide +kernel
theorem dX2_fewestLeaps_31 : decode cX2_fewestLeaps 31 = .ok (.iconst 0, 1) := by decide +kernel
theorem dX2_fewestLeaps_32 : decode cX2_fewestLeaps 32 = .ok (.istore_n 2, 1) := by decide +kernel
theorem dX2_fewestLeaps_33 : decode cX2_fewestLeaps 33 = .ok (.iload_n 2, 1) := by decide +kernel
theorem dX2_fewestLeaps_34 : decode cX2_fewestLeaps 34 = .ok (.bipush 40, 2) := by decide +kernel
theorem dX2_fewestLeaps_36 : decode cX2_fewestLeaps 36 = .ok (.if_icmp .ge 81, 3) := by decide +kernel
theorem dX2_fewestLeaps_39 : decode cX2_fewestLeaps 39 = .ok (.aload_n 0, 1) := by decide +kernel
theorem dX2_fewestLeaps_40 : decode cX2_fewestLeaps 40 = .ok (.aload_n 0, 1) := by decide +kernel
theorem dX2_fewestLeaps_41 : decode cX2_fewestLeaps 41 = .ok (.getfield 21, 3) := by decide +kernel
theorem dX2_fewestLeaps_44 : decode cX2_fewestLeaps 44 = .ok (.getfield 44, 3) := by decide +kernel
theorem dX2_fewestLeaps_47 : decode cX2_fewestLeaps 47 = .ok (.iload_n 2, 1) := by decide +kernel
theorem dX2_fewestLeaps_48 : decode cX2_fewestLeaps 48 = .ok (.iadd, 1) := by decide +kernel
theorem dX2_fewestLeaps_49 : decode cX2_fewestLeaps 49 = .ok (.invokevirtual 61, 3) := by decide +kernel
theorem dX2_fewestLeaps_52 : decode cX2_fewestLeaps 52 = .ok (.iload_n 2, 1) := by decide +kernel
theorem dX2_fewestLeaps_53 : decode cX2_fewestLeaps 53 = .ok (.iconst 1, 1) := by decide +kernel
theorem dX2_fewestLeaps_54 : decode cX2_fewestLeaps 54 = .ok (.iadd, 1) := by decide +kernel
theorem dX2_fewestLeaps_55 : decode cX2_fewestLeaps 55 = .ok (.istore_n 3, 1) := by decide +kernel
theorem dX2_fewestLeaps_56 : decode cX2_fewestLeaps 56 = .ok (.iload_n 3, 1) := by decide +kernel
theorem dX2_fewestLeaps_57 : decode cX2_fewestLeaps 57 = .ok (.ifCond .le 38, 3) := by decide +kernel
theorem dX2_fewestLeaps_60 : decode cX2_fewestLeaps 60 = .ok (.aload_n 0, 1) := by decide +kernel
theorem dX2_fewestLeaps_61 : decode cX2_fewestLeaps 61 = .ok (.getfield 18, 3) := by decide +kernel
theorem dX2_fewestLeaps_64 : decode cX2_fewestLeaps 64 = .ok (.iload_n 3, 1) := by decide +kernel
theorem dX2_fewestLeaps_65 : decode cX2_fewestLeaps 65 = .ok (.aload_n 0, 1) := by decide +kernel
theorem dX2_fewestLeaps_66 : decode cX2_fewestLeaps 66 = .ok (.aload_n 0, 1) := by decide +kernel
theorem dX2_fewestLeaps_67 : decode cX2_fewestLeaps 67 = .ok (.getfield 18, 3) := by decide +kernel
theorem dX2_fewestLeaps_70 : decode cX2_fewestLeaps 70 = .ok (.iload_n 3, 1) := by decide +kernel
theorem dX2_fewestLeaps_71 : decode cX2_fewestLeaps 71 = .ok (.iaload, 1) := by decide +kernel
theorem dX2_fewestLeaps_72 : decode cX2_fewestLeaps 72 = .ok (.invokevirtual 65, 3) := by decide +kernel
theorem dX2_fewestLeaps_75 : decode cX2_fewestLeaps 75 = .ok (.aload_n 0, 1) := by decide +kernel
theorem dX2_fewestLeaps_76 : decode cX2_fewestLeaps 76 = .ok (.aload_n 0, 1) := by decide +kernel
theorem dX2_fewestLeaps_77 : decode cX2_fewestLeaps 77 = .ok (.getfield 18, 3) := by decide +kernel
theorem dX2_fewestLeaps_80 : decode cX2_fewestLeaps 80 = .ok (.iload_n 3, 1) := by decide +kernel
theorem dX2_fewestLeaps_81 : decode cX2_fewestLeaps 81 = .ok (.iconst 1, 1) := by decide +kernel
theorem dX2_fewestLeaps_82 : decode cX2_fewestLeaps 82 = .ok (.isub, 1) := by decide +kernel
theorem dX2_fewestLeaps_83 : decode cX2_fewestLeaps 83 = .ok (.iaload, 1) := by decide +kernel
theorem dX2_fewestLeaps_84 : decode cX2_fewestLeaps 84 = .ok (.invokevirtual 68, 3) := by decide +kernel
theorem dX2_fewestLeaps_87 : decode cX2_fewestLeaps 87 = .ok (.ior, 1) := by decide +kernel
theorem dX2_fewestLeaps_88 : decode cX2_fewestLeaps 88 = .ok (.iastore, 1) := by decide +kernel
theorem dX2_fewestLeaps_89 : decode cX2_fewestLeaps 89 = .ok (.iinc 3 (-1), 3) := by decide +kernel
theorem dX2_fewestLeaps_92 : decode cX2_fewestLeaps 92 = .ok (.goto (-36), 3) := by decide +kernel
theorem dX2_fewestLeaps_95 : decode cX2_fewestLeaps 95 = .ok (.aload_n 0, 1) := by decide +kernel
theorem dX2_fewestLeaps_96 : decode cX2_fewestLeaps 96 = .ok (.getfield 18, 3) := by decide +kernel
theorem dX2_fewestLeaps_99 : decode cX2_fewestLeaps 99 = .ok (.iconst 0, 1) := by decide +kernel
theorem dX2_fewestLeaps_100 : decode cX2_fewestLeaps 100 = .ok (.aload_n 0, 1) := by decide +kernel
theorem dX2_fewestLeaps_101 : decode cX2_fewestLeaps 101 = .ok (.aload_n 0, 1) := by decide +kernel
theorem dX2_fewestLeaps_102 : decode cX2_fewestLeaps 102 = .ok (.getfield 18, 3) := by decide +kernel
theorem dX2_fewestLeaps_105 : decode cX2_fewestLeaps 105 = .ok (.iconst 0, 1) := by decide +kernel
theorem dX2_fewestLeaps_106 : decode cX2_fewestLeaps 106 = .ok (.iaload, 1) := by decide +kernel
theorem dX2_fewestLeaps_107 : decode cX2_fewestLeaps 107 = .ok (.invokevirtual 65, 3) := by decide +kernel
theorem dX2_fewestLeaps_110 : decode cX2_fewestLeaps 110 = .ok (.iastore, 1) := by decide +kernel
theorem dX2_fewestLeaps_111 : decode cX2_fewestLeaps 111 = .ok (.iinc 2 1, 3) := by decide +kernel
theorem dX2_fewestLeaps_114 : decode cX2_fewestLeaps 114 = .ok (.goto (-81), 3) := by decide +kernel
theorem dX2_fewestLeaps_117 : decode cX2_fewestLeaps 117 = .ok (.iconst 0, 1) := by decide +kernel
theorem dX2_fewestLeaps_118 : decode cX2_fewestLeaps 118 = .ok (.istore_n 2, 1) := by decide +kernel
theorem dX2_fewestLeaps_119 : decode cX2_fewestLeaps 119 = .ok (.iload_n 2, 1) := by decide +kernel
theorem dX2_fewestLeaps_120 : decode cX2_fewestLeaps 120 = .ok (.bipush 40, 2) := by decide +kernel
theorem dX2_fewestLeaps_122 : decode cX2_fewestLeaps 122 = .ok (.if_icmp .gt 24, 3) := by decide +kernel
theorem dX2_fewestLeaps_125 : decode cX2_fewestLeaps 125 = .ok (.aload_n 0, 1) := by decide +kernel
theorem dX2_fewestLeaps_126 : decode cX2_fewestLeaps 126 = .ok (.getfield 18, 3) := by decide +kernel
theorem dX2_fewestLeaps_129 : decode cX2_fewestLeaps 129 = .ok (.iload_n 2, 1) := by decide +kernel
theorem dX2_fewestLeaps_130 : decode cX2_fewestLeaps 130 = .ok (.iaload, 1) := by decide +kernel
theorem dX2_fewestLeaps_131 : decode cX2_fewestLeaps 131 = .ok (.sipush 256, 3) := by decide +kernel
theorem dX2_fewestLeaps_134 : decode cX2_fewestLeaps 134 = .ok (.iand, 1) := by decide +kernel
theorem dX2_fewestLeaps_135 : decode cX2_fewestLeaps 135 = .ok (.ifCond .eq 5, 3) := by decide +kernel
theorem dX2_fewestLeaps_138 : decode cX2_fewestLeaps 138 = .ok (.iload_n 2, 1) := by decide +kernel
theorem dX2_fewestLeaps_139 : decode cX2_fewestLeaps 139 = .ok (.ireturn, 1) := by decide +kernel
theorem dX2_fewestLeaps_140 : decode cX2_fewestLeaps 140 = .ok (.iinc 2 1, 3) := by decide +kernel
theorem dX2_fewestLeaps_143 : decode cX2_fewestLeaps 143 = .ok (.goto (-24), 3) := by decide +kernel
theorem dX2_fewestLeaps_146 : decode cX2_fewestLeaps 146 = .ok (.bipush (-9), 2) := by decide +kernel
theorem dX2_fewestLeaps_148 : decode cX2_fewestLeaps 148 = .ok (.ireturn, 1) := by decide +kernel
set_option maxRecDepth 20000 in
theorem ggX2_fewestLeaps_X3_southCell : GoodIn wsX2_fewestLeaps wsX3_southCell := goodIn_r _ [5] (by decide +kernel) (by decide +kernel)
set_option maxRecDepth 20000 in
theorem gX2_fewestLeaps_X3_southCell_n58 : GoodIn wsX2_fewestLeaps (wsX3_southCell) := ggX2_fewestLeaps_X3_southCell
set_option maxRecDepth 20000 in
theorem ggX2_fewestLeaps_X2_look : GoodIn wsX2_fewestLeaps wsX2_look := goodIn_r _ [10, 11, 12, 13, 2, 14, 15, 16, 17, 18, 19, 20, 21, 22, 23, 24, 25, 26, 27, 28, 29, 30, 31, 32, 33, 34, 35, 36, 37, 38, 39, 40, 41, 42, 43, 44, 45, 46, 47, 48, 49, 50, 51, 85, 86, 87, 88, 89, 90, 91, 92, 93, 94, 95, 96, 97, 98, 99, 100, 101] (by decide +kernel) (by decide +kernel)
set_option maxRecDepth 20000 in
theorem gX2_fewestLeaps_X2_look : GoodIn wsX2_fewestLeaps (wsV RX2 61 RX2 yX2_look wsX2_look) := goodIn_app (goodIn_of _ (by decide +kernel)) ggX2_fewestLeaps_X2_look
set_option maxRecDepth 20000 in
theorem ggX2_fewestLeaps_X2_placesUnleaped : GoodIn wsX2_fewestLeaps wsX2_placesUnleaped := goodIn_r _ [55, 56, 57, 58, 9, 59, 60, 11, 61, 62, 63, 64, 65, 66, 85, 86, 87, 88, 89, 90, 91, 92, 93] (by decide +kernel) (by decide +kernel)
set_option maxRecDepth 20000 in
theorem gX2_fewestLeaps_X2_placesUnleaped : GoodIn wsX2_fewestLeaps (wsV RX2 65 RX2 yX2_placesUnleaped wsX2_placesUnleaped) := goodIn_app (goodIn_of _ (by decide +kernel)) ggX2_fewestLeaps_X2_placesUnleaped
set_option maxRecDepth 20000 in
theorem ggX2_fewestLeaps_X2_placesLeaped : GoodIn wsX2_fewestLeaps wsX2_placesLeaped := goodIn_r _ [70, 13, 14, 11, 71, 72, 9, 73, 74, 75, 76, 77, 2, 78, 79, 50, 80, 42, 24, 25, 20, 26, 27, 81, 82, 83, 84, 3, 4, 5, 85, 86, 87, 88, 89, 90, 91, 92, 93, 94, 95, 96, 97, 98, 99, 100, 101] (by decide +kernel) (by decide +kernel)
set_option maxRecDepth 20000 in
theorem gX2_fewestLeaps_X2_placesLeaped : GoodIn wsX2_fewestLeaps (wsV RX2 68 RX2 yX2_placesLeaped wsX2_placesLeaped) := goodIn_app (goodIn_of _ (by decide +kernel)) ggX2_fewestLeaps_X2_placesLeaped
set_option maxHeartbeats 4000000 in
set_option maxRecDepth 100000 in
theorem mX2_fewestLeaps (l : Launch) (dC : Nat → ClassId) (dI : Nat → Nat → Nat) (cI cC : ClassId) (sk : (Nat → Nat) × (Nat → Nat)) (f : Nat → Nat) (sz : Nat) (p1 : Int32) (c_lanes : AR) (c_spots : AR) (c_byLeaps : AR) (c_load : Int32) (c_gone : Int32) (c_held : Int32) (c_strong : Int32) (c_done : Int32) (c_r : RT) (z : Int32 × AR × AR × AR × Int32) (h : fX2_fewestLeaps p1 c_lanes c_spots c_byLeaps c_load c_gone c_held c_strong c_r = some z) : cRW l yX2_fewestLeaps wsX2_fewestLeaps (RMk 4 93) sk (dC, dI) (tyz cI cC) sz (zwV cI cC f c_lanes c_spots c_byLeaps c_load c_gone c_held c_strong c_done c_r) (zwV cI cC f z.2.1 z.2.2.1 z.2.2.2.1 c_load c_gone c_held z.2.2.2.2 c_done c_r) [.ref (f 0), .int p1] z.1 := by
  refine ofRW (cc := cX2_fewestLeaps) (maxL := 4) (ret := (some .int)) (own := RX2) (plainFor_of_name (by decide)) rfl rfl (Nat.le_of_ble_eq_true rfl) ?_
  intro p e s m args below meth c A hA hx hb hml hr hts hown hlocks hE hK hP hD hS ls hl
  generalize hQ : qRW _ _ _ _ _ _ _ = Q
  have hl : lv_has ls 4 [(0, .ref (f 0)), (1, .int p1)] := hl
  have hiX0 : ∀ w ∈ wsX00, w ∈ wsX2_fewestLeaps := fun w h => List.mem_cons_of_mem _ (List.mem_append_right _ h)
  have hiX2 : ∀ w ∈ wsX20, w ∈ wsX2_fewestLeaps := fun w h => List.mem_cons_of_mem _ (List.mem_append_left _ (List.mem_append_right _ h))
  have hw1 := hts (Cond.fieldLink RX2 18 "FloeToFloe$Walk" "byLeaps" "[I") (List.mem_of_getElem? (i := 1) rfl)
  have hw4 := hts (Cond.initialized RX3) (List.mem_of_getElem? (i := 4) rfl)
  have hw3 := hts (Cond.static yX3_southCell) (List.mem_of_getElem? (i := 3) rfl)
  have hw2 := hts (Cond.fieldLink RX2 21 "FloeToFloe$Walk" "river" "LFloeToFloe$River;") (List.mem_of_getElem? (i := 2) rfl)
  have hnw3 : (Cond.fieldLinkNest "FloeToFloe$Walk" 44 "FloeToFloe$River" "minute" "I" "FloeToFloe").before args s = true := va_Nw.use rfl (hE.1 3 _ rfl)
  rw [fX2_fewestLeaps] at h
  refine lv_iconst (v := (1 : Int32)) hx hb dX2_fewestLeaps_0 (by decide) ?_
  refine lv_istore_n (lv' := [(2, .int (1 : Int32)), (0, .ref (f 0)), (1, .int p1)]) hx hb dX2_fewestLeaps_1 rfl hl (by decide) rfl (fun ls hl => ?_)
  have L2 : ∀ (K2 : AR → Option (Int32 × AR × AR × AR × Int32)), (∀ (k2_byLeaps : AR), K2 k2_byLeaps = some z → ∀ (H : Heap) (locs : List Loc) (ls : Array Slot), va_P (dC, dI) vwCl (zwV cI cC f c_lanes c_spots k2_byLeaps c_load c_gone c_held c_strong c_done c_r) H → va_D A (zwV cI cC f c_lanes c_spots k2_byLeaps c_load c_gone c_held c_strong c_done c_r) → va_S A s.heap H locs → lv_has ls 4 [(0, .ref (f 0)), (1, .int p1)] → W p l e (RMk 4 93) s m args below meth c H locs 0 0 Q (F0 m 21 ls [])) → ∀ (n : Nat) (x2_2 : Int32) (x2_byLeaps : AR), fX2_fewestLeaps_L2  K2 n x2_2 x2_byLeaps = some z → ∀ (H : Heap) (locs : List Loc) (ls : Array Slot), va_P (dC, dI) vwCl (zwV cI cC f c_lanes c_spots x2_byLeaps c_load c_gone c_held c_strong c_done c_r) H → va_D A (zwV cI cC f c_lanes c_spots x2_byLeaps c_load c_gone c_held c_strong c_done c_r) → va_S A s.heap H locs → lv_has ls 4 [(0, .ref (f 0)), (1, .int p1), (2, .int x2_2)] → W p l e (RMk 4 93) s m args below meth c H locs 0 0 Q (F0 m 2 ls []) := by
    intro K2 kx2 n
    induction n with
    | zero => intro x2_2 x2_byLeaps h; rw [fX2_fewestLeaps_L2] at h; cases h
    | succ n ih2 =>
      intro x2_2 x2_byLeaps h H locs ls hP hD hS hl
      rw [fX2_fewestLeaps_L2] at h
      refine lv_iload_n hx hb dX2_fewestLeaps_2 rfl (lv_at hl 2 rfl) ?_
      refine lv_bipush (v := (40 : Int32)) hx hb dX2_fewestLeaps_3 (by decide) ?_
      refine lv_icmp_gt (tgt := 21) hx hb dX2_fewestLeaps_5 (by decide) (fun c5 => ?_) (fun c5 => ?_)
      · have h := itT c5 h
        exact kx2 _ h _ _ _ hP hD hS (lv_sub hl [0, 1] rfl)
      have h := itF c5 h
      refine lv_aload_n hx hb dX2_fewestLeaps_8 rfl (lv_at hl 0 rfl) ?_
      refine va_get (D := (dC, dI)) (ci := 2) (v := .ref (f 3)) (C := RX2) (T := TX2) (N := 9) hx hb hts hiX2 hown hK hP 0 rfl rfl 3 (by decide) hw1 (fun _ h9 => h9) rfl dX2_fewestLeaps_9 ?_
      refine lv_iload_n hx hb dX2_fewestLeaps_12 rfl (lv_at hl 2 rfl) ?_
      refine lv_iconst (v := (0 : Int32)) hx hb dX2_fewestLeaps_13 (by decide) ?_
      obtain ⟨hin, h⟩ := ck_some h
      refine va_iast hx hb hK hP hD hS 3 0 rfl rfl hin dX2_fewestLeaps_14 (fun H locs hP hD hS => ?_)
      have hP : va_P (dC, dI) vwCl (zwV cI cC f c_lanes c_spots (upd x2_byLeaps (x2_2).toNatClampNeg (0 : Int32)) c_load c_gone c_held c_strong c_done c_r) H := hP
      have hD : va_D A (zwV cI cC f c_lanes c_spots (upd x2_byLeaps (x2_2).toNatClampNeg (0 : Int32)) c_load c_gone c_held c_strong c_done c_r) := hD
      refine lv_iinc (v := (x2_2 + (1 : Int32))) (lv' := [(2, .int (x2_2 + (1 : Int32))), (0, .ref (f 0)), (1, .int p1)]) hx hb dX2_fewestLeaps_15 hl (k := 2) rfl rfl (by decide) rfl (fun ls hl => ?_)
      refine lv_goto (tgt := 2) hx hb dX2_fewestLeaps_18 (by decide) ?_
      exact ih2 _ _ h _ _ _ hP hD hS (lv_sub hl [1, 2, 0] rfl)
  refine L2 _ (fun k2_byLeaps h H locs ls hP hD hS hl => ?_) _ _ _ h _ _ _ hP hD hS (lv_sub hl [1, 2, 0] rfl)
  refine lv_aload_n hx hb dX2_fewestLeaps_21 rfl (lv_at hl 0 rfl) ?_
  refine va_get (D := (dC, dI)) (ci := 2) (v := .ref (f 3)) (C := RX2) (T := TX2) (N := 9) hx hb hts hiX2 hown hK hP 0 rfl rfl 3 (by decide) hw1 (fun _ h9 => h9) rfl dX2_fewestLeaps_22 ?_
  refine lv_iconst (v := (0 : Int32)) hx hb dX2_fewestLeaps_25 (by decide) ?_
  refine lv_iload_n hx hb dX2_fewestLeaps_26 rfl (lv_at hl 1 rfl) ?_
  obtain ⟨q27, e27, h⟩ := bd_some h
  refine g_roN (wc := ([] : va_W)) ⟨hx, hb, hml, hown, hts⟩ hE hK hP hS [] rfl (mX3_southCell l dC dI cI cC sk  p1 q27 e27) ⟨va_cnB 1 hts gX2_fewestLeaps_X3_southCell_n58 rfl rfl rfl (hE.1 10 _ rfl) hw4 (by decide +kernel) ⟨Nat.le_of_ble_eq_true rfl, Nat.le_of_ble_eq_true rfl⟩, hw3, trivial⟩ (As := [.int p1]) (rest := [.int (0 : Int32), .ref (f 3)]) rfl hl.1 rfl (Nat.le_of_ble_eq_true rfl) dX2_fewestLeaps_27 ⟨Nat.zero_le _, Nat.zero_le _⟩ (fun H locs hP hS => ?_)
  obtain ⟨hin, h⟩ := ck_some h
  refine va_iast hx hb hK hP hD hS 3 0 rfl rfl hin dX2_fewestLeaps_30 (fun H locs hP hD hS => ?_)
  have hP : va_P (dC, dI) vwCl (zwV cI cC f c_lanes c_spots (upd k2_byLeaps ((0 : Int32)).toNatClampNeg q27) c_load c_gone c_held c_strong c_done c_r) H := hP
  have hD : va_D A (zwV cI cC f c_lanes c_spots (upd k2_byLeaps ((0 : Int32)).toNatClampNeg q27) c_load c_gone c_held c_strong c_done c_r) := hD
  refine lv_iconst (v := (0 : Int32)) hx hb dX2_fewestLeaps_31 (by decide) ?_
  refine lv_istore_n (lv' := [(2, .int (0 : Int32)), (0, .ref (f 0)), (1, .int p1)]) hx hb dX2_fewestLeaps_32 rfl hl (by decide) rfl (fun ls hl => ?_)
  have L33 : ∀ (K33 : AR → AR → AR → Int32 → Option (Int32 × AR × AR × AR × Int32)), (∀ (k33_lanes : AR) (k33_spots : AR) (k33_byLeaps : AR) (k33_strong : Int32), K33 k33_lanes k33_spots k33_byLeaps k33_strong = some z → ∀ (H : Heap) (locs : List Loc) (ls : Array Slot), va_P (dC, dI) vwCl (zwV cI cC f k33_lanes k33_spots k33_byLeaps c_load c_gone c_held k33_strong c_done c_r) H → va_D A (zwV cI cC f k33_lanes k33_spots k33_byLeaps c_load c_gone c_held k33_strong c_done c_r) → va_S A s.heap H locs → lv_has ls 4 [(0, .ref (f 0))] → W p l e (RMk 4 93) s m args below meth c H locs 0 0 Q (F0 m 117 ls [])) → ∀ (n : Nat) (x33_2 : Int32) (x33_lanes : AR) (x33_spots : AR) (x33_byLeaps : AR) (x33_strong : Int32), fX2_fewestLeaps_L33 c_gone c_held c_load c_r K33 n x33_2 x33_lanes x33_spots x33_byLeaps x33_strong = some z → ∀ (H : Heap) (locs : List Loc) (ls : Array Slot), va_P (dC, dI) vwCl (zwV cI cC f x33_lanes x33_spots x33_byLeaps c_load c_gone c_held x33_strong c_done c_r) H → va_D A (zwV cI cC f x33_lanes x33_spots x33_byLeaps c_load c_gone c_held x33_strong c_done c_r) → va_S A s.heap H locs → lv_has ls 4 [(0, .ref (f 0)), (2, .int x33_2)] → W p l e (RMk 4 93) s m args below meth c H locs 0 0 Q (F0 m 33 ls []) := by
    intro K33 kx33 n
    induction n with
    | zero => intro x33_2 x33_lanes x33_spots x33_byLeaps x33_strong h; rw [fX2_fewestLeaps_L33] at h; cases h
    | succ n ih33 =>
      intro x33_2 x33_lanes x33_spots x33_byLeaps x33_strong h H locs ls hP hD hS hl
      rw [fX2_fewestLeaps_L33] at h
      refine lv_iload_n hx hb dX2_fewestLeaps_33 rfl (lv_at hl 1 rfl) ?_
      refine lv_bipush (v := (40 : Int32)) hx hb dX2_fewestLeaps_34 (by decide) ?_
      refine lv_icmp_ge (tgt := 117) hx hb dX2_fewestLeaps_36 (by decide) (fun c36 => ?_) (fun c36 => ?_)
      · have h := itT c36 h
        exact kx33 _ _ _ _ h _ _ _ hP hD hS (lv_sub hl [0] rfl)
      have h := itF c36 h
      refine lv_aload_n hx hb dX2_fewestLeaps_39 rfl (lv_at hl 0 rfl) ?_
      refine lv_aload_n hx hb dX2_fewestLeaps_40 rfl (lv_at hl 0 rfl) ?_
      refine va_get (D := (dC, dI)) (ci := 2) (v := .ref (f 4)) (C := RX2) (T := TX2) (N := 9) hx hb hts hiX2 hown hK hP 0 rfl rfl 0 (by decide) hw2 (fun _ h9 => h9) rfl dX2_fewestLeaps_41 ?_
      refine va_getN (D := (dC, dI)) (ci := 0) (v := .int (R_minute c_r)) (C := RX0) (T := TX0) (N := 8) hx hb hts hiX0 hown hK hP 4 rfl rfl 7 (by decide) hnw3 (fun _ h9 => h9) rfl dX2_fewestLeaps_44 ?_
      refine lv_iload_n hx hb dX2_fewestLeaps_47 rfl (lv_at hl 1 rfl) ?_
      refine lv_iadd hx hb dX2_fewestLeaps_48 ?_
      obtain ⟨q49, e49, h⟩ := bd_some h
      refine g_rvV (wc := (zwV cI cC f x33_lanes x33_spots x33_byLeaps c_load c_gone c_held x33_strong c_done c_r)) (wc' := (zwV cI cC f q49.1 q49.2.1 x33_byLeaps c_load c_gone c_held q49.2.2 c_done c_r)) ⟨hx, hb, hml, hown, hts⟩ hE hK hA hP hD hS [0, 1, 2, 3, 4, 5, 6, 7, 8, 9] rfl rfl rfl (mX2_look l dC dI cI cC sk f H.size ((R_minute c_r) + x33_2) x33_lanes x33_spots x33_byLeaps c_load c_gone c_held x33_strong c_done c_r q49 e49) (cwV 1 hts gX2_fewestLeaps_X2_look rfl rfl rfl (by decide +kernel) ⟨Nat.le_of_ble_eq_true rfl, Nat.le_of_ble_eq_true rfl⟩) (va_recv hK hP (ci := 2) (q0 := 0) rfl rfl) (As := [.int ((R_minute c_r) + x33_2)]) (rest := []) rfl hl.1 rfl (Nat.le_of_ble_eq_true rfl) dX2_fewestLeaps_49 ⟨Nat.zero_le _, Nat.zero_le _⟩ (fun H locs hP hD hS => ?_)
      have hP : va_P (dC, dI) vwCl (zwV cI cC f q49.1 q49.2.1 x33_byLeaps c_load c_gone c_held q49.2.2 c_done c_r) H := hP
      have hD : va_D A (zwV cI cC f q49.1 q49.2.1 x33_byLeaps c_load c_gone c_held q49.2.2 c_done c_r) := hD
      refine lv_iload_n hx hb dX2_fewestLeaps_52 rfl (lv_at hl 1 rfl) ?_
      refine lv_iconst (v := (1 : Int32)) hx hb dX2_fewestLeaps_53 (by decide) ?_
      refine lv_iadd hx hb dX2_fewestLeaps_54 ?_
      refine lv_istore_n (lv' := [(3, .int (x33_2 + (1 : Int32))), (0, .ref (f 0)), (2, .int x33_2)]) hx hb dX2_fewestLeaps_55 rfl hl (by decide) rfl (fun ls hl => ?_)
      have L56 : ∀ (K56 : AR → Option (Int32 × AR × AR × AR × Int32)), (∀ (k56_byLeaps : AR), K56 k56_byLeaps = some z → ∀ (H : Heap) (locs : List Loc) (ls : Array Slot), va_P (dC, dI) vwCl (zwV cI cC f q49.1 q49.2.1 k56_byLeaps c_load c_gone c_held q49.2.2 c_done c_r) H → va_D A (zwV cI cC f q49.1 q49.2.1 k56_byLeaps c_load c_gone c_held q49.2.2 c_done c_r) → va_S A s.heap H locs → lv_has ls 4 [(0, .ref (f 0)), (2, .int x33_2)] → W p l e (RMk 4 93) s m args below meth c H locs 0 0 Q (F0 m 95 ls [])) → ∀ (n : Nat) (x56_3 : Int32) (x56_byLeaps : AR), fX2_fewestLeaps_L56 c_r q49 K56 n x56_3 x56_byLeaps = some z → ∀ (H : Heap) (locs : List Loc) (ls : Array Slot), va_P (dC, dI) vwCl (zwV cI cC f q49.1 q49.2.1 x56_byLeaps c_load c_gone c_held q49.2.2 c_done c_r) H → va_D A (zwV cI cC f q49.1 q49.2.1 x56_byLeaps c_load c_gone c_held q49.2.2 c_done c_r) → va_S A s.heap H locs → lv_has ls 4 [(0, .ref (f 0)), (2, .int x33_2), (3, .int x56_3)] → W p l e (RMk 4 93) s m args below meth c H locs 0 0 Q (F0 m 56 ls []) := by
        intro K56 kx56 n
        induction n with
        | zero => intro x56_3 x56_byLeaps h; rw [fX2_fewestLeaps_L56] at h; cases h
        | succ n ih56 =>
          intro x56_3 x56_byLeaps h H locs ls hP hD hS hl
          rw [fX2_fewestLeaps_L56] at h
          refine lv_iload_n hx hb dX2_fewestLeaps_56 rfl (lv_at hl 2 rfl) ?_
          refine lv_if_le (tgt := 95) hx hb dX2_fewestLeaps_57 (by decide) (fun c57 => ?_) (fun c57 => ?_)
          · have h := itT c57 h
            exact kx56 _ h _ _ _ hP hD hS (lv_sub hl [0, 1] rfl)
          have h := itF c57 h
          refine lv_aload_n hx hb dX2_fewestLeaps_60 rfl (lv_at hl 0 rfl) ?_
          refine va_get (D := (dC, dI)) (ci := 2) (v := .ref (f 3)) (C := RX2) (T := TX2) (N := 9) hx hb hts hiX2 hown hK hP 0 rfl rfl 3 (by decide) hw1 (fun _ h9 => h9) rfl dX2_fewestLeaps_61 ?_
          refine lv_iload_n hx hb dX2_fewestLeaps_64 rfl (lv_at hl 2 rfl) ?_
          refine lv_aload_n hx hb dX2_fewestLeaps_65 rfl (lv_at hl 0 rfl) ?_
          refine lv_aload_n hx hb dX2_fewestLeaps_66 rfl (lv_at hl 0 rfl) ?_
          refine va_get (D := (dC, dI)) (ci := 2) (v := .ref (f 3)) (C := RX2) (T := TX2) (N := 9) hx hb hts hiX2 hown hK hP 0 rfl rfl 3 (by decide) hw1 (fun _ h9 => h9) rfl dX2_fewestLeaps_67 ?_
          refine lv_iload_n hx hb dX2_fewestLeaps_70 rfl (lv_at hl 2 rfl) ?_
          obtain ⟨hin, h⟩ := ck_some h
          refine va_iald hx hb hK hP 3 0 rfl rfl hin dX2_fewestLeaps_71 ?_
          obtain ⟨q72, e72, h⟩ := bd_some h
          refine g_roV (wc := (zwV cI cC f q49.1 q49.2.1 x56_byLeaps c_load c_gone c_held q49.2.2 c_done c_r)) ⟨hx, hb, hml, hown, hts⟩ hE hK hP hS [0, 1, 2, 3, 4, 5, 6, 7, 8, 9] rfl (mX2_placesUnleaped l dC dI cI cC sk f (x56_byLeaps (x56_3).toNatClampNeg) q49.1 q49.2.1 x56_byLeaps c_load c_gone c_held q49.2.2 c_done c_r q72 e72) (cwV 1 hts gX2_fewestLeaps_X2_placesUnleaped rfl rfl rfl (by decide +kernel) ⟨Nat.le_of_ble_eq_true rfl, Nat.le_of_ble_eq_true rfl⟩) (va_recv hK hP (ci := 2) (q0 := 0) rfl rfl) (As := [.int (x56_byLeaps (x56_3).toNatClampNeg)]) (rest := [.int x56_3, .ref (f 3)]) rfl hl.1 rfl (Nat.le_of_ble_eq_true rfl) dX2_fewestLeaps_72 ⟨Nat.zero_le _, Nat.zero_le _⟩ (fun H locs hP hS => ?_)
          refine lv_aload_n hx hb dX2_fewestLeaps_75 rfl (lv_at hl 0 rfl) ?_
          refine lv_aload_n hx hb dX2_fewestLeaps_76 rfl (lv_at hl 0 rfl) ?_
          refine va_get (D := (dC, dI)) (ci := 2) (v := .ref (f 3)) (C := RX2) (T := TX2) (N := 9) hx hb hts hiX2 hown hK hP 0 rfl rfl 3 (by decide) hw1 (fun _ h9 => h9) rfl dX2_fewestLeaps_77 ?_
          refine lv_iload_n hx hb dX2_fewestLeaps_80 rfl (lv_at hl 2 rfl) ?_
          refine lv_iconst (v := (1 : Int32)) hx hb dX2_fewestLeaps_81 (by decide) ?_
          refine lv_isub hx hb dX2_fewestLeaps_82 ?_
          obtain ⟨hin, h⟩ := ck_some h
          refine va_iald hx hb hK hP 3 0 rfl rfl hin dX2_fewestLeaps_83 ?_
          obtain ⟨q84, e84, h⟩ := bd_some h
          refine g_roV (wc := (zwV cI cC f q49.1 q49.2.1 x56_byLeaps c_load c_gone c_held q49.2.2 c_done c_r)) ⟨hx, hb, hml, hown, hts⟩ hE hK hP hS [0, 1, 2, 3, 4, 5, 6, 7, 8, 9] rfl (mX2_placesLeaped l dC dI cI cC sk f (x56_byLeaps ((x56_3 - (1 : Int32))).toNatClampNeg) q49.1 q49.2.1 x56_byLeaps c_load c_gone c_held q49.2.2 c_done c_r q84 e84) (cwV 1 hts gX2_fewestLeaps_X2_placesLeaped rfl rfl rfl (by decide +kernel) ⟨Nat.le_of_ble_eq_true rfl, Nat.le_of_ble_eq_true rfl⟩) (va_recv hK hP (ci := 2) (q0 := 0) rfl rfl) (As := [.int (x56_byLeaps ((x56_3 - (1 : Int32))).toNatClampNeg)]) (rest := [.int q72, .int x56_3, .ref (f 3)]) rfl hl.1 rfl (Nat.le_of_ble_eq_true rfl) dX2_fewestLeaps_84 ⟨Nat.zero_le _, Nat.zero_le _⟩ (fun H locs hP hS => ?_)
          refine lv_ior hx hb dX2_fewestLeaps_87 ?_
          obtain ⟨hin, h⟩ := ck_some h
          refine va_iast hx hb hK hP hD hS 3 0 rfl rfl hin dX2_fewestLeaps_88 (fun H locs hP hD hS => ?_)
          have hP : va_P (dC, dI) vwCl (zwV cI cC f q49.1 q49.2.1 (upd x56_byLeaps (x56_3).toNatClampNeg (q72 ||| q84)) c_load c_gone c_held q49.2.2 c_done c_r) H := hP
          have hD : va_D A (zwV cI cC f q49.1 q49.2.1 (upd x56_byLeaps (x56_3).toNatClampNeg (q72 ||| q84)) c_load c_gone c_held q49.2.2 c_done c_r) := hD
          refine lv_iinc (v := (x56_3 + (-1 : Int32))) (lv' := [(3, .int (x56_3 + (-1 : Int32))), (0, .ref (f 0)), (2, .int x33_2)]) hx hb dX2_fewestLeaps_89 hl (k := 2) rfl rfl (by decide) rfl (fun ls hl => ?_)
          refine lv_goto (tgt := 56) hx hb dX2_fewestLeaps_92 (by decide) ?_
          exact ih56 _ _ h _ _ _ hP hD hS (lv_sub hl [1, 2, 0] rfl)
      refine L56 _ (fun k56_byLeaps h H locs ls hP hD hS hl => ?_) _ _ _ h _ _ _ hP hD hS (lv_sub hl [1, 2, 0] rfl)
      refine lv_aload_n hx hb dX2_fewestLeaps_95 rfl (lv_at hl 0 rfl) ?_
      refine va_get (D := (dC, dI)) (ci := 2) (v := .ref (f 3)) (C := RX2) (T := TX2) (N := 9) hx hb hts hiX2 hown hK hP 0 rfl rfl 3 (by decide) hw1 (fun _ h9 => h9) rfl dX2_fewestLeaps_96 ?_
      refine lv_iconst (v := (0 : Int32)) hx hb dX2_fewestLeaps_99 (by decide) ?_
      refine lv_aload_n hx hb dX2_fewestLeaps_100 rfl (lv_at hl 0 rfl) ?_
      refine lv_aload_n hx hb dX2_fewestLeaps_101 rfl (lv_at hl 0 rfl) ?_
      refine va_get (D := (dC, dI)) (ci := 2) (v := .ref (f 3)) (C := RX2) (T := TX2) (N := 9) hx hb hts hiX2 hown hK hP 0 rfl rfl 3 (by decide) hw1 (fun _ h9 => h9) rfl dX2_fewestLeaps_102 ?_
      refine lv_iconst (v := (0 : Int32)) hx hb dX2_fewestLeaps_105 (by decide) ?_
      obtain ⟨hin, h⟩ := ck_some h
      refine va_iald hx hb hK hP 3 0 rfl rfl hin dX2_fewestLeaps_106 ?_
      obtain ⟨q107, e107, h⟩ := bd_some h
      refine g_roV (wc := (zwV cI cC f q49.1 q49.2.1 k56_byLeaps c_load c_gone c_held q49.2.2 c_done c_r)) ⟨hx, hb, hml, hown, hts⟩ hE hK hP hS [0, 1, 2, 3, 4, 5, 6, 7, 8, 9] rfl (mX2_placesUnleaped l dC dI cI cC sk f (k56_byLeaps ((0 : Int32)).toNatClampNeg) q49.1 q49.2.1 k56_byLeaps c_load c_gone c_held q49.2.2 c_done c_r q107 e107) (cwV 1 hts gX2_fewestLeaps_X2_placesUnleaped rfl rfl rfl (by decide +kernel) ⟨Nat.le_of_ble_eq_true rfl, Nat.le_of_ble_eq_true rfl⟩) (va_recv hK hP (ci := 2) (q0 := 0) rfl rfl) (As := [.int (k56_byLeaps ((0 : Int32)).toNatClampNeg)]) (rest := [.int (0 : Int32), .ref (f 3)]) rfl hl.1 rfl (Nat.le_of_ble_eq_true rfl) dX2_fewestLeaps_107 ⟨Nat.zero_le _, Nat.zero_le _⟩ (fun H locs hP hS => ?_)
      obtain ⟨hin, h⟩ := ck_some h
      refine va_iast hx hb hK hP hD hS 3 0 rfl rfl hin dX2_fewestLeaps_110 (fun H locs hP hD hS => ?_)
      have hP : va_P (dC, dI) vwCl (zwV cI cC f q49.1 q49.2.1 (upd k56_byLeaps ((0 : Int32)).toNatClampNeg q107) c_load c_gone c_held q49.2.2 c_done c_r) H := hP
      have hD : va_D A (zwV cI cC f q49.1 q49.2.1 (upd k56_byLeaps ((0 : Int32)).toNatClampNeg q107) c_load c_gone c_held q49.2.2 c_done c_r) := hD
      refine lv_iinc (v := (x33_2 + (1 : Int32))) (lv' := [(2, .int (x33_2 + (1 : Int32))), (0, .ref (f 0))]) hx hb dX2_fewestLeaps_111 hl (k := 1) rfl rfl (by decide) rfl (fun ls hl => ?_)
      refine lv_goto (tgt := 33) hx hb dX2_fewestLeaps_114 (by decide) ?_
      exact ih33 _ _ _ _ _ h _ _ _ hP hD hS (lv_sub hl [1, 0] rfl)
  refine L33 _ (fun k33_lanes k33_spots k33_byLeaps k33_strong h H locs ls hP hD hS hl => ?_) _ _ _ _ _ _ h _ _ _ hP hD hS (lv_sub hl [1, 0] rfl)
  refine lv_iconst (v := (0 : Int32)) hx hb dX2_fewestLeaps_117 (by decide) ?_
  refine lv_istore_n (lv' := [(2, .int (0 : Int32)), (0, .ref (f 0))]) hx hb dX2_fewestLeaps_118 rfl hl (by decide) rfl (fun ls hl => ?_)
  have L119 : ∀ (K119 : Unit → Option (Int32 × AR × AR × AR × Int32)), (∀ (_ : Unit), K119 () = some z → ∀ (H : Heap) (locs : List Loc) (ls : Array Slot), va_P (dC, dI) vwCl (zwV cI cC f k33_lanes k33_spots k33_byLeaps c_load c_gone c_held k33_strong c_done c_r) H → va_D A (zwV cI cC f k33_lanes k33_spots k33_byLeaps c_load c_gone c_held k33_strong c_done c_r) → va_S A s.heap H locs → lv_has ls 4 [] → W p l e (RMk 4 93) s m args below meth c H locs 0 0 Q (F0 m 146 ls [])) → ∀ (n : Nat) (x119_2 : Int32), fX2_fewestLeaps_L119 k33_byLeaps k33_lanes k33_spots k33_strong K119 n x119_2 = some z → ∀ (H : Heap) (locs : List Loc) (ls : Array Slot), va_P (dC, dI) vwCl (zwV cI cC f k33_lanes k33_spots k33_byLeaps c_load c_gone c_held k33_strong c_done c_r) H → va_D A (zwV cI cC f k33_lanes k33_spots k33_byLeaps c_load c_gone c_held k33_strong c_done c_r) → va_S A s.heap H locs → lv_has ls 4 [(0, .ref (f 0)), (2, .int x119_2)] → W p l e (RMk 4 93) s m args below meth c H locs 0 0 Q (F0 m 119 ls []) := by
    intro K119 kx119 n
    induction n with
    | zero => intro x119_2 h; rw [fX2_fewestLeaps_L119] at h; cases h
    | succ n ih119 =>
      intro x119_2 h H locs ls hP hD hS hl
      rw [fX2_fewestLeaps_L119] at h
      refine lv_iload_n hx hb dX2_fewestLeaps_119 rfl (lv_at hl 1 rfl) ?_
      refine lv_bipush (v := (40 : Int32)) hx hb dX2_fewestLeaps_120 (by decide) ?_
      refine lv_icmp_gt (tgt := 146) hx hb dX2_fewestLeaps_122 (by decide) (fun c122 => ?_) (fun c122 => ?_)
      · have h := itT c122 h
        exact kx119 () h _ _ _ hP hD hS (lv_sub hl [] rfl)
      have h := itF c122 h
      refine lv_aload_n hx hb dX2_fewestLeaps_125 rfl (lv_at hl 0 rfl) ?_
      refine va_get (D := (dC, dI)) (ci := 2) (v := .ref (f 3)) (C := RX2) (T := TX2) (N := 9) hx hb hts hiX2 hown hK hP 0 rfl rfl 3 (by decide) hw1 (fun _ h9 => h9) rfl dX2_fewestLeaps_126 ?_
      refine lv_iload_n hx hb dX2_fewestLeaps_129 rfl (lv_at hl 1 rfl) ?_
      obtain ⟨hin, h⟩ := ck_some h
      refine va_iald hx hb hK hP 3 0 rfl rfl hin dX2_fewestLeaps_130 ?_
      refine lv_sipush (v := (256 : Int32)) hx hb dX2_fewestLeaps_131 (by decide) ?_
      refine lv_iand hx hb dX2_fewestLeaps_134 ?_
      refine lv_if_eq (tgt := 140) hx hb dX2_fewestLeaps_135 (by decide) (fun c135 => ?_) (fun c135 => ?_)
      · have h := itT c135 h
        refine lv_iinc (v := (x119_2 + (1 : Int32))) (lv' := [(2, .int (x119_2 + (1 : Int32))), (0, .ref (f 0))]) hx hb dX2_fewestLeaps_140 hl (k := 1) rfl rfl (by decide) rfl (fun ls hl => ?_)
        refine lv_goto (tgt := 119) hx hb dX2_fewestLeaps_143 (by decide) ?_
        exact ih119 _ h _ _ _ hP hD hS (lv_sub hl [1, 0] rfl)
      have h := itF c135 h
      refine lv_iload_n hx hb dX2_fewestLeaps_138 rfl (lv_at hl 1 rfl) ?_
      subst hQ
      exact retRW (zz := ((x119_2, k33_lanes, k33_spots, k33_byLeaps, k33_strong) : Int32 × AR × AR × AR × Int32)) (fun z => z.1) (fun z => (zwV cI cC f z.2.1 z.2.2.1 z.2.2.2.1 c_load c_gone c_held z.2.2.2.2 c_done c_r)) hx hb hr hlocks rfl hS h rfl hP dX2_fewestLeaps_139
  refine L119 _ (fun _ h H locs ls hP hD hS hl => ?_) _ _ h _ _ _ hP hD hS (lv_sub hl [1, 0] rfl)
  refine lv_bipush (v := (-9 : Int32)) hx hb dX2_fewestLeaps_146 (by decide) ?_
  subst hQ
  exact retRW (zz := (((-9 : Int32), k33_lanes, k33_spots, k33_byLeaps, k33_strong) : Int32 × AR × AR × AR × Int32)) (fun z => z.1) (fun z => (zwV cI cC f z.2.1 z.2.2.1 z.2.2.2.1 c_load c_gone c_held z.2.2.2.2 c_done c_r)) hx hb hr hlocks rfl hS h rfl hP dX2_fewestLeaps_148
