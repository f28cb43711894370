theorem dX3_southCell_0 : decode cX3_southCell 0 = .ok (.iconst 1, 1) := by decide +kernel
theorem dX3_southCell_1 : decode cX3_southCell 1 = .ok (.bipush 10, 2) := by decide +kernel
theorem dX3_southCell_3 : decode cX3_southCell 3 = .ok (.iload_n 0, 1) := by decide +kernel
theorem dX3_southCell_4 : decode cX3_southCell 4 = .ok (.iadd, 1) := by decide +kernel
theorem dX3_southCell_5 : decode cX3_southCell 5 = .ok (.ishl, 1) := by decide +kernel
theorem dX3_southCell_6 : decode cX3_southCell 6 = .ok (.ireturn, 1) := by decide +kernel
set_option maxHeartbeats 4000000 in
set_option maxRecDepth 100000 in
theorem mX3_southCell (l : Launch) (dC : Nat → ClassId) (dI : Nat → Nat → Nat) (cI cC : ClassId) (sk : (Nat → Nat) × (Nat → Nat))  (p0 : Int32)  (z : Int32) (h : fX3_southCell p0 = some z) : cRO l yX3_southCell wsX3_southCell (RMk 0 0) sk (dC, dI) (tyz cI cC) ([] : va_W) [.int p0] z := by
  refine ofRO (cc := cX3_southCell) (maxL := 1) (ret := (some .int)) (own := RX3) (plainFor_of_name (by decide)) rfl rfl (Nat.le_of_ble_eq_true rfl) ?_
  intro p e s m args below meth c hx hb hml hr hts hown hlocks hE hK hP hS ls hl
  generalize hQ : qRO _ _ _ _ = Q
  have hl : lv_has ls 1 [(0, .int p0)] := hl
  rw [fX3_southCell] at h
  refine lv_iconst (v := (1 : Int32)) hx hb dX3_southCell_0 (by decide) ?_
  refine lv_bipush (v := (10 : Int32)) hx hb dX3_southCell_1 (by decide) ?_
  refine lv_iload_n hx hb dX3_southCell_3 rfl (lv_at hl 0 rfl) ?_
  refine lv_iadd hx hb dX3_southCell_4 ?_
  refine lv_ishl hx hb dX3_southCell_5 ?_
  subst hQ
  exact retRO hx hb hr hlocks rfl hS h dX3_southCell_6
