/-! ===== statements told to a river, on both sides ===== -/
theorem rr_ki_ki (r : RT) (a : AR) : R_kinds (R_setKinds r a) = a := rfl
theorem rr_ho_ki (r : RT) (a : AR) : R_homes (R_setKinds r a) = R_homes r := rfl
theorem rr_ce_ki (r : RT) (a : AR) : R_cells (R_setKinds r a) = R_cells r := rfl
theorem rr_pa_ki (r : RT) (a : AR) : R_paces (R_setKinds r a) = R_paces r := rfl
theorem rr_st_ki (r : RT) (a : AR) : R_strengths (R_setKinds r a) = R_strengths r := rfl
theorem rr_la_ki (r : RT) (a : AR) : R_lanes (R_setKinds r a) = R_lanes r := rfl
theorem rr_fl_ki (r : RT) (a : AR) : R_floes (R_setKinds r a) = R_floes r := rfl
theorem rr_mi_ki (r : RT) (a : AR) : R_minute (R_setKinds r a) = R_minute r := rfl
theorem rr_ki_ho (r : RT) (a : AR) : R_kinds (R_setHomes r a) = R_kinds r := rfl
theorem rr_ho_ho (r : RT) (a : AR) : R_homes (R_setHomes r a) = a := rfl
theorem rr_ce_ho (r : RT) (a : AR) : R_cells (R_setHomes r a) = R_cells r := rfl
theorem rr_pa_ho (r : RT) (a : AR) : R_paces (R_setHomes r a) = R_paces r := rfl
theorem rr_st_ho (r : RT) (a : AR) : R_strengths (R_setHomes r a) = R_strengths r := rfl
theorem rr_la_ho (r : RT) (a : AR) : R_lanes (R_setHomes r a) = R_lanes r := rfl
theorem rr_fl_ho (r : RT) (a : AR) : R_floes (R_setHomes r a) = R_floes r := rfl
theorem rr_mi_ho (r : RT) (a : AR) : R_minute (R_setHomes r a) = R_minute r := rfl
theorem rr_ki_ce (r : RT) (a : AR) : R_kinds (R_setCells r a) = R_kinds r := rfl
theorem rr_ho_ce (r : RT) (a : AR) : R_homes (R_setCells r a) = R_homes r := rfl
theorem rr_ce_ce (r : RT) (a : AR) : R_cells (R_setCells r a) = a := rfl
theorem rr_pa_ce (r : RT) (a : AR) : R_paces (R_setCells r a) = R_paces r := rfl
theorem rr_st_ce (r : RT) (a : AR) : R_strengths (R_setCells r a) = R_strengths r := rfl
theorem rr_la_ce (r : RT) (a : AR) : R_lanes (R_setCells r a) = R_lanes r := rfl
theorem rr_fl_ce (r : RT) (a : AR) : R_floes (R_setCells r a) = R_floes r := rfl
theorem rr_mi_ce (r : RT) (a : AR) : R_minute (R_setCells r a) = R_minute r := rfl
theorem rr_ki_pa (r : RT) (a : AR) : R_kinds (R_setPaces r a) = R_kinds r := rfl
theorem rr_ho_pa (r : RT) (a : AR) : R_homes (R_setPaces r a) = R_homes r := rfl
theorem rr_ce_pa (r : RT) (a : AR) : R_cells (R_setPaces r a) = R_cells r := rfl
theorem rr_pa_pa (r : RT) (a : AR) : R_paces (R_setPaces r a) = a := rfl
theorem rr_st_pa (r : RT) (a : AR) : R_strengths (R_setPaces r a) = R_strengths r := rfl
theorem rr_la_pa (r : RT) (a : AR) : R_lanes (R_setPaces r a) = R_lanes r := rfl
theorem rr_fl_pa (r : RT) (a : AR) : R_floes (R_setPaces r a) = R_floes r := rfl
theorem rr_mi_pa (r : RT) (a : AR) : R_minute (R_setPaces r a) = R_minute r := rfl
theorem rr_ki_st (r : RT) (a : AR) : R_kinds (R_setStrengths r a) = R_kinds r := rfl
theorem rr_ho_st (r : RT) (a : AR) : R_homes (R_setStrengths r a) = R_homes r := rfl
theorem rr_ce_st (r : RT) (a : AR) : R_cells (R_setStrengths r a) = R_cells r := rfl
theorem rr_pa_st (r : RT) (a : AR) : R_paces (R_setStrengths r a) = R_paces r := rfl
theorem rr_st_st (r : RT) (a : AR) : R_strengths (R_setStrengths r a) = a := rfl
theorem rr_la_st (r : RT) (a : AR) : R_lanes (R_setStrengths r a) = R_lanes r := rfl
theorem rr_fl_st (r : RT) (a : AR) : R_floes (R_setStrengths r a) = R_floes r := rfl
theorem rr_mi_st (r : RT) (a : AR) : R_minute (R_setStrengths r a) = R_minute r := rfl
theorem rr_ki_la (r : RT) (a : Int32) : R_kinds (R_setLanes r a) = R_kinds r := rfl
theorem rr_ho_la (r : RT) (a : Int32) : R_homes (R_setLanes r a) = R_homes r := rfl
theorem rr_ce_la (r : RT) (a : Int32) : R_cells (R_setLanes r a) = R_cells r := rfl
theorem rr_pa_la (r : RT) (a : Int32) : R_paces (R_setLanes r a) = R_paces r := rfl
theorem rr_st_la (r : RT) (a : Int32) : R_strengths (R_setLanes r a) = R_strengths r := rfl
theorem rr_la_la (r : RT) (a : Int32) : R_lanes (R_setLanes r a) = a := rfl
theorem rr_fl_la (r : RT) (a : Int32) : R_floes (R_setLanes r a) = R_floes r := rfl
theorem rr_mi_la (r : RT) (a : Int32) : R_minute (R_setLanes r a) = R_minute r := rfl
theorem rr_ki_fl (r : RT) (a : Int32) : R_kinds (R_setFloes r a) = R_kinds r := rfl
theorem rr_ho_fl (r : RT) (a : Int32) : R_homes (R_setFloes r a) = R_homes r := rfl
theorem rr_ce_fl (r : RT) (a : Int32) : R_cells (R_setFloes r a) = R_cells r := rfl
theorem rr_pa_fl (r : RT) (a : Int32) : R_paces (R_setFloes r a) = R_paces r := rfl
theorem rr_st_fl (r : RT) (a : Int32) : R_strengths (R_setFloes r a) = R_strengths r := rfl
theorem rr_la_fl (r : RT) (a : Int32) : R_lanes (R_setFloes r a) = R_lanes r := rfl
theorem rr_fl_fl (r : RT) (a : Int32) : R_floes (R_setFloes r a) = a := rfl
theorem rr_mi_fl (r : RT) (a : Int32) : R_minute (R_setFloes r a) = R_minute r := rfl
theorem rr_ki_mi (r : RT) (a : Int32) : R_kinds (R_setMinute r a) = R_kinds r := rfl
theorem rr_ho_mi (r : RT) (a : Int32) : R_homes (R_setMinute r a) = R_homes r := rfl
theorem rr_ce_mi (r : RT) (a : Int32) : R_cells (R_setMinute r a) = R_cells r := rfl
theorem rr_pa_mi (r : RT) (a : Int32) : R_paces (R_setMinute r a) = R_paces r := rfl
theorem rr_st_mi (r : RT) (a : Int32) : R_strengths (R_setMinute r a) = R_strengths r := rfl
theorem rr_la_mi (r : RT) (a : Int32) : R_lanes (R_setMinute r a) = R_lanes r := rfl
theorem rr_fl_mi (r : RT) (a : Int32) : R_floes (R_setMinute r a) = R_floes r := rfl
theorem rr_mi_mi (r : RT) (a : Int32) : R_minute (R_setMinute r a) = a := rfl
/-- a floe more -/
def NF (r : RT) (n : Nat) (p1 p2 p3 p4 p5 : Int32) : RT := R_setFloes (R_setStrengths (R_setPaces (R_setCells (R_setHomes (R_setKinds r (upd (R_kinds r) n p1)) (upd (R_homes r) n p2)) (upd (R_cells r) n p3)) (upd (R_paces r) n p4)) (upd (R_strengths r) n p5)) (nI (n + 1))
theorem NF_V {n t : Nat} {r : RT} (V : VR n t r) (hn : n < 8) (p1 p2 p4 : Int32) {b e : Nat} (hb : b < 10) (he : e ≤ 9) : VR (n + 1) t (NF r n p1 p2 (nI b) p4 (nI e)) := by
  refine ⟨by omega, V.2.1, rfl, V.2.2.2.1, fun j hj => ?_⟩
  show (∃ c, c < 10 ∧ upd (R_cells r) n (nI b) j = nI c) ∧ ∃ c, c ≤ 9 ∧ upd (R_strengths r) n (nI e) j = nI c
  by_cases q : j = n
  · subst q; exact ⟨⟨b, hb, upd_s _ _ _⟩, e, he, upd_s _ _ _⟩
  · rw [upd_n _ _ q, upd_n _ _ q]; exact V.2.2.2.2 j (by omega)
theorem NF_Z {n : Nat} {r : RT} (z : Zr r) (hn : n < 8) (p1 p2 p3 p4 p5 : Int32) : Zr (NF r n p1 p2 p3 p4 p5) := by
  intro j hj
  have q : ¬ j = n := by omega
  exact ⟨(upd_n _ _ q).trans (z j hj).1, (upd_n _ _ q).trans (z j hj).2.1, (upd_n _ _ q).trans (z j hj).2.2.1, (upd_n _ _ q).trans (z j hj).2.2.2.1, (upd_n _ _ q).trans (z j hj).2.2.2.2⟩
def pok (P : Int32) : Bool := !decide ((2 : Int32) < if 0 ≤ P then P else 0 - P)
theorem pok_t : ∀ d, d < 10 → fX4_isIn (nI d) (-2 : Int32) (2 : Int32) = some (bI (pok (nI d))) ∧ fX4_isIn (-(nI d)) (-2 : Int32) (2 : Int32) = some (bI (pok (-(nI d)))) ∧ nI d * (-1 : Int32) = -(nI d) ∧ nI d * (1 : Int32) = nI d := by decide +kernel
/-- whether a floe more may be -/
def addB (n : Nat) (r : RT) (a : Nat) (P : Int32) (e : Nat) : Bool := decide (n < 8) && !decide (R_lanes r ≤ nI a) && pok P && decide (1 ≤ e)
set_option maxHeartbeats 8000000 in
theorem add_e {n t : Nat} {r : RT} (V : VR n t r) (p1 P : Int32) {a b e : Nat} (ha : a < 10) (hb : b < 10) (he : e < 10) : fX0_add p1 (nI a) (nI b) P (nI e) r = some (bI (addB n r a P e), if addB n r a P e then NF r n p1 (nI a) (nI b) P (nI e) else r) := by
  have hn := V.1
  unfold fX0_add addB pok
  rw [V.2.2.1, if_neg (nI_pos (by omega))]
  by_cases c1 : n < 8
  · rw [if_neg (g_ge (n := 8) c1 (by decide)), if_neg (nI_pos (by omega)), decide_eq_true c1]
    by_cases c2 : R_lanes r ≤ nI a
    · rw [if_pos c2, decide_eq_true c2]; rfl
    · rw [if_neg c2, decide_eq_false c2]
      have hc : fX3_isCell (nI b) = some 1 := by
        unfold fX3_isCell
        rw [if_neg (nI_pos (by omega)), if_neg (g_ge (n := 10) hb (by decide))]
      rw [hc, bd_s, if_neg (show ¬ (1 : Int32) = 0 by decide)]
      by_cases c3 : (2 : Int32) < if 0 ≤ P then P else 0 - P
      · rw [if_pos c3, decide_eq_true c3]; rfl
      · rw [if_neg c3, decide_eq_false c3]
        by_cases c4 : 1 ≤ e
        · rw [if_neg (g_nlt (n := 1) c4 (by omega)), if_pos (g_lle (n := 9) (by omega) (by decide)), decide_eq_true c4]
          simp only [rr_ki_ki, rr_ho_ki, rr_ce_ki, rr_pa_ki, rr_st_ki, rr_la_ki, rr_fl_ki, rr_mi_ki, rr_ki_ho, rr_ho_ho, rr_ce_ho, rr_pa_ho, rr_st_ho, rr_la_ho, rr_fl_ho, rr_mi_ho, rr_ki_ce, rr_ho_ce, rr_ce_ce, rr_pa_ce, rr_st_ce, rr_la_ce, rr_fl_ce, rr_mi_ce, rr_ki_pa, rr_ho_pa, rr_ce_pa, rr_pa_pa, rr_st_pa, rr_la_pa, rr_fl_pa, rr_mi_pa, rr_ki_st, rr_ho_st, rr_ce_st, rr_pa_st, rr_st_st, rr_la_st, rr_fl_st, rr_mi_st, rr_ki_la, rr_ho_la, rr_ce_la, rr_pa_la, rr_st_la, rr_la_la, rr_fl_la, rr_mi_la, rr_ki_fl, rr_ho_fl, rr_ce_fl, rr_pa_fl, rr_st_fl, rr_la_fl, rr_fl_fl, rr_mi_fl, rr_ki_mi, rr_ho_mi, rr_ce_mi, rr_pa_mi, rr_st_mi, rr_la_mi, rr_fl_mi, rr_mi_mi, V.2.2.1, ck8 c1, cl8 c1, nI1]
          rfl
        · rw [if_pos (g_lt (n := 1) (by omega) (by decide)), decide_eq_false c4]; rfl
  · rw [if_pos (g_le (n := 8) (by omega) (by omega)), decide_eq_false c1]; rfl
set_option maxHeartbeats 8000000 in
theorem comesFloe_e {n t : Nat} {r : RT} (V : VR n t r) (nu : AR) {k a b d e : Nat} (hk : k < 40) (ha : a < 10) (hb : b < 10) (he : e < 10) (P p1 : Int32) (h0 : nu (5 * k) = p1) (h1 : nu (5 * k + 1) = nI a) (h2 : nu (5 * k + 2) = nI b) (h3 : nu (5 * k + 3) = P) (h4 : nu (5 * k + 4) = nI e) (hP : fX4_isIn P (-2 : Int32) (2 : Int32) = some (bI (pok P))) : fX4_comesFloe (nI (5 * k)) r nu = some (bI (addB n r a P e), if addB n r a P e then NF r n p1 (nI a) (nI b) P (nI e) else r) := by
  have hn := V.1
  have m1 : nI (5 * k) + (1 : Int32) = nI (5 * k + 1) := nI1 _
  have m2 : nI (5 * k) + (2 : Int32) = nI (5 * k + 2) := nI_add _ 2
  have m3 : nI (5 * k) + (3 : Int32) = nI (5 * k + 3) := nI_add _ 3
  have m4 : nI (5 * k) + (4 : Int32) = nI (5 * k + 4) := nI_add _ 4
  unfold fX4_comesFloe addB
  simp only [m1, m2, m3, m4, fin200 (show 5 * k < 200 by omega), fin200 (show 5 * k + 1 < 200 by omega), fin200 (show 5 * k + 2 < 200 by omega), fin200 (show 5 * k + 3 < 200 by omega), fin200 (show 5 * k + 4 < 200 by omega), cl200 (show 5 * k < 200 by omega), cl200 (show 5 * k + 1 < 200 by omega), cl200 (show 5 * k + 2 < 200 by omega), cl200 (show 5 * k + 3 < 200 by omega), cl200 (show 5 * k + 4 < 200 by omega), h0, h1, h2, h3, h4, rr_ki_ki, rr_ho_ki, rr_ce_ki, rr_pa_ki, rr_st_ki, rr_la_ki, rr_fl_ki, rr_mi_ki, rr_ki_ho, rr_ho_ho, rr_ce_ho, rr_pa_ho, rr_st_ho, rr_la_ho, rr_fl_ho, rr_mi_ho, rr_ki_ce, rr_ho_ce, rr_ce_ce, rr_pa_ce, rr_st_ce, rr_la_ce, rr_fl_ce, rr_mi_ce, rr_ki_pa, rr_ho_pa, rr_ce_pa, rr_pa_pa, rr_st_pa, rr_la_pa, rr_fl_pa, rr_mi_pa, rr_ki_st, rr_ho_st, rr_ce_st, rr_pa_st, rr_st_st, rr_la_st, rr_fl_st, rr_mi_st, rr_ki_la, rr_ho_la, rr_ce_la, rr_pa_la, rr_st_la, rr_la_la, rr_fl_la, rr_mi_la, rr_ki_fl, rr_ho_fl, rr_ce_fl, rr_pa_fl, rr_st_fl, rr_la_fl, rr_fl_fl, rr_mi_fl, rr_ki_mi, rr_ho_mi, rr_ce_mi, rr_pa_mi, rr_st_mi, rr_la_mi, rr_fl_mi, rr_mi_mi, V.2.2.1, hP, bd_s]
  by_cases c1 : n < 8
  · rw [if_neg (g_ne (n := 8) (show ¬ n = 8 by omega) (by omega) (by decide)), decide_eq_true c1]
    simp only [ck8 c1, cl8 c1]
    by_cases c2 : R_lanes r ≤ nI a
    · rw [if_pos c2, decide_eq_true c2]; rfl
    · rw [if_neg c2, decide_eq_false c2, if_bI]
      cases pok P with
      | false => rfl
      | true =>
        simp only [if_true]
        by_cases c4 : 1 ≤ e
        · rw [if_neg (g_ne (n := 0) (show ¬ e = 0 by omega) (by omega) (by decide)), decide_eq_true c4, nI1]
          rfl
        · rw [if_pos (g_eq (n := 0) (show e = 0 by omega)), decide_eq_false c4]; rfl
  · rw [if_pos (g_eq (n := 8) (show n = 8 by omega)), decide_eq_false c1]; rfl
/-! lanes told -/
def widB (n : Nat) (r : RT) (d : Nat) : Bool := decide (1 ≤ d) && decide (d ≤ 5) && allF (fun f => !decide (nI d ≤ R_homes r f)) n 0
theorem wide_in {n t : Nat} {r : RT} (V : VR n t r) (d : Nat) (K : Unit → Option (Int32 × RT)) : ∀ m f fuel : Nat, f + m = n → m < fuel → fX0_widen_L14 r (nI d) K fuel (nI f) = if allF (fun f => !decide (nI d ≤ R_homes r f)) m f then K () else some (0, r) := by
  have hn := V.1
  intro m
  induction m with
  | zero =>
    intro f fuel hf hfu
    obtain ⟨fuel, rfl⟩ : ∃ q, fuel = q + 1 := ⟨fuel - 1, by omega⟩
    rw [fX0_widen_L14, V.2.2.1, if_pos (nI_le (by omega) (by omega))]; rfl
  | succ m ih =>
    intro f fuel hf hfu
    obtain ⟨fuel, rfl⟩ : ∃ q, fuel = q + 1 := ⟨fuel - 1, by omega⟩
    rw [fX0_widen_L14, V.2.2.1, if_neg (nI_ge (show f < n by omega) (by omega)), laneOf_y V (by omega), bd_s, nI1, ih (f + 1) fuel (by omega) (by omega)]
    show (if R_homes r f < nI d then _ else _) = if (!decide (nI d ≤ R_homes r f) && allF _ m (f + 1)) = true then _ else _
    by_cases c : nI d ≤ R_homes r f
    · rw [if_neg (Int32.not_lt.mpr c), decide_eq_true c]; rfl
    · rw [if_pos (Int32.not_le.mp c), decide_eq_false c]; rfl
theorem widen_e {n t : Nat} {r : RT} (V : VR n t r) {d : Nat} (hd : d < 10) : fX0_widen (nI d) r = some (bI (widB n r d), if widB n r d then R_setLanes r (nI d) else r) := by
  have hn := V.1
  unfold fX0_widen widB
  by_cases c1 : 1 ≤ d
  · rw [if_neg (g_nlt (n := 1) c1 (by omega)), decide_eq_true c1]
    by_cases c2 : d ≤ 5
    · rw [if_pos (g_lle (n := 5) c2 (by decide)), decide_eq_true c2, show (0 : Int32) = nI 0 from rfl, wide_in V d _ n 0 400 (by omega) (by omega)]
      cases allF (fun f => !decide (nI d ≤ R_homes r f)) n 0 <;> rfl
    · rw [if_neg (g_nle (n := 5) (by omega) (by omega)), decide_eq_false c2]; rfl
  · rw [if_pos (g_lt (n := 1) (by omega) (by decide)), decide_eq_false c1]; rfl
theorem lanes_in {n t : Nat} {r : RT} (V : VR n t r) (nu : AR) {k d : Nat} (hk : k < 40) (h0 : nu (5 * k) = nI d) (K : Int32 → Option (Int32 × RT)) : ∀ m f fuel : Nat, f + m = n → m < fuel → ∀ b : Bool, fX4_comes_L82 nu r (nI k) K fuel (bI b) (nI f) = K (bI (b && allF (fun f => !decide (nI d ≤ R_homes r f)) m f)) := by
  have hn := V.1
  have m5 : (5 : Int32) * nI k = nI (5 * k) := by rw [show (5 : Int32) = nI 5 from rfl, pk_mul]
  intro m
  induction m with
  | zero =>
    intro f fuel hf hfu b
    obtain ⟨fuel, rfl⟩ : ∃ q, fuel = q + 1 := ⟨fuel - 1, by omega⟩
    rw [fX4_comes_L82, rr_fl_la, V.2.2.1, if_pos (nI_le (by omega) (by omega))]
    unfold allF
    rw [Bool.and_true]
  | succ m ih =>
    intro f fuel hf hfu b
    obtain ⟨fuel, rfl⟩ : ∃ q, fuel = q + 1 := ⟨fuel - 1, by omega⟩
    have i0 := ih (f + 1) fuel (by omega) (by omega) false
    have i1 := ih (f + 1) fuel (by omega) (by omega) true
    rw [bI_f] at i0
    rw [bI_t] at i1
    rw [fX4_comes_L82, rr_fl_la, rr_la_la, rr_ho_la, V.2.2.1, if_neg (nI_ge (show f < n by omega) (by omega)), m5, cl200 (by omega), h0, nI1, i0, i1, ck8 (by omega), cl8 (by omega), if_bI]
    cases b with
    | false => rfl
    | true =>
      simp only [if_true]
      show (if nI d ≤ R_homes r f then _ else _) = K (bI (true && (!decide (nI d ≤ R_homes r f) && allF _ m (f + 1))))
      by_cases c : nI d ≤ R_homes r f
      · rw [if_pos c, decide_eq_true c]; rfl
      · rw [if_neg c, decide_eq_false c]; rfl
theorem isIn15 {d : Nat} (hd : d < 10) : fX4_isIn (nI d) (1 : Int32) (5 : Int32) = some (bI (decide (1 ≤ d) && decide (d ≤ 5))) := by
  have h : ∀ d, d < 10 → fX4_isIn (nI d) (1 : Int32) (5 : Int32) = some (bI (decide (1 ≤ d) && decide (d ≤ 5))) := by decide +kernel
  exact h d hd
/-! one statement, on both sides -/
theorem one_e {tp : AR} {s i k : Nat} (hs : s ≤ 80) (hi : i < 900) (hk : k < 40) (hb : bp tp s i = none) {le nu : AR} (hle : le k = lt tp s i) (hv : VAL tp s i nu k) (hch : lt tp s i = (102 : Int32) ∨ lt tp s i = (109 : Int32) ∨ lt tp s i = (114 : Int32)) {r : RT} (W : WR r) (z : Zr r) : ∃ (b : Bool) (r1 r2 : RT), fX1_tellOne (nI i) r tp (nI s) = some (bI b, r1) ∧ fX4_comes (nI k) r le nu = some (bI b, r2) ∧ Zr r1 ∧ Zr r2 ∧ (b = true → r1 = r2 ∧ WR r1) := by
  obtain ⟨n, t, V⟩ := W
  have f40 : ∀ {α : Type} (a : Option α), ck (nI k) 40 a = a := fun a => ck_n a hk (by decide)
  have ck40 : (nI k).toNatClampNeg = k := cl_n (by omega)
  have m5 : (5 : Int32) * nI k = nI (5 * k) := by rw [show (5 : Int32) = nI 5 from rfl, pk_mul]
  have dig : ∀ q : Nat, q < 10 → dgB (lt tp s (i + q)) = true → fX1_digitAt (nI (i + q)) tp (nI s) = some (nI (dv (lt tp s (i + q)))) := by
    intro q hq h
    unfold fX1_digitAt
    rw [letterAt_e tp hs (by omega), bd_s, (dg_v h).2.2]
  have nw : ∀ w : Int32, Zr r → Zr (R_setLanes r w) := fun w z => z
  have nm : ∀ w : Int32, Zr r → Zr (R_setMinute r w) := fun w z => z
  unfold fX1_tellOne fX4_comes
  rw [letterAt_e tp hs (by omega), bd_s, f40, ck40, hle]
  rcases hch with c | c | c
  · -- a floe
    rw [(bp_f c).2.2] at hb
    have hv := hv.2.2 c
    cases h1 : kb (lt tp s (i + 1)) with
    | false => rw [h1] at hb; cases hb
    | true =>
    cases h2 : dgB (lt tp s (i + 2)) with
    | false => rw [h1, h2] at hb; cases hb
    | true =>
    cases h3 : dgB (lt tp s (i + 3)) with
    | false => rw [h1, h2, h3] at hb; cases hb
    | true =>
    cases h4 : sd (lt tp s (i + 4)) with
    | false => rw [h1, h2, h3, h4] at hb; cases hb
    | true =>
    cases h5 : dgB (lt tp s (i + 5)) with
    | false => rw [h1, h2, h3, h4, h5] at hb; cases hb
    | true =>
    cases h6 : dgB (lt tp s (i + 6)) with
    | false => rw [h1, h2, h3, h4, h5, h6] at hb; cases hb
    | true =>
    have d2 := dg_v h2
    have d3 := dg_v h3
    have d5 := dg_v h5
    have d6 := dg_v h6
    rw [if_neg (show ¬ lt tp s i = (109 : Int32) by rw [c]; decide), if_neg (show ¬ lt tp s i = (114 : Int32) by rw [c]; decide), if_pos c]
    rw [show nI i + (1 : Int32) = nI (i + 1) from nI_add i 1, show nI i + (2 : Int32) = nI (i + 2) from nI_add i 2, show nI i + (3 : Int32) = nI (i + 3) from nI_add i 3, show nI i + (4 : Int32) = nI (i + 4) from nI_add i 4, show nI i + (5 : Int32) = nI (i + 5) from nI_add i 5, show nI i + (6 : Int32) = nI (i + 6) from nI_add i 6]
    rw [dig 5 (by omega) h5, bd_s, letterAt_e tp hs (by omega), bd_s, kindOf_x, bd_s, dig 2 (by omega) h2, bd_s, dig 3 (by omega) h3, bd_s, letterAt_e tp hs (by omega), bd_s, m5]
    dsimp only [jn]
    rw [dig 6 (by omega) h6]
    simp only [bd_s]
    have core : ∀ P : Int32, nu (5 * k + 3) = P → fX4_isIn P (-2 : Int32) (2 : Int32) = some (bI (pok P)) → ∃ (b : Bool) (r1 r2 : RT), bd (fX0_add (kd (lt tp s (i + 1))) (nI (dv (lt tp s (i + 2)))) (nI (dv (lt tp s (i + 3)))) P (nI (dv (lt tp s (i + 6)))) r) (fun (q115 : Int32 × RT) => ckb q115.1 (some (q115.1, q115.2))) = some (bI b, r1) ∧ bd (fX4_comesFloe (nI (5 * k)) r nu) (fun (q17 : Int32 × RT) => ckb q17.1 (some (q17.1, q17.2))) = some (bI b, r2) ∧ Zr r1 ∧ Zr r2 ∧ (b = true → r1 = r2 ∧ WR r1) := by
      intro P hP1 hP2
      rw [add_e V _ P (show dv (lt tp s (i + 2)) < 10 by omega) (show dv (lt tp s (i + 3)) < 10 by omega) (show dv (lt tp s (i + 6)) < 10 by omega), comesFloe_e (d := 0) V nu hk (show dv (lt tp s (i + 2)) < 10 by omega) (show dv (lt tp s (i + 3)) < 10 by omega) (show dv (lt tp s (i + 6)) < 10 by omega) P _ hv.1 (hv.2.1.trans d2.2.2) (hv.2.2.1.trans d3.2.2) hP1 (hv.2.2.2.2.trans d6.2.2) hP2, bd_s]
      simp only [ckb_b]
      refine ⟨_, _, _, rfl, rfl, ?_, ?_, ?_⟩
      · split
        · rename_i q
          unfold addB at q
          simp only [Bool.and_eq_true_iff, decide_eq_true_iff] at q
          exact NF_Z z q.1.1.1 _ _ _ _ _
        · exact z
      · split
        · rename_i q
          unfold addB at q
          simp only [Bool.and_eq_true_iff, decide_eq_true_iff] at q
          exact NF_Z z q.1.1.1 _ _ _ _ _
        · exact z
      · intro q
        refine ⟨rfl, ?_⟩
        rw [if_pos q]
        unfold addB at q
        simp only [Bool.and_eq_true_iff, decide_eq_true_iff] at q
        exact ⟨_, _, NF_V V q.1.1.1 _ _ _ (by omega) (by omega)⟩
    have pt := pok_t (dv (lt tp s (i + 5))) (by omega)
    by_cases cl : lt tp s (i + 4) = (108 : Int32)
    · rw [if_pos cl]
      refine core _ ?_ pt.2.1
      rw [hv.2.2.2.1, if_pos cl, d5.2.2, pt.2.2.1]
    · rw [if_neg cl]
      refine core _ ?_ pt.1
      rw [hv.2.2.2.1, if_neg cl, d5.2.2, pt.2.2.2]
  · -- the minute
    have hv := hv.2.1 c
    have c2 : ¬ lt tp s i = (102 : Int32) := by rw [c]; decide
    have h1 : dgB (lt tp s (i + 1)) = true := by
      cases h2 : dgB (lt tp s (i + 2)) with
      | false =>
        rw [(bp_m1 c h2).2.2] at hb
        cases h1 : dgB (lt tp s (i + 1)) with
        | false => rw [h1] at hb; cases hb
        | true => rfl
      | true =>
        rw [(bp_m2 c h2).2.2] at hb
        cases h1 : dgB (lt tp s (i + 1)) with
        | false => rw [h1] at hb; cases hb
        | true => rfl
    have d1 := dg_v h1
    obtain ⟨m, hm, em, en⟩ : ∃ m, m < 100 ∧ fX1_minuteAt (nI (i + 1)) tp (nI s) = some (nI m) ∧ nu (5 * k) = nI m := by
      unfold fX1_minuteAt
      rw [dig 1 (by omega) h1, bd_s, nI1, letterAt_e tp hs (by omega), bd_s, isOf_d, bd_s, if_bI, hv]
      cases h2 : dgB (lt tp s (i + 2)) with
      | false =>
        simp only [show dgB (lt tp s (i + 1 + 1)) = false from h2, Bool.false_eq_true, if_false]
        exact ⟨_, by omega, rfl, d1.2.2⟩
      | true =>
        have d2 := dg_v h2
        simp only [show dgB (lt tp s (i + 1 + 1)) = true from h2, if_true]
        rw [dig 2 (by omega) h2, bd_s, show (10 : Int32) = nI 10 from rfl, pk_mul, nI_add]
        refine ⟨_, by omega, rfl, ?_⟩
        have key : ∀ (x : Int32) (D a : Nat), x = nI (48 + D) → (nI a + x) - (48 : Int32) = nI (a + D) := by
          intro x D a h
          rw [h, nI_add, show (48 : Int32) = nI 48 from rfl, pk_sub (by omega)]
          exact congrArg nI (by omega)
        rw [d1.2.2, pk_mul]
        exact key _ _ _ d2.2.1
    rw [if_pos c, if_neg c2, f40, if_pos c, m5, fin200 (by omega), fin200 (by omega), cl200 (show 5 * k < 200 by omega), en, show nI i + (1 : Int32) = nI (i + 1) from nI_add i 1, em, bd_s]
    unfold fX0_turnTo
    rw [if_neg (nI_pos (by omega))]
    by_cases q : m ≤ 60
    · rw [if_pos (g_lle (n := 60) q (by decide)), if_neg (g_ngt (n := 60) q (by decide)), bd_s, ckb_1]
      exact ⟨true, _, _, rfl, rfl, nm _ z, nm _ z, fun _ => ⟨rfl, n, m, V.1, q, V.2.2.1, rfl, V.2.2.2.2⟩⟩
    · rw [if_neg (g_nle (n := 60) (by omega) (by omega)), if_pos (g_gt (n := 60) (by omega) (by omega)), bd_s, ckb_0]
      exact ⟨false, _, _, rfl, rfl, z, nm _ z, fun h => by cases h⟩
  · -- lanes
    have hv := hv.1 c
    rw [(bp_r c).2.2] at hb
    cases h1 : dgB (lt tp s (i + 1)) with
    | false => rw [h1] at hb; cases hb
    | true =>
      have d1 := dg_v h1
      have hn := V.1
      have e1 : nu (5 * k) = nI (dv (lt tp s (i + 1))) := hv.trans d1.2.2
      have e2 := lanes_in V nu hk e1 (fun (k82_3 : Int32) => ckb k82_3 (some (k82_3, (R_setLanes r (nu (((5 : Int32) * nI k)).toNatClampNeg))))) n 0 400 (by omega) (by omega) (decide (1 ≤ dv (lt tp s (i + 1))) && decide (dv (lt tp s (i + 1)) ≤ 5))
      rw [show nI 0 = (0 : Int32) from rfl] at e2
      rw [if_neg (show ¬ lt tp s i = (109 : Int32) by rw [c]; decide), if_pos c, if_neg (show ¬ lt tp s i = (102 : Int32) by rw [c]; decide), f40, if_neg (show ¬ lt tp s i = (109 : Int32) by rw [c]; decide), show nI i + (1 : Int32) = nI (i + 1) from nI_add i 1, dig 1 (by omega) h1, bd_s, widen_e V (by omega), bd_s, rr_la_la]
      rw [show nu (((5 : Int32) * nI k)).toNatClampNeg = nI (dv (lt tp s (i + 1))) by rw [m5, cl200 (by omega)]; exact e1, isIn15 (by omega), bd_s] at *
      rw [m5, fin200 (by omega)]
      rw [e2]
      simp only [ckb_b]
      refine ⟨widB n r (dv (lt tp s (i + 1))), _, _, rfl, rfl, ?_, nw _ z, fun q => ⟨?_, ?_⟩⟩
      · split
        · exact nw _ z
        · exact z
      · rw [if_pos q]
      · rw [if_pos q]
        exact ⟨n, t, V⟩
