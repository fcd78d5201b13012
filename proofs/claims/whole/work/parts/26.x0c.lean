theorem zX0_enter_iX1_isMember : Cond.initialized RX1 ∈ wsX0_enter := by decide +kernel
theorem zX0_enter_sX1_isMember : Cond.static yX1_isMember ∈ wsX0_enter := by decide +kernel
set_option maxHeartbeats 1000000 in
set_option maxRecDepth 100000 in
theorem kX0_enter_bad (l : Launch) (D : va_G) (cI cZ cQ : ClassId) (b : Nat → Nat) (f : Row) (v : Int32) (hb : S_mem v = false) : Ct l D (gTy cI cZ cQ) yX0_enter wsX0_enter ({ frames := 1, cells := 0, slots := 0, locals := 20 }) [.ref (b 0), .int v] (CR cI b f) (some (.int 0)) (CR cI b f) := by
  refine ct_ofZ (cc := cX0_enter) (nL := 2) (own := RX0) (by decide) rfl rfl ⟨rfl, rfl⟩ (Nat.le_of_ble_eq_true rfl) CR_same (by first | rfl | exact bI_nar _) (fun p e s m below meth c A Q F hR => ?_)
  refine g_iload_n F dX0_enter_0 rfl 1 rfl ?_
  refine g_callSNn F (As := [.int v]) (st := []) (kX1_isMember l D cI cZ cQ v) ⟨va_cnB 1 F.2.2.2.2.1 gX0_enter_X1_isMember_n90 rfl rfl rfl F.2.2.2.2.2.1.2.1 (F.2.2.2.2.1 _ zX0_enter_iX1_isMember) (by decide +kernel) ⟨Nat.le_of_ble_eq_true rfl, Nat.le_of_ble_eq_true rfl⟩, F.2.2.2.2.1 _ zX0_enter_sX1_isMember, trivial⟩ rfl rfl (Nat.le_of_ble_eq_true rfl) ⟨Nat.zero_le _, Nat.zero_le _⟩ dX0_enter_1 ?_
  refine g_beq F 16 dX0_enter_4 (by decide) (fun c1 => ?_) (fun c1 => ?_)
  · refine g_iconst F (v := 0) dX0_enter_16 (by decide) ?_
    exact g_endI (hR _ _ dX0_enter_17) rfl rfl
  · exact absurd c1 (by rw [hb]; decide)
theorem zX0_enter_f33 : Cond.fieldLink RX0 33 (TX0 7).1 (TX0 7).2.1 (TX0 7).2.2.1 ∈ wsX0_enter := by decide +kernel
theorem zX0_enter_inX0 : ∀ w ∈ u_ws RX0 TX0 14, w ∈ wsX0_enter := by decide +kernel
set_option maxHeartbeats 1000000 in
set_option maxRecDepth 100000 in
theorem kX0_enter_late (l : Launch) (D : va_G) (cI cZ cQ : ClassId) (b : Nat → Nat) (f : Row) (k : Nat) (hk : k < 6) (hne : ¬ f k = 0) : Ct l D (gTy cI cZ cQ) yX0_enter wsX0_enter ({ frames := 1, cells := 0, slots := 0, locals := 20 }) [.ref (b 0), .int (nI k)] (CR cI b f) (some (.int 0)) (CR cI b f) := by
  refine ct_ofZ (cc := cX0_enter) (nL := 2) (own := RX0) (by decide) rfl rfl ⟨rfl, rfl⟩ (Nat.le_of_ble_eq_true rfl) CR_same (by first | rfl | exact bI_nar _) (fun p e s m below meth c A Q F hR => ?_)
  refine g_iload_n F dX0_enter_0 rfl 1 rfl ?_
  refine g_callSNn F (As := [.int (nI k)]) (st := []) (kX1_isMember l D cI cZ cQ (nI k)) ⟨va_cnB 1 F.2.2.2.2.1 gX0_enter_X1_isMember_n90 rfl rfl rfl F.2.2.2.2.2.1.2.1 (F.2.2.2.2.1 _ zX0_enter_iX1_isMember) (by decide +kernel) ⟨Nat.le_of_ble_eq_true rfl, Nat.le_of_ble_eq_true rfl⟩, F.2.2.2.2.1 _ zX0_enter_sX1_isMember, trivial⟩ rfl rfl (Nat.le_of_ble_eq_true rfl) ⟨Nat.zero_le _, Nat.zero_le _⟩ dX0_enter_1 ?_
  refine g_beq F 16 dX0_enter_4 (by decide) (fun c1 => ?_) (fun c1 => ?_)
  · exact absurd c1 (by rw [mem_nI hk]; decide)
  · refine g_aload_n F dX0_enter_7 rfl 0 rfl ?_
    refine g_lR1 F zX0_enter_inX0 zX0_enter_f33 dX0_enter_8 ?_
    refine g_iload_n F dX0_enter_11 rfl 1 rfl ?_
    refine g_lA1 F rfl (by omega) dX0_enter_12 ?_
    refine g_if_eq F 18 dX0_enter_13 (by decide) (fun c2 => ?_) (fun c2 => ?_)
    · exact absurd c2 hne
    · refine g_iconst F (v := 0) dX0_enter_16 (by decide) ?_
      exact g_endI (hR _ _ dX0_enter_17) rfl rfl
set_option maxHeartbeats 1000000 in
set_option maxRecDepth 100000 in
theorem kX0_enter_ok (l : Launch) (D : va_G) (cI cZ cQ : ClassId) (b : Nat → Nat) (f : Row) (k n G : Nat) (hk : k < 6) (h0 : f k = 0) (hI : Inv n G f) : Ct l D (gTy cI cZ cQ) yX0_enter wsX0_enter ({ frames := 4, cells := 0, slots := 0, locals := 86 }) [.ref (b 0), .int (nI k)] (CR cI b f) (some (.int 1)) (CR cI b (S_joins f k)) := by
  refine ct_ofZ (cc := cX0_enter) (nL := 2) (own := RX0) (by decide) rfl rfl ⟨rfl, rfl⟩ (Nat.le_of_ble_eq_true rfl) CR_same (by first | rfl | exact bI_nar _) (fun p e s m below meth c A Q F hR => ?_)
  have hz := hI.z
  refine g_iload_n F dX0_enter_0 rfl 1 rfl ?_
  refine g_callSNn F (As := [.int (nI k)]) (st := []) (kX1_isMember l D cI cZ cQ (nI k)) ⟨va_cnB 1 F.2.2.2.2.1 gX0_enter_X1_isMember_n90 rfl rfl rfl F.2.2.2.2.2.1.2.1 (F.2.2.2.2.1 _ zX0_enter_iX1_isMember) (by decide +kernel) ⟨Nat.le_of_ble_eq_true rfl, Nat.le_of_ble_eq_true rfl⟩, F.2.2.2.2.1 _ zX0_enter_sX1_isMember, trivial⟩ rfl rfl (Nat.le_of_ble_eq_true rfl) ⟨Nat.zero_le _, Nat.zero_le _⟩ dX0_enter_1 ?_
  refine g_beq F 16 dX0_enter_4 (by decide) (fun c1 => ?_) (fun c1 => ?_)
  · exact absurd c1 (by rw [mem_nI hk]; decide)
  · refine g_aload_n F dX0_enter_7 rfl 0 rfl ?_
    refine g_lR1 F zX0_enter_inX0 zX0_enter_f33 dX0_enter_8 ?_
    refine g_iload_n F dX0_enter_11 rfl 1 rfl ?_
    refine g_lA1 F rfl (by omega) dX0_enter_12 ?_
    refine g_if_eq F 18 dX0_enter_13 (by decide) (fun c2 => ?_) (fun c2 => ?_)
    · refine g_aload_n F dX0_enter_18 rfl 0 rfl ?_
      refine g_lR1 F zX0_enter_inX0 zX0_enter_f33 dX0_enter_19 ?_
      refine g_iload_n F dX0_enter_22 rfl 1 rfl ?_
      refine g_iconst F (v := 1) dX0_enter_23 (by decide) ?_
      refine g_cA1 F rfl (by omega) dX0_enter_24 ?_
      refine g_aload_n F dX0_enter_25 rfl 0 rfl ?_
      refine g_iload_n F dX0_enter_26 rfl 1 rfl ?_
      refine g_callVs F (As := [.int (nI k)]) (st := []) (kX0_begin l D cI cZ cQ b (upd f k 1) k (by omega) (Z_upd hz (by omega))) 0 rfl rfl (cwV 1 F.2.2.2.2.1 gX0_enter_X0_begin rfl rfl rfl (by decide +kernel) ⟨Nat.le_of_ble_eq_true rfl, Nat.le_of_ble_eq_true rfl⟩) rfl rfl (Nat.le_of_ble_eq_true rfl) ⟨Nat.zero_le _, Nat.zero_le _⟩ dX0_enter_27 ?_
      refine g_iconst F (v := 1) dX0_enter_30 (by decide) ?_
      exact g_endI (hR _ _ dX0_enter_31) rfl (by rw [← enter_eq hI hk h0])
    · exact absurd h0 c2
theorem zX0_depart_iX1_isMember : Cond.initialized RX1 ∈ wsX0_depart := by decide +kernel
theorem zX0_depart_sX1_isMember : Cond.static yX1_isMember ∈ wsX0_depart := by decide +kernel
set_option maxHeartbeats 1000000 in
set_option maxRecDepth 100000 in
theorem kX0_depart_bad (l : Launch) (D : va_G) (cI cZ cQ : ClassId) (b : Nat → Nat) (f : Row) (v : Int32) (hb : S_mem v = false) : Ct l D (gTy cI cZ cQ) yX0_depart wsX0_depart ({ frames := 1, cells := 0, slots := 0, locals := 20 }) [.ref (b 0), .int v] (CR cI b f) (some (.int 0)) (CR cI b f) := by
  refine ct_ofZ (cc := cX0_depart) (nL := 2) (own := RX0) (by decide) rfl rfl ⟨rfl, rfl⟩ (Nat.le_of_ble_eq_true rfl) CR_same (by first | rfl | exact bI_nar _) (fun p e s m below meth c A Q F hR => ?_)
  refine g_iload_n F dX0_depart_0 rfl 1 rfl ?_
  refine g_callSNn F (As := [.int v]) (st := []) (kX1_isMember l D cI cZ cQ v) ⟨va_cnB 1 F.2.2.2.2.1 gX0_depart_X1_isMember_n90 rfl rfl rfl F.2.2.2.2.2.1.2.1 (F.2.2.2.2.1 _ zX0_depart_iX1_isMember) (by decide +kernel) ⟨Nat.le_of_ble_eq_true rfl, Nat.le_of_ble_eq_true rfl⟩, F.2.2.2.2.1 _ zX0_depart_sX1_isMember, trivial⟩ rfl rfl (Nat.le_of_ble_eq_true rfl) ⟨Nat.zero_le _, Nat.zero_le _⟩ dX0_depart_1 ?_
  refine g_beq F 17 dX0_depart_4 (by decide) (fun c1 => ?_) (fun c1 => ?_)
  · refine g_iconst F (v := 0) dX0_depart_17 (by decide) ?_
    exact g_endI (hR _ _ dX0_depart_18) rfl rfl
  · exact absurd c1 (by rw [hb]; decide)
theorem zX0_depart_f33 : Cond.fieldLink RX0 33 (TX0 7).1 (TX0 7).2.1 (TX0 7).2.2.1 ∈ wsX0_depart := by decide +kernel
theorem zX0_depart_inX0 : ∀ w ∈ u_ws RX0 TX0 14, w ∈ wsX0_depart := by decide +kernel
set_option maxHeartbeats 1000000 in
set_option maxRecDepth 100000 in
theorem kX0_depart_late (l : Launch) (D : va_G) (cI cZ cQ : ClassId) (b : Nat → Nat) (f : Row) (k : Nat) (hk : k < 6) (hne : ¬ f k = 1) : Ct l D (gTy cI cZ cQ) yX0_depart wsX0_depart ({ frames := 1, cells := 0, slots := 0, locals := 20 }) [.ref (b 0), .int (nI k)] (CR cI b f) (some (.int 0)) (CR cI b f) := by
  refine ct_ofZ (cc := cX0_depart) (nL := 2) (own := RX0) (by decide) rfl rfl ⟨rfl, rfl⟩ (Nat.le_of_ble_eq_true rfl) CR_same (by first | rfl | exact bI_nar _) (fun p e s m below meth c A Q F hR => ?_)
  refine g_iload_n F dX0_depart_0 rfl 1 rfl ?_
  refine g_callSNn F (As := [.int (nI k)]) (st := []) (kX1_isMember l D cI cZ cQ (nI k)) ⟨va_cnB 1 F.2.2.2.2.1 gX0_depart_X1_isMember_n90 rfl rfl rfl F.2.2.2.2.2.1.2.1 (F.2.2.2.2.1 _ zX0_depart_iX1_isMember) (by decide +kernel) ⟨Nat.le_of_ble_eq_true rfl, Nat.le_of_ble_eq_true rfl⟩, F.2.2.2.2.1 _ zX0_depart_sX1_isMember, trivial⟩ rfl rfl (Nat.le_of_ble_eq_true rfl) ⟨Nat.zero_le _, Nat.zero_le _⟩ dX0_depart_1 ?_
  refine g_beq F 17 dX0_depart_4 (by decide) (fun c1 => ?_) (fun c1 => ?_)
  · exact absurd c1 (by rw [mem_nI hk]; decide)
  · refine g_aload_n F dX0_depart_7 rfl 0 rfl ?_
    refine g_lR1 F zX0_depart_inX0 zX0_depart_f33 dX0_depart_8 ?_
    refine g_iload_n F dX0_depart_11 rfl 1 rfl ?_
    refine g_lA1 F rfl (by omega) dX0_depart_12 ?_
    refine g_iconst F (v := 1) dX0_depart_13 (by decide) ?_
    refine g_icmp_eq F 19 dX0_depart_14 (by decide) (fun c2 => ?_) (fun c2 => ?_)
    · exact absurd c2 hne
    · refine g_iconst F (v := 0) dX0_depart_17 (by decide) ?_
      exact g_endI (hR _ _ dX0_depart_18) rfl rfl
theorem zX0_depart_f46 : Cond.fieldLink RX0 46 (TX0 11).1 (TX0 11).2.1 (TX0 11).2.2.1 ∈ wsX0_depart := by decide +kernel
set_option maxHeartbeats 1000000 in
set_option maxRecDepth 100000 in
theorem kX0_depart_ok (l : Launch) (D : va_G) (cI cZ cQ : ClassId) (b : Nat → Nat) (f : Row) (k n G : Nat) (hk : k < 6) (h1 : f k = 1) (hI : Inv n G f) (hn0 : n ≤ 1048576) : Ct l D (gTy cI cZ cQ) yX0_depart wsX0_depart ({ frames := 4, cells := 0, slots := 0, locals := 87 }) [.ref (b 0), .int (nI k)] (CR cI b f) (some (.int 1)) (CR cI b (S_leaves f k)) := by
  refine ct_ofZ (cc := cX0_depart) (nL := 2) (own := RX0) (by decide) rfl rfl ⟨rfl, rfl⟩ (Nat.le_of_ble_eq_true rfl) CR_same (by first | rfl | exact bI_nar _) (fun p e s m below meth c A Q F hR => ?_)
  have hz := hI.z
  refine g_iload_n F dX0_depart_0 rfl 1 rfl ?_
  refine g_callSNn F (As := [.int (nI k)]) (st := []) (kX1_isMember l D cI cZ cQ (nI k)) ⟨va_cnB 1 F.2.2.2.2.1 gX0_depart_X1_isMember_n90 rfl rfl rfl F.2.2.2.2.2.1.2.1 (F.2.2.2.2.1 _ zX0_depart_iX1_isMember) (by decide +kernel) ⟨Nat.le_of_ble_eq_true rfl, Nat.le_of_ble_eq_true rfl⟩, F.2.2.2.2.1 _ zX0_depart_sX1_isMember, trivial⟩ rfl rfl (Nat.le_of_ble_eq_true rfl) ⟨Nat.zero_le _, Nat.zero_le _⟩ dX0_depart_1 ?_
  refine g_beq F 17 dX0_depart_4 (by decide) (fun c1 => ?_) (fun c1 => ?_)
  · exact absurd c1 (by rw [mem_nI hk]; decide)
  · refine g_aload_n F dX0_depart_7 rfl 0 rfl ?_
    refine g_lR1 F zX0_depart_inX0 zX0_depart_f33 dX0_depart_8 ?_
    refine g_iload_n F dX0_depart_11 rfl 1 rfl ?_
    refine g_lA1 F rfl (by omega) dX0_depart_12 ?_
    refine g_iconst F (v := 1) dX0_depart_13 (by decide) ?_
    refine g_icmp_eq F 19 dX0_depart_14 (by decide) (fun c2 => ?_) (fun c2 => ?_)
    · refine g_aload_n F dX0_depart_19 rfl 0 rfl ?_
      refine g_iload_n F dX0_depart_20 rfl 1 rfl ?_
      refine g_callVs F (As := [.int (nI k)]) (st := []) (kX0_countOf l D cI cZ cQ b f k (by omega) (by rw [h1]; decide) hI.kn) 0 rfl rfl (cwV 1 F.2.2.2.2.1 gX0_depart_X0_countOf rfl rfl rfl (by decide +kernel) ⟨Nat.le_of_ble_eq_true rfl, Nat.le_of_ble_eq_true rfl⟩) rfl rfl (Nat.le_of_ble_eq_true rfl) ⟨Nat.zero_le _, Nat.zero_le _⟩ dX0_depart_21 ?_
      refine g_iconst F (v := 3) dX0_depart_24 (by decide) ?_
      refine g_icmp_gt F 36 dX0_depart_25 (by decide) (fun c3 => ?_) (fun c3 => ?_)
      · refine g_aload_n F dX0_depart_36 rfl 0 rfl ?_
        refine g_lR1 F zX0_depart_inX0 zX0_depart_f33 dX0_depart_37 ?_
        refine g_iload_n F dX0_depart_40 rfl 1 rfl ?_
        refine g_iconst F (v := 2) dX0_depart_41 (by decide) ?_
        refine g_cA1 F rfl (by omega) dX0_depart_42 ?_
        refine g_aload_n F dX0_depart_43 rfl 0 rfl ?_
        refine g_lR5 F zX0_depart_inX0 zX0_depart_f46 dX0_depart_44 ?_
        refine g_iload_n F dX0_depart_47 rfl 1 rfl ?_
        refine g_iconst F (v := 1) dX0_depart_48 (by decide) ?_
        refine g_cA5 F rfl (by omega) dX0_depart_49 ?_
        refine g_aload_n F dX0_depart_50 rfl 0 rfl ?_
        refine g_iload_n F dX0_depart_51 rfl 1 rfl ?_
        refine g_callVs F (As := [.int (nI k)]) (st := []) (kX0_begin l D cI cZ cQ b (upd (upd f k 2) (60 + k) 1) k (by omega) (Z_upd (Z_upd hz (by omega)) (by omega))) 0 rfl rfl (cwV 1 F.2.2.2.2.1 gX0_depart_X0_begin rfl rfl rfl (by decide +kernel) ⟨Nat.le_of_ble_eq_true rfl, Nat.le_of_ble_eq_true rfl⟩) rfl rfl (Nat.le_of_ble_eq_true rfl) ⟨Nat.zero_le _, Nat.zero_le _⟩ dX0_depart_52 ?_
        refine g_iconst F (v := 1) dX0_depart_55 (by decide) ?_
        exact g_endI (hR _ _ dX0_depart_56) rfl (by unfold S_leaves; rw [if_pos c3, ← leave_eq])
      · refine g_aload_n F dX0_depart_28 rfl 0 rfl ?_
        refine g_iload_n F dX0_depart_29 rfl 1 rfl ?_
        refine g_callVs F (As := [.int (nI k)]) (st := []) (kX0_sendBye l D cI cZ cQ b f k n G (by omega) hI hn0) 0 rfl rfl (cwV 1 F.2.2.2.2.1 gX0_depart_X0_sendBye rfl rfl rfl (by decide +kernel) ⟨Nat.le_of_ble_eq_true rfl, Nat.le_of_ble_eq_true rfl⟩) rfl rfl (Nat.le_of_ble_eq_true rfl) ⟨Nat.zero_le _, Nat.zero_le _⟩ dX0_depart_30 ?_
        refine g_goto F 55 dX0_depart_33 (by decide) ?_
        refine g_iconst F (v := 1) dX0_depart_55 (by decide) ?_
        exact g_endI (hR _ _ dX0_depart_56) rfl (by unfold S_leaves; rw [if_neg c3])
    · exact absurd h1 c2
set_option maxHeartbeats 1000000 in
set_option maxRecDepth 100000 in
theorem kX0_eod_0 (l : Launch) (D : va_G) (cI cZ cQ : ClassId) (b : Nat → Nat) (f : Row) (k n G : Nat) (hk : k < 6) (hI : Inv n G f) (hn0 : n ≤ 1048576) (h : f k = 0) : Ct l D (gTy cI cZ cQ) yX0_enterOrDepart wsX0_enterOrDepart ({ frames := 5, cells := 0, slots := 0, locals := 108 }) [.ref (b 0), .int (nI k)] (CR cI b f) none (CR cI b (S_eod f k)) := by
  refine ct_ofV (cc := cX0_enterOrDepart) (nL := 2) (own := RX0) (by decide) rfl rfl ⟨rfl, rfl⟩ (Nat.le_of_ble_eq_true rfl) CR_same (fun p e s m below meth c A Q F hR => ?_)
  refine g_aload_n F dX0_enterOrDepart_0 rfl 0 rfl ?_
  refine g_iload_n F dX0_enterOrDepart_1 rfl 1 rfl ?_
  refine g_callVs F (As := [.int (nI k)]) (st := []) (kX0_enter_ok l D cI cZ cQ b f k n G (by omega) h hI) 0 rfl rfl (cwV 1 F.2.2.2.2.1 gX0_enterOrDepart_X0_enter rfl rfl rfl (by decide +kernel) ⟨Nat.le_of_ble_eq_true rfl, Nat.le_of_ble_eq_true rfl⟩) rfl rfl (Nat.le_of_ble_eq_true rfl) ⟨Nat.zero_le _, Nat.zero_le _⟩ dX0_enterOrDepart_2 ?_
  refine g_if_ne F 14 dX0_enterOrDepart_5 (by decide) (fun c1 => ?_) (fun c1 => ?_)
  · exact g_endV (hR _ _ dX0_enterOrDepart_14) (by unfold S_eod; rw [if_pos h])
  · exact absurd c1 (by decide)
set_option maxHeartbeats 1000000 in
set_option maxRecDepth 100000 in
theorem kX0_eod_1 (l : Launch) (D : va_G) (cI cZ cQ : ClassId) (b : Nat → Nat) (f : Row) (k n G : Nat) (hk : k < 6) (hI : Inv n G f) (hn0 : n ≤ 1048576) (h : f k = 1) : Ct l D (gTy cI cZ cQ) yX0_enterOrDepart wsX0_enterOrDepart ({ frames := 5, cells := 0, slots := 0, locals := 108 }) [.ref (b 0), .int (nI k)] (CR cI b f) none (CR cI b (S_eod f k)) := by
  refine ct_ofV (cc := cX0_enterOrDepart) (nL := 2) (own := RX0) (by decide) rfl rfl ⟨rfl, rfl⟩ (Nat.le_of_ble_eq_true rfl) CR_same (fun p e s m below meth c A Q F hR => ?_)
  refine g_aload_n F dX0_enterOrDepart_0 rfl 0 rfl ?_
  refine g_iload_n F dX0_enterOrDepart_1 rfl 1 rfl ?_
  refine g_callVs F (As := [.int (nI k)]) (st := []) (kX0_enter_late l D cI cZ cQ b f k (by omega) (by rw [h]; decide)) 0 rfl rfl (cwV 1 F.2.2.2.2.1 gX0_enterOrDepart_X0_enter rfl rfl rfl (by decide +kernel) ⟨Nat.le_of_ble_eq_true rfl, Nat.le_of_ble_eq_true rfl⟩) rfl rfl (Nat.le_of_ble_eq_true rfl) ⟨Nat.zero_le _, Nat.zero_le _⟩ dX0_enterOrDepart_2 ?_
  refine g_if_ne F 14 dX0_enterOrDepart_5 (by decide) (fun c1 => ?_) (fun c1 => ?_)
  · exact absurd c1 (by decide)
  · refine g_aload_n F dX0_enterOrDepart_8 rfl 0 rfl ?_
    refine g_iload_n F dX0_enterOrDepart_9 rfl 1 rfl ?_
    refine g_callVs F (As := [.int (nI k)]) (st := []) (kX0_depart_ok l D cI cZ cQ b f k n G (by omega) h hI hn0) 0 rfl rfl (cwV 1 F.2.2.2.2.1 gX0_enterOrDepart_X0_depart rfl rfl rfl (by decide +kernel) ⟨Nat.le_of_ble_eq_true rfl, Nat.le_of_ble_eq_true rfl⟩) rfl rfl (Nat.le_of_ble_eq_true rfl) ⟨Nat.zero_le _, Nat.zero_le _⟩ dX0_enterOrDepart_10 ?_
    refine g_pop F dX0_enterOrDepart_13 rfl ?_
    exact g_endV (hR _ _ dX0_enterOrDepart_14) (by unfold S_eod; rw [if_neg (by rw [h]; decide), if_pos h])
set_option maxHeartbeats 1000000 in
set_option maxRecDepth 100000 in
theorem kX0_eod_2 (l : Launch) (D : va_G) (cI cZ cQ : ClassId) (b : Nat → Nat) (f : Row) (k n G : Nat) (hk : k < 6) (hI : Inv n G f) (hn0 : n ≤ 1048576) (h : ¬ f k = 0) (h1 : ¬ f k = 1) : Ct l D (gTy cI cZ cQ) yX0_enterOrDepart wsX0_enterOrDepart ({ frames := 5, cells := 0, slots := 0, locals := 108 }) [.ref (b 0), .int (nI k)] (CR cI b f) none (CR cI b (S_eod f k)) := by
  refine ct_ofV (cc := cX0_enterOrDepart) (nL := 2) (own := RX0) (by decide) rfl rfl ⟨rfl, rfl⟩ (Nat.le_of_ble_eq_true rfl) CR_same (fun p e s m below meth c A Q F hR => ?_)
  refine g_aload_n F dX0_enterOrDepart_0 rfl 0 rfl ?_
  refine g_iload_n F dX0_enterOrDepart_1 rfl 1 rfl ?_
  refine g_callVs F (As := [.int (nI k)]) (st := []) (kX0_enter_late l D cI cZ cQ b f k (by omega) h) 0 rfl rfl (cwV 1 F.2.2.2.2.1 gX0_enterOrDepart_X0_enter rfl rfl rfl (by decide +kernel) ⟨Nat.le_of_ble_eq_true rfl, Nat.le_of_ble_eq_true rfl⟩) rfl rfl (Nat.le_of_ble_eq_true rfl) ⟨Nat.zero_le _, Nat.zero_le _⟩ dX0_enterOrDepart_2 ?_
  refine g_if_ne F 14 dX0_enterOrDepart_5 (by decide) (fun c1 => ?_) (fun c1 => ?_)
  · exact absurd c1 (by decide)
  · refine g_aload_n F dX0_enterOrDepart_8 rfl 0 rfl ?_
    refine g_iload_n F dX0_enterOrDepart_9 rfl 1 rfl ?_
    refine g_callVs F (As := [.int (nI k)]) (st := []) (kX0_depart_late l D cI cZ cQ b f k (by omega) h1) 0 rfl rfl (cwV 1 F.2.2.2.2.1 gX0_enterOrDepart_X0_depart rfl rfl rfl (by decide +kernel) ⟨Nat.le_of_ble_eq_true rfl, Nat.le_of_ble_eq_true rfl⟩) rfl rfl (Nat.le_of_ble_eq_true rfl) ⟨Nat.zero_le _, Nat.zero_le _⟩ dX0_enterOrDepart_10 ?_
    refine g_pop F dX0_enterOrDepart_13 rfl ?_
    exact g_endV (hR _ _ dX0_enterOrDepart_14) (by unfold S_eod; rw [if_neg h, if_neg h1])
theorem kX0_enterOrDepart (l : Launch) (D : va_G) (cI cZ cQ : ClassId) (b : Nat → Nat) (f : Row) (k n G : Nat) (hk : k < 6) (hI : Inv n G f) (hn0 : n ≤ 1048576) : Ct l D (gTy cI cZ cQ) yX0_enterOrDepart wsX0_enterOrDepart ({ frames := 5, cells := 0, slots := 0, locals := 108 }) [.ref (b 0), .int (nI k)] (CR cI b f) none (CR cI b (S_eod f k)) := by
  by_cases h : f k = 0
  · exact kX0_eod_0 l D cI cZ cQ b f k n G hk hI hn0 h
  · by_cases h1 : f k = 1
    · exact kX0_eod_1 l D cI cZ cQ b f k n G hk hI hn0 h1
    · exact kX0_eod_2 l D cI cZ cQ b f k n G hk hI hn0 h h1
theorem zX0_tellAnew_f9 : Cond.fieldLink RX0 9 (TX0 0).1 (TX0 0).2.1 (TX0 0).2.2.1 ∈ wsX0_tellAnew := by decide +kernel
theorem zX0_tellAnew_inX0 : ∀ w ∈ u_ws RX0 TX0 14, w ∈ wsX0_tellAnew := by decide +kernel
set_option maxHeartbeats 1000000 in
set_option maxRecDepth 100000 in
theorem kX0_tellAnew_0 (l : Launch) (D : va_G) (cI cZ cQ : ClassId) (b : Nat → Nat) (f : Row) (v : Int32) : Ct l D (gTy cI cZ cQ) yX0_tellAnew wsX0_tellAnew ({ frames := 0, cells := 0, slots := 0, locals := 0 }) [.ref (b 0), .int 0, .int v] (CR cI b f) (some (.int (f 66))) (CR cI b (upd f 66 v)) := by
  refine ct_ofI (cc := cX0_tellAnew) (nL := 4) (own := RX0) (by decide) rfl rfl ⟨rfl, rfl⟩ (Nat.le_of_ble_eq_true rfl) CR_same (fun p e s m below meth c A Q F hR => ?_)
  refine g_iload_n F dX0_tellAnew_0 rfl 1 rfl ?_
  refine g_if_ne F 17 dX0_tellAnew_1 (by decide) (fun c1 => ?_) (fun c1 => ?_)
  · exact absurd c1 (by decide)
  · refine g_aload_n F dX0_tellAnew_4 rfl 0 rfl ?_
    refine g_lF66 F zX0_tellAnew_inX0 zX0_tellAnew_f9 dX0_tellAnew_5 ?_
    refine g_istore_n F (lv' := [(0, .ref (b 0)), (1, .int 0), (2, .int v), (3, .int (f 66))]) dX0_tellAnew_8 rfl (by decide) [1, 2, 3, 0] rfl ?_
    refine g_aload_n F dX0_tellAnew_9 rfl 0 rfl ?_
    refine g_iload_n F dX0_tellAnew_10 rfl 2 rfl ?_
    refine g_cF66 F zX0_tellAnew_inX0 zX0_tellAnew_f9 dX0_tellAnew_11 ?_
    refine g_goto F 45 dX0_tellAnew_14 (by decide) ?_
    refine g_iload_n F dX0_tellAnew_45 rfl 3 rfl ?_
    exact g_endI (hR _ _ dX0_tellAnew_46) rfl rfl
theorem zX0_tellAnew_f15 : Cond.fieldLink RX0 15 (TX0 1).1 (TX0 1).2.1 (TX0 1).2.2.1 ∈ wsX0_tellAnew := by decide +kernel
set_option maxHeartbeats 1000000 in
set_option maxRecDepth 100000 in
theorem kX0_tellAnew_1 (l : Launch) (D : va_G) (cI cZ cQ : ClassId) (b : Nat → Nat) (f : Row) (v : Int32) : Ct l D (gTy cI cZ cQ) yX0_tellAnew wsX0_tellAnew ({ frames := 0, cells := 0, slots := 0, locals := 0 }) [.ref (b 0), .int 1, .int v] (CR cI b f) (some (.int (f 67))) (CR cI b (upd f 67 v)) := by
  refine ct_ofI (cc := cX0_tellAnew) (nL := 4) (own := RX0) (by decide) rfl rfl ⟨rfl, rfl⟩ (Nat.le_of_ble_eq_true rfl) CR_same (fun p e s m below meth c A Q F hR => ?_)
  refine g_iload_n F dX0_tellAnew_0 rfl 1 rfl ?_
  refine g_if_ne F 17 dX0_tellAnew_1 (by decide) (fun c1 => ?_) (fun c1 => ?_)
  · refine g_iload_n F dX0_tellAnew_17 rfl 1 rfl ?_
    refine g_iconst F (v := 1) dX0_tellAnew_18 (by decide) ?_
    refine g_icmp_ne F 35 dX0_tellAnew_19 (by decide) (fun c2 => ?_) (fun c2 => ?_)
    · exact absurd c2 (by decide)
    · refine g_aload_n F dX0_tellAnew_22 rfl 0 rfl ?_
      refine g_lF67 F zX0_tellAnew_inX0 zX0_tellAnew_f15 dX0_tellAnew_23 ?_
      refine g_istore_n F (lv' := [(0, .ref (b 0)), (1, .int 1), (2, .int v), (3, .int (f 67))]) dX0_tellAnew_26 rfl (by decide) [1, 2, 3, 0] rfl ?_
      refine g_aload_n F dX0_tellAnew_27 rfl 0 rfl ?_
      refine g_iload_n F dX0_tellAnew_28 rfl 2 rfl ?_
      refine g_cF67 F zX0_tellAnew_inX0 zX0_tellAnew_f15 dX0_tellAnew_29 ?_
      refine g_goto F 45 dX0_tellAnew_32 (by decide) ?_
      refine g_iload_n F dX0_tellAnew_45 rfl 3 rfl ?_
      exact g_endI (hR _ _ dX0_tellAnew_46) rfl rfl
  · exact absurd c1 (by decide)
theorem zX0_tellAnew_f18 : Cond.fieldLink RX0 18 (TX0 2).1 (TX0 2).2.1 (TX0 2).2.2.1 ∈ wsX0_tellAnew := by decide +kernel
set_option maxHeartbeats 1000000 in
set_option maxRecDepth 100000 in
theorem kX0_tellAnew_2 (l : Launch) (D : va_G) (cI cZ cQ : ClassId) (b : Nat → Nat) (f : Row) (v : Int32) : Ct l D (gTy cI cZ cQ) yX0_tellAnew wsX0_tellAnew ({ frames := 0, cells := 0, slots := 0, locals := 0 }) [.ref (b 0), .int 2, .int v] (CR cI b f) (some (.int (f 68))) (CR cI b (upd f 68 v)) := by
  refine ct_ofI (cc := cX0_tellAnew) (nL := 4) (own := RX0) (by decide) rfl rfl ⟨rfl, rfl⟩ (Nat.le_of_ble_eq_true rfl) CR_same (fun p e s m below meth c A Q F hR => ?_)
  refine g_iload_n F dX0_tellAnew_0 rfl 1 rfl ?_
  refine g_if_ne F 17 dX0_tellAnew_1 (by decide) (fun c1 => ?_) (fun c1 => ?_)
  · refine g_iload_n F dX0_tellAnew_17 rfl 1 rfl ?_
    refine g_iconst F (v := 1) dX0_tellAnew_18 (by decide) ?_
    refine g_icmp_ne F 35 dX0_tellAnew_19 (by decide) (fun c2 => ?_) (fun c2 => ?_)
    · refine g_aload_n F dX0_tellAnew_35 rfl 0 rfl ?_
      refine g_lF68 F zX0_tellAnew_inX0 zX0_tellAnew_f18 dX0_tellAnew_36 ?_
      refine g_istore_n F (lv' := [(0, .ref (b 0)), (1, .int 2), (2, .int v), (3, .int (f 68))]) dX0_tellAnew_39 rfl (by decide) [1, 2, 3, 0] rfl ?_
      refine g_aload_n F dX0_tellAnew_40 rfl 0 rfl ?_
      refine g_iload_n F dX0_tellAnew_41 rfl 2 rfl ?_
      refine g_cF68 F zX0_tellAnew_inX0 zX0_tellAnew_f18 dX0_tellAnew_42 ?_
      refine g_iload_n F dX0_tellAnew_45 rfl 3 rfl ?_
      exact g_endI (hR _ _ dX0_tellAnew_46) rfl rfl
    · exact absurd c2 (by decide)
  · exact absurd c1 (by decide)
