set_option maxHeartbeats 1000000 in
set_option maxRecDepth 100000 in
theorem kX0_enterR_bad (l : Launch) (D : va_G) (cI cZ cQ : ClassId) (b : Nat → Nat) (f : Row) (v : Int32) (hb : S_mem v = false) : Ct l D (gTy cI cZ cQ) yX0_enter wsX0_enter ({ frames := 5, cells := 0, slots := 0, locals := 110 }) [.ref (b 0), .int v] (CR cI b f) (some (.int 0)) (CR cI b f) := by
  refine ct_ofZ (cc := cX0_enter) (nL := 2) (own := RX0) (by decide) rfl rfl ⟨rfl, rfl⟩ (Nat.le_of_ble_eq_true rfl) CR_same (by first | rfl | exact bI_nar _) (fun p e s m below meth c A Q F hR => ?_)
  refine g_iload_n F dX0_enter_0 rfl 1 rfl ?_
  refine g_callSNn F (As := [.int v]) (st := []) (kX1_isMember l D cI cZ cQ v) ⟨va_cnB 1 F.2.2.2.2.1 gX0_enter_X1_isMember_n90 rfl rfl rfl F.2.2.2.2.2.1.2.1 (F.2.2.2.2.1 _ zX0_enter_iX1_isMember) (by decide +kernel) ⟨Nat.le_of_ble_eq_true rfl, Nat.le_of_ble_eq_true rfl⟩, F.2.2.2.2.1 _ zX0_enter_sX1_isMember, trivial⟩ rfl rfl (Nat.le_of_ble_eq_true rfl) ⟨Nat.zero_le _, Nat.zero_le _⟩ dX0_enter_1 ?_
  refine g_beq F 16 dX0_enter_4 (by decide) (fun c1 => ?_) (fun c1 => ?_)
  · refine g_iconst F (v := 0) dX0_enter_16 (by decide) ?_
    exact g_endI (hR _ _ dX0_enter_17) rfl rfl
  · exact absurd c1 (by rw [hb]; decide)
set_option maxHeartbeats 1000000 in
set_option maxRecDepth 100000 in
theorem kX0_enterR_late (l : Launch) (D : va_G) (cI cZ cQ : ClassId) (b : Nat → Nat) (f : Row) (k : Nat) (hk : k < 6) (hne : ¬ f k = 0) : Ct l D (gTy cI cZ cQ) yX0_enter wsX0_enter ({ frames := 5, cells := 0, slots := 0, locals := 110 }) [.ref (b 0), .int (nI k)] (CR cI b f) (some (.int 0)) (CR cI b f) := by
  refine ct_ofZ (cc := cX0_enter) (nL := 2) (own := RX0) (by decide) rfl rfl ⟨rfl, rfl⟩ (Nat.le_of_ble_eq_true rfl) CR_same (by first | rfl | exact bI_nar _) (fun p e s m below meth c A Q F hR => ?_)
  refine g_iload_n F dX0_enter_0 rfl 1 rfl ?_
  refine g_callSNn F (As := [.int (nI k)]) (st := []) (kX1_isMember l D cI cZ cQ (nI k)) ⟨va_cnB 1 F.2.2.2.2.1 gX0_enter_X1_isMember_n90 rfl rfl rfl F.2.2.2.2.2.1.2.1 (F.2.2.2.2.1 _ zX0_enter_iX1_isMember) (by decide +kernel) ⟨Nat.le_of_ble_eq_true rfl, Nat.le_of_ble_eq_true rfl⟩, F.2.2.2.2.1 _ zX0_enter_sX1_isMember, trivial⟩ rfl rfl (Nat.le_of_ble_eq_true rfl) ⟨Nat.zero_le _, Nat.zero_le _⟩ dX0_enter_1 ?_
  refine g_beq F 16 dX0_enter_4 (by decide) (fun c1 => ?_) (fun c1 => ?_)
  · exact absurd c1 (by rw [mem_nI hk]; decide)
  · refine g_aload_n F dX0_enter_7 rfl 0 rfl ?_
    refine g_lR1 F zX0_enter_inX0 zX0_enter_f33 dX0_enter_8 ?_
    refine g_iload_n F dX0_enter_11 rfl 1 rfl ?_
    refine g_lA1 F rfl (by omega) dX0_enter_12 ?_
    refine g_if_eq F 18 dX0_enter_13 (by decide) (fun c2 => ?_) (fun c2 => ?_)
    · exact absurd c2 hne
    · refine g_iconst F (v := 0) dX0_enter_16 (by decide) ?_
      exact g_endI (hR _ _ dX0_enter_17) rfl rfl
set_option maxHeartbeats 1000000 in
set_option maxRecDepth 100000 in
theorem kX0_enterR_ok (l : Launch) (D : va_G) (cI cZ cQ : ClassId) (b : Nat → Nat) (f : Row) (k n G : Nat) (hk : k < 6) (h0 : f k = 0) (hI : Inv n G f) : Ct l D (gTy cI cZ cQ) yX0_enter wsX0_enter ({ frames := 5, cells := 0, slots := 0, locals := 110 }) [.ref (b 0), .int (nI k)] (CR cI b f) (some (.int 1)) (CR cI b (S_joins f k)) := by
  refine ct_ofZ (cc := cX0_enter) (nL := 2) (own := RX0) (by decide) rfl rfl ⟨rfl, rfl⟩ (Nat.le_of_ble_eq_true rfl) CR_same (by first | rfl | exact bI_nar _) (fun p e s m below meth c A Q F hR => ?_)
  have hz := hI.z
  refine g_iload_n F dX0_enter_0 rfl 1 rfl ?_
  refine g_callSNn F (As := [.int (nI k)]) (st := []) (kX1_isMember l D cI cZ cQ (nI k)) ⟨va_cnB 1 F.2.2.2.2.1 gX0_enter_X1_isMember_n90 rfl rfl rfl F.2.2.2.2.2.1.2.1 (F.2.2.2.2.1 _ zX0_enter_iX1_isMember) (by decide +kernel) ⟨Nat.le_of_ble_eq_true rfl, Nat.le_of_ble_eq_true rfl⟩, F.2.2.2.2.1 _ zX0_enter_sX1_isMember, trivial⟩ rfl rfl (Nat.le_of_ble_eq_true rfl) ⟨Nat.zero_le _, Nat.zero_le _⟩ dX0_enter_1 ?_
  refine g_beq F 16 dX0_enter_4 (by decide) (fun c1 => ?_) (fun c1 => ?_)
  · exact absurd c1 (by rw [mem_nI hk]; decide)
  · refine g_aload_n F dX0_enter_7 rfl 0 rfl ?_
    refine g_lR1 F zX0_enter_inX0 zX0_enter_f33 dX0_enter_8 ?_
    refine g_iload_n F dX0_enter_11 rfl 1 rfl ?_
    refine g_lA1 F rfl (by omega) dX0_enter_12 ?_
    refine g_if_eq F 18 dX0_enter_13 (by decide) (fun c2 => ?_) (fun c2 => ?_)
    · refine g_aload_n F dX0_enter_18 rfl 0 rfl ?_
      refine g_lR1 F zX0_enter_inX0 zX0_enter_f33 dX0_enter_19 ?_
      refine g_iload_n F dX0_enter_22 rfl 1 rfl ?_
      refine g_iconst F (v := 1) dX0_enter_23 (by decide) ?_
      refine g_cA1 F rfl (by omega) dX0_enter_24 ?_
      refine g_aload_n F dX0_enter_25 rfl 0 rfl ?_
      refine g_iload_n F dX0_enter_26 rfl 1 rfl ?_
      refine g_callVs F (As := [.int (nI k)]) (st := []) (kX0_begin l D cI cZ cQ b (upd f k 1) k (by omega) (Z_upd hz (by omega))) 0 rfl rfl (cwV 1 F.2.2.2.2.1 gX0_enter_X0_begin rfl rfl rfl (by decide +kernel) ⟨Nat.le_of_ble_eq_true rfl, Nat.le_of_ble_eq_true rfl⟩) rfl rfl (Nat.le_of_ble_eq_true rfl) ⟨Nat.zero_le _, Nat.zero_le _⟩ dX0_enter_27 ?_
      refine g_iconst F (v := 1) dX0_enter_30 (by decide) ?_
      exact g_endI (hR _ _ dX0_enter_31) rfl (by rw [← enter_eq hI hk h0])
    · exact absurd h0 c2
theorem kX0_enterA (l : Launch) (D : va_G) (cI cZ cQ : ClassId) (b : Nat → Nat) (f : Row) (v : Int32) (n G : Nat) (hI : Inv n G f) : Ct l D (gTy cI cZ cQ) yX0_enter wsX0_enter ({ frames := 5, cells := 0, slots := 0, locals := 110 }) [.ref (b 0), .int v] (CR cI b f) (some (.int (bI (S_entB f v)))) (CR cI b (S_entF f v)) := by
  cases hm : S_mem v with
  | false => rw [(ent_b hm).1, (ent_b hm).2]; exact kX0_enterR_bad l D cI cZ cQ b f v hm
  | true =>
    obtain ⟨k, hk, e⟩ := mem_ex hm
    subst e
    by_cases h0 : f k = 0
    · rw [(ent_t hk h0).1, (ent_t hk h0).2]; exact kX0_enterR_ok l D cI cZ cQ b f k n G hk h0 hI
    · rw [(ent_l hk h0).1, (ent_l hk h0).2]; exact kX0_enterR_late l D cI cZ cQ b f k hk h0
set_option maxHeartbeats 1000000 in
set_option maxRecDepth 100000 in
theorem kX0_departR_bad (l : Launch) (D : va_G) (cI cZ cQ : ClassId) (b : Nat → Nat) (f : Row) (v : Int32) (hb : S_mem v = false) : Ct l D (gTy cI cZ cQ) yX0_depart wsX0_depart ({ frames := 5, cells := 0, slots := 0, locals := 110 }) [.ref (b 0), .int v] (CR cI b f) (some (.int 0)) (CR cI b f) := by
  refine ct_ofZ (cc := cX0_depart) (nL := 2) (own := RX0) (by decide) rfl rfl ⟨rfl, rfl⟩ (Nat.le_of_ble_eq_true rfl) CR_same (by first | rfl | exact bI_nar _) (fun p e s m below meth c A Q F hR => ?_)
  refine g_iload_n F dX0_depart_0 rfl 1 rfl ?_
  refine g_callSNn F (As := [.int v]) (st := []) (kX1_isMember l D cI cZ cQ v) ⟨va_cnB 1 F.2.2.2.2.1 gX0_depart_X1_isMember_n90 rfl rfl rfl F.2.2.2.2.2.1.2.1 (F.2.2.2.2.1 _ zX0_depart_iX1_isMember) (by decide +kernel) ⟨Nat.le_of_ble_eq_true rfl, Nat.le_of_ble_eq_true rfl⟩, F.2.2.2.2.1 _ zX0_depart_sX1_isMember, trivial⟩ rfl rfl (Nat.le_of_ble_eq_true rfl) ⟨Nat.zero_le _, Nat.zero_le _⟩ dX0_depart_1 ?_
  refine g_beq F 17 dX0_depart_4 (by decide) (fun c1 => ?_) (fun c1 => ?_)
  · refine g_iconst F (v := 0) dX0_depart_17 (by decide) ?_
    exact g_endI (hR _ _ dX0_depart_18) rfl rfl
  · exact absurd c1 (by rw [hb]; decide)
set_option maxHeartbeats 1000000 in
set_option maxRecDepth 100000 in
theorem kX0_departR_late (l : Launch) (D : va_G) (cI cZ cQ : ClassId) (b : Nat → Nat) (f : Row) (k : Nat) (hk : k < 6) (hne : ¬ f k = 1) : Ct l D (gTy cI cZ cQ) yX0_depart wsX0_depart ({ frames := 5, cells := 0, slots := 0, locals := 110 }) [.ref (b 0), .int (nI k)] (CR cI b f) (some (.int 0)) (CR cI b f) := by
  refine ct_ofZ (cc := cX0_depart) (nL := 2) (own := RX0) (by decide) rfl rfl ⟨rfl, rfl⟩ (Nat.le_of_ble_eq_true rfl) CR_same (by first | rfl | exact bI_nar _) (fun p e s m below meth c A Q F hR => ?_)
  refine g_iload_n F dX0_depart_0 rfl 1 rfl ?_
  refine g_callSNn F (As := [.int (nI k)]) (st := []) (kX1_isMember l D cI cZ cQ (nI k)) ⟨va_cnB 1 F.2.2.2.2.1 gX0_depart_X1_isMember_n90 rfl rfl rfl F.2.2.2.2.2.1.2.1 (F.2.2.2.2.1 _ zX0_depart_iX1_isMember) (by decide +kernel) ⟨Nat.le_of_ble_eq_true rfl, Nat.le_of_ble_eq_true rfl⟩, F.2.2.2.2.1 _ zX0_depart_sX1_isMember, trivial⟩ rfl rfl (Nat.le_of_ble_eq_true rfl) ⟨Nat.zero_le _, Nat.zero_le _⟩ dX0_depart_1 ?_
  refine g_beq F 17 dX0_depart_4 (by decide) (fun c1 => ?_) (fun c1 => ?_)
  · exact absurd c1 (by rw [mem_nI hk]; decide)
  · refine g_aload_n F dX0_depart_7 rfl 0 rfl ?_
    refine g_lR1 F zX0_depart_inX0 zX0_depart_f33 dX0_depart_8 ?_
    refine g_iload_n F dX0_depart_11 rfl 1 rfl ?_
    refine g_lA1 F rfl (by omega) dX0_depart_12 ?_
    refine g_iconst F (v := 1) dX0_depart_13 (by decide) ?_
    refine g_icmp_eq F 19 dX0_depart_14 (by decide) (fun c2 => ?_) (fun c2 => ?_)
    · exact absurd c2 hne
    · refine g_iconst F (v := 0) dX0_depart_17 (by decide) ?_
      exact g_endI (hR _ _ dX0_depart_18) rfl rfl
set_option maxHeartbeats 1000000 in
set_option maxRecDepth 100000 in
theorem kX0_departR_ok (l : Launch) (D : va_G) (cI cZ cQ : ClassId) (b : Nat → Nat) (f : Row) (k n G : Nat) (hk : k < 6) (h1 : f k = 1) (hI : Inv n G f) (hn0 : n ≤ 1048576) : Ct l D (gTy cI cZ cQ) yX0_depart wsX0_depart ({ frames := 5, cells := 0, slots := 0, locals := 110 }) [.ref (b 0), .int (nI k)] (CR cI b f) (some (.int 1)) (CR cI b (S_leaves f k)) := by
  refine ct_ofZ (cc := cX0_depart) (nL := 2) (own := RX0) (by decide) rfl rfl ⟨rfl, rfl⟩ (Nat.le_of_ble_eq_true rfl) CR_same (by first | rfl | exact bI_nar _) (fun p e s m below meth c A Q F hR => ?_)
  have hz := hI.z
  refine g_iload_n F dX0_depart_0 rfl 1 rfl ?_
  refine g_callSNn F (As := [.int (nI k)]) (st := []) (kX1_isMember l D cI cZ cQ (nI k)) ⟨va_cnB 1 F.2.2.2.2.1 gX0_depart_X1_isMember_n90 rfl rfl rfl F.2.2.2.2.2.1.2.1 (F.2.2.2.2.1 _ zX0_depart_iX1_isMember) (by decide +kernel) ⟨Nat.le_of_ble_eq_true rfl, Nat.le_of_ble_eq_true rfl⟩, F.2.2.2.2.1 _ zX0_depart_sX1_isMember, trivial⟩ rfl rfl (Nat.le_of_ble_eq_true rfl) ⟨Nat.zero_le _, Nat.zero_le _⟩ dX0_depart_1 ?_
  refine g_beq F 17 dX0_depart_4 (by decide) (fun c1 => ?_) (fun c1 => ?_)
  · exact absurd c1 (by rw [mem_nI hk]; decide)
  · refine g_aload_n F dX0_depart_7 rfl 0 rfl ?_
    refine g_lR1 F zX0_depart_inX0 zX0_depart_f33 dX0_depart_8 ?_
    refine g_iload_n F dX0_depart_11 rfl 1 rfl ?_
    refine g_lA1 F rfl (by omega) dX0_depart_12 ?_
    refine g_iconst F (v := 1) dX0_depart_13 (by decide) ?_
    refine g_icmp_eq F 19 dX0_depart_14 (by decide) (fun c2 => ?_) (fun c2 => ?_)
    · refine g_aload_n F dX0_depart_19 rfl 0 rfl ?_
      refine g_iload_n F dX0_depart_20 rfl 1 rfl ?_
      refine g_callVs F (As := [.int (nI k)]) (st := []) (kX0_countOf l D cI cZ cQ b f k (by omega) (by rw [h1]; decide) hI.kn) 0 rfl rfl (cwV 1 F.2.2.2.2.1 gX0_depart_X0_countOf rfl rfl rfl (by decide +kernel) ⟨Nat.le_of_ble_eq_true rfl, Nat.le_of_ble_eq_true rfl⟩) rfl rfl (Nat.le_of_ble_eq_true rfl) ⟨Nat.zero_le _, Nat.zero_le _⟩ dX0_depart_21 ?_
      refine g_iconst F (v := 3) dX0_depart_24 (by decide) ?_
      refine g_icmp_gt F 36 dX0_depart_25 (by decide) (fun c3 => ?_) (fun c3 => ?_)
      · refine g_aload_n F dX0_depart_36 rfl 0 rfl ?_
        refine g_lR1 F zX0_depart_inX0 zX0_depart_f33 dX0_depart_37 ?_
        refine g_iload_n F dX0_depart_40 rfl 1 rfl ?_
        refine g_iconst F (v := 2) dX0_depart_41 (by decide) ?_
        refine g_cA1 F rfl (by omega) dX0_depart_42 ?_
        refine g_aload_n F dX0_depart_43 rfl 0 rfl ?_
        refine g_lR5 F zX0_depart_inX0 zX0_depart_f46 dX0_depart_44 ?_
        refine g_iload_n F dX0_depart_47 rfl 1 rfl ?_
        refine g_iconst F (v := 1) dX0_depart_48 (by decide) ?_
        refine g_cA5 F rfl (by omega) dX0_depart_49 ?_
        refine g_aload_n F dX0_depart_50 rfl 0 rfl ?_
        refine g_iload_n F dX0_depart_51 rfl 1 rfl ?_
        refine g_callVs F (As := [.int (nI k)]) (st := []) (kX0_begin l D cI cZ cQ b (upd (upd f k 2) (60 + k) 1) k (by omega) (Z_upd (Z_upd hz (by omega)) (by omega))) 0 rfl rfl (cwV 1 F.2.2.2.2.1 gX0_depart_X0_begin rfl rfl rfl (by decide +kernel) ⟨Nat.le_of_ble_eq_true rfl, Nat.le_of_ble_eq_true rfl⟩) rfl rfl (Nat.le_of_ble_eq_true rfl) ⟨Nat.zero_le _, Nat.zero_le _⟩ dX0_depart_52 ?_
        refine g_iconst F (v := 1) dX0_depart_55 (by decide) ?_
        exact g_endI (hR _ _ dX0_depart_56) rfl (by unfold S_leaves; rw [if_pos c3, ← leave_eq])
      · refine g_aload_n F dX0_depart_28 rfl 0 rfl ?_
        refine g_iload_n F dX0_depart_29 rfl 1 rfl ?_
        refine g_callVs F (As := [.int (nI k)]) (st := []) (kX0_sendBye l D cI cZ cQ b f k n G (by omega) hI hn0) 0 rfl rfl (cwV 1 F.2.2.2.2.1 gX0_depart_X0_sendBye rfl rfl rfl (by decide +kernel) ⟨Nat.le_of_ble_eq_true rfl, Nat.le_of_ble_eq_true rfl⟩) rfl rfl (Nat.le_of_ble_eq_true rfl) ⟨Nat.zero_le _, Nat.zero_le _⟩ dX0_depart_30 ?_
        refine g_goto F 55 dX0_depart_33 (by decide) ?_
        refine g_iconst F (v := 1) dX0_depart_55 (by decide) ?_
        exact g_endI (hR _ _ dX0_depart_56) rfl (by unfold S_leaves; rw [if_neg c3])
    · exact absurd h1 c2
theorem kX0_departA (l : Launch) (D : va_G) (cI cZ cQ : ClassId) (b : Nat → Nat) (f : Row) (v : Int32) (n G : Nat) (hI : Inv n G f) (hn0 : n ≤ 1048576) : Ct l D (gTy cI cZ cQ) yX0_depart wsX0_depart ({ frames := 5, cells := 0, slots := 0, locals := 110 }) [.ref (b 0), .int v] (CR cI b f) (some (.int (bI (S_depB f v)))) (CR cI b (S_depF f v)) := by
  cases hm : S_mem v with
  | false => rw [(dep_b hm).1, (dep_b hm).2]; exact kX0_departR_bad l D cI cZ cQ b f v hm
  | true =>
    obtain ⟨k, hk, e⟩ := mem_ex hm
    subst e
    by_cases h0 : f k = 1
    · rw [(dep_t hk h0).1, (dep_t hk h0).2]; exact kX0_departR_ok l D cI cZ cQ b f k n G hk h0 hI hn0
    · rw [(dep_l hk h0).1, (dep_l hk h0).2]; exact kX0_departR_late l D cI cZ cQ b f k hk h0
set_option maxHeartbeats 1000000 in
set_option maxRecDepth 100000 in
theorem kX0_turnWayR_s (l : Launch) (D : va_G) (cI cZ cQ : ClassId) (b : Nat → Nat) (f : Row) (k o : Nat) (hk : k < 6) (ho : o < 6) (hko : nI k = nI o) : Ct l D (gTy cI cZ cQ) yX0_turnWay wsX0_turnWay ({ frames := 0, cells := 0, slots := 0, locals := 0 }) [.ref (b 0), .int (nI k), .int (nI o)] (CR cI b f) (some (.int 0)) (CR cI b f) := by
  refine ct_ofZ (cc := cX0_turnWay) (nL := 3) (own := RX0) (by decide) rfl rfl ⟨rfl, rfl⟩ (Nat.le_of_ble_eq_true rfl) CR_same (by first | rfl | exact bI_nar _) (fun p e s m below meth c A Q F hR => ?_)
  refine g_iload_n F dX0_turnWay_0 rfl 1 rfl ?_
  refine g_iload_n F dX0_turnWay_1 rfl 2 rfl ?_
  refine g_icmp_ne F 7 dX0_turnWay_2 (by decide) (fun c1 => ?_) (fun c1 => ?_)
  · exact absurd hko c1
  · refine g_iconst F (v := 0) dX0_turnWay_5 (by decide) ?_
    exact g_endI (hR _ _ dX0_turnWay_6) rfl rfl
set_option maxHeartbeats 1000000 in
set_option maxRecDepth 100000 in
theorem kX0_turnWayR_o (l : Launch) (D : va_G) (cI cZ cQ : ClassId) (b : Nat → Nat) (f : Row) (k o : Nat) (hk : k < 6) (ho : o < 6) (hko : ¬ nI k = nI o) : Ct l D (gTy cI cZ cQ) yX0_turnWay wsX0_turnWay ({ frames := 0, cells := 0, slots := 0, locals := 0 }) [.ref (b 0), .int (nI k), .int (nI o)] (CR cI b f) (some (.int 1)) (CR cI b (S_turn f k o)) := by
  refine ct_ofZ (cc := cX0_turnWay) (nL := 3) (own := RX0) (by decide) rfl rfl ⟨rfl, rfl⟩ (Nat.le_of_ble_eq_true rfl) CR_same (by first | rfl | exact bI_nar _) (fun p e s m below meth c A Q F hR => ?_)
  refine g_iload_n F dX0_turnWay_0 rfl 1 rfl ?_
  refine g_iload_n F dX0_turnWay_1 rfl 2 rfl ?_
  refine g_icmp_ne F 7 dX0_turnWay_2 (by decide) (fun c1 => ?_) (fun c1 => ?_)
  · refine g_aload_n F dX0_turnWay_7 rfl 0 rfl ?_
    refine g_lR6 F zX0_turnWay_inX0 zX0_turnWay_f49 dX0_turnWay_8 ?_
    refine g_iload_n F dX0_turnWay_11 rfl 1 rfl ?_
    refine g_dup2 F dX0_turnWay_12 rfl rfl ?_
    refine g_lA6 F rfl (by omega) dX0_turnWay_13 ?_
    refine g_iconst F (v := 1) dX0_turnWay_14 (by decide) ?_
    refine g_iload_n F dX0_turnWay_15 rfl 2 rfl ?_
    refine g_ishl F dX0_turnWay_16 ?_
    refine g_ixor F dX0_turnWay_17 ?_
    refine g_cA6 F rfl (by omega) dX0_turnWay_18 ?_
    refine g_iconst F (v := 1) dX0_turnWay_19 (by decide) ?_
    exact g_endI (hR _ _ dX0_turnWay_20) rfl rfl
  · exact absurd c1 hko
theorem kX0_turnWayA (l : Launch) (D : va_G) (cI cZ cQ : ClassId) (b : Nat → Nat) (f : Row) (k o : Nat) (hk : k < 6) (ho : o < 6) : Ct l D (gTy cI cZ cQ) yX0_turnWay wsX0_turnWay ({ frames := 0, cells := 0, slots := 0, locals := 0 }) [.ref (b 0), .int (nI k), .int (nI o)] (CR cI b f) (some (.int (bI (S_turnB k o)))) (CR cI b (S_turnF f k o)) := by
  unfold S_turnB S_turnF
  by_cases h : nI k = nI o
  · rw [if_pos h, if_pos h]; exact kX0_turnWayR_s l D cI cZ cQ b f k o hk ho h
  · rw [if_neg h, if_neg h]; exact kX0_turnWayR_o l D cI cZ cQ b f k o hk ho h
theorem zX1_canBe_f16 : Cond.fieldLink RX1 16 (TX1 1).1 (TX1 1).2.1 (TX1 1).2.2.1 ∈ wsX1_canBe := by decide +kernel
theorem zX1_canBe_f96 : Cond.fieldLink RX1 96 (TX0 7).1 (TX0 7).2.1 (TX0 7).2.2.1 ∈ wsX1_canBe := by decide +kernel
theorem zX1_canBe_inX0 : ∀ w ∈ u_ws RX0 TX0 14, w ∈ wsX1_canBe := by decide +kernel
theorem zX1_canBe_inX1 : ∀ w ∈ u_ws RX1 TX1 13, w ∈ wsX1_canBe := by decide +kernel
set_option maxHeartbeats 1000000 in
set_option maxRecDepth 100000 in
theorem kX1_canBe (l : Launch) (D : va_G) (cI cZ cQ : ClassId) (x bn bt : Nat → Nat) (pa sl : Nat → Option Nat) (ac : Nat) (kb : Int32) (tx : Row) (ln : Nat) (s1 s2 : Row) (se : Nat) (sd : Int64) (sb f g : Row) (Z : va_W) (d : Nat) (hd : d < 1000) (n G : Nat) (hIg : Inv n G g) (hn0 : n ≤ 1044000) (hG1 : 1 ≤ G) (hG0 : G ≤ 1010000) : Ct l D (gTy cI cZ cQ) yX1_canBe wsX1_canBe ({ frames := 6, cells := 0, slots := 0, locals := 134 }) [.ref (x 0), .int (nI d)] (XW cI cQ x bn bt pa sl ac kb tx ln s1 s2 se sd sb f g Z) (some (.int (bI ((S_jd g (d / 100) (d / 10 % 10) (d % 10)).1)))) (XW cI cQ x bn bt pa sl ac kb tx ln s1 s2 se sd sb f ((S_jd g (d / 100) (d / 10 % 10) (d % 10)).2) Z) := by
  refine ct_ofZ (cc := cX1_canBe) (nL := 5) (own := RX1) (by decide) rfl rfl ⟨rfl, rfl⟩ (Nat.le_of_ble_eq_true rfl) XW_same (by first | rfl | exact bI_nar _) (fun p e s m below meth c A Q F hR => ?_)
  refine g_aw ([(x 0, .inr (1, [.ref (bn 0), .ref (bt 0), .ref (x 1), .int (nI ac), .ref (x 2), .int kb, .ref (x 3), .int (nI ln), .ref (x 4), .ref (x 5), .int (nI se), .long sd, .ref (x 6)])), (x 1, .inl (cQ, 14, .inr (.inr (.inr (.inr pa))))), (x 2, .inl (cQ, 2, .inr (.inr (.inr (.inr sl))))), (x 3, .inl (cI, 60, .inl tx)), (x 4, .inl (cI, 6, .inl s1)), (x 5, .inl (cI, 6, .inl s2)), (x 6, .inl (cI, 64, .inl sb))] ++ (CR cI bn f ++ (CR cI bt g ++ (Z)))) rfl ?_
  refine g_iload_n F dX1_canBe_0 rfl 1 rfl ?_
  refine g_bipush F (v := 10) dX1_canBe_1 (by decide) ?_
  refine g_idiv F dX1_canBe_3 (by decide) ?_
  refine g_as (nI (d / 10)) (pk_div (by omega) (by decide) (by decide)) ?_
  refine g_bipush F (v := 10) dX1_canBe_4 (by decide) ?_
  refine g_irem F dX1_canBe_6 (by decide) ?_
  refine g_as (nI (d / 10 % 10)) (pk_rem (by omega) (by decide) (by decide)) ?_
  refine g_istore_n F (lv' := [(0, .ref (x 0)), (1, .int (nI d)), (2, .int (nI (d / 10 % 10)))]) dX1_canBe_7 rfl (by decide) [1, 2, 0] rfl ?_
  refine g_iload_n F dX1_canBe_8 rfl 1 rfl ?_
  refine g_bipush F (v := 10) dX1_canBe_9 (by decide) ?_
  refine g_irem F dX1_canBe_11 (by decide) ?_
  refine g_as (nI (d % 10)) (pk_rem (by omega) (by decide) (by decide)) ?_
  refine g_istore_n F (lv' := [(0, .ref (x 0)), (1, .int (nI d)), (2, .int (nI (d / 10 % 10))), (3, .int (nI (d % 10)))]) dX1_canBe_12 rfl (by decide) [1, 2, 3, 0] rfl ?_
  refine g_iload_n F dX1_canBe_13 rfl 1 rfl ?_
  refine g_bipush F (v := 100) dX1_canBe_14 (by decide) ?_
  refine g_irem F dX1_canBe_16 (by decide) ?_
  refine g_as (nI (d % 100)) (pk_rem (by omega) (by decide) (by decide)) ?_
  refine g_istore F (lv' := [(0, .ref (x 0)), (1, .int (nI d)), (2, .int (nI (d / 10 % 10))), (3, .int (nI (d % 10))), (4, .int (nI (d % 100)))]) dX1_canBe_17 (by decide) [1, 2, 3, 4, 0] rfl ?_
  refine g_iload_n F dX1_canBe_19 rfl 1 rfl ?_
  refine g_bipush F (v := 100) dX1_canBe_20 (by decide) ?_
  refine g_idiv F dX1_canBe_22 (by decide) ?_
  refine g_as (nI (d / 100)) (pk_div (by omega) (by decide) (by decide)) ?_
  rcases tb_cases (nI (d / 100)) 1 7 (by decide) with c1 | ⟨n_c1, hn_c1, c1⟩
  · refine g_tableOut F 252 dX1_canBe_23 (by omega) (by decide) ?_
    refine g_iconst F (v := 0) dX1_canBe_252 (by decide) ?_
    exact g_endI (hR _ _ dX1_canBe_253) (by rw [show S_jd g (d / 100) (d / 10 % 10) (d % 10) = (false, g) from jd_o (by omega) c1]; rfl) (by rw [show S_jd g (d / 100) (d / 10 % 10) (d % 10) = (false, g) from jd_o (by omega) c1]; rfl)
  · match n_c1, hn_c1, c1 with
    | 0, _, c1 =>
      have hh_c1 : d / 100 = 1 := jd_h (by omega) c1
      refine g_tableIn F 64 dX1_canBe_23 (by rw [c1]; decide) (by rw [c1]; decide) (by rw [c1]; rfl) (by decide) ?_
      refine g_iload_n F dX1_canBe_64 rfl 2 rfl ?_
      refine g_if_ne F 83 dX1_canBe_65 (by decide) (fun c2 => ?_) (fun c2 => ?_)
      · refine g_iconst F (v := 0) dX1_canBe_83 (by decide) ?_
        exact g_endI (hR _ _ dX1_canBe_84) (by rw [hh_c1, jd_1 (by omega), if_neg c2]; rfl) (by rw [hh_c1, jd_1 (by omega), if_neg c2]; rfl)
      · refine g_aload_n F dX1_canBe_68 rfl 0 rfl ?_
        refine g_get F (.ref (bt 0)) zX1_canBe_inX1 0 rfl rfl 1 (by decide) rfl zX1_canBe_f16 dX1_canBe_69 ?_
        refine g_iload_n F dX1_canBe_72 rfl 3 rfl ?_
        refine g_segV F (As := [.int (nI (d % 10))]) (st := []) ([(x 0, .inr (1, [.ref (bn 0), .ref (bt 0), .ref (x 1), .int (nI ac), .ref (x 2), .int kb, .ref (x 3), .int (nI ln), .ref (x 4), .ref (x 5), .int (nI se), .long sd, .ref (x 6)])), (x 1, .inl (cQ, 14, .inr (.inr (.inr (.inr pa))))), (x 2, .inl (cQ, 2, .inr (.inr (.inr (.inr sl))))), (x 3, .inl (cI, 60, .inl tx)), (x 4, .inl (cI, 6, .inl s1)), (x 5, .inl (cI, 6, .inl s2)), (x 6, .inl (cI, 64, .inl sb))] ++ (CR cI bn f)) (Z) ([(x 0, .inr (1, [.ref (bn 0), .ref (bt 0), .ref (x 1), .int (nI ac), .ref (x 2), .int kb, .ref (x 3), .int (nI ln), .ref (x 4), .ref (x 5), .int (nI se), .long sd, .ref (x 6)])), (x 1, .inl (cQ, 14, .inr (.inr (.inr (.inr pa))))), (x 2, .inl (cQ, 2, .inr (.inr (.inr (.inr sl))))), (x 3, .inl (cI, 60, .inl tx)), (x 4, .inl (cI, 6, .inl s1)), (x 5, .inl (cI, 6, .inl s2)), (x 6, .inl (cI, 64, .inl sb))] ++ (CR cI bn f ++ (CR cI bt (S_entF g (nI (d % 10))) ++ (Z)))) (kX0_enterA l D cI cZ cQ bt g (nI (d % 10)) n G hIg) 0 rfl rfl (cwV 1 F.2.2.2.2.1 gX1_canBe_X0_enter rfl rfl rfl (by decide +kernel) ⟨Nat.le_of_ble_eq_true rfl, Nat.le_of_ble_eq_true rfl⟩) rfl rfl rfl rfl (Nat.le_of_ble_eq_true rfl) ⟨Nat.zero_le _, Nat.zero_le _⟩ dX1_canBe_73 ?_
        refine g_beq F 83 dX1_canBe_76 (by decide) (fun c3 => ?_) (fun c3 => ?_)
        · refine g_iconst F (v := 0) dX1_canBe_83 (by decide) ?_
          exact g_endI (hR _ _ dX1_canBe_84) (by rw [hh_c1, jd_1 (by omega), if_pos c2]; show _ = bI _; rw [c3]; rfl) (by rw [hh_c1, jd_1 (by omega), if_pos c2]; rfl)
        · refine g_iconst F (v := 1) dX1_canBe_79 (by decide) ?_
          refine g_goto F 84 dX1_canBe_80 (by decide) ?_
          exact g_endI (hR _ _ dX1_canBe_84) (by rw [hh_c1, jd_1 (by omega), if_pos c2]; show _ = bI _; rw [c3]; rfl) (by rw [hh_c1, jd_1 (by omega), if_pos c2]; rfl)
    | 1, _, c1 =>
      have hh_c1 : d / 100 = 2 := jd_h (by omega) c1
      refine g_tableIn F 85 dX1_canBe_23 (by rw [c1]; decide) (by rw [c1]; decide) (by rw [c1]; rfl) (by decide) ?_
      refine g_iload_n F dX1_canBe_85 rfl 2 rfl ?_
      refine g_if_ne F 104 dX1_canBe_86 (by decide) (fun c4 => ?_) (fun c4 => ?_)
      · refine g_iconst F (v := 0) dX1_canBe_104 (by decide) ?_
        exact g_endI (hR _ _ dX1_canBe_105) (by rw [hh_c1, jd_2 (by omega), if_neg c4]; rfl) (by rw [hh_c1, jd_2 (by omega), if_neg c4]; rfl)
      · refine g_aload_n F dX1_canBe_89 rfl 0 rfl ?_
        refine g_get F (.ref (bt 0)) zX1_canBe_inX1 0 rfl rfl 1 (by decide) rfl zX1_canBe_f16 dX1_canBe_90 ?_
        refine g_iload_n F dX1_canBe_93 rfl 3 rfl ?_
        refine g_segV F (As := [.int (nI (d % 10))]) (st := []) ([(x 0, .inr (1, [.ref (bn 0), .ref (bt 0), .ref (x 1), .int (nI ac), .ref (x 2), .int kb, .ref (x 3), .int (nI ln), .ref (x 4), .ref (x 5), .int (nI se), .long sd, .ref (x 6)])), (x 1, .inl (cQ, 14, .inr (.inr (.inr (.inr pa))))), (x 2, .inl (cQ, 2, .inr (.inr (.inr (.inr sl))))), (x 3, .inl (cI, 60, .inl tx)), (x 4, .inl (cI, 6, .inl s1)), (x 5, .inl (cI, 6, .inl s2)), (x 6, .inl (cI, 64, .inl sb))] ++ (CR cI bn f)) (Z) ([(x 0, .inr (1, [.ref (bn 0), .ref (bt 0), .ref (x 1), .int (nI ac), .ref (x 2), .int kb, .ref (x 3), .int (nI ln), .ref (x 4), .ref (x 5), .int (nI se), .long sd, .ref (x 6)])), (x 1, .inl (cQ, 14, .inr (.inr (.inr (.inr pa))))), (x 2, .inl (cQ, 2, .inr (.inr (.inr (.inr sl))))), (x 3, .inl (cI, 60, .inl tx)), (x 4, .inl (cI, 6, .inl s1)), (x 5, .inl (cI, 6, .inl s2)), (x 6, .inl (cI, 64, .inl sb))] ++ (CR cI bn f ++ (CR cI bt (S_depF g (nI (d % 10))) ++ (Z)))) (kX0_departA l D cI cZ cQ bt g (nI (d % 10)) n G hIg (by omega)) 0 rfl rfl (cwV 1 F.2.2.2.2.1 gX1_canBe_X0_depart rfl rfl rfl (by decide +kernel) ⟨Nat.le_of_ble_eq_true rfl, Nat.le_of_ble_eq_true rfl⟩) rfl rfl rfl rfl (Nat.le_of_ble_eq_true rfl) ⟨Nat.zero_le _, Nat.zero_le _⟩ dX1_canBe_94 ?_
        refine g_beq F 104 dX1_canBe_97 (by decide) (fun c5 => ?_) (fun c5 => ?_)
        · refine g_iconst F (v := 0) dX1_canBe_104 (by decide) ?_
          exact g_endI (hR _ _ dX1_canBe_105) (by rw [hh_c1, jd_2 (by omega), if_pos c4]; show _ = bI _; rw [c5]; rfl) (by rw [hh_c1, jd_2 (by omega), if_pos c4]; rfl)
        · refine g_iconst F (v := 1) dX1_canBe_100 (by decide) ?_
          refine g_goto F 105 dX1_canBe_101 (by decide) ?_
          exact g_endI (hR _ _ dX1_canBe_105) (by rw [hh_c1, jd_2 (by omega), if_pos c4]; show _ = bI _; rw [c5]; rfl) (by rw [hh_c1, jd_2 (by omega), if_pos c4]; rfl)
    | 2, _, c1 =>
      have hh_c1 : d / 100 = 3 := jd_h (by omega) c1
      refine g_tableIn F 106 dX1_canBe_23 (by rw [c1]; decide) (by rw [c1]; decide) (by rw [c1]; rfl) (by decide) ?_
      refine g_iload F dX1_canBe_106 4 rfl ?_
      refine g_iconst F (v := 1) dX1_canBe_108 (by decide) ?_
      refine g_icmp_lt F 135 dX1_canBe_109 (by decide) (fun c6 => ?_) (fun c6 => ?_)
      · refine g_iconst F (v := 0) dX1_canBe_135 (by decide) ?_
        exact g_endI (hR _ _ dX1_canBe_136) (by rw [hh_c1, jd_3 (t := d % 100) (by omega) (by omega), if_pos c6]; rfl) (by rw [hh_c1, jd_3 (t := d % 100) (by omega) (by omega), if_pos c6]; rfl)
      · refine g_iload F dX1_canBe_112 4 rfl ?_
        refine g_bipush F (v := 30) dX1_canBe_114 (by decide) ?_
        refine g_icmp_gt F 135 dX1_canBe_116 (by decide) (fun c7 => ?_) (fun c7 => ?_)
        · refine g_iconst F (v := 0) dX1_canBe_135 (by decide) ?_
          exact g_endI (hR _ _ dX1_canBe_136) (by rw [hh_c1, jd_3 (t := d % 100) (by omega) (by omega), if_neg c6, if_pos c7]; rfl) (by rw [hh_c1, jd_3 (t := d % 100) (by omega) (by omega), if_neg c6, if_pos c7]; rfl)
        · have ht30 : d % 100 ≤ 30 := Nat.le_of_not_lt fun q => c7 (nI_lt (a := 30) q (by omega))
          refine g_aload_n F dX1_canBe_119 rfl 0 rfl ?_
          refine g_get F (.ref (bt 0)) zX1_canBe_inX1 0 rfl rfl 1 (by decide) rfl zX1_canBe_f16 dX1_canBe_120 ?_
          refine g_iload F dX1_canBe_123 4 rfl ?_
          refine g_segV F (As := [.int (nI (d % 100))]) (st := []) ([(x 0, .inr (1, [.ref (bn 0), .ref (bt 0), .ref (x 1), .int (nI ac), .ref (x 2), .int kb, .ref (x 3), .int (nI ln), .ref (x 4), .ref (x 5), .int (nI se), .long sd, .ref (x 6)])), (x 1, .inl (cQ, 14, .inr (.inr (.inr (.inr pa))))), (x 2, .inl (cQ, 2, .inr (.inr (.inr (.inr sl))))), (x 3, .inl (cI, 60, .inl tx)), (x 4, .inl (cI, 6, .inl s1)), (x 5, .inl (cI, 6, .inl s2)), (x 6, .inl (cI, 64, .inl sb))] ++ (CR cI bn f)) (Z) ([(x 0, .inr (1, [.ref (bn 0), .ref (bt 0), .ref (x 1), .int (nI ac), .ref (x 2), .int kb, .ref (x 3), .int (nI ln), .ref (x 4), .ref (x 5), .int (nI se), .long sd, .ref (x 6)])), (x 1, .inl (cQ, 14, .inr (.inr (.inr (.inr pa))))), (x 2, .inl (cQ, 2, .inr (.inr (.inr (.inr sl))))), (x 3, .inl (cI, 60, .inl tx)), (x 4, .inl (cI, 6, .inl s1)), (x 5, .inl (cI, 6, .inl s2)), (x 6, .inl (cI, 64, .inl sb))] ++ (CR cI bn f ++ (CR cI bt (S_ticks g (d % 100)) ++ (Z)))) (kX0_run l D cI cZ cQ bt g (d % 100) n G (by omega) hIg (by omega) (by omega)) 0 rfl rfl (cwV 1 F.2.2.2.2.1 gX1_canBe_X0_run rfl rfl rfl (by decide +kernel) ⟨Nat.le_of_ble_eq_true rfl, Nat.le_of_ble_eq_true rfl⟩) rfl rfl rfl rfl (Nat.le_of_ble_eq_true rfl) ⟨Nat.zero_le _, Nat.zero_le _⟩ dX1_canBe_125 ?_
          refine g_if_lt F 135 dX1_canBe_128 (by decide) (fun c8 => ?_) (fun c8 => ?_)
          · refine g_iconst F (v := 0) dX1_canBe_135 (by decide) ?_
            exact g_endI (hR _ _ dX1_canBe_136) (by rw [hh_c1, jd_3 (t := d % 100) (by omega) (by omega), if_neg c6, if_neg c7, if_pos c8]; rfl) (by rw [hh_c1, jd_3 (t := d % 100) (by omega) (by omega), if_neg c6, if_neg c7, if_pos c8]; rfl)
          · refine g_iconst F (v := 1) dX1_canBe_131 (by decide) ?_
            refine g_goto F 136 dX1_canBe_132 (by decide) ?_
            exact g_endI (hR _ _ dX1_canBe_136) (by rw [hh_c1, jd_3 (t := d % 100) (by omega) (by omega), if_neg c6, if_neg c7, if_neg c8]; rfl) (by rw [hh_c1, jd_3 (t := d % 100) (by omega) (by omega), if_neg c6, if_neg c7, if_neg c8]; rfl)
    | 3, _, c1 =>
      have hh_c1 : d / 100 = 4 := jd_h (by omega) c1
      refine g_tableIn F 137 dX1_canBe_23 (by rw [c1]; decide) (by rw [c1]; decide) (by rw [c1]; rfl) (by decide) ?_
      refine g_iload_n F dX1_canBe_137 rfl 2 rfl ?_
      refine g_callSn F (As := [.int (nI (d / 10 % 10))]) (st := []) (kX1_isMember l D cI cZ cQ (nI (d / 10 % 10))) (va_cwS 1 F.2.2.2.2.1 gX1_canBe_X1_isMember rfl rfl rfl (by decide +kernel) ⟨Nat.le_of_ble_eq_true rfl, Nat.le_of_ble_eq_true rfl⟩) rfl rfl (Nat.le_of_ble_eq_true rfl) ⟨Nat.zero_le _, Nat.zero_le _⟩ dX1_canBe_138 ?_
      refine g_beq F 161 dX1_canBe_141 (by decide) (fun c9 => ?_) (fun c9 => ?_)
      · refine g_iconst F (v := 0) dX1_canBe_161 (by decide) ?_
        exact g_endI (hR _ _ dX1_canBe_162) (by rw [hh_c1, jd_4, if_neg (by rw [c9]; decide)]; rfl) (by rw [hh_c1, jd_4, if_neg (by rw [c9]; decide)]; rfl)
      · have hx6_141 := mem_lt (by omega) c9
        refine g_aload_n F dX1_canBe_144 rfl 0 rfl ?_
        refine g_get F (.ref (bt 0)) zX1_canBe_inX1 0 rfl rfl 1 (by decide) rfl zX1_canBe_f16 dX1_canBe_145 ?_
        refine g_get F (.ref (bt 1)) zX1_canBe_inX0 15 rfl rfl 7 (by decide) rfl zX1_canBe_f96 dX1_canBe_148 ?_
        refine g_iload_n F dX1_canBe_151 rfl 2 rfl ?_
        refine g_iald F (j := d / 10 % 10) 16 0 rfl rfl (by omega) (by decide) dX1_canBe_152 ?_
        refine g_as (g ((d / 10 % 10))) rfl ?_
        refine g_iload_n F dX1_canBe_153 rfl 3 rfl ?_
        refine g_icmp_ne F 161 dX1_canBe_154 (by decide) (fun c10 => ?_) (fun c10 => ?_)
        · refine g_iconst F (v := 0) dX1_canBe_161 (by decide) ?_
          exact g_endI (hR _ _ dX1_canBe_162) (by rw [hh_c1, jd_4, if_pos c9, if_neg c10]; rfl) (by rw [hh_c1, jd_4, if_pos c9, if_neg c10]; rfl)
        · refine g_iconst F (v := 1) dX1_canBe_157 (by decide) ?_
          refine g_goto F 162 dX1_canBe_158 (by decide) ?_
          exact g_endI (hR _ _ dX1_canBe_162) (by rw [hh_c1, jd_4, if_pos c9, if_pos c10]; rfl) (by rw [hh_c1, jd_4, if_pos c9, if_pos c10]; rfl)
    | 4, _, c1 =>
      have hh_c1 : d / 100 = 5 := jd_h (by omega) c1
      refine g_tableIn F 163 dX1_canBe_23 (by rw [c1]; decide) (by rw [c1]; decide) (by rw [c1]; rfl) (by decide) ?_
      refine g_iload_n F dX1_canBe_163 rfl 2 rfl ?_
      refine g_callSn F (As := [.int (nI (d / 10 % 10))]) (st := []) (kX1_isMember l D cI cZ cQ (nI (d / 10 % 10))) (va_cwS 1 F.2.2.2.2.1 gX1_canBe_X1_isMember rfl rfl rfl (by decide +kernel) ⟨Nat.le_of_ble_eq_true rfl, Nat.le_of_ble_eq_true rfl⟩) rfl rfl (Nat.le_of_ble_eq_true rfl) ⟨Nat.zero_le _, Nat.zero_le _⟩ dX1_canBe_164 ?_
      refine g_beq F 193 dX1_canBe_167 (by decide) (fun c11 => ?_) (fun c11 => ?_)
      · refine g_iconst F (v := 0) dX1_canBe_193 (by decide) ?_
        exact g_endI (hR _ _ dX1_canBe_194) (by rw [hh_c1, jd_5 hIg.ow (by omega) (by omega), if_neg (by rw [c11]; decide)]; rfl) (by rw [hh_c1, jd_5 hIg.ow (by omega) (by omega), if_neg (by rw [c11]; decide)]; rfl)
      · have hx6_167 := mem_lt (by omega) c11
        refine g_iload_n F dX1_canBe_170 rfl 3 rfl ?_
        refine g_callSn F (As := [.int (nI (d % 10))]) (st := []) (kX1_isMember l D cI cZ cQ (nI (d % 10))) (va_cwS 1 F.2.2.2.2.1 gX1_canBe_X1_isMember rfl rfl rfl (by decide +kernel) ⟨Nat.le_of_ble_eq_true rfl, Nat.le_of_ble_eq_true rfl⟩) rfl rfl (Nat.le_of_ble_eq_true rfl) ⟨Nat.zero_le _, Nat.zero_le _⟩ dX1_canBe_171 ?_
        refine g_beq F 193 dX1_canBe_174 (by decide) (fun c12 => ?_) (fun c12 => ?_)
        · refine g_iconst F (v := 0) dX1_canBe_193 (by decide) ?_
          exact g_endI (hR _ _ dX1_canBe_194) (by rw [hh_c1, jd_5 hIg.ow (by omega) (by omega), if_pos c11, if_neg (by rw [c12]; decide)]; rfl) (by rw [hh_c1, jd_5 hIg.ow (by omega) (by omega), if_pos c11, if_neg (by rw [c12]; decide)]; rfl)
        · have hx6_174 := mem_lt (by omega) c12
          refine g_aload_n F dX1_canBe_177 rfl 0 rfl ?_
          refine g_get F (.ref (bt 0)) zX1_canBe_inX1 0 rfl rfl 1 (by decide) rfl zX1_canBe_f16 dX1_canBe_178 ?_
          refine g_iload_n F dX1_canBe_181 rfl 2 rfl ?_
          refine g_iload_n F dX1_canBe_182 rfl 3 rfl ?_
          refine g_segV F (As := [.int (nI (d / 10 % 10)), .int (nI (d % 10))]) (st := []) ([(x 0, .inr (1, [.ref (bn 0), .ref (bt 0), .ref (x 1), .int (nI ac), .ref (x 2), .int kb, .ref (x 3), .int (nI ln), .ref (x 4), .ref (x 5), .int (nI se), .long sd, .ref (x 6)])), (x 1, .inl (cQ, 14, .inr (.inr (.inr (.inr pa))))), (x 2, .inl (cQ, 2, .inr (.inr (.inr (.inr sl))))), (x 3, .inl (cI, 60, .inl tx)), (x 4, .inl (cI, 6, .inl s1)), (x 5, .inl (cI, 6, .inl s2)), (x 6, .inl (cI, 64, .inl sb))] ++ (CR cI bn f)) (Z) ([(x 0, .inr (1, [.ref (bn 0), .ref (bt 0), .ref (x 1), .int (nI ac), .ref (x 2), .int kb, .ref (x 3), .int (nI ln), .ref (x 4), .ref (x 5), .int (nI se), .long sd, .ref (x 6)])), (x 1, .inl (cQ, 14, .inr (.inr (.inr (.inr pa))))), (x 2, .inl (cQ, 2, .inr (.inr (.inr (.inr sl))))), (x 3, .inl (cI, 60, .inl tx)), (x 4, .inl (cI, 6, .inl s1)), (x 5, .inl (cI, 6, .inl s2)), (x 6, .inl (cI, 64, .inl sb))] ++ (CR cI bn f ++ (CR cI bt g ++ (Z)))) (kX0_knows l D cI cZ cQ bt g (d / 10 % 10) (d % 10) (by omega) (by omega)) 0 rfl rfl (cwV 2 F.2.2.2.2.1 gX1_canBe_X0_knows rfl rfl rfl (by decide +kernel) ⟨Nat.le_of_ble_eq_true rfl, Nat.le_of_ble_eq_true rfl⟩) rfl rfl rfl rfl (Nat.le_of_ble_eq_true rfl) ⟨Nat.zero_le _, Nat.zero_le _⟩ dX1_canBe_183 ?_
          refine g_beq F 193 dX1_canBe_186 (by decide) (fun c13 => ?_) (fun c13 => ?_)
          · refine g_iconst F (v := 0) dX1_canBe_193 (by decide) ?_
            exact g_endI (hR _ _ dX1_canBe_194) (by rw [hh_c1, jd_5 hIg.ow (by omega) (by omega), if_pos c11, if_pos c12]; show _ = bI _; rw [c13]; rfl) (by rw [hh_c1, jd_5 hIg.ow (by omega) (by omega), if_pos c11, if_pos c12]; rfl)
          · refine g_iconst F (v := 1) dX1_canBe_189 (by decide) ?_
            refine g_goto F 194 dX1_canBe_190 (by decide) ?_
            exact g_endI (hR _ _ dX1_canBe_194) (by rw [hh_c1, jd_5 hIg.ow (by omega) (by omega), if_pos c11, if_pos c12]; show _ = bI _; rw [c13]; rfl) (by rw [hh_c1, jd_5 hIg.ow (by omega) (by omega), if_pos c11, if_pos c12]; rfl)
    | 5, _, c1 =>
      have hh_c1 : d / 100 = 6 := jd_h (by omega) c1
      refine g_tableIn F 195 dX1_canBe_23 (by rw [c1]; decide) (by rw [c1]; decide) (by rw [c1]; rfl) (by decide) ?_
      refine g_iload_n F dX1_canBe_195 rfl 2 rfl ?_
      refine g_callSn F (As := [.int (nI (d / 10 % 10))]) (st := []) (kX1_isMember l D cI cZ cQ (nI (d / 10 % 10))) (va_cwS 1 F.2.2.2.2.1 gX1_canBe_X1_isMember rfl rfl rfl (by decide +kernel) ⟨Nat.le_of_ble_eq_true rfl, Nat.le_of_ble_eq_true rfl⟩) rfl rfl (Nat.le_of_ble_eq_true rfl) ⟨Nat.zero_le _, Nat.zero_le _⟩ dX1_canBe_196 ?_
      refine g_beq F 218 dX1_canBe_199 (by decide) (fun c14 => ?_) (fun c14 => ?_)
      · refine g_iconst F (v := 0) dX1_canBe_218 (by decide) ?_
        exact g_endI (hR _ _ dX1_canBe_219) (by rw [hh_c1, jd_6, if_neg (by rw [c14]; decide)]; rfl) (by rw [hh_c1, jd_6, if_neg (by rw [c14]; decide)]; rfl)
      · have hx6_199 := mem_lt (by omega) c14
        refine g_aload_n F dX1_canBe_202 rfl 0 rfl ?_
        refine g_get F (.ref (bt 0)) zX1_canBe_inX1 0 rfl rfl 1 (by decide) rfl zX1_canBe_f16 dX1_canBe_203 ?_
        refine g_iload_n F dX1_canBe_206 rfl 2 rfl ?_
        refine g_segV F (As := [.int (nI (d / 10 % 10))]) (st := []) ([(x 0, .inr (1, [.ref (bn 0), .ref (bt 0), .ref (x 1), .int (nI ac), .ref (x 2), .int kb, .ref (x 3), .int (nI ln), .ref (x 4), .ref (x 5), .int (nI se), .long sd, .ref (x 6)])), (x 1, .inl (cQ, 14, .inr (.inr (.inr (.inr pa))))), (x 2, .inl (cQ, 2, .inr (.inr (.inr (.inr sl))))), (x 3, .inl (cI, 60, .inl tx)), (x 4, .inl (cI, 6, .inl s1)), (x 5, .inl (cI, 6, .inl s2)), (x 6, .inl (cI, 64, .inl sb))] ++ (CR cI bn f)) (Z) ([(x 0, .inr (1, [.ref (bn 0), .ref (bt 0), .ref (x 1), .int (nI ac), .ref (x 2), .int kb, .ref (x 3), .int (nI ln), .ref (x 4), .ref (x 5), .int (nI se), .long sd, .ref (x 6)])), (x 1, .inl (cQ, 14, .inr (.inr (.inr (.inr pa))))), (x 2, .inl (cQ, 2, .inr (.inr (.inr (.inr sl))))), (x 3, .inl (cI, 60, .inl tx)), (x 4, .inl (cI, 6, .inl s1)), (x 5, .inl (cI, 6, .inl s2)), (x 6, .inl (cI, 64, .inl sb))] ++ (CR cI bn f ++ (CR cI bt g ++ (Z)))) (kX0_countTold l D cI cZ cQ bt g (d / 10 % 10) (by omega) hIg.kn) 0 rfl rfl (cwV 1 F.2.2.2.2.1 gX1_canBe_X0_countTold rfl rfl rfl (by decide +kernel) ⟨Nat.le_of_ble_eq_true rfl, Nat.le_of_ble_eq_true rfl⟩) rfl rfl rfl rfl (Nat.le_of_ble_eq_true rfl) ⟨Nat.zero_le _, Nat.zero_le _⟩ dX1_canBe_207 ?_
        refine g_iload_n F dX1_canBe_210 rfl 3 rfl ?_
        refine g_icmp_ne F 218 dX1_canBe_211 (by decide) (fun c15 => ?_) (fun c15 => ?_)
        · refine g_iconst F (v := 0) dX1_canBe_218 (by decide) ?_
          exact g_endI (hR _ _ dX1_canBe_219) (by rw [hh_c1, jd_6, if_pos c14, if_neg c15]; rfl) (by rw [hh_c1, jd_6, if_pos c14, if_neg c15]; rfl)
        · refine g_iconst F (v := 1) dX1_canBe_214 (by decide) ?_
          refine g_goto F 219 dX1_canBe_215 (by decide) ?_
          exact g_endI (hR _ _ dX1_canBe_219) (by rw [hh_c1, jd_6, if_pos c14, if_pos c15]; rfl) (by rw [hh_c1, jd_6, if_pos c14, if_pos c15]; rfl)
    | 6, _, c1 =>
      have hh_c1 : d / 100 = 7 := jd_h (by omega) c1
      refine g_tableIn F 220 dX1_canBe_23 (by rw [c1]; decide) (by rw [c1]; decide) (by rw [c1]; rfl) (by decide) ?_
      refine g_iload_n F dX1_canBe_220 rfl 2 rfl ?_
      refine g_callSn F (As := [.int (nI (d / 10 % 10))]) (st := []) (kX1_isMember l D cI cZ cQ (nI (d / 10 % 10))) (va_cwS 1 F.2.2.2.2.1 gX1_canBe_X1_isMember rfl rfl rfl (by decide +kernel) ⟨Nat.le_of_ble_eq_true rfl, Nat.le_of_ble_eq_true rfl⟩) rfl rfl (Nat.le_of_ble_eq_true rfl) ⟨Nat.zero_le _, Nat.zero_le _⟩ dX1_canBe_221 ?_
      refine g_beq F 250 dX1_canBe_224 (by decide) (fun c16 => ?_) (fun c16 => ?_)
      · refine g_iconst F (v := 0) dX1_canBe_250 (by decide) ?_
        exact g_endI (hR _ _ dX1_canBe_251) (by rw [hh_c1, jd_7, if_neg (by rw [c16]; decide)]; rfl) (by rw [hh_c1, jd_7, if_neg (by rw [c16]; decide)]; rfl)
      · have hx6_224 := mem_lt (by omega) c16
        refine g_iload_n F dX1_canBe_227 rfl 3 rfl ?_
        refine g_callSn F (As := [.int (nI (d % 10))]) (st := []) (kX1_isMember l D cI cZ cQ (nI (d % 10))) (va_cwS 1 F.2.2.2.2.1 gX1_canBe_X1_isMember rfl rfl rfl (by decide +kernel) ⟨Nat.le_of_ble_eq_true rfl, Nat.le_of_ble_eq_true rfl⟩) rfl rfl (Nat.le_of_ble_eq_true rfl) ⟨Nat.zero_le _, Nat.zero_le _⟩ dX1_canBe_228 ?_
        refine g_beq F 250 dX1_canBe_231 (by decide) (fun c17 => ?_) (fun c17 => ?_)
        · refine g_iconst F (v := 0) dX1_canBe_250 (by decide) ?_
          exact g_endI (hR _ _ dX1_canBe_251) (by rw [hh_c1, jd_7, if_pos c16, if_neg (by rw [c17]; decide)]; rfl) (by rw [hh_c1, jd_7, if_pos c16, if_neg (by rw [c17]; decide)]; rfl)
        · have hx6_231 := mem_lt (by omega) c17
          refine g_aload_n F dX1_canBe_234 rfl 0 rfl ?_
          refine g_get F (.ref (bt 0)) zX1_canBe_inX1 0 rfl rfl 1 (by decide) rfl zX1_canBe_f16 dX1_canBe_235 ?_
          refine g_iload_n F dX1_canBe_238 rfl 2 rfl ?_
          refine g_iload_n F dX1_canBe_239 rfl 3 rfl ?_
          refine g_segV F (As := [.int (nI (d / 10 % 10)), .int (nI (d % 10))]) (st := []) ([(x 0, .inr (1, [.ref (bn 0), .ref (bt 0), .ref (x 1), .int (nI ac), .ref (x 2), .int kb, .ref (x 3), .int (nI ln), .ref (x 4), .ref (x 5), .int (nI se), .long sd, .ref (x 6)])), (x 1, .inl (cQ, 14, .inr (.inr (.inr (.inr pa))))), (x 2, .inl (cQ, 2, .inr (.inr (.inr (.inr sl))))), (x 3, .inl (cI, 60, .inl tx)), (x 4, .inl (cI, 6, .inl s1)), (x 5, .inl (cI, 6, .inl s2)), (x 6, .inl (cI, 64, .inl sb))] ++ (CR cI bn f)) (Z) ([(x 0, .inr (1, [.ref (bn 0), .ref (bt 0), .ref (x 1), .int (nI ac), .ref (x 2), .int kb, .ref (x 3), .int (nI ln), .ref (x 4), .ref (x 5), .int (nI se), .long sd, .ref (x 6)])), (x 1, .inl (cQ, 14, .inr (.inr (.inr (.inr pa))))), (x 2, .inl (cQ, 2, .inr (.inr (.inr (.inr sl))))), (x 3, .inl (cI, 60, .inl tx)), (x 4, .inl (cI, 6, .inl s1)), (x 5, .inl (cI, 6, .inl s2)), (x 6, .inl (cI, 64, .inl sb))] ++ (CR cI bn f ++ (CR cI bt (S_turnF g (d / 10 % 10) (d % 10)) ++ (Z)))) (kX0_turnWayA l D cI cZ cQ bt g (d / 10 % 10) (d % 10) (by omega) (by omega)) 0 rfl rfl (cwV 2 F.2.2.2.2.1 gX1_canBe_X0_turnWay rfl rfl rfl (by decide +kernel) ⟨Nat.le_of_ble_eq_true rfl, Nat.le_of_ble_eq_true rfl⟩) rfl rfl rfl rfl (Nat.le_of_ble_eq_true rfl) ⟨Nat.zero_le _, Nat.zero_le _⟩ dX1_canBe_240 ?_
          refine g_beq F 250 dX1_canBe_243 (by decide) (fun c18 => ?_) (fun c18 => ?_)
          · refine g_iconst F (v := 0) dX1_canBe_250 (by decide) ?_
            exact g_endI (hR _ _ dX1_canBe_251) (by rw [hh_c1, jd_7, if_pos c16, if_pos c17]; show _ = bI _; rw [c18]; rfl) (by rw [hh_c1, jd_7, if_pos c16, if_pos c17]; rfl)
          · refine g_iconst F (v := 1) dX1_canBe_246 (by decide) ?_
            refine g_goto F 251 dX1_canBe_247 (by decide) ?_
            exact g_endI (hR _ _ dX1_canBe_251) (by rw [hh_c1, jd_7, if_pos c16, if_pos c17]; show _ = bI _; rw [c18]; rfl) (by rw [hh_c1, jd_7, if_pos c16, if_pos c17]; rfl)
    | n + 7, hn, _ => exact absurd hn (by omega)
set_option maxHeartbeats 1000000 in
set_option maxRecDepth 100000 in
theorem kX1_judge_bad (l : Launch) (D : va_G) (cI cZ cQ : ClassId) (x bn bt : Nat → Nat) (pa sl : Nat → Option Nat) (ac : Nat) (kb : Int32) (tx : Row) (ln : Nat) (s1 s2 : Row) (se : Nat) (sd : Int64) (sb f g : Row) (Z : va_W) (v : Int32) (y : Int64) (hb : ¬ (¬ v < 1 ∧ v ≤ 4)) : Ct l D (gTy cI cZ cQ) yX1_judge wsX1_judge ({ frames := 9, cells := 0, slots := 0, locals := 320 }) [.ref (x 0), .int v, .long y] (XW cI cQ x bn bt pa sl ac kb tx ln s1 s2 se sd sb f g Z) (some (.int (-2))) (XW cI cQ x bn bt pa sl ac kb tx ln s1 s2 se sd sb f g Z) := by
  refine ct_ofI (cc := cX1_judge) (nL := 5) (own := RX1) (by decide) rfl rfl ⟨rfl, rfl⟩ (Nat.le_of_ble_eq_true rfl) XW_same (fun p e s m below meth c A Q F hR => ?_)
  refine g_aw ([(x 0, .inr (1, [.ref (bn 0), .ref (bt 0), .ref (x 1), .int (nI ac), .ref (x 2), .int kb, .ref (x 3), .int (nI ln), .ref (x 4), .ref (x 5), .int (nI se), .long sd, .ref (x 6)])), (x 1, .inl (cQ, 14, .inr (.inr (.inr (.inr pa))))), (x 2, .inl (cQ, 2, .inr (.inr (.inr (.inr sl))))), (x 3, .inl (cI, 60, .inl tx)), (x 4, .inl (cI, 6, .inl s1)), (x 5, .inl (cI, 6, .inl s2)), (x 6, .inl (cI, 64, .inl sb))] ++ (CR cI bn f ++ (CR cI bt g ++ (Z)))) rfl ?_
  refine g_iload_n F dX1_judge_0 rfl 1 rfl ?_
  refine g_iconst F (v := 1) dX1_judge_1 (by decide) ?_
  refine g_icmp_lt F 27 dX1_judge_2 (by decide) (fun c1 => ?_) (fun c1 => ?_)
  · refine g_bipush F (v := (-2)) dX1_judge_27 (by decide) ?_
    exact g_endI (hR _ _ dX1_judge_29) rfl rfl
  · refine g_iload_n F dX1_judge_5 rfl 1 rfl ?_
    refine g_iconst F (v := 4) dX1_judge_6 (by decide) ?_
    refine g_icmp_gt F 27 dX1_judge_7 (by decide) (fun c2 => ?_) (fun c2 => ?_)
    · refine g_bipush F (v := (-2)) dX1_judge_27 (by decide) ?_
      exact g_endI (hR _ _ dX1_judge_29) rfl rfl
    · exact absurd ⟨c1, Int32.not_lt.mp c2⟩ hb
set_option maxHeartbeats 1000000 in
set_option maxRecDepth 100000 in
theorem kX1_judge_bad2 (l : Launch) (D : va_G) (cI cZ cQ : ClassId) (x bn bt : Nat → Nat) (pa sl : Nat → Option Nat) (ac : Nat) (kb : Int32) (tx : Row) (ln : Nat) (s1 s2 : Row) (se : Nat) (sd : Int64) (sb f g : Row) (Z : va_W) (m_ : Nat) (y : Int64) (h1 : 1 ≤ m_) (hm : m_ ≤ 4) (hb : ¬ (¬ y < 0 ∧ y < S_ten (3 * m_))) : Ct l D (gTy cI cZ cQ) yX1_judge wsX1_judge ({ frames := 9, cells := 0, slots := 0, locals := 320 }) [.ref (x 0), .int (nI m_), .long y] (XW cI cQ x bn bt pa sl ac kb tx ln s1 s2 se sd sb f g Z) (some (.int (-2))) (XW cI cQ x bn bt pa sl ac kb tx ln s1 s2 se sd sb f g Z) := by
  refine ct_ofI (cc := cX1_judge) (nL := 5) (own := RX1) (by decide) rfl rfl ⟨rfl, rfl⟩ (Nat.le_of_ble_eq_true rfl) XW_same (fun p e s m below meth c A Q F hR => ?_)
  refine g_aw ([(x 0, .inr (1, [.ref (bn 0), .ref (bt 0), .ref (x 1), .int (nI ac), .ref (x 2), .int kb, .ref (x 3), .int (nI ln), .ref (x 4), .ref (x 5), .int (nI se), .long sd, .ref (x 6)])), (x 1, .inl (cQ, 14, .inr (.inr (.inr (.inr pa))))), (x 2, .inl (cQ, 2, .inr (.inr (.inr (.inr sl))))), (x 3, .inl (cI, 60, .inl tx)), (x 4, .inl (cI, 6, .inl s1)), (x 5, .inl (cI, 6, .inl s2)), (x 6, .inl (cI, 64, .inl sb))] ++ (CR cI bn f ++ (CR cI bt g ++ (Z)))) rfl ?_
  refine g_iload_n F dX1_judge_0 rfl 1 rfl ?_
  refine g_iconst F (v := 1) dX1_judge_1 (by decide) ?_
  refine g_icmp_lt F 27 dX1_judge_2 (by decide) (fun c1 => ?_) (fun c1 => ?_)
  · exact absurd ((nI_ltI (b := 1) (by omega) (by decide)).mp c1) (by omega)
  · refine g_iload_n F dX1_judge_5 rfl 1 rfl ?_
    refine g_iconst F (v := 4) dX1_judge_6 (by decide) ?_
    refine g_icmp_gt F 27 dX1_judge_7 (by decide) (fun c2 => ?_) (fun c2 => ?_)
    · exact absurd ((nI_ltI (a := 4) (by decide) (by omega)).mp c2) (by omega)
    · refine g_lload_n F dX1_judge_10 rfl 2 rfl ?_
      refine g_lconst F (v := 0) dX1_judge_11 (by decide) ?_
      refine g_lcmp F dX1_judge_12 ?_
      refine g_if_lt F 27 dX1_judge_13 (by decide) (fun c3 => ?_) (fun c3 => ?_)
      · refine g_bipush F (v := (-2)) dX1_judge_27 (by decide) ?_
        exact g_endI (hR _ _ dX1_judge_29) rfl rfl
      · refine g_lload_n F dX1_judge_16 rfl 2 rfl ?_
        refine g_iconst F (v := 3) dX1_judge_17 (by decide) ?_
        refine g_iload_n F dX1_judge_18 rfl 1 rfl ?_
        refine g_imul F dX1_judge_19 ?_
        refine g_as (nI (3 * m_)) (pk_mul 3 m_) ?_
        refine g_callSn F (As := [.int (nI (3 * m_))]) (st := [.long y]) (kX1_tenTo l D cI cZ cQ (3 * m_) (by omega)) (va_cwS 1 F.2.2.2.2.1 gX1_judge_X1_tenTo rfl rfl rfl (by decide +kernel) ⟨Nat.le_of_ble_eq_true rfl, Nat.le_of_ble_eq_true rfl⟩) rfl rfl (Nat.le_of_ble_eq_true rfl) ⟨Nat.zero_le _, Nat.zero_le _⟩ dX1_judge_20 ?_
        refine g_lcmp F dX1_judge_23 ?_
        refine g_if_lt F 30 dX1_judge_24 (by decide) (fun c4 => ?_) (fun c4 => ?_)
        · exact absurd ⟨fun q => c3 ((lg_cmp_lt y 0).mpr q), (lg_cmp_lt y (S_ten (3 * m_))).mp c4⟩ hb
        · refine g_bipush F (v := (-2)) dX1_judge_27 (by decide) ?_
          exact g_endI (hR _ _ dX1_judge_29) rfl rfl
theorem zX1_judge_f10 : Cond.fieldLink RX1 10 (TX1 0).1 (TX1 0).2.1 (TX1 0).2.2.1 ∈ wsX1_judge := by decide +kernel
theorem zX1_judge_f16 : Cond.fieldLink RX1 16 (TX1 1).1 (TX1 1).2.1 (TX1 1).2.2.1 ∈ wsX1_judge := by decide +kernel
theorem zX1_judge_inX1 : ∀ w ∈ u_ws RX1 TX1 13, w ∈ wsX1_judge := by decide +kernel
set_option maxHeartbeats 1000000 in
set_option maxRecDepth 100000 in
theorem kX1_judge_ok (l : Launch) (D : va_G) (cI cZ cQ : ClassId) (x bn bt : Nat → Nat) (pa sl : Nat → Option Nat) (ac : Nat) (kb : Int32) (tx : Row) (ln : Nat) (s1 s2 : Row) (se : Nat) (sd : Int64) (sb f g : Row) (Z : va_W) (m_ X : Nat) (h1 : 1 ≤ m_) (hm : m_ ≤ 4) (hX : X < 2 ^ 63) (h0 : ¬ lN X < 0) (hlt : lN X < S_ten (3 * m_)) (n G : Nat) (hG1 : 1 ≤ G) (hI : Inv n G f) (hn0 : n ≤ 1040000) (hG0 : G ≤ 1000000) : Ct l D (gTy cI cZ cQ) yX1_judge wsX1_judge ({ frames := 9, cells := 0, slots := 0, locals := 320 }) [.ref (x 0), .int (nI m_), .long (lN X)] (XW cI cQ x bn bt pa sl ac kb tx ln s1 s2 se sd sb f g Z) (some (.int (S_judge f X m_ 0 m_))) (XW cI cQ x bn bt pa sl ac kb tx ln s1 s2 se sd sb f (S_judgeT f X m_ 0 m_) Z) := by
  refine ct_ofI (cc := cX1_judge) (nL := 5) (own := RX1) (by decide) rfl rfl ⟨rfl, rfl⟩ (Nat.le_of_ble_eq_true rfl) XW_same (fun p e s m below meth c A Q F hR => ?_)
  refine g_aw ([(x 0, .inr (1, [.ref (bn 0), .ref (bt 0), .ref (x 1), .int (nI ac), .ref (x 2), .int kb, .ref (x 3), .int (nI ln), .ref (x 4), .ref (x 5), .int (nI se), .long sd, .ref (x 6)])), (x 1, .inl (cQ, 14, .inr (.inr (.inr (.inr pa))))), (x 2, .inl (cQ, 2, .inr (.inr (.inr (.inr sl))))), (x 3, .inl (cI, 60, .inl tx)), (x 4, .inl (cI, 6, .inl s1)), (x 5, .inl (cI, 6, .inl s2)), (x 6, .inl (cI, 64, .inl sb))] ++ (CR cI bn f ++ (CR cI bt g ++ (Z)))) rfl ?_
  refine g_iload_n F dX1_judge_0 rfl 1 rfl ?_
  refine g_iconst F (v := 1) dX1_judge_1 (by decide) ?_
  refine g_icmp_lt F 27 dX1_judge_2 (by decide) (fun c1 => ?_) (fun c1 => ?_)
  · exact absurd ((nI_ltI (b := 1) (by omega) (by decide)).mp c1) (by omega)
  · refine g_iload_n F dX1_judge_5 rfl 1 rfl ?_
    refine g_iconst F (v := 4) dX1_judge_6 (by decide) ?_
    refine g_icmp_gt F 27 dX1_judge_7 (by decide) (fun c2 => ?_) (fun c2 => ?_)
    · exact absurd ((nI_ltI (a := 4) (by decide) (by omega)).mp c2) (by omega)
    · refine g_lload_n F dX1_judge_10 rfl 2 rfl ?_
      refine g_lconst F (v := 0) dX1_judge_11 (by decide) ?_
      refine g_lcmp F dX1_judge_12 ?_
      refine g_if_lt F 27 dX1_judge_13 (by decide) (fun c3 => ?_) (fun c3 => ?_)
      · exact absurd ((lg_cmp_lt (lN X) 0).mp c3) h0
      · refine g_lload_n F dX1_judge_16 rfl 2 rfl ?_
        refine g_iconst F (v := 3) dX1_judge_17 (by decide) ?_
        refine g_iload_n F dX1_judge_18 rfl 1 rfl ?_
        refine g_imul F dX1_judge_19 ?_
        refine g_as (nI (3 * m_)) (pk_mul 3 m_) ?_
        refine g_callSn F (As := [.int (nI (3 * m_))]) (st := [.long (lN X)]) (kX1_tenTo l D cI cZ cQ (3 * m_) (by omega)) (va_cwS 1 F.2.2.2.2.1 gX1_judge_X1_tenTo rfl rfl rfl (by decide +kernel) ⟨Nat.le_of_ble_eq_true rfl, Nat.le_of_ble_eq_true rfl⟩) rfl rfl (Nat.le_of_ble_eq_true rfl) ⟨Nat.zero_le _, Nat.zero_le _⟩ dX1_judge_20 ?_
        refine g_lcmp F dX1_judge_23 ?_
        refine g_if_lt F 30 dX1_judge_24 (by decide) (fun c4 => ?_) (fun c4 => ?_)
        · refine g_aload_n F dX1_judge_30 rfl 0 rfl ?_
          refine g_get F (.ref (bt 0)) zX1_judge_inX1 0 rfl rfl 1 (by decide) rfl zX1_judge_f16 dX1_judge_31 ?_
          refine g_aload_n F dX1_judge_34 rfl 0 rfl ?_
          refine g_get F (.ref (bn 0)) zX1_judge_inX1 0 rfl rfl 0 (by decide) rfl zX1_judge_f10 dX1_judge_35 ?_
          refine g_segV F (As := [.ref (bn 0)]) (st := []) ([(x 0, .inr (1, [.ref (bn 0), .ref (bt 0), .ref (x 1), .int (nI ac), .ref (x 2), .int kb, .ref (x 3), .int (nI ln), .ref (x 4), .ref (x 5), .int (nI se), .long sd, .ref (x 6)])), (x 1, .inl (cQ, 14, .inr (.inr (.inr (.inr pa))))), (x 2, .inl (cQ, 2, .inr (.inr (.inr (.inr sl))))), (x 3, .inl (cI, 60, .inl tx)), (x 4, .inl (cI, 6, .inl s1)), (x 5, .inl (cI, 6, .inl s2)), (x 6, .inl (cI, 64, .inl sb))]) (Z) ([(x 0, .inr (1, [.ref (bn 0), .ref (bt 0), .ref (x 1), .int (nI ac), .ref (x 2), .int kb, .ref (x 3), .int (nI ln), .ref (x 4), .ref (x 5), .int (nI se), .long sd, .ref (x 6)])), (x 1, .inl (cQ, 14, .inr (.inr (.inr (.inr pa))))), (x 2, .inl (cQ, 2, .inr (.inr (.inr (.inr sl))))), (x 3, .inl (cI, 60, .inl tx)), (x 4, .inl (cI, 6, .inl s1)), (x 5, .inl (cI, 6, .inl s2)), (x 6, .inl (cI, 64, .inl sb))] ++ (CR cI bn f ++ (CR cI bt f ++ (Z)))) (kX0_takeFromS l D cI cZ cQ bt bn g f) 8 rfl rfl (cwV 1 F.2.2.2.2.1 gX1_judge_X0_takeFrom rfl rfl rfl (by decide +kernel) ⟨Nat.le_of_ble_eq_true rfl, Nat.le_of_ble_eq_true rfl⟩) rfl rfl rfl rfl (Nat.le_of_ble_eq_true rfl) ⟨Nat.zero_le _, Nat.zero_le _⟩ dX1_judge_38 ?_
          refine g_iconst F (v := 0) dX1_judge_41 (by decide) ?_
          refine g_istore F (lv' := [(0, .ref (x 0)), (1, .int (nI m_)), (2, .long (lN X)), (4, .int 0)]) dX1_judge_42 (by decide) [1, 2, 3, 0] rfl ?_
          refine g_all (w0 := [(x 0, .inr (1, [.ref (bn 0), .ref (bt 0), .ref (x 1), .int (nI ac), .ref (x 2), .int kb, .ref (x 3), .int (nI ln), .ref (x 4), .ref (x 5), .int (nI se), .long sd, .ref (x 6)])), (x 1, .inl (cQ, 14, .inr (.inr (.inr (.inr pa))))), (x 2, .inl (cQ, 2, .inr (.inr (.inr (.inr sl))))), (x 3, .inl (cI, 60, .inl tx)), (x 4, .inl (cI, 6, .inl s1)), (x 5, .inl (cI, 6, .inl s2)), (x 6, .inl (cI, 64, .inl sb))] ++ (CR cI bn f ++ (CR cI bt (S_jdT f X m_ 0) ++ (Z)))) (lv0 := [(0, .ref (x 0)), (1, .int (nI m_)), (2, .long (lN X)), (4, .int (nI 0))]) (st0 := []) rfl rfl rfl ?_
          refine g_for m_ (fun i => S_judge f X m_ 0 m_ = S_judge f X m_ i (m_ - i) ∧ S_judgeT f X m_ 0 m_ = S_judgeT f X m_ i (m_ - i)) (fun i => [(x 0, .inr (1, [.ref (bn 0), .ref (bt 0), .ref (x 1), .int (nI ac), .ref (x 2), .int kb, .ref (x 3), .int (nI ln), .ref (x 4), .ref (x 5), .int (nI se), .long sd, .ref (x 6)])), (x 1, .inl (cQ, 14, .inr (.inr (.inr (.inr pa))))), (x 2, .inl (cQ, 2, .inr (.inr (.inr (.inr sl))))), (x 3, .inl (cI, 60, .inl tx)), (x 4, .inl (cI, 6, .inl s1)), (x 5, .inl (cI, 6, .inl s2)), (x 6, .inl (cI, 64, .inl sb))] ++ (CR cI bn f ++ (CR cI bt (S_jdT f X m_ i) ++ (Z)))) (fun i => [(0, .ref (x 0)), (1, .int (nI m_)), (2, .long (lN X)), (4, .int (nI i))]) (fun i hi hIi ihi => ?_) 0 (Nat.zero_le _) ⟨rfl, rfl⟩
          rw [S_jdT] at ihi
          have hIg : Inv (n + 30 * i) (G + 1086 * i) (S_jdT f X m_ i) := Inv_jdT hI hn0 hG1 hG0 i (by omega)
          generalize hg_u : S_jdT f X m_ i = u at ihi hIg ⊢
          refine g_iload F dX1_judge_44 3 rfl ?_
          refine g_iload_n F dX1_judge_46 rfl 1 rfl ?_
          refine g_icmp_ge F 77 dX1_judge_47 (by decide) (fun c5 => ?_) (fun c5 => ?_)
          · have hx_c5 : m_ = i := lp_ge hi (by omega) c5
            subst hx_c5
            subst hg_u
            have hIn := hIi
            refine g_bipush F (v := (-9)) dX1_judge_77 (by decide) ?_
            exact g_endI (hR _ _ dX1_judge_79) (by rw [hIn.1, Nat.sub_self]; rfl) (by rw [hIn.2, Nat.sub_self]; rfl)
          · have hlti : i < m_ := lp_lt hi (by omega) c5
            have hT := S_th_lt (X := X) (n := m_) (i := i)
            refine g_aload_n F dX1_judge_50 rfl 0 rfl ?_
            refine g_lload_n F dX1_judge_51 rfl 2 rfl ?_
            refine g_iload_n F dX1_judge_52 rfl 1 rfl ?_
            refine g_iconst F (v := 1) dX1_judge_53 (by decide) ?_
            refine g_isub F dX1_judge_54 ?_
            refine g_iload F dX1_judge_55 3 rfl ?_
            refine g_isub F dX1_judge_57 ?_
            refine g_as (nI (m_ - 1 - i)) (by rw [show (1 : Int32) = nI 1 from rfl, pk_sub (by omega), pk_sub (by omega)]) ?_
            refine g_iconst F (v := 3) dX1_judge_58 (by decide) ?_
            refine g_callSn F (As := [.long (lN X), .int (nI (m_ - 1 - i)), .int 3]) (st := [.ref (x 0)]) (kX1_part l D cI cZ cQ X (m_ - 1 - i) 3 hX (by omega) (by decide)) (va_cwS 3 F.2.2.2.2.1 gX1_judge_X1_part rfl rfl rfl (by decide +kernel) ⟨Nat.le_of_ble_eq_true rfl, Nat.le_of_ble_eq_true rfl⟩) rfl rfl (Nat.le_of_ble_eq_true rfl) ⟨Nat.zero_le _, Nat.zero_le _⟩ dX1_judge_59 ?_
            refine g_as (nI (S_th X m_ i)) (congrArg nI part_3) ?_
            refine g_callVs F (As := [.int (nI (S_th X m_ i))]) (st := []) (kX1_canBe l D cI cZ cQ x bn bt pa sl ac kb tx ln s1 s2 se sd sb f u Z (S_th X m_ i) (by omega) (n + 30 * i) (G + 1086 * i) hIg (by omega) (by omega) (by omega)) 0 rfl rfl (cwV 1 F.2.2.2.2.1 gX1_judge_X1_canBe rfl rfl rfl (by decide +kernel) ⟨Nat.le_of_ble_eq_true rfl, Nat.le_of_ble_eq_true rfl⟩) rfl rfl (Nat.le_of_ble_eq_true rfl) ⟨Nat.zero_le _, Nat.zero_le _⟩ dX1_judge_62 ?_
            refine g_bne F 71 dX1_judge_65 (by decide) (fun c6 => ?_) (fun c6 => ?_)
            · refine g_iinc F (lv' := [(0, .ref (x 0)), (1, .int (nI m_)), (2, .long (lN X)), (4, .int (nI (i + 1)))]) (nI (i + 1)) dX1_judge_71 3 rfl (nI_add i 1) (by decide) [1, 2, 3, 0] rfl ?_
              refine g_goto F 44 dX1_judge_74 (by decide) ?_
              refine g_all (w0 := [(x 0, .inr (1, [.ref (bn 0), .ref (bt 0), .ref (x 1), .int (nI ac), .ref (x 2), .int kb, .ref (x 3), .int (nI ln), .ref (x 4), .ref (x 5), .int (nI se), .long sd, .ref (x 6)])), (x 1, .inl (cQ, 14, .inr (.inr (.inr (.inr pa))))), (x 2, .inl (cQ, 2, .inr (.inr (.inr (.inr sl))))), (x 3, .inl (cI, 60, .inl tx)), (x 4, .inl (cI, 6, .inl s1)), (x 5, .inl (cI, 6, .inl s2)), (x 6, .inl (cI, 64, .inl sb))] ++ (CR cI bn f ++ (CR cI bt ((S_jd u (S_th X m_ i / 100) (S_th X m_ i / 10 % 10) (S_th X m_ i % 10)).2) ++ (Z)))) (lv0 := [(0, .ref (x 0)), (1, .int (nI m_)), (2, .long (lN X)), (4, .int (nI (i + 1)))]) (st0 := []) rfl rfl rfl ?_
              exact ihi hlti (by have hO : S_jdO f X m_ i = true := (by unfold S_jdO; rw [hg_u]; exact c6); exact ⟨hIi.1.trans (jg_t hlti hO).1, hIi.2.trans (jg_t hlti hO).2⟩)
            · refine g_iload F dX1_judge_68 3 rfl ?_
              exact g_endI (hR _ _ dX1_judge_70) (by have hO : S_jdO f X m_ i = false := (by unfold S_jdO; rw [hg_u]; exact c6); rw [hIi.1, (jg_f hlti hO).1]) (by have hO : S_jdO f X m_ i = false := (by unfold S_jdO; rw [hg_u]; exact c6); rw [hIi.2, (jg_f hlti hO).2]; subst hg_u; rfl)
        · exact absurd ((lg_cmp_lt (lN X) (S_ten (3 * m_))).mpr hlt) c4
theorem zX1_fitsSeen_f10 : Cond.fieldLink RX1 10 (TX1 0).1 (TX1 0).2.1 (TX1 0).2.2.1 ∈ wsX1_fitsSeen := by decide +kernel
theorem zX1_fitsSeen_f16 : Cond.fieldLink RX1 16 (TX1 1).1 (TX1 1).2.1 (TX1 1).2.2.1 ∈ wsX1_fitsSeen := by decide +kernel
theorem zX1_fitsSeen_f40 : Cond.fieldLink RX1 40 (TX1 8).1 (TX1 8).2.1 (TX1 8).2.2.1 ∈ wsX1_fitsSeen := by decide +kernel
theorem zX1_fitsSeen_f43 : Cond.fieldLink RX1 43 (TX1 9).1 (TX1 9).2.1 (TX1 9).2.2.1 ∈ wsX1_fitsSeen := by decide +kernel
theorem zX1_fitsSeen_f46 : Cond.fieldLink RX1 46 (TX1 10).1 (TX1 10).2.1 (TX1 10).2.2.1 ∈ wsX1_fitsSeen := by decide +kernel
theorem zX1_fitsSeen_f70 : Cond.fieldLink RX1 70 (TX0 1).1 (TX0 1).2.1 (TX0 1).2.2.1 ∈ wsX1_fitsSeen := by decide +kernel
theorem zX1_fitsSeen_inX0 : ∀ w ∈ u_ws RX0 TX0 14, w ∈ wsX1_fitsSeen := by decide +kernel
theorem zX1_fitsSeen_inX1 : ∀ w ∈ u_ws RX1 TX1 13, w ∈ wsX1_fitsSeen := by decide +kernel
set_option maxHeartbeats 1000000 in
set_option maxRecDepth 100000 in
theorem kX1_fitsSeen (l : Launch) (D : va_G) (cI cZ cQ : ClassId) (x bn bt : Nat → Nat) (pa sl : Nat → Option Nat) (ac : Nat) (kb : Int32) (tx : Row) (ln : Nat) (s1 s2 : Row) (se : Nat) (sd : Int64) (sb f g : Row) (Z : va_W) (r : Nat) (h1 : 1 ≤ r) (h9 : r ≤ 9) (hse : se ≤ 6) (n G : Nat) (hI : Inv n G f) (hn0 : n ≤ 1040000) (hG0 : G ≤ 1000000) : Ct l D (gTy cI cZ cQ) yX1_fitsSeen wsX1_fitsSeen ({ frames := 6, cells := 0, slots := 0, locals := 134 }) [.ref (x 0), .int (nI r)] (XW cI cQ x bn bt pa sl ac kb tx ln s1 s2 se sd sb f g Z) (some (.int (bI (S_fit (upd f 67 (nI r)) s1 s2 se 0 61)))) (XW cI cQ x bn bt pa sl ac kb tx ln s1 s2 se sd sb f (S_fitT (upd f 67 (nI r)) s1 s2 se 0 61) Z) := by
  refine ct_ofZ (cc := cX1_fitsSeen) (nL := 5) (own := RX1) (by decide) rfl rfl ⟨rfl, rfl⟩ (Nat.le_of_ble_eq_true rfl) XW_same (by first | rfl | exact bI_nar _) (fun p e s m below meth c A Q F hR => ?_)
  refine g_aw ([(x 0, .inr (1, [.ref (bn 0), .ref (bt 0), .ref (x 1), .int (nI ac), .ref (x 2), .int kb, .ref (x 3), .int (nI ln), .ref (x 4), .ref (x 5), .int (nI se), .long sd, .ref (x 6)])), (x 1, .inl (cQ, 14, .inr (.inr (.inr (.inr pa))))), (x 2, .inl (cQ, 2, .inr (.inr (.inr (.inr sl))))), (x 3, .inl (cI, 60, .inl tx)), (x 4, .inl (cI, 6, .inl s1)), (x 5, .inl (cI, 6, .inl s2)), (x 6, .inl (cI, 64, .inl sb))] ++ (CR cI bn f ++ (CR cI bt g ++ (Z)))) rfl ?_
  refine g_aload_n F dX1_fitsSeen_0 rfl 0 rfl ?_
  refine g_get F (.ref (bt 0)) zX1_fitsSeen_inX1 0 rfl rfl 1 (by decide) rfl zX1_fitsSeen_f16 dX1_fitsSeen_1 ?_
  refine g_aload_n F dX1_fitsSeen_4 rfl 0 rfl ?_
  refine g_get F (.ref (bn 0)) zX1_fitsSeen_inX1 0 rfl rfl 0 (by decide) rfl zX1_fitsSeen_f10 dX1_fitsSeen_5 ?_
  refine g_segV F (As := [.ref (bn 0)]) (st := []) ([(x 0, .inr (1, [.ref (bn 0), .ref (bt 0), .ref (x 1), .int (nI ac), .ref (x 2), .int kb, .ref (x 3), .int (nI ln), .ref (x 4), .ref (x 5), .int (nI se), .long sd, .ref (x 6)])), (x 1, .inl (cQ, 14, .inr (.inr (.inr (.inr pa))))), (x 2, .inl (cQ, 2, .inr (.inr (.inr (.inr sl))))), (x 3, .inl (cI, 60, .inl tx)), (x 4, .inl (cI, 6, .inl s1)), (x 5, .inl (cI, 6, .inl s2)), (x 6, .inl (cI, 64, .inl sb))]) (Z) ([(x 0, .inr (1, [.ref (bn 0), .ref (bt 0), .ref (x 1), .int (nI ac), .ref (x 2), .int kb, .ref (x 3), .int (nI ln), .ref (x 4), .ref (x 5), .int (nI se), .long sd, .ref (x 6)])), (x 1, .inl (cQ, 14, .inr (.inr (.inr (.inr pa))))), (x 2, .inl (cQ, 2, .inr (.inr (.inr (.inr sl))))), (x 3, .inl (cI, 60, .inl tx)), (x 4, .inl (cI, 6, .inl s1)), (x 5, .inl (cI, 6, .inl s2)), (x 6, .inl (cI, 64, .inl sb))] ++ (CR cI bn f ++ (CR cI bt f ++ (Z)))) (kX0_takeFromS l D cI cZ cQ bt bn g f) 8 rfl rfl (cwV 1 F.2.2.2.2.1 gX1_fitsSeen_X0_takeFrom rfl rfl rfl (by decide +kernel) ⟨Nat.le_of_ble_eq_true rfl, Nat.le_of_ble_eq_true rfl⟩) rfl rfl rfl rfl (Nat.le_of_ble_eq_true rfl) ⟨Nat.zero_le _, Nat.zero_le _⟩ dX1_fitsSeen_8 ?_
  refine g_aload_n F dX1_fitsSeen_11 rfl 0 rfl ?_
  refine g_get F (.ref (bt 0)) zX1_fitsSeen_inX1 0 rfl rfl 1 (by decide) rfl zX1_fitsSeen_f16 dX1_fitsSeen_12 ?_
  refine g_iload_n F dX1_fitsSeen_15 rfl 1 rfl ?_
  refine g_xF67 F ([(x 0, .inr (1, [.ref (bn 0), .ref (bt 0), .ref (x 1), .int (nI ac), .ref (x 2), .int kb, .ref (x 3), .int (nI ln), .ref (x 4), .ref (x 5), .int (nI se), .long sd, .ref (x 6)])), (x 1, .inl (cQ, 14, .inr (.inr (.inr (.inr pa))))), (x 2, .inl (cQ, 2, .inr (.inr (.inr (.inr sl))))), (x 3, .inl (cI, 60, .inl tx)), (x 4, .inl (cI, 6, .inl s1)), (x 5, .inl (cI, 6, .inl s2)), (x 6, .inl (cI, 64, .inl sb))] ++ (CR cI bn f)) (Z) ([(x 0, .inr (1, [.ref (bn 0), .ref (bt 0), .ref (x 1), .int (nI ac), .ref (x 2), .int kb, .ref (x 3), .int (nI ln), .ref (x 4), .ref (x 5), .int (nI se), .long sd, .ref (x 6)])), (x 1, .inl (cQ, 14, .inr (.inr (.inr (.inr pa))))), (x 2, .inl (cQ, 2, .inr (.inr (.inr (.inr sl))))), (x 3, .inl (cI, 60, .inl tx)), (x 4, .inl (cI, 6, .inl s1)), (x 5, .inl (cI, 6, .inl s2)), (x 6, .inl (cI, 64, .inl sb))] ++ (CR cI bn f ++ (CR cI bt (upd f 67 (nI r)) ++ (Z)))) zX1_fitsSeen_inX0 zX1_fitsSeen_f70 dX1_fitsSeen_16 rfl rfl ?_
  refine g_iconst F (v := 0) dX1_fitsSeen_19 (by decide) ?_
  refine g_istore_n F (lv' := [(0, .ref (x 0)), (1, .int (nI r)), (2, .int 0)]) dX1_fitsSeen_20 rfl (by decide) [1, 2, 0] rfl ?_
  refine g_iconst F (v := 0) dX1_fitsSeen_21 (by decide) ?_
  refine g_istore_n F (lv' := [(0, .ref (x 0)), (1, .int (nI r)), (2, .int 0), (3, .int 0)]) dX1_fitsSeen_22 rfl (by decide) [1, 2, 3, 0] rfl ?_
  refine g_all (w0 := [(x 0, .inr (1, [.ref (bn 0), .ref (bt 0), .ref (x 1), .int (nI ac), .ref (x 2), .int kb, .ref (x 3), .int (nI ln), .ref (x 4), .ref (x 5), .int (nI se), .long sd, .ref (x 6)])), (x 1, .inl (cQ, 14, .inr (.inr (.inr (.inr pa))))), (x 2, .inl (cQ, 2, .inr (.inr (.inr (.inr sl))))), (x 3, .inl (cI, 60, .inl tx)), (x 4, .inl (cI, 6, .inl s1)), (x 5, .inl (cI, 6, .inl s2)), (x 6, .inl (cI, 64, .inl sb))] ++ (CR cI bn f ++ (CR cI bt (S_ticks (upd f 67 (nI r)) 0) ++ (Z)))) (lv0 := [(0, .ref (x 0)), (1, .int (nI r)), (2, .int (S_pass (upd f 67 (nI r)) 0)), (3, .int (nI 0))]) (st0 := []) rfl (by first | (rw [pass_0]; done) | (rw [pass_0]; rfl)) rfl ?_
  refine g_for 61 (fun t => S_fit (upd f 67 (nI r)) s1 s2 se 0 61 = S_fit (upd f 67 (nI r)) s1 s2 se t (61 - t) ∧ S_fitT (upd f 67 (nI r)) s1 s2 se 0 61 = S_fitT (upd f 67 (nI r)) s1 s2 se t (61 - t)) (fun t => [(x 0, .inr (1, [.ref (bn 0), .ref (bt 0), .ref (x 1), .int (nI ac), .ref (x 2), .int kb, .ref (x 3), .int (nI ln), .ref (x 4), .ref (x 5), .int (nI se), .long sd, .ref (x 6)])), (x 1, .inl (cQ, 14, .inr (.inr (.inr (.inr pa))))), (x 2, .inl (cQ, 2, .inr (.inr (.inr (.inr sl))))), (x 3, .inl (cI, 60, .inl tx)), (x 4, .inl (cI, 6, .inl s1)), (x 5, .inl (cI, 6, .inl s2)), (x 6, .inl (cI, 64, .inl sb))] ++ (CR cI bn f ++ (CR cI bt (S_ticks (upd f 67 (nI r)) t) ++ (Z)))) (fun t => [(0, .ref (x 0)), (1, .int (nI r)), (2, .int (S_pass (upd f 67 (nI r)) t)), (3, .int (nI t))]) (fun t ht hIt iht => ?_) 0 (Nat.zero_le _) ⟨rfl, rfl⟩
  refine g_iload_n F dX1_fitsSeen_23 rfl 3 rfl ?_
  refine g_bipush F (v := 60) dX1_fitsSeen_24 (by decide) ?_
  refine g_icmp_gt F 95 dX1_fitsSeen_26 (by decide) (fun c1 => ?_) (fun c1 => ?_)
  · have hx_c1 : 60 + 1 = t := gt_x (N := 60) ht (by decide) c1
    subst hx_c1
    have hI61 := hIt
    refine g_iconst F (v := 1) dX1_fitsSeen_95 (by decide) ?_
    exact g_endI (hR _ _ dX1_fitsSeen_96) (by rw [hI61.1]; rfl) (by rw [hI61.2]; rfl)
  · have hltt : t < 61 := gt_c (N := 60) ht (by decide) c1
    refine g_iconst F (v := 0) dX1_fitsSeen_29 (by decide) ?_
    refine g_istore F (lv' := [(0, .ref (x 0)), (1, .int (nI r)), (2, .int (S_pass (upd f 67 (nI r)) t)), (3, .int (nI t)), (4, .int 0)]) dX1_fitsSeen_30 (by decide) [1, 2, 3, 4, 0] rfl ?_
    refine g_all (w0 := [(x 0, .inr (1, [.ref (bn 0), .ref (bt 0), .ref (x 1), .int (nI ac), .ref (x 2), .int kb, .ref (x 3), .int (nI ln), .ref (x 4), .ref (x 5), .int (nI se), .long sd, .ref (x 6)])), (x 1, .inl (cQ, 14, .inr (.inr (.inr (.inr pa))))), (x 2, .inl (cQ, 2, .inr (.inr (.inr (.inr sl))))), (x 3, .inl (cI, 60, .inl tx)), (x 4, .inl (cI, 6, .inl s1)), (x 5, .inl (cI, 6, .inl s2)), (x 6, .inl (cI, 64, .inl sb))] ++ (CR cI bn f ++ (CR cI bt (S_ticks (upd f 67 (nI r)) t) ++ (Z)))) (lv0 := [(0, .ref (x 0)), (1, .int (nI r)), (2, .int (S_pass (upd f 67 (nI r)) t)), (3, .int (nI t)), (4, .int (nI 0))]) (st0 := []) rfl rfl rfl ?_
    refine g_for se (fun i => S_fitI (upd f 67 (nI r)) s1 s2 t i = true) (fun i => [(x 0, .inr (1, [.ref (bn 0), .ref (bt 0), .ref (x 1), .int (nI ac), .ref (x 2), .int kb, .ref (x 3), .int (nI ln), .ref (x 4), .ref (x 5), .int (nI se), .long sd, .ref (x 6)])), (x 1, .inl (cQ, 14, .inr (.inr (.inr (.inr pa))))), (x 2, .inl (cQ, 2, .inr (.inr (.inr (.inr sl))))), (x 3, .inl (cI, 60, .inl tx)), (x 4, .inl (cI, 6, .inl s1)), (x 5, .inl (cI, 6, .inl s2)), (x 6, .inl (cI, 64, .inl sb))] ++ (CR cI bn f ++ (CR cI bt (S_ticks (upd f 67 (nI r)) t) ++ (Z)))) (fun i => [(0, .ref (x 0)), (1, .int (nI r)), (2, .int (S_pass (upd f 67 (nI r)) t)), (3, .int (nI t)), (4, .int (nI i))]) (fun i hi hIi ihi => ?_) 0 (Nat.zero_le _) rfl
    refine g_iload F dX1_fitsSeen_32 4 rfl ?_
    refine g_aload_n F dX1_fitsSeen_34 rfl 0 rfl ?_
    refine g_get F (.int (nI se)) zX1_fitsSeen_inX1 0 rfl rfl 10 (by decide) rfl zX1_fitsSeen_f46 dX1_fitsSeen_35 ?_
    refine g_icmp_ge F 78 dX1_fitsSeen_38 (by decide) (fun c2 => ?_) (fun c2 => ?_)
    · have hx_c2 : se = i := lp_ge hi (by omega) c2
      subst hx_c2
      have hok := hIi
      refine g_iload_n F dX1_fitsSeen_78 rfl 2 rfl ?_
      refine g_aload_n F dX1_fitsSeen_79 rfl 0 rfl ?_
      refine g_get F (.ref (bt 0)) zX1_fitsSeen_inX1 0 rfl rfl 1 (by decide) rfl zX1_fitsSeen_f16 dX1_fitsSeen_80 ?_
      refine g_iconst F (v := 1) dX1_fitsSeen_83 (by decide) ?_
      refine g_segV F (As := [.int 1]) (st := [.int (S_pass (upd f 67 (nI r)) t)]) ([(x 0, .inr (1, [.ref (bn 0), .ref (bt 0), .ref (x 1), .int (nI ac), .ref (x 2), .int kb, .ref (x 3), .int (nI ln), .ref (x 4), .ref (x 5), .int (nI se), .long sd, .ref (x 6)])), (x 1, .inl (cQ, 14, .inr (.inr (.inr (.inr pa))))), (x 2, .inl (cQ, 2, .inr (.inr (.inr (.inr sl))))), (x 3, .inl (cI, 60, .inl tx)), (x 4, .inl (cI, 6, .inl s1)), (x 5, .inl (cI, 6, .inl s2)), (x 6, .inl (cI, 64, .inl sb))] ++ (CR cI bn f)) (Z) ([(x 0, .inr (1, [.ref (bn 0), .ref (bt 0), .ref (x 1), .int (nI ac), .ref (x 2), .int kb, .ref (x 3), .int (nI ln), .ref (x 4), .ref (x 5), .int (nI se), .long sd, .ref (x 6)])), (x 1, .inl (cQ, 14, .inr (.inr (.inr (.inr pa))))), (x 2, .inl (cQ, 2, .inr (.inr (.inr (.inr sl))))), (x 3, .inl (cI, 60, .inl tx)), (x 4, .inl (cI, 6, .inl s1)), (x 5, .inl (cI, 6, .inl s2)), (x 6, .inl (cI, 64, .inl sb))] ++ (CR cI bn f ++ (CR cI bt (S_ticks (S_ticks (upd f 67 (nI r)) t) 1) ++ (Z)))) (kX0_run l D cI cZ cQ bt (S_ticks (upd f 67 (nI r)) t) 1 (n + t) (G + 36 * t) (by decide) (Inv_ticks (Inv_67 hI h1 h9) 61 (by omega) (by omega) t (by omega)) (by omega) (by omega)) 0 rfl rfl (cwV 1 F.2.2.2.2.1 gX1_fitsSeen_X0_run rfl rfl rfl (by decide +kernel) ⟨Nat.le_of_ble_eq_true rfl, Nat.le_of_ble_eq_true rfl⟩) rfl rfl rfl rfl (Nat.le_of_ble_eq_true rfl) ⟨Nat.zero_le _, Nat.zero_le _⟩ dX1_fitsSeen_84 ?_
      refine g_iadd F dX1_fitsSeen_87 ?_
      refine g_istore_n F (lv' := [(0, .ref (x 0)), (1, .int (nI r)), (2, .int ((S_pass (upd f 67 (nI r)) t) + (S_pass (S_ticks (upd f 67 (nI r)) t) 1))), (3, .int (nI t)), (4, .int (nI se))]) dX1_fitsSeen_88 rfl (by decide) [1, 2, 0, 3, 4] rfl ?_
      refine g_iinc F (lv' := [(0, .ref (x 0)), (1, .int (nI r)), (2, .int ((S_pass (upd f 67 (nI r)) t) + (S_pass (S_ticks (upd f 67 (nI r)) t) 1))), (3, .int (nI (t + 1))), (4, .int (nI se))]) (nI (t + 1)) dX1_fitsSeen_89 3 rfl (nI_add t 1) (by decide) [1, 2, 3, 0, 4] rfl ?_
      refine g_goto F 23 dX1_fitsSeen_92 (by decide) ?_
      refine g_lvs (lv' := [(0, .ref (x 0)), (1, .int (nI r)), (2, .int ((S_pass (upd f 67 (nI r)) t) + (S_pass (S_ticks (upd f 67 (nI r)) t) 1))), (3, .int (nI (t + 1)))]) [0, 1, 2, 3] rfl ?_
      refine g_all (w0 := [(x 0, .inr (1, [.ref (bn 0), .ref (bt 0), .ref (x 1), .int (nI ac), .ref (x 2), .int kb, .ref (x 3), .int (nI ln), .ref (x 4), .ref (x 5), .int (nI se), .long sd, .ref (x 6)])), (x 1, .inl (cQ, 14, .inr (.inr (.inr (.inr pa))))), (x 2, .inl (cQ, 2, .inr (.inr (.inr (.inr sl))))), (x 3, .inl (cI, 60, .inl tx)), (x 4, .inl (cI, 6, .inl s1)), (x 5, .inl (cI, 6, .inl s2)), (x 6, .inl (cI, 64, .inl sb))] ++ (CR cI bn f ++ (CR cI bt (S_ticks (upd f 67 (nI r)) (t + 1)) ++ (Z)))) (lv0 := [(0, .ref (x 0)), (1, .int (nI r)), (2, .int (S_pass (upd f 67 (nI r)) (t + 1))), (3, .int (nI (t + 1)))]) (st0 := []) (by rw [S_ticks_1, S_ticks_s]) (by rw [pass_s]) rfl ?_
      exact iht hltt ⟨hIt.1.trans (fit_t hltt hok).1, hIt.2.trans (fit_t hltt hok).2⟩
    · have hlti : i < se := lp_lt hi (by omega) c2
      refine g_iload F dX1_fitsSeen_41 4 rfl ?_
      refine g_bipush F (v := 6) dX1_fitsSeen_43 (by decide) ?_
      refine g_icmp_ge F 78 dX1_fitsSeen_45 (by decide) (fun c3 => ?_) (fun c3 => ?_)
      · exact absurd ((nI_leI (a := 6) (by decide) (by omega)).mp c3) (by omega)
      · refine g_aload_n F dX1_fitsSeen_48 rfl 0 rfl ?_
        refine g_get F (.ref (x 4)) zX1_fitsSeen_inX1 0 rfl rfl 8 (by decide) rfl zX1_fitsSeen_f40 dX1_fitsSeen_49 ?_
        refine g_iload F dX1_fitsSeen_52 4 rfl ?_
        refine g_iald F (j := i) 4 0 rfl rfl (by omega) (by decide) dX1_fitsSeen_54 ?_
        refine g_iload_n F dX1_fitsSeen_55 rfl 3 rfl ?_
        refine g_icmp_ne F 72 dX1_fitsSeen_56 (by decide) (fun c4 => ?_) (fun c4 => ?_)
        · refine g_iinc F (lv' := [(0, .ref (x 0)), (1, .int (nI r)), (2, .int (S_pass (upd f 67 (nI r)) t)), (3, .int (nI t)), (4, .int (nI (i + 1)))]) (nI (i + 1)) dX1_fitsSeen_72 4 rfl (nI_add i 1) (by decide) [1, 2, 3, 4, 0] rfl ?_
          refine g_goto F 32 dX1_fitsSeen_75 (by decide) ?_
          refine g_all (w0 := [(x 0, .inr (1, [.ref (bn 0), .ref (bt 0), .ref (x 1), .int (nI ac), .ref (x 2), .int kb, .ref (x 3), .int (nI ln), .ref (x 4), .ref (x 5), .int (nI se), .long sd, .ref (x 6)])), (x 1, .inl (cQ, 14, .inr (.inr (.inr (.inr pa))))), (x 2, .inl (cQ, 2, .inr (.inr (.inr (.inr sl))))), (x 3, .inl (cI, 60, .inl tx)), (x 4, .inl (cI, 6, .inl s1)), (x 5, .inl (cI, 6, .inl s2)), (x 6, .inl (cI, 64, .inl sb))] ++ (CR cI bn f ++ (CR cI bt (S_ticks (upd f 67 (nI r)) t) ++ (Z)))) (lv0 := [(0, .ref (x 0)), (1, .int (nI r)), (2, .int (S_pass (upd f 67 (nI r)) t)), (3, .int (nI t)), (4, .int (nI (i + 1)))]) (st0 := []) rfl rfl rfl ?_
          exact ihi hlti (by unfold S_fitI; rw [show S_fitI (upd f 67 (nI r)) s1 s2 t i = true from hIi]; simp_all)
        · refine g_aload_n F dX1_fitsSeen_59 rfl 0 rfl ?_
          refine g_get F (.ref (x 5)) zX1_fitsSeen_inX1 0 rfl rfl 9 (by decide) rfl zX1_fitsSeen_f43 dX1_fitsSeen_60 ?_
          refine g_iload F dX1_fitsSeen_63 4 rfl ?_
          refine g_iald F (j := i) 5 0 rfl rfl (by omega) (by decide) dX1_fitsSeen_65 ?_
          refine g_iload_n F dX1_fitsSeen_66 rfl 2 rfl ?_
          refine g_icmp_eq F 72 dX1_fitsSeen_67 (by decide) (fun c5 => ?_) (fun c5 => ?_)
          · refine g_iinc F (lv' := [(0, .ref (x 0)), (1, .int (nI r)), (2, .int (S_pass (upd f 67 (nI r)) t)), (3, .int (nI t)), (4, .int (nI (i + 1)))]) (nI (i + 1)) dX1_fitsSeen_72 4 rfl (nI_add i 1) (by decide) [1, 2, 3, 4, 0] rfl ?_
            refine g_goto F 32 dX1_fitsSeen_75 (by decide) ?_
            refine g_all (w0 := [(x 0, .inr (1, [.ref (bn 0), .ref (bt 0), .ref (x 1), .int (nI ac), .ref (x 2), .int kb, .ref (x 3), .int (nI ln), .ref (x 4), .ref (x 5), .int (nI se), .long sd, .ref (x 6)])), (x 1, .inl (cQ, 14, .inr (.inr (.inr (.inr pa))))), (x 2, .inl (cQ, 2, .inr (.inr (.inr (.inr sl))))), (x 3, .inl (cI, 60, .inl tx)), (x 4, .inl (cI, 6, .inl s1)), (x 5, .inl (cI, 6, .inl s2)), (x 6, .inl (cI, 64, .inl sb))] ++ (CR cI bn f ++ (CR cI bt (S_ticks (upd f 67 (nI r)) t) ++ (Z)))) (lv0 := [(0, .ref (x 0)), (1, .int (nI r)), (2, .int (S_pass (upd f 67 (nI r)) t)), (3, .int (nI t)), (4, .int (nI (i + 1)))]) (st0 := []) rfl rfl rfl ?_
            exact ihi hlti (by unfold S_fitI; rw [show S_fitI (upd f 67 (nI r)) s1 s2 t i = true from hIi]; simp_all)
          · refine g_iconst F (v := 0) dX1_fitsSeen_70 (by decide) ?_
            exact g_endI (hR _ _ dX1_fitsSeen_71) (by rw [hIt.1, (fit_f hltt (fitI_f c4 c5 se hlti)).1]; rfl) (by rw [hIt.2, (fit_f hltt (fitI_f c4 c5 se hlti)).2]; rfl)
set_option maxHeartbeats 1000000 in
set_option maxRecDepth 100000 in
theorem kX1_which (l : Launch) (D : va_G) (cI cZ cQ : ClassId) (x bn bt : Nat → Nat) (pa sl : Nat → Option Nat) (ac : Nat) (kb : Int32) (tx : Row) (ln : Nat) (s1 s2 : Row) (se : Nat) (sd : Int64) (sb f g : Row) (Z : va_W) (hse : se ≤ 6) (n G : Nat) (hI : Inv n G f) (hn0 : n ≤ 1040000) (hG0 : G ≤ 1000000) : Ct l D (gTy cI cZ cQ) yX1_which wsX1_which ({ frames := 7, cells := 0, slots := 0, locals := 158 }) [.ref (x 0)] (XW cI cQ x bn bt pa sl ac kb tx ln s1 s2 se sd sb f g Z) (some (.int (S_whC f s1 s2 se 9))) (XW cI cQ x bn bt pa sl ac kb tx ln s1 s2 se sd sb f (S_whG f g s1 s2 se 9) Z) := by
  refine ct_ofI (cc := cX1_which) (nL := 3) (own := RX1) (by decide) rfl rfl ⟨rfl, rfl⟩ (Nat.le_of_ble_eq_true rfl) XW_same (fun p e s m below meth c A Q F hR => ?_)
  refine g_aw ([(x 0, .inr (1, [.ref (bn 0), .ref (bt 0), .ref (x 1), .int (nI ac), .ref (x 2), .int kb, .ref (x 3), .int (nI ln), .ref (x 4), .ref (x 5), .int (nI se), .long sd, .ref (x 6)])), (x 1, .inl (cQ, 14, .inr (.inr (.inr (.inr pa))))), (x 2, .inl (cQ, 2, .inr (.inr (.inr (.inr sl))))), (x 3, .inl (cI, 60, .inl tx)), (x 4, .inl (cI, 6, .inl s1)), (x 5, .inl (cI, 6, .inl s2)), (x 6, .inl (cI, 64, .inl sb))] ++ (CR cI bn f ++ (CR cI bt g ++ (Z)))) rfl ?_
  refine g_iconst F (v := 0) dX1_which_0 (by decide) ?_
  refine g_istore_n F (lv' := [(0, .ref (x 0)), (1, .int 0)]) dX1_which_1 rfl (by decide) [1, 0] rfl ?_
  refine g_iconst F (v := 1) dX1_which_2 (by decide) ?_
  refine g_istore_n F (lv' := [(0, .ref (x 0)), (1, .int 0), (2, .int 1)]) dX1_which_3 rfl (by decide) [1, 2, 0] rfl ?_
  refine g_all (w0 := [(x 0, .inr (1, [.ref (bn 0), .ref (bt 0), .ref (x 1), .int (nI ac), .ref (x 2), .int kb, .ref (x 3), .int (nI ln), .ref (x 4), .ref (x 5), .int (nI se), .long sd, .ref (x 6)])), (x 1, .inl (cQ, 14, .inr (.inr (.inr (.inr pa))))), (x 2, .inl (cQ, 2, .inr (.inr (.inr (.inr sl))))), (x 3, .inl (cI, 60, .inl tx)), (x 4, .inl (cI, 6, .inl s1)), (x 5, .inl (cI, 6, .inl s2)), (x 6, .inl (cI, 64, .inl sb))] ++ (CR cI bn f ++ (CR cI bt (S_whG f g s1 s2 se 0) ++ (Z)))) (lv0 := [(0, .ref (x 0)), (1, .int (S_whC f s1 s2 se 0)), (2, .int (nI (0 + 1)))]) (st0 := []) rfl rfl rfl ?_
  refine g_for 9 (fun i => True) (fun i => [(x 0, .inr (1, [.ref (bn 0), .ref (bt 0), .ref (x 1), .int (nI ac), .ref (x 2), .int kb, .ref (x 3), .int (nI ln), .ref (x 4), .ref (x 5), .int (nI se), .long sd, .ref (x 6)])), (x 1, .inl (cQ, 14, .inr (.inr (.inr (.inr pa))))), (x 2, .inl (cQ, 2, .inr (.inr (.inr (.inr sl))))), (x 3, .inl (cI, 60, .inl tx)), (x 4, .inl (cI, 6, .inl s1)), (x 5, .inl (cI, 6, .inl s2)), (x 6, .inl (cI, 64, .inl sb))] ++ (CR cI bn f ++ (CR cI bt (S_whG f g s1 s2 se i) ++ (Z)))) (fun i => [(0, .ref (x 0)), (1, .int (S_whC f s1 s2 se i)), (2, .int (nI (i + 1)))]) (fun i hi hIi ihi => ?_) 0 (Nat.zero_le _) trivial
  refine g_iload_n F dX1_which_4 rfl 2 rfl ?_
  refine g_bipush F (v := 9) dX1_which_5 (by decide) ?_
  refine g_icmp_gt F 30 dX1_which_7 (by decide) (fun c1 => ?_) (fun c1 => ?_)
  · have hx_c1 : 9 = i := by have := (nI_ltI (a := 9) (b := i + 1) (by decide) (by omega)).mp c1; omega
    subst hx_c1
    refine g_iload_n F dX1_which_30 rfl 1 rfl ?_
    exact g_endI (hR _ _ dX1_which_31) rfl rfl
  · have hlti : i < 9 := Nat.lt_of_not_le fun q => c1 (nI_lt (a := 9) (b := i + 1) (by omega) (by omega))
    refine g_aload_n F dX1_which_10 rfl 0 rfl ?_
    refine g_iload_n F dX1_which_11 rfl 2 rfl ?_
    refine g_callVs F (As := [.int (nI (i + 1))]) (st := []) (kX1_fitsSeen l D cI cZ cQ x bn bt pa sl ac kb tx ln s1 s2 se sd sb f (S_whG f g s1 s2 se i) Z (i + 1) (by omega) (by omega) hse n G hI hn0 hG0) 0 rfl rfl (cwV 1 F.2.2.2.2.1 gX1_which_X1_fitsSeen rfl rfl rfl (by decide +kernel) ⟨Nat.le_of_ble_eq_true rfl, Nat.le_of_ble_eq_true rfl⟩) rfl rfl (Nat.le_of_ble_eq_true rfl) ⟨Nat.zero_le _, Nat.zero_le _⟩ dX1_which_12 ?_
    refine g_beq F 24 dX1_which_15 (by decide) (fun c2 => ?_) (fun c2 => ?_)
    · refine g_iinc F (lv' := [(0, .ref (x 0)), (1, .int (S_whC f s1 s2 se i)), (2, .int (nI (i + 1 + 1)))]) (nI (i + 1 + 1)) dX1_which_24 2 rfl (nI_add (i + 1) 1) (by decide) [1, 2, 0] rfl ?_
      refine g_goto F 4 dX1_which_27 (by decide) ?_
      refine g_all (w0 := [(x 0, .inr (1, [.ref (bn 0), .ref (bt 0), .ref (x 1), .int (nI ac), .ref (x 2), .int kb, .ref (x 3), .int (nI ln), .ref (x 4), .ref (x 5), .int (nI se), .long sd, .ref (x 6)])), (x 1, .inl (cQ, 14, .inr (.inr (.inr (.inr pa))))), (x 2, .inl (cQ, 2, .inr (.inr (.inr (.inr sl))))), (x 3, .inl (cI, 60, .inl tx)), (x 4, .inl (cI, 6, .inl s1)), (x 5, .inl (cI, 6, .inl s2)), (x 6, .inl (cI, 64, .inl sb))] ++ (CR cI bn f ++ (CR cI bt (S_whG f g s1 s2 se (i + 1)) ++ (Z)))) (lv0 := [(0, .ref (x 0)), (1, .int (S_whC f s1 s2 se (i + 1))), (2, .int (nI (i + 1 + 1)))]) (st0 := []) rfl (by rw [S_whC]; rw [c2]; rfl) rfl ?_
      exact ihi hlti trivial
    · refine g_iload_n F dX1_which_18 rfl 1 rfl ?_
      refine g_iconst F (v := 1) dX1_which_19 (by decide) ?_
      refine g_iload_n F dX1_which_20 rfl 2 rfl ?_
      refine g_ishl F dX1_which_21 ?_
      refine g_ior F dX1_which_22 ?_
      refine g_istore_n F (lv' := [(0, .ref (x 0)), (1, .int ((S_whC f s1 s2 se i) ||| (1 <<< ((nI (i + 1)) &&& 31)))), (2, .int (nI (i + 1)))]) dX1_which_23 rfl (by decide) [1, 0, 2] rfl ?_
      refine g_iinc F (lv' := [(0, .ref (x 0)), (1, .int ((S_whC f s1 s2 se i) ||| (1 <<< ((nI (i + 1)) &&& 31)))), (2, .int (nI (i + 1 + 1)))]) (nI (i + 1 + 1)) dX1_which_24 2 rfl (nI_add (i + 1) 1) (by decide) [1, 2, 0] rfl ?_
      refine g_goto F 4 dX1_which_27 (by decide) ?_
      refine g_all (w0 := [(x 0, .inr (1, [.ref (bn 0), .ref (bt 0), .ref (x 1), .int (nI ac), .ref (x 2), .int kb, .ref (x 3), .int (nI ln), .ref (x 4), .ref (x 5), .int (nI se), .long sd, .ref (x 6)])), (x 1, .inl (cQ, 14, .inr (.inr (.inr (.inr pa))))), (x 2, .inl (cQ, 2, .inr (.inr (.inr (.inr sl))))), (x 3, .inl (cI, 60, .inl tx)), (x 4, .inl (cI, 6, .inl s1)), (x 5, .inl (cI, 6, .inl s2)), (x 6, .inl (cI, 64, .inl sb))] ++ (CR cI bn f ++ (CR cI bt (S_whG f g s1 s2 se (i + 1)) ++ (Z)))) (lv0 := [(0, .ref (x 0)), (1, .int (S_whC f s1 s2 se (i + 1))), (2, .int (nI (i + 1 + 1)))]) (st0 := []) rfl (by rw [S_whC]; rw [if_pos c2]) rfl ?_
      exact ihi hlti trivial
theorem zX1_runSubsets_f10 : Cond.fieldLink RX1 10 (TX1 0).1 (TX1 0).2.1 (TX1 0).2.2.1 ∈ wsX1_runSubsets := by decide +kernel
theorem zX1_runSubsets_f16 : Cond.fieldLink RX1 16 (TX1 1).1 (TX1 1).2.1 (TX1 1).2.2.1 ∈ wsX1_runSubsets := by decide +kernel
theorem zX1_runSubsets_f53 : Cond.fieldLink RX1 53 (TX1 12).1 (TX1 12).2.1 (TX1 12).2.2.1 ∈ wsX1_runSubsets := by decide +kernel
theorem zX1_runSubsets_inX1 : ∀ w ∈ u_ws RX1 TX1 13, w ∈ wsX1_runSubsets := by decide +kernel
set_option maxHeartbeats 1000000 in
set_option maxRecDepth 100000 in
theorem kX1_runSubsets (l : Launch) (D : va_G) (cI cZ cQ : ClassId) (x bn bt : Nat → Nat) (pa sl : Nat → Option Nat) (ac : Nat) (kb : Int32) (tx : Row) (ln : Nat) (s1 s2 : Row) (se : Nat) (sd : Int64) (sb f g : Row) (Z : va_W) (t E : Nat) (ht : t ≤ 30) (hE : E < 64) (eE : S_felt f = nI E) (n G : Nat) (hI : Inv n G f) (hn0 : n ≤ 1040000) (hG0 : G ≤ 1000000) : Ct l D (gTy cI cZ cQ) yX1_runSubsets wsX1_runSubsets ({ frames := 6, cells := 0, slots := 0, locals := 134 }) [.ref (x 0), .int (nI t)] (XW cI cQ x bn bt pa sl ac kb tx ln s1 s2 se sd sb f g Z) none (XW cI cQ x bn bt pa sl ac kb tx ln s1 s2 se sd (S_put sb (S_sub f t E) 0 64) f (S_subT f g t E 64) Z) := by
  refine ct_ofV (cc := cX1_runSubsets) (nL := 5) (own := RX1) (by decide) rfl rfl ⟨rfl, rfl⟩ (Nat.le_of_ble_eq_true rfl) XW_same (fun p e s m below meth c A Q F hR => ?_)
  refine g_aw ([(x 0, .inr (1, [.ref (bn 0), .ref (bt 0), .ref (x 1), .int (nI ac), .ref (x 2), .int kb, .ref (x 3), .int (nI ln), .ref (x 4), .ref (x 5), .int (nI se), .long sd, .ref (x 6)])), (x 1, .inl (cQ, 14, .inr (.inr (.inr (.inr pa))))), (x 2, .inl (cQ, 2, .inr (.inr (.inr (.inr sl))))), (x 3, .inl (cI, 60, .inl tx)), (x 4, .inl (cI, 6, .inl s1)), (x 5, .inl (cI, 6, .inl s2)), (x 6, .inl (cI, 64, .inl sb))] ++ (CR cI bn f ++ (CR cI bt g ++ (Z)))) rfl ?_
  refine g_aload_n F dX1_runSubsets_0 rfl 0 rfl ?_
  refine g_get F (.ref (bn 0)) zX1_runSubsets_inX1 0 rfl rfl 0 (by decide) rfl zX1_runSubsets_f10 dX1_runSubsets_1 ?_
  refine g_segV F (As := []) (st := []) ([(x 0, .inr (1, [.ref (bn 0), .ref (bt 0), .ref (x 1), .int (nI ac), .ref (x 2), .int kb, .ref (x 3), .int (nI ln), .ref (x 4), .ref (x 5), .int (nI se), .long sd, .ref (x 6)])), (x 1, .inl (cQ, 14, .inr (.inr (.inr (.inr pa))))), (x 2, .inl (cQ, 2, .inr (.inr (.inr (.inr sl))))), (x 3, .inl (cI, 60, .inl tx)), (x 4, .inl (cI, 6, .inl s1)), (x 5, .inl (cI, 6, .inl s2)), (x 6, .inl (cI, 64, .inl sb))]) (CR cI bt g ++ (Z)) ([(x 0, .inr (1, [.ref (bn 0), .ref (bt 0), .ref (x 1), .int (nI ac), .ref (x 2), .int kb, .ref (x 3), .int (nI ln), .ref (x 4), .ref (x 5), .int (nI se), .long sd, .ref (x 6)])), (x 1, .inl (cQ, 14, .inr (.inr (.inr (.inr pa))))), (x 2, .inl (cQ, 2, .inr (.inr (.inr (.inr sl))))), (x 3, .inl (cI, 60, .inl tx)), (x 4, .inl (cI, 6, .inl s1)), (x 5, .inl (cI, 6, .inl s2)), (x 6, .inl (cI, 64, .inl sb))] ++ (CR cI bn f ++ (CR cI bt g ++ (Z)))) (kX0_feltBits l D cI cZ cQ bn f  ) 0 rfl rfl (cwV 0 F.2.2.2.2.1 gX1_runSubsets_X0_feltBits rfl rfl rfl (by decide +kernel) ⟨Nat.le_of_ble_eq_true rfl, Nat.le_of_ble_eq_true rfl⟩) rfl rfl rfl rfl (Nat.le_of_ble_eq_true rfl) ⟨Nat.zero_le _, Nat.zero_le _⟩ dX1_runSubsets_4 ?_
  refine g_as (nI E) eE ?_
  refine g_istore_n F (lv' := [(0, .ref (x 0)), (1, .int (nI t)), (2, .int (nI E))]) dX1_runSubsets_7 rfl (by decide) [1, 2, 0] rfl ?_
  refine g_iconst F (v := 0) dX1_runSubsets_8 (by decide) ?_
  refine g_istore_n F (lv' := [(0, .ref (x 0)), (1, .int (nI t)), (2, .int (nI E)), (3, .int 0)]) dX1_runSubsets_9 rfl (by decide) [1, 2, 3, 0] rfl ?_
  refine g_all (w0 := [(x 0, .inr (1, [.ref (bn 0), .ref (bt 0), .ref (x 1), .int (nI ac), .ref (x 2), .int kb, .ref (x 3), .int (nI ln), .ref (x 4), .ref (x 5), .int (nI se), .long sd, .ref (x 6)])), (x 1, .inl (cQ, 14, .inr (.inr (.inr (.inr pa))))), (x 2, .inl (cQ, 2, .inr (.inr (.inr (.inr sl))))), (x 3, .inl (cI, 60, .inl tx)), (x 4, .inl (cI, 6, .inl s1)), (x 5, .inl (cI, 6, .inl s2)), (x 6, .inl (cI, 64, .inl (S_put sb (S_sub f t E) 0 0)))] ++ (CR cI bn f ++ (CR cI bt (S_subT f g t E 0) ++ (Z)))) (lv0 := [(0, .ref (x 0)), (1, .int (nI t)), (2, .int (nI E)), (3, .int (nI 0))]) (st0 := []) rfl rfl rfl ?_
  refine g_for 64 (fun i => True) (fun i => [(x 0, .inr (1, [.ref (bn 0), .ref (bt 0), .ref (x 1), .int (nI ac), .ref (x 2), .int kb, .ref (x 3), .int (nI ln), .ref (x 4), .ref (x 5), .int (nI se), .long sd, .ref (x 6)])), (x 1, .inl (cQ, 14, .inr (.inr (.inr (.inr pa))))), (x 2, .inl (cQ, 2, .inr (.inr (.inr (.inr sl))))), (x 3, .inl (cI, 60, .inl tx)), (x 4, .inl (cI, 6, .inl s1)), (x 5, .inl (cI, 6, .inl s2)), (x 6, .inl (cI, 64, .inl (S_put sb (S_sub f t E) 0 i)))] ++ (CR cI bn f ++ (CR cI bt (S_subT f g t E i) ++ (Z)))) (fun i => [(0, .ref (x 0)), (1, .int (nI t)), (2, .int (nI E)), (3, .int (nI i))]) (fun i hi hIi ihi => ?_) 0 (Nat.zero_le _) trivial
  refine g_iload_n F dX1_runSubsets_10 rfl 3 rfl ?_
  refine g_bipush F (v := 64) dX1_runSubsets_11 (by decide) ?_
  refine g_icmp_ge F 82 dX1_runSubsets_13 (by decide) (fun c1 => ?_) (fun c1 => ?_)
  · have hx_c1 : 64 = i := lp_ge hi (by decide) c1
    subst hx_c1
    exact g_endV (hR _ _ dX1_runSubsets_82) rfl
  · have hlti : i < 64 := lp_lt hi (by decide) c1
    refine g_iload_n F dX1_runSubsets_16 rfl 3 rfl ?_
    refine g_iload_n F dX1_runSubsets_17 rfl 2 rfl ?_
    refine g_iand F dX1_runSubsets_18 ?_
    have hand := and_nat i hlti E hE
    refine g_as (nI (i &&& E)) hand.1 ?_
    refine g_istore F (lv' := [(0, .ref (x 0)), (1, .int (nI t)), (2, .int (nI E)), (3, .int (nI i)), (4, .int (nI (i &&& E)))]) dX1_runSubsets_19 (by decide) [1, 2, 3, 4, 0] rfl ?_
    refine g_iload F dX1_runSubsets_21 4 rfl ?_
    refine g_iload_n F dX1_runSubsets_23 rfl 3 rfl ?_
    refine g_icmp_eq F 43 dX1_runSubsets_24 (by decide) (fun c2 => ?_) (fun c2 => ?_)
    · have he : i &&& E = i := (nI_eq (by omega) (by omega)).mp c2
      refine g_aload_n F dX1_runSubsets_43 rfl 0 rfl ?_
      refine g_get F (.ref (bt 0)) zX1_runSubsets_inX1 0 rfl rfl 1 (by decide) rfl zX1_runSubsets_f16 dX1_runSubsets_44 ?_
      refine g_aload_n F dX1_runSubsets_47 rfl 0 rfl ?_
      refine g_get F (.ref (bn 0)) zX1_runSubsets_inX1 0 rfl rfl 0 (by decide) rfl zX1_runSubsets_f10 dX1_runSubsets_48 ?_
      refine g_segV F (As := [.ref (bn 0)]) (st := []) ([(x 0, .inr (1, [.ref (bn 0), .ref (bt 0), .ref (x 1), .int (nI ac), .ref (x 2), .int kb, .ref (x 3), .int (nI ln), .ref (x 4), .ref (x 5), .int (nI se), .long sd, .ref (x 6)])), (x 1, .inl (cQ, 14, .inr (.inr (.inr (.inr pa))))), (x 2, .inl (cQ, 2, .inr (.inr (.inr (.inr sl))))), (x 3, .inl (cI, 60, .inl tx)), (x 4, .inl (cI, 6, .inl s1)), (x 5, .inl (cI, 6, .inl s2)), (x 6, .inl (cI, 64, .inl (S_put sb (S_sub f t E) 0 i)))]) (Z) ([(x 0, .inr (1, [.ref (bn 0), .ref (bt 0), .ref (x 1), .int (nI ac), .ref (x 2), .int kb, .ref (x 3), .int (nI ln), .ref (x 4), .ref (x 5), .int (nI se), .long sd, .ref (x 6)])), (x 1, .inl (cQ, 14, .inr (.inr (.inr (.inr pa))))), (x 2, .inl (cQ, 2, .inr (.inr (.inr (.inr sl))))), (x 3, .inl (cI, 60, .inl tx)), (x 4, .inl (cI, 6, .inl s1)), (x 5, .inl (cI, 6, .inl s2)), (x 6, .inl (cI, 64, .inl (S_put sb (S_sub f t E) 0 i)))] ++ (CR cI bn f ++ (CR cI bt f ++ (Z)))) (kX0_takeFromS l D cI cZ cQ bt bn (S_subT f g t E i) f) 8 rfl rfl (cwV 1 F.2.2.2.2.1 gX1_runSubsets_X0_takeFrom rfl rfl rfl (by decide +kernel) ⟨Nat.le_of_ble_eq_true rfl, Nat.le_of_ble_eq_true rfl⟩) rfl rfl rfl rfl (Nat.le_of_ble_eq_true rfl) ⟨Nat.zero_le _, Nat.zero_le _⟩ dX1_runSubsets_51 ?_
      refine g_aload_n F dX1_runSubsets_54 rfl 0 rfl ?_
      refine g_get F (.ref (bt 0)) zX1_runSubsets_inX1 0 rfl rfl 1 (by decide) rfl zX1_runSubsets_f16 dX1_runSubsets_55 ?_
      refine g_iload_n F dX1_runSubsets_58 rfl 3 rfl ?_
      refine g_segV F (As := [.int (nI i)]) (st := []) ([(x 0, .inr (1, [.ref (bn 0), .ref (bt 0), .ref (x 1), .int (nI ac), .ref (x 2), .int kb, .ref (x 3), .int (nI ln), .ref (x 4), .ref (x 5), .int (nI se), .long sd, .ref (x 6)])), (x 1, .inl (cQ, 14, .inr (.inr (.inr (.inr pa))))), (x 2, .inl (cQ, 2, .inr (.inr (.inr (.inr sl))))), (x 3, .inl (cI, 60, .inl tx)), (x 4, .inl (cI, 6, .inl s1)), (x 5, .inl (cI, 6, .inl s2)), (x 6, .inl (cI, 64, .inl (S_put sb (S_sub f t E) 0 i)))] ++ (CR cI bn f)) (Z) ([(x 0, .inr (1, [.ref (bn 0), .ref (bt 0), .ref (x 1), .int (nI ac), .ref (x 2), .int kb, .ref (x 3), .int (nI ln), .ref (x 4), .ref (x 5), .int (nI se), .long sd, .ref (x 6)])), (x 1, .inl (cQ, 14, .inr (.inr (.inr (.inr pa))))), (x 2, .inl (cQ, 2, .inr (.inr (.inr (.inr sl))))), (x 3, .inl (cI, 60, .inl tx)), (x 4, .inl (cI, 6, .inl s1)), (x 5, .inl (cI, 6, .inl s2)), (x 6, .inl (cI, 64, .inl (S_put sb (S_sub f t E) 0 i)))] ++ (CR cI bn f ++ (CR cI bt (S_only f (nI i)) ++ (Z)))) (kX0_leaveOnly l D cI cZ cQ bt f (nI i) ) 0 rfl rfl (cwV 1 F.2.2.2.2.1 gX1_runSubsets_X0_leaveOnly rfl rfl rfl (by decide +kernel) ⟨Nat.le_of_ble_eq_true rfl, Nat.le_of_ble_eq_true rfl⟩) rfl rfl rfl rfl (Nat.le_of_ble_eq_true rfl) ⟨Nat.zero_le _, Nat.zero_le _⟩ dX1_runSubsets_59 ?_
      refine g_aload_n F dX1_runSubsets_62 rfl 0 rfl ?_
      refine g_get F (.ref (x 6)) zX1_runSubsets_inX1 0 rfl rfl 12 (by decide) rfl zX1_runSubsets_f53 dX1_runSubsets_63 ?_
      refine g_iload_n F dX1_runSubsets_66 rfl 3 rfl ?_
      refine g_aload_n F dX1_runSubsets_67 rfl 0 rfl ?_
      refine g_get F (.ref (bt 0)) zX1_runSubsets_inX1 0 rfl rfl 1 (by decide) rfl zX1_runSubsets_f16 dX1_runSubsets_68 ?_
      refine g_iload_n F dX1_runSubsets_71 rfl 1 rfl ?_
      refine g_segV F (As := [.int (nI t)]) (st := [.int (nI i), .ref (x 6)]) ([(x 0, .inr (1, [.ref (bn 0), .ref (bt 0), .ref (x 1), .int (nI ac), .ref (x 2), .int kb, .ref (x 3), .int (nI ln), .ref (x 4), .ref (x 5), .int (nI se), .long sd, .ref (x 6)])), (x 1, .inl (cQ, 14, .inr (.inr (.inr (.inr pa))))), (x 2, .inl (cQ, 2, .inr (.inr (.inr (.inr sl))))), (x 3, .inl (cI, 60, .inl tx)), (x 4, .inl (cI, 6, .inl s1)), (x 5, .inl (cI, 6, .inl s2)), (x 6, .inl (cI, 64, .inl (S_put sb (S_sub f t E) 0 i)))] ++ (CR cI bn f)) (Z) ([(x 0, .inr (1, [.ref (bn 0), .ref (bt 0), .ref (x 1), .int (nI ac), .ref (x 2), .int kb, .ref (x 3), .int (nI ln), .ref (x 4), .ref (x 5), .int (nI se), .long sd, .ref (x 6)])), (x 1, .inl (cQ, 14, .inr (.inr (.inr (.inr pa))))), (x 2, .inl (cQ, 2, .inr (.inr (.inr (.inr sl))))), (x 3, .inl (cI, 60, .inl tx)), (x 4, .inl (cI, 6, .inl s1)), (x 5, .inl (cI, 6, .inl s2)), (x 6, .inl (cI, 64, .inl (S_put sb (S_sub f t E) 0 i)))] ++ (CR cI bn f ++ (CR cI bt (S_ticks (S_only f (nI i)) t) ++ (Z)))) (kX0_run l D cI cZ cQ bt (S_only f (nI i)) t n G (by omega) (Inv_only hI hlti) (by omega) (by omega)) 0 rfl rfl (cwV 1 F.2.2.2.2.1 gX1_runSubsets_X0_run rfl rfl rfl (by decide +kernel) ⟨Nat.le_of_ble_eq_true rfl, Nat.le_of_ble_eq_true rfl⟩) rfl rfl rfl rfl (Nat.le_of_ble_eq_true rfl) ⟨Nat.zero_le _, Nat.zero_le _⟩ dX1_runSubsets_72 ?_
      refine g_iast F (j := i) ([(x 0, .inr (1, [.ref (bn 0), .ref (bt 0), .ref (x 1), .int (nI ac), .ref (x 2), .int kb, .ref (x 3), .int (nI ln), .ref (x 4), .ref (x 5), .int (nI se), .long sd, .ref (x 6)])), (x 1, .inl (cQ, 14, .inr (.inr (.inr (.inr pa))))), (x 2, .inl (cQ, 2, .inr (.inr (.inr (.inr sl))))), (x 3, .inl (cI, 60, .inl tx)), (x 4, .inl (cI, 6, .inl s1)), (x 5, .inl (cI, 6, .inl s2)), (x 6, .inl (cI, 64, .inl (upd (S_put sb (S_sub f t E) 0 i) i (S_pass (S_only f (nI i)) t))))] ++ (CR cI bn f ++ (CR cI bt (S_ticks (S_only f (nI i)) t) ++ (Z)))) 6 0 rfl rfl (by omega) (by decide) dX1_runSubsets_75 rfl ?_
      refine g_iinc F (lv' := [(0, .ref (x 0)), (1, .int (nI t)), (2, .int (nI E)), (3, .int (nI (i + 1))), (4, .int (nI (i &&& E)))]) (nI (i + 1)) dX1_runSubsets_76 3 rfl (nI_add i 1) (by decide) [1, 2, 3, 0, 4] rfl ?_
      refine g_goto F 10 dX1_runSubsets_79 (by decide) ?_
      refine g_lvs (lv' := [(0, .ref (x 0)), (1, .int (nI t)), (2, .int (nI E)), (3, .int (nI (i + 1)))]) [0, 1, 2, 3] rfl ?_
      refine g_all (w0 := [(x 0, .inr (1, [.ref (bn 0), .ref (bt 0), .ref (x 1), .int (nI ac), .ref (x 2), .int kb, .ref (x 3), .int (nI ln), .ref (x 4), .ref (x 5), .int (nI se), .long sd, .ref (x 6)])), (x 1, .inl (cQ, 14, .inr (.inr (.inr (.inr pa))))), (x 2, .inl (cQ, 2, .inr (.inr (.inr (.inr sl))))), (x 3, .inl (cI, 60, .inl tx)), (x 4, .inl (cI, 6, .inl s1)), (x 5, .inl (cI, 6, .inl s2)), (x 6, .inl (cI, 64, .inl (S_put sb (S_sub f t E) 0 (i + 1))))] ++ (CR cI bn f ++ (CR cI bt (S_subT f g t E (i + 1)) ++ (Z)))) (lv0 := [(0, .ref (x 0)), (1, .int (nI t)), (2, .int (nI E)), (3, .int (nI (i + 1)))]) (st0 := []) (by rw [S_put_s, Nat.zero_add, S_subT_t he, sub_t he]) rfl rfl ?_
      exact ihi hlti trivial
    · have hne : ¬ i &&& E = i := fun q => c2 (by rw [q])
      refine g_aload_n F dX1_runSubsets_27 rfl 0 rfl ?_
      refine g_get F (.ref (x 6)) zX1_runSubsets_inX1 0 rfl rfl 12 (by decide) rfl zX1_runSubsets_f53 dX1_runSubsets_28 ?_
      refine g_iload_n F dX1_runSubsets_31 rfl 3 rfl ?_
      refine g_aload_n F dX1_runSubsets_32 rfl 0 rfl ?_
      refine g_get F (.ref (x 6)) zX1_runSubsets_inX1 0 rfl rfl 12 (by decide) rfl zX1_runSubsets_f53 dX1_runSubsets_33 ?_
      refine g_iload F dX1_runSubsets_36 4 rfl ?_
      refine g_iald F (j := i &&& E) 6 0 rfl rfl (by omega) (by decide) dX1_runSubsets_38 ?_
      refine g_as (S_sub f t E i) (sub_f hand.2.2.1 hne hand.2.2.2) ?_
      refine g_iast F (j := i) ([(x 0, .inr (1, [.ref (bn 0), .ref (bt 0), .ref (x 1), .int (nI ac), .ref (x 2), .int kb, .ref (x 3), .int (nI ln), .ref (x 4), .ref (x 5), .int (nI se), .long sd, .ref (x 6)])), (x 1, .inl (cQ, 14, .inr (.inr (.inr (.inr pa))))), (x 2, .inl (cQ, 2, .inr (.inr (.inr (.inr sl))))), (x 3, .inl (cI, 60, .inl tx)), (x 4, .inl (cI, 6, .inl s1)), (x 5, .inl (cI, 6, .inl s2)), (x 6, .inl (cI, 64, .inl (upd (S_put sb (S_sub f t E) 0 i) i (S_sub f t E i))))] ++ (CR cI bn f ++ (CR cI bt (S_subT f g t E i) ++ (Z)))) 6 0 rfl rfl (by omega) (by decide) dX1_runSubsets_39 rfl ?_
      refine g_goto F 76 dX1_runSubsets_40 (by decide) ?_
      refine g_iinc F (lv' := [(0, .ref (x 0)), (1, .int (nI t)), (2, .int (nI E)), (3, .int (nI (i + 1))), (4, .int (nI (i &&& E)))]) (nI (i + 1)) dX1_runSubsets_76 3 rfl (nI_add i 1) (by decide) [1, 2, 3, 0, 4] rfl ?_
      refine g_goto F 10 dX1_runSubsets_79 (by decide) ?_
      refine g_lvs (lv' := [(0, .ref (x 0)), (1, .int (nI t)), (2, .int (nI E)), (3, .int (nI (i + 1)))]) [0, 1, 2, 3] rfl ?_
      refine g_all (w0 := [(x 0, .inr (1, [.ref (bn 0), .ref (bt 0), .ref (x 1), .int (nI ac), .ref (x 2), .int kb, .ref (x 3), .int (nI ln), .ref (x 4), .ref (x 5), .int (nI se), .long sd, .ref (x 6)])), (x 1, .inl (cQ, 14, .inr (.inr (.inr (.inr pa))))), (x 2, .inl (cQ, 2, .inr (.inr (.inr (.inr sl))))), (x 3, .inl (cI, 60, .inl tx)), (x 4, .inl (cI, 6, .inl s1)), (x 5, .inl (cI, 6, .inl s2)), (x 6, .inl (cI, 64, .inl (S_put sb (S_sub f t E) 0 (i + 1))))] ++ (CR cI bn f ++ (CR cI bt (S_subT f g t E (i + 1)) ++ (Z)))) (lv0 := [(0, .ref (x 0)), (1, .int (nI t)), (2, .int (nI E)), (3, .int (nI (i + 1)))]) (st0 := []) (by rw [S_put_s, Nat.zero_add, S_subT_f hne]) rfl rfl ?_
      exact ihi hlti trivial
set_option maxHeartbeats 1000000 in
set_option maxRecDepth 100000 in
theorem kX1_chance_bad (l : Launch) (D : va_G) (cI cZ cQ : ClassId) (x bn bt : Nat → Nat) (pa sl : Nat → Option Nat) (ac : Nat) (kb : Int32) (tx : Row) (ln : Nat) (s1 s2 : Row) (se : Nat) (sd : Int64) (sb f g : Row) (Z : va_W) (v u up : Int32) (hb : ¬ (¬ v < 0 ∧ v ≤ 99 ∧ ¬ u < 0 ∧ u ≤ 10)) : Ct l D (gTy cI cZ cQ) yX1_chance wsX1_chance ({ frames := 9, cells := 0, slots := 0, locals := 340 }) [.ref (x 0), .int v, .int u, .int up] (XW cI cQ x bn bt pa sl ac kb tx ln s1 s2 se sd sb f g Z) (some (.int (-2))) (XW cI cQ x bn bt pa sl ac kb tx ln s1 s2 se sd sb f g Z) := by
  refine ct_ofI (cc := cX1_chance) (nL := 6) (own := RX1) (by decide) rfl rfl ⟨rfl, rfl⟩ (Nat.le_of_ble_eq_true rfl) XW_same (fun p e s m below meth c A Q F hR => ?_)
  refine g_aw ([(x 0, .inr (1, [.ref (bn 0), .ref (bt 0), .ref (x 1), .int (nI ac), .ref (x 2), .int kb, .ref (x 3), .int (nI ln), .ref (x 4), .ref (x 5), .int (nI se), .long sd, .ref (x 6)])), (x 1, .inl (cQ, 14, .inr (.inr (.inr (.inr pa))))), (x 2, .inl (cQ, 2, .inr (.inr (.inr (.inr sl))))), (x 3, .inl (cI, 60, .inl tx)), (x 4, .inl (cI, 6, .inl s1)), (x 5, .inl (cI, 6, .inl s2)), (x 6, .inl (cI, 64, .inl sb))] ++ (CR cI bn f ++ (CR cI bt g ++ (Z)))) rfl ?_
  refine g_iload_n F dX1_chance_0 rfl 1 rfl ?_
  refine g_if_lt F 20 dX1_chance_1 (by decide) (fun c1 => ?_) (fun c1 => ?_)
  · refine g_bipush F (v := (-2)) dX1_chance_20 (by decide) ?_
    exact g_endI (hR _ _ dX1_chance_22) rfl rfl
  · refine g_iload_n F dX1_chance_4 rfl 1 rfl ?_
    refine g_bipush F (v := 99) dX1_chance_5 (by decide) ?_
    refine g_icmp_gt F 20 dX1_chance_7 (by decide) (fun c2 => ?_) (fun c2 => ?_)
    · refine g_bipush F (v := (-2)) dX1_chance_20 (by decide) ?_
      exact g_endI (hR _ _ dX1_chance_22) rfl rfl
    · refine g_iload_n F dX1_chance_10 rfl 2 rfl ?_
      refine g_if_lt F 20 dX1_chance_11 (by decide) (fun c3 => ?_) (fun c3 => ?_)
      · refine g_bipush F (v := (-2)) dX1_chance_20 (by decide) ?_
        exact g_endI (hR _ _ dX1_chance_22) rfl rfl
      · refine g_iload_n F dX1_chance_14 rfl 2 rfl ?_
        refine g_bipush F (v := 10) dX1_chance_15 (by decide) ?_
        refine g_icmp_le F 23 dX1_chance_17 (by decide) (fun c4 => ?_) (fun c4 => ?_)
        · exact absurd ⟨c1, Int32.not_lt.mp c2, c3, c4⟩ hb
        · refine g_bipush F (v := (-2)) dX1_chance_20 (by decide) ?_
          exact g_endI (hR _ _ dX1_chance_22) rfl rfl
theorem zX1_chance_c187 : Cond.constant RX1 187 (1000000) ∈ wsX1_chance := by decide +kernel
theorem zX1_chance_f53 : Cond.fieldLink RX1 53 (TX1 12).1 (TX1 12).2.1 (TX1 12).2.2.1 ∈ wsX1_chance := by decide +kernel
theorem zX1_chance_inX1 : ∀ w ∈ u_ws RX1 TX1 13, w ∈ wsX1_chance := by decide +kernel
set_option maxHeartbeats 1000000 in
set_option maxRecDepth 100000 in
theorem kX1_chance_ok (l : Launch) (D : va_G) (cI cZ cQ : ClassId) (x bn bt : Nat → Nat) (pa sl : Nat → Option Nat) (ac : Nat) (kb : Int32) (tx : Row) (ln : Nat) (s1 s2 : Row) (se : Nat) (sd : Int64) (sb f g : Row) (Z : va_W) (v : Int32) (q : Nat) (up : Int32) (hv : ¬ v < 0 ∧ v ≤ 99) (hq : q ≤ 10) (E : Nat) (hE : E < 64) (eE : S_felt f = nI E) (X : Nat) (hX : S_abs (S_chS (S_sub f 20 E) v q 64) = nI X) (hX1 : X < 2 ^ 31) (n G : Nat) (hI : Inv n G f) (hn0 : n ≤ 1040000) (hG0 : G ≤ 1000000) : Ct l D (gTy cI cZ cQ) yX1_chance wsX1_chance ({ frames := 9, cells := 0, slots := 0, locals := 340 }) [.ref (x 0), .int v, .int (nI q), .int up] (XW cI cQ x bn bt pa sl ac kb tx ln s1 s2 se sd sb f g Z) (some (.int (S_frac (S_chS (S_sub f 20 E) v q 64) (Nat.gcd X 1000000) 1000000 up))) (XW cI cQ x bn bt pa sl ac kb tx ln s1 s2 se sd (S_put sb (S_sub f 20 E) 0 64) f (S_subT f g 20 E 64) Z) := by
  refine ct_ofI (cc := cX1_chance) (nL := 6) (own := RX1) (by decide) rfl rfl ⟨rfl, rfl⟩ (Nat.le_of_ble_eq_true rfl) XW_same (fun p e s m below meth c A Q F hR => ?_)
  refine g_aw ([(x 0, .inr (1, [.ref (bn 0), .ref (bt 0), .ref (x 1), .int (nI ac), .ref (x 2), .int kb, .ref (x 3), .int (nI ln), .ref (x 4), .ref (x 5), .int (nI se), .long sd, .ref (x 6)])), (x 1, .inl (cQ, 14, .inr (.inr (.inr (.inr pa))))), (x 2, .inl (cQ, 2, .inr (.inr (.inr (.inr sl))))), (x 3, .inl (cI, 60, .inl tx)), (x 4, .inl (cI, 6, .inl s1)), (x 5, .inl (cI, 6, .inl s2)), (x 6, .inl (cI, 64, .inl sb))] ++ (CR cI bn f ++ (CR cI bt g ++ (Z)))) rfl ?_
  refine g_iload_n F dX1_chance_0 rfl 1 rfl ?_
  refine g_if_lt F 20 dX1_chance_1 (by decide) (fun c1 => ?_) (fun c1 => ?_)
  · exact absurd c1 hv.1
  · refine g_iload_n F dX1_chance_4 rfl 1 rfl ?_
    refine g_bipush F (v := 99) dX1_chance_5 (by decide) ?_
    refine g_icmp_gt F 20 dX1_chance_7 (by decide) (fun c2 => ?_) (fun c2 => ?_)
    · exact absurd hv.2 (Int32.not_le.mpr c2)
    · refine g_iload_n F dX1_chance_10 rfl 2 rfl ?_
      refine g_if_lt F 20 dX1_chance_11 (by decide) (fun c3 => ?_) (fun c3 => ?_)
      · exact absurd c3 (nI_pos (by omega))
      · refine g_iload_n F dX1_chance_14 rfl 2 rfl ?_
        refine g_bipush F (v := 10) dX1_chance_15 (by decide) ?_
        refine g_icmp_le F 23 dX1_chance_17 (by decide) (fun c4 => ?_) (fun c4 => ?_)
        · refine g_aload_n F dX1_chance_23 rfl 0 rfl ?_
          refine g_bipush F (v := 20) dX1_chance_24 (by decide) ?_
          refine g_callVs F (As := [.int 20]) (st := []) (kX1_runSubsets l D cI cZ cQ x bn bt pa sl ac kb tx ln s1 s2 se sd sb f g Z 20 E (by decide) hE eE n G hI hn0 hG0) 0 rfl rfl (cwV 1 F.2.2.2.2.1 gX1_chance_X1_runSubsets rfl rfl rfl (by decide +kernel) ⟨Nat.le_of_ble_eq_true rfl, Nat.le_of_ble_eq_true rfl⟩) rfl rfl (Nat.le_of_ble_eq_true rfl) ⟨Nat.zero_le _, Nat.zero_le _⟩ dX1_chance_26 ?_
          refine g_iconst F (v := 0) dX1_chance_29 (by decide) ?_
          refine g_istore F (lv' := [(0, .ref (x 0)), (1, .int v), (2, .int (nI q)), (3, .int up), (4, .int 0)]) dX1_chance_30 (by decide) [1, 2, 3, 4, 0] rfl ?_
          refine g_iconst F (v := 0) dX1_chance_32 (by decide) ?_
          refine g_istore F (lv' := [(0, .ref (x 0)), (1, .int v), (2, .int (nI q)), (3, .int up), (4, .int 0), (5, .int 0)]) dX1_chance_33 (by decide) [1, 2, 3, 4, 5, 0] rfl ?_
          refine g_all (w0 := [(x 0, .inr (1, [.ref (bn 0), .ref (bt 0), .ref (x 1), .int (nI ac), .ref (x 2), .int kb, .ref (x 3), .int (nI ln), .ref (x 4), .ref (x 5), .int (nI se), .long sd, .ref (x 6)])), (x 1, .inl (cQ, 14, .inr (.inr (.inr (.inr pa))))), (x 2, .inl (cQ, 2, .inr (.inr (.inr (.inr sl))))), (x 3, .inl (cI, 60, .inl tx)), (x 4, .inl (cI, 6, .inl s1)), (x 5, .inl (cI, 6, .inl s2)), (x 6, .inl (cI, 64, .inl (S_put sb (S_sub f 20 E) 0 64)))] ++ (CR cI bn f ++ (CR cI bt (S_subT f g 20 E 64) ++ (Z)))) (lv0 := [(0, .ref (x 0)), (1, .int v), (2, .int (nI q)), (3, .int up), (4, .int (S_chS (S_sub f 20 E) v q 0)), (5, .int (nI 0))]) (st0 := []) rfl rfl rfl ?_
          refine g_for 64 (fun i => True) (fun i => [(x 0, .inr (1, [.ref (bn 0), .ref (bt 0), .ref (x 1), .int (nI ac), .ref (x 2), .int kb, .ref (x 3), .int (nI ln), .ref (x 4), .ref (x 5), .int (nI se), .long sd, .ref (x 6)])), (x 1, .inl (cQ, 14, .inr (.inr (.inr (.inr pa))))), (x 2, .inl (cQ, 2, .inr (.inr (.inr (.inr sl))))), (x 3, .inl (cI, 60, .inl tx)), (x 4, .inl (cI, 6, .inl s1)), (x 5, .inl (cI, 6, .inl s2)), (x 6, .inl (cI, 64, .inl (S_put sb (S_sub f 20 E) 0 64)))] ++ (CR cI bn f ++ (CR cI bt (S_subT f g 20 E 64) ++ (Z)))) (fun i => [(0, .ref (x 0)), (1, .int v), (2, .int (nI q)), (3, .int up), (4, .int (S_chS (S_sub f 20 E) v q i)), (5, .int (nI i))]) (fun i hi hIi ihi => ?_) 0 (Nat.zero_le _) trivial
          refine g_iload F dX1_chance_35 5 rfl ?_
          refine g_bipush F (v := 64) dX1_chance_37 (by decide) ?_
          refine g_icmp_ge F 70 dX1_chance_39 (by decide) (fun c5 => ?_) (fun c5 => ?_)
          · have hx_c5 : 64 = i := lp_ge hi (by decide) c5
            subst hx_c5
            refine g_iload F dX1_chance_70 4 rfl ?_
            refine g_ldc F zX1_chance_c187 dX1_chance_72 ?_
            refine g_iload_n F dX1_chance_74 rfl 3 rfl ?_
            refine g_callSn F (As := [.int (S_chS (S_sub f 20 E) v q 64), .int 1000000, .int up]) (st := []) (kX1_fraction l D cI cZ cQ (S_chS (S_sub f 20 E) v q 64) up X 1000000 hX hX1 (by decide) (by decide)) (va_cwS 3 F.2.2.2.2.1 gX1_chance_X1_fraction rfl rfl rfl (by decide +kernel) ⟨Nat.le_of_ble_eq_true rfl, Nat.le_of_ble_eq_true rfl⟩) rfl rfl (Nat.le_of_ble_eq_true rfl) ⟨Nat.zero_le _, Nat.zero_le _⟩ dX1_chance_75 ?_
            exact g_endI (hR _ _ dX1_chance_78) rfl rfl
          · have hlti : i < 64 := lp_lt hi (by decide) c5
            refine g_aload_n F dX1_chance_42 rfl 0 rfl ?_
            refine g_get F (.ref (x 6)) zX1_chance_inX1 0 rfl rfl 12 (by decide) rfl zX1_chance_f53 dX1_chance_43 ?_
            refine g_iload F dX1_chance_46 5 rfl ?_
            refine g_iald F (j := i) 6 0 rfl rfl (by omega) (by decide) dX1_chance_48 ?_
            refine g_as (S_sub f 20 E i) (S_put_0 sb (S_sub f 20 E) 64 i hlti) ?_
            refine g_iload_n F dX1_chance_49 rfl 1 rfl ?_
            refine g_icmp_lt F 64 dX1_chance_50 (by decide) (fun c6 => ?_) (fun c6 => ?_)
            · refine g_iinc F (lv' := [(0, .ref (x 0)), (1, .int v), (2, .int (nI q)), (3, .int up), (4, .int (S_chS (S_sub f 20 E) v q i)), (5, .int (nI (i + 1)))]) (nI (i + 1)) dX1_chance_64 5 rfl (nI_add i 1) (by decide) [1, 2, 3, 4, 5, 0] rfl ?_
              refine g_goto F 35 dX1_chance_67 (by decide) ?_
              refine g_all (w0 := [(x 0, .inr (1, [.ref (bn 0), .ref (bt 0), .ref (x 1), .int (nI ac), .ref (x 2), .int kb, .ref (x 3), .int (nI ln), .ref (x 4), .ref (x 5), .int (nI se), .long sd, .ref (x 6)])), (x 1, .inl (cQ, 14, .inr (.inr (.inr (.inr pa))))), (x 2, .inl (cQ, 2, .inr (.inr (.inr (.inr sl))))), (x 3, .inl (cI, 60, .inl tx)), (x 4, .inl (cI, 6, .inl s1)), (x 5, .inl (cI, 6, .inl s2)), (x 6, .inl (cI, 64, .inl (S_put sb (S_sub f 20 E) 0 64)))] ++ (CR cI bn f ++ (CR cI bt (S_subT f g 20 E 64) ++ (Z)))) (lv0 := [(0, .ref (x 0)), (1, .int v), (2, .int (nI q)), (3, .int up), (4, .int (S_chS (S_sub f 20 E) v q (i + 1))), (5, .int (nI (i + 1)))]) (st0 := []) rfl (by rw [S_chS, if_pos c6]) rfl ?_
              exact ihi hlti trivial
            · refine g_iload F dX1_chance_53 4 rfl ?_
              refine g_iload F dX1_chance_55 5 rfl ?_
              refine g_iload_n F dX1_chance_57 rfl 2 rfl ?_
              refine g_callSn F (As := [.int (nI i), .int (nI q)]) (st := [.int (S_chS (S_sub f 20 E) v q i)]) (kX1_likelihood l D cI cZ cQ (nI i) (nI q)) (va_cwS 2 F.2.2.2.2.1 gX1_chance_X1_likelihood rfl rfl rfl (by decide +kernel) ⟨Nat.le_of_ble_eq_true rfl, Nat.le_of_ble_eq_true rfl⟩) rfl rfl (Nat.le_of_ble_eq_true rfl) ⟨Nat.zero_le _, Nat.zero_le _⟩ dX1_chance_58 ?_
              refine g_iadd F dX1_chance_61 ?_
              refine g_istore F (lv' := [(0, .ref (x 0)), (1, .int v), (2, .int (nI q)), (3, .int up), (4, .int ((S_chS (S_sub f 20 E) v q i) + (S_lik (nI i) (nI q)))), (5, .int (nI i))]) dX1_chance_62 (by decide) [1, 2, 3, 4, 0, 5] rfl ?_
              refine g_iinc F (lv' := [(0, .ref (x 0)), (1, .int v), (2, .int (nI q)), (3, .int up), (4, .int ((S_chS (S_sub f 20 E) v q i) + (S_lik (nI i) (nI q)))), (5, .int (nI (i + 1)))]) (nI (i + 1)) dX1_chance_64 5 rfl (nI_add i 1) (by decide) [1, 2, 3, 4, 5, 0] rfl ?_
              refine g_goto F 35 dX1_chance_67 (by decide) ?_
              refine g_all (w0 := [(x 0, .inr (1, [.ref (bn 0), .ref (bt 0), .ref (x 1), .int (nI ac), .ref (x 2), .int kb, .ref (x 3), .int (nI ln), .ref (x 4), .ref (x 5), .int (nI se), .long sd, .ref (x 6)])), (x 1, .inl (cQ, 14, .inr (.inr (.inr (.inr pa))))), (x 2, .inl (cQ, 2, .inr (.inr (.inr (.inr sl))))), (x 3, .inl (cI, 60, .inl tx)), (x 4, .inl (cI, 6, .inl s1)), (x 5, .inl (cI, 6, .inl s2)), (x 6, .inl (cI, 64, .inl (S_put sb (S_sub f 20 E) 0 64)))] ++ (CR cI bn f ++ (CR cI bt (S_subT f g 20 E 64) ++ (Z)))) (lv0 := [(0, .ref (x 0)), (1, .int v), (2, .int (nI q)), (3, .int up), (4, .int (S_chS (S_sub f 20 E) v q (i + 1))), (5, .int (nI (i + 1)))]) (st0 := []) rfl (by rw [S_chS, if_neg c6]) rfl ?_
              exact ihi hlti trivial
        · exact absurd (nI_le (b := 10) hq (by decide)) c4
set_option maxHeartbeats 1000000 in
set_option maxRecDepth 100000 in
theorem kX1_drawn_bad (l : Launch) (D : va_G) (cI cZ cQ : ClassId) (x bn bt : Nat → Nat) (pa sl : Nat → Option Nat) (ac : Nat) (kb : Int32) (tx : Row) (ln : Nat) (s1 s2 : Row) (se : Nat) (sd : Int64) (sb f g : Row) (Z : va_W) (v : Int32) (hb : ¬ (¬ v < 1 ∧ v ≤ 40)) : Ct l D (gTy cI cZ cQ) yX1_drawn wsX1_drawn ({ frames := 9, cells := 0, slots := 0, locals := 320 }) [.ref (x 0), .int v] (XW cI cQ x bn bt pa sl ac kb tx ln s1 s2 se sd sb f g Z) (some (.int (-2))) (XW cI cQ x bn bt pa sl ac kb tx ln s1 s2 se sd sb f g Z) := by
  refine ct_ofI (cc := cX1_drawn) (nL := 5) (own := RX1) (by decide) rfl rfl ⟨rfl, rfl⟩ (Nat.le_of_ble_eq_true rfl) XW_same (fun p e s m below meth c A Q F hR => ?_)
  refine g_aw ([(x 0, .inr (1, [.ref (bn 0), .ref (bt 0), .ref (x 1), .int (nI ac), .ref (x 2), .int kb, .ref (x 3), .int (nI ln), .ref (x 4), .ref (x 5), .int (nI se), .long sd, .ref (x 6)])), (x 1, .inl (cQ, 14, .inr (.inr (.inr (.inr pa))))), (x 2, .inl (cQ, 2, .inr (.inr (.inr (.inr sl))))), (x 3, .inl (cI, 60, .inl tx)), (x 4, .inl (cI, 6, .inl s1)), (x 5, .inl (cI, 6, .inl s2)), (x 6, .inl (cI, 64, .inl sb))] ++ (CR cI bn f ++ (CR cI bt g ++ (Z)))) rfl ?_
  refine g_iload_n F dX1_drawn_0 rfl 1 rfl ?_
  refine g_iconst F (v := 1) dX1_drawn_1 (by decide) ?_
  refine g_icmp_lt F 11 dX1_drawn_2 (by decide) (fun c1 => ?_) (fun c1 => ?_)
  · refine g_bipush F (v := (-2)) dX1_drawn_11 (by decide) ?_
    exact g_endI (hR _ _ dX1_drawn_13) rfl rfl
  · refine g_iload_n F dX1_drawn_5 rfl 1 rfl ?_
    refine g_bipush F (v := 40) dX1_drawn_6 (by decide) ?_
    refine g_icmp_le F 14 dX1_drawn_8 (by decide) (fun c2 => ?_) (fun c2 => ?_)
    · exact absurd ⟨c1, c2⟩ hb
    · refine g_bipush F (v := (-2)) dX1_drawn_11 (by decide) ?_
      exact g_endI (hR _ _ dX1_drawn_13) rfl rfl
theorem zX1_drawn_c191 : Cond.constantLong RX1 191 (6364136223846793005) ∈ wsX1_drawn := by decide +kernel
theorem zX1_drawn_c193 : Cond.constantLong RX1 193 (1442695040888963407) ∈ wsX1_drawn := by decide +kernel
theorem zX1_drawn_f10 : Cond.fieldLink RX1 10 (TX1 0).1 (TX1 0).2.1 (TX1 0).2.2.1 ∈ wsX1_drawn := by decide +kernel
theorem zX1_drawn_f16 : Cond.fieldLink RX1 16 (TX1 1).1 (TX1 1).2.1 (TX1 1).2.2.1 ∈ wsX1_drawn := by decide +kernel
theorem zX1_drawn_f49 : Cond.fieldLink RX1 49 (TX1 11).1 (TX1 11).2.1 (TX1 11).2.2.1 ∈ wsX1_drawn := by decide +kernel
theorem zX1_drawn_inX1 : ∀ w ∈ u_ws RX1 TX1 13, w ∈ wsX1_drawn := by decide +kernel
set_option maxHeartbeats 1000000 in
set_option maxRecDepth 100000 in
theorem kX1_drawn_ok (l : Launch) (D : va_G) (cI cZ cQ : ClassId) (x bn bt : Nat → Nat) (pa sl : Nat → Option Nat) (ac : Nat) (kb : Int32) (tx : Row) (ln : Nat) (s1 s2 : Row) (se : Nat) (sd : Int64) (sb f g : Row) (Z : va_W) (m_ : Nat) (h1 : 1 ≤ m_) (hm : m_ ≤ 40) (n G : Nat) (hG1 : 1 ≤ G) (hI : Inv n G f) (hn0 : n ≤ 1040000) (hG0 : G ≤ 1000000) : Ct l D (gTy cI cZ cQ) yX1_drawn wsX1_drawn ({ frames := 9, cells := 0, slots := 0, locals := 320 }) [.ref (x 0), .int (nI m_)] (XW cI cQ x bn bt pa sl ac kb tx ln s1 s2 se sd sb f g Z) (some (.int (S_letters (S_drT f sd m_) - S_letters f))) (XW cI cQ x bn bt pa sl ac kb tx ln s1 s2 se (S_sdN sd m_) sb f (S_drT f sd m_) Z) := by
  refine ct_ofI (cc := cX1_drawn) (nL := 5) (own := RX1) (by decide) rfl rfl ⟨rfl, rfl⟩ (Nat.le_of_ble_eq_true rfl) XW_same (fun p e s m below meth c A Q F hR => ?_)
  refine g_aw ([(x 0, .inr (1, [.ref (bn 0), .ref (bt 0), .ref (x 1), .int (nI ac), .ref (x 2), .int kb, .ref (x 3), .int (nI ln), .ref (x 4), .ref (x 5), .int (nI se), .long sd, .ref (x 6)])), (x 1, .inl (cQ, 14, .inr (.inr (.inr (.inr pa))))), (x 2, .inl (cQ, 2, .inr (.inr (.inr (.inr sl))))), (x 3, .inl (cI, 60, .inl tx)), (x 4, .inl (cI, 6, .inl s1)), (x 5, .inl (cI, 6, .inl s2)), (x 6, .inl (cI, 64, .inl sb))] ++ (CR cI bn f ++ (CR cI bt g ++ (Z)))) rfl ?_
  refine g_iload_n F dX1_drawn_0 rfl 1 rfl ?_
  refine g_iconst F (v := 1) dX1_drawn_1 (by decide) ?_
  refine g_icmp_lt F 11 dX1_drawn_2 (by decide) (fun c1 => ?_) (fun c1 => ?_)
  · exact absurd ((nI_ltI (b := 1) (by omega) (by decide)).mp c1) (by omega)
  · refine g_iload_n F dX1_drawn_5 rfl 1 rfl ?_
    refine g_bipush F (v := 40) dX1_drawn_6 (by decide) ?_
    refine g_icmp_le F 14 dX1_drawn_8 (by decide) (fun c2 => ?_) (fun c2 => ?_)
    · refine g_aload_n F dX1_drawn_14 rfl 0 rfl ?_
      refine g_get F (.ref (bt 0)) zX1_drawn_inX1 0 rfl rfl 1 (by decide) rfl zX1_drawn_f16 dX1_drawn_15 ?_
      refine g_aload_n F dX1_drawn_18 rfl 0 rfl ?_
      refine g_get F (.ref (bn 0)) zX1_drawn_inX1 0 rfl rfl 0 (by decide) rfl zX1_drawn_f10 dX1_drawn_19 ?_
      refine g_segV F (As := [.ref (bn 0)]) (st := []) ([(x 0, .inr (1, [.ref (bn 0), .ref (bt 0), .ref (x 1), .int (nI ac), .ref (x 2), .int kb, .ref (x 3), .int (nI ln), .ref (x 4), .ref (x 5), .int (nI se), .long sd, .ref (x 6)])), (x 1, .inl (cQ, 14, .inr (.inr (.inr (.inr pa))))), (x 2, .inl (cQ, 2, .inr (.inr (.inr (.inr sl))))), (x 3, .inl (cI, 60, .inl tx)), (x 4, .inl (cI, 6, .inl s1)), (x 5, .inl (cI, 6, .inl s2)), (x 6, .inl (cI, 64, .inl sb))]) (Z) ([(x 0, .inr (1, [.ref (bn 0), .ref (bt 0), .ref (x 1), .int (nI ac), .ref (x 2), .int kb, .ref (x 3), .int (nI ln), .ref (x 4), .ref (x 5), .int (nI se), .long sd, .ref (x 6)])), (x 1, .inl (cQ, 14, .inr (.inr (.inr (.inr pa))))), (x 2, .inl (cQ, 2, .inr (.inr (.inr (.inr sl))))), (x 3, .inl (cI, 60, .inl tx)), (x 4, .inl (cI, 6, .inl s1)), (x 5, .inl (cI, 6, .inl s2)), (x 6, .inl (cI, 64, .inl sb))] ++ (CR cI bn f ++ (CR cI bt f ++ (Z)))) (kX0_takeFromS l D cI cZ cQ bt bn g f) 8 rfl rfl (cwV 1 F.2.2.2.2.1 gX1_drawn_X0_takeFrom rfl rfl rfl (by decide +kernel) ⟨Nat.le_of_ble_eq_true rfl, Nat.le_of_ble_eq_true rfl⟩) rfl rfl rfl rfl (Nat.le_of_ble_eq_true rfl) ⟨Nat.zero_le _, Nat.zero_le _⟩ dX1_drawn_22 ?_
      refine g_aload_n F dX1_drawn_25 rfl 0 rfl ?_
      refine g_get F (.ref (bt 0)) zX1_drawn_inX1 0 rfl rfl 1 (by decide) rfl zX1_drawn_f16 dX1_drawn_26 ?_
      refine g_segV F (As := []) (st := []) ([(x 0, .inr (1, [.ref (bn 0), .ref (bt 0), .ref (x 1), .int (nI ac), .ref (x 2), .int kb, .ref (x 3), .int (nI ln), .ref (x 4), .ref (x 5), .int (nI se), .long sd, .ref (x 6)])), (x 1, .inl (cQ, 14, .inr (.inr (.inr (.inr pa))))), (x 2, .inl (cQ, 2, .inr (.inr (.inr (.inr sl))))), (x 3, .inl (cI, 60, .inl tx)), (x 4, .inl (cI, 6, .inl s1)), (x 5, .inl (cI, 6, .inl s2)), (x 6, .inl (cI, 64, .inl sb))] ++ (CR cI bn f)) (Z) ([(x 0, .inr (1, [.ref (bn 0), .ref (bt 0), .ref (x 1), .int (nI ac), .ref (x 2), .int kb, .ref (x 3), .int (nI ln), .ref (x 4), .ref (x 5), .int (nI se), .long sd, .ref (x 6)])), (x 1, .inl (cQ, 14, .inr (.inr (.inr (.inr pa))))), (x 2, .inl (cQ, 2, .inr (.inr (.inr (.inr sl))))), (x 3, .inl (cI, 60, .inl tx)), (x 4, .inl (cI, 6, .inl s1)), (x 5, .inl (cI, 6, .inl s2)), (x 6, .inl (cI, 64, .inl sb))] ++ (CR cI bn f ++ (CR cI bt f ++ (Z)))) (kX0_sent l D cI cZ cQ bt f  ) 0 rfl rfl (cwV 0 F.2.2.2.2.1 gX1_drawn_X0_sent rfl rfl rfl (by decide +kernel) ⟨Nat.le_of_ble_eq_true rfl, Nat.le_of_ble_eq_true rfl⟩) rfl rfl rfl rfl (Nat.le_of_ble_eq_true rfl) ⟨Nat.zero_le _, Nat.zero_le _⟩ dX1_drawn_29 ?_
      refine g_istore_n F (lv' := [(0, .ref (x 0)), (1, .int (nI m_)), (2, .int (S_letters f))]) dX1_drawn_32 rfl (by decide) [1, 2, 0] rfl ?_
      refine g_iconst F (v := 0) dX1_drawn_33 (by decide) ?_
      refine g_istore_n F (lv' := [(0, .ref (x 0)), (1, .int (nI m_)), (2, .int (S_letters f)), (3, .int 0)]) dX1_drawn_34 rfl (by decide) [1, 2, 3, 0] rfl ?_
      refine g_all (w0 := [(x 0, .inr (1, [.ref (bn 0), .ref (bt 0), .ref (x 1), .int (nI ac), .ref (x 2), .int kb, .ref (x 3), .int (nI ln), .ref (x 4), .ref (x 5), .int (nI se), .long (S_sdN sd 0), .ref (x 6)])), (x 1, .inl (cQ, 14, .inr (.inr (.inr (.inr pa))))), (x 2, .inl (cQ, 2, .inr (.inr (.inr (.inr sl))))), (x 3, .inl (cI, 60, .inl tx)), (x 4, .inl (cI, 6, .inl s1)), (x 5, .inl (cI, 6, .inl s2)), (x 6, .inl (cI, 64, .inl sb))] ++ (CR cI bn f ++ (CR cI bt (S_drT f sd 0) ++ (Z)))) (lv0 := [(0, .ref (x 0)), (1, .int (nI m_)), (2, .int (S_letters f)), (3, .int (nI 0))]) (st0 := []) rfl rfl rfl ?_
      refine g_for m_ (fun i => True) (fun i => [(x 0, .inr (1, [.ref (bn 0), .ref (bt 0), .ref (x 1), .int (nI ac), .ref (x 2), .int kb, .ref (x 3), .int (nI ln), .ref (x 4), .ref (x 5), .int (nI se), .long (S_sdN sd i), .ref (x 6)])), (x 1, .inl (cQ, 14, .inr (.inr (.inr (.inr pa))))), (x 2, .inl (cQ, 2, .inr (.inr (.inr (.inr sl))))), (x 3, .inl (cI, 60, .inl tx)), (x 4, .inl (cI, 6, .inl s1)), (x 5, .inl (cI, 6, .inl s2)), (x 6, .inl (cI, 64, .inl sb))] ++ (CR cI bn f ++ (CR cI bt (S_drT f sd i) ++ (Z)))) (fun i => [(0, .ref (x 0)), (1, .int (nI m_)), (2, .int (S_letters f)), (3, .int (nI i))]) (fun i hi hIi ihi => ?_) 0 (Nat.zero_le _) trivial
      rw [S_drT_s] at ihi
      have hIu : Inv (n + i) (G + 42 * i) (S_drT f sd i) := Inv_drT hI (by omega) hG1 (by omega) i (by omega)
      generalize hg_u : S_drT f sd i = u at ihi hIu ⊢
      refine g_iload_n F dX1_drawn_35 rfl 3 rfl ?_
      refine g_iload_n F dX1_drawn_36 rfl 1 rfl ?_
      refine g_icmp_ge F 104 dX1_drawn_37 (by decide) (fun c3 => ?_) (fun c3 => ?_)
      · have hx_c3 : m_ = i := lp_ge hi (by omega) c3
        subst hx_c3
        subst hg_u
        refine g_aload_n F dX1_drawn_104 rfl 0 rfl ?_
        refine g_get F (.ref (bt 0)) zX1_drawn_inX1 0 rfl rfl 1 (by decide) rfl zX1_drawn_f16 dX1_drawn_105 ?_
        refine g_segV F (As := []) (st := []) ([(x 0, .inr (1, [.ref (bn 0), .ref (bt 0), .ref (x 1), .int (nI ac), .ref (x 2), .int kb, .ref (x 3), .int (nI ln), .ref (x 4), .ref (x 5), .int (nI se), .long (S_sdN sd m_), .ref (x 6)])), (x 1, .inl (cQ, 14, .inr (.inr (.inr (.inr pa))))), (x 2, .inl (cQ, 2, .inr (.inr (.inr (.inr sl))))), (x 3, .inl (cI, 60, .inl tx)), (x 4, .inl (cI, 6, .inl s1)), (x 5, .inl (cI, 6, .inl s2)), (x 6, .inl (cI, 64, .inl sb))] ++ (CR cI bn f)) (Z) ([(x 0, .inr (1, [.ref (bn 0), .ref (bt 0), .ref (x 1), .int (nI ac), .ref (x 2), .int kb, .ref (x 3), .int (nI ln), .ref (x 4), .ref (x 5), .int (nI se), .long (S_sdN sd m_), .ref (x 6)])), (x 1, .inl (cQ, 14, .inr (.inr (.inr (.inr pa))))), (x 2, .inl (cQ, 2, .inr (.inr (.inr (.inr sl))))), (x 3, .inl (cI, 60, .inl tx)), (x 4, .inl (cI, 6, .inl s1)), (x 5, .inl (cI, 6, .inl s2)), (x 6, .inl (cI, 64, .inl sb))] ++ (CR cI bn f ++ (CR cI bt (S_drT f sd m_) ++ (Z)))) (kX0_sent l D cI cZ cQ bt (S_drT f sd m_)  ) 0 rfl rfl (cwV 0 F.2.2.2.2.1 gX1_drawn_X0_sent rfl rfl rfl (by decide +kernel) ⟨Nat.le_of_ble_eq_true rfl, Nat.le_of_ble_eq_true rfl⟩) rfl rfl rfl rfl (Nat.le_of_ble_eq_true rfl) ⟨Nat.zero_le _, Nat.zero_le _⟩ dX1_drawn_108 ?_
        refine g_iload_n F dX1_drawn_111 rfl 2 rfl ?_
        refine g_isub F dX1_drawn_112 ?_
        exact g_endI (hR _ _ dX1_drawn_113) rfl rfl
      · have hlti : i < m_ := lp_lt hi (by omega) c3
        refine g_aload_n F dX1_drawn_40 rfl 0 rfl ?_
        refine g_aload_n F dX1_drawn_41 rfl 0 rfl ?_
        refine g_get F (.long (S_sdN sd i)) zX1_drawn_inX1 0 rfl rfl 11 (by decide) rfl zX1_drawn_f49 dX1_drawn_42 ?_
        refine g_ldc2 F zX1_drawn_c191 dX1_drawn_45 ?_
        refine g_lmul F dX1_drawn_48 ?_
        refine g_ldc2 F zX1_drawn_c193 dX1_drawn_49 ?_
        refine g_ladd F dX1_drawn_52 ?_
        refine g_put F ([(x 0, .inr (1, [.ref (bn 0), .ref (bt 0), .ref (x 1), .int (nI ac), .ref (x 2), .int kb, .ref (x 3), .int (nI ln), .ref (x 4), .ref (x 5), .int (nI se), .long (((S_sdN sd i) * 6364136223846793005) + 1442695040888963407), .ref (x 6)])), (x 1, .inl (cQ, 14, .inr (.inr (.inr (.inr pa))))), (x 2, .inl (cQ, 2, .inr (.inr (.inr (.inr sl))))), (x 3, .inl (cI, 60, .inl tx)), (x 4, .inl (cI, 6, .inl s1)), (x 5, .inl (cI, 6, .inl s2)), (x 6, .inl (cI, 64, .inl sb))] ++ (CR cI bn f ++ (CR cI bt u ++ (Z)))) zX1_drawn_inX1 tyX1 tyX1_ok nmX1 0 rfl rfl 11 (by decide) rfl rfl rfl (Nat.le_of_ble_eq_true rfl) zX1_drawn_f49 dX1_drawn_53 rfl ?_
        refine g_aw ([(x 0, .inr (1, [.ref (bn 0), .ref (bt 0), .ref (x 1), .int (nI ac), .ref (x 2), .int kb, .ref (x 3), .int (nI ln), .ref (x 4), .ref (x 5), .int (nI se), .long (S_sdN sd (i + 1)), .ref (x 6)])), (x 1, .inl (cQ, 14, .inr (.inr (.inr (.inr pa))))), (x 2, .inl (cQ, 2, .inr (.inr (.inr (.inr sl))))), (x 3, .inl (cI, 60, .inl tx)), (x 4, .inl (cI, 6, .inl s1)), (x 5, .inl (cI, 6, .inl s2)), (x 6, .inl (cI, 64, .inl sb))] ++ (CR cI bn f ++ (CR cI bt u ++ (Z)))) rfl ?_
        have hV := drV_lt (S_sdN sd (i + 1))
        have hV6 := Nat.mod_lt (S_drV (S_sdN sd (i + 1)) / 8) (show 0 < 6 by decide)
        refine g_aload_n F dX1_drawn_56 rfl 0 rfl ?_
        refine g_get F (.long (S_sdN sd (i + 1))) zX1_drawn_inX1 0 rfl rfl 11 (by decide) rfl zX1_drawn_f49 dX1_drawn_57 ?_
        refine g_bipush F (v := 33) dX1_drawn_60 (by decide) ?_
        refine g_lushr F _ dX1_drawn_62 rfl ?_
        refine g_l2i F dX1_drawn_63 ?_
        refine g_as (nI (S_drV (S_sdN sd (i + 1)))) (drV_ok _) ?_
        refine g_istore F (lv' := [(0, .ref (x 0)), (1, .int (nI m_)), (2, .int (S_letters f)), (3, .int (nI i)), (4, .int (nI (S_drV (S_sdN sd (i + 1)))))]) dX1_drawn_64 (by decide) [1, 2, 3, 4, 0] rfl ?_
        refine g_iload F dX1_drawn_66 4 rfl ?_
        refine g_bipush F (v := 8) dX1_drawn_68 (by decide) ?_
        refine g_irem F dX1_drawn_70 (by decide) ?_
        refine g_as (nI (S_drV (S_sdN sd (i + 1)) % 8)) (pk_rem hV (by decide) (by decide)) ?_
        refine g_if_ne F 89 dX1_drawn_71 (by decide) (fun c4 => ?_) (fun c4 => ?_)
        · refine g_aload_n F dX1_drawn_89 rfl 0 rfl ?_
          refine g_get F (.ref (bt 0)) zX1_drawn_inX1 0 rfl rfl 1 (by decide) rfl zX1_drawn_f16 dX1_drawn_90 ?_
          refine g_iconst F (v := 1) dX1_drawn_93 (by decide) ?_
          refine g_segV F (As := [.int 1]) (st := []) ([(x 0, .inr (1, [.ref (bn 0), .ref (bt 0), .ref (x 1), .int (nI ac), .ref (x 2), .int kb, .ref (x 3), .int (nI ln), .ref (x 4), .ref (x 5), .int (nI se), .long (S_sdN sd (i + 1)), .ref (x 6)])), (x 1, .inl (cQ, 14, .inr (.inr (.inr (.inr pa))))), (x 2, .inl (cQ, 2, .inr (.inr (.inr (.inr sl))))), (x 3, .inl (cI, 60, .inl tx)), (x 4, .inl (cI, 6, .inl s1)), (x 5, .inl (cI, 6, .inl s2)), (x 6, .inl (cI, 64, .inl sb))] ++ (CR cI bn f)) (Z) ([(x 0, .inr (1, [.ref (bn 0), .ref (bt 0), .ref (x 1), .int (nI ac), .ref (x 2), .int kb, .ref (x 3), .int (nI ln), .ref (x 4), .ref (x 5), .int (nI se), .long (S_sdN sd (i + 1)), .ref (x 6)])), (x 1, .inl (cQ, 14, .inr (.inr (.inr (.inr pa))))), (x 2, .inl (cQ, 2, .inr (.inr (.inr (.inr sl))))), (x 3, .inl (cI, 60, .inl tx)), (x 4, .inl (cI, 6, .inl s1)), (x 5, .inl (cI, 6, .inl s2)), (x 6, .inl (cI, 64, .inl sb))] ++ (CR cI bn f ++ (CR cI bt (S_ticks u 1) ++ (Z)))) (kX0_run l D cI cZ cQ bt u 1 (n + i) (G + 42 * i) (by decide) hIu (by omega) (by omega)) 0 rfl rfl (cwV 1 F.2.2.2.2.1 gX1_drawn_X0_run rfl rfl rfl (by decide +kernel) ⟨Nat.le_of_ble_eq_true rfl, Nat.le_of_ble_eq_true rfl⟩) rfl rfl rfl rfl (Nat.le_of_ble_eq_true rfl) ⟨Nat.zero_le _, Nat.zero_le _⟩ dX1_drawn_94 ?_
          refine g_pop F dX1_drawn_97 rfl ?_
          refine g_iinc F (lv' := [(0, .ref (x 0)), (1, .int (nI m_)), (2, .int (S_letters f)), (3, .int (nI (i + 1))), (4, .int (nI (S_drV (S_sdN sd (i + 1)))))]) (nI (i + 1)) dX1_drawn_98 3 rfl (nI_add i 1) (by decide) [1, 2, 3, 0, 4] rfl ?_
          refine g_goto F 35 dX1_drawn_101 (by decide) ?_
          refine g_lvs (lv' := [(0, .ref (x 0)), (1, .int (nI m_)), (2, .int (S_letters f)), (3, .int (nI (i + 1)))]) [0, 1, 2, 3] rfl ?_
          refine g_all (w0 := [(x 0, .inr (1, [.ref (bn 0), .ref (bt 0), .ref (x 1), .int (nI ac), .ref (x 2), .int kb, .ref (x 3), .int (nI ln), .ref (x 4), .ref (x 5), .int (nI se), .long (S_sdN sd (i + 1)), .ref (x 6)])), (x 1, .inl (cQ, 14, .inr (.inr (.inr (.inr pa))))), (x 2, .inl (cQ, 2, .inr (.inr (.inr (.inr sl))))), (x 3, .inl (cI, 60, .inl tx)), (x 4, .inl (cI, 6, .inl s1)), (x 5, .inl (cI, 6, .inl s2)), (x 6, .inl (cI, 64, .inl sb))] ++ (CR cI bn f ++ (CR cI bt (S_tick (S_drE (S_sdN sd (i + 1)) u)) ++ (Z)))) (lv0 := [(0, .ref (x 0)), (1, .int (nI m_)), (2, .int (S_letters f)), (3, .int (nI (i + 1)))]) (st0 := []) (by rw [S_ticks_1, S_drE_a c4]) rfl rfl ?_
          exact ihi hlti trivial
        · refine g_aload_n F dX1_drawn_74 rfl 0 rfl ?_
          refine g_get F (.ref (bt 0)) zX1_drawn_inX1 0 rfl rfl 1 (by decide) rfl zX1_drawn_f16 dX1_drawn_75 ?_
          refine g_iload F dX1_drawn_78 4 rfl ?_
          refine g_bipush F (v := 8) dX1_drawn_80 (by decide) ?_
          refine g_idiv F dX1_drawn_82 (by decide) ?_
          refine g_as (nI (S_drV (S_sdN sd (i + 1)) / 8)) (pk_div hV (by decide) (by decide)) ?_
          refine g_bipush F (v := 6) dX1_drawn_83 (by decide) ?_
          refine g_irem F dX1_drawn_85 (by decide) ?_
          refine g_as (nI (S_drV (S_sdN sd (i + 1)) / 8 % 6)) (pk_rem (by omega) (by decide) (by decide)) ?_
          refine g_segV F (As := [.int (nI (S_drV (S_sdN sd (i + 1)) / 8 % 6))]) (st := []) ([(x 0, .inr (1, [.ref (bn 0), .ref (bt 0), .ref (x 1), .int (nI ac), .ref (x 2), .int kb, .ref (x 3), .int (nI ln), .ref (x 4), .ref (x 5), .int (nI se), .long (S_sdN sd (i + 1)), .ref (x 6)])), (x 1, .inl (cQ, 14, .inr (.inr (.inr (.inr pa))))), (x 2, .inl (cQ, 2, .inr (.inr (.inr (.inr sl))))), (x 3, .inl (cI, 60, .inl tx)), (x 4, .inl (cI, 6, .inl s1)), (x 5, .inl (cI, 6, .inl s2)), (x 6, .inl (cI, 64, .inl sb))] ++ (CR cI bn f)) (Z) ([(x 0, .inr (1, [.ref (bn 0), .ref (bt 0), .ref (x 1), .int (nI ac), .ref (x 2), .int kb, .ref (x 3), .int (nI ln), .ref (x 4), .ref (x 5), .int (nI se), .long (S_sdN sd (i + 1)), .ref (x 6)])), (x 1, .inl (cQ, 14, .inr (.inr (.inr (.inr pa))))), (x 2, .inl (cQ, 2, .inr (.inr (.inr (.inr sl))))), (x 3, .inl (cI, 60, .inl tx)), (x 4, .inl (cI, 6, .inl s1)), (x 5, .inl (cI, 6, .inl s2)), (x 6, .inl (cI, 64, .inl sb))] ++ (CR cI bn f ++ (CR cI bt (S_eod u (S_drV (S_sdN sd (i + 1)) / 8 % 6)) ++ (Z)))) (kX0_enterOrDepart l D cI cZ cQ bt u (S_drV (S_sdN sd (i + 1)) / 8 % 6) (n + i) (G + 42 * i) (by omega) hIu (by omega)) 0 rfl rfl (cwV 1 F.2.2.2.2.1 gX1_drawn_X0_enterOrDepart rfl rfl rfl (by decide +kernel) ⟨Nat.le_of_ble_eq_true rfl, Nat.le_of_ble_eq_true rfl⟩) rfl rfl rfl rfl (Nat.le_of_ble_eq_true rfl) ⟨Nat.zero_le _, Nat.zero_le _⟩ dX1_drawn_86 ?_
          refine g_aload_n F dX1_drawn_89 rfl 0 rfl ?_
          refine g_get F (.ref (bt 0)) zX1_drawn_inX1 0 rfl rfl 1 (by decide) rfl zX1_drawn_f16 dX1_drawn_90 ?_
          refine g_iconst F (v := 1) dX1_drawn_93 (by decide) ?_
          refine g_segV F (As := [.int 1]) (st := []) ([(x 0, .inr (1, [.ref (bn 0), .ref (bt 0), .ref (x 1), .int (nI ac), .ref (x 2), .int kb, .ref (x 3), .int (nI ln), .ref (x 4), .ref (x 5), .int (nI se), .long (S_sdN sd (i + 1)), .ref (x 6)])), (x 1, .inl (cQ, 14, .inr (.inr (.inr (.inr pa))))), (x 2, .inl (cQ, 2, .inr (.inr (.inr (.inr sl))))), (x 3, .inl (cI, 60, .inl tx)), (x 4, .inl (cI, 6, .inl s1)), (x 5, .inl (cI, 6, .inl s2)), (x 6, .inl (cI, 64, .inl sb))] ++ (CR cI bn f)) (Z) ([(x 0, .inr (1, [.ref (bn 0), .ref (bt 0), .ref (x 1), .int (nI ac), .ref (x 2), .int kb, .ref (x 3), .int (nI ln), .ref (x 4), .ref (x 5), .int (nI se), .long (S_sdN sd (i + 1)), .ref (x 6)])), (x 1, .inl (cQ, 14, .inr (.inr (.inr (.inr pa))))), (x 2, .inl (cQ, 2, .inr (.inr (.inr (.inr sl))))), (x 3, .inl (cI, 60, .inl tx)), (x 4, .inl (cI, 6, .inl s1)), (x 5, .inl (cI, 6, .inl s2)), (x 6, .inl (cI, 64, .inl sb))] ++ (CR cI bn f ++ (CR cI bt (S_ticks (S_eod u (S_drV (S_sdN sd (i + 1)) / 8 % 6)) 1) ++ (Z)))) (kX0_run l D cI cZ cQ bt (S_eod u (S_drV (S_sdN sd (i + 1)) / 8 % 6)) 1 (n + i) (G + 42 * i + 6) (by decide) (Inv_eod hIu hV6 (by omega) (by omega)) (by omega) (by omega)) 0 rfl rfl (cwV 1 F.2.2.2.2.1 gX1_drawn_X0_run rfl rfl rfl (by decide +kernel) ⟨Nat.le_of_ble_eq_true rfl, Nat.le_of_ble_eq_true rfl⟩) rfl rfl rfl rfl (Nat.le_of_ble_eq_true rfl) ⟨Nat.zero_le _, Nat.zero_le _⟩ dX1_drawn_94 ?_
          refine g_pop F dX1_drawn_97 rfl ?_
          refine g_iinc F (lv' := [(0, .ref (x 0)), (1, .int (nI m_)), (2, .int (S_letters f)), (3, .int (nI (i + 1))), (4, .int (nI (S_drV (S_sdN sd (i + 1)))))]) (nI (i + 1)) dX1_drawn_98 3 rfl (nI_add i 1) (by decide) [1, 2, 3, 0, 4] rfl ?_
          refine g_goto F 35 dX1_drawn_101 (by decide) ?_
          refine g_lvs (lv' := [(0, .ref (x 0)), (1, .int (nI m_)), (2, .int (S_letters f)), (3, .int (nI (i + 1)))]) [0, 1, 2, 3] rfl ?_
          refine g_all (w0 := [(x 0, .inr (1, [.ref (bn 0), .ref (bt 0), .ref (x 1), .int (nI ac), .ref (x 2), .int kb, .ref (x 3), .int (nI ln), .ref (x 4), .ref (x 5), .int (nI se), .long (S_sdN sd (i + 1)), .ref (x 6)])), (x 1, .inl (cQ, 14, .inr (.inr (.inr (.inr pa))))), (x 2, .inl (cQ, 2, .inr (.inr (.inr (.inr sl))))), (x 3, .inl (cI, 60, .inl tx)), (x 4, .inl (cI, 6, .inl s1)), (x 5, .inl (cI, 6, .inl s2)), (x 6, .inl (cI, 64, .inl sb))] ++ (CR cI bn f ++ (CR cI bt (S_tick (S_drE (S_sdN sd (i + 1)) u)) ++ (Z)))) (lv0 := [(0, .ref (x 0)), (1, .int (nI m_)), (2, .int (S_letters f)), (3, .int (nI (i + 1)))]) (st0 := []) (by rw [S_ticks_1, S_drE_0 c4]) rfl rfl ?_
          exact ihi hlti trivial
    · exact absurd (nI_le (b := 40) hm (by decide)) c2
