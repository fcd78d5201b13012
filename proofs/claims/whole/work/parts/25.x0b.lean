theorem zX0_hearBye_f21 : Cond.fieldLink RX0 21 (TX0 3).1 (TX0 3).2.1 (TX0 3).2.2.1 ∈ wsX0_hearBye := by decide +kernel
theorem zX0_hearBye_f33 : Cond.fieldLink RX0 33 (TX0 7).1 (TX0 7).2.1 (TX0 7).2.2.1 ∈ wsX0_hearBye := by decide +kernel
theorem zX0_hearBye_f37 : Cond.fieldLink RX0 37 (TX0 8).1 (TX0 8).2.1 (TX0 8).2.2.1 ∈ wsX0_hearBye := by decide +kernel
theorem zX0_hearBye_f40 : Cond.fieldLink RX0 40 (TX0 9).1 (TX0 9).2.1 (TX0 9).2.2.1 ∈ wsX0_hearBye := by decide +kernel
theorem zX0_hearBye_f43 : Cond.fieldLink RX0 43 (TX0 10).1 (TX0 10).2.1 (TX0 10).2.2.1 ∈ wsX0_hearBye := by decide +kernel
theorem zX0_hearBye_f46 : Cond.fieldLink RX0 46 (TX0 11).1 (TX0 11).2.1 (TX0 11).2.2.1 ∈ wsX0_hearBye := by decide +kernel
theorem zX0_hearBye_imath : Cond.initialized "java/lang/Math" ∈ wsX0_hearBye := by decide +kernel
theorem zX0_hearBye_inX0 : ∀ w ∈ u_ws RX0 TX0 14, w ∈ wsX0_hearBye := by decide +kernel
theorem zX0_hearBye_kmmax : Cond.code Lib.Math.max.name Lib.Math.max.code 2 (some .int) ∈ wsX0_hearBye := by decide +kernel
theorem zX0_hearBye_l77 : Cond.methodLink RX0 77 Lib.Math.max.name ∈ wsX0_hearBye := by decide +kernel
theorem zX0_hearBye_smmax : Cond.static Lib.Math.max.name ∈ wsX0_hearBye := by decide +kernel
set_option maxHeartbeats 1000000 in
set_option maxRecDepth 100000 in
theorem kX0_hearBye (l : Launch) (D : va_G) (cI cZ cQ : ClassId) (b : Nat → Nat) (f : Row) (o k n G : Nat) (ho : o < 6) (hk : k < 6) (hn : ¬ f o = 0) (hI : Inv n G f) (hn0 : n ≤ 1048576) : Ct l D (gTy cI cZ cQ) yX0_hearBye wsX0_hearBye ({ frames := 2, cells := 0, slots := 0, locals := 41 }) [.ref (b 0), .int (nI o), .int (nI k)] (CR cI b f) none (CR cI b (S_hear k o f)) := by
  refine ct_ofV (cc := cX0_hearBye) (nL := 5) (own := RX0) (by decide) rfl rfl ⟨rfl, rfl⟩ (Nat.le_of_ble_eq_true rfl) CR_same (fun p e s m below meth c A Q F hR => ?_)
  refine g_aload_n F dX0_hearBye_0 rfl 0 rfl ?_
  refine g_lR1 F zX0_hearBye_inX0 zX0_hearBye_f33 dX0_hearBye_1 ?_
  refine g_iload_n F dX0_hearBye_4 rfl 1 rfl ?_
  refine g_lA1 F rfl (by omega) dX0_hearBye_5 ?_
  refine g_iconst F (v := 2) dX0_hearBye_6 (by decide) ?_
  have hJ2 : Go p l e ({ frames := 2, cells := 0, slots := 0, locals := 41 }) s m (List.toArray [.ref (b 0), .int (nI o), .int (nI k)]) below meth c Q D A 5 0 0 (CR cI b (S_bg f o)) 20 [(0, .ref (b 0)), (1, .int (nI o)), (2, .int (nI k))] [] := by
    refine g_aload_n F dX0_hearBye_20 rfl 0 rfl ?_
    refine g_iload_n F dX0_hearBye_21 rfl 1 rfl ?_
    refine g_iload_n F dX0_hearBye_22 rfl 2 rfl ?_
    refine g_callVs F (As := [.int (nI o), .int (nI k)]) (st := []) (kX0_knows l D cI cZ cQ b (S_bg f o) o k (by omega) (by omega)) 0 rfl rfl (cwV 2 F.2.2.2.2.1 gX0_hearBye_X0_knows rfl rfl rfl (by decide +kernel) ⟨Nat.le_of_ble_eq_true rfl, Nat.le_of_ble_eq_true rfl⟩) rfl rfl (Nat.le_of_ble_eq_true rfl) ⟨Nat.zero_le _, Nat.zero_le _⟩ dX0_hearBye_23 ?_
    refine g_bne F 30 dX0_hearBye_26 (by decide) (fun c3 => ?_) (fun c3 => ?_)
    · refine g_aload_n F dX0_hearBye_30 rfl 0 rfl ?_
      refine g_iload_n F dX0_hearBye_31 rfl 1 rfl ?_
      refine g_callVs F (As := [.int (nI o)]) (st := []) (kX0_countOf l D cI cZ cQ b (S_bg f o) o (by omega) (by rw [bg_6 (by omega)]; exact hn) (Kn_bg hI.kn (by omega))) 0 rfl rfl (cwV 1 F.2.2.2.2.1 gX0_hearBye_X0_countOf rfl rfl rfl (by decide +kernel) ⟨Nat.le_of_ble_eq_true rfl, Nat.le_of_ble_eq_true rfl⟩) rfl rfl (Nat.le_of_ble_eq_true rfl) ⟨Nat.zero_le _, Nat.zero_le _⟩ dX0_hearBye_32 ?_
      refine g_istore_n F (lv' := [(0, .ref (b 0)), (1, .int (nI o)), (2, .int (nI k)), (3, .int (S_count (S_bg f o) o))]) dX0_hearBye_35 rfl (by decide) [1, 2, 3, 0] rfl ?_
      refine g_iload_n F dX0_hearBye_36 rfl 3 rfl ?_
      refine g_iconst F (v := 1) dX0_hearBye_37 (by decide) ?_
      refine g_isub F dX0_hearBye_38 ?_
      refine g_istore F (lv' := [(0, .ref (b 0)), (1, .int (nI o)), (2, .int (nI k)), (3, .int (S_count (S_bg f o) o)), (4, .int ((S_count (S_bg f o) o) - 1))]) dX0_hearBye_39 (by decide) [1, 2, 3, 4, 0] rfl ?_
      refine g_aload_n F dX0_hearBye_41 rfl 0 rfl ?_
      refine g_lR2 F zX0_hearBye_inX0 zX0_hearBye_f37 dX0_hearBye_42 ?_
      refine g_iload_n F dX0_hearBye_45 rfl 1 rfl ?_
      refine g_dup2 F dX0_hearBye_46 rfl rfl ?_
      refine g_lA2 F rfl (by omega) dX0_hearBye_47 ?_
      refine g_iconst F (v := 1) dX0_hearBye_48 (by decide) ?_
      refine g_iload_n F dX0_hearBye_49 rfl 2 rfl ?_
      refine g_ishl F dX0_hearBye_50 ?_
      refine g_iconst F (v := (-1)) dX0_hearBye_51 (by decide) ?_
      refine g_ixor F dX0_hearBye_52 ?_
      refine g_iand F dX0_hearBye_53 ?_
      refine g_cA2 F rfl (by omega) dX0_hearBye_54 ?_
      refine g_aload_n F dX0_hearBye_55 rfl 0 rfl ?_
      refine g_lR1 F zX0_hearBye_inX0 zX0_hearBye_f33 dX0_hearBye_56 ?_
      refine g_iload_n F dX0_hearBye_59 rfl 1 rfl ?_
      refine g_lA1 F rfl (by omega) dX0_hearBye_60 ?_
      refine g_iconst F (v := 1) dX0_hearBye_61 (by decide) ?_
      refine g_icmp_ne F 123 dX0_hearBye_62 (by decide) (fun c4 => ?_) (fun c4 => ?_)
      · exact g_endV (hR _ _ dX0_hearBye_123) (by rw [← hear_b c3 c4]; rfl)
      · refine g_aload_n F dX0_hearBye_65 rfl 0 rfl ?_
        refine g_lR4 F zX0_hearBye_inX0 zX0_hearBye_f43 dX0_hearBye_66 ?_
        refine g_iload_n F dX0_hearBye_69 rfl 1 rfl ?_
        refine g_aload_n F dX0_hearBye_70 rfl 0 rfl ?_
        refine g_lF70 F zX0_hearBye_inX0 zX0_hearBye_f21 dX0_hearBye_71 ?_
        refine g_iconst F (v := 0) dX0_hearBye_74 (by decide) ?_
        refine g_aload_n F dX0_hearBye_75 rfl 0 rfl ?_
        refine g_lR4 F zX0_hearBye_inX0 zX0_hearBye_f43 dX0_hearBye_76 ?_
        refine g_iload_n F dX0_hearBye_79 rfl 1 rfl ?_
        refine g_lA4 F rfl (by omega) dX0_hearBye_80 ?_
        refine g_aload_n F dX0_hearBye_81 rfl 0 rfl ?_
        refine g_lF70 F zX0_hearBye_inX0 zX0_hearBye_f21 dX0_hearBye_82 ?_
        refine g_isub F dX0_hearBye_85 ?_
        refine g_mmax F zX0_hearBye_l77 zX0_hearBye_smmax zX0_hearBye_imath zX0_hearBye_kmmax (Nat.le_of_ble_eq_true rfl) (Nat.le_of_ble_eq_true rfl) (Nat.zero_le _) (Nat.zero_le _) dX0_hearBye_86 ?_
        refine g_as (S_bleft (S_bk f k o) o) (left_eq hI hn0 ho) ?_
        refine g_iload F dX0_hearBye_89 4 rfl ?_
        refine g_imul F dX0_hearBye_91 ?_
        refine g_iload_n F dX0_hearBye_92 rfl 3 rfl ?_
        refine g_idiv F dX0_hearBye_93 (S_count_ne (by rw [bg_6 (by omega)]; exact hn)) ?_
        refine g_iadd F dX0_hearBye_94 ?_
        refine g_cA4 F rfl (by omega) dX0_hearBye_95 ?_
        refine g_aload_n F dX0_hearBye_96 rfl 0 rfl ?_
        refine g_lR3 F zX0_hearBye_inX0 zX0_hearBye_f40 dX0_hearBye_97 ?_
        refine g_iload_n F dX0_hearBye_100 rfl 1 rfl ?_
        refine g_aload_n F dX0_hearBye_101 rfl 0 rfl ?_
        refine g_lF70 F zX0_hearBye_inX0 zX0_hearBye_f21 dX0_hearBye_102 ?_
        refine g_aload_n F dX0_hearBye_105 rfl 0 rfl ?_
        refine g_lF70 F zX0_hearBye_inX0 zX0_hearBye_f21 dX0_hearBye_106 ?_
        refine g_aload_n F dX0_hearBye_109 rfl 0 rfl ?_
        refine g_lR3 F zX0_hearBye_inX0 zX0_hearBye_f40 dX0_hearBye_110 ?_
        refine g_iload_n F dX0_hearBye_113 rfl 1 rfl ?_
        refine g_lA3 F rfl (by omega) dX0_hearBye_114 ?_
        refine g_isub F dX0_hearBye_115 ?_
        refine g_iload F dX0_hearBye_116 4 rfl ?_
        refine g_imul F dX0_hearBye_118 ?_
        refine g_iload_n F dX0_hearBye_119 rfl 3 rfl ?_
        refine g_idiv F dX0_hearBye_120 (S_count_ne (by rw [bg_6 (by omega)]; exact hn)) ?_
        refine g_isub F dX0_hearBye_121 ?_
        refine g_cA3 F rfl (by omega) dX0_hearBye_122 ?_
        exact g_endV (hR _ _ dX0_hearBye_123) (by rw [← hear_c c3 c4, ← (show S_bdue (S_bk f k o) o (S_count (S_bg f o) o) 70 = S_bk f k o 70 from pk_un (by omega))]; rfl)
    · exact g_endV (hR _ _ dX0_hearBye_29) (by rw [← hear_a hI.kn hk ho c3])
  refine g_icmp_ne F 20 dX0_hearBye_7 (by decide) (fun c1 => ?_) (fun c1 => ?_)
  · refine g_aw (CR cI b (S_bg f o)) (by rw [bg_f c1]) ?_
    exact hJ2
  · refine g_aload_n F dX0_hearBye_10 rfl 0 rfl ?_
    refine g_lR5 F zX0_hearBye_inX0 zX0_hearBye_f46 dX0_hearBye_11 ?_
    refine g_iload_n F dX0_hearBye_14 rfl 1 rfl ?_
    refine g_dup2 F dX0_hearBye_15 rfl rfl ?_
    refine g_lA5 F rfl (by omega) dX0_hearBye_16 ?_
    refine g_iconst F (v := 1) dX0_hearBye_17 (by decide) ?_
    refine g_iadd F dX0_hearBye_18 ?_
    refine g_cA5 F rfl (by omega) dX0_hearBye_19 ?_
    refine g_aw (CR cI b (S_bg f o)) (by rw [bg_t c1]) ?_
    exact hJ2
theorem zX0_sendBye_f30 : Cond.fieldLink RX0 30 (TX0 6).1 (TX0 6).2.1 (TX0 6).2.2.1 ∈ wsX0_sendBye := by decide +kernel
theorem zX0_sendBye_inX0 : ∀ w ∈ u_ws RX0 TX0 14, w ∈ wsX0_sendBye := by decide +kernel
set_option maxHeartbeats 1000000 in
set_option maxRecDepth 100000 in
theorem kX0_sendBye (l : Launch) (D : va_G) (cI cZ cQ : ClassId) (b : Nat → Nat) (f : Row) (k n G : Nat) (hk : k < 6) (hI : Inv n G f) (hn0 : n ≤ 1048576) : Ct l D (gTy cI cZ cQ) yX0_sendBye wsX0_sendBye ({ frames := 3, cells := 0, slots := 0, locals := 65 }) [.ref (b 0), .int (nI k)] (CR cI b f) none (CR cI b (S_bye f k)) := by
  refine ct_ofV (cc := cX0_sendBye) (nL := 3) (own := RX0) (by decide) rfl rfl ⟨rfl, rfl⟩ (Nat.le_of_ble_eq_true rfl) CR_same (fun p e s m below meth c A Q F hR => ?_)
  refine g_aload_n F dX0_sendBye_0 rfl 0 rfl ?_
  refine g_dup F dX0_sendBye_1 rfl ?_
  refine g_lF72 F zX0_sendBye_inX0 zX0_sendBye_f30 dX0_sendBye_2 ?_
  refine g_iconst F (v := 1) dX0_sendBye_5 (by decide) ?_
  refine g_iadd F dX0_sendBye_6 ?_
  refine g_cF72 F zX0_sendBye_inX0 zX0_sendBye_f30 dX0_sendBye_7 ?_
  refine g_aload_n F dX0_sendBye_10 rfl 0 rfl ?_
  refine g_iload_n F dX0_sendBye_11 rfl 1 rfl ?_
  refine g_callVs F (As := [.int (nI k)]) (st := []) (kX0_goAway l D cI cZ cQ b (upd f 72 ((f 72) + 1)) k (by omega)) 0 rfl rfl (cwV 1 F.2.2.2.2.1 gX0_sendBye_X0_goAway rfl rfl rfl (by decide +kernel) ⟨Nat.le_of_ble_eq_true rfl, Nat.le_of_ble_eq_true rfl⟩) rfl rfl (Nat.le_of_ble_eq_true rfl) ⟨Nat.zero_le _, Nat.zero_le _⟩ dX0_sendBye_12 ?_
  refine g_iconst F (v := 0) dX0_sendBye_15 (by decide) ?_
  refine g_istore_n F (lv' := [(0, .ref (b 0)), (1, .int (nI k)), (2, .int 0)]) dX0_sendBye_16 rfl (by decide) [1, 2, 0] rfl ?_
  refine g_all (w0 := CR cI b (it (S_byeStep k) 0 (S_bye0 f k))) (lv0 := [(0, .ref (b 0)), (1, .int (nI k)), (2, .int (nI 0))]) (st0 := []) rfl rfl rfl ?_
  refine g_for 6 (fun i => True) (fun i => CR cI b (it (S_byeStep k) i (S_bye0 f k))) (fun i => [(0, .ref (b 0)), (1, .int (nI k)), (2, .int (nI i))]) (fun i hi hIi ihi => ?_) 0 (Nat.zero_le _) trivial
  dsimp only [it_s] at ihi ⊢
  have hIg : Inv n (G + i) (it (S_byeStep k) i (S_bye0 f k)) := Inv_byes hI hk hn0 i hi
  generalize hg_g : it (S_byeStep k) i (S_bye0 f k) = g at ihi hIg ⊢
  refine g_iload_n F dX0_sendBye_17 rfl 2 rfl ?_
  refine g_bipush F (v := 6) dX0_sendBye_18 (by decide) ?_
  refine g_icmp_ge F 44 dX0_sendBye_20 (by decide) (fun c1 => ?_) (fun c1 => ?_)
  · have hx_c1 : 6 = i := lp_ge hi (by decide) c1
    subst hx_c1
    subst hg_g
    exact g_endV (hR _ _ dX0_sendBye_44) rfl
  · have hlti : i < 6 := lp_lt hi (by decide) c1
    refine g_aload_n F dX0_sendBye_23 rfl 0 rfl ?_
    refine g_iload_n F dX0_sendBye_24 rfl 1 rfl ?_
    refine g_iload_n F dX0_sendBye_25 rfl 2 rfl ?_
    refine g_callVs F (As := [.int (nI k), .int (nI i)]) (st := []) (kX0_reaches l D cI cZ cQ b g k i (by omega) (by omega)) 0 rfl rfl (cwV 2 F.2.2.2.2.1 gX0_sendBye_X0_reaches rfl rfl rfl (by decide +kernel) ⟨Nat.le_of_ble_eq_true rfl, Nat.le_of_ble_eq_true rfl⟩) rfl rfl (Nat.le_of_ble_eq_true rfl) ⟨Nat.zero_le _, Nat.zero_le _⟩ dX0_sendBye_26 ?_
    refine g_beq F 38 dX0_sendBye_29 (by decide) (fun c2 => ?_) (fun c2 => ?_)
    · refine g_iinc F (lv' := [(0, .ref (b 0)), (1, .int (nI k)), (2, .int (nI (i + 1)))]) (nI (i + 1)) dX0_sendBye_38 2 rfl (nI_add i 1) (by decide) [1, 2, 0] rfl ?_
      refine g_goto F 17 dX0_sendBye_41 (by decide) ?_
      refine g_all (w0 := CR cI b (S_byeStep k i g)) (lv0 := [(0, .ref (b 0)), (1, .int (nI k)), (2, .int (nI (i + 1)))]) (st0 := []) (by rw [S_byeStep_a c2]) rfl rfl ?_
      exact ihi hlti trivial
    · refine g_aload_n F dX0_sendBye_32 rfl 0 rfl ?_
      refine g_iload_n F dX0_sendBye_33 rfl 2 rfl ?_
      refine g_iload_n F dX0_sendBye_34 rfl 1 rfl ?_
      refine g_callVs F (As := [.int (nI i), .int (nI k)]) (st := []) (kX0_hearBye l D cI cZ cQ b g i k n (G + i) (by omega) (by omega) (S_reaches_o c2) hIg hn0) 0 rfl rfl (cwV 2 F.2.2.2.2.1 gX0_sendBye_X0_hearBye rfl rfl rfl (by decide +kernel) ⟨Nat.le_of_ble_eq_true rfl, Nat.le_of_ble_eq_true rfl⟩) rfl rfl (Nat.le_of_ble_eq_true rfl) ⟨Nat.zero_le _, Nat.zero_le _⟩ dX0_sendBye_35 ?_
      refine g_iinc F (lv' := [(0, .ref (b 0)), (1, .int (nI k)), (2, .int (nI (i + 1)))]) (nI (i + 1)) dX0_sendBye_38 2 rfl (nI_add i 1) (by decide) [1, 2, 0] rfl ?_
      refine g_goto F 17 dX0_sendBye_41 (by decide) ?_
      refine g_all (w0 := CR cI b (S_byeStep k i g)) (lv0 := [(0, .ref (b 0)), (1, .int (nI k)), (2, .int (nI (i + 1)))]) (st0 := []) (by rw [S_byeStep_t c2]) rfl rfl ?_
      exact ihi hlti trivial
theorem zX0_comeDue_f21 : Cond.fieldLink RX0 21 (TX0 3).1 (TX0 3).2.1 (TX0 3).2.2.1 ∈ wsX0_comeDue := by decide +kernel
theorem zX0_comeDue_f33 : Cond.fieldLink RX0 33 (TX0 7).1 (TX0 7).2.1 (TX0 7).2.2.1 ∈ wsX0_comeDue := by decide +kernel
theorem zX0_comeDue_f40 : Cond.fieldLink RX0 40 (TX0 9).1 (TX0 9).2.1 (TX0 9).2.2.1 ∈ wsX0_comeDue := by decide +kernel
theorem zX0_comeDue_f43 : Cond.fieldLink RX0 43 (TX0 10).1 (TX0 10).2.1 (TX0 10).2.2.1 ∈ wsX0_comeDue := by decide +kernel
theorem zX0_comeDue_f46 : Cond.fieldLink RX0 46 (TX0 11).1 (TX0 11).2.1 (TX0 11).2.2.1 ∈ wsX0_comeDue := by decide +kernel
theorem zX0_comeDue_inX0 : ∀ w ∈ u_ws RX0 TX0 14, w ∈ wsX0_comeDue := by decide +kernel
set_option maxHeartbeats 1000000 in
set_option maxRecDepth 100000 in
theorem kX0_comeDue (l : Launch) (D : va_G) (cI cZ cQ : ClassId) (b : Nat → Nat) (f : Row) (k n G : Nat) (hk : k < 6) (hn : ¬ f k = 0) (hI : Inv n G f) (hn0 : n ≤ 1048576) : Ct l D (gTy cI cZ cQ) yX0_comeDue wsX0_comeDue ({ frames := 4, cells := 0, slots := 0, locals := 87 }) [.ref (b 0), .int (nI k)] (CR cI b f) none (CR cI b (S_look f k)) := by
  refine ct_ofV (cc := cX0_comeDue) (nL := 4) (own := RX0) (by decide) rfl rfl ⟨rfl, rfl⟩ (Nat.le_of_ble_eq_true rfl) CR_same (fun p e s m below meth c A Q F hR => ?_)
  have hz := hI.z
  refine g_aload_n F dX0_comeDue_0 rfl 0 rfl ?_
  refine g_lR1 F zX0_comeDue_inX0 zX0_comeDue_f33 dX0_comeDue_1 ?_
  refine g_iload_n F dX0_comeDue_4 rfl 1 rfl ?_
  refine g_lA1 F rfl (by omega) dX0_comeDue_5 ?_
  refine g_iconst F (v := 2) dX0_comeDue_6 (by decide) ?_
  refine g_icmp_ne F 14 dX0_comeDue_7 (by decide) (fun c1 => ?_) (fun c1 => ?_)
  · have h1 : f k = 1 := hI.one hk hn c1
    refine g_iconst F (v := 0) dX0_comeDue_14 (by decide) ?_
    refine g_istore_n F (lv' := [(0, .ref (b 0)), (1, .int (nI k)), (2, .int 0)]) dX0_comeDue_15 rfl (by decide) [1, 2, 0] rfl ?_
    refine g_aload_n F dX0_comeDue_16 rfl 0 rfl ?_
    refine g_iload_n F dX0_comeDue_17 rfl 2 rfl ?_
    refine g_if_eq F 30 dX0_comeDue_18 (by decide) (fun c2 => ?_) (fun c2 => ?_)
    · refine g_aload_n F dX0_comeDue_30 rfl 0 rfl ?_
      refine g_iload_n F dX0_comeDue_31 rfl 1 rfl ?_
      refine g_callVs F (As := [.int (nI k)]) (st := [.ref (b 0)]) (kX0_countOf l D cI cZ cQ b f k (by omega) hn hI.kn) 0 rfl rfl (cwV 1 F.2.2.2.2.1 gX0_comeDue_X0_countOf rfl rfl rfl (by decide +kernel) ⟨Nat.le_of_ble_eq_true rfl, Nat.le_of_ble_eq_true rfl⟩) rfl rfl (Nat.le_of_ble_eq_true rfl) ⟨Nat.zero_le _, Nat.zero_le _⟩ dX0_comeDue_32 ?_
      refine g_callVs F (As := [.int (S_count f k)]) (st := []) (kX0_waitOf l D cI cZ cQ b f (S_count f k) hz) 0 rfl rfl (cwV 1 F.2.2.2.2.1 gX0_comeDue_X0_waitOf rfl rfl rfl (by decide +kernel) ⟨Nat.le_of_ble_eq_true rfl, Nat.le_of_ble_eq_true rfl⟩) rfl rfl (Nat.le_of_ble_eq_true rfl) ⟨Nat.zero_le _, Nat.zero_le _⟩ dX0_comeDue_35 ?_
      refine g_istore_n F (lv' := [(0, .ref (b 0)), (1, .int (nI k)), (2, .int 0), (3, .int (S_waitV f (S_count f k)))]) dX0_comeDue_38 rfl (by decide) [1, 2, 3, 0] rfl ?_
      refine g_aload_n F dX0_comeDue_39 rfl 0 rfl ?_
      refine g_lR3 F zX0_comeDue_inX0 zX0_comeDue_f40 dX0_comeDue_40 ?_
      refine g_iload_n F dX0_comeDue_43 rfl 1 rfl ?_
      refine g_lA3 F rfl (by omega) dX0_comeDue_44 ?_
      refine g_iload_n F dX0_comeDue_45 rfl 3 rfl ?_
      refine g_iadd F dX0_comeDue_46 ?_
      refine g_aload_n F dX0_comeDue_47 rfl 0 rfl ?_
      refine g_lF70 F zX0_comeDue_inX0 zX0_comeDue_f21 dX0_comeDue_48 ?_
      refine g_icmp_le F 71 dX0_comeDue_51 (by decide) (fun c3 => ?_) (fun c3 => ?_)
      · refine g_iload_n F dX0_comeDue_71 rfl 2 rfl ?_
        refine g_if_eq F 83 dX0_comeDue_72 (by decide) (fun c4 => ?_) (fun c4 => ?_)
        · refine g_aload_n F dX0_comeDue_83 rfl 0 rfl ?_
          refine g_iload_n F dX0_comeDue_84 rfl 1 rfl ?_
          refine g_callVs F (As := [.int (nI k)]) (st := []) (kX0_sendReport l D cI cZ cQ b (S_draw f) k (by omega)) 0 rfl rfl (cwV 1 F.2.2.2.2.1 gX0_comeDue_X0_sendReport rfl rfl rfl (by decide +kernel) ⟨Nat.le_of_ble_eq_true rfl, Nat.le_of_ble_eq_true rfl⟩) rfl rfl (Nat.le_of_ble_eq_true rfl) ⟨Nat.zero_le _, Nat.zero_le _⟩ dX0_comeDue_85 ?_
          refine g_aload_n F dX0_comeDue_88 rfl 0 rfl ?_
          refine g_lR3 F zX0_comeDue_inX0 zX0_comeDue_f40 dX0_comeDue_89 ?_
          refine g_iload_n F dX0_comeDue_92 rfl 1 rfl ?_
          refine g_aload_n F dX0_comeDue_93 rfl 0 rfl ?_
          refine g_lF70 F zX0_comeDue_inX0 zX0_comeDue_f21 dX0_comeDue_94 ?_
          refine g_cA3 F rfl (by omega) dX0_comeDue_97 ?_
          refine g_aw (CR cI b (S_lrep (S_draw f) k)) rfl ?_
          refine g_aload_n F dX0_comeDue_98 rfl 0 rfl ?_
          refine g_lR4 F zX0_comeDue_inX0 zX0_comeDue_f43 dX0_comeDue_99 ?_
          refine g_iload_n F dX0_comeDue_102 rfl 1 rfl ?_
          refine g_aload_n F dX0_comeDue_103 rfl 0 rfl ?_
          refine g_lF70 F zX0_comeDue_inX0 zX0_comeDue_f21 dX0_comeDue_104 ?_
          refine g_aload_n F dX0_comeDue_107 rfl 0 rfl ?_
          refine g_aload_n F dX0_comeDue_108 rfl 0 rfl ?_
          refine g_iload_n F dX0_comeDue_109 rfl 1 rfl ?_
          refine g_callVs F (As := [.int (nI k)]) (st := [.ref (b 0), .int ((S_lrep (S_draw f) k) 70), .int (nI k), .ref (b 4)]) (kX0_countOf l D cI cZ cQ b (S_lrep (S_draw f) k) k (by omega) (by rw [lrep_k hk]; exact (show ¬ S_draw f k = 0 from by unfold S_draw; rw [pk_un (by omega)]; exact hn)) (Kn_lrep (Kn_draw hI.kn) (by omega))) 0 rfl rfl (cwV 1 F.2.2.2.2.1 gX0_comeDue_X0_countOf rfl rfl rfl (by decide +kernel) ⟨Nat.le_of_ble_eq_true rfl, Nat.le_of_ble_eq_true rfl⟩) rfl rfl (Nat.le_of_ble_eq_true rfl) ⟨Nat.zero_le _, Nat.zero_le _⟩ dX0_comeDue_110 ?_
          refine g_callVs F (As := [.int (S_count (S_lrep (S_draw f) k) k)]) (st := [.int ((S_lrep (S_draw f) k) 70), .int (nI k), .ref (b 4)]) (kX0_waitOf l D cI cZ cQ b (S_lrep (S_draw f) k) (S_count (S_lrep (S_draw f) k) k) (Z_lrep (Z_draw hz) (by omega))) 0 rfl rfl (cwV 1 F.2.2.2.2.1 gX0_comeDue_X0_waitOf rfl rfl rfl (by decide +kernel) ⟨Nat.le_of_ble_eq_true rfl, Nat.le_of_ble_eq_true rfl⟩) rfl rfl (Nat.le_of_ble_eq_true rfl) ⟨Nat.zero_le _, Nat.zero_le _⟩ dX0_comeDue_113 ?_
          refine g_iadd F dX0_comeDue_116 ?_
          refine g_cA4 F rfl (by omega) dX0_comeDue_117 ?_
          exact g_endV (hR _ _ dX0_comeDue_118) (by rw [look_c (lw_1 h1) c3 h1])
        · exact absurd c4 (by decide)
      · refine g_aload_n F dX0_comeDue_54 rfl 0 rfl ?_
        refine g_lR4 F zX0_comeDue_inX0 zX0_comeDue_f43 dX0_comeDue_55 ?_
        refine g_iload_n F dX0_comeDue_58 rfl 1 rfl ?_
        refine g_aload_n F dX0_comeDue_59 rfl 0 rfl ?_
        refine g_lR3 F zX0_comeDue_inX0 zX0_comeDue_f40 dX0_comeDue_60 ?_
        refine g_iload_n F dX0_comeDue_63 rfl 1 rfl ?_
        refine g_lA3 F rfl (by omega) dX0_comeDue_64 ?_
        refine g_iload_n F dX0_comeDue_65 rfl 3 rfl ?_
        refine g_iadd F dX0_comeDue_66 ?_
        refine g_cA4 F rfl (by omega) dX0_comeDue_67 ?_
        refine g_goto F 118 dX0_comeDue_68 (by decide) ?_
        exact g_endV (hR _ _ dX0_comeDue_118) (by rw [look_a (lw_1 h1) c3])
    · exact absurd c2 (by decide)
  · refine g_iconst F (v := 1) dX0_comeDue_10 (by decide) ?_
    refine g_goto F 15 dX0_comeDue_11 (by decide) ?_
    refine g_istore_n F (lv' := [(0, .ref (b 0)), (1, .int (nI k)), (2, .int 1)]) dX0_comeDue_15 rfl (by decide) [1, 2, 0] rfl ?_
    refine g_aload_n F dX0_comeDue_16 rfl 0 rfl ?_
    refine g_iload_n F dX0_comeDue_17 rfl 2 rfl ?_
    refine g_if_eq F 30 dX0_comeDue_18 (by decide) (fun c5 => ?_) (fun c5 => ?_)
    · exact absurd c5 (by decide)
    · refine g_aload_n F dX0_comeDue_21 rfl 0 rfl ?_
      refine g_lR5 F zX0_comeDue_inX0 zX0_comeDue_f46 dX0_comeDue_22 ?_
      refine g_iload_n F dX0_comeDue_25 rfl 1 rfl ?_
      refine g_lA5 F rfl (by omega) dX0_comeDue_26 ?_
      refine g_goto F 35 dX0_comeDue_27 (by decide) ?_
      refine g_callVs F (As := [.int (f (60 + k))]) (st := []) (kX0_waitOf l D cI cZ cQ b f (f (60 + k)) hz) 0 rfl rfl (cwV 1 F.2.2.2.2.1 gX0_comeDue_X0_waitOf rfl rfl rfl (by decide +kernel) ⟨Nat.le_of_ble_eq_true rfl, Nat.le_of_ble_eq_true rfl⟩) rfl rfl (Nat.le_of_ble_eq_true rfl) ⟨Nat.zero_le _, Nat.zero_le _⟩ dX0_comeDue_35 ?_
      refine g_istore_n F (lv' := [(0, .ref (b 0)), (1, .int (nI k)), (2, .int 1), (3, .int (S_waitV f (f (60 + k))))]) dX0_comeDue_38 rfl (by decide) [1, 2, 3, 0] rfl ?_
      refine g_aload_n F dX0_comeDue_39 rfl 0 rfl ?_
      refine g_lR3 F zX0_comeDue_inX0 zX0_comeDue_f40 dX0_comeDue_40 ?_
      refine g_iload_n F dX0_comeDue_43 rfl 1 rfl ?_
      refine g_lA3 F rfl (by omega) dX0_comeDue_44 ?_
      refine g_iload_n F dX0_comeDue_45 rfl 3 rfl ?_
      refine g_iadd F dX0_comeDue_46 ?_
      refine g_aload_n F dX0_comeDue_47 rfl 0 rfl ?_
      refine g_lF70 F zX0_comeDue_inX0 zX0_comeDue_f21 dX0_comeDue_48 ?_
      refine g_icmp_le F 71 dX0_comeDue_51 (by decide) (fun c6 => ?_) (fun c6 => ?_)
      · refine g_iload_n F dX0_comeDue_71 rfl 2 rfl ?_
        refine g_if_eq F 83 dX0_comeDue_72 (by decide) (fun c7 => ?_) (fun c7 => ?_)
        · exact absurd c7 (by decide)
        · refine g_aload_n F dX0_comeDue_75 rfl 0 rfl ?_
          refine g_iload_n F dX0_comeDue_76 rfl 1 rfl ?_
          refine g_callVs F (As := [.int (nI k)]) (st := []) (kX0_sendBye l D cI cZ cQ b (S_draw f) k n G (by omega) (Inv_draw hI) hn0) 0 rfl rfl (cwV 1 F.2.2.2.2.1 gX0_comeDue_X0_sendBye rfl rfl rfl (by decide +kernel) ⟨Nat.le_of_ble_eq_true rfl, Nat.le_of_ble_eq_true rfl⟩) rfl rfl (Nat.le_of_ble_eq_true rfl) ⟨Nat.zero_le _, Nat.zero_le _⟩ dX0_comeDue_77 ?_
          refine g_goto F 118 dX0_comeDue_80 (by decide) ?_
          exact g_endV (hR _ _ dX0_comeDue_118) (by rw [look_b (lw_2 (by rw [c1]; decide)) c6 (by rw [c1]; decide)])
      · refine g_aload_n F dX0_comeDue_54 rfl 0 rfl ?_
        refine g_lR4 F zX0_comeDue_inX0 zX0_comeDue_f43 dX0_comeDue_55 ?_
        refine g_iload_n F dX0_comeDue_58 rfl 1 rfl ?_
        refine g_aload_n F dX0_comeDue_59 rfl 0 rfl ?_
        refine g_lR3 F zX0_comeDue_inX0 zX0_comeDue_f40 dX0_comeDue_60 ?_
        refine g_iload_n F dX0_comeDue_63 rfl 1 rfl ?_
        refine g_lA3 F rfl (by omega) dX0_comeDue_64 ?_
        refine g_iload_n F dX0_comeDue_65 rfl 3 rfl ?_
        refine g_iadd F dX0_comeDue_66 ?_
        refine g_cA4 F rfl (by omega) dX0_comeDue_67 ?_
        refine g_goto F 118 dX0_comeDue_68 (by decide) ?_
        exact g_endV (hR _ _ dX0_comeDue_118) (by rw [look_a (lw_2 (by rw [c1]; decide)) c6])
theorem zX0_run_f21 : Cond.fieldLink RX0 21 (TX0 3).1 (TX0 3).2.1 (TX0 3).2.2.1 ∈ wsX0_run := by decide +kernel
theorem zX0_run_f33 : Cond.fieldLink RX0 33 (TX0 7).1 (TX0 7).2.1 (TX0 7).2.2.1 ∈ wsX0_run := by decide +kernel
theorem zX0_run_f37 : Cond.fieldLink RX0 37 (TX0 8).1 (TX0 8).2.1 (TX0 8).2.2.1 ∈ wsX0_run := by decide +kernel
theorem zX0_run_f43 : Cond.fieldLink RX0 43 (TX0 10).1 (TX0 10).2.1 (TX0 10).2.2.1 ∈ wsX0_run := by decide +kernel
theorem zX0_run_inX0 : ∀ w ∈ u_ws RX0 TX0 14, w ∈ wsX0_run := by decide +kernel
set_option maxHeartbeats 1000000 in
set_option maxRecDepth 100000 in
theorem kX0_run (l : Launch) (D : va_G) (cI cZ cQ : ClassId) (b : Nat → Nat) (f : Row) (t n G : Nat) (ht : t < 2 ^ 31) (hI : Inv n G f) (hn0 : n + t ≤ 1048576) (hG0 : G + 36 * t ≤ 1048576) : Ct l D (gTy cI cZ cQ) yX0_run wsX0_run ({ frames := 5, cells := 0, slots := 0, locals := 110 }) [.ref (b 0), .int (nI t)] (CR cI b f) (some (.int (S_pass f t))) (CR cI b (S_ticks f t)) := by
  refine ct_ofI (cc := cX0_run) (nL := 5) (own := RX0) (by decide) rfl rfl ⟨rfl, rfl⟩ (Nat.le_of_ble_eq_true rfl) CR_same (fun p e s m below meth c A Q F hR => ?_)
  refine g_aload_n F dX0_run_0 rfl 0 rfl ?_
  refine g_callVs F (As := []) (st := []) (kX0_sent l D cI cZ cQ b f  ) 0 rfl rfl (cwV 0 F.2.2.2.2.1 gX0_run_X0_sent rfl rfl rfl (by decide +kernel) ⟨Nat.le_of_ble_eq_true rfl, Nat.le_of_ble_eq_true rfl⟩) rfl rfl (Nat.le_of_ble_eq_true rfl) ⟨Nat.zero_le _, Nat.zero_le _⟩ dX0_run_1 ?_
  refine g_istore_n F (lv' := [(0, .ref (b 0)), (1, .int (nI t)), (2, .int (S_letters f))]) dX0_run_4 rfl (by decide) [1, 2, 0] rfl ?_
  refine g_iconst F (v := 0) dX0_run_5 (by decide) ?_
  refine g_istore_n F (lv' := [(0, .ref (b 0)), (1, .int (nI t)), (2, .int (S_letters f)), (3, .int 0)]) dX0_run_6 rfl (by decide) [1, 2, 3, 0] rfl ?_
  refine g_all (w0 := CR cI b (S_ticks f 0)) (lv0 := [(0, .ref (b 0)), (1, .int (nI t)), (2, .int (S_letters f)), (3, .int (nI 0))]) (st0 := []) rfl rfl rfl ?_
  refine g_for t (fun i => True) (fun i => CR cI b (S_ticks f i)) (fun i => [(0, .ref (b 0)), (1, .int (nI t)), (2, .int (S_letters f)), (3, .int (nI i))]) (fun i hi hIi ihi => ?_) 0 (Nat.zero_le _) trivial
  rw [S_ticks_s] at ihi
  have hIu : Inv (n + i) (G + 36 * i) (S_ticks f i) := Inv_ticks hI t hn0 hG0 i hi
  generalize hg_u : S_ticks f i = u at ihi hIu ⊢
  refine g_iload_n F dX0_run_7 rfl 3 rfl ?_
  refine g_iload_n F dX0_run_8 rfl 1 rfl ?_
  refine g_icmp_ge F 117 dX0_run_9 (by decide) (fun c1 => ?_) (fun c1 => ?_)
  · have hx_c1 : t = i := lp_ge hi ht c1
    subst hx_c1
    subst hg_u
    refine g_aload_n F dX0_run_117 rfl 0 rfl ?_
    refine g_callVs F (As := []) (st := []) (kX0_sent l D cI cZ cQ b (S_ticks f t)  ) 0 rfl rfl (cwV 0 F.2.2.2.2.1 gX0_run_X0_sent rfl rfl rfl (by decide +kernel) ⟨Nat.le_of_ble_eq_true rfl, Nat.le_of_ble_eq_true rfl⟩) rfl rfl (Nat.le_of_ble_eq_true rfl) ⟨Nat.zero_le _, Nat.zero_le _⟩ dX0_run_118 ?_
    refine g_iload_n F dX0_run_121 rfl 2 rfl ?_
    refine g_isub F dX0_run_122 ?_
    exact g_endI (hR _ _ dX0_run_123) rfl rfl
  · have hlti : i < t := lp_lt hi ht c1
    refine g_aload_n F dX0_run_12 rfl 0 rfl ?_
    refine g_dup F dX0_run_13 rfl ?_
    refine g_lF70 F zX0_run_inX0 zX0_run_f21 dX0_run_14 ?_
    refine g_iconst F (v := 1) dX0_run_17 (by decide) ?_
    refine g_iadd F dX0_run_18 ?_
    refine g_cF70 F zX0_run_inX0 zX0_run_f21 dX0_run_19 ?_
    refine g_iconst F (v := 0) dX0_run_22 (by decide) ?_
    refine g_istore F (lv' := [(0, .ref (b 0)), (1, .int (nI t)), (2, .int (S_letters f)), (3, .int (nI i)), (4, .int 0)]) dX0_run_23 (by decide) [1, 2, 3, 4, 0] rfl ?_
    refine g_all (w0 := CR cI b (it S_dueStep 0 (S_tick0 u))) (lv0 := [(0, .ref (b 0)), (1, .int (nI t)), (2, .int (S_letters f)), (3, .int (nI i)), (4, .int (nI 0))]) (st0 := []) rfl rfl rfl ?_
    refine g_for 6 (fun j => True) (fun j => CR cI b (it S_dueStep j (S_tick0 u))) (fun j => [(0, .ref (b 0)), (1, .int (nI t)), (2, .int (S_letters f)), (3, .int (nI i)), (4, .int (nI j))]) (fun j hj hIj ihj => ?_) 0 (Nat.zero_le _) trivial
    dsimp only [it_s] at ihj ⊢
    have hIg : Inv (n + i + 1) (G + 36 * i + 6 * j) (it S_dueStep j (S_tick0 u)) := Inv_dues hIu (by omega) (by omega) j hj
    generalize hg_g : it S_dueStep j (S_tick0 u) = g at ihj hIg ⊢
    refine g_iload F dX0_run_25 4 rfl ?_
    refine g_bipush F (v := 6) dX0_run_27 (by decide) ?_
    refine g_icmp_ge F 68 dX0_run_29 (by decide) (fun c2 => ?_) (fun c2 => ?_)
    · have hx_c2 : 6 = j := lp_ge hj (by decide) c2
      subst hx_c2
      subst hg_g
      refine g_iconst F (v := 0) dX0_run_68 (by decide) ?_
      refine g_istore F (lv' := [(0, .ref (b 0)), (1, .int (nI t)), (2, .int (S_letters f)), (3, .int (nI i)), (4, .int 0)]) dX0_run_69 (by decide) [1, 2, 3, 4, 0] rfl ?_
      refine g_all (w0 := CR cI b (it S_fgStep 0 (S_tick1 u))) (lv0 := [(0, .ref (b 0)), (1, .int (nI t)), (2, .int (S_letters f)), (3, .int (nI i)), (4, .int (nI 0))]) (st0 := []) (by rw [it_0, S_tick1]) rfl rfl ?_
      refine g_for 6 (fun r => True) (fun r => CR cI b (it S_fgStep r (S_tick1 u))) (fun r => [(0, .ref (b 0)), (1, .int (nI t)), (2, .int (S_letters f)), (3, .int (nI i)), (4, .int (nI r))]) (fun r hr hIr ihr => ?_) 0 (Nat.zero_le _) trivial
      dsimp only [it_s] at ihr ⊢
      have hIg : Inv (n + i + 1) (G + 36 * i + 36) (it S_fgStep r (S_tick1 u)) := Inv_fgs hIu (by omega) (by omega) r hr
      have hzg : Z67 (it S_fgStep r (S_tick1 u)) := hIg.z
      generalize hg_g : it S_fgStep r (S_tick1 u) = g at ihr hIg hzg ⊢
      refine g_iload F dX0_run_71 4 rfl ?_
      refine g_bipush F (v := 6) dX0_run_73 (by decide) ?_
      refine g_icmp_ge F 111 dX0_run_75 (by decide) (fun c3 => ?_) (fun c3 => ?_)
      · have hx_c3 : 6 = r := lp_ge hr (by decide) c3
        subst hx_c3
        subst hg_g
        refine g_iinc F (lv' := [(0, .ref (b 0)), (1, .int (nI t)), (2, .int (S_letters f)), (3, .int (nI (i + 1))), (4, .int (nI 6))]) (nI (i + 1)) dX0_run_111 3 rfl (nI_add i 1) (by decide) [1, 2, 3, 0, 4] rfl ?_
        refine g_goto F 7 dX0_run_114 (by decide) ?_
        refine g_lvs [0, 1, 2, 3] rfl ?_
        refine g_all (w0 := CR cI b (S_tick u)) (lv0 := [(0, .ref (b 0)), (1, .int (nI t)), (2, .int (S_letters f)), (3, .int (nI (i + 1)))]) (st0 := []) rfl rfl rfl ?_
        exact ihi hlti trivial
      · have hltr : r < 6 := lp_lt hr (by decide) c3
        refine g_aload_n F dX0_run_78 rfl 0 rfl ?_
        refine g_lR1 F zX0_run_inX0 zX0_run_f33 dX0_run_79 ?_
        refine g_iload F dX0_run_82 4 rfl ?_
        refine g_lA1 F rfl (by omega) dX0_run_84 ?_
        refine g_iconst F (v := 1) dX0_run_85 (by decide) ?_
        refine g_icmp_ne F 105 dX0_run_86 (by decide) (fun c4 => ?_) (fun c4 => ?_)
        · refine g_iinc F (lv' := [(0, .ref (b 0)), (1, .int (nI t)), (2, .int (S_letters f)), (3, .int (nI i)), (4, .int (nI (r + 1)))]) (nI (r + 1)) dX0_run_105 4 rfl (nI_add r 1) (by decide) [1, 2, 3, 4, 0] rfl ?_
          refine g_goto F 71 dX0_run_108 (by decide) ?_
          refine g_all (w0 := CR cI b (S_fgStep r g)) (lv0 := [(0, .ref (b 0)), (1, .int (nI t)), (2, .int (S_letters f)), (3, .int (nI i)), (4, .int (nI (r + 1)))]) (st0 := []) (by unfold S_fgStep; rw [if_neg c4]) rfl rfl ?_
          exact ihr hltr trivial
        · refine g_aload_n F dX0_run_89 rfl 0 rfl ?_
          refine g_lR2 F zX0_run_inX0 zX0_run_f37 dX0_run_90 ?_
          refine g_iload F dX0_run_93 4 rfl ?_
          refine g_lA2 F rfl (by omega) dX0_run_95 ?_
          refine g_if_eq F 105 dX0_run_96 (by decide) (fun c5 => ?_) (fun c5 => ?_)
          · refine g_iinc F (lv' := [(0, .ref (b 0)), (1, .int (nI t)), (2, .int (S_letters f)), (3, .int (nI i)), (4, .int (nI (r + 1)))]) (nI (r + 1)) dX0_run_105 4 rfl (nI_add r 1) (by decide) [1, 2, 3, 4, 0] rfl ?_
            refine g_goto F 71 dX0_run_108 (by decide) ?_
            refine g_all (w0 := CR cI b (S_fgStep r g)) (lv0 := [(0, .ref (b 0)), (1, .int (nI t)), (2, .int (S_letters f)), (3, .int (nI i)), (4, .int (nI (r + 1)))]) (st0 := []) (by unfold S_fgStep; rw [if_pos c4, forget_0 c5]) rfl rfl ?_
            exact ihr hltr trivial
          · refine g_aload_n F dX0_run_99 rfl 0 rfl ?_
            refine g_iload F dX0_run_100 4 rfl ?_
            refine g_callVs F (As := [.int (nI r)]) (st := []) (kX0_forgetOld l D cI cZ cQ b g r (by omega) (by rw [c4]; decide) hIg.kn hzg) 0 rfl rfl (cwV 1 F.2.2.2.2.1 gX0_run_X0_forgetOld rfl rfl rfl (by decide +kernel) ⟨Nat.le_of_ble_eq_true rfl, Nat.le_of_ble_eq_true rfl⟩) rfl rfl (Nat.le_of_ble_eq_true rfl) ⟨Nat.zero_le _, Nat.zero_le _⟩ dX0_run_102 ?_
            refine g_iinc F (lv' := [(0, .ref (b 0)), (1, .int (nI t)), (2, .int (S_letters f)), (3, .int (nI i)), (4, .int (nI (r + 1)))]) (nI (r + 1)) dX0_run_105 4 rfl (nI_add r 1) (by decide) [1, 2, 3, 4, 0] rfl ?_
            refine g_goto F 71 dX0_run_108 (by decide) ?_
            refine g_all (w0 := CR cI b (S_fgStep r g)) (lv0 := [(0, .ref (b 0)), (1, .int (nI t)), (2, .int (S_letters f)), (3, .int (nI i)), (4, .int (nI (r + 1)))]) (st0 := []) (by unfold S_fgStep; rw [if_pos c4]) rfl rfl ?_
            exact ihr hltr trivial
    · have hltj : j < 6 := lp_lt hj (by decide) c2
      refine g_aload_n F dX0_run_32 rfl 0 rfl ?_
      refine g_lR1 F zX0_run_inX0 zX0_run_f33 dX0_run_33 ?_
      refine g_iload F dX0_run_36 4 rfl ?_
      refine g_lA1 F rfl (by omega) dX0_run_38 ?_
      refine g_if_eq F 62 dX0_run_39 (by decide) (fun c6 => ?_) (fun c6 => ?_)
      · refine g_iinc F (lv' := [(0, .ref (b 0)), (1, .int (nI t)), (2, .int (S_letters f)), (3, .int (nI i)), (4, .int (nI (j + 1)))]) (nI (j + 1)) dX0_run_62 4 rfl (nI_add j 1) (by decide) [1, 2, 3, 4, 0] rfl ?_
        refine g_goto F 25 dX0_run_65 (by decide) ?_
        refine g_all (w0 := CR cI b (S_dueStep j g)) (lv0 := [(0, .ref (b 0)), (1, .int (nI t)), (2, .int (S_letters f)), (3, .int (nI i)), (4, .int (nI (j + 1)))]) (st0 := []) (by first | (simp only [S_dueStep, c6, Bool.false_eq_true, ↓reduceIte]; done) | (with_reducible rfl) | (simp [S_dueStep, c6, Bool.false_eq_true, ↓reduceIte]; done)) rfl rfl ?_
        exact ihj hltj trivial
      · refine g_aload_n F dX0_run_42 rfl 0 rfl ?_
        refine g_lR4 F zX0_run_inX0 zX0_run_f43 dX0_run_43 ?_
        refine g_iload F dX0_run_46 4 rfl ?_
        refine g_lA4 F rfl (by omega) dX0_run_48 ?_
        refine g_aload_n F dX0_run_49 rfl 0 rfl ?_
        refine g_lF70 F zX0_run_inX0 zX0_run_f21 dX0_run_50 ?_
        refine g_icmp_gt F 62 dX0_run_53 (by decide) (fun c7 => ?_) (fun c7 => ?_)
        · refine g_iinc F (lv' := [(0, .ref (b 0)), (1, .int (nI t)), (2, .int (S_letters f)), (3, .int (nI i)), (4, .int (nI (j + 1)))]) (nI (j + 1)) dX0_run_62 4 rfl (nI_add j 1) (by decide) [1, 2, 3, 4, 0] rfl ?_
          refine g_goto F 25 dX0_run_65 (by decide) ?_
          refine g_all (w0 := CR cI b (S_dueStep j g)) (lv0 := [(0, .ref (b 0)), (1, .int (nI t)), (2, .int (S_letters f)), (3, .int (nI i)), (4, .int (nI (j + 1)))]) (st0 := []) (by first | (simp only [S_dueStep, c6, c7, Bool.false_eq_true, ↓reduceIte]; done) | (with_reducible rfl) | (simp [S_dueStep, c6, c7, Bool.false_eq_true, ↓reduceIte]; done)) rfl rfl ?_
          exact ihj hltj trivial
        · refine g_aload_n F dX0_run_56 rfl 0 rfl ?_
          refine g_iload F dX0_run_57 4 rfl ?_
          refine g_callVs F (As := [.int (nI j)]) (st := []) (kX0_comeDue l D cI cZ cQ b g j (n + i + 1) (G + 36 * i + 6 * j) (by omega) c6 hIg (by omega)) 0 rfl rfl (cwV 1 F.2.2.2.2.1 gX0_run_X0_comeDue rfl rfl rfl (by decide +kernel) ⟨Nat.le_of_ble_eq_true rfl, Nat.le_of_ble_eq_true rfl⟩) rfl rfl (Nat.le_of_ble_eq_true rfl) ⟨Nat.zero_le _, Nat.zero_le _⟩ dX0_run_59 ?_
          refine g_iinc F (lv' := [(0, .ref (b 0)), (1, .int (nI t)), (2, .int (S_letters f)), (3, .int (nI i)), (4, .int (nI (j + 1)))]) (nI (j + 1)) dX0_run_62 4 rfl (nI_add j 1) (by decide) [1, 2, 3, 4, 0] rfl ?_
          refine g_goto F 25 dX0_run_65 (by decide) ?_
          refine g_all (w0 := CR cI b (S_dueStep j g)) (lv0 := [(0, .ref (b 0)), (1, .int (nI t)), (2, .int (S_letters f)), (3, .int (nI i)), (4, .int (nI (j + 1)))]) (st0 := []) (by first | (simp only [S_dueStep, c6, c7, Bool.false_eq_true, ↓reduceIte]; done) | (with_reducible rfl) | (simp [S_dueStep, c6, c7, Bool.false_eq_true, ↓reduceIte]; done)) rfl rfl ?_
          exact ihj hltj trivial
