theorem zX2_readText_f102 : Cond.fieldLink RX2 102 (TX2 1).1 (TX2 1).2.1 (TX2 1).2.2.1 ∈ wsX2_readText := by decide +kernel
theorem zX2_readText_f38 : Cond.fieldLink RX2 38 (TX2 14).1 (TX2 14).2.1 (TX2 14).2.2.1 ∈ wsX2_readText := by decide +kernel
theorem zX2_readText_f7 : Cond.fieldLink RX2 7 (TX2 0).1 (TX2 0).2.1 (TX2 0).2.2.1 ∈ wsX2_readText := by decide +kernel
theorem zX2_readText_inX2 : ∀ w ∈ u_ws RX2 TX2 15, w ∈ wsX2_readText := by decide +kernel
set_option maxHeartbeats 1000000 in
set_option maxRecDepth 100000 in
theorem kX2_readText_a (l : Launch) (D : va_G) (cI cZ cQ : ClassId) (a : Nat → Nat) (tx : Row) (ln : Nat) (nw tr di : Row) (ac nx : Nat) (ke ik s1 s2 : Row) (se : Nat) (sd : Int64) (wo re : Row) (hln : ln ≤ 60) (h : ln = 0 ∨ ¬ tx 0 = 77) : Ct l D (gTy cI cZ cQ) yX2_readText wsX2_readText ({ frames := 6, cells := 0, slots := 0, locals := 190 }) [.ref (a 0)] (MW cI cZ a tx ln nw tr di ac nx ke ik s1 s2 se sd wo re) (some (.int 0)) (MW cI cZ a tx ln nw tr di ac nx ke ik s1 s2 se sd wo S_init) := by
  refine ct_ofI (cc := cX2_readText) (nL := 7) (own := RX2) (by decide) rfl rfl ⟨rfl, rfl⟩ (Nat.le_of_ble_eq_true rfl) MW_same (fun p e s m below meth c A Q F hR => ?_)
  refine g_aw ([(a 0, .inr (2, [.ref (a 1), .int (nI ln), .ref (a 2), .ref (a 3), .ref (a 4), .int (nI ac), .int (nI nx), .ref (a 5), .ref (a 6), .ref (a 7), .ref (a 8), .int (nI se), .long sd, .ref (a 9), .ref (a 10)])), (a 1, .inl (cI, 60, .inl tx)), (a 2, .inl (cI, 79, .inl nw)), (a 3, .inl (cI, 79, .inl tr)), (a 4, .inl (cI, 1106, .inl di)), (a 5, .inl (cI, 158, .inl ke)), (a 6, .inl (cZ, 2, .inl ik)), (a 7, .inl (cI, 6, .inl s1)), (a 8, .inl (cI, 6, .inl s2)), (a 9, .inl (cI, 64, .inl wo)), (a 10, .inl (cI, 79, .inl re))]) rfl ?_
  refine g_aload_n F dX2_readText_0 rfl 0 rfl ?_
  refine g_get F (.ref (a 10)) zX2_readText_inX2 0 rfl rfl 14 (by decide) rfl zX2_readText_f38 dX2_readText_1 ?_
  refine g_callS F (As := [.ref (a 10)]) (st := []) ([(a 0, .inr (2, [.ref (a 1), .int (nI ln), .ref (a 2), .ref (a 3), .ref (a 4), .int (nI ac), .int (nI nx), .ref (a 5), .ref (a 6), .ref (a 7), .ref (a 8), .int (nI se), .long sd, .ref (a 9), .ref (a 10)])), (a 1, .inl (cI, 60, .inl tx)), (a 2, .inl (cI, 79, .inl nw)), (a 3, .inl (cI, 79, .inl tr)), (a 4, .inl (cI, 1106, .inl di)), (a 5, .inl (cI, 158, .inl ke)), (a 6, .inl (cZ, 2, .inl ik)), (a 7, .inl (cI, 6, .inl s1)), (a 8, .inl (cI, 6, .inl s2)), (a 9, .inl (cI, 64, .inl wo))]) ([(a 0, .inr (2, [.ref (a 1), .int (nI ln), .ref (a 2), .ref (a 3), .ref (a 4), .int (nI ac), .int (nI nx), .ref (a 5), .ref (a 6), .ref (a 7), .ref (a 8), .int (nI se), .long sd, .ref (a 9), .ref (a 10)])), (a 1, .inl (cI, 60, .inl tx)), (a 2, .inl (cI, 79, .inl nw)), (a 3, .inl (cI, 79, .inl tr)), (a 4, .inl (cI, 1106, .inl di)), (a 5, .inl (cI, 158, .inl ke)), (a 6, .inl (cZ, 2, .inl ik)), (a 7, .inl (cI, 6, .inl s1)), (a 8, .inl (cI, 6, .inl s2)), (a 9, .inl (cI, 64, .inl wo)), (a 10, .inl (cI, 79, .inl S_init))]) [10] [0, 1, 2, 3, 4, 5, 6, 7, 8, 9] [0, 1, 2, 3, 4, 5, 6, 7, 8, 9, 10] (kX2_clear l D cI cZ cQ (a 10) re) (va_cwS 1 F.2.2.2.2.1 gX2_readText_X2_clear rfl rfl rfl (by decide +kernel) ⟨Nat.le_of_ble_eq_true rfl, Nat.le_of_ble_eq_true rfl⟩) rfl rfl rfl rfl (by decide) (by decide) (by decide) rfl (by decide) (Nat.le_of_ble_eq_true rfl) ⟨Nat.zero_le _, Nat.zero_le _⟩ dX2_readText_4 ?_
  refine g_aload_n F dX2_readText_7 rfl 0 rfl ?_
  refine g_get F (.int (nI ln)) zX2_readText_inX2 0 rfl rfl 1 (by decide) rfl zX2_readText_f102 dX2_readText_8 ?_
  refine g_if_eq F 25 dX2_readText_11 (by decide) (fun c1 => ?_) (fun c1 => ?_)
  · refine g_iconst F (v := 0) dX2_readText_25 (by decide) ?_
    exact g_endI (hR _ _ dX2_readText_26) rfl rfl
  · refine g_aload_n F dX2_readText_14 rfl 0 rfl ?_
    refine g_get F (.ref (a 1)) zX2_readText_inX2 0 rfl rfl 0 (by decide) rfl zX2_readText_f7 dX2_readText_15 ?_
    refine g_iconst F (v := 0) dX2_readText_18 (by decide) ?_
    refine g_as (nI 0) rfl ?_
    refine g_iald F (j := 0) 1 0 rfl rfl (by omega) (by decide) dX2_readText_19 ?_
    refine g_bipush F (v := 77) dX2_readText_20 (by decide) ?_
    refine g_icmp_eq F 27 dX2_readText_22 (by decide) (fun c2 => ?_) (fun c2 => ?_)
    · exact absurd h (by rintro (q | q); exact c1 (by rw [q]; rfl); exact q c2)
    · refine g_iconst F (v := 0) dX2_readText_25 (by decide) ?_
      exact g_endI (hR _ _ dX2_readText_26) rfl rfl
theorem zX2_readText_c106 : Cond.constantLong RX2 106 (9) ∈ wsX2_readText := by decide +kernel
set_option maxHeartbeats 1000000 in
set_option maxRecDepth 100000 in
theorem kX2_readText_b (l : Launch) (D : va_G) (cI cZ cQ : ClassId) (a : Nat → Nat) (tx : Row) (ln : Nat) (nw tr di : Row) (ac nx : Nat) (ke ik s1 s2 : Row) (se : Nat) (sd : Int64) (wo re : Row) (hln : ln ≤ 60) (h0 : 0 < ln) (h77 : tx 0 = 77) (k : Nat) (hk1 : 1 ≤ k) (hk6 : k ≤ 6) (hgood : ∀ j, 1 ≤ j → j < k → S_hok tx ln j = true) (hbad : S_hok tx ln k = false) : Ct l D (gTy cI cZ cQ) yX2_readText wsX2_readText ({ frames := 6, cells := 0, slots := 0, locals := 190 }) [.ref (a 0)] (MW cI cZ a tx ln nw tr di ac nx ke ik s1 s2 se sd wo re) (some (.int (nI k))) (MW cI cZ a tx ln nw tr di ac nx ke ik s1 s2 se sd wo (S_hdR tx S_init (k - 1))) := by
  refine ct_ofI (cc := cX2_readText) (nL := 7) (own := RX2) (by decide) rfl rfl ⟨rfl, rfl⟩ (Nat.le_of_ble_eq_true rfl) MW_same (fun p e s m below meth c A Q F hR => ?_)
  refine g_aw ([(a 0, .inr (2, [.ref (a 1), .int (nI ln), .ref (a 2), .ref (a 3), .ref (a 4), .int (nI ac), .int (nI nx), .ref (a 5), .ref (a 6), .ref (a 7), .ref (a 8), .int (nI se), .long sd, .ref (a 9), .ref (a 10)])), (a 1, .inl (cI, 60, .inl tx)), (a 2, .inl (cI, 79, .inl nw)), (a 3, .inl (cI, 79, .inl tr)), (a 4, .inl (cI, 1106, .inl di)), (a 5, .inl (cI, 158, .inl ke)), (a 6, .inl (cZ, 2, .inl ik)), (a 7, .inl (cI, 6, .inl s1)), (a 8, .inl (cI, 6, .inl s2)), (a 9, .inl (cI, 64, .inl wo)), (a 10, .inl (cI, 79, .inl re))]) rfl ?_
  refine g_aload_n F dX2_readText_0 rfl 0 rfl ?_
  refine g_get F (.ref (a 10)) zX2_readText_inX2 0 rfl rfl 14 (by decide) rfl zX2_readText_f38 dX2_readText_1 ?_
  refine g_callS F (As := [.ref (a 10)]) (st := []) ([(a 0, .inr (2, [.ref (a 1), .int (nI ln), .ref (a 2), .ref (a 3), .ref (a 4), .int (nI ac), .int (nI nx), .ref (a 5), .ref (a 6), .ref (a 7), .ref (a 8), .int (nI se), .long sd, .ref (a 9), .ref (a 10)])), (a 1, .inl (cI, 60, .inl tx)), (a 2, .inl (cI, 79, .inl nw)), (a 3, .inl (cI, 79, .inl tr)), (a 4, .inl (cI, 1106, .inl di)), (a 5, .inl (cI, 158, .inl ke)), (a 6, .inl (cZ, 2, .inl ik)), (a 7, .inl (cI, 6, .inl s1)), (a 8, .inl (cI, 6, .inl s2)), (a 9, .inl (cI, 64, .inl wo))]) ([(a 0, .inr (2, [.ref (a 1), .int (nI ln), .ref (a 2), .ref (a 3), .ref (a 4), .int (nI ac), .int (nI nx), .ref (a 5), .ref (a 6), .ref (a 7), .ref (a 8), .int (nI se), .long sd, .ref (a 9), .ref (a 10)])), (a 1, .inl (cI, 60, .inl tx)), (a 2, .inl (cI, 79, .inl nw)), (a 3, .inl (cI, 79, .inl tr)), (a 4, .inl (cI, 1106, .inl di)), (a 5, .inl (cI, 158, .inl ke)), (a 6, .inl (cZ, 2, .inl ik)), (a 7, .inl (cI, 6, .inl s1)), (a 8, .inl (cI, 6, .inl s2)), (a 9, .inl (cI, 64, .inl wo)), (a 10, .inl (cI, 79, .inl S_init))]) [10] [0, 1, 2, 3, 4, 5, 6, 7, 8, 9] [0, 1, 2, 3, 4, 5, 6, 7, 8, 9, 10] (kX2_clear l D cI cZ cQ (a 10) re) (va_cwS 1 F.2.2.2.2.1 gX2_readText_X2_clear rfl rfl rfl (by decide +kernel) ⟨Nat.le_of_ble_eq_true rfl, Nat.le_of_ble_eq_true rfl⟩) rfl rfl rfl rfl (by decide) (by decide) (by decide) rfl (by decide) (Nat.le_of_ble_eq_true rfl) ⟨Nat.zero_le _, Nat.zero_le _⟩ dX2_readText_4 ?_
  refine g_aload_n F dX2_readText_7 rfl 0 rfl ?_
  refine g_get F (.int (nI ln)) zX2_readText_inX2 0 rfl rfl 1 (by decide) rfl zX2_readText_f102 dX2_readText_8 ?_
  refine g_if_eq F 25 dX2_readText_11 (by decide) (fun c1 => ?_) (fun c1 => ?_)
  · exact absurd (nI_z (by omega) c1) (by omega)
  · refine g_aload_n F dX2_readText_14 rfl 0 rfl ?_
    refine g_get F (.ref (a 1)) zX2_readText_inX2 0 rfl rfl 0 (by decide) rfl zX2_readText_f7 dX2_readText_15 ?_
    refine g_iconst F (v := 0) dX2_readText_18 (by decide) ?_
    refine g_as (nI 0) rfl ?_
    refine g_iald F (j := 0) 1 0 rfl rfl (by omega) (by decide) dX2_readText_19 ?_
    refine g_bipush F (v := 77) dX2_readText_20 (by decide) ?_
    refine g_icmp_eq F 27 dX2_readText_22 (by decide) (fun c2 => ?_) (fun c2 => ?_)
    · refine g_iconst F (v := 1) dX2_readText_27 (by decide) ?_
      refine g_istore_n F (lv' := [(0, .ref (a 0)), (1, .int 1)]) dX2_readText_28 rfl (by decide) [1, 0] rfl ?_
      refine g_all (w0 := [(a 0, .inr (2, [.ref (a 1), .int (nI ln), .ref (a 2), .ref (a 3), .ref (a 4), .int (nI ac), .int (nI nx), .ref (a 5), .ref (a 6), .ref (a 7), .ref (a 8), .int (nI se), .long sd, .ref (a 9), .ref (a 10)])), (a 1, .inl (cI, 60, .inl tx)), (a 2, .inl (cI, 79, .inl nw)), (a 3, .inl (cI, 79, .inl tr)), (a 4, .inl (cI, 1106, .inl di)), (a 5, .inl (cI, 158, .inl ke)), (a 6, .inl (cZ, 2, .inl ik)), (a 7, .inl (cI, 6, .inl s1)), (a 8, .inl (cI, 6, .inl s2)), (a 9, .inl (cI, 64, .inl wo)), (a 10, .inl (cI, 79, .inl (S_hdR tx S_init 0)))]) (lv0 := [(0, .ref (a 0)), (1, .int (nI (0 + 1)))]) (st0 := []) rfl rfl rfl ?_
      refine g_for 6 (fun i => i + 1 ≤ k) (fun i => [(a 0, .inr (2, [.ref (a 1), .int (nI ln), .ref (a 2), .ref (a 3), .ref (a 4), .int (nI ac), .int (nI nx), .ref (a 5), .ref (a 6), .ref (a 7), .ref (a 8), .int (nI se), .long sd, .ref (a 9), .ref (a 10)])), (a 1, .inl (cI, 60, .inl tx)), (a 2, .inl (cI, 79, .inl nw)), (a 3, .inl (cI, 79, .inl tr)), (a 4, .inl (cI, 1106, .inl di)), (a 5, .inl (cI, 158, .inl ke)), (a 6, .inl (cZ, 2, .inl ik)), (a 7, .inl (cI, 6, .inl s1)), (a 8, .inl (cI, 6, .inl s2)), (a 9, .inl (cI, 64, .inl wo)), (a 10, .inl (cI, 79, .inl (S_hdR tx S_init i)))]) (fun i => [(0, .ref (a 0)), (1, .int (nI (i + 1)))]) (fun i hi hIi ihi => ?_) 0 (Nat.zero_le _) (by omega)
      rw [S_hdR] at ihi
      generalize hg_g : S_hdR tx S_init i = g at ihi ⊢
      refine g_iload_n F dX2_readText_29 rfl 1 rfl ?_
      refine g_bipush F (v := 7) dX2_readText_30 (by decide) ?_
      refine g_icmp_ge F 126 dX2_readText_32 (by decide) (fun c3 => ?_) (fun c3 => ?_)
      · have hx_c3 : 6 = i := by have := (nI_leI (a := 7) (b := i + 1) (by decide) (by omega)).mp c3; omega
        subst hx_c3
        exact absurd hIi (by omega)
      · have hlti : i < 6 := by have := nlt_of (a := i + 1) (b := 7) (by omega) (by decide) c3; omega
        refine g_iload_n F dX2_readText_35 rfl 1 rfl ?_
        refine g_aload_n F dX2_readText_36 rfl 0 rfl ?_
        refine g_get F (.int (nI ln)) zX2_readText_inX2 0 rfl rfl 1 (by decide) rfl zX2_readText_f102 dX2_readText_37 ?_
        have hJ5 : Go p l e ({ frames := 6, cells := 0, slots := 0, locals := 190 }) s m (List.toArray [.ref (a 0)]) below meth c Q D A 7 0 0 ([(a 0, .inr (2, [.ref (a 1), .int (nI ln), .ref (a 2), .ref (a 3), .ref (a 4), .int (nI ac), .int (nI nx), .ref (a 5), .ref (a 6), .ref (a 7), .ref (a 8), .int (nI se), .long sd, .ref (a 9), .ref (a 10)])), (a 1, .inl (cI, 60, .inl tx)), (a 2, .inl (cI, 79, .inl nw)), (a 3, .inl (cI, 79, .inl tr)), (a 4, .inl (cI, 1106, .inl di)), (a 5, .inl (cI, 158, .inl ke)), (a 6, .inl (cZ, 2, .inl ik)), (a 7, .inl (cI, 6, .inl s1)), (a 8, .inl (cI, 6, .inl s2)), (a 9, .inl (cI, 64, .inl wo)), (a 10, .inl (cI, 79, .inl g))]) 57 [(0, .ref (a 0)), (1, .int (nI (i + 1)))] [.int (S_let tx ln (i + 1))] := by
          refine g_istore_n F (lv' := [(0, .ref (a 0)), (1, .int (nI (i + 1))), (2, .int (S_let tx ln (i + 1)))]) dX2_readText_57 rfl (by decide) [1, 2, 0] rfl ?_
          refine g_iload_n F dX2_readText_58 rfl 2 rfl ?_
          refine g_i2l F dX2_readText_59 ?_
          refine g_iload_n F dX2_readText_60 rfl 1 rfl ?_
          refine g_iconst F (v := 4) dX2_readText_61 (by decide) ?_
          have hJ7 : Go p l e ({ frames := 6, cells := 0, slots := 0, locals := 190 }) s m (List.toArray [.ref (a 0)]) below meth c Q D A 7 0 0 ([(a 0, .inr (2, [.ref (a 1), .int (nI ln), .ref (a 2), .ref (a 3), .ref (a 4), .int (nI ac), .int (nI nx), .ref (a 5), .ref (a 6), .ref (a 7), .ref (a 8), .int (nI se), .long sd, .ref (a 9), .ref (a 10)])), (a 1, .inl (cI, 60, .inl tx)), (a 2, .inl (cI, 79, .inl nw)), (a 3, .inl (cI, 79, .inl tr)), (a 4, .inl (cI, 1106, .inl di)), (a 5, .inl (cI, 158, .inl ke)), (a 6, .inl (cZ, 2, .inl ik)), (a 7, .inl (cI, 6, .inl s1)), (a 8, .inl (cI, 6, .inl s2)), (a 9, .inl (cI, 64, .inl wo)), (a 10, .inl (cI, 79, .inl g))]) 70 [(0, .ref (a 0)), (1, .int (nI (i + 1))), (2, .int (S_let tx ln (i + 1)))] [.long (if i + 1 < 4 then (1 : Int64) else 0), .long (Int32.toInt64 (S_let tx ln (i + 1)))] := by
            refine g_ldc2 F zX2_readText_c106 dX2_readText_70 ?_
            refine g_callSn F (As := [.long (Int32.toInt64 (S_let tx ln (i + 1))), .long (if i + 1 < 4 then (1 : Int64) else 0), .long 9]) (st := []) (kX2_in l D cI cZ cQ (Int32.toInt64 (S_let tx ln (i + 1))) (if i + 1 < 4 then (1 : Int64) else 0) 9) (va_cwS 3 F.2.2.2.2.1 gX2_readText_X2_in rfl rfl rfl (by decide +kernel) ⟨Nat.le_of_ble_eq_true rfl, Nat.le_of_ble_eq_true rfl⟩) rfl rfl (Nat.le_of_ble_eq_true rfl) ⟨Nat.zero_le _, Nat.zero_le _⟩ dX2_readText_73 ?_
            refine g_bne F 81 dX2_readText_76 (by decide) (fun c8 => ?_) (fun c8 => ?_)
            · have hok : S_hok tx ln (i + 1) = true := hok_let.symm.trans c8
              have hkl : i + 1 < ln := (hok_ge hok).1
              have elet := let_in (tx := tx) hkl
              refine g_iload_n F dX2_readText_81 rfl 1 rfl ?_
              refine g_iconst F (v := 4) dX2_readText_82 (by decide) ?_
              refine g_icmp_ge F 101 dX2_readText_83 (by decide) (fun c9 => ?_) (fun c9 => ?_)
              · refine g_aload_n F dX2_readText_101 rfl 0 rfl ?_
                refine g_get F (.ref (a 10)) zX2_readText_inX2 0 rfl rfl 14 (by decide) rfl zX2_readText_f38 dX2_readText_102 ?_
                refine g_bipush F (v := 69) dX2_readText_105 (by decide) ?_
                refine g_bipush F (v := 10) dX2_readText_107 (by decide) ?_
                refine g_aload_n F dX2_readText_109 rfl 0 rfl ?_
                refine g_get F (.ref (a 10)) zX2_readText_inX2 0 rfl rfl 14 (by decide) rfl zX2_readText_f38 dX2_readText_110 ?_
                refine g_bipush F (v := 69) dX2_readText_113 (by decide) ?_
                refine g_as (nI 69) rfl ?_
                refine g_iald F (j := 69) 10 0 rfl rfl (by omega) (by decide) dX2_readText_115 ?_
                refine g_imul F dX2_readText_116 ?_
                refine g_iload_n F dX2_readText_117 rfl 2 rfl ?_
                refine g_iadd F dX2_readText_118 ?_
                refine g_as2 (nI 69) rfl ?_
                refine g_iast F (j := 69) ([(a 0, .inr (2, [.ref (a 1), .int (nI ln), .ref (a 2), .ref (a 3), .ref (a 4), .int (nI ac), .int (nI nx), .ref (a 5), .ref (a 6), .ref (a 7), .ref (a 8), .int (nI se), .long sd, .ref (a 9), .ref (a 10)])), (a 1, .inl (cI, 60, .inl tx)), (a 2, .inl (cI, 79, .inl nw)), (a 3, .inl (cI, 79, .inl tr)), (a 4, .inl (cI, 1106, .inl di)), (a 5, .inl (cI, 158, .inl ke)), (a 6, .inl (cZ, 2, .inl ik)), (a 7, .inl (cI, 6, .inl s1)), (a 8, .inl (cI, 6, .inl s2)), (a 9, .inl (cI, 64, .inl wo)), (a 10, .inl (cI, 79, .inl (upd g 69 ((10 * (g 69)) + (S_let tx ln (i + 1))))))]) 10 0 rfl rfl (by omega) (by decide) dX2_readText_119 rfl ?_
                refine g_iinc F (lv' := [(0, .ref (a 0)), (1, .int (nI (i + 1 + 1))), (2, .int (S_let tx ln (i + 1)))]) (nI (i + 1 + 1)) dX2_readText_120 1 rfl (nI_add (i + 1) 1) (by decide) [1, 0, 2] rfl ?_
                refine g_goto F 29 dX2_readText_123 (by decide) ?_
                refine g_lvs (lv' := [(0, .ref (a 0)), (1, .int (nI (i + 1 + 1)))]) [0, 1] rfl ?_
                refine g_all (w0 := [(a 0, .inr (2, [.ref (a 1), .int (nI ln), .ref (a 2), .ref (a 3), .ref (a 4), .int (nI ac), .int (nI nx), .ref (a 5), .ref (a 6), .ref (a 7), .ref (a 8), .int (nI se), .long sd, .ref (a 9), .ref (a 10)])), (a 1, .inl (cI, 60, .inl tx)), (a 2, .inl (cI, 79, .inl nw)), (a 3, .inl (cI, 79, .inl tr)), (a 4, .inl (cI, 1106, .inl di)), (a 5, .inl (cI, 158, .inl ke)), (a 6, .inl (cZ, 2, .inl ik)), (a 7, .inl (cI, 6, .inl s1)), (a 8, .inl (cI, 6, .inl s2)), (a 9, .inl (cI, 64, .inl wo)), (a 10, .inl (cI, 79, .inl (S_hdS tx (i + 1) g)))]) (lv0 := [(0, .ref (a 0)), (1, .int (nI (i + 1 + 1)))]) (st0 := []) (by rw [elet]; unfold S_hdS; rw [if_neg (by have := (nI_leI (a := 4) (b := i + 1) (by decide) (by omega)).mp c9; omega)]) rfl rfl ?_
                exact ihi hlti (by rcases Nat.eq_or_lt_of_le hIi with q | q; rw [q] at hok; rw [hbad] at hok; cases hok; omega)
              · refine g_aload_n F dX2_readText_86 rfl 0 rfl ?_
                refine g_get F (.ref (a 10)) zX2_readText_inX2 0 rfl rfl 14 (by decide) rfl zX2_readText_f38 dX2_readText_87 ?_
                refine g_bipush F (v := 66) dX2_readText_90 (by decide) ?_
                refine g_iload_n F dX2_readText_92 rfl 1 rfl ?_
                refine g_iadd F dX2_readText_93 ?_
                refine g_as (nI (66 + i + 1)) (nI_add 66 (i + 1)) ?_
                refine g_iconst F (v := 1) dX2_readText_94 (by decide) ?_
                refine g_isub F dX2_readText_95 ?_
                refine g_as (nI (65 + (i + 1))) ((pk_sub (a := 66 + (i + 1)) (b := 1) (by omega)).trans (congrArg nI (by omega))) ?_
                refine g_iload_n F dX2_readText_96 rfl 2 rfl ?_
                refine g_iast F (j := 65 + (i + 1)) ([(a 0, .inr (2, [.ref (a 1), .int (nI ln), .ref (a 2), .ref (a 3), .ref (a 4), .int (nI ac), .int (nI nx), .ref (a 5), .ref (a 6), .ref (a 7), .ref (a 8), .int (nI se), .long sd, .ref (a 9), .ref (a 10)])), (a 1, .inl (cI, 60, .inl tx)), (a 2, .inl (cI, 79, .inl nw)), (a 3, .inl (cI, 79, .inl tr)), (a 4, .inl (cI, 1106, .inl di)), (a 5, .inl (cI, 158, .inl ke)), (a 6, .inl (cZ, 2, .inl ik)), (a 7, .inl (cI, 6, .inl s1)), (a 8, .inl (cI, 6, .inl s2)), (a 9, .inl (cI, 64, .inl wo)), (a 10, .inl (cI, 79, .inl (upd g (65 + (i + 1)) (S_let tx ln (i + 1)))))]) 10 0 rfl rfl (by omega) (by decide) dX2_readText_97 rfl ?_
                refine g_goto F 120 dX2_readText_98 (by decide) ?_
                refine g_iinc F (lv' := [(0, .ref (a 0)), (1, .int (nI (i + 1 + 1))), (2, .int (S_let tx ln (i + 1)))]) (nI (i + 1 + 1)) dX2_readText_120 1 rfl (nI_add (i + 1) 1) (by decide) [1, 0, 2] rfl ?_
                refine g_goto F 29 dX2_readText_123 (by decide) ?_
                refine g_lvs (lv' := [(0, .ref (a 0)), (1, .int (nI (i + 1 + 1)))]) [0, 1] rfl ?_
                refine g_all (w0 := [(a 0, .inr (2, [.ref (a 1), .int (nI ln), .ref (a 2), .ref (a 3), .ref (a 4), .int (nI ac), .int (nI nx), .ref (a 5), .ref (a 6), .ref (a 7), .ref (a 8), .int (nI se), .long sd, .ref (a 9), .ref (a 10)])), (a 1, .inl (cI, 60, .inl tx)), (a 2, .inl (cI, 79, .inl nw)), (a 3, .inl (cI, 79, .inl tr)), (a 4, .inl (cI, 1106, .inl di)), (a 5, .inl (cI, 158, .inl ke)), (a 6, .inl (cZ, 2, .inl ik)), (a 7, .inl (cI, 6, .inl s1)), (a 8, .inl (cI, 6, .inl s2)), (a 9, .inl (cI, 64, .inl wo)), (a 10, .inl (cI, 79, .inl (S_hdS tx (i + 1) g)))]) (lv0 := [(0, .ref (a 0)), (1, .int (nI (i + 1 + 1)))]) (st0 := []) (by rw [elet]; unfold S_hdS; rw [if_pos (nlt_of (b := 4) (by omega) (by decide) c9)]) rfl rfl ?_
                exact ihi hlti (by rcases Nat.eq_or_lt_of_le hIi with q | q; rw [q] at hok; rw [hbad] at hok; cases hok; omega)
            · have hnok : S_hok tx ln (i + 1) = false := hok_let.symm.trans c8
              have hik : k = i + 1 := by exact Nat.le_antisymm (Nat.le_of_not_lt fun q => absurd (hgood (i + 1) (by omega) q) (by rw [hnok]; decide)) hIi
              refine g_iload_n F dX2_readText_79 rfl 1 rfl ?_
              exact g_endI (hR _ _ dX2_readText_80) (by rw [hik]) (by rw [← hg_g, hik]; rfl)
          refine g_icmp_ge F 69 dX2_readText_62 (by decide) (fun c6 => ?_) (fun c6 => ?_)
          · refine g_lconst F (v := 0) dX2_readText_69 (by decide) ?_
            refine g_asl (if i + 1 < 4 then (1 : Int64) else 0) (by rw [if_neg (by have := (nI_leI (a := 4) (b := i + 1) (by decide) (by omega)).mp c6; omega)]) ?_
            exact hJ7
          · refine g_lconst F (v := 1) dX2_readText_65 (by decide) ?_
            refine g_goto F 70 dX2_readText_66 (by decide) ?_
            refine g_asl (if i + 1 < 4 then (1 : Int64) else 0) (by rw [if_pos (nlt_of (b := 4) (by omega) (by decide) c6)]) ?_
            exact hJ7
        refine g_icmp_ge F 55 dX2_readText_40 (by decide) (fun c4 => ?_) (fun c4 => ?_)
        · refine g_bipush F (v := (-9)) dX2_readText_55 (by decide) ?_
          refine g_as (S_let tx ln (i + 1)) (let_out (k := i + 1) ((nI_leI (by omega) (by omega)).mp c4)).symm ?_
          exact hJ5
        · have hk40 : i + 1 < ln := nlt_of (by omega) (by omega) c4
          refine g_aload_n F dX2_readText_43 rfl 0 rfl ?_
          refine g_get F (.ref (a 1)) zX2_readText_inX2 0 rfl rfl 0 (by decide) rfl zX2_readText_f7 dX2_readText_44 ?_
          refine g_iload_n F dX2_readText_47 rfl 1 rfl ?_
          refine g_iald F (j := i + 1) 1 0 rfl rfl (by omega) (by decide) dX2_readText_48 ?_
          refine g_bipush F (v := 48) dX2_readText_49 (by decide) ?_
          refine g_isub F dX2_readText_51 ?_
          refine g_goto F 57 dX2_readText_52 (by decide) ?_
          refine g_as (S_let tx ln (i + 1)) (let_in (k := i + 1) (nlt_of (by omega) (by omega) c4)).symm ?_
          exact hJ5
    · exact absurd h77 c2
set_option maxHeartbeats 1000000 in
set_option maxRecDepth 100000 in
theorem kX2_readText_c (l : Launch) (D : va_G) (cI cZ cQ : ClassId) (a : Nat → Nat) (tx : Row) (ln : Nat) (nw tr di : Row) (ac nx : Nat) (ke ik s1 s2 : Row) (se : Nat) (sd : Int64) (wo re : Row) (hln : ln ≤ 60) (h0 : 0 < ln) (h77 : tx 0 = 77) (hall : ∀ j, 1 ≤ j → j ≤ 6 → S_hok tx ln j = true) : Ct l D (gTy cI cZ cQ) yX2_readText wsX2_readText ({ frames := 6, cells := 0, slots := 0, locals := 190 }) [.ref (a 0)] (MW cI cZ a tx ln nw tr di ac nx ke ik s1 s2 se sd wo re) (some (.int ((S_rd tx ln (ln + 1) 7 (S_hdR tx S_init 6)).1))) (MW cI cZ a tx ln nw tr di ac nx ke ik s1 s2 se sd wo ((S_rd tx ln (ln + 1) 7 (S_hdR tx S_init 6)).2)) := by
  refine ct_ofI (cc := cX2_readText) (nL := 7) (own := RX2) (by decide) rfl rfl ⟨rfl, rfl⟩ (Nat.le_of_ble_eq_true rfl) MW_same (fun p e s m below meth c A Q F hR => ?_)
  refine g_aw ([(a 0, .inr (2, [.ref (a 1), .int (nI ln), .ref (a 2), .ref (a 3), .ref (a 4), .int (nI ac), .int (nI nx), .ref (a 5), .ref (a 6), .ref (a 7), .ref (a 8), .int (nI se), .long sd, .ref (a 9), .ref (a 10)])), (a 1, .inl (cI, 60, .inl tx)), (a 2, .inl (cI, 79, .inl nw)), (a 3, .inl (cI, 79, .inl tr)), (a 4, .inl (cI, 1106, .inl di)), (a 5, .inl (cI, 158, .inl ke)), (a 6, .inl (cZ, 2, .inl ik)), (a 7, .inl (cI, 6, .inl s1)), (a 8, .inl (cI, 6, .inl s2)), (a 9, .inl (cI, 64, .inl wo)), (a 10, .inl (cI, 79, .inl re))]) rfl ?_
  refine g_aload_n F dX2_readText_0 rfl 0 rfl ?_
  refine g_get F (.ref (a 10)) zX2_readText_inX2 0 rfl rfl 14 (by decide) rfl zX2_readText_f38 dX2_readText_1 ?_
  refine g_callS F (As := [.ref (a 10)]) (st := []) ([(a 0, .inr (2, [.ref (a 1), .int (nI ln), .ref (a 2), .ref (a 3), .ref (a 4), .int (nI ac), .int (nI nx), .ref (a 5), .ref (a 6), .ref (a 7), .ref (a 8), .int (nI se), .long sd, .ref (a 9), .ref (a 10)])), (a 1, .inl (cI, 60, .inl tx)), (a 2, .inl (cI, 79, .inl nw)), (a 3, .inl (cI, 79, .inl tr)), (a 4, .inl (cI, 1106, .inl di)), (a 5, .inl (cI, 158, .inl ke)), (a 6, .inl (cZ, 2, .inl ik)), (a 7, .inl (cI, 6, .inl s1)), (a 8, .inl (cI, 6, .inl s2)), (a 9, .inl (cI, 64, .inl wo))]) ([(a 0, .inr (2, [.ref (a 1), .int (nI ln), .ref (a 2), .ref (a 3), .ref (a 4), .int (nI ac), .int (nI nx), .ref (a 5), .ref (a 6), .ref (a 7), .ref (a 8), .int (nI se), .long sd, .ref (a 9), .ref (a 10)])), (a 1, .inl (cI, 60, .inl tx)), (a 2, .inl (cI, 79, .inl nw)), (a 3, .inl (cI, 79, .inl tr)), (a 4, .inl (cI, 1106, .inl di)), (a 5, .inl (cI, 158, .inl ke)), (a 6, .inl (cZ, 2, .inl ik)), (a 7, .inl (cI, 6, .inl s1)), (a 8, .inl (cI, 6, .inl s2)), (a 9, .inl (cI, 64, .inl wo)), (a 10, .inl (cI, 79, .inl S_init))]) [10] [0, 1, 2, 3, 4, 5, 6, 7, 8, 9] [0, 1, 2, 3, 4, 5, 6, 7, 8, 9, 10] (kX2_clear l D cI cZ cQ (a 10) re) (va_cwS 1 F.2.2.2.2.1 gX2_readText_X2_clear rfl rfl rfl (by decide +kernel) ⟨Nat.le_of_ble_eq_true rfl, Nat.le_of_ble_eq_true rfl⟩) rfl rfl rfl rfl (by decide) (by decide) (by decide) rfl (by decide) (Nat.le_of_ble_eq_true rfl) ⟨Nat.zero_le _, Nat.zero_le _⟩ dX2_readText_4 ?_
  refine g_aload_n F dX2_readText_7 rfl 0 rfl ?_
  refine g_get F (.int (nI ln)) zX2_readText_inX2 0 rfl rfl 1 (by decide) rfl zX2_readText_f102 dX2_readText_8 ?_
  refine g_if_eq F 25 dX2_readText_11 (by decide) (fun c1 => ?_) (fun c1 => ?_)
  · exact absurd (nI_z (by omega) c1) (by omega)
  · refine g_aload_n F dX2_readText_14 rfl 0 rfl ?_
    refine g_get F (.ref (a 1)) zX2_readText_inX2 0 rfl rfl 0 (by decide) rfl zX2_readText_f7 dX2_readText_15 ?_
    refine g_iconst F (v := 0) dX2_readText_18 (by decide) ?_
    refine g_as (nI 0) rfl ?_
    refine g_iald F (j := 0) 1 0 rfl rfl (by omega) (by decide) dX2_readText_19 ?_
    refine g_bipush F (v := 77) dX2_readText_20 (by decide) ?_
    refine g_icmp_eq F 27 dX2_readText_22 (by decide) (fun c2 => ?_) (fun c2 => ?_)
    · refine g_iconst F (v := 1) dX2_readText_27 (by decide) ?_
      refine g_istore_n F (lv' := [(0, .ref (a 0)), (1, .int 1)]) dX2_readText_28 rfl (by decide) [1, 0] rfl ?_
      refine g_all (w0 := [(a 0, .inr (2, [.ref (a 1), .int (nI ln), .ref (a 2), .ref (a 3), .ref (a 4), .int (nI ac), .int (nI nx), .ref (a 5), .ref (a 6), .ref (a 7), .ref (a 8), .int (nI se), .long sd, .ref (a 9), .ref (a 10)])), (a 1, .inl (cI, 60, .inl tx)), (a 2, .inl (cI, 79, .inl nw)), (a 3, .inl (cI, 79, .inl tr)), (a 4, .inl (cI, 1106, .inl di)), (a 5, .inl (cI, 158, .inl ke)), (a 6, .inl (cZ, 2, .inl ik)), (a 7, .inl (cI, 6, .inl s1)), (a 8, .inl (cI, 6, .inl s2)), (a 9, .inl (cI, 64, .inl wo)), (a 10, .inl (cI, 79, .inl (S_hdR tx S_init 0)))]) (lv0 := [(0, .ref (a 0)), (1, .int (nI (0 + 1)))]) (st0 := []) rfl rfl rfl ?_
      refine g_for 6 (fun i => True) (fun i => [(a 0, .inr (2, [.ref (a 1), .int (nI ln), .ref (a 2), .ref (a 3), .ref (a 4), .int (nI ac), .int (nI nx), .ref (a 5), .ref (a 6), .ref (a 7), .ref (a 8), .int (nI se), .long sd, .ref (a 9), .ref (a 10)])), (a 1, .inl (cI, 60, .inl tx)), (a 2, .inl (cI, 79, .inl nw)), (a 3, .inl (cI, 79, .inl tr)), (a 4, .inl (cI, 1106, .inl di)), (a 5, .inl (cI, 158, .inl ke)), (a 6, .inl (cZ, 2, .inl ik)), (a 7, .inl (cI, 6, .inl s1)), (a 8, .inl (cI, 6, .inl s2)), (a 9, .inl (cI, 64, .inl wo)), (a 10, .inl (cI, 79, .inl (S_hdR tx S_init i)))]) (fun i => [(0, .ref (a 0)), (1, .int (nI (i + 1)))]) (fun i hi hIi ihi => ?_) 0 (Nat.zero_le _) trivial
      rw [S_hdR] at ihi
      generalize hg_g : S_hdR tx S_init i = g at ihi ⊢
      refine g_iload_n F dX2_readText_29 rfl 1 rfl ?_
      refine g_bipush F (v := 7) dX2_readText_30 (by decide) ?_
      refine g_icmp_ge F 126 dX2_readText_32 (by decide) (fun c3 => ?_) (fun c3 => ?_)
      · have hx_c3 : 6 = i := by have := (nI_leI (a := 7) (b := i + 1) (by decide) (by omega)).mp c3; omega
        subst hx_c3
        subst hg_g
        refine g_bipush F (v := 7) dX2_readText_126 (by decide) ?_
        refine g_istore_n F (lv' := [(0, .ref (a 0)), (1, .int 7)]) dX2_readText_128 rfl (by decide) [1, 0] rfl ?_
        refine g_all (w0 := [(a 0, .inr (2, [.ref (a 1), .int (nI ln), .ref (a 2), .ref (a 3), .ref (a 4), .int (nI ac), .int (nI nx), .ref (a 5), .ref (a 6), .ref (a 7), .ref (a 8), .int (nI se), .long sd, .ref (a 9), .ref (a 10)])), (a 1, .inl (cI, 60, .inl tx)), (a 2, .inl (cI, 79, .inl nw)), (a 3, .inl (cI, 79, .inl tr)), (a 4, .inl (cI, 1106, .inl di)), (a 5, .inl (cI, 158, .inl ke)), (a 6, .inl (cZ, 2, .inl ik)), (a 7, .inl (cI, 6, .inl s1)), (a 8, .inl (cI, 6, .inl s2)), (a 9, .inl (cI, 64, .inl wo)), (a 10, .inl (cI, 79, .inl (7, S_hdR tx S_init 6).2))]) (lv0 := [(0, .ref (a 0)), (1, .int (nI (7, S_hdR tx S_init 6).1))]) (st0 := []) rfl rfl rfl ?_
        refine g_loop (σ := Nat × Row) ln (fun i z => S_rd tx ln (ln + 1 - i) z.1 z.2 = S_rd tx ln (ln + 1) 7 (S_hdR tx S_init 6) ∧ i + 7 ≤ z.1 ∧ Z67 z.2 ∧ z.1 ≤ ln + 1) (fun i z => [(a 0, .inr (2, [.ref (a 1), .int (nI ln), .ref (a 2), .ref (a 3), .ref (a 4), .int (nI ac), .int (nI nx), .ref (a 5), .ref (a 6), .ref (a 7), .ref (a 8), .int (nI se), .long sd, .ref (a 9), .ref (a 10)])), (a 1, .inl (cI, 60, .inl tx)), (a 2, .inl (cI, 79, .inl nw)), (a 3, .inl (cI, 79, .inl tr)), (a 4, .inl (cI, 1106, .inl di)), (a 5, .inl (cI, 158, .inl ke)), (a 6, .inl (cZ, 2, .inl ik)), (a 7, .inl (cI, 6, .inl s1)), (a 8, .inl (cI, 6, .inl s2)), (a 9, .inl (cI, 64, .inl wo)), (a 10, .inl (cI, 79, .inl z.2))]) (fun i z => [(0, .ref (a 0)), (1, .int (nI z.1))]) (fun i z hi hIi ihi => ?_) 0 (7, S_hdR tx S_init 6) (Nat.zero_le _) ⟨rfl, Nat.le_refl 7, Z_hdR Z_init 6 (Nat.le_refl 6) hall, by show 7 ≤ ln + 1; have := (hok_ge (hall 6 (by omega) (by omega))).1; omega⟩
        obtain ⟨hJ1, hJ2, hJ3, hJ4⟩ := id hIi
        refine g_iload_n F dX2_readText_129 rfl 1 rfl ?_
        refine g_aload_n F dX2_readText_130 rfl 0 rfl ?_
        refine g_get F (.int (nI ln)) zX2_readText_inX2 0 rfl rfl 1 (by decide) rfl zX2_readText_f102 dX2_readText_131 ?_
        refine g_icmp_ge F 327 dX2_readText_134 (by decide) (fun c4 => ?_) (fun c4 => ?_)
        · have hle : ln ≤ z.1 := Nat.le_of_not_lt fun q => absurd c4 (nI_ge q (by omega))
          refine g_bipush F (v := (-9)) dX2_readText_327 (by decide) ?_
          exact g_endI (hR _ _ dX2_readText_329) (by rw [← hJ1, (rd_a (by omega) hle)]) (by rw [← hJ1, (rd_a (by omega) hle)]; rfl)
        · have hkl : z.1 < ln := Nat.lt_of_not_le fun q => c4 (nI_le q (by omega))
          refine g_aload_n F dX2_readText_137 rfl 0 rfl ?_
          refine g_get F (.ref (a 1)) zX2_readText_inX2 0 rfl rfl 0 (by decide) rfl zX2_readText_f7 dX2_readText_138 ?_
          refine g_iload_n F dX2_readText_141 rfl 1 rfl ?_
          refine g_iald F (j := z.1) 1 0 rfl rfl (by omega) (by decide) dX2_readText_142 ?_
          refine g_bipush F (v := 48) dX2_readText_143 (by decide) ?_
          refine g_isub F dX2_readText_145 ?_
          refine g_istore_n F (lv' := [(0, .ref (a 0)), (1, .int (nI z.1)), (2, .int ((tx z.1) - 48))]) dX2_readText_146 rfl (by decide) [1, 2, 0] rfl ?_
          refine g_iconst F (v := 0) dX2_readText_147 (by decide) ?_
          refine g_istore_n F (lv' := [(0, .ref (a 0)), (1, .int (nI z.1)), (2, .int ((tx z.1) - 48)), (3, .int 0)]) dX2_readText_148 rfl (by decide) [1, 2, 3, 0] rfl ?_
          refine g_iload_n F dX2_readText_149 rfl 2 rfl ?_
          refine g_i2l F dX2_readText_150 ?_
          refine g_lconst F (v := 1) dX2_readText_151 (by decide) ?_
          refine g_ldc2 F zX2_readText_c106 dX2_readText_152 ?_
          refine g_callSn F (As := [.long (Int32.toInt64 ((tx z.1) - 48)), .long 1, .long 9]) (st := []) (kX2_in l D cI cZ cQ (Int32.toInt64 ((tx z.1) - 48)) 1 9) (va_cwS 3 F.2.2.2.2.1 gX2_readText_X2_in rfl rfl rfl (by decide +kernel) ⟨Nat.le_of_ble_eq_true rfl, Nat.le_of_ble_eq_true rfl⟩) rfl rfl (Nat.le_of_ble_eq_true rfl) ⟨Nat.zero_le _, Nat.zero_le _⟩ dX2_readText_155 ?_
          refine g_beq F 176 dX2_readText_158 (by decide) (fun c5 => ?_) (fun c5 => ?_)
          · refine g_aload_n F dX2_readText_176 rfl 0 rfl ?_
            refine g_get F (.ref (a 1)) zX2_readText_inX2 0 rfl rfl 0 (by decide) rfl zX2_readText_f7 dX2_readText_177 ?_
            refine g_iload_n F dX2_readText_180 rfl 1 rfl ?_
            refine g_iald F (j := z.1) 1 0 rfl rfl (by omega) (by decide) dX2_readText_181 ?_
            refine g_bipush F (v := 106) dX2_readText_182 (by decide) ?_
            have hJ7 : Go p l e ({ frames := 6, cells := 0, slots := 0, locals := 190 }) s m (List.toArray [.ref (a 0)]) below meth c Q D A 7 0 0 ([(a 0, .inr (2, [.ref (a 1), .int (nI ln), .ref (a 2), .ref (a 3), .ref (a 4), .int (nI ac), .int (nI nx), .ref (a 5), .ref (a 6), .ref (a 7), .ref (a 8), .int (nI se), .long sd, .ref (a 9), .ref (a 10)])), (a 1, .inl (cI, 60, .inl tx)), (a 2, .inl (cI, 79, .inl nw)), (a 3, .inl (cI, 79, .inl tr)), (a 4, .inl (cI, 1106, .inl di)), (a 5, .inl (cI, 158, .inl ke)), (a 6, .inl (cZ, 2, .inl ik)), (a 7, .inl (cI, 6, .inl s1)), (a 8, .inl (cI, 6, .inl s2)), (a 9, .inl (cI, 64, .inl wo)), (a 10, .inl (cI, 79, .inl z.2))]) 221 [(0, .ref (a 0)), (1, .int (nI z.1)), (2, .int ((tx z.1) - 48)), (3, .int 0)] [.int (S_may z.2 (tx z.1))] := by
              refine g_istore F (lv' := [(0, .ref (a 0)), (1, .int (nI z.1)), (2, .int ((tx z.1) - 48)), (3, .int 0), (4, .int (S_may z.2 (tx z.1)))]) dX2_readText_221 (by decide) [1, 2, 3, 4, 0] rfl ?_
              refine g_iload F dX2_readText_223 4 rfl ?_
              refine g_if_ne F 230 dX2_readText_225 (by decide) (fun c8 => ?_) (fun c8 => ?_)
              · refine g_aload_n F dX2_readText_230 rfl 0 rfl ?_
                refine g_get F (.ref (a 1)) zX2_readText_inX2 0 rfl rfl 0 (by decide) rfl zX2_readText_f7 dX2_readText_231 ?_
                refine g_iload_n F dX2_readText_234 rfl 1 rfl ?_
                refine g_iald F (j := z.1) 1 0 rfl rfl (by omega) (by decide) dX2_readText_235 ?_
                refine g_bipush F (v := 106) dX2_readText_236 (by decide) ?_
                have hJ10 : Go p l e ({ frames := 6, cells := 0, slots := 0, locals := 190 }) s m (List.toArray [.ref (a 0)]) below meth c Q D A 7 0 0 ([(a 0, .inr (2, [.ref (a 1), .int (nI ln), .ref (a 2), .ref (a 3), .ref (a 4), .int (nI ac), .int (nI nx), .ref (a 5), .ref (a 6), .ref (a 7), .ref (a 8), .int (nI se), .long sd, .ref (a 9), .ref (a 10)])), (a 1, .inl (cI, 60, .inl tx)), (a 2, .inl (cI, 79, .inl nw)), (a 3, .inl (cI, 79, .inl tr)), (a 4, .inl (cI, 1106, .inl di)), (a 5, .inl (cI, 158, .inl ke)), (a 6, .inl (cZ, 2, .inl ik)), (a 7, .inl (cI, 6, .inl s1)), (a 8, .inl (cI, 6, .inl s2)), (a 9, .inl (cI, 64, .inl wo)), (a 10, .inl (cI, 79, .inl z.2))]) 246 [(0, .ref (a 0)), (1, .int (nI z.1)), (2, .int ((tx z.1) - 48)), (3, .int 0), (4, .int (S_may z.2 (tx z.1)))] [.int (bI (S_is (tx z.1)))] := by
                  refine g_istore F (lv' := [(0, .ref (a 0)), (1, .int (nI z.1)), (2, .int ((tx z.1) - 48)), (3, .int 0), (4, .int (S_may z.2 (tx z.1))), (5, .int (bI (S_is (tx z.1))))]) dX2_readText_246 (by decide) [1, 2, 3, 4, 5, 0] rfl ?_
                  refine g_iinc F (lv' := [(0, .ref (a 0)), (1, .int (nI (z.1 + 1))), (2, .int ((tx z.1) - 48)), (3, .int 0), (4, .int (S_may z.2 (tx z.1))), (5, .int (bI (S_is (tx z.1))))]) (nI (z.1 + 1)) dX2_readText_248 1 rfl (nI_add z.1 1) (by decide) [1, 0, 2, 3, 4, 5] rfl ?_
                  refine g_iload_n F dX2_readText_251 rfl 1 rfl ?_
                  refine g_aload_n F dX2_readText_252 rfl 0 rfl ?_
                  refine g_get F (.int (nI ln)) zX2_readText_inX2 0 rfl rfl 1 (by decide) rfl zX2_readText_f102 dX2_readText_253 ?_
                  have hJ12 : Go p l e ({ frames := 6, cells := 0, slots := 0, locals := 190 }) s m (List.toArray [.ref (a 0)]) below meth c Q D A 7 0 0 ([(a 0, .inr (2, [.ref (a 1), .int (nI ln), .ref (a 2), .ref (a 3), .ref (a 4), .int (nI ac), .int (nI nx), .ref (a 5), .ref (a 6), .ref (a 7), .ref (a 8), .int (nI se), .long sd, .ref (a 9), .ref (a 10)])), (a 1, .inl (cI, 60, .inl tx)), (a 2, .inl (cI, 79, .inl nw)), (a 3, .inl (cI, 79, .inl tr)), (a 4, .inl (cI, 1106, .inl di)), (a 5, .inl (cI, 158, .inl ke)), (a 6, .inl (cZ, 2, .inl ik)), (a 7, .inl (cI, 6, .inl s1)), (a 8, .inl (cI, 6, .inl s2)), (a 9, .inl (cI, 64, .inl wo)), (a 10, .inl (cI, 79, .inl z.2))]) 273 [(0, .ref (a 0)), (1, .int (nI (z.1 + 1))), (2, .int ((tx z.1) - 48)), (3, .int 0), (4, .int (S_may z.2 (tx z.1))), (5, .int (bI (S_is (tx z.1))))] [.int (S_let tx ln (z.1 + 1))] := by
                    refine g_istore F (lv' := [(0, .ref (a 0)), (1, .int (nI (z.1 + 1))), (2, .int ((tx z.1) - 48)), (3, .int 0), (4, .int (S_may z.2 (tx z.1))), (5, .int (bI (S_is (tx z.1)))), (6, .int (S_let tx ln (z.1 + 1)))]) dX2_readText_273 (by decide) [1, 2, 3, 4, 5, 6, 0] rfl ?_
                    refine g_iload F dX2_readText_275 6 rfl ?_
                    refine g_callSn F (As := [.int (S_let tx ln (z.1 + 1))]) (st := []) (kX2_isMember l D cI cZ cQ (S_let tx ln (z.1 + 1))) (va_cwS 1 F.2.2.2.2.1 gX2_readText_X2_isMember rfl rfl rfl (by decide +kernel) ⟨Nat.le_of_ble_eq_true rfl, Nat.le_of_ble_eq_true rfl⟩) rfl rfl (Nat.le_of_ble_eq_true rfl) ⟨Nat.zero_le _, Nat.zero_le _⟩ dX2_readText_277 ?_
                    refine g_beq F 293 dX2_readText_280 (by decide) (fun c13 => ?_) (fun c13 => ?_)
                    · refine g_iload_n F dX2_readText_293 rfl 1 rfl ?_
                      exact g_endI (hR _ _ dX2_readText_294) (by rw [← hJ1, (rd_e (by omega) hkl c5 c8 (mok_a c13))]) (by rw [← hJ1, (rd_e (by omega) hkl c5 c8 (mok_a c13))]; rfl)
                    · obtain ⟨j, hj, ej⟩ := isM_ex c13
                      refine g_iload F dX2_readText_283 4 rfl ?_
                      refine g_iload F dX2_readText_285 6 rfl ?_
                      refine g_callSn F (As := [.int (S_may z.2 (tx z.1)), .int (S_let tx ln (z.1 + 1))]) (st := []) (kX2_has l D cI cZ cQ (S_may z.2 (tx z.1)) (S_let tx ln (z.1 + 1))) (va_cwS 2 F.2.2.2.2.1 gX2_readText_X2_has rfl rfl rfl (by decide +kernel) ⟨Nat.le_of_ble_eq_true rfl, Nat.le_of_ble_eq_true rfl⟩) rfl rfl (Nat.le_of_ble_eq_true rfl) ⟨Nat.zero_le _, Nat.zero_le _⟩ dX2_readText_287 ?_
                      refine g_bne F 295 dX2_readText_290 (by decide) (fun c14 => ?_) (fun c14 => ?_)
                      · refine g_iinc F (lv' := [(0, .ref (a 0)), (1, .int (nI (z.1 + 1 + 1))), (2, .int ((tx z.1) - 48)), (3, .int 0), (4, .int (S_may z.2 (tx z.1))), (5, .int (bI (S_is (tx z.1)))), (6, .int (S_let tx ln (z.1 + 1)))]) (nI (z.1 + 1 + 1)) dX2_readText_295 1 rfl (nI_add (z.1 + 1) 1) (by decide) [1, 0, 2, 3, 4, 5, 6] rfl ?_
                        refine g_iload F dX2_readText_298 5 rfl ?_
                        refine g_beq F 315 dX2_readText_300 (by decide) (fun c15 => ?_) (fun c15 => ?_)
                        · refine g_aload_n F dX2_readText_315 rfl 0 rfl ?_
                          refine g_get F (.ref (a 10)) zX2_readText_inX2 0 rfl rfl 14 (by decide) rfl zX2_readText_f38 dX2_readText_316 ?_
                          refine g_iload F dX2_readText_319 6 rfl ?_
                          refine g_as (nI j) ej ?_
                          refine g_callS F (As := [.ref (a 10), .int (nI j)]) (st := []) ([(a 0, .inr (2, [.ref (a 1), .int (nI ln), .ref (a 2), .ref (a 3), .ref (a 4), .int (nI ac), .int (nI nx), .ref (a 5), .ref (a 6), .ref (a 7), .ref (a 8), .int (nI se), .long sd, .ref (a 9), .ref (a 10)])), (a 1, .inl (cI, 60, .inl tx)), (a 2, .inl (cI, 79, .inl nw)), (a 3, .inl (cI, 79, .inl tr)), (a 4, .inl (cI, 1106, .inl di)), (a 5, .inl (cI, 158, .inl ke)), (a 6, .inl (cZ, 2, .inl ik)), (a 7, .inl (cI, 6, .inl s1)), (a 8, .inl (cI, 6, .inl s2)), (a 9, .inl (cI, 64, .inl wo))]) ([(a 0, .inr (2, [.ref (a 1), .int (nI ln), .ref (a 2), .ref (a 3), .ref (a 4), .int (nI ac), .int (nI nx), .ref (a 5), .ref (a 6), .ref (a 7), .ref (a 8), .int (nI se), .long sd, .ref (a 9), .ref (a 10)])), (a 1, .inl (cI, 60, .inl tx)), (a 2, .inl (cI, 79, .inl nw)), (a 3, .inl (cI, 79, .inl tr)), (a 4, .inl (cI, 1106, .inl di)), (a 5, .inl (cI, 158, .inl ke)), (a 6, .inl (cZ, 2, .inl ik)), (a 7, .inl (cI, 6, .inl s1)), (a 8, .inl (cI, 6, .inl s2)), (a 9, .inl (cI, 64, .inl wo)), (a 10, .inl (cI, 79, .inl (S_leaves z.2 j)))]) [10] [0, 1, 2, 3, 4, 5, 6, 7, 8, 9] [0, 1, 2, 3, 4, 5, 6, 7, 8, 9, 10] (kX2_leaves l D cI cZ cQ (a 10) z.2 j (by omega) hJ3) (va_cwS 2 F.2.2.2.2.1 gX2_readText_X2_leaves rfl rfl rfl (by decide +kernel) ⟨Nat.le_of_ble_eq_true rfl, Nat.le_of_ble_eq_true rfl⟩) rfl rfl rfl rfl (by decide) (by decide) (by decide) rfl (by decide) (Nat.le_of_ble_eq_true rfl) ⟨Nat.zero_le _, Nat.zero_le _⟩ dX2_readText_321 ?_
                          refine g_goto F 129 dX2_readText_324 (by decide) ?_
                          refine g_lvs (lv' := [(0, .ref (a 0)), (1, .int (nI (z.1 + 1 + 1)))]) [0, 1] rfl ?_
                          refine g_all (w0 := [(a 0, .inr (2, [.ref (a 1), .int (nI ln), .ref (a 2), .ref (a 3), .ref (a 4), .int (nI ac), .int (nI nx), .ref (a 5), .ref (a 6), .ref (a 7), .ref (a 8), .int (nI se), .long sd, .ref (a 9), .ref (a 10)])), (a 1, .inl (cI, 60, .inl tx)), (a 2, .inl (cI, 79, .inl nw)), (a 3, .inl (cI, 79, .inl tr)), (a 4, .inl (cI, 1106, .inl di)), (a 5, .inl (cI, 158, .inl ke)), (a 6, .inl (cZ, 2, .inl ik)), (a 7, .inl (cI, 6, .inl s1)), (a 8, .inl (cI, 6, .inl s2)), (a 9, .inl (cI, 64, .inl wo)), (a 10, .inl (cI, 79, .inl (z.1 + 1 + 1, S_leaves z.2 j).2))]) (lv0 := [(0, .ref (a 0)), (1, .int (nI (z.1 + 1 + 1, S_leaves z.2 j).1))]) (st0 := []) rfl rfl rfl ?_
                          exact ihi (by omega) (z.1 + 1 + 1, S_leaves z.2 j) ⟨by rw [show ln + 1 - (i + 1) = ln - i by omega, ← hJ1, (show ln + 1 - i = (ln - i) + 1 by omega), rd_d hkl c5 c8 ((mok_b c13).trans c14), ev_l hj ej c15]; try rfl, by show i + 1 + 7 ≤ z.1 + 1 + 1; omega, Z_leaves hJ3 hj, by show z.1 + 1 + 1 ≤ ln + 1; omega⟩
                        · refine g_aload_n F dX2_readText_303 rfl 0 rfl ?_
                          refine g_get F (.ref (a 10)) zX2_readText_inX2 0 rfl rfl 14 (by decide) rfl zX2_readText_f38 dX2_readText_304 ?_
                          refine g_iload F dX2_readText_307 6 rfl ?_
                          refine g_as (nI j) ej ?_
                          refine g_callS F (As := [.ref (a 10), .int (nI j)]) (st := []) ([(a 0, .inr (2, [.ref (a 1), .int (nI ln), .ref (a 2), .ref (a 3), .ref (a 4), .int (nI ac), .int (nI nx), .ref (a 5), .ref (a 6), .ref (a 7), .ref (a 8), .int (nI se), .long sd, .ref (a 9), .ref (a 10)])), (a 1, .inl (cI, 60, .inl tx)), (a 2, .inl (cI, 79, .inl nw)), (a 3, .inl (cI, 79, .inl tr)), (a 4, .inl (cI, 1106, .inl di)), (a 5, .inl (cI, 158, .inl ke)), (a 6, .inl (cZ, 2, .inl ik)), (a 7, .inl (cI, 6, .inl s1)), (a 8, .inl (cI, 6, .inl s2)), (a 9, .inl (cI, 64, .inl wo))]) ([(a 0, .inr (2, [.ref (a 1), .int (nI ln), .ref (a 2), .ref (a 3), .ref (a 4), .int (nI ac), .int (nI nx), .ref (a 5), .ref (a 6), .ref (a 7), .ref (a 8), .int (nI se), .long sd, .ref (a 9), .ref (a 10)])), (a 1, .inl (cI, 60, .inl tx)), (a 2, .inl (cI, 79, .inl nw)), (a 3, .inl (cI, 79, .inl tr)), (a 4, .inl (cI, 1106, .inl di)), (a 5, .inl (cI, 158, .inl ke)), (a 6, .inl (cZ, 2, .inl ik)), (a 7, .inl (cI, 6, .inl s1)), (a 8, .inl (cI, 6, .inl s2)), (a 9, .inl (cI, 64, .inl wo)), (a 10, .inl (cI, 79, .inl (S_joins z.2 j)))]) [10] [0, 1, 2, 3, 4, 5, 6, 7, 8, 9] [0, 1, 2, 3, 4, 5, 6, 7, 8, 9, 10] (kX2_joins l D cI cZ cQ (a 10) z.2 j (by omega) hJ3) (va_cwS 2 F.2.2.2.2.1 gX2_readText_X2_joins rfl rfl rfl (by decide +kernel) ⟨Nat.le_of_ble_eq_true rfl, Nat.le_of_ble_eq_true rfl⟩) rfl rfl rfl rfl (by decide) (by decide) (by decide) rfl (by decide) (Nat.le_of_ble_eq_true rfl) ⟨Nat.zero_le _, Nat.zero_le _⟩ dX2_readText_309 ?_
                          refine g_goto F 324 dX2_readText_312 (by decide) ?_
                          refine g_goto F 129 dX2_readText_324 (by decide) ?_
                          refine g_lvs (lv' := [(0, .ref (a 0)), (1, .int (nI (z.1 + 1 + 1)))]) [0, 1] rfl ?_
                          refine g_all (w0 := [(a 0, .inr (2, [.ref (a 1), .int (nI ln), .ref (a 2), .ref (a 3), .ref (a 4), .int (nI ac), .int (nI nx), .ref (a 5), .ref (a 6), .ref (a 7), .ref (a 8), .int (nI se), .long sd, .ref (a 9), .ref (a 10)])), (a 1, .inl (cI, 60, .inl tx)), (a 2, .inl (cI, 79, .inl nw)), (a 3, .inl (cI, 79, .inl tr)), (a 4, .inl (cI, 1106, .inl di)), (a 5, .inl (cI, 158, .inl ke)), (a 6, .inl (cZ, 2, .inl ik)), (a 7, .inl (cI, 6, .inl s1)), (a 8, .inl (cI, 6, .inl s2)), (a 9, .inl (cI, 64, .inl wo)), (a 10, .inl (cI, 79, .inl (z.1 + 1 + 1, S_joins z.2 j).2))]) (lv0 := [(0, .ref (a 0)), (1, .int (nI (z.1 + 1 + 1, S_joins z.2 j).1))]) (st0 := []) rfl rfl rfl ?_
                          exact ihi (by omega) (z.1 + 1 + 1, S_joins z.2 j) ⟨by rw [show ln + 1 - (i + 1) = ln - i by omega, ← hJ1, (show ln + 1 - i = (ln - i) + 1 by omega), rd_d hkl c5 c8 ((mok_b c13).trans c14), ev_j hj ej c15]; try rfl, by show i + 1 + 7 ≤ z.1 + 1 + 1; omega, Z_joins hJ3 hj, by show z.1 + 1 + 1 ≤ ln + 1; omega⟩
                      · refine g_iload_n F dX2_readText_293 rfl 1 rfl ?_
                        exact g_endI (hR _ _ dX2_readText_294) (by rw [← hJ1, (rd_e (by omega) hkl c5 c8 ((mok_b c13).trans c14))]) (by rw [← hJ1, (rd_e (by omega) hkl c5 c8 ((mok_b c13).trans c14))]; rfl)
                  refine g_icmp_ge F 271 dX2_readText_256 (by decide) (fun c11 => ?_) (fun c11 => ?_)
                  · refine g_bipush F (v := (-9)) dX2_readText_271 (by decide) ?_
                    refine g_as (S_let tx ln (z.1 + 1)) (let_out (k := z.1 + 1) ((nI_leI (by omega) (by omega)).mp c11)).symm ?_
                    exact hJ12
                  · have hk256 : z.1 + 1 < ln := nlt_of (by omega) (by omega) c11
                    refine g_aload_n F dX2_readText_259 rfl 0 rfl ?_
                    refine g_get F (.ref (a 1)) zX2_readText_inX2 0 rfl rfl 0 (by decide) rfl zX2_readText_f7 dX2_readText_260 ?_
                    refine g_iload_n F dX2_readText_263 rfl 1 rfl ?_
                    refine g_iald F (j := z.1 + 1) 1 0 rfl rfl (by omega) (by decide) dX2_readText_264 ?_
                    refine g_bipush F (v := 48) dX2_readText_265 (by decide) ?_
                    refine g_isub F dX2_readText_267 ?_
                    refine g_goto F 273 dX2_readText_268 (by decide) ?_
                    refine g_as (S_let tx ln (z.1 + 1)) (let_in (k := z.1 + 1) (nlt_of (by omega) (by omega) c11)).symm ?_
                    exact hJ12
                refine g_icmp_ne F 245 dX2_readText_238 (by decide) (fun c9 => ?_) (fun c9 => ?_)
                · refine g_iconst F (v := 0) dX2_readText_245 (by decide) ?_
                  refine g_as (bI (S_is (tx z.1))) (by first | (simp only [S_is, bI, c1, c2, c4, c5, c8, c9, Bool.false_eq_true, ↓reduceIte]; done) | (with_reducible rfl) | (simp [S_is, bI, c1, c2, c4, c5, c8, c9, Bool.false_eq_true, ↓reduceIte]; done)) ?_
                  exact hJ10
                · refine g_iconst F (v := 1) dX2_readText_241 (by decide) ?_
                  refine g_goto F 246 dX2_readText_242 (by decide) ?_
                  refine g_as (bI (S_is (tx z.1))) (by first | (simp only [S_is, bI, c1, c2, c4, c5, c8, c9, Bool.false_eq_true, ↓reduceIte]; done) | (with_reducible rfl) | (simp [S_is, bI, c1, c2, c4, c5, c8, c9, Bool.false_eq_true, ↓reduceIte]; done)) ?_
                  exact hJ10
              · refine g_iload_n F dX2_readText_228 rfl 1 rfl ?_
                exact g_endI (hR _ _ dX2_readText_229) (by rw [← hJ1, (rd_c (by omega) hkl c5 c8)]) (by rw [← hJ1, (rd_c (by omega) hkl c5 c8)]; rfl)
            refine g_icmp_ne F 198 dX2_readText_184 (by decide) (fun c6 => ?_) (fun c6 => ?_)
            · refine g_aload_n F dX2_readText_198 rfl 0 rfl ?_
              refine g_get F (.ref (a 1)) zX2_readText_inX2 0 rfl rfl 0 (by decide) rfl zX2_readText_f7 dX2_readText_199 ?_
              refine g_iload_n F dX2_readText_202 rfl 1 rfl ?_
              refine g_iald F (j := z.1) 1 0 rfl rfl (by omega) (by decide) dX2_readText_203 ?_
              refine g_bipush F (v := 108) dX2_readText_204 (by decide) ?_
              refine g_icmp_ne F 220 dX2_readText_206 (by decide) (fun c16 => ?_) (fun c16 => ?_)
              · refine g_iconst F (v := 0) dX2_readText_220 (by decide) ?_
                refine g_as (S_may z.2 (tx z.1)) (by first | (simp only [S_may, c1, c2, c4, c5, c6, c16, Bool.false_eq_true, ↓reduceIte]; done) | (with_reducible rfl) | (simp [S_may, c1, c2, c4, c5, c6, c16, Bool.false_eq_true, ↓reduceIte]; done)) ?_
                exact hJ7
              · refine g_aload_n F dX2_readText_209 rfl 0 rfl ?_
                refine g_get F (.ref (a 10)) zX2_readText_inX2 0 rfl rfl 14 (by decide) rfl zX2_readText_f38 dX2_readText_210 ?_
                refine g_iconst F (v := 1) dX2_readText_213 (by decide) ?_
                refine g_callS F (As := [.ref (a 10), .int 1]) (st := []) ([(a 0, .inr (2, [.ref (a 1), .int (nI ln), .ref (a 2), .ref (a 3), .ref (a 4), .int (nI ac), .int (nI nx), .ref (a 5), .ref (a 6), .ref (a 7), .ref (a 8), .int (nI se), .long sd, .ref (a 9), .ref (a 10)])), (a 1, .inl (cI, 60, .inl tx)), (a 2, .inl (cI, 79, .inl nw)), (a 3, .inl (cI, 79, .inl tr)), (a 4, .inl (cI, 1106, .inl di)), (a 5, .inl (cI, 158, .inl ke)), (a 6, .inl (cZ, 2, .inl ik)), (a 7, .inl (cI, 6, .inl s1)), (a 8, .inl (cI, 6, .inl s2)), (a 9, .inl (cI, 64, .inl wo))]) ([(a 0, .inr (2, [.ref (a 1), .int (nI ln), .ref (a 2), .ref (a 3), .ref (a 4), .int (nI ac), .int (nI nx), .ref (a 5), .ref (a 6), .ref (a 7), .ref (a 8), .int (nI se), .long sd, .ref (a 9), .ref (a 10)])), (a 1, .inl (cI, 60, .inl tx)), (a 2, .inl (cI, 79, .inl nw)), (a 3, .inl (cI, 79, .inl tr)), (a 4, .inl (cI, 1106, .inl di)), (a 5, .inl (cI, 158, .inl ke)), (a 6, .inl (cZ, 2, .inl ik)), (a 7, .inl (cI, 6, .inl s1)), (a 8, .inl (cI, 6, .inl s2)), (a 9, .inl (cI, 64, .inl wo)), (a 10, .inl (cI, 79, .inl z.2))]) [10] [0, 1, 2, 3, 4, 5, 6, 7, 8, 9] [0, 1, 2, 3, 4, 5, 6, 7, 8, 9, 10] (kX2_those l D cI cZ cQ (a 10) z.2 1 ) (va_cwS 2 F.2.2.2.2.1 gX2_readText_X2_those rfl rfl rfl (by decide +kernel) ⟨Nat.le_of_ble_eq_true rfl, Nat.le_of_ble_eq_true rfl⟩) rfl rfl rfl rfl (by decide) (by decide) (by decide) rfl (by decide) (Nat.le_of_ble_eq_true rfl) ⟨Nat.zero_le _, Nat.zero_le _⟩ dX2_readText_214 ?_
                refine g_goto F 221 dX2_readText_217 (by decide) ?_
                refine g_as (S_may z.2 (tx z.1)) (by first | (simp only [S_may, c1, c2, c4, c5, c6, c16, Bool.false_eq_true, ↓reduceIte]; done) | (with_reducible rfl) | (simp [S_may, c1, c2, c4, c5, c6, c16, Bool.false_eq_true, ↓reduceIte]; done)) ?_
                exact hJ7
            · refine g_aload_n F dX2_readText_187 rfl 0 rfl ?_
              refine g_get F (.ref (a 10)) zX2_readText_inX2 0 rfl rfl 14 (by decide) rfl zX2_readText_f38 dX2_readText_188 ?_
              refine g_iconst F (v := 0) dX2_readText_191 (by decide) ?_
              refine g_callS F (As := [.ref (a 10), .int 0]) (st := []) ([(a 0, .inr (2, [.ref (a 1), .int (nI ln), .ref (a 2), .ref (a 3), .ref (a 4), .int (nI ac), .int (nI nx), .ref (a 5), .ref (a 6), .ref (a 7), .ref (a 8), .int (nI se), .long sd, .ref (a 9), .ref (a 10)])), (a 1, .inl (cI, 60, .inl tx)), (a 2, .inl (cI, 79, .inl nw)), (a 3, .inl (cI, 79, .inl tr)), (a 4, .inl (cI, 1106, .inl di)), (a 5, .inl (cI, 158, .inl ke)), (a 6, .inl (cZ, 2, .inl ik)), (a 7, .inl (cI, 6, .inl s1)), (a 8, .inl (cI, 6, .inl s2)), (a 9, .inl (cI, 64, .inl wo))]) ([(a 0, .inr (2, [.ref (a 1), .int (nI ln), .ref (a 2), .ref (a 3), .ref (a 4), .int (nI ac), .int (nI nx), .ref (a 5), .ref (a 6), .ref (a 7), .ref (a 8), .int (nI se), .long sd, .ref (a 9), .ref (a 10)])), (a 1, .inl (cI, 60, .inl tx)), (a 2, .inl (cI, 79, .inl nw)), (a 3, .inl (cI, 79, .inl tr)), (a 4, .inl (cI, 1106, .inl di)), (a 5, .inl (cI, 158, .inl ke)), (a 6, .inl (cZ, 2, .inl ik)), (a 7, .inl (cI, 6, .inl s1)), (a 8, .inl (cI, 6, .inl s2)), (a 9, .inl (cI, 64, .inl wo)), (a 10, .inl (cI, 79, .inl z.2))]) [10] [0, 1, 2, 3, 4, 5, 6, 7, 8, 9] [0, 1, 2, 3, 4, 5, 6, 7, 8, 9, 10] (kX2_those l D cI cZ cQ (a 10) z.2 0 ) (va_cwS 2 F.2.2.2.2.1 gX2_readText_X2_those rfl rfl rfl (by decide +kernel) ⟨Nat.le_of_ble_eq_true rfl, Nat.le_of_ble_eq_true rfl⟩) rfl rfl rfl rfl (by decide) (by decide) (by decide) rfl (by decide) (Nat.le_of_ble_eq_true rfl) ⟨Nat.zero_le _, Nat.zero_le _⟩ dX2_readText_192 ?_
              refine g_goto F 221 dX2_readText_195 (by decide) ?_
              refine g_as (S_may z.2 (tx z.1)) (by first | (simp only [S_may, c1, c2, c4, c5, c6, Bool.false_eq_true, ↓reduceIte]; done) | (with_reducible rfl) | (simp [S_may, c1, c2, c4, c5, c6, Bool.false_eq_true, ↓reduceIte]; done)) ?_
              exact hJ7
          · obtain ⟨d, hd1, hd2, ed⟩ := in_nat (lo := 1) (hi := 9) (by decide) (by decide) c5
            refine g_aload_n F dX2_readText_161 rfl 0 rfl ?_
            refine g_get F (.ref (a 10)) zX2_readText_inX2 0 rfl rfl 14 (by decide) rfl zX2_readText_f38 dX2_readText_162 ?_
            refine g_iload_n F dX2_readText_165 rfl 2 rfl ?_
            refine g_as (nI d) ed ?_
            refine g_callS F (As := [.ref (a 10), .int (nI d)]) (st := []) ([(a 0, .inr (2, [.ref (a 1), .int (nI ln), .ref (a 2), .ref (a 3), .ref (a 4), .int (nI ac), .int (nI nx), .ref (a 5), .ref (a 6), .ref (a 7), .ref (a 8), .int (nI se), .long sd, .ref (a 9), .ref (a 10)])), (a 1, .inl (cI, 60, .inl tx)), (a 2, .inl (cI, 79, .inl nw)), (a 3, .inl (cI, 79, .inl tr)), (a 4, .inl (cI, 1106, .inl di)), (a 5, .inl (cI, 158, .inl ke)), (a 6, .inl (cZ, 2, .inl ik)), (a 7, .inl (cI, 6, .inl s1)), (a 8, .inl (cI, 6, .inl s2)), (a 9, .inl (cI, 64, .inl wo))]) ([(a 0, .inr (2, [.ref (a 1), .int (nI ln), .ref (a 2), .ref (a 3), .ref (a 4), .int (nI ac), .int (nI nx), .ref (a 5), .ref (a 6), .ref (a 7), .ref (a 8), .int (nI se), .long sd, .ref (a 9), .ref (a 10)])), (a 1, .inl (cI, 60, .inl tx)), (a 2, .inl (cI, 79, .inl nw)), (a 3, .inl (cI, 79, .inl tr)), (a 4, .inl (cI, 1106, .inl di)), (a 5, .inl (cI, 158, .inl ke)), (a 6, .inl (cZ, 2, .inl ik)), (a 7, .inl (cI, 6, .inl s1)), (a 8, .inl (cI, 6, .inl s2)), (a 9, .inl (cI, 64, .inl wo)), (a 10, .inl (cI, 79, .inl (S_ticks z.2 d)))]) [10] [0, 1, 2, 3, 4, 5, 6, 7, 8, 9] [0, 1, 2, 3, 4, 5, 6, 7, 8, 9, 10] (kX2_passOn l D cI cZ cQ (a 10) z.2 d (by omega) hJ3) (va_cwS 2 F.2.2.2.2.1 gX2_readText_X2_passOn rfl rfl rfl (by decide +kernel) ⟨Nat.le_of_ble_eq_true rfl, Nat.le_of_ble_eq_true rfl⟩) rfl rfl rfl rfl (by decide) (by decide) (by decide) rfl (by decide) (Nat.le_of_ble_eq_true rfl) ⟨Nat.zero_le _, Nat.zero_le _⟩ dX2_readText_166 ?_
            refine g_istore_n F (lv' := [(0, .ref (a 0)), (1, .int (nI z.1)), (2, .int ((tx z.1) - 48)), (3, .int (S_pass z.2 d))]) dX2_readText_169 rfl (by decide) [1, 2, 3, 0] rfl ?_
            refine g_iinc F (lv' := [(0, .ref (a 0)), (1, .int (nI (z.1 + 1))), (2, .int ((tx z.1) - 48)), (3, .int (S_pass z.2 d))]) (nI (z.1 + 1)) dX2_readText_170 1 rfl (nI_add z.1 1) (by decide) [1, 0, 2, 3] rfl ?_
            refine g_goto F 324 dX2_readText_173 (by decide) ?_
            refine g_goto F 129 dX2_readText_324 (by decide) ?_
            refine g_lvs (lv' := [(0, .ref (a 0)), (1, .int (nI (z.1 + 1)))]) [0, 1] rfl ?_
            refine g_all (w0 := [(a 0, .inr (2, [.ref (a 1), .int (nI ln), .ref (a 2), .ref (a 3), .ref (a 4), .int (nI ac), .int (nI nx), .ref (a 5), .ref (a 6), .ref (a 7), .ref (a 8), .int (nI se), .long sd, .ref (a 9), .ref (a 10)])), (a 1, .inl (cI, 60, .inl tx)), (a 2, .inl (cI, 79, .inl nw)), (a 3, .inl (cI, 79, .inl tr)), (a 4, .inl (cI, 1106, .inl di)), (a 5, .inl (cI, 158, .inl ke)), (a 6, .inl (cZ, 2, .inl ik)), (a 7, .inl (cI, 6, .inl s1)), (a 8, .inl (cI, 6, .inl s2)), (a 9, .inl (cI, 64, .inl wo)), (a 10, .inl (cI, 79, .inl (z.1 + 1, S_ticks z.2 d).2))]) (lv0 := [(0, .ref (a 0)), (1, .int (nI (z.1 + 1, S_ticks z.2 d).1))]) (st0 := []) rfl rfl rfl ?_
            exact ihi (by omega) (z.1 + 1, S_ticks z.2 d) ⟨by rw [show ln + 1 - (i + 1) = ln - i by omega, ← hJ1, (show ln + 1 - i = (ln - i) + 1 by omega), rd_b hkl c5, ed, nI_clamp (by omega)]; try rfl, by show i + 1 + 7 ≤ z.1 + 1; omega, Z_ticks hJ3 _, by show z.1 + 1 ≤ ln + 1; omega⟩
      · have hlti : i < 6 := by have := nlt_of (a := i + 1) (b := 7) (by omega) (by decide) c3; omega
        refine g_iload_n F dX2_readText_35 rfl 1 rfl ?_
        refine g_aload_n F dX2_readText_36 rfl 0 rfl ?_
        refine g_get F (.int (nI ln)) zX2_readText_inX2 0 rfl rfl 1 (by decide) rfl zX2_readText_f102 dX2_readText_37 ?_
        have hJ18 : Go p l e ({ frames := 6, cells := 0, slots := 0, locals := 190 }) s m (List.toArray [.ref (a 0)]) below meth c Q D A 7 0 0 ([(a 0, .inr (2, [.ref (a 1), .int (nI ln), .ref (a 2), .ref (a 3), .ref (a 4), .int (nI ac), .int (nI nx), .ref (a 5), .ref (a 6), .ref (a 7), .ref (a 8), .int (nI se), .long sd, .ref (a 9), .ref (a 10)])), (a 1, .inl (cI, 60, .inl tx)), (a 2, .inl (cI, 79, .inl nw)), (a 3, .inl (cI, 79, .inl tr)), (a 4, .inl (cI, 1106, .inl di)), (a 5, .inl (cI, 158, .inl ke)), (a 6, .inl (cZ, 2, .inl ik)), (a 7, .inl (cI, 6, .inl s1)), (a 8, .inl (cI, 6, .inl s2)), (a 9, .inl (cI, 64, .inl wo)), (a 10, .inl (cI, 79, .inl g))]) 57 [(0, .ref (a 0)), (1, .int (nI (i + 1)))] [.int (S_let tx ln (i + 1))] := by
          refine g_istore_n F (lv' := [(0, .ref (a 0)), (1, .int (nI (i + 1))), (2, .int (S_let tx ln (i + 1)))]) dX2_readText_57 rfl (by decide) [1, 2, 0] rfl ?_
          refine g_iload_n F dX2_readText_58 rfl 2 rfl ?_
          refine g_i2l F dX2_readText_59 ?_
          refine g_iload_n F dX2_readText_60 rfl 1 rfl ?_
          refine g_iconst F (v := 4) dX2_readText_61 (by decide) ?_
          have hJ20 : Go p l e ({ frames := 6, cells := 0, slots := 0, locals := 190 }) s m (List.toArray [.ref (a 0)]) below meth c Q D A 7 0 0 ([(a 0, .inr (2, [.ref (a 1), .int (nI ln), .ref (a 2), .ref (a 3), .ref (a 4), .int (nI ac), .int (nI nx), .ref (a 5), .ref (a 6), .ref (a 7), .ref (a 8), .int (nI se), .long sd, .ref (a 9), .ref (a 10)])), (a 1, .inl (cI, 60, .inl tx)), (a 2, .inl (cI, 79, .inl nw)), (a 3, .inl (cI, 79, .inl tr)), (a 4, .inl (cI, 1106, .inl di)), (a 5, .inl (cI, 158, .inl ke)), (a 6, .inl (cZ, 2, .inl ik)), (a 7, .inl (cI, 6, .inl s1)), (a 8, .inl (cI, 6, .inl s2)), (a 9, .inl (cI, 64, .inl wo)), (a 10, .inl (cI, 79, .inl g))]) 70 [(0, .ref (a 0)), (1, .int (nI (i + 1))), (2, .int (S_let tx ln (i + 1)))] [.long (if i + 1 < 4 then (1 : Int64) else 0), .long (Int32.toInt64 (S_let tx ln (i + 1)))] := by
            refine g_ldc2 F zX2_readText_c106 dX2_readText_70 ?_
            refine g_callSn F (As := [.long (Int32.toInt64 (S_let tx ln (i + 1))), .long (if i + 1 < 4 then (1 : Int64) else 0), .long 9]) (st := []) (kX2_in l D cI cZ cQ (Int32.toInt64 (S_let tx ln (i + 1))) (if i + 1 < 4 then (1 : Int64) else 0) 9) (va_cwS 3 F.2.2.2.2.1 gX2_readText_X2_in rfl rfl rfl (by decide +kernel) ⟨Nat.le_of_ble_eq_true rfl, Nat.le_of_ble_eq_true rfl⟩) rfl rfl (Nat.le_of_ble_eq_true rfl) ⟨Nat.zero_le _, Nat.zero_le _⟩ dX2_readText_73 ?_
            refine g_bne F 81 dX2_readText_76 (by decide) (fun c21 => ?_) (fun c21 => ?_)
            · have hok : S_hok tx ln (i + 1) = true := hok_let.symm.trans c21
              have hkl : i + 1 < ln := (hok_ge hok).1
              have elet := let_in (tx := tx) hkl
              refine g_iload_n F dX2_readText_81 rfl 1 rfl ?_
              refine g_iconst F (v := 4) dX2_readText_82 (by decide) ?_
              refine g_icmp_ge F 101 dX2_readText_83 (by decide) (fun c22 => ?_) (fun c22 => ?_)
              · refine g_aload_n F dX2_readText_101 rfl 0 rfl ?_
                refine g_get F (.ref (a 10)) zX2_readText_inX2 0 rfl rfl 14 (by decide) rfl zX2_readText_f38 dX2_readText_102 ?_
                refine g_bipush F (v := 69) dX2_readText_105 (by decide) ?_
                refine g_bipush F (v := 10) dX2_readText_107 (by decide) ?_
                refine g_aload_n F dX2_readText_109 rfl 0 rfl ?_
                refine g_get F (.ref (a 10)) zX2_readText_inX2 0 rfl rfl 14 (by decide) rfl zX2_readText_f38 dX2_readText_110 ?_
                refine g_bipush F (v := 69) dX2_readText_113 (by decide) ?_
                refine g_as (nI 69) rfl ?_
                refine g_iald F (j := 69) 10 0 rfl rfl (by omega) (by decide) dX2_readText_115 ?_
                refine g_imul F dX2_readText_116 ?_
                refine g_iload_n F dX2_readText_117 rfl 2 rfl ?_
                refine g_iadd F dX2_readText_118 ?_
                refine g_as2 (nI 69) rfl ?_
                refine g_iast F (j := 69) ([(a 0, .inr (2, [.ref (a 1), .int (nI ln), .ref (a 2), .ref (a 3), .ref (a 4), .int (nI ac), .int (nI nx), .ref (a 5), .ref (a 6), .ref (a 7), .ref (a 8), .int (nI se), .long sd, .ref (a 9), .ref (a 10)])), (a 1, .inl (cI, 60, .inl tx)), (a 2, .inl (cI, 79, .inl nw)), (a 3, .inl (cI, 79, .inl tr)), (a 4, .inl (cI, 1106, .inl di)), (a 5, .inl (cI, 158, .inl ke)), (a 6, .inl (cZ, 2, .inl ik)), (a 7, .inl (cI, 6, .inl s1)), (a 8, .inl (cI, 6, .inl s2)), (a 9, .inl (cI, 64, .inl wo)), (a 10, .inl (cI, 79, .inl (upd g 69 ((10 * (g 69)) + (S_let tx ln (i + 1))))))]) 10 0 rfl rfl (by omega) (by decide) dX2_readText_119 rfl ?_
                refine g_iinc F (lv' := [(0, .ref (a 0)), (1, .int (nI (i + 1 + 1))), (2, .int (S_let tx ln (i + 1)))]) (nI (i + 1 + 1)) dX2_readText_120 1 rfl (nI_add (i + 1) 1) (by decide) [1, 0, 2] rfl ?_
                refine g_goto F 29 dX2_readText_123 (by decide) ?_
                refine g_lvs (lv' := [(0, .ref (a 0)), (1, .int (nI (i + 1 + 1)))]) [0, 1] rfl ?_
                refine g_all (w0 := [(a 0, .inr (2, [.ref (a 1), .int (nI ln), .ref (a 2), .ref (a 3), .ref (a 4), .int (nI ac), .int (nI nx), .ref (a 5), .ref (a 6), .ref (a 7), .ref (a 8), .int (nI se), .long sd, .ref (a 9), .ref (a 10)])), (a 1, .inl (cI, 60, .inl tx)), (a 2, .inl (cI, 79, .inl nw)), (a 3, .inl (cI, 79, .inl tr)), (a 4, .inl (cI, 1106, .inl di)), (a 5, .inl (cI, 158, .inl ke)), (a 6, .inl (cZ, 2, .inl ik)), (a 7, .inl (cI, 6, .inl s1)), (a 8, .inl (cI, 6, .inl s2)), (a 9, .inl (cI, 64, .inl wo)), (a 10, .inl (cI, 79, .inl (S_hdS tx (i + 1) g)))]) (lv0 := [(0, .ref (a 0)), (1, .int (nI (i + 1 + 1)))]) (st0 := []) (by rw [elet]; unfold S_hdS; rw [if_neg (by have := (nI_leI (a := 4) (b := i + 1) (by decide) (by omega)).mp c22; omega)]) rfl rfl ?_
                exact ihi hlti trivial
              · refine g_aload_n F dX2_readText_86 rfl 0 rfl ?_
                refine g_get F (.ref (a 10)) zX2_readText_inX2 0 rfl rfl 14 (by decide) rfl zX2_readText_f38 dX2_readText_87 ?_
                refine g_bipush F (v := 66) dX2_readText_90 (by decide) ?_
                refine g_iload_n F dX2_readText_92 rfl 1 rfl ?_
                refine g_iadd F dX2_readText_93 ?_
                refine g_as (nI (66 + i + 1)) (nI_add 66 (i + 1)) ?_
                refine g_iconst F (v := 1) dX2_readText_94 (by decide) ?_
                refine g_isub F dX2_readText_95 ?_
                refine g_as (nI (65 + (i + 1))) ((pk_sub (a := 66 + (i + 1)) (b := 1) (by omega)).trans (congrArg nI (by omega))) ?_
                refine g_iload_n F dX2_readText_96 rfl 2 rfl ?_
                refine g_iast F (j := 65 + (i + 1)) ([(a 0, .inr (2, [.ref (a 1), .int (nI ln), .ref (a 2), .ref (a 3), .ref (a 4), .int (nI ac), .int (nI nx), .ref (a 5), .ref (a 6), .ref (a 7), .ref (a 8), .int (nI se), .long sd, .ref (a 9), .ref (a 10)])), (a 1, .inl (cI, 60, .inl tx)), (a 2, .inl (cI, 79, .inl nw)), (a 3, .inl (cI, 79, .inl tr)), (a 4, .inl (cI, 1106, .inl di)), (a 5, .inl (cI, 158, .inl ke)), (a 6, .inl (cZ, 2, .inl ik)), (a 7, .inl (cI, 6, .inl s1)), (a 8, .inl (cI, 6, .inl s2)), (a 9, .inl (cI, 64, .inl wo)), (a 10, .inl (cI, 79, .inl (upd g (65 + (i + 1)) (S_let tx ln (i + 1)))))]) 10 0 rfl rfl (by omega) (by decide) dX2_readText_97 rfl ?_
                refine g_goto F 120 dX2_readText_98 (by decide) ?_
                refine g_iinc F (lv' := [(0, .ref (a 0)), (1, .int (nI (i + 1 + 1))), (2, .int (S_let tx ln (i + 1)))]) (nI (i + 1 + 1)) dX2_readText_120 1 rfl (nI_add (i + 1) 1) (by decide) [1, 0, 2] rfl ?_
                refine g_goto F 29 dX2_readText_123 (by decide) ?_
                refine g_lvs (lv' := [(0, .ref (a 0)), (1, .int (nI (i + 1 + 1)))]) [0, 1] rfl ?_
                refine g_all (w0 := [(a 0, .inr (2, [.ref (a 1), .int (nI ln), .ref (a 2), .ref (a 3), .ref (a 4), .int (nI ac), .int (nI nx), .ref (a 5), .ref (a 6), .ref (a 7), .ref (a 8), .int (nI se), .long sd, .ref (a 9), .ref (a 10)])), (a 1, .inl (cI, 60, .inl tx)), (a 2, .inl (cI, 79, .inl nw)), (a 3, .inl (cI, 79, .inl tr)), (a 4, .inl (cI, 1106, .inl di)), (a 5, .inl (cI, 158, .inl ke)), (a 6, .inl (cZ, 2, .inl ik)), (a 7, .inl (cI, 6, .inl s1)), (a 8, .inl (cI, 6, .inl s2)), (a 9, .inl (cI, 64, .inl wo)), (a 10, .inl (cI, 79, .inl (S_hdS tx (i + 1) g)))]) (lv0 := [(0, .ref (a 0)), (1, .int (nI (i + 1 + 1)))]) (st0 := []) (by rw [elet]; unfold S_hdS; rw [if_pos (nlt_of (b := 4) (by omega) (by decide) c22)]) rfl rfl ?_
                exact ihi hlti trivial
            · have hnok : S_hok tx ln (i + 1) = false := hok_let.symm.trans c21
              exact absurd (hall (i + 1) (by omega) (by omega)) (by rw [hnok]; decide)
          refine g_icmp_ge F 69 dX2_readText_62 (by decide) (fun c19 => ?_) (fun c19 => ?_)
          · refine g_lconst F (v := 0) dX2_readText_69 (by decide) ?_
            refine g_asl (if i + 1 < 4 then (1 : Int64) else 0) (by rw [if_neg (by have := (nI_leI (a := 4) (b := i + 1) (by decide) (by omega)).mp c19; omega)]) ?_
            exact hJ20
          · refine g_lconst F (v := 1) dX2_readText_65 (by decide) ?_
            refine g_goto F 70 dX2_readText_66 (by decide) ?_
            refine g_asl (if i + 1 < 4 then (1 : Int64) else 0) (by rw [if_pos (nlt_of (b := 4) (by omega) (by decide) c19)]) ?_
            exact hJ20
        refine g_icmp_ge F 55 dX2_readText_40 (by decide) (fun c17 => ?_) (fun c17 => ?_)
        · refine g_bipush F (v := (-9)) dX2_readText_55 (by decide) ?_
          refine g_as (S_let tx ln (i + 1)) (let_out (k := i + 1) ((nI_leI (by omega) (by omega)).mp c17)).symm ?_
          exact hJ18
        · have hk40 : i + 1 < ln := nlt_of (by omega) (by omega) c17
          refine g_aload_n F dX2_readText_43 rfl 0 rfl ?_
          refine g_get F (.ref (a 1)) zX2_readText_inX2 0 rfl rfl 0 (by decide) rfl zX2_readText_f7 dX2_readText_44 ?_
          refine g_iload_n F dX2_readText_47 rfl 1 rfl ?_
          refine g_iald F (j := i + 1) 1 0 rfl rfl (by omega) (by decide) dX2_readText_48 ?_
          refine g_bipush F (v := 48) dX2_readText_49 (by decide) ?_
          refine g_isub F dX2_readText_51 ?_
          refine g_goto F 57 dX2_readText_52 (by decide) ?_
          refine g_as (S_let tx ln (i + 1)) (let_in (k := i + 1) (nlt_of (by omega) (by omega) c17)).symm ?_
          exact hJ18
    · exact absurd h77 c2
