theorem zX2_judge_c165 : Cond.constantLong RX2 165 (4) ∈ wsX2_judge := by decide +kernel
set_option maxHeartbeats 1000000 in
set_option maxRecDepth 100000 in
theorem kX2_judge_bad (l : Launch) (D : va_G) (cI cZ cQ : ClassId) (a : Nat → Nat) (tx : Row) (ln : Nat) (nw tr di : Row) (ac nx : Nat) (ke ik s1 s2 : Row) (se : Nat) (sd : Int64) (wo re : Row) (v : Int32) (x : Int64) (hb : S_in (Int32.toInt64 v) 1 4 = false) : Ct l D (gTy cI cZ cQ) yX2_judge wsX2_judge ({ frames := 7, cells := 0, slots := 0, locals := 220 }) [.ref (a 0), .int v, .long x] (MW cI cZ a tx ln nw tr di ac nx ke ik s1 s2 se sd wo re) (some (.int (-2))) (MW cI cZ a tx ln nw tr di ac nx ke ik s1 s2 se sd wo re) := by
  refine ct_ofI (cc := cX2_judge) (nL := 6) (own := RX2) (by decide) rfl rfl ⟨rfl, rfl⟩ (Nat.le_of_ble_eq_true rfl) MW_same (fun p e s m below meth c A Q F hR => ?_)
  refine g_aw ([(a 0, .inr (2, [.ref (a 1), .int (nI ln), .ref (a 2), .ref (a 3), .ref (a 4), .int (nI ac), .int (nI nx), .ref (a 5), .ref (a 6), .ref (a 7), .ref (a 8), .int (nI se), .long sd, .ref (a 9), .ref (a 10)])), (a 1, .inl (cI, 60, .inl tx)), (a 2, .inl (cI, 79, .inl nw)), (a 3, .inl (cI, 79, .inl tr)), (a 4, .inl (cI, 1106, .inl di)), (a 5, .inl (cI, 158, .inl ke)), (a 6, .inl (cZ, 2, .inl ik)), (a 7, .inl (cI, 6, .inl s1)), (a 8, .inl (cI, 6, .inl s2)), (a 9, .inl (cI, 64, .inl wo)), (a 10, .inl (cI, 79, .inl re))]) rfl ?_
  refine g_iload_n F dX2_judge_0 rfl 1 rfl ?_
  refine g_i2l F dX2_judge_1 ?_
  refine g_lconst F (v := 1) dX2_judge_2 (by decide) ?_
  refine g_ldc2 F zX2_judge_c165 dX2_judge_3 ?_
  refine g_callSn F (As := [.long (Int32.toInt64 v), .long 1, .long 4]) (st := []) (kX2_in l D cI cZ cQ (Int32.toInt64 v) 1 4) (va_cwS 3 F.2.2.2.2.1 gX2_judge_X2_in rfl rfl rfl (by decide +kernel) ⟨Nat.le_of_ble_eq_true rfl, Nat.le_of_ble_eq_true rfl⟩) rfl rfl (Nat.le_of_ble_eq_true rfl) ⟨Nat.zero_le _, Nat.zero_le _⟩ dX2_judge_6 ?_
  refine g_beq F 29 dX2_judge_9 (by decide) (fun c1 => ?_) (fun c1 => ?_)
  · refine g_bipush F (v := (-2)) dX2_judge_29 (by decide) ?_
    exact g_endI (hR _ _ dX2_judge_31) rfl rfl
  · exact absurd c1 (by rw [hb]; decide)
theorem zX2_judge_c167 : Cond.constantLong RX2 167 (1000) ∈ wsX2_judge := by decide +kernel
set_option maxHeartbeats 1000000 in
set_option maxRecDepth 100000 in
theorem kX2_judge_bad2 (l : Launch) (D : va_G) (cI cZ cQ : ClassId) (a : Nat → Nat) (tx : Row) (ln : Nat) (nw tr di : Row) (ac nx : Nat) (ke ik s1 s2 : Row) (se : Nat) (sd : Int64) (wo re : Row) (n : Nat) (x : Int64) (hn : n < 2 ^ 31) (hb : S_in (Int32.toInt64 (nI n)) 1 4 = true) (hc : S_in x 0 (S_lpow 1000 n - 1) = false) : Ct l D (gTy cI cZ cQ) yX2_judge wsX2_judge ({ frames := 7, cells := 0, slots := 0, locals := 220 }) [.ref (a 0), .int (nI n), .long x] (MW cI cZ a tx ln nw tr di ac nx ke ik s1 s2 se sd wo re) (some (.int (-2))) (MW cI cZ a tx ln nw tr di ac nx ke ik s1 s2 se sd wo re) := by
  refine ct_ofI (cc := cX2_judge) (nL := 6) (own := RX2) (by decide) rfl rfl ⟨rfl, rfl⟩ (Nat.le_of_ble_eq_true rfl) MW_same (fun p e s m below meth c A Q F hR => ?_)
  refine g_aw ([(a 0, .inr (2, [.ref (a 1), .int (nI ln), .ref (a 2), .ref (a 3), .ref (a 4), .int (nI ac), .int (nI nx), .ref (a 5), .ref (a 6), .ref (a 7), .ref (a 8), .int (nI se), .long sd, .ref (a 9), .ref (a 10)])), (a 1, .inl (cI, 60, .inl tx)), (a 2, .inl (cI, 79, .inl nw)), (a 3, .inl (cI, 79, .inl tr)), (a 4, .inl (cI, 1106, .inl di)), (a 5, .inl (cI, 158, .inl ke)), (a 6, .inl (cZ, 2, .inl ik)), (a 7, .inl (cI, 6, .inl s1)), (a 8, .inl (cI, 6, .inl s2)), (a 9, .inl (cI, 64, .inl wo)), (a 10, .inl (cI, 79, .inl re))]) rfl ?_
  refine g_iload_n F dX2_judge_0 rfl 1 rfl ?_
  refine g_i2l F dX2_judge_1 ?_
  refine g_lconst F (v := 1) dX2_judge_2 (by decide) ?_
  refine g_ldc2 F zX2_judge_c165 dX2_judge_3 ?_
  refine g_callSn F (As := [.long (Int32.toInt64 (nI n)), .long 1, .long 4]) (st := []) (kX2_in l D cI cZ cQ (Int32.toInt64 (nI n)) 1 4) (va_cwS 3 F.2.2.2.2.1 gX2_judge_X2_in rfl rfl rfl (by decide +kernel) ⟨Nat.le_of_ble_eq_true rfl, Nat.le_of_ble_eq_true rfl⟩) rfl rfl (Nat.le_of_ble_eq_true rfl) ⟨Nat.zero_le _, Nat.zero_le _⟩ dX2_judge_6 ?_
  refine g_beq F 29 dX2_judge_9 (by decide) (fun c1 => ?_) (fun c1 => ?_)
  · exact absurd c1 (by rw [hb]; decide)
  · refine g_lload_n F dX2_judge_12 rfl 2 rfl ?_
    refine g_lconst F (v := 0) dX2_judge_13 (by decide) ?_
    refine g_ldc2 F zX2_judge_c167 dX2_judge_14 ?_
    refine g_iload_n F dX2_judge_17 rfl 1 rfl ?_
    refine g_callSn F (As := [.long 1000, .int (nI n)]) (st := [.long 0, .long x]) (kX2_longPower l D cI cZ cQ 1000 n (by omega)) (va_cwS 2 F.2.2.2.2.1 gX2_judge_X2_longPower rfl rfl rfl (by decide +kernel) ⟨Nat.le_of_ble_eq_true rfl, Nat.le_of_ble_eq_true rfl⟩) rfl rfl (Nat.le_of_ble_eq_true rfl) ⟨Nat.zero_le _, Nat.zero_le _⟩ dX2_judge_18 ?_
    refine g_lconst F (v := 1) dX2_judge_21 (by decide) ?_
    refine g_lsub F dX2_judge_22 ?_
    refine g_callSn F (As := [.long x, .long 0, .long ((S_lpow 1000 n) - 1)]) (st := []) (kX2_in l D cI cZ cQ x 0 ((S_lpow 1000 n) - 1)) (va_cwS 3 F.2.2.2.2.1 gX2_judge_X2_in rfl rfl rfl (by decide +kernel) ⟨Nat.le_of_ble_eq_true rfl, Nat.le_of_ble_eq_true rfl⟩) rfl rfl (Nat.le_of_ble_eq_true rfl) ⟨Nat.zero_le _, Nat.zero_le _⟩ dX2_judge_23 ?_
    refine g_bne F 32 dX2_judge_26 (by decide) (fun c2 => ?_) (fun c2 => ?_)
    · exact absurd c2 (by rw [hc]; decide)
    · refine g_bipush F (v := (-2)) dX2_judge_29 (by decide) ?_
      exact g_endI (hR _ _ dX2_judge_31) rfl rfl
theorem zX2_judge_f13 : Cond.fieldLink RX2 13 (TX2 2).1 (TX2 2).2.1 (TX2 2).2.2.1 ∈ wsX2_judge := by decide +kernel
theorem zX2_judge_f16 : Cond.fieldLink RX2 16 (TX2 3).1 (TX2 3).2.1 (TX2 3).2.2.1 ∈ wsX2_judge := by decide +kernel
theorem zX2_judge_inX2 : ∀ w ∈ u_ws RX2 TX2 15, w ∈ wsX2_judge := by decide +kernel
set_option maxHeartbeats 1000000 in
set_option maxRecDepth 100000 in
theorem kX2_judge_ok (l : Launch) (D : va_G) (cI cZ cQ : ClassId) (a : Nat → Nat) (tx : Row) (ln : Nat) (nw tr di : Row) (ac nx : Nat) (ke ik s1 s2 : Row) (se : Nat) (sd : Int64) (wo re : Row) (n X : Nat) (hn : n ≤ 4) (hX : X < 2 ^ 63) (hb : S_in (Int32.toInt64 (nI n)) 1 4 = true) (hc : S_in (lN X) 0 (S_lpow 1000 n - 1) = true) (hz : Z67 nw) : Ct l D (gTy cI cZ cQ) yX2_judge wsX2_judge ({ frames := 7, cells := 0, slots := 0, locals := 220 }) [.ref (a 0), .int (nI n), .long (lN X)] (MW cI cZ a tx ln nw tr di ac nx ke ik s1 s2 se sd wo re) (some (.int (S_judge nw X n 0 n))) (MW cI cZ a tx ln nw (S_judgeT nw X n 0 n) di ac nx ke ik s1 s2 se sd wo re) := by
  refine ct_ofI (cc := cX2_judge) (nL := 6) (own := RX2) (by decide) rfl rfl ⟨rfl, rfl⟩ (Nat.le_of_ble_eq_true rfl) MW_same (fun p e s m below meth c A Q F hR => ?_)
  refine g_aw ([(a 0, .inr (2, [.ref (a 1), .int (nI ln), .ref (a 2), .ref (a 3), .ref (a 4), .int (nI ac), .int (nI nx), .ref (a 5), .ref (a 6), .ref (a 7), .ref (a 8), .int (nI se), .long sd, .ref (a 9), .ref (a 10)])), (a 1, .inl (cI, 60, .inl tx)), (a 2, .inl (cI, 79, .inl nw)), (a 3, .inl (cI, 79, .inl tr)), (a 4, .inl (cI, 1106, .inl di)), (a 5, .inl (cI, 158, .inl ke)), (a 6, .inl (cZ, 2, .inl ik)), (a 7, .inl (cI, 6, .inl s1)), (a 8, .inl (cI, 6, .inl s2)), (a 9, .inl (cI, 64, .inl wo)), (a 10, .inl (cI, 79, .inl re))]) rfl ?_
  refine g_iload_n F dX2_judge_0 rfl 1 rfl ?_
  refine g_i2l F dX2_judge_1 ?_
  refine g_lconst F (v := 1) dX2_judge_2 (by decide) ?_
  refine g_ldc2 F zX2_judge_c165 dX2_judge_3 ?_
  refine g_callSn F (As := [.long (Int32.toInt64 (nI n)), .long 1, .long 4]) (st := []) (kX2_in l D cI cZ cQ (Int32.toInt64 (nI n)) 1 4) (va_cwS 3 F.2.2.2.2.1 gX2_judge_X2_in rfl rfl rfl (by decide +kernel) ⟨Nat.le_of_ble_eq_true rfl, Nat.le_of_ble_eq_true rfl⟩) rfl rfl (Nat.le_of_ble_eq_true rfl) ⟨Nat.zero_le _, Nat.zero_le _⟩ dX2_judge_6 ?_
  refine g_beq F 29 dX2_judge_9 (by decide) (fun c1 => ?_) (fun c1 => ?_)
  · exact absurd c1 (by rw [hb]; decide)
  · refine g_lload_n F dX2_judge_12 rfl 2 rfl ?_
    refine g_lconst F (v := 0) dX2_judge_13 (by decide) ?_
    refine g_ldc2 F zX2_judge_c167 dX2_judge_14 ?_
    refine g_iload_n F dX2_judge_17 rfl 1 rfl ?_
    refine g_callSn F (As := [.long 1000, .int (nI n)]) (st := [.long 0, .long (lN X)]) (kX2_longPower l D cI cZ cQ 1000 n (by omega)) (va_cwS 2 F.2.2.2.2.1 gX2_judge_X2_longPower rfl rfl rfl (by decide +kernel) ⟨Nat.le_of_ble_eq_true rfl, Nat.le_of_ble_eq_true rfl⟩) rfl rfl (Nat.le_of_ble_eq_true rfl) ⟨Nat.zero_le _, Nat.zero_le _⟩ dX2_judge_18 ?_
    refine g_lconst F (v := 1) dX2_judge_21 (by decide) ?_
    refine g_lsub F dX2_judge_22 ?_
    refine g_callSn F (As := [.long (lN X), .long 0, .long ((S_lpow 1000 n) - 1)]) (st := []) (kX2_in l D cI cZ cQ (lN X) 0 ((S_lpow 1000 n) - 1)) (va_cwS 3 F.2.2.2.2.1 gX2_judge_X2_in rfl rfl rfl (by decide +kernel) ⟨Nat.le_of_ble_eq_true rfl, Nat.le_of_ble_eq_true rfl⟩) rfl rfl (Nat.le_of_ble_eq_true rfl) ⟨Nat.zero_le _, Nat.zero_le _⟩ dX2_judge_23 ?_
    refine g_bne F 32 dX2_judge_26 (by decide) (fun c2 => ?_) (fun c2 => ?_)
    · refine g_aload_n F dX2_judge_32 rfl 0 rfl ?_
      refine g_get F (.ref (a 2)) zX2_judge_inX2 0 rfl rfl 2 (by decide) rfl zX2_judge_f13 dX2_judge_33 ?_
      refine g_aload_n F dX2_judge_36 rfl 0 rfl ?_
      refine g_get F (.ref (a 3)) zX2_judge_inX2 0 rfl rfl 3 (by decide) rfl zX2_judge_f16 dX2_judge_37 ?_
      refine g_callS F (As := [.ref (a 2), .ref (a 3)]) (st := []) ([(a 0, .inr (2, [.ref (a 1), .int (nI ln), .ref (a 2), .ref (a 3), .ref (a 4), .int (nI ac), .int (nI nx), .ref (a 5), .ref (a 6), .ref (a 7), .ref (a 8), .int (nI se), .long sd, .ref (a 9), .ref (a 10)])), (a 1, .inl (cI, 60, .inl tx)), (a 4, .inl (cI, 1106, .inl di)), (a 5, .inl (cI, 158, .inl ke)), (a 6, .inl (cZ, 2, .inl ik)), (a 7, .inl (cI, 6, .inl s1)), (a 8, .inl (cI, 6, .inl s2)), (a 9, .inl (cI, 64, .inl wo)), (a 10, .inl (cI, 79, .inl re))]) ([(a 0, .inr (2, [.ref (a 1), .int (nI ln), .ref (a 2), .ref (a 3), .ref (a 4), .int (nI ac), .int (nI nx), .ref (a 5), .ref (a 6), .ref (a 7), .ref (a 8), .int (nI se), .long sd, .ref (a 9), .ref (a 10)])), (a 1, .inl (cI, 60, .inl tx)), (a 2, .inl (cI, 79, .inl nw)), (a 3, .inl (cI, 79, .inl nw)), (a 4, .inl (cI, 1106, .inl di)), (a 5, .inl (cI, 158, .inl ke)), (a 6, .inl (cZ, 2, .inl ik)), (a 7, .inl (cI, 6, .inl s1)), (a 8, .inl (cI, 6, .inl s2)), (a 9, .inl (cI, 64, .inl wo)), (a 10, .inl (cI, 79, .inl re))]) [2, 3] [0, 1, 4, 5, 6, 7, 8, 9, 10] [0, 1, 9, 10, 2, 3, 4, 5, 6, 7, 8] (kX2_copy l D cI cZ cQ (a 2) (a 3) nw tr) (va_cwS 2 F.2.2.2.2.1 gX2_judge_X2_copy rfl rfl rfl (by decide +kernel) ⟨Nat.le_of_ble_eq_true rfl, Nat.le_of_ble_eq_true rfl⟩) rfl rfl rfl rfl (by decide) (by decide) (by decide) rfl (by decide) (Nat.le_of_ble_eq_true rfl) ⟨Nat.zero_le _, Nat.zero_le _⟩ dX2_judge_40 ?_
      refine g_iconst F (v := 0) dX2_judge_43 (by decide) ?_
      refine g_istore F (lv' := [(0, .ref (a 0)), (1, .int (nI n)), (2, .long (lN X)), (4, .int 0)]) dX2_judge_44 (by decide) [1, 2, 3, 0] rfl ?_
      refine g_all (w0 := [(a 0, .inr (2, [.ref (a 1), .int (nI ln), .ref (a 2), .ref (a 3), .ref (a 4), .int (nI ac), .int (nI nx), .ref (a 5), .ref (a 6), .ref (a 7), .ref (a 8), .int (nI se), .long sd, .ref (a 9), .ref (a 10)])), (a 1, .inl (cI, 60, .inl tx)), (a 2, .inl (cI, 79, .inl nw)), (a 3, .inl (cI, 79, .inl (S_jdT nw X n 0))), (a 4, .inl (cI, 1106, .inl di)), (a 5, .inl (cI, 158, .inl ke)), (a 6, .inl (cZ, 2, .inl ik)), (a 7, .inl (cI, 6, .inl s1)), (a 8, .inl (cI, 6, .inl s2)), (a 9, .inl (cI, 64, .inl wo)), (a 10, .inl (cI, 79, .inl re))]) (lv0 := [(0, .ref (a 0)), (1, .int (nI n)), (2, .long (lN X)), (4, .int (nI 0))]) (st0 := []) rfl rfl rfl ?_
      refine g_for n (fun i => S_judge nw X n 0 n = S_judge nw X n i (n - i) ∧ S_judgeT nw X n 0 n = S_judgeT nw X n i (n - i)) (fun i => [(a 0, .inr (2, [.ref (a 1), .int (nI ln), .ref (a 2), .ref (a 3), .ref (a 4), .int (nI ac), .int (nI nx), .ref (a 5), .ref (a 6), .ref (a 7), .ref (a 8), .int (nI se), .long sd, .ref (a 9), .ref (a 10)])), (a 1, .inl (cI, 60, .inl tx)), (a 2, .inl (cI, 79, .inl nw)), (a 3, .inl (cI, 79, .inl (S_jdT nw X n i))), (a 4, .inl (cI, 1106, .inl di)), (a 5, .inl (cI, 158, .inl ke)), (a 6, .inl (cZ, 2, .inl ik)), (a 7, .inl (cI, 6, .inl s1)), (a 8, .inl (cI, 6, .inl s2)), (a 9, .inl (cI, 64, .inl wo)), (a 10, .inl (cI, 79, .inl re))]) (fun i => [(0, .ref (a 0)), (1, .int (nI n)), (2, .long (lN X)), (4, .int (nI i))]) (fun i hi hIi ihi => ?_) 0 (Nat.zero_le _) ⟨rfl, rfl⟩
      rw [S_jdT] at ihi
      have hzj : Z67 (S_jdT nw X n i) := Z_jdT hz i
      generalize hg_g : S_jdT nw X n i = g at ihi hzj ⊢
      refine g_iload F dX2_judge_46 3 rfl ?_
      refine g_iload_n F dX2_judge_48 rfl 1 rfl ?_
      refine g_icmp_ge F 107 dX2_judge_49 (by decide) (fun c3 => ?_) (fun c3 => ?_)
      · have hx_c3 : n = i := lp_ge hi (by omega) c3
        subst hx_c3
        subst hg_g
        have hIn := hIi
        refine g_bipush F (v := (-9)) dX2_judge_107 (by decide) ?_
        exact g_endI (hR _ _ dX2_judge_109) (by rw [hIn.1, Nat.sub_self]; rfl) (by rw [hIn.2, Nat.sub_self]; rfl)
      · have hlti : i < n := lp_lt hi (by omega) c3
        have hT := S_th_lt (X := X) (n := n) (i := i)
        refine g_lload_n F dX2_judge_52 rfl 2 rfl ?_
        refine g_ldc2 F zX2_judge_c167 dX2_judge_53 ?_
        refine g_iload_n F dX2_judge_56 rfl 1 rfl ?_
        refine g_iconst F (v := 1) dX2_judge_57 (by decide) ?_
        refine g_isub F dX2_judge_58 ?_
        refine g_iload F dX2_judge_59 3 rfl ?_
        refine g_isub F dX2_judge_61 ?_
        refine g_as (nI (n - 1 - i)) (by rw [show (1 : Int32) = nI 1 from rfl, pk_sub (by omega), pk_sub (by omega)]) ?_
        refine g_callSn F (As := [.long 1000, .int (nI (n - 1 - i))]) (st := [.long (lN X)]) (kX2_longPower l D cI cZ cQ 1000 (n - 1 - i) (by omega)) (va_cwS 2 F.2.2.2.2.1 gX2_judge_X2_longPower rfl rfl rfl (by decide +kernel) ⟨Nat.le_of_ble_eq_true rfl, Nat.le_of_ble_eq_true rfl⟩) rfl rfl (Nat.le_of_ble_eq_true rfl) ⟨Nat.zero_le _, Nat.zero_le _⟩ dX2_judge_62 ?_
        refine g_ldiv F dX2_judge_65 (lp1000 (by omega)) ?_
        refine g_ldc2 F zX2_judge_c167 dX2_judge_66 ?_
        refine g_lrem F dX2_judge_69 (by decide) ?_
        refine g_l2i F dX2_judge_70 ?_
        refine g_as (nI (S_th X n i)) (th_ok hX hn) ?_
        refine g_istore F (lv' := [(0, .ref (a 0)), (1, .int (nI n)), (2, .long (lN X)), (4, .int (nI i)), (5, .int (nI (S_th X n i)))]) dX2_judge_71 (by decide) [1, 2, 3, 4, 0] rfl ?_
        refine g_aload_n F dX2_judge_73 rfl 0 rfl ?_
        refine g_iload F dX2_judge_74 4 rfl ?_
        refine g_bipush F (v := 100) dX2_judge_76 (by decide) ?_
        refine g_idiv F dX2_judge_78 (by decide) ?_
        refine g_as (nI (S_th X n i / 100)) (pk_div (by omega) (by decide) (by decide)) ?_
        refine g_iload F dX2_judge_79 4 rfl ?_
        refine g_bipush F (v := 10) dX2_judge_81 (by decide) ?_
        refine g_idiv F dX2_judge_83 (by decide) ?_
        refine g_as (nI (S_th X n i / 10)) (pk_div (by omega) (by decide) (by decide)) ?_
        refine g_bipush F (v := 10) dX2_judge_84 (by decide) ?_
        refine g_irem F dX2_judge_86 (by decide) ?_
        refine g_as (nI (S_th X n i / 10 % 10)) (pk_rem (by omega) (by decide) (by decide)) ?_
        refine g_iload F dX2_judge_87 4 rfl ?_
        refine g_bipush F (v := 10) dX2_judge_89 (by decide) ?_
        refine g_irem F dX2_judge_91 (by decide) ?_
        refine g_as (nI (S_th X n i % 10)) (pk_rem (by omega) (by decide) (by decide)) ?_
        refine g_callVs F (As := [.int (nI (S_th X n i / 100)), .int (nI (S_th X n i / 10 % 10)), .int (nI (S_th X n i % 10))]) (st := []) (kX2_judged l D cI cZ cQ a tx ln nw g di ac nx ke ik s1 s2 se sd wo re (S_th X n i / 100) (S_th X n i / 10 % 10) (S_th X n i % 10) (by omega) (by omega) (by omega) hzj) 0 rfl rfl (cwV 3 F.2.2.2.2.1 gX2_judge_X2_judged rfl rfl rfl (by decide +kernel) ⟨Nat.le_of_ble_eq_true rfl, Nat.le_of_ble_eq_true rfl⟩) rfl rfl (Nat.le_of_ble_eq_true rfl) ⟨Nat.zero_le _, Nat.zero_le _⟩ dX2_judge_92 ?_
        refine g_bne F 101 dX2_judge_95 (by decide) (fun c4 => ?_) (fun c4 => ?_)
        · refine g_iinc F (lv' := [(0, .ref (a 0)), (1, .int (nI n)), (2, .long (lN X)), (4, .int (nI (i + 1))), (5, .int (nI (S_th X n i)))]) (nI (i + 1)) dX2_judge_101 3 rfl (nI_add i 1) (by decide) [1, 2, 3, 0, 4] rfl ?_
          refine g_goto F 46 dX2_judge_104 (by decide) ?_
          refine g_lvs (lv' := [(0, .ref (a 0)), (1, .int (nI n)), (2, .long (lN X)), (4, .int (nI (i + 1)))]) [0, 1, 2, 3] rfl ?_
          refine g_all (w0 := [(a 0, .inr (2, [.ref (a 1), .int (nI ln), .ref (a 2), .ref (a 3), .ref (a 4), .int (nI ac), .int (nI nx), .ref (a 5), .ref (a 6), .ref (a 7), .ref (a 8), .int (nI se), .long sd, .ref (a 9), .ref (a 10)])), (a 1, .inl (cI, 60, .inl tx)), (a 2, .inl (cI, 79, .inl nw)), (a 3, .inl (cI, 79, .inl ((S_jd g (S_th X n i / 100) (S_th X n i / 10 % 10) (S_th X n i % 10)).2))), (a 4, .inl (cI, 1106, .inl di)), (a 5, .inl (cI, 158, .inl ke)), (a 6, .inl (cZ, 2, .inl ik)), (a 7, .inl (cI, 6, .inl s1)), (a 8, .inl (cI, 6, .inl s2)), (a 9, .inl (cI, 64, .inl wo)), (a 10, .inl (cI, 79, .inl re))]) (lv0 := [(0, .ref (a 0)), (1, .int (nI n)), (2, .long (lN X)), (4, .int (nI (i + 1)))]) (st0 := []) rfl rfl rfl ?_
          exact ihi hlti (by have hO : S_jdO nw X n i = true := (by unfold S_jdO; rw [hg_g]; exact c4); exact ⟨hIi.1.trans (jg_t hlti hO).1, hIi.2.trans (jg_t hlti hO).2⟩)
        · refine g_iload F dX2_judge_98 3 rfl ?_
          exact g_endI (hR _ _ dX2_judge_100) (by have hO : S_jdO nw X n i = false := (by unfold S_jdO; rw [hg_g]; exact c4); rw [hIi.1, (jg_f hlti hO).1]) (by have hO : S_jdO nw X n i = false := (by unfold S_jdO; rw [hg_g]; exact c4); rw [hIi.2, (jg_f hlti hO).2]; subst hg_g; rfl)
    · exact absurd c2 (by rw [hc]; decide)
