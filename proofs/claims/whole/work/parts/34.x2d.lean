theorem zX2_note_f13 : Cond.fieldLink RX2 13 (TX2 2).1 (TX2 2).2.1 (TX2 2).2.2.1 ∈ wsX2_note := by decide +kernel
theorem zX2_note_f132 : Cond.fieldLink RX2 132 (TX2 5).1 (TX2 5).2.1 (TX2 5).2.2.1 ∈ wsX2_note := by decide +kernel
theorem zX2_note_f141 : Cond.fieldLink RX2 141 (TX2 6).1 (TX2 6).2.1 (TX2 6).2.2.1 ∈ wsX2_note := by decide +kernel
theorem zX2_note_f19 : Cond.fieldLink RX2 19 (TX2 4).1 (TX2 4).2.1 (TX2 4).2.2.1 ∈ wsX2_note := by decide +kernel
theorem zX2_note_inX2 : ∀ w ∈ u_ws RX2 TX2 15, w ∈ wsX2_note := by decide +kernel
set_option maxHeartbeats 1000000 in
set_option maxRecDepth 100000 in
theorem kX2_note (l : Launch) (D : va_G) (cI cZ cQ : ClassId) (a : Nat → Nat) (tx : Row) (ln : Nat) (nw tr di : Row) (ac nx : Nat) (ke ik s1 s2 : Row) (se : Nat) (sd : Int64) (wo re : Row) (hx : nx < 14) (ha : ac ≤ 14) : Ct l D (gTy cI cZ cQ) yX2_note wsX2_note ({ frames := 0, cells := 0, slots := 0, locals := 0 }) [.ref (a 0)] (MW cI cZ a tx ln nw tr di ac nx ke ik s1 s2 se sd wo re) none (MW cI cZ a tx ln nw tr (S_put di nw (79 * nx) 79) (S_inc14 ac) ((nx + 1) % 14) ke ik s1 s2 se sd wo re) := by
  refine ct_ofV (cc := cX2_note) (nL := 2) (own := RX2) (by decide) rfl rfl ⟨rfl, rfl⟩ (Nat.le_of_ble_eq_true rfl) MW_same (fun p e s m below meth c A Q F hR => ?_)
  refine g_aw ([(a 0, .inr (2, [.ref (a 1), .int (nI ln), .ref (a 2), .ref (a 3), .ref (a 4), .int (nI ac), .int (nI nx), .ref (a 5), .ref (a 6), .ref (a 7), .ref (a 8), .int (nI se), .long sd, .ref (a 9), .ref (a 10)])), (a 1, .inl (cI, 60, .inl tx)), (a 2, .inl (cI, 79, .inl nw)), (a 3, .inl (cI, 79, .inl tr)), (a 4, .inl (cI, 1106, .inl di)), (a 5, .inl (cI, 158, .inl ke)), (a 6, .inl (cZ, 2, .inl ik)), (a 7, .inl (cI, 6, .inl s1)), (a 8, .inl (cI, 6, .inl s2)), (a 9, .inl (cI, 64, .inl wo)), (a 10, .inl (cI, 79, .inl re))]) rfl ?_
  refine g_iconst F (v := 0) dX2_note_0 (by decide) ?_
  refine g_istore_n F (lv' := [(0, .ref (a 0)), (1, .int 0)]) dX2_note_1 rfl (by decide) [1, 0] rfl ?_
  refine g_all (w0 := [(a 0, .inr (2, [.ref (a 1), .int (nI ln), .ref (a 2), .ref (a 3), .ref (a 4), .int (nI ac), .int (nI nx), .ref (a 5), .ref (a 6), .ref (a 7), .ref (a 8), .int (nI se), .long sd, .ref (a 9), .ref (a 10)])), (a 1, .inl (cI, 60, .inl tx)), (a 2, .inl (cI, 79, .inl nw)), (a 3, .inl (cI, 79, .inl tr)), (a 4, .inl (cI, 1106, .inl (S_put di nw (79 * nx) 0))), (a 5, .inl (cI, 158, .inl ke)), (a 6, .inl (cZ, 2, .inl ik)), (a 7, .inl (cI, 6, .inl s1)), (a 8, .inl (cI, 6, .inl s2)), (a 9, .inl (cI, 64, .inl wo)), (a 10, .inl (cI, 79, .inl re))]) (lv0 := [(0, .ref (a 0)), (1, .int (nI 0))]) (st0 := []) rfl rfl rfl ?_
  refine g_for 79 (fun i => True) (fun i => [(a 0, .inr (2, [.ref (a 1), .int (nI ln), .ref (a 2), .ref (a 3), .ref (a 4), .int (nI ac), .int (nI nx), .ref (a 5), .ref (a 6), .ref (a 7), .ref (a 8), .int (nI se), .long sd, .ref (a 9), .ref (a 10)])), (a 1, .inl (cI, 60, .inl tx)), (a 2, .inl (cI, 79, .inl nw)), (a 3, .inl (cI, 79, .inl tr)), (a 4, .inl (cI, 1106, .inl (S_put di nw (79 * nx) i))), (a 5, .inl (cI, 158, .inl ke)), (a 6, .inl (cZ, 2, .inl ik)), (a 7, .inl (cI, 6, .inl s1)), (a 8, .inl (cI, 6, .inl s2)), (a 9, .inl (cI, 64, .inl wo)), (a 10, .inl (cI, 79, .inl re))]) (fun i => [(0, .ref (a 0)), (1, .int (nI i))]) (fun i hi hIi ihi => ?_) 0 (Nat.zero_le _) trivial
  refine g_iload_n F dX2_note_2 rfl 1 rfl ?_
  refine g_bipush F (v := 79) dX2_note_3 (by decide) ?_
  refine g_icmp_ge F 34 dX2_note_5 (by decide) (fun c1 => ?_) (fun c1 => ?_)
  · have hx_c1 : 79 = i := lp_ge hi (by decide) c1
    subst hx_c1
    refine g_aload_n F dX2_note_34 rfl 0 rfl ?_
    refine g_aload_n F dX2_note_35 rfl 0 rfl ?_
    refine g_get F (.int (nI nx)) zX2_note_inX2 0 rfl rfl 6 (by decide) rfl zX2_note_f141 dX2_note_36 ?_
    refine g_iconst F (v := 1) dX2_note_39 (by decide) ?_
    refine g_iadd F dX2_note_40 ?_
    refine g_as (nI (nx + 1)) (nI_add nx 1) ?_
    refine g_bipush F (v := 14) dX2_note_41 (by decide) ?_
    refine g_irem F dX2_note_43 (by decide) ?_
    refine g_as (nI ((nx + 1) % 14)) (rem14 (by omega)) ?_
    refine g_put F ([(a 0, .inr (2, [.ref (a 1), .int (nI ln), .ref (a 2), .ref (a 3), .ref (a 4), .int (nI ac), .int (nI ((nx + 1) % 14)), .ref (a 5), .ref (a 6), .ref (a 7), .ref (a 8), .int (nI se), .long sd, .ref (a 9), .ref (a 10)])), (a 1, .inl (cI, 60, .inl tx)), (a 2, .inl (cI, 79, .inl nw)), (a 3, .inl (cI, 79, .inl tr)), (a 4, .inl (cI, 1106, .inl (S_put di nw (79 * nx) 79))), (a 5, .inl (cI, 158, .inl ke)), (a 6, .inl (cZ, 2, .inl ik)), (a 7, .inl (cI, 6, .inl s1)), (a 8, .inl (cI, 6, .inl s2)), (a 9, .inl (cI, 64, .inl wo)), (a 10, .inl (cI, 79, .inl re))]) zX2_note_inX2 tyX2 tyX2_ok nmX2 0 rfl rfl 6 (by decide) rfl rfl rfl (Nat.le_of_ble_eq_true rfl) zX2_note_f141 dX2_note_44 rfl ?_
    refine g_aload_n F dX2_note_47 rfl 0 rfl ?_
    refine g_aload_n F dX2_note_48 rfl 0 rfl ?_
    refine g_get F (.int (nI ac)) zX2_note_inX2 0 rfl rfl 5 (by decide) rfl zX2_note_f132 dX2_note_49 ?_
    refine g_bipush F (v := 14) dX2_note_52 (by decide) ?_
    have hJ3 : Go p l e ({ frames := 0, cells := 0, slots := 0, locals := 0 }) s m (List.toArray [.ref (a 0)]) below meth c Q D A 2 0 0 ([(a 0, .inr (2, [.ref (a 1), .int (nI ln), .ref (a 2), .ref (a 3), .ref (a 4), .int (nI ac), .int (nI ((nx + 1) % 14)), .ref (a 5), .ref (a 6), .ref (a 7), .ref (a 8), .int (nI se), .long sd, .ref (a 9), .ref (a 10)])), (a 1, .inl (cI, 60, .inl tx)), (a 2, .inl (cI, 79, .inl nw)), (a 3, .inl (cI, 79, .inl tr)), (a 4, .inl (cI, 1106, .inl (S_put di nw (79 * nx) 79))), (a 5, .inl (cI, 158, .inl ke)), (a 6, .inl (cZ, 2, .inl ik)), (a 7, .inl (cI, 6, .inl s1)), (a 8, .inl (cI, 6, .inl s2)), (a 9, .inl (cI, 64, .inl wo)), (a 10, .inl (cI, 79, .inl re))]) 68 [(0, .ref (a 0)), (1, .int (nI 79))] [.int (nI (S_inc14 ac)), .ref (a 0)] := by
      refine g_put F ([(a 0, .inr (2, [.ref (a 1), .int (nI ln), .ref (a 2), .ref (a 3), .ref (a 4), .int (nI (S_inc14 ac)), .int (nI ((nx + 1) % 14)), .ref (a 5), .ref (a 6), .ref (a 7), .ref (a 8), .int (nI se), .long sd, .ref (a 9), .ref (a 10)])), (a 1, .inl (cI, 60, .inl tx)), (a 2, .inl (cI, 79, .inl nw)), (a 3, .inl (cI, 79, .inl tr)), (a 4, .inl (cI, 1106, .inl (S_put di nw (79 * nx) 79))), (a 5, .inl (cI, 158, .inl ke)), (a 6, .inl (cZ, 2, .inl ik)), (a 7, .inl (cI, 6, .inl s1)), (a 8, .inl (cI, 6, .inl s2)), (a 9, .inl (cI, 64, .inl wo)), (a 10, .inl (cI, 79, .inl re))]) zX2_note_inX2 tyX2 tyX2_ok nmX2 0 rfl rfl 5 (by decide) rfl rfl rfl (Nat.le_of_ble_eq_true rfl) zX2_note_f132 dX2_note_68 rfl ?_
      exact g_endV (hR _ _ dX2_note_71) rfl
    refine g_icmp_ge F 66 dX2_note_54 (by decide) (fun c2 => ?_) (fun c2 => ?_)
    · refine g_bipush F (v := 14) dX2_note_66 (by decide) ?_
      refine g_as (nI (S_inc14 ac)) (by unfold S_inc14; rw [if_neg (by have := (nI_leI (a := 14) (b := ac) (by decide) (by omega)).mp c2; omega)]; rfl) ?_
      exact hJ3
    · refine g_aload_n F dX2_note_57 rfl 0 rfl ?_
      refine g_get F (.int (nI ac)) zX2_note_inX2 0 rfl rfl 5 (by decide) rfl zX2_note_f132 dX2_note_58 ?_
      refine g_iconst F (v := 1) dX2_note_61 (by decide) ?_
      refine g_iadd F dX2_note_62 ?_
      refine g_as (nI (ac + 1)) (nI_add ac 1) ?_
      refine g_goto F 68 dX2_note_63 (by decide) ?_
      refine g_as (nI (S_inc14 ac)) (by unfold S_inc14; rw [if_pos (lp_lt (N := 14) (by omega) (by decide) c2)]) ?_
      exact hJ3
  · have hlti : i < 79 := lp_lt hi (by decide) c1
    refine g_aload_n F dX2_note_8 rfl 0 rfl ?_
    refine g_get F (.ref (a 4)) zX2_note_inX2 0 rfl rfl 4 (by decide) rfl zX2_note_f19 dX2_note_9 ?_
    refine g_bipush F (v := 79) dX2_note_12 (by decide) ?_
    refine g_aload_n F dX2_note_14 rfl 0 rfl ?_
    refine g_get F (.int (nI nx)) zX2_note_inX2 0 rfl rfl 6 (by decide) rfl zX2_note_f141 dX2_note_15 ?_
    refine g_imul F dX2_note_18 ?_
    refine g_as (nI (79 * nx)) (pk_mul 79 nx) ?_
    refine g_iload_n F dX2_note_19 rfl 1 rfl ?_
    refine g_iadd F dX2_note_20 ?_
    refine g_as (nI (79 * nx + i)) (nI_add (79 * nx) i) ?_
    refine g_aload_n F dX2_note_21 rfl 0 rfl ?_
    refine g_get F (.ref (a 2)) zX2_note_inX2 0 rfl rfl 2 (by decide) rfl zX2_note_f13 dX2_note_22 ?_
    refine g_iload_n F dX2_note_25 rfl 1 rfl ?_
    refine g_iald F (j := i) 2 0 rfl rfl (by omega) (by decide) dX2_note_26 ?_
    refine g_iast F (j := 79 * nx + i) ([(a 0, .inr (2, [.ref (a 1), .int (nI ln), .ref (a 2), .ref (a 3), .ref (a 4), .int (nI ac), .int (nI nx), .ref (a 5), .ref (a 6), .ref (a 7), .ref (a 8), .int (nI se), .long sd, .ref (a 9), .ref (a 10)])), (a 1, .inl (cI, 60, .inl tx)), (a 2, .inl (cI, 79, .inl nw)), (a 3, .inl (cI, 79, .inl tr)), (a 4, .inl (cI, 1106, .inl (upd (S_put di nw (79 * nx) i) (79 * nx + i) (nw i)))), (a 5, .inl (cI, 158, .inl ke)), (a 6, .inl (cZ, 2, .inl ik)), (a 7, .inl (cI, 6, .inl s1)), (a 8, .inl (cI, 6, .inl s2)), (a 9, .inl (cI, 64, .inl wo)), (a 10, .inl (cI, 79, .inl re))]) 4 0 rfl rfl (by omega) (by decide) dX2_note_27 rfl ?_
    refine g_iinc F (lv' := [(0, .ref (a 0)), (1, .int (nI (i + 1)))]) (nI (i + 1)) dX2_note_28 1 rfl (nI_add i 1) (by decide) [1, 0] rfl ?_
    refine g_goto F 2 dX2_note_31 (by decide) ?_
    refine g_all (w0 := [(a 0, .inr (2, [.ref (a 1), .int (nI ln), .ref (a 2), .ref (a 3), .ref (a 4), .int (nI ac), .int (nI nx), .ref (a 5), .ref (a 6), .ref (a 7), .ref (a 8), .int (nI se), .long sd, .ref (a 9), .ref (a 10)])), (a 1, .inl (cI, 60, .inl tx)), (a 2, .inl (cI, 79, .inl nw)), (a 3, .inl (cI, 79, .inl tr)), (a 4, .inl (cI, 1106, .inl (S_put di nw (79 * nx) (i + 1)))), (a 5, .inl (cI, 158, .inl ke)), (a 6, .inl (cZ, 2, .inl ik)), (a 7, .inl (cI, 6, .inl s1)), (a 8, .inl (cI, 6, .inl s2)), (a 9, .inl (cI, 64, .inl wo)), (a 10, .inl (cI, 79, .inl re))]) (lv0 := [(0, .ref (a 0)), (1, .int (nI (i + 1)))]) (st0 := []) (by rw [S_put_s]) rfl rfl ?_
    exact ihi hlti trivial
set_option maxHeartbeats 1000000 in
set_option maxRecDepth 100000 in
theorem kX2_join_bad (l : Launch) (D : va_G) (cI cZ cQ : ClassId) (a : Nat → Nat) (tx : Row) (ln : Nat) (nw tr di : Row) (ac nx : Nat) (ke ik s1 s2 : Row) (se : Nat) (sd : Int64) (wo re : Row) (v : Int32) (hb : S_isM v = false) : Ct l D (gTy cI cZ cQ) yX2_join wsX2_join ({ frames := 7, cells := 0, slots := 0, locals := 200 }) [.ref (a 0), .int v] (MW cI cZ a tx ln nw tr di ac nx ke ik s1 s2 se sd wo re) (some (.int (-1))) (MW cI cZ a tx ln nw tr di ac nx ke ik s1 s2 se sd wo re) := by
  refine ct_ofI (cc := cX2_join) (nL := 2) (own := RX2) (by decide) rfl rfl ⟨rfl, rfl⟩ (Nat.le_of_ble_eq_true rfl) MW_same (fun p e s m below meth c A Q F hR => ?_)
  refine g_aw ([(a 0, .inr (2, [.ref (a 1), .int (nI ln), .ref (a 2), .ref (a 3), .ref (a 4), .int (nI ac), .int (nI nx), .ref (a 5), .ref (a 6), .ref (a 7), .ref (a 8), .int (nI se), .long sd, .ref (a 9), .ref (a 10)])), (a 1, .inl (cI, 60, .inl tx)), (a 2, .inl (cI, 79, .inl nw)), (a 3, .inl (cI, 79, .inl tr)), (a 4, .inl (cI, 1106, .inl di)), (a 5, .inl (cI, 158, .inl ke)), (a 6, .inl (cZ, 2, .inl ik)), (a 7, .inl (cI, 6, .inl s1)), (a 8, .inl (cI, 6, .inl s2)), (a 9, .inl (cI, 64, .inl wo)), (a 10, .inl (cI, 79, .inl re))]) rfl ?_
  refine g_iload_n F dX2_join_0 rfl 1 rfl ?_
  refine g_callSn F (As := [.int v]) (st := []) (kX2_isMember l D cI cZ cQ v) (va_cwS 1 F.2.2.2.2.1 gX2_join_X2_isMember rfl rfl rfl (by decide +kernel) ⟨Nat.le_of_ble_eq_true rfl, Nat.le_of_ble_eq_true rfl⟩) rfl rfl (Nat.le_of_ble_eq_true rfl) ⟨Nat.zero_le _, Nat.zero_le _⟩ dX2_join_1 ?_
  refine g_bne F 9 dX2_join_4 (by decide) (fun c1 => ?_) (fun c1 => ?_)
  · exact absurd c1 (by rw [hb]; decide)
  · refine g_iconst F (v := (-1)) dX2_join_7 (by decide) ?_
    exact g_endI (hR _ _ dX2_join_8) rfl rfl
theorem zX2_join_f13 : Cond.fieldLink RX2 13 (TX2 2).1 (TX2 2).2.1 (TX2 2).2.2.1 ∈ wsX2_join := by decide +kernel
theorem zX2_join_inX2 : ∀ w ∈ u_ws RX2 TX2 15, w ∈ wsX2_join := by decide +kernel
set_option maxHeartbeats 1000000 in
set_option maxRecDepth 100000 in
theorem kX2_join_late (l : Launch) (D : va_G) (cI cZ cQ : ClassId) (a : Nat → Nat) (tx : Row) (ln : Nat) (nw tr di : Row) (ac nx : Nat) (ke ik s1 s2 : Row) (se : Nat) (sd : Int64) (wo re : Row) (k : Nat) (hk : k < 6) (h0 : ¬ nw k = 0) : Ct l D (gTy cI cZ cQ) yX2_join wsX2_join ({ frames := 7, cells := 0, slots := 0, locals := 200 }) [.ref (a 0), .int (nI k)] (MW cI cZ a tx ln nw tr di ac nx ke ik s1 s2 se sd wo re) (some (.int (-3))) (MW cI cZ a tx ln nw tr di ac nx ke ik s1 s2 se sd wo re) := by
  refine ct_ofI (cc := cX2_join) (nL := 2) (own := RX2) (by decide) rfl rfl ⟨rfl, rfl⟩ (Nat.le_of_ble_eq_true rfl) MW_same (fun p e s m below meth c A Q F hR => ?_)
  refine g_aw ([(a 0, .inr (2, [.ref (a 1), .int (nI ln), .ref (a 2), .ref (a 3), .ref (a 4), .int (nI ac), .int (nI nx), .ref (a 5), .ref (a 6), .ref (a 7), .ref (a 8), .int (nI se), .long sd, .ref (a 9), .ref (a 10)])), (a 1, .inl (cI, 60, .inl tx)), (a 2, .inl (cI, 79, .inl nw)), (a 3, .inl (cI, 79, .inl tr)), (a 4, .inl (cI, 1106, .inl di)), (a 5, .inl (cI, 158, .inl ke)), (a 6, .inl (cZ, 2, .inl ik)), (a 7, .inl (cI, 6, .inl s1)), (a 8, .inl (cI, 6, .inl s2)), (a 9, .inl (cI, 64, .inl wo)), (a 10, .inl (cI, 79, .inl re))]) rfl ?_
  refine g_iload_n F dX2_join_0 rfl 1 rfl ?_
  refine g_callSn F (As := [.int (nI k)]) (st := []) (kX2_isMember l D cI cZ cQ (nI k)) (va_cwS 1 F.2.2.2.2.1 gX2_join_X2_isMember rfl rfl rfl (by decide +kernel) ⟨Nat.le_of_ble_eq_true rfl, Nat.le_of_ble_eq_true rfl⟩) rfl rfl (Nat.le_of_ble_eq_true rfl) ⟨Nat.zero_le _, Nat.zero_le _⟩ dX2_join_1 ?_
  refine g_bne F 9 dX2_join_4 (by decide) (fun c1 => ?_) (fun c1 => ?_)
  · refine g_aload_n F dX2_join_9 rfl 0 rfl ?_
    refine g_get F (.ref (a 2)) zX2_join_inX2 0 rfl rfl 2 (by decide) rfl zX2_join_f13 dX2_join_10 ?_
    refine g_iload_n F dX2_join_13 rfl 1 rfl ?_
    refine g_iald F (j := k) 2 0 rfl rfl (by omega) (by decide) dX2_join_14 ?_
    refine g_if_eq F 21 dX2_join_15 (by decide) (fun c2 => ?_) (fun c2 => ?_)
    · exact absurd c2 h0
    · refine g_bipush F (v := (-3)) dX2_join_18 (by decide) ?_
      exact g_endI (hR _ _ dX2_join_20) rfl rfl
  · exact absurd c1 (by rw [isM_nI hk]; decide)
set_option maxHeartbeats 1000000 in
set_option maxRecDepth 100000 in
theorem kX2_join_ok (l : Launch) (D : va_G) (cI cZ cQ : ClassId) (a : Nat → Nat) (tx : Row) (ln : Nat) (nw tr di : Row) (ac nx : Nat) (ke ik s1 s2 : Row) (se : Nat) (sd : Int64) (wo re : Row) (k : Nat) (hk : k < 6) (h0 : nw k = 0) (hz : Z67 nw) (hx : nx < 14) (ha : ac ≤ 14) : Ct l D (gTy cI cZ cQ) yX2_join wsX2_join ({ frames := 7, cells := 0, slots := 0, locals := 200 }) [.ref (a 0), .int (nI k)] (MW cI cZ a tx ln nw tr di ac nx ke ik s1 s2 se sd wo re) (some (.int (S_joins nw k (54 + k)))) (MW cI cZ a tx ln (S_joins nw k) tr (S_put di nw (79 * nx) 79) (S_inc14 ac) ((nx + 1) % 14) ke ik s1 s2 se sd wo re) := by
  refine ct_ofI (cc := cX2_join) (nL := 2) (own := RX2) (by decide) rfl rfl ⟨rfl, rfl⟩ (Nat.le_of_ble_eq_true rfl) MW_same (fun p e s m below meth c A Q F hR => ?_)
  refine g_aw ([(a 0, .inr (2, [.ref (a 1), .int (nI ln), .ref (a 2), .ref (a 3), .ref (a 4), .int (nI ac), .int (nI nx), .ref (a 5), .ref (a 6), .ref (a 7), .ref (a 8), .int (nI se), .long sd, .ref (a 9), .ref (a 10)])), (a 1, .inl (cI, 60, .inl tx)), (a 2, .inl (cI, 79, .inl nw)), (a 3, .inl (cI, 79, .inl tr)), (a 4, .inl (cI, 1106, .inl di)), (a 5, .inl (cI, 158, .inl ke)), (a 6, .inl (cZ, 2, .inl ik)), (a 7, .inl (cI, 6, .inl s1)), (a 8, .inl (cI, 6, .inl s2)), (a 9, .inl (cI, 64, .inl wo)), (a 10, .inl (cI, 79, .inl re))]) rfl ?_
  refine g_iload_n F dX2_join_0 rfl 1 rfl ?_
  refine g_callSn F (As := [.int (nI k)]) (st := []) (kX2_isMember l D cI cZ cQ (nI k)) (va_cwS 1 F.2.2.2.2.1 gX2_join_X2_isMember rfl rfl rfl (by decide +kernel) ⟨Nat.le_of_ble_eq_true rfl, Nat.le_of_ble_eq_true rfl⟩) rfl rfl (Nat.le_of_ble_eq_true rfl) ⟨Nat.zero_le _, Nat.zero_le _⟩ dX2_join_1 ?_
  refine g_bne F 9 dX2_join_4 (by decide) (fun c1 => ?_) (fun c1 => ?_)
  · refine g_aload_n F dX2_join_9 rfl 0 rfl ?_
    refine g_get F (.ref (a 2)) zX2_join_inX2 0 rfl rfl 2 (by decide) rfl zX2_join_f13 dX2_join_10 ?_
    refine g_iload_n F dX2_join_13 rfl 1 rfl ?_
    refine g_iald F (j := k) 2 0 rfl rfl (by omega) (by decide) dX2_join_14 ?_
    refine g_if_eq F 21 dX2_join_15 (by decide) (fun c2 => ?_) (fun c2 => ?_)
    · refine g_aload_n F dX2_join_21 rfl 0 rfl ?_
      refine g_callVs F (As := []) (st := []) (kX2_note l D cI cZ cQ a tx ln nw tr di ac nx ke ik s1 s2 se sd wo re  hx ha) 0 rfl rfl (cwV 0 F.2.2.2.2.1 gX2_join_X2_note rfl rfl rfl (by decide +kernel) ⟨Nat.le_of_ble_eq_true rfl, Nat.le_of_ble_eq_true rfl⟩) rfl rfl (Nat.le_of_ble_eq_true rfl) ⟨Nat.zero_le _, Nat.zero_le _⟩ dX2_join_22 ?_
      refine g_aload_n F dX2_join_25 rfl 0 rfl ?_
      refine g_get F (.ref (a 2)) zX2_join_inX2 0 rfl rfl 2 (by decide) rfl zX2_join_f13 dX2_join_26 ?_
      refine g_iload_n F dX2_join_29 rfl 1 rfl ?_
      refine g_callS F (As := [.ref (a 2), .int (nI k)]) (st := []) ([(a 0, .inr (2, [.ref (a 1), .int (nI ln), .ref (a 2), .ref (a 3), .ref (a 4), .int (nI (S_inc14 ac)), .int (nI ((nx + 1) % 14)), .ref (a 5), .ref (a 6), .ref (a 7), .ref (a 8), .int (nI se), .long sd, .ref (a 9), .ref (a 10)])), (a 1, .inl (cI, 60, .inl tx)), (a 3, .inl (cI, 79, .inl tr)), (a 4, .inl (cI, 1106, .inl (S_put di nw (79 * nx) 79))), (a 5, .inl (cI, 158, .inl ke)), (a 6, .inl (cZ, 2, .inl ik)), (a 7, .inl (cI, 6, .inl s1)), (a 8, .inl (cI, 6, .inl s2)), (a 9, .inl (cI, 64, .inl wo)), (a 10, .inl (cI, 79, .inl re))]) ([(a 0, .inr (2, [.ref (a 1), .int (nI ln), .ref (a 2), .ref (a 3), .ref (a 4), .int (nI (S_inc14 ac)), .int (nI ((nx + 1) % 14)), .ref (a 5), .ref (a 6), .ref (a 7), .ref (a 8), .int (nI se), .long sd, .ref (a 9), .ref (a 10)])), (a 1, .inl (cI, 60, .inl tx)), (a 2, .inl (cI, 79, .inl (S_joins nw k))), (a 3, .inl (cI, 79, .inl tr)), (a 4, .inl (cI, 1106, .inl (S_put di nw (79 * nx) 79))), (a 5, .inl (cI, 158, .inl ke)), (a 6, .inl (cZ, 2, .inl ik)), (a 7, .inl (cI, 6, .inl s1)), (a 8, .inl (cI, 6, .inl s2)), (a 9, .inl (cI, 64, .inl wo)), (a 10, .inl (cI, 79, .inl re))]) [2] [0, 1, 3, 4, 5, 6, 7, 8, 9, 10] [0, 1, 10, 2, 3, 4, 5, 6, 7, 8, 9] (kX2_joins l D cI cZ cQ (a 2) nw k (by omega) hz) (va_cwS 2 F.2.2.2.2.1 gX2_join_X2_joins rfl rfl rfl (by decide +kernel) ⟨Nat.le_of_ble_eq_true rfl, Nat.le_of_ble_eq_true rfl⟩) rfl rfl rfl rfl (by decide) (by decide) (by decide) rfl (by decide) (Nat.le_of_ble_eq_true rfl) ⟨Nat.zero_le _, Nat.zero_le _⟩ dX2_join_30 ?_
      refine g_aload_n F dX2_join_33 rfl 0 rfl ?_
      refine g_get F (.ref (a 2)) zX2_join_inX2 0 rfl rfl 2 (by decide) rfl zX2_join_f13 dX2_join_34 ?_
      refine g_bipush F (v := 54) dX2_join_37 (by decide) ?_
      refine g_iload_n F dX2_join_39 rfl 1 rfl ?_
      refine g_iadd F dX2_join_40 ?_
      refine g_as (nI (54 + k)) (nI_add 54 k) ?_
      refine g_iald F (j := 54 + k) 2 0 rfl rfl (by omega) (by decide) dX2_join_41 ?_
      exact g_endI (hR _ _ dX2_join_42) rfl rfl
    · exact absurd h0 c2
  · exact absurd c1 (by rw [isM_nI hk]; decide)
set_option maxHeartbeats 1000000 in
set_option maxRecDepth 100000 in
theorem kX2_leave_bad (l : Launch) (D : va_G) (cI cZ cQ : ClassId) (a : Nat → Nat) (tx : Row) (ln : Nat) (nw tr di : Row) (ac nx : Nat) (ke ik s1 s2 : Row) (se : Nat) (sd : Int64) (wo re : Row) (v : Int32) (hb : S_isM v = false) : Ct l D (gTy cI cZ cQ) yX2_leave wsX2_leave ({ frames := 7, cells := 0, slots := 0, locals := 200 }) [.ref (a 0), .int v] (MW cI cZ a tx ln nw tr di ac nx ke ik s1 s2 se sd wo re) (some (.int (-1))) (MW cI cZ a tx ln nw tr di ac nx ke ik s1 s2 se sd wo re) := by
  refine ct_ofI (cc := cX2_leave) (nL := 2) (own := RX2) (by decide) rfl rfl ⟨rfl, rfl⟩ (Nat.le_of_ble_eq_true rfl) MW_same (fun p e s m below meth c A Q F hR => ?_)
  refine g_aw ([(a 0, .inr (2, [.ref (a 1), .int (nI ln), .ref (a 2), .ref (a 3), .ref (a 4), .int (nI ac), .int (nI nx), .ref (a 5), .ref (a 6), .ref (a 7), .ref (a 8), .int (nI se), .long sd, .ref (a 9), .ref (a 10)])), (a 1, .inl (cI, 60, .inl tx)), (a 2, .inl (cI, 79, .inl nw)), (a 3, .inl (cI, 79, .inl tr)), (a 4, .inl (cI, 1106, .inl di)), (a 5, .inl (cI, 158, .inl ke)), (a 6, .inl (cZ, 2, .inl ik)), (a 7, .inl (cI, 6, .inl s1)), (a 8, .inl (cI, 6, .inl s2)), (a 9, .inl (cI, 64, .inl wo)), (a 10, .inl (cI, 79, .inl re))]) rfl ?_
  refine g_iload_n F dX2_leave_0 rfl 1 rfl ?_
  refine g_callSn F (As := [.int v]) (st := []) (kX2_isMember l D cI cZ cQ v) (va_cwS 1 F.2.2.2.2.1 gX2_leave_X2_isMember rfl rfl rfl (by decide +kernel) ⟨Nat.le_of_ble_eq_true rfl, Nat.le_of_ble_eq_true rfl⟩) rfl rfl (Nat.le_of_ble_eq_true rfl) ⟨Nat.zero_le _, Nat.zero_le _⟩ dX2_leave_1 ?_
  refine g_bne F 9 dX2_leave_4 (by decide) (fun c1 => ?_) (fun c1 => ?_)
  · exact absurd c1 (by rw [hb]; decide)
  · refine g_iconst F (v := (-1)) dX2_leave_7 (by decide) ?_
    exact g_endI (hR _ _ dX2_leave_8) rfl rfl
theorem zX2_leave_f13 : Cond.fieldLink RX2 13 (TX2 2).1 (TX2 2).2.1 (TX2 2).2.2.1 ∈ wsX2_leave := by decide +kernel
theorem zX2_leave_inX2 : ∀ w ∈ u_ws RX2 TX2 15, w ∈ wsX2_leave := by decide +kernel
set_option maxHeartbeats 1000000 in
set_option maxRecDepth 100000 in
theorem kX2_leave_late (l : Launch) (D : va_G) (cI cZ cQ : ClassId) (a : Nat → Nat) (tx : Row) (ln : Nat) (nw tr di : Row) (ac nx : Nat) (ke ik s1 s2 : Row) (se : Nat) (sd : Int64) (wo re : Row) (k : Nat) (hk : k < 6) (h1 : ¬ nw k = 1) : Ct l D (gTy cI cZ cQ) yX2_leave wsX2_leave ({ frames := 7, cells := 0, slots := 0, locals := 200 }) [.ref (a 0), .int (nI k)] (MW cI cZ a tx ln nw tr di ac nx ke ik s1 s2 se sd wo re) (some (.int (-3))) (MW cI cZ a tx ln nw tr di ac nx ke ik s1 s2 se sd wo re) := by
  refine ct_ofI (cc := cX2_leave) (nL := 2) (own := RX2) (by decide) rfl rfl ⟨rfl, rfl⟩ (Nat.le_of_ble_eq_true rfl) MW_same (fun p e s m below meth c A Q F hR => ?_)
  refine g_aw ([(a 0, .inr (2, [.ref (a 1), .int (nI ln), .ref (a 2), .ref (a 3), .ref (a 4), .int (nI ac), .int (nI nx), .ref (a 5), .ref (a 6), .ref (a 7), .ref (a 8), .int (nI se), .long sd, .ref (a 9), .ref (a 10)])), (a 1, .inl (cI, 60, .inl tx)), (a 2, .inl (cI, 79, .inl nw)), (a 3, .inl (cI, 79, .inl tr)), (a 4, .inl (cI, 1106, .inl di)), (a 5, .inl (cI, 158, .inl ke)), (a 6, .inl (cZ, 2, .inl ik)), (a 7, .inl (cI, 6, .inl s1)), (a 8, .inl (cI, 6, .inl s2)), (a 9, .inl (cI, 64, .inl wo)), (a 10, .inl (cI, 79, .inl re))]) rfl ?_
  refine g_iload_n F dX2_leave_0 rfl 1 rfl ?_
  refine g_callSn F (As := [.int (nI k)]) (st := []) (kX2_isMember l D cI cZ cQ (nI k)) (va_cwS 1 F.2.2.2.2.1 gX2_leave_X2_isMember rfl rfl rfl (by decide +kernel) ⟨Nat.le_of_ble_eq_true rfl, Nat.le_of_ble_eq_true rfl⟩) rfl rfl (Nat.le_of_ble_eq_true rfl) ⟨Nat.zero_le _, Nat.zero_le _⟩ dX2_leave_1 ?_
  refine g_bne F 9 dX2_leave_4 (by decide) (fun c1 => ?_) (fun c1 => ?_)
  · refine g_aload_n F dX2_leave_9 rfl 0 rfl ?_
    refine g_get F (.ref (a 2)) zX2_leave_inX2 0 rfl rfl 2 (by decide) rfl zX2_leave_f13 dX2_leave_10 ?_
    refine g_iload_n F dX2_leave_13 rfl 1 rfl ?_
    refine g_iald F (j := k) 2 0 rfl rfl (by omega) (by decide) dX2_leave_14 ?_
    refine g_iconst F (v := 1) dX2_leave_15 (by decide) ?_
    refine g_icmp_eq F 22 dX2_leave_16 (by decide) (fun c2 => ?_) (fun c2 => ?_)
    · exact absurd c2 h1
    · refine g_bipush F (v := (-3)) dX2_leave_19 (by decide) ?_
      exact g_endI (hR _ _ dX2_leave_21) rfl rfl
  · exact absurd c1 (by rw [isM_nI hk]; decide)
set_option maxHeartbeats 1000000 in
set_option maxRecDepth 100000 in
theorem kX2_leave_ok (l : Launch) (D : va_G) (cI cZ cQ : ClassId) (a : Nat → Nat) (tx : Row) (ln : Nat) (nw tr di : Row) (ac nx : Nat) (ke ik s1 s2 : Row) (se : Nat) (sd : Int64) (wo re : Row) (k : Nat) (hk : k < 6) (h1 : nw k = 1) (hz : Z67 nw) (hx : nx < 14) (ha : ac ≤ 14) : Ct l D (gTy cI cZ cQ) yX2_leave wsX2_leave ({ frames := 7, cells := 0, slots := 0, locals := 200 }) [.ref (a 0), .int (nI k)] (MW cI cZ a tx ln nw tr di ac nx ke ik s1 s2 se sd wo re) (some (.int (S_leaves nw k (54 + k)))) (MW cI cZ a tx ln (S_leaves nw k) tr (S_put di nw (79 * nx) 79) (S_inc14 ac) ((nx + 1) % 14) ke ik s1 s2 se sd wo re) := by
  refine ct_ofI (cc := cX2_leave) (nL := 2) (own := RX2) (by decide) rfl rfl ⟨rfl, rfl⟩ (Nat.le_of_ble_eq_true rfl) MW_same (fun p e s m below meth c A Q F hR => ?_)
  refine g_aw ([(a 0, .inr (2, [.ref (a 1), .int (nI ln), .ref (a 2), .ref (a 3), .ref (a 4), .int (nI ac), .int (nI nx), .ref (a 5), .ref (a 6), .ref (a 7), .ref (a 8), .int (nI se), .long sd, .ref (a 9), .ref (a 10)])), (a 1, .inl (cI, 60, .inl tx)), (a 2, .inl (cI, 79, .inl nw)), (a 3, .inl (cI, 79, .inl tr)), (a 4, .inl (cI, 1106, .inl di)), (a 5, .inl (cI, 158, .inl ke)), (a 6, .inl (cZ, 2, .inl ik)), (a 7, .inl (cI, 6, .inl s1)), (a 8, .inl (cI, 6, .inl s2)), (a 9, .inl (cI, 64, .inl wo)), (a 10, .inl (cI, 79, .inl re))]) rfl ?_
  refine g_iload_n F dX2_leave_0 rfl 1 rfl ?_
  refine g_callSn F (As := [.int (nI k)]) (st := []) (kX2_isMember l D cI cZ cQ (nI k)) (va_cwS 1 F.2.2.2.2.1 gX2_leave_X2_isMember rfl rfl rfl (by decide +kernel) ⟨Nat.le_of_ble_eq_true rfl, Nat.le_of_ble_eq_true rfl⟩) rfl rfl (Nat.le_of_ble_eq_true rfl) ⟨Nat.zero_le _, Nat.zero_le _⟩ dX2_leave_1 ?_
  refine g_bne F 9 dX2_leave_4 (by decide) (fun c1 => ?_) (fun c1 => ?_)
  · refine g_aload_n F dX2_leave_9 rfl 0 rfl ?_
    refine g_get F (.ref (a 2)) zX2_leave_inX2 0 rfl rfl 2 (by decide) rfl zX2_leave_f13 dX2_leave_10 ?_
    refine g_iload_n F dX2_leave_13 rfl 1 rfl ?_
    refine g_iald F (j := k) 2 0 rfl rfl (by omega) (by decide) dX2_leave_14 ?_
    refine g_iconst F (v := 1) dX2_leave_15 (by decide) ?_
    refine g_icmp_eq F 22 dX2_leave_16 (by decide) (fun c2 => ?_) (fun c2 => ?_)
    · refine g_aload_n F dX2_leave_22 rfl 0 rfl ?_
      refine g_callVs F (As := []) (st := []) (kX2_note l D cI cZ cQ a tx ln nw tr di ac nx ke ik s1 s2 se sd wo re  hx ha) 0 rfl rfl (cwV 0 F.2.2.2.2.1 gX2_leave_X2_note rfl rfl rfl (by decide +kernel) ⟨Nat.le_of_ble_eq_true rfl, Nat.le_of_ble_eq_true rfl⟩) rfl rfl (Nat.le_of_ble_eq_true rfl) ⟨Nat.zero_le _, Nat.zero_le _⟩ dX2_leave_23 ?_
      refine g_aload_n F dX2_leave_26 rfl 0 rfl ?_
      refine g_get F (.ref (a 2)) zX2_leave_inX2 0 rfl rfl 2 (by decide) rfl zX2_leave_f13 dX2_leave_27 ?_
      refine g_iload_n F dX2_leave_30 rfl 1 rfl ?_
      refine g_callS F (As := [.ref (a 2), .int (nI k)]) (st := []) ([(a 0, .inr (2, [.ref (a 1), .int (nI ln), .ref (a 2), .ref (a 3), .ref (a 4), .int (nI (S_inc14 ac)), .int (nI ((nx + 1) % 14)), .ref (a 5), .ref (a 6), .ref (a 7), .ref (a 8), .int (nI se), .long sd, .ref (a 9), .ref (a 10)])), (a 1, .inl (cI, 60, .inl tx)), (a 3, .inl (cI, 79, .inl tr)), (a 4, .inl (cI, 1106, .inl (S_put di nw (79 * nx) 79))), (a 5, .inl (cI, 158, .inl ke)), (a 6, .inl (cZ, 2, .inl ik)), (a 7, .inl (cI, 6, .inl s1)), (a 8, .inl (cI, 6, .inl s2)), (a 9, .inl (cI, 64, .inl wo)), (a 10, .inl (cI, 79, .inl re))]) ([(a 0, .inr (2, [.ref (a 1), .int (nI ln), .ref (a 2), .ref (a 3), .ref (a 4), .int (nI (S_inc14 ac)), .int (nI ((nx + 1) % 14)), .ref (a 5), .ref (a 6), .ref (a 7), .ref (a 8), .int (nI se), .long sd, .ref (a 9), .ref (a 10)])), (a 1, .inl (cI, 60, .inl tx)), (a 2, .inl (cI, 79, .inl (S_leaves nw k))), (a 3, .inl (cI, 79, .inl tr)), (a 4, .inl (cI, 1106, .inl (S_put di nw (79 * nx) 79))), (a 5, .inl (cI, 158, .inl ke)), (a 6, .inl (cZ, 2, .inl ik)), (a 7, .inl (cI, 6, .inl s1)), (a 8, .inl (cI, 6, .inl s2)), (a 9, .inl (cI, 64, .inl wo)), (a 10, .inl (cI, 79, .inl re))]) [2] [0, 1, 3, 4, 5, 6, 7, 8, 9, 10] [0, 1, 10, 2, 3, 4, 5, 6, 7, 8, 9] (kX2_leaves l D cI cZ cQ (a 2) nw k (by omega) hz) (va_cwS 2 F.2.2.2.2.1 gX2_leave_X2_leaves rfl rfl rfl (by decide +kernel) ⟨Nat.le_of_ble_eq_true rfl, Nat.le_of_ble_eq_true rfl⟩) rfl rfl rfl rfl (by decide) (by decide) (by decide) rfl (by decide) (Nat.le_of_ble_eq_true rfl) ⟨Nat.zero_le _, Nat.zero_le _⟩ dX2_leave_31 ?_
      refine g_aload_n F dX2_leave_34 rfl 0 rfl ?_
      refine g_get F (.ref (a 2)) zX2_leave_inX2 0 rfl rfl 2 (by decide) rfl zX2_leave_f13 dX2_leave_35 ?_
      refine g_bipush F (v := 54) dX2_leave_38 (by decide) ?_
      refine g_iload_n F dX2_leave_40 rfl 1 rfl ?_
      refine g_iadd F dX2_leave_41 ?_
      refine g_as (nI (54 + k)) (nI_add 54 k) ?_
      refine g_iald F (j := 54 + k) 2 0 rfl rfl (by omega) (by decide) dX2_leave_42 ?_
      exact g_endI (hR _ _ dX2_leave_43) rfl rfl
    · exact absurd h1 c2
  · exact absurd c1 (by rw [isM_nI hk]; decide)
theorem zX2_pass_c147 : Cond.constantLong RX2 147 (30) ∈ wsX2_pass := by decide +kernel
set_option maxHeartbeats 1000000 in
set_option maxRecDepth 100000 in
theorem kX2_pass_bad (l : Launch) (D : va_G) (cI cZ cQ : ClassId) (a : Nat → Nat) (tx : Row) (ln : Nat) (nw tr di : Row) (ac nx : Nat) (ke ik s1 s2 : Row) (se : Nat) (sd : Int64) (wo re : Row) (v : Int32) (hb : S_in (Int32.toInt64 v) 1 30 = false) : Ct l D (gTy cI cZ cQ) yX2_pass wsX2_pass ({ frames := 7, cells := 0, slots := 0, locals := 200 }) [.ref (a 0), .int v] (MW cI cZ a tx ln nw tr di ac nx ke ik s1 s2 se sd wo re) (some (.int (-2))) (MW cI cZ a tx ln nw tr di ac nx ke ik s1 s2 se sd wo re) := by
  refine ct_ofI (cc := cX2_pass) (nL := 2) (own := RX2) (by decide) rfl rfl ⟨rfl, rfl⟩ (Nat.le_of_ble_eq_true rfl) MW_same (fun p e s m below meth c A Q F hR => ?_)
  refine g_aw ([(a 0, .inr (2, [.ref (a 1), .int (nI ln), .ref (a 2), .ref (a 3), .ref (a 4), .int (nI ac), .int (nI nx), .ref (a 5), .ref (a 6), .ref (a 7), .ref (a 8), .int (nI se), .long sd, .ref (a 9), .ref (a 10)])), (a 1, .inl (cI, 60, .inl tx)), (a 2, .inl (cI, 79, .inl nw)), (a 3, .inl (cI, 79, .inl tr)), (a 4, .inl (cI, 1106, .inl di)), (a 5, .inl (cI, 158, .inl ke)), (a 6, .inl (cZ, 2, .inl ik)), (a 7, .inl (cI, 6, .inl s1)), (a 8, .inl (cI, 6, .inl s2)), (a 9, .inl (cI, 64, .inl wo)), (a 10, .inl (cI, 79, .inl re))]) rfl ?_
  refine g_iload_n F dX2_pass_0 rfl 1 rfl ?_
  refine g_i2l F dX2_pass_1 ?_
  refine g_lconst F (v := 1) dX2_pass_2 (by decide) ?_
  refine g_ldc2 F zX2_pass_c147 dX2_pass_3 ?_
  refine g_callSn F (As := [.long (Int32.toInt64 v), .long 1, .long 30]) (st := []) (kX2_in l D cI cZ cQ (Int32.toInt64 v) 1 30) (va_cwS 3 F.2.2.2.2.1 gX2_pass_X2_in rfl rfl rfl (by decide +kernel) ⟨Nat.le_of_ble_eq_true rfl, Nat.le_of_ble_eq_true rfl⟩) rfl rfl (Nat.le_of_ble_eq_true rfl) ⟨Nat.zero_le _, Nat.zero_le _⟩ dX2_pass_6 ?_
  refine g_bne F 15 dX2_pass_9 (by decide) (fun c1 => ?_) (fun c1 => ?_)
  · exact absurd c1 (by rw [hb]; decide)
  · refine g_bipush F (v := (-2)) dX2_pass_12 (by decide) ?_
    exact g_endI (hR _ _ dX2_pass_14) rfl rfl
theorem zX2_pass_f13 : Cond.fieldLink RX2 13 (TX2 2).1 (TX2 2).2.1 (TX2 2).2.2.1 ∈ wsX2_pass := by decide +kernel
theorem zX2_pass_inX2 : ∀ w ∈ u_ws RX2 TX2 15, w ∈ wsX2_pass := by decide +kernel
set_option maxHeartbeats 1000000 in
set_option maxRecDepth 100000 in
theorem kX2_pass_ok (l : Launch) (D : va_G) (cI cZ cQ : ClassId) (a : Nat → Nat) (tx : Row) (ln : Nat) (nw tr di : Row) (ac nx : Nat) (ke ik s1 s2 : Row) (se : Nat) (sd : Int64) (wo re : Row) (n : Nat) (hb : S_in (Int32.toInt64 (nI n)) 1 30 = true) (hn : n < 2 ^ 31) (hz : Z67 nw) (hx : nx < 14) (ha : ac ≤ 14) : Ct l D (gTy cI cZ cQ) yX2_pass wsX2_pass ({ frames := 7, cells := 0, slots := 0, locals := 200 }) [.ref (a 0), .int (nI n)] (MW cI cZ a tx ln nw tr di ac nx ke ik s1 s2 se sd wo re) (some (.int (S_pass nw n))) (MW cI cZ a tx ln (S_ticks nw n) tr (S_put di nw (79 * nx) 79) (S_inc14 ac) ((nx + 1) % 14) ke ik s1 s2 se sd wo re) := by
  refine ct_ofI (cc := cX2_pass) (nL := 2) (own := RX2) (by decide) rfl rfl ⟨rfl, rfl⟩ (Nat.le_of_ble_eq_true rfl) MW_same (fun p e s m below meth c A Q F hR => ?_)
  refine g_aw ([(a 0, .inr (2, [.ref (a 1), .int (nI ln), .ref (a 2), .ref (a 3), .ref (a 4), .int (nI ac), .int (nI nx), .ref (a 5), .ref (a 6), .ref (a 7), .ref (a 8), .int (nI se), .long sd, .ref (a 9), .ref (a 10)])), (a 1, .inl (cI, 60, .inl tx)), (a 2, .inl (cI, 79, .inl nw)), (a 3, .inl (cI, 79, .inl tr)), (a 4, .inl (cI, 1106, .inl di)), (a 5, .inl (cI, 158, .inl ke)), (a 6, .inl (cZ, 2, .inl ik)), (a 7, .inl (cI, 6, .inl s1)), (a 8, .inl (cI, 6, .inl s2)), (a 9, .inl (cI, 64, .inl wo)), (a 10, .inl (cI, 79, .inl re))]) rfl ?_
  refine g_iload_n F dX2_pass_0 rfl 1 rfl ?_
  refine g_i2l F dX2_pass_1 ?_
  refine g_lconst F (v := 1) dX2_pass_2 (by decide) ?_
  refine g_ldc2 F zX2_pass_c147 dX2_pass_3 ?_
  refine g_callSn F (As := [.long (Int32.toInt64 (nI n)), .long 1, .long 30]) (st := []) (kX2_in l D cI cZ cQ (Int32.toInt64 (nI n)) 1 30) (va_cwS 3 F.2.2.2.2.1 gX2_pass_X2_in rfl rfl rfl (by decide +kernel) ⟨Nat.le_of_ble_eq_true rfl, Nat.le_of_ble_eq_true rfl⟩) rfl rfl (Nat.le_of_ble_eq_true rfl) ⟨Nat.zero_le _, Nat.zero_le _⟩ dX2_pass_6 ?_
  refine g_bne F 15 dX2_pass_9 (by decide) (fun c1 => ?_) (fun c1 => ?_)
  · refine g_aload_n F dX2_pass_15 rfl 0 rfl ?_
    refine g_callVs F (As := []) (st := []) (kX2_note l D cI cZ cQ a tx ln nw tr di ac nx ke ik s1 s2 se sd wo re  hx ha) 0 rfl rfl (cwV 0 F.2.2.2.2.1 gX2_pass_X2_note rfl rfl rfl (by decide +kernel) ⟨Nat.le_of_ble_eq_true rfl, Nat.le_of_ble_eq_true rfl⟩) rfl rfl (Nat.le_of_ble_eq_true rfl) ⟨Nat.zero_le _, Nat.zero_le _⟩ dX2_pass_16 ?_
    refine g_aload_n F dX2_pass_19 rfl 0 rfl ?_
    refine g_get F (.ref (a 2)) zX2_pass_inX2 0 rfl rfl 2 (by decide) rfl zX2_pass_f13 dX2_pass_20 ?_
    refine g_iload_n F dX2_pass_23 rfl 1 rfl ?_
    refine g_callS F (As := [.ref (a 2), .int (nI n)]) (st := []) ([(a 0, .inr (2, [.ref (a 1), .int (nI ln), .ref (a 2), .ref (a 3), .ref (a 4), .int (nI (S_inc14 ac)), .int (nI ((nx + 1) % 14)), .ref (a 5), .ref (a 6), .ref (a 7), .ref (a 8), .int (nI se), .long sd, .ref (a 9), .ref (a 10)])), (a 1, .inl (cI, 60, .inl tx)), (a 3, .inl (cI, 79, .inl tr)), (a 4, .inl (cI, 1106, .inl (S_put di nw (79 * nx) 79))), (a 5, .inl (cI, 158, .inl ke)), (a 6, .inl (cZ, 2, .inl ik)), (a 7, .inl (cI, 6, .inl s1)), (a 8, .inl (cI, 6, .inl s2)), (a 9, .inl (cI, 64, .inl wo)), (a 10, .inl (cI, 79, .inl re))]) ([(a 0, .inr (2, [.ref (a 1), .int (nI ln), .ref (a 2), .ref (a 3), .ref (a 4), .int (nI (S_inc14 ac)), .int (nI ((nx + 1) % 14)), .ref (a 5), .ref (a 6), .ref (a 7), .ref (a 8), .int (nI se), .long sd, .ref (a 9), .ref (a 10)])), (a 1, .inl (cI, 60, .inl tx)), (a 2, .inl (cI, 79, .inl (S_ticks nw n))), (a 3, .inl (cI, 79, .inl tr)), (a 4, .inl (cI, 1106, .inl (S_put di nw (79 * nx) 79))), (a 5, .inl (cI, 158, .inl ke)), (a 6, .inl (cZ, 2, .inl ik)), (a 7, .inl (cI, 6, .inl s1)), (a 8, .inl (cI, 6, .inl s2)), (a 9, .inl (cI, 64, .inl wo)), (a 10, .inl (cI, 79, .inl re))]) [2] [0, 1, 3, 4, 5, 6, 7, 8, 9, 10] [0, 1, 10, 2, 3, 4, 5, 6, 7, 8, 9] (kX2_passOn l D cI cZ cQ (a 2) nw n (by omega) hz) (va_cwS 2 F.2.2.2.2.1 gX2_pass_X2_passOn rfl rfl rfl (by decide +kernel) ⟨Nat.le_of_ble_eq_true rfl, Nat.le_of_ble_eq_true rfl⟩) rfl rfl rfl rfl (by decide) (by decide) (by decide) rfl (by decide) (Nat.le_of_ble_eq_true rfl) ⟨Nat.zero_le _, Nat.zero_le _⟩ dX2_pass_24 ?_
    exact g_endI (hR _ _ dX2_pass_27) rfl rfl
  · exact absurd c1 (by rw [hb]; decide)
set_option maxHeartbeats 1000000 in
set_option maxRecDepth 100000 in
theorem kX2_turn_bad (l : Launch) (D : va_G) (cI cZ cQ : ClassId) (a : Nat → Nat) (tx : Row) (ln : Nat) (nw tr di : Row) (ac nx : Nat) (ke ik s1 s2 : Row) (se : Nat) (sd : Int64) (wo re : Row) (v u : Int32) (hb : S_isM v = false ∨ S_isM u = false) : Ct l D (gTy cI cZ cQ) yX2_turn wsX2_turn ({ frames := 7, cells := 0, slots := 0, locals := 200 }) [.ref (a 0), .int v, .int u] (MW cI cZ a tx ln nw tr di ac nx ke ik s1 s2 se sd wo re) (some (.int (-1))) (MW cI cZ a tx ln nw tr di ac nx ke ik s1 s2 se sd wo re) := by
  refine ct_ofI (cc := cX2_turn) (nL := 3) (own := RX2) (by decide) rfl rfl ⟨rfl, rfl⟩ (Nat.le_of_ble_eq_true rfl) MW_same (fun p e s m below meth c A Q F hR => ?_)
  refine g_aw ([(a 0, .inr (2, [.ref (a 1), .int (nI ln), .ref (a 2), .ref (a 3), .ref (a 4), .int (nI ac), .int (nI nx), .ref (a 5), .ref (a 6), .ref (a 7), .ref (a 8), .int (nI se), .long sd, .ref (a 9), .ref (a 10)])), (a 1, .inl (cI, 60, .inl tx)), (a 2, .inl (cI, 79, .inl nw)), (a 3, .inl (cI, 79, .inl tr)), (a 4, .inl (cI, 1106, .inl di)), (a 5, .inl (cI, 158, .inl ke)), (a 6, .inl (cZ, 2, .inl ik)), (a 7, .inl (cI, 6, .inl s1)), (a 8, .inl (cI, 6, .inl s2)), (a 9, .inl (cI, 64, .inl wo)), (a 10, .inl (cI, 79, .inl re))]) rfl ?_
  refine g_iload_n F dX2_turn_0 rfl 1 rfl ?_
  refine g_callSn F (As := [.int v]) (st := []) (kX2_isMember l D cI cZ cQ v) (va_cwS 1 F.2.2.2.2.1 gX2_turn_X2_isMember rfl rfl rfl (by decide +kernel) ⟨Nat.le_of_ble_eq_true rfl, Nat.le_of_ble_eq_true rfl⟩) rfl rfl (Nat.le_of_ble_eq_true rfl) ⟨Nat.zero_le _, Nat.zero_le _⟩ dX2_turn_1 ?_
  refine g_beq F 14 dX2_turn_4 (by decide) (fun c1 => ?_) (fun c1 => ?_)
  · refine g_iconst F (v := (-1)) dX2_turn_14 (by decide) ?_
    exact g_endI (hR _ _ dX2_turn_15) rfl rfl
  · refine g_iload_n F dX2_turn_7 rfl 2 rfl ?_
    refine g_callSn F (As := [.int u]) (st := []) (kX2_isMember l D cI cZ cQ u) (va_cwS 1 F.2.2.2.2.1 gX2_turn_X2_isMember rfl rfl rfl (by decide +kernel) ⟨Nat.le_of_ble_eq_true rfl, Nat.le_of_ble_eq_true rfl⟩) rfl rfl (Nat.le_of_ble_eq_true rfl) ⟨Nat.zero_le _, Nat.zero_le _⟩ dX2_turn_8 ?_
    refine g_bne F 16 dX2_turn_11 (by decide) (fun c2 => ?_) (fun c2 => ?_)
    · exact absurd hb (by rw [c1, c2]; decide)
    · refine g_iconst F (v := (-1)) dX2_turn_14 (by decide) ?_
      exact g_endI (hR _ _ dX2_turn_15) rfl rfl
set_option maxHeartbeats 1000000 in
set_option maxRecDepth 100000 in
theorem kX2_turn_same (l : Launch) (D : va_G) (cI cZ cQ : ClassId) (a : Nat → Nat) (tx : Row) (ln : Nat) (nw tr di : Row) (ac nx : Nat) (ke ik s1 s2 : Row) (se : Nat) (sd : Int64) (wo re : Row) (k : Nat) (hk : k < 6) : Ct l D (gTy cI cZ cQ) yX2_turn wsX2_turn ({ frames := 7, cells := 0, slots := 0, locals := 200 }) [.ref (a 0), .int (nI k), .int (nI k)] (MW cI cZ a tx ln nw tr di ac nx ke ik s1 s2 se sd wo re) (some (.int (-2))) (MW cI cZ a tx ln nw tr di ac nx ke ik s1 s2 se sd wo re) := by
  refine ct_ofI (cc := cX2_turn) (nL := 3) (own := RX2) (by decide) rfl rfl ⟨rfl, rfl⟩ (Nat.le_of_ble_eq_true rfl) MW_same (fun p e s m below meth c A Q F hR => ?_)
  refine g_aw ([(a 0, .inr (2, [.ref (a 1), .int (nI ln), .ref (a 2), .ref (a 3), .ref (a 4), .int (nI ac), .int (nI nx), .ref (a 5), .ref (a 6), .ref (a 7), .ref (a 8), .int (nI se), .long sd, .ref (a 9), .ref (a 10)])), (a 1, .inl (cI, 60, .inl tx)), (a 2, .inl (cI, 79, .inl nw)), (a 3, .inl (cI, 79, .inl tr)), (a 4, .inl (cI, 1106, .inl di)), (a 5, .inl (cI, 158, .inl ke)), (a 6, .inl (cZ, 2, .inl ik)), (a 7, .inl (cI, 6, .inl s1)), (a 8, .inl (cI, 6, .inl s2)), (a 9, .inl (cI, 64, .inl wo)), (a 10, .inl (cI, 79, .inl re))]) rfl ?_
  refine g_iload_n F dX2_turn_0 rfl 1 rfl ?_
  refine g_callSn F (As := [.int (nI k)]) (st := []) (kX2_isMember l D cI cZ cQ (nI k)) (va_cwS 1 F.2.2.2.2.1 gX2_turn_X2_isMember rfl rfl rfl (by decide +kernel) ⟨Nat.le_of_ble_eq_true rfl, Nat.le_of_ble_eq_true rfl⟩) rfl rfl (Nat.le_of_ble_eq_true rfl) ⟨Nat.zero_le _, Nat.zero_le _⟩ dX2_turn_1 ?_
  refine g_beq F 14 dX2_turn_4 (by decide) (fun c1 => ?_) (fun c1 => ?_)
  · exact absurd c1 (by rw [isM_nI hk]; decide)
  · refine g_iload_n F dX2_turn_7 rfl 2 rfl ?_
    refine g_callSn F (As := [.int (nI k)]) (st := []) (kX2_isMember l D cI cZ cQ (nI k)) (va_cwS 1 F.2.2.2.2.1 gX2_turn_X2_isMember rfl rfl rfl (by decide +kernel) ⟨Nat.le_of_ble_eq_true rfl, Nat.le_of_ble_eq_true rfl⟩) rfl rfl (Nat.le_of_ble_eq_true rfl) ⟨Nat.zero_le _, Nat.zero_le _⟩ dX2_turn_8 ?_
    refine g_bne F 16 dX2_turn_11 (by decide) (fun c2 => ?_) (fun c2 => ?_)
    · refine g_iload_n F dX2_turn_16 rfl 1 rfl ?_
      refine g_iload_n F dX2_turn_17 rfl 2 rfl ?_
      refine g_icmp_ne F 24 dX2_turn_18 (by decide) (fun c3 => ?_) (fun c3 => ?_)
      · exact absurd rfl c3
      · refine g_bipush F (v := (-2)) dX2_turn_21 (by decide) ?_
        exact g_endI (hR _ _ dX2_turn_23) rfl rfl
    · exact absurd c2 (by rw [isM_nI hk]; decide)
theorem zX2_turn_f13 : Cond.fieldLink RX2 13 (TX2 2).1 (TX2 2).2.1 (TX2 2).2.2.1 ∈ wsX2_turn := by decide +kernel
theorem zX2_turn_inX2 : ∀ w ∈ u_ws RX2 TX2 15, w ∈ wsX2_turn := by decide +kernel
set_option maxHeartbeats 1000000 in
set_option maxRecDepth 100000 in
theorem kX2_turn_ok (l : Launch) (D : va_G) (cI cZ cQ : ClassId) (a : Nat → Nat) (tx : Row) (ln : Nat) (nw tr di : Row) (ac nx : Nat) (ke ik s1 s2 : Row) (se : Nat) (sd : Int64) (wo re : Row) (k o : Nat) (hk : k < 6) (ho : o < 6) (hko : ¬ k = o) (hx : nx < 14) (ha : ac ≤ 14) : Ct l D (gTy cI cZ cQ) yX2_turn wsX2_turn ({ frames := 7, cells := 0, slots := 0, locals := 200 }) [.ref (a 0), .int (nI k), .int (nI o)] (MW cI cZ a tx ln nw tr di ac nx ke ik s1 s2 se sd wo re) (some (.int (S_way (S_turn nw k o) k o))) (MW cI cZ a tx ln (S_turn nw k o) tr (S_put di nw (79 * nx) 79) (S_inc14 ac) ((nx + 1) % 14) ke ik s1 s2 se sd wo re) := by
  refine ct_ofI (cc := cX2_turn) (nL := 3) (own := RX2) (by decide) rfl rfl ⟨rfl, rfl⟩ (Nat.le_of_ble_eq_true rfl) MW_same (fun p e s m below meth c A Q F hR => ?_)
  refine g_aw ([(a 0, .inr (2, [.ref (a 1), .int (nI ln), .ref (a 2), .ref (a 3), .ref (a 4), .int (nI ac), .int (nI nx), .ref (a 5), .ref (a 6), .ref (a 7), .ref (a 8), .int (nI se), .long sd, .ref (a 9), .ref (a 10)])), (a 1, .inl (cI, 60, .inl tx)), (a 2, .inl (cI, 79, .inl nw)), (a 3, .inl (cI, 79, .inl tr)), (a 4, .inl (cI, 1106, .inl di)), (a 5, .inl (cI, 158, .inl ke)), (a 6, .inl (cZ, 2, .inl ik)), (a 7, .inl (cI, 6, .inl s1)), (a 8, .inl (cI, 6, .inl s2)), (a 9, .inl (cI, 64, .inl wo)), (a 10, .inl (cI, 79, .inl re))]) rfl ?_
  refine g_iload_n F dX2_turn_0 rfl 1 rfl ?_
  refine g_callSn F (As := [.int (nI k)]) (st := []) (kX2_isMember l D cI cZ cQ (nI k)) (va_cwS 1 F.2.2.2.2.1 gX2_turn_X2_isMember rfl rfl rfl (by decide +kernel) ⟨Nat.le_of_ble_eq_true rfl, Nat.le_of_ble_eq_true rfl⟩) rfl rfl (Nat.le_of_ble_eq_true rfl) ⟨Nat.zero_le _, Nat.zero_le _⟩ dX2_turn_1 ?_
  refine g_beq F 14 dX2_turn_4 (by decide) (fun c1 => ?_) (fun c1 => ?_)
  · exact absurd c1 (by rw [isM_nI hk]; decide)
  · refine g_iload_n F dX2_turn_7 rfl 2 rfl ?_
    refine g_callSn F (As := [.int (nI o)]) (st := []) (kX2_isMember l D cI cZ cQ (nI o)) (va_cwS 1 F.2.2.2.2.1 gX2_turn_X2_isMember rfl rfl rfl (by decide +kernel) ⟨Nat.le_of_ble_eq_true rfl, Nat.le_of_ble_eq_true rfl⟩) rfl rfl (Nat.le_of_ble_eq_true rfl) ⟨Nat.zero_le _, Nat.zero_le _⟩ dX2_turn_8 ?_
    refine g_bne F 16 dX2_turn_11 (by decide) (fun c2 => ?_) (fun c2 => ?_)
    · refine g_iload_n F dX2_turn_16 rfl 1 rfl ?_
      refine g_iload_n F dX2_turn_17 rfl 2 rfl ?_
      refine g_icmp_ne F 24 dX2_turn_18 (by decide) (fun c3 => ?_) (fun c3 => ?_)
      · refine g_aload_n F dX2_turn_24 rfl 0 rfl ?_
        refine g_callVs F (As := []) (st := []) (kX2_note l D cI cZ cQ a tx ln nw tr di ac nx ke ik s1 s2 se sd wo re  hx ha) 0 rfl rfl (cwV 0 F.2.2.2.2.1 gX2_turn_X2_note rfl rfl rfl (by decide +kernel) ⟨Nat.le_of_ble_eq_true rfl, Nat.le_of_ble_eq_true rfl⟩) rfl rfl (Nat.le_of_ble_eq_true rfl) ⟨Nat.zero_le _, Nat.zero_le _⟩ dX2_turn_25 ?_
        refine g_aload_n F dX2_turn_28 rfl 0 rfl ?_
        refine g_get F (.ref (a 2)) zX2_turn_inX2 0 rfl rfl 2 (by decide) rfl zX2_turn_f13 dX2_turn_29 ?_
        refine g_bipush F (v := 73) dX2_turn_32 (by decide) ?_
        refine g_iload_n F dX2_turn_34 rfl 1 rfl ?_
        refine g_iadd F dX2_turn_35 ?_
        refine g_as (nI (73 + k)) (nI_add 73 k) ?_
        refine g_dup2 F dX2_turn_36 rfl rfl ?_
        refine g_iald F (j := 73 + k) 2 0 rfl rfl (by omega) (by decide) dX2_turn_37 ?_
        refine g_iconst F (v := 1) dX2_turn_38 (by decide) ?_
        refine g_iload_n F dX2_turn_39 rfl 2 rfl ?_
        refine g_ishl F dX2_turn_40 ?_
        refine g_ixor F dX2_turn_41 ?_
        refine g_iast F (j := 73 + k) ([(a 0, .inr (2, [.ref (a 1), .int (nI ln), .ref (a 2), .ref (a 3), .ref (a 4), .int (nI (S_inc14 ac)), .int (nI ((nx + 1) % 14)), .ref (a 5), .ref (a 6), .ref (a 7), .ref (a 8), .int (nI se), .long sd, .ref (a 9), .ref (a 10)])), (a 1, .inl (cI, 60, .inl tx)), (a 2, .inl (cI, 79, .inl (upd nw (73 + k) ((nw (73 + k)) ^^^ (1 <<< ((nI o) &&& 31)))))), (a 3, .inl (cI, 79, .inl tr)), (a 4, .inl (cI, 1106, .inl (S_put di nw (79 * nx) 79))), (a 5, .inl (cI, 158, .inl ke)), (a 6, .inl (cZ, 2, .inl ik)), (a 7, .inl (cI, 6, .inl s1)), (a 8, .inl (cI, 6, .inl s2)), (a 9, .inl (cI, 64, .inl wo)), (a 10, .inl (cI, 79, .inl re))]) 2 0 rfl rfl (by omega) (by decide) dX2_turn_42 rfl ?_
        refine g_aload_n F dX2_turn_43 rfl 0 rfl ?_
        refine g_get F (.ref (a 2)) zX2_turn_inX2 0 rfl rfl 2 (by decide) rfl zX2_turn_f13 dX2_turn_44 ?_
        refine g_bipush F (v := 73) dX2_turn_47 (by decide) ?_
        refine g_iload_n F dX2_turn_49 rfl 1 rfl ?_
        refine g_iadd F dX2_turn_50 ?_
        refine g_as (nI (73 + k)) (nI_add 73 k) ?_
        refine g_iald F (j := 73 + k) 2 0 rfl rfl (by omega) (by decide) dX2_turn_51 ?_
        refine g_iload_n F dX2_turn_52 rfl 2 rfl ?_
        refine g_callSn F (As := [.int ((upd nw (73 + k) ((nw (73 + k)) ^^^ (1 <<< ((nI o) &&& 31)))) (73 + k)), .int (nI o)]) (st := []) (kX2_has l D cI cZ cQ ((upd nw (73 + k) ((nw (73 + k)) ^^^ (1 <<< ((nI o) &&& 31)))) (73 + k)) (nI o)) (va_cwS 2 F.2.2.2.2.1 gX2_turn_X2_has rfl rfl rfl (by decide +kernel) ⟨Nat.le_of_ble_eq_true rfl, Nat.le_of_ble_eq_true rfl⟩) rfl rfl (Nat.le_of_ble_eq_true rfl) ⟨Nat.zero_le _, Nat.zero_le _⟩ dX2_turn_53 ?_
        refine g_beq F 63 dX2_turn_56 (by decide) (fun c4 => ?_) (fun c4 => ?_)
        · refine g_iconst F (v := 1) dX2_turn_63 (by decide) ?_
          exact g_endI (hR _ _ dX2_turn_64) (by unfold S_way; exact (if_neg (fun q => absurd (c4.symm.trans q) (by decide))).symm) rfl
        · refine g_iconst F (v := 0) dX2_turn_59 (by decide) ?_
          refine g_goto F 64 dX2_turn_60 (by decide) ?_
          exact g_endI (hR _ _ dX2_turn_64) (by unfold S_way; exact (if_pos c4).symm) rfl
      · exact absurd ((nI_eq (by omega) (by omega)).mp c3) hko
    · exact absurd c2 (by rw [isM_nI ho]; decide)
theorem zX2_set_c106 : Cond.constantLong RX2 106 (9) ∈ wsX2_set := by decide +kernel
theorem zX2_set_c149 : Cond.constantLong RX2 149 (2) ∈ wsX2_set := by decide +kernel
set_option maxHeartbeats 1000000 in
set_option maxRecDepth 100000 in
theorem kX2_set_bad (l : Launch) (D : va_G) (cI cZ cQ : ClassId) (a : Nat → Nat) (tx : Row) (ln : Nat) (nw tr di : Row) (ac nx : Nat) (ke ik s1 s2 : Row) (se : Nat) (sd : Int64) (wo re : Row) (v u : Int32) (hb : S_in (Int32.toInt64 v) 0 2 = false ∨ S_in (Int32.toInt64 u) 1 9 = false) : Ct l D (gTy cI cZ cQ) yX2_set wsX2_set ({ frames := 7, cells := 0, slots := 0, locals := 200 }) [.ref (a 0), .int v, .int u] (MW cI cZ a tx ln nw tr di ac nx ke ik s1 s2 se sd wo re) (some (.int (-2))) (MW cI cZ a tx ln nw tr di ac nx ke ik s1 s2 se sd wo re) := by
  refine ct_ofI (cc := cX2_set) (nL := 4) (own := RX2) (by decide) rfl rfl ⟨rfl, rfl⟩ (Nat.le_of_ble_eq_true rfl) MW_same (fun p e s m below meth c A Q F hR => ?_)
  refine g_aw ([(a 0, .inr (2, [.ref (a 1), .int (nI ln), .ref (a 2), .ref (a 3), .ref (a 4), .int (nI ac), .int (nI nx), .ref (a 5), .ref (a 6), .ref (a 7), .ref (a 8), .int (nI se), .long sd, .ref (a 9), .ref (a 10)])), (a 1, .inl (cI, 60, .inl tx)), (a 2, .inl (cI, 79, .inl nw)), (a 3, .inl (cI, 79, .inl tr)), (a 4, .inl (cI, 1106, .inl di)), (a 5, .inl (cI, 158, .inl ke)), (a 6, .inl (cZ, 2, .inl ik)), (a 7, .inl (cI, 6, .inl s1)), (a 8, .inl (cI, 6, .inl s2)), (a 9, .inl (cI, 64, .inl wo)), (a 10, .inl (cI, 79, .inl re))]) rfl ?_
  refine g_iload_n F dX2_set_0 rfl 1 rfl ?_
  refine g_i2l F dX2_set_1 ?_
  refine g_lconst F (v := 0) dX2_set_2 (by decide) ?_
  refine g_ldc2 F zX2_set_c149 dX2_set_3 ?_
  refine g_callSn F (As := [.long (Int32.toInt64 v), .long 0, .long 2]) (st := []) (kX2_in l D cI cZ cQ (Int32.toInt64 v) 0 2) (va_cwS 3 F.2.2.2.2.1 gX2_set_X2_in rfl rfl rfl (by decide +kernel) ⟨Nat.le_of_ble_eq_true rfl, Nat.le_of_ble_eq_true rfl⟩) rfl rfl (Nat.le_of_ble_eq_true rfl) ⟨Nat.zero_le _, Nat.zero_le _⟩ dX2_set_6 ?_
  refine g_beq F 24 dX2_set_9 (by decide) (fun c1 => ?_) (fun c1 => ?_)
  · refine g_bipush F (v := (-2)) dX2_set_24 (by decide) ?_
    exact g_endI (hR _ _ dX2_set_26) rfl rfl
  · refine g_iload_n F dX2_set_12 rfl 2 rfl ?_
    refine g_i2l F dX2_set_13 ?_
    refine g_lconst F (v := 1) dX2_set_14 (by decide) ?_
    refine g_ldc2 F zX2_set_c106 dX2_set_15 ?_
    refine g_callSn F (As := [.long (Int32.toInt64 u), .long 1, .long 9]) (st := []) (kX2_in l D cI cZ cQ (Int32.toInt64 u) 1 9) (va_cwS 3 F.2.2.2.2.1 gX2_set_X2_in rfl rfl rfl (by decide +kernel) ⟨Nat.le_of_ble_eq_true rfl, Nat.le_of_ble_eq_true rfl⟩) rfl rfl (Nat.le_of_ble_eq_true rfl) ⟨Nat.zero_le _, Nat.zero_le _⟩ dX2_set_18 ?_
    refine g_bne F 27 dX2_set_21 (by decide) (fun c2 => ?_) (fun c2 => ?_)
    · exact absurd hb (by rw [c1, c2]; decide)
    · refine g_bipush F (v := (-2)) dX2_set_24 (by decide) ?_
      exact g_endI (hR _ _ dX2_set_26) rfl rfl
theorem zX2_set_f13 : Cond.fieldLink RX2 13 (TX2 2).1 (TX2 2).2.1 (TX2 2).2.2.1 ∈ wsX2_set := by decide +kernel
theorem zX2_set_inX2 : ∀ w ∈ u_ws RX2 TX2 15, w ∈ wsX2_set := by decide +kernel
set_option maxHeartbeats 1000000 in
set_option maxRecDepth 100000 in
theorem kX2_set_ok (l : Launch) (D : va_G) (cI cZ cQ : ClassId) (a : Nat → Nat) (tx : Row) (ln : Nat) (nw tr di : Row) (ac nx : Nat) (ke ik s1 s2 : Row) (se : Nat) (sd : Int64) (wo re : Row) (k : Nat) (u : Int32) (hk : k < 3) (hb : S_in (Int32.toInt64 (nI k)) 0 2 = true) (hc : S_in (Int32.toInt64 u) 1 9 = true) (hx : nx < 14) (ha : ac ≤ 14) : Ct l D (gTy cI cZ cQ) yX2_set wsX2_set ({ frames := 7, cells := 0, slots := 0, locals := 200 }) [.ref (a 0), .int (nI k), .int u] (MW cI cZ a tx ln nw tr di ac nx ke ik s1 s2 se sd wo re) (some (.int (nw (66 + k)))) (MW cI cZ a tx ln (upd nw (66 + k) u) tr (S_put di nw (79 * nx) 79) (S_inc14 ac) ((nx + 1) % 14) ke ik s1 s2 se sd wo re) := by
  refine ct_ofI (cc := cX2_set) (nL := 4) (own := RX2) (by decide) rfl rfl ⟨rfl, rfl⟩ (Nat.le_of_ble_eq_true rfl) MW_same (fun p e s m below meth c A Q F hR => ?_)
  refine g_aw ([(a 0, .inr (2, [.ref (a 1), .int (nI ln), .ref (a 2), .ref (a 3), .ref (a 4), .int (nI ac), .int (nI nx), .ref (a 5), .ref (a 6), .ref (a 7), .ref (a 8), .int (nI se), .long sd, .ref (a 9), .ref (a 10)])), (a 1, .inl (cI, 60, .inl tx)), (a 2, .inl (cI, 79, .inl nw)), (a 3, .inl (cI, 79, .inl tr)), (a 4, .inl (cI, 1106, .inl di)), (a 5, .inl (cI, 158, .inl ke)), (a 6, .inl (cZ, 2, .inl ik)), (a 7, .inl (cI, 6, .inl s1)), (a 8, .inl (cI, 6, .inl s2)), (a 9, .inl (cI, 64, .inl wo)), (a 10, .inl (cI, 79, .inl re))]) rfl ?_
  refine g_iload_n F dX2_set_0 rfl 1 rfl ?_
  refine g_i2l F dX2_set_1 ?_
  refine g_lconst F (v := 0) dX2_set_2 (by decide) ?_
  refine g_ldc2 F zX2_set_c149 dX2_set_3 ?_
  refine g_callSn F (As := [.long (Int32.toInt64 (nI k)), .long 0, .long 2]) (st := []) (kX2_in l D cI cZ cQ (Int32.toInt64 (nI k)) 0 2) (va_cwS 3 F.2.2.2.2.1 gX2_set_X2_in rfl rfl rfl (by decide +kernel) ⟨Nat.le_of_ble_eq_true rfl, Nat.le_of_ble_eq_true rfl⟩) rfl rfl (Nat.le_of_ble_eq_true rfl) ⟨Nat.zero_le _, Nat.zero_le _⟩ dX2_set_6 ?_
  refine g_beq F 24 dX2_set_9 (by decide) (fun c1 => ?_) (fun c1 => ?_)
  · exact absurd c1 (by rw [hb]; decide)
  · refine g_iload_n F dX2_set_12 rfl 2 rfl ?_
    refine g_i2l F dX2_set_13 ?_
    refine g_lconst F (v := 1) dX2_set_14 (by decide) ?_
    refine g_ldc2 F zX2_set_c106 dX2_set_15 ?_
    refine g_callSn F (As := [.long (Int32.toInt64 u), .long 1, .long 9]) (st := []) (kX2_in l D cI cZ cQ (Int32.toInt64 u) 1 9) (va_cwS 3 F.2.2.2.2.1 gX2_set_X2_in rfl rfl rfl (by decide +kernel) ⟨Nat.le_of_ble_eq_true rfl, Nat.le_of_ble_eq_true rfl⟩) rfl rfl (Nat.le_of_ble_eq_true rfl) ⟨Nat.zero_le _, Nat.zero_le _⟩ dX2_set_18 ?_
    refine g_bne F 27 dX2_set_21 (by decide) (fun c2 => ?_) (fun c2 => ?_)
    · refine g_aload_n F dX2_set_27 rfl 0 rfl ?_
      refine g_callVs F (As := []) (st := []) (kX2_note l D cI cZ cQ a tx ln nw tr di ac nx ke ik s1 s2 se sd wo re  hx ha) 0 rfl rfl (cwV 0 F.2.2.2.2.1 gX2_set_X2_note rfl rfl rfl (by decide +kernel) ⟨Nat.le_of_ble_eq_true rfl, Nat.le_of_ble_eq_true rfl⟩) rfl rfl (Nat.le_of_ble_eq_true rfl) ⟨Nat.zero_le _, Nat.zero_le _⟩ dX2_set_28 ?_
      refine g_aload_n F dX2_set_31 rfl 0 rfl ?_
      refine g_get F (.ref (a 2)) zX2_set_inX2 0 rfl rfl 2 (by decide) rfl zX2_set_f13 dX2_set_32 ?_
      refine g_bipush F (v := 66) dX2_set_35 (by decide) ?_
      refine g_iload_n F dX2_set_37 rfl 1 rfl ?_
      refine g_iadd F dX2_set_38 ?_
      refine g_as (nI (66 + k)) (nI_add 66 k) ?_
      refine g_iald F (j := 66 + k) 2 0 rfl rfl (by omega) (by decide) dX2_set_39 ?_
      refine g_istore_n F (lv' := [(0, .ref (a 0)), (1, .int (nI k)), (2, .int u), (3, .int (nw (66 + k)))]) dX2_set_40 rfl (by decide) [1, 2, 3, 0] rfl ?_
      refine g_aload_n F dX2_set_41 rfl 0 rfl ?_
      refine g_get F (.ref (a 2)) zX2_set_inX2 0 rfl rfl 2 (by decide) rfl zX2_set_f13 dX2_set_42 ?_
      refine g_bipush F (v := 66) dX2_set_45 (by decide) ?_
      refine g_iload_n F dX2_set_47 rfl 1 rfl ?_
      refine g_iadd F dX2_set_48 ?_
      refine g_as (nI (66 + k)) (nI_add 66 k) ?_
      refine g_iload_n F dX2_set_49 rfl 2 rfl ?_
      refine g_iast F (j := 66 + k) ([(a 0, .inr (2, [.ref (a 1), .int (nI ln), .ref (a 2), .ref (a 3), .ref (a 4), .int (nI (S_inc14 ac)), .int (nI ((nx + 1) % 14)), .ref (a 5), .ref (a 6), .ref (a 7), .ref (a 8), .int (nI se), .long sd, .ref (a 9), .ref (a 10)])), (a 1, .inl (cI, 60, .inl tx)), (a 2, .inl (cI, 79, .inl (upd nw (66 + k) u))), (a 3, .inl (cI, 79, .inl tr)), (a 4, .inl (cI, 1106, .inl (S_put di nw (79 * nx) 79))), (a 5, .inl (cI, 158, .inl ke)), (a 6, .inl (cZ, 2, .inl ik)), (a 7, .inl (cI, 6, .inl s1)), (a 8, .inl (cI, 6, .inl s2)), (a 9, .inl (cI, 64, .inl wo)), (a 10, .inl (cI, 79, .inl re))]) 2 0 rfl rfl (by omega) (by decide) dX2_set_50 rfl ?_
      refine g_iload_n F dX2_set_51 rfl 3 rfl ?_
      exact g_endI (hR _ _ dX2_set_52) rfl rfl
    · exact absurd c2 (by rw [hc]; decide)
theorem zX2_undo_f132 : Cond.fieldLink RX2 132 (TX2 5).1 (TX2 5).2.1 (TX2 5).2.2.1 ∈ wsX2_undo := by decide +kernel
theorem zX2_undo_inX2 : ∀ w ∈ u_ws RX2 TX2 15, w ∈ wsX2_undo := by decide +kernel
set_option maxHeartbeats 1000000 in
set_option maxRecDepth 100000 in
theorem kX2_undo_late (l : Launch) (D : va_G) (cI cZ cQ : ClassId) (a : Nat → Nat) (tx : Row) (ln : Nat) (nw tr di : Row) (ac nx : Nat) (ke ik s1 s2 : Row) (se : Nat) (sd : Int64) (wo re : Row) (h0 : ac = 0) : Ct l D (gTy cI cZ cQ) yX2_undo wsX2_undo ({ frames := 0, cells := 0, slots := 0, locals := 0 }) [.ref (a 0)] (MW cI cZ a tx ln nw tr di ac nx ke ik s1 s2 se sd wo re) (some (.int (-3))) (MW cI cZ a tx ln nw tr di ac nx ke ik s1 s2 se sd wo re) := by
  refine ct_ofI (cc := cX2_undo) (nL := 2) (own := RX2) (by decide) rfl rfl ⟨rfl, rfl⟩ (Nat.le_of_ble_eq_true rfl) MW_same (fun p e s m below meth c A Q F hR => ?_)
  refine g_aw ([(a 0, .inr (2, [.ref (a 1), .int (nI ln), .ref (a 2), .ref (a 3), .ref (a 4), .int (nI ac), .int (nI nx), .ref (a 5), .ref (a 6), .ref (a 7), .ref (a 8), .int (nI se), .long sd, .ref (a 9), .ref (a 10)])), (a 1, .inl (cI, 60, .inl tx)), (a 2, .inl (cI, 79, .inl nw)), (a 3, .inl (cI, 79, .inl tr)), (a 4, .inl (cI, 1106, .inl di)), (a 5, .inl (cI, 158, .inl ke)), (a 6, .inl (cZ, 2, .inl ik)), (a 7, .inl (cI, 6, .inl s1)), (a 8, .inl (cI, 6, .inl s2)), (a 9, .inl (cI, 64, .inl wo)), (a 10, .inl (cI, 79, .inl re))]) rfl ?_
  refine g_aload_n F dX2_undo_0 rfl 0 rfl ?_
  refine g_get F (.int (nI ac)) zX2_undo_inX2 0 rfl rfl 5 (by decide) rfl zX2_undo_f132 dX2_undo_1 ?_
  refine g_if_ne F 10 dX2_undo_4 (by decide) (fun c1 => ?_) (fun c1 => ?_)
  · exact absurd (by rw [h0]; rfl) c1
  · refine g_bipush F (v := (-3)) dX2_undo_7 (by decide) ?_
    exact g_endI (hR _ _ dX2_undo_9) rfl rfl
theorem zX2_undo_f13 : Cond.fieldLink RX2 13 (TX2 2).1 (TX2 2).2.1 (TX2 2).2.2.1 ∈ wsX2_undo := by decide +kernel
theorem zX2_undo_f141 : Cond.fieldLink RX2 141 (TX2 6).1 (TX2 6).2.1 (TX2 6).2.2.1 ∈ wsX2_undo := by decide +kernel
theorem zX2_undo_f19 : Cond.fieldLink RX2 19 (TX2 4).1 (TX2 4).2.1 (TX2 4).2.2.1 ∈ wsX2_undo := by decide +kernel
set_option maxHeartbeats 1000000 in
set_option maxRecDepth 100000 in
theorem kX2_undo_ok (l : Launch) (D : va_G) (cI cZ cQ : ClassId) (a : Nat → Nat) (tx : Row) (ln : Nat) (nw tr di : Row) (ac nx : Nat) (ke ik s1 s2 : Row) (se : Nat) (sd : Int64) (wo re : Row) (h0 : 0 < ac) (ha : ac ≤ 14) (hx : nx < 14) : Ct l D (gTy cI cZ cQ) yX2_undo wsX2_undo ({ frames := 0, cells := 0, slots := 0, locals := 0 }) [.ref (a 0)] (MW cI cZ a tx ln nw tr di ac nx ke ik s1 s2 se sd wo re) (some (.int (nI (ac - 1)))) (MW cI cZ a tx ln (fun j => di (79 * ((nx + 13) % 14) + j)) tr di (ac - 1) ((nx + 13) % 14) ke ik s1 s2 se sd wo re) := by
  refine ct_ofI (cc := cX2_undo) (nL := 2) (own := RX2) (by decide) rfl rfl ⟨rfl, rfl⟩ (Nat.le_of_ble_eq_true rfl) MW_same (fun p e s m below meth c A Q F hR => ?_)
  refine g_aw ([(a 0, .inr (2, [.ref (a 1), .int (nI ln), .ref (a 2), .ref (a 3), .ref (a 4), .int (nI ac), .int (nI nx), .ref (a 5), .ref (a 6), .ref (a 7), .ref (a 8), .int (nI se), .long sd, .ref (a 9), .ref (a 10)])), (a 1, .inl (cI, 60, .inl tx)), (a 2, .inl (cI, 79, .inl nw)), (a 3, .inl (cI, 79, .inl tr)), (a 4, .inl (cI, 1106, .inl di)), (a 5, .inl (cI, 158, .inl ke)), (a 6, .inl (cZ, 2, .inl ik)), (a 7, .inl (cI, 6, .inl s1)), (a 8, .inl (cI, 6, .inl s2)), (a 9, .inl (cI, 64, .inl wo)), (a 10, .inl (cI, 79, .inl re))]) rfl ?_
  refine g_aload_n F dX2_undo_0 rfl 0 rfl ?_
  refine g_get F (.int (nI ac)) zX2_undo_inX2 0 rfl rfl 5 (by decide) rfl zX2_undo_f132 dX2_undo_1 ?_
  refine g_if_ne F 10 dX2_undo_4 (by decide) (fun c1 => ?_) (fun c1 => ?_)
  · refine g_aload_n F dX2_undo_10 rfl 0 rfl ?_
    refine g_dup F dX2_undo_11 rfl ?_
    refine g_get F (.int (nI ac)) zX2_undo_inX2 0 rfl rfl 5 (by decide) rfl zX2_undo_f132 dX2_undo_12 ?_
    refine g_iconst F (v := 1) dX2_undo_15 (by decide) ?_
    refine g_isub F dX2_undo_16 ?_
    refine g_as (nI (ac - 1)) (pk_sub (b := 1) (by omega)) ?_
    refine g_put F ([(a 0, .inr (2, [.ref (a 1), .int (nI ln), .ref (a 2), .ref (a 3), .ref (a 4), .int (nI (ac - 1)), .int (nI nx), .ref (a 5), .ref (a 6), .ref (a 7), .ref (a 8), .int (nI se), .long sd, .ref (a 9), .ref (a 10)])), (a 1, .inl (cI, 60, .inl tx)), (a 2, .inl (cI, 79, .inl nw)), (a 3, .inl (cI, 79, .inl tr)), (a 4, .inl (cI, 1106, .inl di)), (a 5, .inl (cI, 158, .inl ke)), (a 6, .inl (cZ, 2, .inl ik)), (a 7, .inl (cI, 6, .inl s1)), (a 8, .inl (cI, 6, .inl s2)), (a 9, .inl (cI, 64, .inl wo)), (a 10, .inl (cI, 79, .inl re))]) zX2_undo_inX2 tyX2 tyX2_ok nmX2 0 rfl rfl 5 (by decide) rfl rfl rfl (Nat.le_of_ble_eq_true rfl) zX2_undo_f132 dX2_undo_17 rfl ?_
    refine g_aload_n F dX2_undo_20 rfl 0 rfl ?_
    refine g_aload_n F dX2_undo_21 rfl 0 rfl ?_
    refine g_get F (.int (nI nx)) zX2_undo_inX2 0 rfl rfl 6 (by decide) rfl zX2_undo_f141 dX2_undo_22 ?_
    refine g_bipush F (v := 14) dX2_undo_25 (by decide) ?_
    refine g_iadd F dX2_undo_27 ?_
    refine g_as (nI (nx + 14)) (nI_add nx 14) ?_
    refine g_iconst F (v := 1) dX2_undo_28 (by decide) ?_
    refine g_isub F dX2_undo_29 ?_
    refine g_as (nI (nx + 13)) (pk_sub (a := nx + 14) (b := 1) (by omega)) ?_
    refine g_bipush F (v := 14) dX2_undo_30 (by decide) ?_
    refine g_irem F dX2_undo_32 (by decide) ?_
    refine g_as (nI ((nx + 13) % 14)) (rem14 (by omega)) ?_
    refine g_put F ([(a 0, .inr (2, [.ref (a 1), .int (nI ln), .ref (a 2), .ref (a 3), .ref (a 4), .int (nI (ac - 1)), .int (nI ((nx + 13) % 14)), .ref (a 5), .ref (a 6), .ref (a 7), .ref (a 8), .int (nI se), .long sd, .ref (a 9), .ref (a 10)])), (a 1, .inl (cI, 60, .inl tx)), (a 2, .inl (cI, 79, .inl nw)), (a 3, .inl (cI, 79, .inl tr)), (a 4, .inl (cI, 1106, .inl di)), (a 5, .inl (cI, 158, .inl ke)), (a 6, .inl (cZ, 2, .inl ik)), (a 7, .inl (cI, 6, .inl s1)), (a 8, .inl (cI, 6, .inl s2)), (a 9, .inl (cI, 64, .inl wo)), (a 10, .inl (cI, 79, .inl re))]) zX2_undo_inX2 tyX2 tyX2_ok nmX2 0 rfl rfl 6 (by decide) rfl rfl rfl (Nat.le_of_ble_eq_true rfl) zX2_undo_f141 dX2_undo_33 rfl ?_
    refine g_iconst F (v := 0) dX2_undo_36 (by decide) ?_
    refine g_istore_n F (lv' := [(0, .ref (a 0)), (1, .int 0)]) dX2_undo_37 rfl (by decide) [1, 0] rfl ?_
    refine g_all (w0 := [(a 0, .inr (2, [.ref (a 1), .int (nI ln), .ref (a 2), .ref (a 3), .ref (a 4), .int (nI (ac - 1)), .int (nI ((nx + 13) % 14)), .ref (a 5), .ref (a 6), .ref (a 7), .ref (a 8), .int (nI se), .long sd, .ref (a 9), .ref (a 10)])), (a 1, .inl (cI, 60, .inl tx)), (a 2, .inl (cI, 79, .inl (S_put nw (fun j => di (79 * ((nx + 13) % 14) + j)) 0 0))), (a 3, .inl (cI, 79, .inl tr)), (a 4, .inl (cI, 1106, .inl di)), (a 5, .inl (cI, 158, .inl ke)), (a 6, .inl (cZ, 2, .inl ik)), (a 7, .inl (cI, 6, .inl s1)), (a 8, .inl (cI, 6, .inl s2)), (a 9, .inl (cI, 64, .inl wo)), (a 10, .inl (cI, 79, .inl re))]) (lv0 := [(0, .ref (a 0)), (1, .int (nI 0))]) (st0 := []) rfl rfl rfl ?_
    refine g_for 79 (fun i => True) (fun i => [(a 0, .inr (2, [.ref (a 1), .int (nI ln), .ref (a 2), .ref (a 3), .ref (a 4), .int (nI (ac - 1)), .int (nI ((nx + 13) % 14)), .ref (a 5), .ref (a 6), .ref (a 7), .ref (a 8), .int (nI se), .long sd, .ref (a 9), .ref (a 10)])), (a 1, .inl (cI, 60, .inl tx)), (a 2, .inl (cI, 79, .inl (S_put nw (fun j => di (79 * ((nx + 13) % 14) + j)) 0 i))), (a 3, .inl (cI, 79, .inl tr)), (a 4, .inl (cI, 1106, .inl di)), (a 5, .inl (cI, 158, .inl ke)), (a 6, .inl (cZ, 2, .inl ik)), (a 7, .inl (cI, 6, .inl s1)), (a 8, .inl (cI, 6, .inl s2)), (a 9, .inl (cI, 64, .inl wo)), (a 10, .inl (cI, 79, .inl re))]) (fun i => [(0, .ref (a 0)), (1, .int (nI i))]) (fun i hi hIi ihi => ?_) 0 (Nat.zero_le _) trivial
    refine g_iload_n F dX2_undo_38 rfl 1 rfl ?_
    refine g_bipush F (v := 79) dX2_undo_39 (by decide) ?_
    refine g_icmp_ge F 70 dX2_undo_41 (by decide) (fun c2 => ?_) (fun c2 => ?_)
    · have hx_c2 : 79 = i := lp_ge hi (by decide) c2
      subst hx_c2
      refine g_aload_n F dX2_undo_70 rfl 0 rfl ?_
      refine g_get F (.int (nI (ac - 1))) zX2_undo_inX2 0 rfl rfl 5 (by decide) rfl zX2_undo_f132 dX2_undo_71 ?_
      refine g_wp (w2 := [(a 0, .inr (2, [.ref (a 1), .int (nI ln), .ref (a 2), .ref (a 3), .ref (a 4), .int (nI (ac - 1)), .int (nI ((nx + 13) % 14)), .ref (a 5), .ref (a 6), .ref (a 7), .ref (a 8), .int (nI se), .long sd, .ref (a 9), .ref (a 10)])), (a 1, .inl (cI, 60, .inl tx)), (a 2, .inl (cI, 79, .inl (fun j => di (79 * ((nx + 13) % 14) + j)))), (a 3, .inl (cI, 79, .inl tr)), (a 4, .inl (cI, 1106, .inl di)), (a 5, .inl (cI, 158, .inl ke)), (a 6, .inl (cZ, 2, .inl ik)), (a 7, .inl (cI, 6, .inl s1)), (a 8, .inl (cI, 6, .inl s2)), (a 9, .inl (cI, 64, .inl wo)), (a 10, .inl (cI, 79, .inl re))]) (fun H h => row_cong (w1 := [(a 0, .inr (2, [.ref (a 1), .int (nI ln), .ref (a 2), .ref (a 3), .ref (a 4), .int (nI (ac - 1)), .int (nI ((nx + 13) % 14)), .ref (a 5), .ref (a 6), .ref (a 7), .ref (a 8), .int (nI se), .long sd, .ref (a 9), .ref (a 10)])), (a 1, .inl (cI, 60, .inl tx))]) (w3 := [(a 3, .inl (cI, 79, .inl tr)), (a 4, .inl (cI, 1106, .inl di)), (a 5, .inl (cI, 158, .inl ke)), (a 6, .inl (cZ, 2, .inl ik)), (a 7, .inl (cI, 6, .inl s1)), (a 8, .inl (cI, 6, .inl s2)), (a 9, .inl (cI, 64, .inl wo)), (a 10, .inl (cI, 79, .inl re))]) (fun j hj => S_put_0 nw _ 79 j hj) h) rfl ?_
      exact g_endI (hR _ _ dX2_undo_74) rfl rfl
    · have hlti : i < 79 := lp_lt hi (by decide) c2
      refine g_aload_n F dX2_undo_44 rfl 0 rfl ?_
      refine g_get F (.ref (a 2)) zX2_undo_inX2 0 rfl rfl 2 (by decide) rfl zX2_undo_f13 dX2_undo_45 ?_
      refine g_iload_n F dX2_undo_48 rfl 1 rfl ?_
      refine g_aload_n F dX2_undo_49 rfl 0 rfl ?_
      refine g_get F (.ref (a 4)) zX2_undo_inX2 0 rfl rfl 4 (by decide) rfl zX2_undo_f19 dX2_undo_50 ?_
      refine g_bipush F (v := 79) dX2_undo_53 (by decide) ?_
      refine g_aload_n F dX2_undo_55 rfl 0 rfl ?_
      refine g_get F (.int (nI ((nx + 13) % 14))) zX2_undo_inX2 0 rfl rfl 6 (by decide) rfl zX2_undo_f141 dX2_undo_56 ?_
      refine g_imul F dX2_undo_59 ?_
      refine g_as (nI (79 * ((nx + 13) % 14))) (pk_mul 79 ((nx + 13) % 14)) ?_
      refine g_iload_n F dX2_undo_60 rfl 1 rfl ?_
      refine g_iadd F dX2_undo_61 ?_
      refine g_as (nI (79 * ((nx + 13) % 14) + i)) (nI_add (79 * ((nx + 13) % 14)) i) ?_
      refine g_iald F (j := 79 * ((nx + 13) % 14) + i) 4 0 rfl rfl (by omega) (by decide) dX2_undo_62 ?_
      refine g_iast F (j := i) ([(a 0, .inr (2, [.ref (a 1), .int (nI ln), .ref (a 2), .ref (a 3), .ref (a 4), .int (nI (ac - 1)), .int (nI ((nx + 13) % 14)), .ref (a 5), .ref (a 6), .ref (a 7), .ref (a 8), .int (nI se), .long sd, .ref (a 9), .ref (a 10)])), (a 1, .inl (cI, 60, .inl tx)), (a 2, .inl (cI, 79, .inl (upd (S_put nw (fun j => di (79 * ((nx + 13) % 14) + j)) 0 i) i (di (79 * ((nx + 13) % 14) + i))))), (a 3, .inl (cI, 79, .inl tr)), (a 4, .inl (cI, 1106, .inl di)), (a 5, .inl (cI, 158, .inl ke)), (a 6, .inl (cZ, 2, .inl ik)), (a 7, .inl (cI, 6, .inl s1)), (a 8, .inl (cI, 6, .inl s2)), (a 9, .inl (cI, 64, .inl wo)), (a 10, .inl (cI, 79, .inl re))]) 2 0 rfl rfl (by omega) (by decide) dX2_undo_63 rfl ?_
      refine g_iinc F (lv' := [(0, .ref (a 0)), (1, .int (nI (i + 1)))]) (nI (i + 1)) dX2_undo_64 1 rfl (nI_add i 1) (by decide) [1, 0] rfl ?_
      refine g_goto F 38 dX2_undo_67 (by decide) ?_
      refine g_all (w0 := [(a 0, .inr (2, [.ref (a 1), .int (nI ln), .ref (a 2), .ref (a 3), .ref (a 4), .int (nI (ac - 1)), .int (nI ((nx + 13) % 14)), .ref (a 5), .ref (a 6), .ref (a 7), .ref (a 8), .int (nI se), .long sd, .ref (a 9), .ref (a 10)])), (a 1, .inl (cI, 60, .inl tx)), (a 2, .inl (cI, 79, .inl (S_put nw (fun j => di (79 * ((nx + 13) % 14) + j)) 0 (i + 1)))), (a 3, .inl (cI, 79, .inl tr)), (a 4, .inl (cI, 1106, .inl di)), (a 5, .inl (cI, 158, .inl ke)), (a 6, .inl (cZ, 2, .inl ik)), (a 7, .inl (cI, 6, .inl s1)), (a 8, .inl (cI, 6, .inl s2)), (a 9, .inl (cI, 64, .inl wo)), (a 10, .inl (cI, 79, .inl re))]) (lv0 := [(0, .ref (a 0)), (1, .int (nI (i + 1)))]) (st0 := []) (by rw [S_put_s, Nat.zero_add]) rfl rfl ?_
      exact ihi hlti trivial
  · exact absurd c1 (nI_ne0 h0 (by omega))
set_option maxHeartbeats 1000000 in
set_option maxRecDepth 100000 in
theorem kX2_keep_bad (l : Launch) (D : va_G) (cI cZ cQ : ClassId) (a : Nat → Nat) (tx : Row) (ln : Nat) (nw tr di : Row) (ac nx : Nat) (ke ik s1 s2 : Row) (se : Nat) (sd : Int64) (wo re : Row) (v : Int32) (hb : S_in (Int32.toInt64 v) 0 1 = false) : Ct l D (gTy cI cZ cQ) yX2_keep wsX2_keep ({ frames := 1, cells := 0, slots := 0, locals := 25 }) [.ref (a 0), .int v] (MW cI cZ a tx ln nw tr di ac nx ke ik s1 s2 se sd wo re) (some (.int (-1))) (MW cI cZ a tx ln nw tr di ac nx ke ik s1 s2 se sd wo re) := by
  refine ct_ofI (cc := cX2_keep) (nL := 3) (own := RX2) (by decide) rfl rfl ⟨rfl, rfl⟩ (Nat.le_of_ble_eq_true rfl) MW_same (fun p e s m below meth c A Q F hR => ?_)
  refine g_aw ([(a 0, .inr (2, [.ref (a 1), .int (nI ln), .ref (a 2), .ref (a 3), .ref (a 4), .int (nI ac), .int (nI nx), .ref (a 5), .ref (a 6), .ref (a 7), .ref (a 8), .int (nI se), .long sd, .ref (a 9), .ref (a 10)])), (a 1, .inl (cI, 60, .inl tx)), (a 2, .inl (cI, 79, .inl nw)), (a 3, .inl (cI, 79, .inl tr)), (a 4, .inl (cI, 1106, .inl di)), (a 5, .inl (cI, 158, .inl ke)), (a 6, .inl (cZ, 2, .inl ik)), (a 7, .inl (cI, 6, .inl s1)), (a 8, .inl (cI, 6, .inl s2)), (a 9, .inl (cI, 64, .inl wo)), (a 10, .inl (cI, 79, .inl re))]) rfl ?_
  refine g_iload_n F dX2_keep_0 rfl 1 rfl ?_
  refine g_i2l F dX2_keep_1 ?_
  refine g_lconst F (v := 0) dX2_keep_2 (by decide) ?_
  refine g_lconst F (v := 1) dX2_keep_3 (by decide) ?_
  refine g_callSn F (As := [.long (Int32.toInt64 v), .long 0, .long 1]) (st := []) (kX2_in l D cI cZ cQ (Int32.toInt64 v) 0 1) (va_cwS 3 F.2.2.2.2.1 gX2_keep_X2_in rfl rfl rfl (by decide +kernel) ⟨Nat.le_of_ble_eq_true rfl, Nat.le_of_ble_eq_true rfl⟩) rfl rfl (Nat.le_of_ble_eq_true rfl) ⟨Nat.zero_le _, Nat.zero_le _⟩ dX2_keep_4 ?_
  refine g_bne F 12 dX2_keep_7 (by decide) (fun c1 => ?_) (fun c1 => ?_)
  · exact absurd c1 (by rw [hb]; decide)
  · refine g_iconst F (v := (-1)) dX2_keep_10 (by decide) ?_
    exact g_endI (hR _ _ dX2_keep_11) rfl rfl
theorem zX2_keep_f13 : Cond.fieldLink RX2 13 (TX2 2).1 (TX2 2).2.1 (TX2 2).2.2.1 ∈ wsX2_keep := by decide +kernel
theorem zX2_keep_f22 : Cond.fieldLink RX2 22 (TX2 7).1 (TX2 7).2.1 (TX2 7).2.2.1 ∈ wsX2_keep := by decide +kernel
theorem zX2_keep_f25 : Cond.fieldLink RX2 25 (TX2 8).1 (TX2 8).2.1 (TX2 8).2.2.1 ∈ wsX2_keep := by decide +kernel
theorem zX2_keep_inX2 : ∀ w ∈ u_ws RX2 TX2 15, w ∈ wsX2_keep := by decide +kernel
set_option maxHeartbeats 1000000 in
set_option maxRecDepth 100000 in
theorem kX2_keep_ok (l : Launch) (D : va_G) (cI cZ cQ : ClassId) (a : Nat → Nat) (tx : Row) (ln : Nat) (nw tr di : Row) (ac nx : Nat) (ke ik s1 s2 : Row) (se : Nat) (sd : Int64) (wo re : Row) (k : Nat) (hk : k < 2) (hb : S_in (Int32.toInt64 (nI k)) 0 1 = true) : Ct l D (gTy cI cZ cQ) yX2_keep wsX2_keep ({ frames := 1, cells := 0, slots := 0, locals := 25 }) [.ref (a 0), .int (nI k)] (MW cI cZ a tx ln nw tr di ac nx ke ik s1 s2 se sd wo re) (some (.int (nw 70))) (MW cI cZ a tx ln nw tr di ac nx (S_put ke nw (79 * k) 79) (upd ik k 1) s1 s2 se sd wo re) := by
  refine ct_ofI (cc := cX2_keep) (nL := 3) (own := RX2) (by decide) rfl rfl ⟨rfl, rfl⟩ (Nat.le_of_ble_eq_true rfl) MW_same (fun p e s m below meth c A Q F hR => ?_)
  refine g_aw ([(a 0, .inr (2, [.ref (a 1), .int (nI ln), .ref (a 2), .ref (a 3), .ref (a 4), .int (nI ac), .int (nI nx), .ref (a 5), .ref (a 6), .ref (a 7), .ref (a 8), .int (nI se), .long sd, .ref (a 9), .ref (a 10)])), (a 1, .inl (cI, 60, .inl tx)), (a 2, .inl (cI, 79, .inl nw)), (a 3, .inl (cI, 79, .inl tr)), (a 4, .inl (cI, 1106, .inl di)), (a 5, .inl (cI, 158, .inl ke)), (a 6, .inl (cZ, 2, .inl ik)), (a 7, .inl (cI, 6, .inl s1)), (a 8, .inl (cI, 6, .inl s2)), (a 9, .inl (cI, 64, .inl wo)), (a 10, .inl (cI, 79, .inl re))]) rfl ?_
  refine g_iload_n F dX2_keep_0 rfl 1 rfl ?_
  refine g_i2l F dX2_keep_1 ?_
  refine g_lconst F (v := 0) dX2_keep_2 (by decide) ?_
  refine g_lconst F (v := 1) dX2_keep_3 (by decide) ?_
  refine g_callSn F (As := [.long (Int32.toInt64 (nI k)), .long 0, .long 1]) (st := []) (kX2_in l D cI cZ cQ (Int32.toInt64 (nI k)) 0 1) (va_cwS 3 F.2.2.2.2.1 gX2_keep_X2_in rfl rfl rfl (by decide +kernel) ⟨Nat.le_of_ble_eq_true rfl, Nat.le_of_ble_eq_true rfl⟩) rfl rfl (Nat.le_of_ble_eq_true rfl) ⟨Nat.zero_le _, Nat.zero_le _⟩ dX2_keep_4 ?_
  refine g_bne F 12 dX2_keep_7 (by decide) (fun c1 => ?_) (fun c1 => ?_)
  · refine g_aload_n F dX2_keep_12 rfl 0 rfl ?_
    refine g_get F (.ref (a 6)) zX2_keep_inX2 0 rfl rfl 8 (by decide) rfl zX2_keep_f25 dX2_keep_13 ?_
    refine g_iload_n F dX2_keep_16 rfl 1 rfl ?_
    refine g_iconst F (v := 1) dX2_keep_17 (by decide) ?_
    refine g_zast F (j := k) ([(a 0, .inr (2, [.ref (a 1), .int (nI ln), .ref (a 2), .ref (a 3), .ref (a 4), .int (nI ac), .int (nI nx), .ref (a 5), .ref (a 6), .ref (a 7), .ref (a 8), .int (nI se), .long sd, .ref (a 9), .ref (a 10)])), (a 1, .inl (cI, 60, .inl tx)), (a 2, .inl (cI, 79, .inl nw)), (a 3, .inl (cI, 79, .inl tr)), (a 4, .inl (cI, 1106, .inl di)), (a 5, .inl (cI, 158, .inl ke)), (a 6, .inl (cZ, 2, .inl (upd ik k (vp_nar .boolean 1)))), (a 7, .inl (cI, 6, .inl s1)), (a 8, .inl (cI, 6, .inl s2)), (a 9, .inl (cI, 64, .inl wo)), (a 10, .inl (cI, 79, .inl re))]) 6 1 rfl rfl (by omega) (by decide) dX2_keep_18 rfl ?_
    refine g_iconst F (v := 0) dX2_keep_19 (by decide) ?_
    refine g_istore_n F (lv' := [(0, .ref (a 0)), (1, .int (nI k)), (2, .int 0)]) dX2_keep_20 rfl (by decide) [1, 2, 0] rfl ?_
    refine g_all (w0 := [(a 0, .inr (2, [.ref (a 1), .int (nI ln), .ref (a 2), .ref (a 3), .ref (a 4), .int (nI ac), .int (nI nx), .ref (a 5), .ref (a 6), .ref (a 7), .ref (a 8), .int (nI se), .long sd, .ref (a 9), .ref (a 10)])), (a 1, .inl (cI, 60, .inl tx)), (a 2, .inl (cI, 79, .inl nw)), (a 3, .inl (cI, 79, .inl tr)), (a 4, .inl (cI, 1106, .inl di)), (a 5, .inl (cI, 158, .inl (S_put ke nw (79 * k) 0))), (a 6, .inl (cZ, 2, .inl (upd ik k 1))), (a 7, .inl (cI, 6, .inl s1)), (a 8, .inl (cI, 6, .inl s2)), (a 9, .inl (cI, 64, .inl wo)), (a 10, .inl (cI, 79, .inl re))]) (lv0 := [(0, .ref (a 0)), (1, .int (nI k)), (2, .int (nI 0))]) (st0 := []) rfl rfl rfl ?_
    refine g_for 79 (fun i => True) (fun i => [(a 0, .inr (2, [.ref (a 1), .int (nI ln), .ref (a 2), .ref (a 3), .ref (a 4), .int (nI ac), .int (nI nx), .ref (a 5), .ref (a 6), .ref (a 7), .ref (a 8), .int (nI se), .long sd, .ref (a 9), .ref (a 10)])), (a 1, .inl (cI, 60, .inl tx)), (a 2, .inl (cI, 79, .inl nw)), (a 3, .inl (cI, 79, .inl tr)), (a 4, .inl (cI, 1106, .inl di)), (a 5, .inl (cI, 158, .inl (S_put ke nw (79 * k) i))), (a 6, .inl (cZ, 2, .inl (upd ik k 1))), (a 7, .inl (cI, 6, .inl s1)), (a 8, .inl (cI, 6, .inl s2)), (a 9, .inl (cI, 64, .inl wo)), (a 10, .inl (cI, 79, .inl re))]) (fun i => [(0, .ref (a 0)), (1, .int (nI k)), (2, .int (nI i))]) (fun i hi hIi ihi => ?_) 0 (Nat.zero_le _) trivial
    refine g_iload_n F dX2_keep_21 rfl 2 rfl ?_
    refine g_bipush F (v := 79) dX2_keep_22 (by decide) ?_
    refine g_icmp_ge F 50 dX2_keep_24 (by decide) (fun c2 => ?_) (fun c2 => ?_)
    · have hx_c2 : 79 = i := lp_ge hi (by decide) c2
      subst hx_c2
      refine g_aload_n F dX2_keep_50 rfl 0 rfl ?_
      refine g_get F (.ref (a 2)) zX2_keep_inX2 0 rfl rfl 2 (by decide) rfl zX2_keep_f13 dX2_keep_51 ?_
      refine g_bipush F (v := 70) dX2_keep_54 (by decide) ?_
      refine g_as (nI 70) rfl ?_
      refine g_iald F (j := 70) 2 0 rfl rfl (by omega) (by decide) dX2_keep_56 ?_
      exact g_endI (hR _ _ dX2_keep_57) rfl rfl
    · have hlti : i < 79 := lp_lt hi (by decide) c2
      refine g_aload_n F dX2_keep_27 rfl 0 rfl ?_
      refine g_get F (.ref (a 5)) zX2_keep_inX2 0 rfl rfl 7 (by decide) rfl zX2_keep_f22 dX2_keep_28 ?_
      refine g_bipush F (v := 79) dX2_keep_31 (by decide) ?_
      refine g_iload_n F dX2_keep_33 rfl 1 rfl ?_
      refine g_imul F dX2_keep_34 ?_
      refine g_as (nI (79 * k)) (pk_mul 79 k) ?_
      refine g_iload_n F dX2_keep_35 rfl 2 rfl ?_
      refine g_iadd F dX2_keep_36 ?_
      refine g_as (nI (79 * k + i)) (nI_add (79 * k) i) ?_
      refine g_aload_n F dX2_keep_37 rfl 0 rfl ?_
      refine g_get F (.ref (a 2)) zX2_keep_inX2 0 rfl rfl 2 (by decide) rfl zX2_keep_f13 dX2_keep_38 ?_
      refine g_iload_n F dX2_keep_41 rfl 2 rfl ?_
      refine g_iald F (j := i) 2 0 rfl rfl (by omega) (by decide) dX2_keep_42 ?_
      refine g_iast F (j := 79 * k + i) ([(a 0, .inr (2, [.ref (a 1), .int (nI ln), .ref (a 2), .ref (a 3), .ref (a 4), .int (nI ac), .int (nI nx), .ref (a 5), .ref (a 6), .ref (a 7), .ref (a 8), .int (nI se), .long sd, .ref (a 9), .ref (a 10)])), (a 1, .inl (cI, 60, .inl tx)), (a 2, .inl (cI, 79, .inl nw)), (a 3, .inl (cI, 79, .inl tr)), (a 4, .inl (cI, 1106, .inl di)), (a 5, .inl (cI, 158, .inl (upd (S_put ke nw (79 * k) i) (79 * k + i) (nw i)))), (a 6, .inl (cZ, 2, .inl (upd ik k 1))), (a 7, .inl (cI, 6, .inl s1)), (a 8, .inl (cI, 6, .inl s2)), (a 9, .inl (cI, 64, .inl wo)), (a 10, .inl (cI, 79, .inl re))]) 5 0 rfl rfl (by omega) (by decide) dX2_keep_43 rfl ?_
      refine g_iinc F (lv' := [(0, .ref (a 0)), (1, .int (nI k)), (2, .int (nI (i + 1)))]) (nI (i + 1)) dX2_keep_44 2 rfl (nI_add i 1) (by decide) [1, 2, 0] rfl ?_
      refine g_goto F 21 dX2_keep_47 (by decide) ?_
      refine g_all (w0 := [(a 0, .inr (2, [.ref (a 1), .int (nI ln), .ref (a 2), .ref (a 3), .ref (a 4), .int (nI ac), .int (nI nx), .ref (a 5), .ref (a 6), .ref (a 7), .ref (a 8), .int (nI se), .long sd, .ref (a 9), .ref (a 10)])), (a 1, .inl (cI, 60, .inl tx)), (a 2, .inl (cI, 79, .inl nw)), (a 3, .inl (cI, 79, .inl tr)), (a 4, .inl (cI, 1106, .inl di)), (a 5, .inl (cI, 158, .inl (S_put ke nw (79 * k) (i + 1)))), (a 6, .inl (cZ, 2, .inl (upd ik k 1))), (a 7, .inl (cI, 6, .inl s1)), (a 8, .inl (cI, 6, .inl s2)), (a 9, .inl (cI, 64, .inl wo)), (a 10, .inl (cI, 79, .inl re))]) (lv0 := [(0, .ref (a 0)), (1, .int (nI k)), (2, .int (nI (i + 1)))]) (st0 := []) (by rw [S_put_s]) rfl rfl ?_
      exact ihi hlti trivial
  · exact absurd c1 (by rw [hb]; decide)
set_option maxHeartbeats 1000000 in
set_option maxRecDepth 100000 in
theorem kX2_again_bad (l : Launch) (D : va_G) (cI cZ cQ : ClassId) (a : Nat → Nat) (tx : Row) (ln : Nat) (nw tr di : Row) (ac nx : Nat) (ke ik s1 s2 : Row) (se : Nat) (sd : Int64) (wo re : Row) (v : Int32) (hb : S_in (Int32.toInt64 v) 0 1 = false) : Ct l D (gTy cI cZ cQ) yX2_again wsX2_again ({ frames := 1, cells := 0, slots := 0, locals := 25 }) [.ref (a 0), .int v] (MW cI cZ a tx ln nw tr di ac nx ke ik s1 s2 se sd wo re) (some (.int (-1))) (MW cI cZ a tx ln nw tr di ac nx ke ik s1 s2 se sd wo re) := by
  refine ct_ofI (cc := cX2_again) (nL := 3) (own := RX2) (by decide) rfl rfl ⟨rfl, rfl⟩ (Nat.le_of_ble_eq_true rfl) MW_same (fun p e s m below meth c A Q F hR => ?_)
  refine g_aw ([(a 0, .inr (2, [.ref (a 1), .int (nI ln), .ref (a 2), .ref (a 3), .ref (a 4), .int (nI ac), .int (nI nx), .ref (a 5), .ref (a 6), .ref (a 7), .ref (a 8), .int (nI se), .long sd, .ref (a 9), .ref (a 10)])), (a 1, .inl (cI, 60, .inl tx)), (a 2, .inl (cI, 79, .inl nw)), (a 3, .inl (cI, 79, .inl tr)), (a 4, .inl (cI, 1106, .inl di)), (a 5, .inl (cI, 158, .inl ke)), (a 6, .inl (cZ, 2, .inl ik)), (a 7, .inl (cI, 6, .inl s1)), (a 8, .inl (cI, 6, .inl s2)), (a 9, .inl (cI, 64, .inl wo)), (a 10, .inl (cI, 79, .inl re))]) rfl ?_
  refine g_iload_n F dX2_again_0 rfl 1 rfl ?_
  refine g_i2l F dX2_again_1 ?_
  refine g_lconst F (v := 0) dX2_again_2 (by decide) ?_
  refine g_lconst F (v := 1) dX2_again_3 (by decide) ?_
  refine g_callSn F (As := [.long (Int32.toInt64 v), .long 0, .long 1]) (st := []) (kX2_in l D cI cZ cQ (Int32.toInt64 v) 0 1) (va_cwS 3 F.2.2.2.2.1 gX2_again_X2_in rfl rfl rfl (by decide +kernel) ⟨Nat.le_of_ble_eq_true rfl, Nat.le_of_ble_eq_true rfl⟩) rfl rfl (Nat.le_of_ble_eq_true rfl) ⟨Nat.zero_le _, Nat.zero_le _⟩ dX2_again_4 ?_
  refine g_bne F 12 dX2_again_7 (by decide) (fun c1 => ?_) (fun c1 => ?_)
  · exact absurd c1 (by rw [hb]; decide)
  · refine g_iconst F (v := (-1)) dX2_again_10 (by decide) ?_
    exact g_endI (hR _ _ dX2_again_11) rfl rfl
theorem zX2_again_f25 : Cond.fieldLink RX2 25 (TX2 8).1 (TX2 8).2.1 (TX2 8).2.2.1 ∈ wsX2_again := by decide +kernel
theorem zX2_again_inX2 : ∀ w ∈ u_ws RX2 TX2 15, w ∈ wsX2_again := by decide +kernel
set_option maxHeartbeats 1000000 in
set_option maxRecDepth 100000 in
theorem kX2_again_late (l : Launch) (D : va_G) (cI cZ cQ : ClassId) (a : Nat → Nat) (tx : Row) (ln : Nat) (nw tr di : Row) (ac nx : Nat) (ke ik s1 s2 : Row) (se : Nat) (sd : Int64) (wo re : Row) (k : Nat) (hk : k < 2) (hb : S_in (Int32.toInt64 (nI k)) 0 1 = true) (h0 : ik k = 0) : Ct l D (gTy cI cZ cQ) yX2_again wsX2_again ({ frames := 1, cells := 0, slots := 0, locals := 25 }) [.ref (a 0), .int (nI k)] (MW cI cZ a tx ln nw tr di ac nx ke ik s1 s2 se sd wo re) (some (.int (-3))) (MW cI cZ a tx ln nw tr di ac nx ke ik s1 s2 se sd wo re) := by
  refine ct_ofI (cc := cX2_again) (nL := 3) (own := RX2) (by decide) rfl rfl ⟨rfl, rfl⟩ (Nat.le_of_ble_eq_true rfl) MW_same (fun p e s m below meth c A Q F hR => ?_)
  refine g_aw ([(a 0, .inr (2, [.ref (a 1), .int (nI ln), .ref (a 2), .ref (a 3), .ref (a 4), .int (nI ac), .int (nI nx), .ref (a 5), .ref (a 6), .ref (a 7), .ref (a 8), .int (nI se), .long sd, .ref (a 9), .ref (a 10)])), (a 1, .inl (cI, 60, .inl tx)), (a 2, .inl (cI, 79, .inl nw)), (a 3, .inl (cI, 79, .inl tr)), (a 4, .inl (cI, 1106, .inl di)), (a 5, .inl (cI, 158, .inl ke)), (a 6, .inl (cZ, 2, .inl ik)), (a 7, .inl (cI, 6, .inl s1)), (a 8, .inl (cI, 6, .inl s2)), (a 9, .inl (cI, 64, .inl wo)), (a 10, .inl (cI, 79, .inl re))]) rfl ?_
  refine g_iload_n F dX2_again_0 rfl 1 rfl ?_
  refine g_i2l F dX2_again_1 ?_
  refine g_lconst F (v := 0) dX2_again_2 (by decide) ?_
  refine g_lconst F (v := 1) dX2_again_3 (by decide) ?_
  refine g_callSn F (As := [.long (Int32.toInt64 (nI k)), .long 0, .long 1]) (st := []) (kX2_in l D cI cZ cQ (Int32.toInt64 (nI k)) 0 1) (va_cwS 3 F.2.2.2.2.1 gX2_again_X2_in rfl rfl rfl (by decide +kernel) ⟨Nat.le_of_ble_eq_true rfl, Nat.le_of_ble_eq_true rfl⟩) rfl rfl (Nat.le_of_ble_eq_true rfl) ⟨Nat.zero_le _, Nat.zero_le _⟩ dX2_again_4 ?_
  refine g_bne F 12 dX2_again_7 (by decide) (fun c1 => ?_) (fun c1 => ?_)
  · refine g_aload_n F dX2_again_12 rfl 0 rfl ?_
    refine g_get F (.ref (a 6)) zX2_again_inX2 0 rfl rfl 8 (by decide) rfl zX2_again_f25 dX2_again_13 ?_
    refine g_iload_n F dX2_again_16 rfl 1 rfl ?_
    refine g_zald F (j := k) 6 1 rfl rfl (by omega) (by decide) dX2_again_17 ?_
    refine g_if_ne F 24 dX2_again_18 (by decide) (fun c2 => ?_) (fun c2 => ?_)
    · exact absurd h0 c2
    · refine g_bipush F (v := (-3)) dX2_again_21 (by decide) ?_
      exact g_endI (hR _ _ dX2_again_23) rfl rfl
  · exact absurd c1 (by rw [hb]; decide)
theorem zX2_again_f13 : Cond.fieldLink RX2 13 (TX2 2).1 (TX2 2).2.1 (TX2 2).2.2.1 ∈ wsX2_again := by decide +kernel
theorem zX2_again_f132 : Cond.fieldLink RX2 132 (TX2 5).1 (TX2 5).2.1 (TX2 5).2.2.1 ∈ wsX2_again := by decide +kernel
theorem zX2_again_f22 : Cond.fieldLink RX2 22 (TX2 7).1 (TX2 7).2.1 (TX2 7).2.2.1 ∈ wsX2_again := by decide +kernel
set_option maxHeartbeats 1000000 in
set_option maxRecDepth 100000 in
theorem kX2_again_ok (l : Launch) (D : va_G) (cI cZ cQ : ClassId) (a : Nat → Nat) (tx : Row) (ln : Nat) (nw tr di : Row) (ac nx : Nat) (ke ik s1 s2 : Row) (se : Nat) (sd : Int64) (wo re : Row) (k : Nat) (hk : k < 2) (hb : S_in (Int32.toInt64 (nI k)) 0 1 = true) (h0 : ¬ ik k = 0) : Ct l D (gTy cI cZ cQ) yX2_again wsX2_again ({ frames := 1, cells := 0, slots := 0, locals := 25 }) [.ref (a 0), .int (nI k)] (MW cI cZ a tx ln nw tr di ac nx ke ik s1 s2 se sd wo re) (some (.int (ke (79 * k + 70)))) (MW cI cZ a tx ln (fun j => ke (79 * k + j)) tr di 0 nx ke ik s1 s2 se sd wo re) := by
  refine ct_ofI (cc := cX2_again) (nL := 3) (own := RX2) (by decide) rfl rfl ⟨rfl, rfl⟩ (Nat.le_of_ble_eq_true rfl) MW_same (fun p e s m below meth c A Q F hR => ?_)
  refine g_aw ([(a 0, .inr (2, [.ref (a 1), .int (nI ln), .ref (a 2), .ref (a 3), .ref (a 4), .int (nI ac), .int (nI nx), .ref (a 5), .ref (a 6), .ref (a 7), .ref (a 8), .int (nI se), .long sd, .ref (a 9), .ref (a 10)])), (a 1, .inl (cI, 60, .inl tx)), (a 2, .inl (cI, 79, .inl nw)), (a 3, .inl (cI, 79, .inl tr)), (a 4, .inl (cI, 1106, .inl di)), (a 5, .inl (cI, 158, .inl ke)), (a 6, .inl (cZ, 2, .inl ik)), (a 7, .inl (cI, 6, .inl s1)), (a 8, .inl (cI, 6, .inl s2)), (a 9, .inl (cI, 64, .inl wo)), (a 10, .inl (cI, 79, .inl re))]) rfl ?_
  refine g_iload_n F dX2_again_0 rfl 1 rfl ?_
  refine g_i2l F dX2_again_1 ?_
  refine g_lconst F (v := 0) dX2_again_2 (by decide) ?_
  refine g_lconst F (v := 1) dX2_again_3 (by decide) ?_
  refine g_callSn F (As := [.long (Int32.toInt64 (nI k)), .long 0, .long 1]) (st := []) (kX2_in l D cI cZ cQ (Int32.toInt64 (nI k)) 0 1) (va_cwS 3 F.2.2.2.2.1 gX2_again_X2_in rfl rfl rfl (by decide +kernel) ⟨Nat.le_of_ble_eq_true rfl, Nat.le_of_ble_eq_true rfl⟩) rfl rfl (Nat.le_of_ble_eq_true rfl) ⟨Nat.zero_le _, Nat.zero_le _⟩ dX2_again_4 ?_
  refine g_bne F 12 dX2_again_7 (by decide) (fun c1 => ?_) (fun c1 => ?_)
  · refine g_aload_n F dX2_again_12 rfl 0 rfl ?_
    refine g_get F (.ref (a 6)) zX2_again_inX2 0 rfl rfl 8 (by decide) rfl zX2_again_f25 dX2_again_13 ?_
    refine g_iload_n F dX2_again_16 rfl 1 rfl ?_
    refine g_zald F (j := k) 6 1 rfl rfl (by omega) (by decide) dX2_again_17 ?_
    refine g_if_ne F 24 dX2_again_18 (by decide) (fun c2 => ?_) (fun c2 => ?_)
    · refine g_iconst F (v := 0) dX2_again_24 (by decide) ?_
      refine g_istore_n F (lv' := [(0, .ref (a 0)), (1, .int (nI k)), (2, .int 0)]) dX2_again_25 rfl (by decide) [1, 2, 0] rfl ?_
      refine g_all (w0 := [(a 0, .inr (2, [.ref (a 1), .int (nI ln), .ref (a 2), .ref (a 3), .ref (a 4), .int (nI ac), .int (nI nx), .ref (a 5), .ref (a 6), .ref (a 7), .ref (a 8), .int (nI se), .long sd, .ref (a 9), .ref (a 10)])), (a 1, .inl (cI, 60, .inl tx)), (a 2, .inl (cI, 79, .inl (S_put nw (fun j => ke (79 * k + j)) 0 0))), (a 3, .inl (cI, 79, .inl tr)), (a 4, .inl (cI, 1106, .inl di)), (a 5, .inl (cI, 158, .inl ke)), (a 6, .inl (cZ, 2, .inl ik)), (a 7, .inl (cI, 6, .inl s1)), (a 8, .inl (cI, 6, .inl s2)), (a 9, .inl (cI, 64, .inl wo)), (a 10, .inl (cI, 79, .inl re))]) (lv0 := [(0, .ref (a 0)), (1, .int (nI k)), (2, .int (nI 0))]) (st0 := []) rfl rfl rfl ?_
      refine g_for 79 (fun i => True) (fun i => [(a 0, .inr (2, [.ref (a 1), .int (nI ln), .ref (a 2), .ref (a 3), .ref (a 4), .int (nI ac), .int (nI nx), .ref (a 5), .ref (a 6), .ref (a 7), .ref (a 8), .int (nI se), .long sd, .ref (a 9), .ref (a 10)])), (a 1, .inl (cI, 60, .inl tx)), (a 2, .inl (cI, 79, .inl (S_put nw (fun j => ke (79 * k + j)) 0 i))), (a 3, .inl (cI, 79, .inl tr)), (a 4, .inl (cI, 1106, .inl di)), (a 5, .inl (cI, 158, .inl ke)), (a 6, .inl (cZ, 2, .inl ik)), (a 7, .inl (cI, 6, .inl s1)), (a 8, .inl (cI, 6, .inl s2)), (a 9, .inl (cI, 64, .inl wo)), (a 10, .inl (cI, 79, .inl re))]) (fun i => [(0, .ref (a 0)), (1, .int (nI k)), (2, .int (nI i))]) (fun i hi hIi ihi => ?_) 0 (Nat.zero_le _) trivial
      refine g_iload_n F dX2_again_26 rfl 2 rfl ?_
      refine g_bipush F (v := 79) dX2_again_27 (by decide) ?_
      refine g_icmp_ge F 55 dX2_again_29 (by decide) (fun c3 => ?_) (fun c3 => ?_)
      · have hx_c3 : 79 = i := lp_ge hi (by decide) c3
        subst hx_c3
        refine g_aload_n F dX2_again_55 rfl 0 rfl ?_
        refine g_iconst F (v := 0) dX2_again_56 (by decide) ?_
        refine g_put F ([(a 0, .inr (2, [.ref (a 1), .int (nI ln), .ref (a 2), .ref (a 3), .ref (a 4), .int 0, .int (nI nx), .ref (a 5), .ref (a 6), .ref (a 7), .ref (a 8), .int (nI se), .long sd, .ref (a 9), .ref (a 10)])), (a 1, .inl (cI, 60, .inl tx)), (a 2, .inl (cI, 79, .inl (S_put nw (fun j => ke (79 * k + j)) 0 79))), (a 3, .inl (cI, 79, .inl tr)), (a 4, .inl (cI, 1106, .inl di)), (a 5, .inl (cI, 158, .inl ke)), (a 6, .inl (cZ, 2, .inl ik)), (a 7, .inl (cI, 6, .inl s1)), (a 8, .inl (cI, 6, .inl s2)), (a 9, .inl (cI, 64, .inl wo)), (a 10, .inl (cI, 79, .inl re))]) zX2_again_inX2 tyX2 tyX2_ok nmX2 0 rfl rfl 5 (by decide) rfl rfl rfl (Nat.le_of_ble_eq_true rfl) zX2_again_f132 dX2_again_57 rfl ?_
        refine g_aload_n F dX2_again_60 rfl 0 rfl ?_
        refine g_get F (.ref (a 2)) zX2_again_inX2 0 rfl rfl 2 (by decide) rfl zX2_again_f13 dX2_again_61 ?_
        refine g_bipush F (v := 70) dX2_again_64 (by decide) ?_
        refine g_as (nI 70) rfl ?_
        refine g_iald F (j := 70) 2 0 rfl rfl (by omega) (by decide) dX2_again_66 ?_
        refine g_as (ke (79 * k + 70)) (S_put_0 nw (fun j => ke (79 * k + j)) 79 70 (by decide)) ?_
        refine g_wp (w2 := [(a 0, .inr (2, [.ref (a 1), .int (nI ln), .ref (a 2), .ref (a 3), .ref (a 4), .int 0, .int (nI nx), .ref (a 5), .ref (a 6), .ref (a 7), .ref (a 8), .int (nI se), .long sd, .ref (a 9), .ref (a 10)])), (a 1, .inl (cI, 60, .inl tx)), (a 2, .inl (cI, 79, .inl (fun j => ke (79 * k + j)))), (a 3, .inl (cI, 79, .inl tr)), (a 4, .inl (cI, 1106, .inl di)), (a 5, .inl (cI, 158, .inl ke)), (a 6, .inl (cZ, 2, .inl ik)), (a 7, .inl (cI, 6, .inl s1)), (a 8, .inl (cI, 6, .inl s2)), (a 9, .inl (cI, 64, .inl wo)), (a 10, .inl (cI, 79, .inl re))]) (fun H h => row_cong (w1 := [(a 0, .inr (2, [.ref (a 1), .int (nI ln), .ref (a 2), .ref (a 3), .ref (a 4), .int 0, .int (nI nx), .ref (a 5), .ref (a 6), .ref (a 7), .ref (a 8), .int (nI se), .long sd, .ref (a 9), .ref (a 10)])), (a 1, .inl (cI, 60, .inl tx))]) (w3 := [(a 3, .inl (cI, 79, .inl tr)), (a 4, .inl (cI, 1106, .inl di)), (a 5, .inl (cI, 158, .inl ke)), (a 6, .inl (cZ, 2, .inl ik)), (a 7, .inl (cI, 6, .inl s1)), (a 8, .inl (cI, 6, .inl s2)), (a 9, .inl (cI, 64, .inl wo)), (a 10, .inl (cI, 79, .inl re))]) (fun j hj => S_put_0 nw _ 79 j hj) h) rfl ?_
        exact g_endI (hR _ _ dX2_again_67) rfl rfl
      · have hlti : i < 79 := lp_lt hi (by decide) c3
        refine g_aload_n F dX2_again_32 rfl 0 rfl ?_
        refine g_get F (.ref (a 2)) zX2_again_inX2 0 rfl rfl 2 (by decide) rfl zX2_again_f13 dX2_again_33 ?_
        refine g_iload_n F dX2_again_36 rfl 2 rfl ?_
        refine g_aload_n F dX2_again_37 rfl 0 rfl ?_
        refine g_get F (.ref (a 5)) zX2_again_inX2 0 rfl rfl 7 (by decide) rfl zX2_again_f22 dX2_again_38 ?_
        refine g_bipush F (v := 79) dX2_again_41 (by decide) ?_
        refine g_iload_n F dX2_again_43 rfl 1 rfl ?_
        refine g_imul F dX2_again_44 ?_
        refine g_as (nI (79 * k)) (pk_mul 79 k) ?_
        refine g_iload_n F dX2_again_45 rfl 2 rfl ?_
        refine g_iadd F dX2_again_46 ?_
        refine g_as (nI (79 * k + i)) (nI_add (79 * k) i) ?_
        refine g_iald F (j := 79 * k + i) 5 0 rfl rfl (by omega) (by decide) dX2_again_47 ?_
        refine g_iast F (j := i) ([(a 0, .inr (2, [.ref (a 1), .int (nI ln), .ref (a 2), .ref (a 3), .ref (a 4), .int (nI ac), .int (nI nx), .ref (a 5), .ref (a 6), .ref (a 7), .ref (a 8), .int (nI se), .long sd, .ref (a 9), .ref (a 10)])), (a 1, .inl (cI, 60, .inl tx)), (a 2, .inl (cI, 79, .inl (upd (S_put nw (fun j => ke (79 * k + j)) 0 i) i (ke (79 * k + i))))), (a 3, .inl (cI, 79, .inl tr)), (a 4, .inl (cI, 1106, .inl di)), (a 5, .inl (cI, 158, .inl ke)), (a 6, .inl (cZ, 2, .inl ik)), (a 7, .inl (cI, 6, .inl s1)), (a 8, .inl (cI, 6, .inl s2)), (a 9, .inl (cI, 64, .inl wo)), (a 10, .inl (cI, 79, .inl re))]) 2 0 rfl rfl (by omega) (by decide) dX2_again_48 rfl ?_
        refine g_iinc F (lv' := [(0, .ref (a 0)), (1, .int (nI k)), (2, .int (nI (i + 1)))]) (nI (i + 1)) dX2_again_49 2 rfl (nI_add i 1) (by decide) [1, 2, 0] rfl ?_
        refine g_goto F 26 dX2_again_52 (by decide) ?_
        refine g_all (w0 := [(a 0, .inr (2, [.ref (a 1), .int (nI ln), .ref (a 2), .ref (a 3), .ref (a 4), .int (nI ac), .int (nI nx), .ref (a 5), .ref (a 6), .ref (a 7), .ref (a 8), .int (nI se), .long sd, .ref (a 9), .ref (a 10)])), (a 1, .inl (cI, 60, .inl tx)), (a 2, .inl (cI, 79, .inl (S_put nw (fun j => ke (79 * k + j)) 0 (i + 1)))), (a 3, .inl (cI, 79, .inl tr)), (a 4, .inl (cI, 1106, .inl di)), (a 5, .inl (cI, 158, .inl ke)), (a 6, .inl (cZ, 2, .inl ik)), (a 7, .inl (cI, 6, .inl s1)), (a 8, .inl (cI, 6, .inl s2)), (a 9, .inl (cI, 64, .inl wo)), (a 10, .inl (cI, 79, .inl re))]) (lv0 := [(0, .ref (a 0)), (1, .int (nI k)), (2, .int (nI (i + 1)))]) (st0 := []) (by rw [S_put_s, Nat.zero_add]) rfl rfl ?_
        exact ihi hlti trivial
    · exact absurd c2 h0
  · exact absurd c1 (by rw [hb]; decide)
theorem zX2_ahead_c151 : Cond.constantLong RX2 151 (99) ∈ wsX2_ahead := by decide +kernel
theorem zX2_ahead_c153 : Cond.constantLong RX2 153 (3) ∈ wsX2_ahead := by decide +kernel
set_option maxHeartbeats 1000000 in
set_option maxRecDepth 100000 in
theorem kX2_ahead_bad (l : Launch) (D : va_G) (cI cZ cQ : ClassId) (a : Nat → Nat) (tx : Row) (ln : Nat) (nw tr di : Row) (ac nx : Nat) (ke ik s1 s2 : Row) (se : Nat) (sd : Int64) (wo re : Row) (v u : Int32) (hb : S_in (Int32.toInt64 v) 0 99 = false ∨ S_in (Int32.toInt64 u) 0 3 = false) : Ct l D (gTy cI cZ cQ) yX2_ahead wsX2_ahead ({ frames := 7, cells := 0, slots := 0, locals := 200 }) [.ref (a 0), .int v, .int u] (MW cI cZ a tx ln nw tr di ac nx ke ik s1 s2 se sd wo re) (some (.int (-2))) (MW cI cZ a tx ln nw tr di ac nx ke ik s1 s2 se sd wo re) := by
  refine ct_ofI (cc := cX2_ahead) (nL := 4) (own := RX2) (by decide) rfl rfl ⟨rfl, rfl⟩ (Nat.le_of_ble_eq_true rfl) MW_same (fun p e s m below meth c A Q F hR => ?_)
  refine g_aw ([(a 0, .inr (2, [.ref (a 1), .int (nI ln), .ref (a 2), .ref (a 3), .ref (a 4), .int (nI ac), .int (nI nx), .ref (a 5), .ref (a 6), .ref (a 7), .ref (a 8), .int (nI se), .long sd, .ref (a 9), .ref (a 10)])), (a 1, .inl (cI, 60, .inl tx)), (a 2, .inl (cI, 79, .inl nw)), (a 3, .inl (cI, 79, .inl tr)), (a 4, .inl (cI, 1106, .inl di)), (a 5, .inl (cI, 158, .inl ke)), (a 6, .inl (cZ, 2, .inl ik)), (a 7, .inl (cI, 6, .inl s1)), (a 8, .inl (cI, 6, .inl s2)), (a 9, .inl (cI, 64, .inl wo)), (a 10, .inl (cI, 79, .inl re))]) rfl ?_
  refine g_iload_n F dX2_ahead_0 rfl 1 rfl ?_
  refine g_i2l F dX2_ahead_1 ?_
  refine g_lconst F (v := 0) dX2_ahead_2 (by decide) ?_
  refine g_ldc2 F zX2_ahead_c151 dX2_ahead_3 ?_
  refine g_callSn F (As := [.long (Int32.toInt64 v), .long 0, .long 99]) (st := []) (kX2_in l D cI cZ cQ (Int32.toInt64 v) 0 99) (va_cwS 3 F.2.2.2.2.1 gX2_ahead_X2_in rfl rfl rfl (by decide +kernel) ⟨Nat.le_of_ble_eq_true rfl, Nat.le_of_ble_eq_true rfl⟩) rfl rfl (Nat.le_of_ble_eq_true rfl) ⟨Nat.zero_le _, Nat.zero_le _⟩ dX2_ahead_6 ?_
  refine g_beq F 24 dX2_ahead_9 (by decide) (fun c1 => ?_) (fun c1 => ?_)
  · refine g_bipush F (v := (-2)) dX2_ahead_24 (by decide) ?_
    exact g_endI (hR _ _ dX2_ahead_26) rfl rfl
  · refine g_iload_n F dX2_ahead_12 rfl 2 rfl ?_
    refine g_i2l F dX2_ahead_13 ?_
    refine g_lconst F (v := 0) dX2_ahead_14 (by decide) ?_
    refine g_ldc2 F zX2_ahead_c153 dX2_ahead_15 ?_
    refine g_callSn F (As := [.long (Int32.toInt64 u), .long 0, .long 3]) (st := []) (kX2_in l D cI cZ cQ (Int32.toInt64 u) 0 3) (va_cwS 3 F.2.2.2.2.1 gX2_ahead_X2_in rfl rfl rfl (by decide +kernel) ⟨Nat.le_of_ble_eq_true rfl, Nat.le_of_ble_eq_true rfl⟩) rfl rfl (Nat.le_of_ble_eq_true rfl) ⟨Nat.zero_le _, Nat.zero_le _⟩ dX2_ahead_18 ?_
    refine g_bne F 27 dX2_ahead_21 (by decide) (fun c2 => ?_) (fun c2 => ?_)
    · exact absurd hb (by rw [c1, c2]; decide)
    · refine g_bipush F (v := (-2)) dX2_ahead_24 (by decide) ?_
      exact g_endI (hR _ _ dX2_ahead_26) rfl rfl
theorem zX2_ahead_f13 : Cond.fieldLink RX2 13 (TX2 2).1 (TX2 2).2.1 (TX2 2).2.2.1 ∈ wsX2_ahead := by decide +kernel
theorem zX2_ahead_f16 : Cond.fieldLink RX2 16 (TX2 3).1 (TX2 3).2.1 (TX2 3).2.2.1 ∈ wsX2_ahead := by decide +kernel
theorem zX2_ahead_inX2 : ∀ w ∈ u_ws RX2 TX2 15, w ∈ wsX2_ahead := by decide +kernel
set_option maxHeartbeats 1000000 in
set_option maxRecDepth 100000 in
theorem kX2_ahead_ok (l : Launch) (D : va_G) (cI cZ cQ : ClassId) (a : Nat → Nat) (tx : Row) (ln : Nat) (nw tr di : Row) (ac nx : Nat) (ke ik s1 s2 : Row) (se : Nat) (sd : Int64) (wo re : Row) (n : Nat) (u : Int32) (hn : n < 2 ^ 31) (hb : S_in (Int32.toInt64 (nI n)) 0 99 = true) (hc : S_in (Int32.toInt64 u) 0 3 = true) (hz : Z67 nw) : Ct l D (gTy cI cZ cQ) yX2_ahead wsX2_ahead ({ frames := 7, cells := 0, slots := 0, locals := 200 }) [.ref (a 0), .int (nI n), .int u] (MW cI cZ a tx ln nw tr di ac nx ke ik s1 s2 se sd wo re) (some (.int (S_ahead (S_ticks nw n) u))) (MW cI cZ a tx ln nw (S_ticks nw n) di ac nx ke ik s1 s2 se sd wo re) := by
  refine ct_ofI (cc := cX2_ahead) (nL := 4) (own := RX2) (by decide) rfl rfl ⟨rfl, rfl⟩ (Nat.le_of_ble_eq_true rfl) MW_same (fun p e s m below meth c A Q F hR => ?_)
  refine g_aw ([(a 0, .inr (2, [.ref (a 1), .int (nI ln), .ref (a 2), .ref (a 3), .ref (a 4), .int (nI ac), .int (nI nx), .ref (a 5), .ref (a 6), .ref (a 7), .ref (a 8), .int (nI se), .long sd, .ref (a 9), .ref (a 10)])), (a 1, .inl (cI, 60, .inl tx)), (a 2, .inl (cI, 79, .inl nw)), (a 3, .inl (cI, 79, .inl tr)), (a 4, .inl (cI, 1106, .inl di)), (a 5, .inl (cI, 158, .inl ke)), (a 6, .inl (cZ, 2, .inl ik)), (a 7, .inl (cI, 6, .inl s1)), (a 8, .inl (cI, 6, .inl s2)), (a 9, .inl (cI, 64, .inl wo)), (a 10, .inl (cI, 79, .inl re))]) rfl ?_
  refine g_iload_n F dX2_ahead_0 rfl 1 rfl ?_
  refine g_i2l F dX2_ahead_1 ?_
  refine g_lconst F (v := 0) dX2_ahead_2 (by decide) ?_
  refine g_ldc2 F zX2_ahead_c151 dX2_ahead_3 ?_
  refine g_callSn F (As := [.long (Int32.toInt64 (nI n)), .long 0, .long 99]) (st := []) (kX2_in l D cI cZ cQ (Int32.toInt64 (nI n)) 0 99) (va_cwS 3 F.2.2.2.2.1 gX2_ahead_X2_in rfl rfl rfl (by decide +kernel) ⟨Nat.le_of_ble_eq_true rfl, Nat.le_of_ble_eq_true rfl⟩) rfl rfl (Nat.le_of_ble_eq_true rfl) ⟨Nat.zero_le _, Nat.zero_le _⟩ dX2_ahead_6 ?_
  refine g_beq F 24 dX2_ahead_9 (by decide) (fun c1 => ?_) (fun c1 => ?_)
  · exact absurd c1 (by rw [hb]; decide)
  · refine g_iload_n F dX2_ahead_12 rfl 2 rfl ?_
    refine g_i2l F dX2_ahead_13 ?_
    refine g_lconst F (v := 0) dX2_ahead_14 (by decide) ?_
    refine g_ldc2 F zX2_ahead_c153 dX2_ahead_15 ?_
    refine g_callSn F (As := [.long (Int32.toInt64 u), .long 0, .long 3]) (st := []) (kX2_in l D cI cZ cQ (Int32.toInt64 u) 0 3) (va_cwS 3 F.2.2.2.2.1 gX2_ahead_X2_in rfl rfl rfl (by decide +kernel) ⟨Nat.le_of_ble_eq_true rfl, Nat.le_of_ble_eq_true rfl⟩) rfl rfl (Nat.le_of_ble_eq_true rfl) ⟨Nat.zero_le _, Nat.zero_le _⟩ dX2_ahead_18 ?_
    refine g_bne F 27 dX2_ahead_21 (by decide) (fun c2 => ?_) (fun c2 => ?_)
    · refine g_aload_n F dX2_ahead_27 rfl 0 rfl ?_
      refine g_get F (.ref (a 2)) zX2_ahead_inX2 0 rfl rfl 2 (by decide) rfl zX2_ahead_f13 dX2_ahead_28 ?_
      refine g_aload_n F dX2_ahead_31 rfl 0 rfl ?_
      refine g_get F (.ref (a 3)) zX2_ahead_inX2 0 rfl rfl 3 (by decide) rfl zX2_ahead_f16 dX2_ahead_32 ?_
      refine g_callS F (As := [.ref (a 2), .ref (a 3)]) (st := []) ([(a 0, .inr (2, [.ref (a 1), .int (nI ln), .ref (a 2), .ref (a 3), .ref (a 4), .int (nI ac), .int (nI nx), .ref (a 5), .ref (a 6), .ref (a 7), .ref (a 8), .int (nI se), .long sd, .ref (a 9), .ref (a 10)])), (a 1, .inl (cI, 60, .inl tx)), (a 4, .inl (cI, 1106, .inl di)), (a 5, .inl (cI, 158, .inl ke)), (a 6, .inl (cZ, 2, .inl ik)), (a 7, .inl (cI, 6, .inl s1)), (a 8, .inl (cI, 6, .inl s2)), (a 9, .inl (cI, 64, .inl wo)), (a 10, .inl (cI, 79, .inl re))]) ([(a 0, .inr (2, [.ref (a 1), .int (nI ln), .ref (a 2), .ref (a 3), .ref (a 4), .int (nI ac), .int (nI nx), .ref (a 5), .ref (a 6), .ref (a 7), .ref (a 8), .int (nI se), .long sd, .ref (a 9), .ref (a 10)])), (a 1, .inl (cI, 60, .inl tx)), (a 2, .inl (cI, 79, .inl nw)), (a 3, .inl (cI, 79, .inl nw)), (a 4, .inl (cI, 1106, .inl di)), (a 5, .inl (cI, 158, .inl ke)), (a 6, .inl (cZ, 2, .inl ik)), (a 7, .inl (cI, 6, .inl s1)), (a 8, .inl (cI, 6, .inl s2)), (a 9, .inl (cI, 64, .inl wo)), (a 10, .inl (cI, 79, .inl re))]) [2, 3] [0, 1, 4, 5, 6, 7, 8, 9, 10] [0, 1, 9, 10, 2, 3, 4, 5, 6, 7, 8] (kX2_copy l D cI cZ cQ (a 2) (a 3) nw tr) (va_cwS 2 F.2.2.2.2.1 gX2_ahead_X2_copy rfl rfl rfl (by decide +kernel) ⟨Nat.le_of_ble_eq_true rfl, Nat.le_of_ble_eq_true rfl⟩) rfl rfl rfl rfl (by decide) (by decide) (by decide) rfl (by decide) (Nat.le_of_ble_eq_true rfl) ⟨Nat.zero_le _, Nat.zero_le _⟩ dX2_ahead_35 ?_
      refine g_aload_n F dX2_ahead_38 rfl 0 rfl ?_
      refine g_get F (.ref (a 3)) zX2_ahead_inX2 0 rfl rfl 3 (by decide) rfl zX2_ahead_f16 dX2_ahead_39 ?_
      refine g_iload_n F dX2_ahead_42 rfl 1 rfl ?_
      refine g_callS F (As := [.ref (a 3), .int (nI n)]) (st := []) ([(a 0, .inr (2, [.ref (a 1), .int (nI ln), .ref (a 2), .ref (a 3), .ref (a 4), .int (nI ac), .int (nI nx), .ref (a 5), .ref (a 6), .ref (a 7), .ref (a 8), .int (nI se), .long sd, .ref (a 9), .ref (a 10)])), (a 1, .inl (cI, 60, .inl tx)), (a 2, .inl (cI, 79, .inl nw)), (a 4, .inl (cI, 1106, .inl di)), (a 5, .inl (cI, 158, .inl ke)), (a 6, .inl (cZ, 2, .inl ik)), (a 7, .inl (cI, 6, .inl s1)), (a 8, .inl (cI, 6, .inl s2)), (a 9, .inl (cI, 64, .inl wo)), (a 10, .inl (cI, 79, .inl re))]) ([(a 0, .inr (2, [.ref (a 1), .int (nI ln), .ref (a 2), .ref (a 3), .ref (a 4), .int (nI ac), .int (nI nx), .ref (a 5), .ref (a 6), .ref (a 7), .ref (a 8), .int (nI se), .long sd, .ref (a 9), .ref (a 10)])), (a 1, .inl (cI, 60, .inl tx)), (a 2, .inl (cI, 79, .inl nw)), (a 3, .inl (cI, 79, .inl (S_ticks nw n))), (a 4, .inl (cI, 1106, .inl di)), (a 5, .inl (cI, 158, .inl ke)), (a 6, .inl (cZ, 2, .inl ik)), (a 7, .inl (cI, 6, .inl s1)), (a 8, .inl (cI, 6, .inl s2)), (a 9, .inl (cI, 64, .inl wo)), (a 10, .inl (cI, 79, .inl re))]) [3] [0, 1, 2, 4, 5, 6, 7, 8, 9, 10] [0, 1, 2, 10, 3, 4, 5, 6, 7, 8, 9] (kX2_passOn l D cI cZ cQ (a 3) nw n (by omega) hz) (va_cwS 2 F.2.2.2.2.1 gX2_ahead_X2_passOn rfl rfl rfl (by decide +kernel) ⟨Nat.le_of_ble_eq_true rfl, Nat.le_of_ble_eq_true rfl⟩) rfl rfl rfl rfl (by decide) (by decide) (by decide) rfl (by decide) (Nat.le_of_ble_eq_true rfl) ⟨Nat.zero_le _, Nat.zero_le _⟩ dX2_ahead_43 ?_
      refine g_istore_n F (lv' := [(0, .ref (a 0)), (1, .int (nI n)), (2, .int u), (3, .int (S_pass nw n))]) dX2_ahead_46 rfl (by decide) [1, 2, 3, 0] rfl ?_
      refine g_iload_n F dX2_ahead_47 rfl 2 rfl ?_
      refine g_if_ne F 61 dX2_ahead_48 (by decide) (fun c3 => ?_) (fun c3 => ?_)
      · refine g_iload_n F dX2_ahead_61 rfl 2 rfl ?_
        refine g_iconst F (v := 1) dX2_ahead_62 (by decide) ?_
        refine g_icmp_ne F 76 dX2_ahead_63 (by decide) (fun c4 => ?_) (fun c4 => ?_)
        · refine g_iload_n F dX2_ahead_76 rfl 2 rfl ?_
          refine g_iconst F (v := 2) dX2_ahead_77 (by decide) ?_
          refine g_icmp_ne F 92 dX2_ahead_78 (by decide) (fun c5 => ?_) (fun c5 => ?_)
          · refine g_aload_n F dX2_ahead_92 rfl 0 rfl ?_
            refine g_get F (.ref (a 3)) zX2_ahead_inX2 0 rfl rfl 3 (by decide) rfl zX2_ahead_f16 dX2_ahead_93 ?_
            refine g_bipush F (v := 69) dX2_ahead_96 (by decide) ?_
            refine g_as (nI 69) rfl ?_
            refine g_iald F (j := 69) 3 0 rfl rfl (by omega) (by decide) dX2_ahead_98 ?_
            exact g_endI (hR _ _ dX2_ahead_99) (by first | (simp only [S_ahead, c1, c2, c3, c4, c5, Bool.false_eq_true, ↓reduceIte]; done) | (with_reducible rfl) | (simp [S_ahead, c1, c2, c3, c4, c5, Bool.false_eq_true, ↓reduceIte]; done)) rfl
          · refine g_aload_n F dX2_ahead_81 rfl 0 rfl ?_
            refine g_get F (.ref (a 3)) zX2_ahead_inX2 0 rfl rfl 3 (by decide) rfl zX2_ahead_f16 dX2_ahead_82 ?_
            refine g_iconst F (v := 1) dX2_ahead_85 (by decide) ?_
            refine g_callS F (As := [.ref (a 3), .int 1]) (st := []) ([(a 0, .inr (2, [.ref (a 1), .int (nI ln), .ref (a 2), .ref (a 3), .ref (a 4), .int (nI ac), .int (nI nx), .ref (a 5), .ref (a 6), .ref (a 7), .ref (a 8), .int (nI se), .long sd, .ref (a 9), .ref (a 10)])), (a 1, .inl (cI, 60, .inl tx)), (a 2, .inl (cI, 79, .inl nw)), (a 4, .inl (cI, 1106, .inl di)), (a 5, .inl (cI, 158, .inl ke)), (a 6, .inl (cZ, 2, .inl ik)), (a 7, .inl (cI, 6, .inl s1)), (a 8, .inl (cI, 6, .inl s2)), (a 9, .inl (cI, 64, .inl wo)), (a 10, .inl (cI, 79, .inl re))]) ([(a 0, .inr (2, [.ref (a 1), .int (nI ln), .ref (a 2), .ref (a 3), .ref (a 4), .int (nI ac), .int (nI nx), .ref (a 5), .ref (a 6), .ref (a 7), .ref (a 8), .int (nI se), .long sd, .ref (a 9), .ref (a 10)])), (a 1, .inl (cI, 60, .inl tx)), (a 2, .inl (cI, 79, .inl nw)), (a 3, .inl (cI, 79, .inl (S_ticks nw n))), (a 4, .inl (cI, 1106, .inl di)), (a 5, .inl (cI, 158, .inl ke)), (a 6, .inl (cZ, 2, .inl ik)), (a 7, .inl (cI, 6, .inl s1)), (a 8, .inl (cI, 6, .inl s2)), (a 9, .inl (cI, 64, .inl wo)), (a 10, .inl (cI, 79, .inl re))]) [3] [0, 1, 2, 4, 5, 6, 7, 8, 9, 10] [0, 1, 2, 10, 3, 4, 5, 6, 7, 8, 9] (kX2_those l D cI cZ cQ (a 3) (S_ticks nw n) 1 ) (va_cwS 2 F.2.2.2.2.1 gX2_ahead_X2_those rfl rfl rfl (by decide +kernel) ⟨Nat.le_of_ble_eq_true rfl, Nat.le_of_ble_eq_true rfl⟩) rfl rfl rfl rfl (by decide) (by decide) (by decide) rfl (by decide) (Nat.le_of_ble_eq_true rfl) ⟨Nat.zero_le _, Nat.zero_le _⟩ dX2_ahead_86 ?_
            refine g_goto F 99 dX2_ahead_89 (by decide) ?_
            exact g_endI (hR _ _ dX2_ahead_99) (by first | (simp only [S_ahead, c1, c2, c3, c4, c5, Bool.false_eq_true, ↓reduceIte]; done) | (with_reducible rfl) | (simp [S_ahead, c1, c2, c3, c4, c5, Bool.false_eq_true, ↓reduceIte]; done)) rfl
        · refine g_aload_n F dX2_ahead_66 rfl 0 rfl ?_
          refine g_get F (.ref (a 3)) zX2_ahead_inX2 0 rfl rfl 3 (by decide) rfl zX2_ahead_f16 dX2_ahead_67 ?_
          refine g_bipush F (v := 72) dX2_ahead_70 (by decide) ?_
          refine g_as (nI 72) rfl ?_
          refine g_iald F (j := 72) 3 0 rfl rfl (by omega) (by decide) dX2_ahead_72 ?_
          refine g_goto F 99 dX2_ahead_73 (by decide) ?_
          exact g_endI (hR _ _ dX2_ahead_99) (by first | (simp only [S_ahead, c1, c2, c3, c4, Bool.false_eq_true, ↓reduceIte]; done) | (with_reducible rfl) | (simp [S_ahead, c1, c2, c3, c4, Bool.false_eq_true, ↓reduceIte]; done)) rfl
      · refine g_aload_n F dX2_ahead_51 rfl 0 rfl ?_
        refine g_get F (.ref (a 3)) zX2_ahead_inX2 0 rfl rfl 3 (by decide) rfl zX2_ahead_f16 dX2_ahead_52 ?_
        refine g_bipush F (v := 71) dX2_ahead_55 (by decide) ?_
        refine g_as (nI 71) rfl ?_
        refine g_iald F (j := 71) 3 0 rfl rfl (by omega) (by decide) dX2_ahead_57 ?_
        refine g_goto F 99 dX2_ahead_58 (by decide) ?_
        exact g_endI (hR _ _ dX2_ahead_99) (by first | (simp only [S_ahead, c1, c2, c3, Bool.false_eq_true, ↓reduceIte]; done) | (with_reducible rfl) | (simp [S_ahead, c1, c2, c3, Bool.false_eq_true, ↓reduceIte]; done)) rfl
    · exact absurd c2 (by rw [hc]; decide)
theorem zX2_crowd_c151 : Cond.constantLong RX2 151 (99) ∈ wsX2_crowd := by decide +kernel
set_option maxHeartbeats 1000000 in
set_option maxRecDepth 100000 in
theorem kX2_crowd_bad (l : Launch) (D : va_G) (cI cZ cQ : ClassId) (a : Nat → Nat) (tx : Row) (ln : Nat) (nw tr di : Row) (ac nx : Nat) (ke ik s1 s2 : Row) (se : Nat) (sd : Int64) (wo re : Row) (v : Int32) (hb : S_in (Int32.toInt64 v) 1 99 = false) : Ct l D (gTy cI cZ cQ) yX2_crowd wsX2_crowd ({ frames := 7, cells := 0, slots := 0, locals := 200 }) [.ref (a 0), .int v] (MW cI cZ a tx ln nw tr di ac nx ke ik s1 s2 se sd wo re) (some (.int (-2))) (MW cI cZ a tx ln nw tr di ac nx ke ik s1 s2 se sd wo re) := by
  refine ct_ofI (cc := cX2_crowd) (nL := 5) (own := RX2) (by decide) rfl rfl ⟨rfl, rfl⟩ (Nat.le_of_ble_eq_true rfl) MW_same (fun p e s m below meth c A Q F hR => ?_)
  refine g_aw ([(a 0, .inr (2, [.ref (a 1), .int (nI ln), .ref (a 2), .ref (a 3), .ref (a 4), .int (nI ac), .int (nI nx), .ref (a 5), .ref (a 6), .ref (a 7), .ref (a 8), .int (nI se), .long sd, .ref (a 9), .ref (a 10)])), (a 1, .inl (cI, 60, .inl tx)), (a 2, .inl (cI, 79, .inl nw)), (a 3, .inl (cI, 79, .inl tr)), (a 4, .inl (cI, 1106, .inl di)), (a 5, .inl (cI, 158, .inl ke)), (a 6, .inl (cZ, 2, .inl ik)), (a 7, .inl (cI, 6, .inl s1)), (a 8, .inl (cI, 6, .inl s2)), (a 9, .inl (cI, 64, .inl wo)), (a 10, .inl (cI, 79, .inl re))]) rfl ?_
  refine g_iload_n F dX2_crowd_0 rfl 1 rfl ?_
  refine g_i2l F dX2_crowd_1 ?_
  refine g_lconst F (v := 1) dX2_crowd_2 (by decide) ?_
  refine g_ldc2 F zX2_crowd_c151 dX2_crowd_3 ?_
  refine g_callSn F (As := [.long (Int32.toInt64 v), .long 1, .long 99]) (st := []) (kX2_in l D cI cZ cQ (Int32.toInt64 v) 1 99) (va_cwS 3 F.2.2.2.2.1 gX2_crowd_X2_in rfl rfl rfl (by decide +kernel) ⟨Nat.le_of_ble_eq_true rfl, Nat.le_of_ble_eq_true rfl⟩) rfl rfl (Nat.le_of_ble_eq_true rfl) ⟨Nat.zero_le _, Nat.zero_le _⟩ dX2_crowd_6 ?_
  refine g_bne F 15 dX2_crowd_9 (by decide) (fun c1 => ?_) (fun c1 => ?_)
  · exact absurd c1 (by rw [hb]; decide)
  · refine g_bipush F (v := (-2)) dX2_crowd_12 (by decide) ?_
    exact g_endI (hR _ _ dX2_crowd_14) rfl rfl
theorem zX2_crowd_f13 : Cond.fieldLink RX2 13 (TX2 2).1 (TX2 2).2.1 (TX2 2).2.2.1 ∈ wsX2_crowd := by decide +kernel
theorem zX2_crowd_f16 : Cond.fieldLink RX2 16 (TX2 3).1 (TX2 3).2.1 (TX2 3).2.2.1 ∈ wsX2_crowd := by decide +kernel
theorem zX2_crowd_inX2 : ∀ w ∈ u_ws RX2 TX2 15, w ∈ wsX2_crowd := by decide +kernel
set_option maxHeartbeats 1000000 in
set_option maxRecDepth 100000 in
theorem kX2_crowd_ok (l : Launch) (D : va_G) (cI cZ cQ : ClassId) (a : Nat → Nat) (tx : Row) (ln : Nat) (nw tr di : Row) (ac nx : Nat) (ke ik s1 s2 : Row) (se : Nat) (sd : Int64) (wo re : Row) (n : Nat) (hn : n < 2 ^ 31) (hb : S_in (Int32.toInt64 (nI n)) 1 99 = true) (hz : Z67 nw) : Ct l D (gTy cI cZ cQ) yX2_crowd wsX2_crowd ({ frames := 7, cells := 0, slots := 0, locals := 200 }) [.ref (a 0), .int (nI n)] (MW cI cZ a tx ln nw tr di ac nx ke ik s1 s2 se sd wo re) (some (.int (S_crowd nw n))) (MW cI cZ a tx ln nw (S_ticks nw n) di ac nx ke ik s1 s2 se sd wo re) := by
  refine ct_ofI (cc := cX2_crowd) (nL := 5) (own := RX2) (by decide) rfl rfl ⟨rfl, rfl⟩ (Nat.le_of_ble_eq_true rfl) MW_same (fun p e s m below meth c A Q F hR => ?_)
  refine g_aw ([(a 0, .inr (2, [.ref (a 1), .int (nI ln), .ref (a 2), .ref (a 3), .ref (a 4), .int (nI ac), .int (nI nx), .ref (a 5), .ref (a 6), .ref (a 7), .ref (a 8), .int (nI se), .long sd, .ref (a 9), .ref (a 10)])), (a 1, .inl (cI, 60, .inl tx)), (a 2, .inl (cI, 79, .inl nw)), (a 3, .inl (cI, 79, .inl tr)), (a 4, .inl (cI, 1106, .inl di)), (a 5, .inl (cI, 158, .inl ke)), (a 6, .inl (cZ, 2, .inl ik)), (a 7, .inl (cI, 6, .inl s1)), (a 8, .inl (cI, 6, .inl s2)), (a 9, .inl (cI, 64, .inl wo)), (a 10, .inl (cI, 79, .inl re))]) rfl ?_
  refine g_iload_n F dX2_crowd_0 rfl 1 rfl ?_
  refine g_i2l F dX2_crowd_1 ?_
  refine g_lconst F (v := 1) dX2_crowd_2 (by decide) ?_
  refine g_ldc2 F zX2_crowd_c151 dX2_crowd_3 ?_
  refine g_callSn F (As := [.long (Int32.toInt64 (nI n)), .long 1, .long 99]) (st := []) (kX2_in l D cI cZ cQ (Int32.toInt64 (nI n)) 1 99) (va_cwS 3 F.2.2.2.2.1 gX2_crowd_X2_in rfl rfl rfl (by decide +kernel) ⟨Nat.le_of_ble_eq_true rfl, Nat.le_of_ble_eq_true rfl⟩) rfl rfl (Nat.le_of_ble_eq_true rfl) ⟨Nat.zero_le _, Nat.zero_le _⟩ dX2_crowd_6 ?_
  refine g_bne F 15 dX2_crowd_9 (by decide) (fun c1 => ?_) (fun c1 => ?_)
  · refine g_aload_n F dX2_crowd_15 rfl 0 rfl ?_
    refine g_get F (.ref (a 2)) zX2_crowd_inX2 0 rfl rfl 2 (by decide) rfl zX2_crowd_f13 dX2_crowd_16 ?_
    refine g_aload_n F dX2_crowd_19 rfl 0 rfl ?_
    refine g_get F (.ref (a 3)) zX2_crowd_inX2 0 rfl rfl 3 (by decide) rfl zX2_crowd_f16 dX2_crowd_20 ?_
    refine g_callS F (As := [.ref (a 2), .ref (a 3)]) (st := []) ([(a 0, .inr (2, [.ref (a 1), .int (nI ln), .ref (a 2), .ref (a 3), .ref (a 4), .int (nI ac), .int (nI nx), .ref (a 5), .ref (a 6), .ref (a 7), .ref (a 8), .int (nI se), .long sd, .ref (a 9), .ref (a 10)])), (a 1, .inl (cI, 60, .inl tx)), (a 4, .inl (cI, 1106, .inl di)), (a 5, .inl (cI, 158, .inl ke)), (a 6, .inl (cZ, 2, .inl ik)), (a 7, .inl (cI, 6, .inl s1)), (a 8, .inl (cI, 6, .inl s2)), (a 9, .inl (cI, 64, .inl wo)), (a 10, .inl (cI, 79, .inl re))]) ([(a 0, .inr (2, [.ref (a 1), .int (nI ln), .ref (a 2), .ref (a 3), .ref (a 4), .int (nI ac), .int (nI nx), .ref (a 5), .ref (a 6), .ref (a 7), .ref (a 8), .int (nI se), .long sd, .ref (a 9), .ref (a 10)])), (a 1, .inl (cI, 60, .inl tx)), (a 2, .inl (cI, 79, .inl nw)), (a 3, .inl (cI, 79, .inl nw)), (a 4, .inl (cI, 1106, .inl di)), (a 5, .inl (cI, 158, .inl ke)), (a 6, .inl (cZ, 2, .inl ik)), (a 7, .inl (cI, 6, .inl s1)), (a 8, .inl (cI, 6, .inl s2)), (a 9, .inl (cI, 64, .inl wo)), (a 10, .inl (cI, 79, .inl re))]) [2, 3] [0, 1, 4, 5, 6, 7, 8, 9, 10] [0, 1, 9, 10, 2, 3, 4, 5, 6, 7, 8] (kX2_copy l D cI cZ cQ (a 2) (a 3) nw tr) (va_cwS 2 F.2.2.2.2.1 gX2_crowd_X2_copy rfl rfl rfl (by decide +kernel) ⟨Nat.le_of_ble_eq_true rfl, Nat.le_of_ble_eq_true rfl⟩) rfl rfl rfl rfl (by decide) (by decide) (by decide) rfl (by decide) (Nat.le_of_ble_eq_true rfl) ⟨Nat.zero_le _, Nat.zero_le _⟩ dX2_crowd_23 ?_
    refine g_iconst F (v := 0) dX2_crowd_26 (by decide) ?_
    refine g_istore_n F (lv' := [(0, .ref (a 0)), (1, .int (nI n)), (2, .int 0)]) dX2_crowd_27 rfl (by decide) [1, 2, 0] rfl ?_
    refine g_iconst F (v := 0) dX2_crowd_28 (by decide) ?_
    refine g_istore_n F (lv' := [(0, .ref (a 0)), (1, .int (nI n)), (2, .int 0), (3, .int 0)]) dX2_crowd_29 rfl (by decide) [1, 2, 3, 0] rfl ?_
    refine g_all (w0 := [(a 0, .inr (2, [.ref (a 1), .int (nI ln), .ref (a 2), .ref (a 3), .ref (a 4), .int (nI ac), .int (nI nx), .ref (a 5), .ref (a 6), .ref (a 7), .ref (a 8), .int (nI se), .long sd, .ref (a 9), .ref (a 10)])), (a 1, .inl (cI, 60, .inl tx)), (a 2, .inl (cI, 79, .inl nw)), (a 3, .inl (cI, 79, .inl (S_ticks nw 0))), (a 4, .inl (cI, 1106, .inl di)), (a 5, .inl (cI, 158, .inl ke)), (a 6, .inl (cZ, 2, .inl ik)), (a 7, .inl (cI, 6, .inl s1)), (a 8, .inl (cI, 6, .inl s2)), (a 9, .inl (cI, 64, .inl wo)), (a 10, .inl (cI, 79, .inl re))]) (lv0 := [(0, .ref (a 0)), (1, .int (nI n)), (2, .int (S_crowd nw 0)), (3, .int (nI 0))]) (st0 := []) rfl rfl rfl ?_
    refine g_for n (fun i => True) (fun i => [(a 0, .inr (2, [.ref (a 1), .int (nI ln), .ref (a 2), .ref (a 3), .ref (a 4), .int (nI ac), .int (nI nx), .ref (a 5), .ref (a 6), .ref (a 7), .ref (a 8), .int (nI se), .long sd, .ref (a 9), .ref (a 10)])), (a 1, .inl (cI, 60, .inl tx)), (a 2, .inl (cI, 79, .inl nw)), (a 3, .inl (cI, 79, .inl (S_ticks nw i))), (a 4, .inl (cI, 1106, .inl di)), (a 5, .inl (cI, 158, .inl ke)), (a 6, .inl (cZ, 2, .inl ik)), (a 7, .inl (cI, 6, .inl s1)), (a 8, .inl (cI, 6, .inl s2)), (a 9, .inl (cI, 64, .inl wo)), (a 10, .inl (cI, 79, .inl re))]) (fun i => [(0, .ref (a 0)), (1, .int (nI n)), (2, .int (S_crowd nw i)), (3, .int (nI i))]) (fun i hi hIi ihi => ?_) 0 (Nat.zero_le _) trivial
    refine g_iload_n F dX2_crowd_30 rfl 3 rfl ?_
    refine g_iload_n F dX2_crowd_31 rfl 1 rfl ?_
    refine g_icmp_ge F 64 dX2_crowd_32 (by decide) (fun c2 => ?_) (fun c2 => ?_)
    · have hx_c2 : n = i := lp_ge hi hn c2
      subst hx_c2
      refine g_iload_n F dX2_crowd_64 rfl 2 rfl ?_
      exact g_endI (hR _ _ dX2_crowd_65) rfl rfl
    · have hlti : i < n := lp_lt hi hn c2
      refine g_aload_n F dX2_crowd_35 rfl 0 rfl ?_
      refine g_get F (.ref (a 3)) zX2_crowd_inX2 0 rfl rfl 3 (by decide) rfl zX2_crowd_f16 dX2_crowd_36 ?_
      refine g_iconst F (v := 1) dX2_crowd_39 (by decide) ?_
      refine g_callS F (As := [.ref (a 3), .int 1]) (st := []) ([(a 0, .inr (2, [.ref (a 1), .int (nI ln), .ref (a 2), .ref (a 3), .ref (a 4), .int (nI ac), .int (nI nx), .ref (a 5), .ref (a 6), .ref (a 7), .ref (a 8), .int (nI se), .long sd, .ref (a 9), .ref (a 10)])), (a 1, .inl (cI, 60, .inl tx)), (a 2, .inl (cI, 79, .inl nw)), (a 4, .inl (cI, 1106, .inl di)), (a 5, .inl (cI, 158, .inl ke)), (a 6, .inl (cZ, 2, .inl ik)), (a 7, .inl (cI, 6, .inl s1)), (a 8, .inl (cI, 6, .inl s2)), (a 9, .inl (cI, 64, .inl wo)), (a 10, .inl (cI, 79, .inl re))]) ([(a 0, .inr (2, [.ref (a 1), .int (nI ln), .ref (a 2), .ref (a 3), .ref (a 4), .int (nI ac), .int (nI nx), .ref (a 5), .ref (a 6), .ref (a 7), .ref (a 8), .int (nI se), .long sd, .ref (a 9), .ref (a 10)])), (a 1, .inl (cI, 60, .inl tx)), (a 2, .inl (cI, 79, .inl nw)), (a 3, .inl (cI, 79, .inl (S_ticks (S_ticks nw i) 1))), (a 4, .inl (cI, 1106, .inl di)), (a 5, .inl (cI, 158, .inl ke)), (a 6, .inl (cZ, 2, .inl ik)), (a 7, .inl (cI, 6, .inl s1)), (a 8, .inl (cI, 6, .inl s2)), (a 9, .inl (cI, 64, .inl wo)), (a 10, .inl (cI, 79, .inl re))]) [3] [0, 1, 2, 4, 5, 6, 7, 8, 9, 10] [0, 1, 2, 10, 3, 4, 5, 6, 7, 8, 9] (kX2_passOn l D cI cZ cQ (a 3) (S_ticks nw i) 1 (by omega) (Z_ticks hz _)) (va_cwS 2 F.2.2.2.2.1 gX2_crowd_X2_passOn rfl rfl rfl (by decide +kernel) ⟨Nat.le_of_ble_eq_true rfl, Nat.le_of_ble_eq_true rfl⟩) rfl rfl rfl rfl (by decide) (by decide) (by decide) rfl (by decide) (Nat.le_of_ble_eq_true rfl) ⟨Nat.zero_le _, Nat.zero_le _⟩ dX2_crowd_40 ?_
      refine g_istore F (lv' := [(0, .ref (a 0)), (1, .int (nI n)), (2, .int (S_crowd nw i)), (3, .int (nI i)), (4, .int (S_pass (S_ticks nw i) 1))]) dX2_crowd_43 (by decide) [1, 2, 3, 4, 0] rfl ?_
      refine g_iload F dX2_crowd_45 4 rfl ?_
      refine g_iload_n F dX2_crowd_47 rfl 2 rfl ?_
      refine g_icmp_le F 56 dX2_crowd_48 (by decide) (fun c3 => ?_) (fun c3 => ?_)
      · refine g_iload_n F dX2_crowd_56 rfl 2 rfl ?_
        refine g_istore_n F (lv' := [(0, .ref (a 0)), (1, .int (nI n)), (2, .int (S_crowd nw i)), (3, .int (nI i)), (4, .int (S_pass (S_ticks nw i) 1))]) dX2_crowd_57 rfl (by decide) [1, 2, 0, 3, 4] rfl ?_
        refine g_iinc F (lv' := [(0, .ref (a 0)), (1, .int (nI n)), (2, .int (S_crowd nw i)), (3, .int (nI (i + 1))), (4, .int (S_pass (S_ticks nw i) 1))]) (nI (i + 1)) dX2_crowd_58 3 rfl (nI_add i 1) (by decide) [1, 2, 3, 0, 4] rfl ?_
        refine g_goto F 30 dX2_crowd_61 (by decide) ?_
        refine g_lvs (lv' := [(0, .ref (a 0)), (1, .int (nI n)), (2, .int (S_crowd nw i)), (3, .int (nI (i + 1)))]) [0, 1, 2, 3] rfl ?_
        refine g_all (w0 := [(a 0, .inr (2, [.ref (a 1), .int (nI ln), .ref (a 2), .ref (a 3), .ref (a 4), .int (nI ac), .int (nI nx), .ref (a 5), .ref (a 6), .ref (a 7), .ref (a 8), .int (nI se), .long sd, .ref (a 9), .ref (a 10)])), (a 1, .inl (cI, 60, .inl tx)), (a 2, .inl (cI, 79, .inl nw)), (a 3, .inl (cI, 79, .inl (S_ticks nw (i + 1)))), (a 4, .inl (cI, 1106, .inl di)), (a 5, .inl (cI, 158, .inl ke)), (a 6, .inl (cZ, 2, .inl ik)), (a 7, .inl (cI, 6, .inl s1)), (a 8, .inl (cI, 6, .inl s2)), (a 9, .inl (cI, 64, .inl wo)), (a 10, .inl (cI, 79, .inl re))]) (lv0 := [(0, .ref (a 0)), (1, .int (nI n)), (2, .int (S_crowd nw (i + 1))), (3, .int (nI (i + 1)))]) (st0 := []) (by rw [S_ticks_1, S_ticks_s]) (by rw [S_crowd_s, S_max_t c3]) rfl ?_
        exact ihi hlti trivial
      · refine g_iload F dX2_crowd_51 4 rfl ?_
        refine g_goto F 57 dX2_crowd_53 (by decide) ?_
        refine g_istore_n F (lv' := [(0, .ref (a 0)), (1, .int (nI n)), (2, .int (S_pass (S_ticks nw i) 1)), (3, .int (nI i)), (4, .int (S_pass (S_ticks nw i) 1))]) dX2_crowd_57 rfl (by decide) [1, 2, 0, 3, 4] rfl ?_
        refine g_iinc F (lv' := [(0, .ref (a 0)), (1, .int (nI n)), (2, .int (S_pass (S_ticks nw i) 1)), (3, .int (nI (i + 1))), (4, .int (S_pass (S_ticks nw i) 1))]) (nI (i + 1)) dX2_crowd_58 3 rfl (nI_add i 1) (by decide) [1, 2, 3, 0, 4] rfl ?_
        refine g_goto F 30 dX2_crowd_61 (by decide) ?_
        refine g_lvs (lv' := [(0, .ref (a 0)), (1, .int (nI n)), (2, .int (S_pass (S_ticks nw i) 1)), (3, .int (nI (i + 1)))]) [0, 1, 2, 3] rfl ?_
        refine g_all (w0 := [(a 0, .inr (2, [.ref (a 1), .int (nI ln), .ref (a 2), .ref (a 3), .ref (a 4), .int (nI ac), .int (nI nx), .ref (a 5), .ref (a 6), .ref (a 7), .ref (a 8), .int (nI se), .long sd, .ref (a 9), .ref (a 10)])), (a 1, .inl (cI, 60, .inl tx)), (a 2, .inl (cI, 79, .inl nw)), (a 3, .inl (cI, 79, .inl (S_ticks nw (i + 1)))), (a 4, .inl (cI, 1106, .inl di)), (a 5, .inl (cI, 158, .inl ke)), (a 6, .inl (cZ, 2, .inl ik)), (a 7, .inl (cI, 6, .inl s1)), (a 8, .inl (cI, 6, .inl s2)), (a 9, .inl (cI, 64, .inl wo)), (a 10, .inl (cI, 79, .inl re))]) (lv0 := [(0, .ref (a 0)), (1, .int (nI n)), (2, .int (S_crowd nw (i + 1))), (3, .int (nI (i + 1)))]) (st0 := []) (by rw [S_ticks_1, S_ticks_s]) (by rw [S_crowd_s, S_max_f c3]) rfl ?_
        exact ihi hlti trivial
  · exact absurd c1 (by rw [hb]; decide)
