theorem kX2_readText (l : Launch) (D : va_G) (cI cZ cQ : ClassId) (a : Nat → Nat) (tx : Row) (ln : Nat) (nw tr di : Row) (ac nx : Nat) (ke ik s1 s2 : Row) (se : Nat) (sd : Int64) (wo re : Row) (hln : ln ≤ 60) : Ct l D (gTy cI cZ cQ) yX2_readText wsX2_readText ({ frames := 6, cells := 0, slots := 0, locals := 190 }) [.ref (a 0)] (MW cI cZ a tx ln nw tr di ac nx ke ik s1 s2 se sd wo re) (some (.int (S_read tx ln).1)) (MW cI cZ a tx ln nw tr di ac nx ke ik s1 s2 se sd wo ((S_read tx ln).2)) := by
  unfold S_read
  by_cases h0 : ln = 0
  · rw [if_pos h0]
    exact kX2_readText_a l D cI cZ cQ a tx ln nw tr di ac nx ke ik s1 s2 se sd wo re hln (Or.inl h0)
  · rw [if_neg h0]
    by_cases h77 : tx 0 = 77
    · rw [if_pos h77]
      cases hh : S_hd tx ln 1 6 with
      | some k =>
        obtain ⟨h1, h2, h3, h4⟩ := hd_some hh
        exact kX2_readText_b l D cI cZ cQ a tx ln nw tr di ac nx ke ik s1 s2 se sd wo re hln (by omega) h77 k h1 (by omega) h3 h4
      | none => exact kX2_readText_c l D cI cZ cQ a tx ln nw tr di ac nx ke ik s1 s2 se sd wo re hln (by omega) h77 (fun j h1 h2 => hd_none hh j h1 (by omega))
    · rw [if_neg h77]
      exact kX2_readText_a l D cI cZ cQ a tx ln nw tr di ac nx ke ik s1 s2 se sd wo re hln (Or.inr h77)
set_option maxHeartbeats 1000000 in
set_option maxRecDepth 100000 in
theorem kX2_fault (l : Launch) (D : va_G) (cI cZ cQ : ClassId) (a : Nat → Nat) (tx : Row) (ln : Nat) (nw tr di : Row) (ac nx : Nat) (ke ik s1 s2 : Row) (se : Nat) (sd : Int64) (wo re : Row) (hln : ln ≤ 60) : Ct l D (gTy cI cZ cQ) yX2_fault wsX2_fault ({ frames := 7, cells := 0, slots := 0, locals := 216 }) [.ref (a 0)] (MW cI cZ a tx ln nw tr di ac nx ke ik s1 s2 se sd wo re) (some (.int ((S_read tx ln).1))) (MW cI cZ a tx ln nw tr di ac nx ke ik s1 s2 se sd wo ((S_read tx ln).2)) := by
  refine ct_ofI (cc := cX2_fault) (nL := 1) (own := RX2) (by decide) rfl rfl ⟨rfl, rfl⟩ (Nat.le_of_ble_eq_true rfl) MW_same (fun p e s m below meth c A Q F hR => ?_)
  refine g_aw ([(a 0, .inr (2, [.ref (a 1), .int (nI ln), .ref (a 2), .ref (a 3), .ref (a 4), .int (nI ac), .int (nI nx), .ref (a 5), .ref (a 6), .ref (a 7), .ref (a 8), .int (nI se), .long sd, .ref (a 9), .ref (a 10)])), (a 1, .inl (cI, 60, .inl tx)), (a 2, .inl (cI, 79, .inl nw)), (a 3, .inl (cI, 79, .inl tr)), (a 4, .inl (cI, 1106, .inl di)), (a 5, .inl (cI, 158, .inl ke)), (a 6, .inl (cZ, 2, .inl ik)), (a 7, .inl (cI, 6, .inl s1)), (a 8, .inl (cI, 6, .inl s2)), (a 9, .inl (cI, 64, .inl wo)), (a 10, .inl (cI, 79, .inl re))]) rfl ?_
  refine g_aload_n F dX2_fault_0 rfl 0 rfl ?_
  refine g_callVs F (As := []) (st := []) (kX2_readText l D cI cZ cQ a tx ln nw tr di ac nx ke ik s1 s2 se sd wo re  hln) 0 rfl rfl (cwV 0 F.2.2.2.2.1 gX2_fault_X2_readText rfl rfl rfl (by decide +kernel) ⟨Nat.le_of_ble_eq_true rfl, Nat.le_of_ble_eq_true rfl⟩) rfl rfl (Nat.le_of_ble_eq_true rfl) ⟨Nat.zero_le _, Nat.zero_le _⟩ dX2_fault_1 ?_
  exact g_endI (hR _ _ dX2_fault_4) rfl rfl
set_option maxHeartbeats 1000000 in
set_option maxRecDepth 100000 in
theorem kX2_meeting_late (l : Launch) (D : va_G) (cI cZ cQ : ClassId) (a : Nat → Nat) (tx : Row) (ln : Nat) (nw tr di : Row) (ac nx : Nat) (ke ik s1 s2 : Row) (se : Nat) (sd : Int64) (wo re : Row) (hln : ln ≤ 60) (h : ¬ (S_read tx ln).1 = -9) : Ct l D (gTy cI cZ cQ) yX2_meeting wsX2_meeting ({ frames := 7, cells := 0, slots := 0, locals := 216 }) [.ref (a 0)] (MW cI cZ a tx ln nw tr di ac nx ke ik s1 s2 se sd wo re) (some (.int (-3))) (MW cI cZ a tx ln nw tr di ac nx ke ik s1 s2 se sd wo ((S_read tx ln).2)) := by
  refine ct_ofI (cc := cX2_meeting) (nL := 1) (own := RX2) (by decide) rfl rfl ⟨rfl, rfl⟩ (Nat.le_of_ble_eq_true rfl) MW_same (fun p e s m below meth c A Q F hR => ?_)
  refine g_aw ([(a 0, .inr (2, [.ref (a 1), .int (nI ln), .ref (a 2), .ref (a 3), .ref (a 4), .int (nI ac), .int (nI nx), .ref (a 5), .ref (a 6), .ref (a 7), .ref (a 8), .int (nI se), .long sd, .ref (a 9), .ref (a 10)])), (a 1, .inl (cI, 60, .inl tx)), (a 2, .inl (cI, 79, .inl nw)), (a 3, .inl (cI, 79, .inl tr)), (a 4, .inl (cI, 1106, .inl di)), (a 5, .inl (cI, 158, .inl ke)), (a 6, .inl (cZ, 2, .inl ik)), (a 7, .inl (cI, 6, .inl s1)), (a 8, .inl (cI, 6, .inl s2)), (a 9, .inl (cI, 64, .inl wo)), (a 10, .inl (cI, 79, .inl re))]) rfl ?_
  refine g_aload_n F dX2_meeting_0 rfl 0 rfl ?_
  refine g_callVs F (As := []) (st := []) (kX2_readText l D cI cZ cQ a tx ln nw tr di ac nx ke ik s1 s2 se sd wo re  hln) 0 rfl rfl (cwV 0 F.2.2.2.2.1 gX2_meeting_X2_readText rfl rfl rfl (by decide +kernel) ⟨Nat.le_of_ble_eq_true rfl, Nat.le_of_ble_eq_true rfl⟩) rfl rfl (Nat.le_of_ble_eq_true rfl) ⟨Nat.zero_le _, Nat.zero_le _⟩ dX2_meeting_1 ?_
  refine g_bipush F (v := (-9)) dX2_meeting_4 (by decide) ?_
  refine g_icmp_eq F 12 dX2_meeting_6 (by decide) (fun c1 => ?_) (fun c1 => ?_)
  · exact absurd c1 h
  · refine g_bipush F (v := (-3)) dX2_meeting_9 (by decide) ?_
    exact g_endI (hR _ _ dX2_meeting_11) rfl rfl
theorem zX2_meeting_f13 : Cond.fieldLink RX2 13 (TX2 2).1 (TX2 2).2.1 (TX2 2).2.2.1 ∈ wsX2_meeting := by decide +kernel
theorem zX2_meeting_f132 : Cond.fieldLink RX2 132 (TX2 5).1 (TX2 5).2.1 (TX2 5).2.2.1 ∈ wsX2_meeting := by decide +kernel
theorem zX2_meeting_f25 : Cond.fieldLink RX2 25 (TX2 8).1 (TX2 8).2.1 (TX2 8).2.2.1 ∈ wsX2_meeting := by decide +kernel
theorem zX2_meeting_f38 : Cond.fieldLink RX2 38 (TX2 14).1 (TX2 14).2.1 (TX2 14).2.2.1 ∈ wsX2_meeting := by decide +kernel
theorem zX2_meeting_inX2 : ∀ w ∈ u_ws RX2 TX2 15, w ∈ wsX2_meeting := by decide +kernel
set_option maxHeartbeats 1000000 in
set_option maxRecDepth 100000 in
theorem kX2_meeting_ok (l : Launch) (D : va_G) (cI cZ cQ : ClassId) (a : Nat → Nat) (tx : Row) (ln : Nat) (nw tr di : Row) (ac nx : Nat) (ke ik s1 s2 : Row) (se : Nat) (sd : Int64) (wo re : Row) (hln : ln ≤ 60) (h : (S_read tx ln).1 = -9) : Ct l D (gTy cI cZ cQ) yX2_meeting wsX2_meeting ({ frames := 7, cells := 0, slots := 0, locals := 216 }) [.ref (a 0)] (MW cI cZ a tx ln nw tr di ac nx ke ik s1 s2 se sd wo re) (some (.int ((S_read tx ln).2 70))) (MW cI cZ a tx ln ((S_read tx ln).2) tr di 0 nx ke (upd (upd ik 0 0) 1 0) s1 s2 se sd wo ((S_read tx ln).2)) := by
  refine ct_ofI (cc := cX2_meeting) (nL := 1) (own := RX2) (by decide) rfl rfl ⟨rfl, rfl⟩ (Nat.le_of_ble_eq_true rfl) MW_same (fun p e s m below meth c A Q F hR => ?_)
  refine g_aw ([(a 0, .inr (2, [.ref (a 1), .int (nI ln), .ref (a 2), .ref (a 3), .ref (a 4), .int (nI ac), .int (nI nx), .ref (a 5), .ref (a 6), .ref (a 7), .ref (a 8), .int (nI se), .long sd, .ref (a 9), .ref (a 10)])), (a 1, .inl (cI, 60, .inl tx)), (a 2, .inl (cI, 79, .inl nw)), (a 3, .inl (cI, 79, .inl tr)), (a 4, .inl (cI, 1106, .inl di)), (a 5, .inl (cI, 158, .inl ke)), (a 6, .inl (cZ, 2, .inl ik)), (a 7, .inl (cI, 6, .inl s1)), (a 8, .inl (cI, 6, .inl s2)), (a 9, .inl (cI, 64, .inl wo)), (a 10, .inl (cI, 79, .inl re))]) rfl ?_
  refine g_aload_n F dX2_meeting_0 rfl 0 rfl ?_
  refine g_callVs F (As := []) (st := []) (kX2_readText l D cI cZ cQ a tx ln nw tr di ac nx ke ik s1 s2 se sd wo re  hln) 0 rfl rfl (cwV 0 F.2.2.2.2.1 gX2_meeting_X2_readText rfl rfl rfl (by decide +kernel) ⟨Nat.le_of_ble_eq_true rfl, Nat.le_of_ble_eq_true rfl⟩) rfl rfl (Nat.le_of_ble_eq_true rfl) ⟨Nat.zero_le _, Nat.zero_le _⟩ dX2_meeting_1 ?_
  refine g_bipush F (v := (-9)) dX2_meeting_4 (by decide) ?_
  refine g_icmp_eq F 12 dX2_meeting_6 (by decide) (fun c1 => ?_) (fun c1 => ?_)
  · refine g_aload_n F dX2_meeting_12 rfl 0 rfl ?_
    refine g_get F (.ref (a 10)) zX2_meeting_inX2 0 rfl rfl 14 (by decide) rfl zX2_meeting_f38 dX2_meeting_13 ?_
    refine g_aload_n F dX2_meeting_16 rfl 0 rfl ?_
    refine g_get F (.ref (a 2)) zX2_meeting_inX2 0 rfl rfl 2 (by decide) rfl zX2_meeting_f13 dX2_meeting_17 ?_
    refine g_callS F (As := [.ref (a 10), .ref (a 2)]) (st := []) ([(a 0, .inr (2, [.ref (a 1), .int (nI ln), .ref (a 2), .ref (a 3), .ref (a 4), .int (nI ac), .int (nI nx), .ref (a 5), .ref (a 6), .ref (a 7), .ref (a 8), .int (nI se), .long sd, .ref (a 9), .ref (a 10)])), (a 1, .inl (cI, 60, .inl tx)), (a 3, .inl (cI, 79, .inl tr)), (a 4, .inl (cI, 1106, .inl di)), (a 5, .inl (cI, 158, .inl ke)), (a 6, .inl (cZ, 2, .inl ik)), (a 7, .inl (cI, 6, .inl s1)), (a 8, .inl (cI, 6, .inl s2)), (a 9, .inl (cI, 64, .inl wo))]) ([(a 0, .inr (2, [.ref (a 1), .int (nI ln), .ref (a 2), .ref (a 3), .ref (a 4), .int (nI ac), .int (nI nx), .ref (a 5), .ref (a 6), .ref (a 7), .ref (a 8), .int (nI se), .long sd, .ref (a 9), .ref (a 10)])), (a 1, .inl (cI, 60, .inl tx)), (a 2, .inl (cI, 79, .inl ((S_read tx ln).2))), (a 3, .inl (cI, 79, .inl tr)), (a 4, .inl (cI, 1106, .inl di)), (a 5, .inl (cI, 158, .inl ke)), (a 6, .inl (cZ, 2, .inl ik)), (a 7, .inl (cI, 6, .inl s1)), (a 8, .inl (cI, 6, .inl s2)), (a 9, .inl (cI, 64, .inl wo)), (a 10, .inl (cI, 79, .inl ((S_read tx ln).2)))]) [10, 2] [0, 1, 3, 4, 5, 6, 7, 8, 9] [0, 1, 10, 2, 3, 4, 5, 6, 7, 8, 9] (kX2_copy l D cI cZ cQ (a 10) (a 2) ((S_read tx ln).2) nw) (va_cwS 2 F.2.2.2.2.1 gX2_meeting_X2_copy rfl rfl rfl (by decide +kernel) ⟨Nat.le_of_ble_eq_true rfl, Nat.le_of_ble_eq_true rfl⟩) rfl rfl rfl rfl (by decide) (by decide) (by decide) rfl (by decide) (Nat.le_of_ble_eq_true rfl) ⟨Nat.zero_le _, Nat.zero_le _⟩ dX2_meeting_20 ?_
    refine g_aload_n F dX2_meeting_23 rfl 0 rfl ?_
    refine g_iconst F (v := 0) dX2_meeting_24 (by decide) ?_
    refine g_put F ([(a 0, .inr (2, [.ref (a 1), .int (nI ln), .ref (a 2), .ref (a 3), .ref (a 4), .int 0, .int (nI nx), .ref (a 5), .ref (a 6), .ref (a 7), .ref (a 8), .int (nI se), .long sd, .ref (a 9), .ref (a 10)])), (a 1, .inl (cI, 60, .inl tx)), (a 2, .inl (cI, 79, .inl ((S_read tx ln).2))), (a 3, .inl (cI, 79, .inl tr)), (a 4, .inl (cI, 1106, .inl di)), (a 5, .inl (cI, 158, .inl ke)), (a 6, .inl (cZ, 2, .inl ik)), (a 7, .inl (cI, 6, .inl s1)), (a 8, .inl (cI, 6, .inl s2)), (a 9, .inl (cI, 64, .inl wo)), (a 10, .inl (cI, 79, .inl ((S_read tx ln).2)))]) zX2_meeting_inX2 tyX2 tyX2_ok nmX2 0 rfl rfl 5 (by decide) rfl rfl rfl (Nat.le_of_ble_eq_true rfl) zX2_meeting_f132 dX2_meeting_25 rfl ?_
    refine g_aload_n F dX2_meeting_28 rfl 0 rfl ?_
    refine g_get F (.ref (a 6)) zX2_meeting_inX2 0 rfl rfl 8 (by decide) rfl zX2_meeting_f25 dX2_meeting_29 ?_
    refine g_iconst F (v := 0) dX2_meeting_32 (by decide) ?_
    refine g_iconst F (v := 0) dX2_meeting_33 (by decide) ?_
    refine g_as2 (nI 0) rfl ?_
    refine g_zast F (j := 0) ([(a 0, .inr (2, [.ref (a 1), .int (nI ln), .ref (a 2), .ref (a 3), .ref (a 4), .int 0, .int (nI nx), .ref (a 5), .ref (a 6), .ref (a 7), .ref (a 8), .int (nI se), .long sd, .ref (a 9), .ref (a 10)])), (a 1, .inl (cI, 60, .inl tx)), (a 2, .inl (cI, 79, .inl ((S_read tx ln).2))), (a 3, .inl (cI, 79, .inl tr)), (a 4, .inl (cI, 1106, .inl di)), (a 5, .inl (cI, 158, .inl ke)), (a 6, .inl (cZ, 2, .inl (upd ik 0 (vp_nar .boolean 0)))), (a 7, .inl (cI, 6, .inl s1)), (a 8, .inl (cI, 6, .inl s2)), (a 9, .inl (cI, 64, .inl wo)), (a 10, .inl (cI, 79, .inl ((S_read tx ln).2)))]) 6 1 rfl rfl (by omega) (by decide) dX2_meeting_34 rfl ?_
    refine g_aload_n F dX2_meeting_35 rfl 0 rfl ?_
    refine g_get F (.ref (a 6)) zX2_meeting_inX2 0 rfl rfl 8 (by decide) rfl zX2_meeting_f25 dX2_meeting_36 ?_
    refine g_iconst F (v := 1) dX2_meeting_39 (by decide) ?_
    refine g_iconst F (v := 0) dX2_meeting_40 (by decide) ?_
    refine g_as2 (nI 1) rfl ?_
    refine g_zast F (j := 1) ([(a 0, .inr (2, [.ref (a 1), .int (nI ln), .ref (a 2), .ref (a 3), .ref (a 4), .int 0, .int (nI nx), .ref (a 5), .ref (a 6), .ref (a 7), .ref (a 8), .int (nI se), .long sd, .ref (a 9), .ref (a 10)])), (a 1, .inl (cI, 60, .inl tx)), (a 2, .inl (cI, 79, .inl ((S_read tx ln).2))), (a 3, .inl (cI, 79, .inl tr)), (a 4, .inl (cI, 1106, .inl di)), (a 5, .inl (cI, 158, .inl ke)), (a 6, .inl (cZ, 2, .inl (upd (upd ik 0 (vp_nar .boolean 0)) 1 (vp_nar .boolean 0)))), (a 7, .inl (cI, 6, .inl s1)), (a 8, .inl (cI, 6, .inl s2)), (a 9, .inl (cI, 64, .inl wo)), (a 10, .inl (cI, 79, .inl ((S_read tx ln).2)))]) 6 1 rfl rfl (by omega) (by decide) dX2_meeting_41 rfl ?_
    refine g_aload_n F dX2_meeting_42 rfl 0 rfl ?_
    refine g_get F (.ref (a 2)) zX2_meeting_inX2 0 rfl rfl 2 (by decide) rfl zX2_meeting_f13 dX2_meeting_43 ?_
    refine g_bipush F (v := 70) dX2_meeting_46 (by decide) ?_
    refine g_as (nI 70) rfl ?_
    refine g_iald F (j := 70) 2 0 rfl rfl (by omega) (by decide) dX2_meeting_48 ?_
    exact g_endI (hR _ _ dX2_meeting_49) rfl rfl
  · exact absurd h c1
theorem zX2_jitter_c155 : Cond.constantLong RX2 155 (6) ∈ wsX2_jitter := by decide +kernel
set_option maxHeartbeats 1000000 in
set_option maxRecDepth 100000 in
theorem kX2_jitter_bad (l : Launch) (D : va_G) (cI cZ cQ : ClassId) (a : Nat → Nat) (tx : Row) (ln : Nat) (nw tr di : Row) (ac nx : Nat) (ke ik s1 s2 : Row) (se : Nat) (sd : Int64) (wo re : Row) (v : Int32) (x : Int64) (hb : S_in (Int32.toInt64 v) 1 6 = false) : Ct l D (gTy cI cZ cQ) yX2_jitter wsX2_jitter ({ frames := 1, cells := 0, slots := 0, locals := 50 }) [.ref (a 0), .int v, .long x] (MW cI cZ a tx ln nw tr di ac nx ke ik s1 s2 se sd wo re) (some (.int (-2))) (MW cI cZ a tx ln nw tr di ac nx ke ik s1 s2 se sd wo re) := by
  refine ct_ofI (cc := cX2_jitter) (nL := 9) (own := RX2) (by decide) rfl rfl ⟨rfl, rfl⟩ (Nat.le_of_ble_eq_true rfl) MW_same (fun p e s m below meth c A Q F hR => ?_)
  refine g_aw ([(a 0, .inr (2, [.ref (a 1), .int (nI ln), .ref (a 2), .ref (a 3), .ref (a 4), .int (nI ac), .int (nI nx), .ref (a 5), .ref (a 6), .ref (a 7), .ref (a 8), .int (nI se), .long sd, .ref (a 9), .ref (a 10)])), (a 1, .inl (cI, 60, .inl tx)), (a 2, .inl (cI, 79, .inl nw)), (a 3, .inl (cI, 79, .inl tr)), (a 4, .inl (cI, 1106, .inl di)), (a 5, .inl (cI, 158, .inl ke)), (a 6, .inl (cZ, 2, .inl ik)), (a 7, .inl (cI, 6, .inl s1)), (a 8, .inl (cI, 6, .inl s2)), (a 9, .inl (cI, 64, .inl wo)), (a 10, .inl (cI, 79, .inl re))]) rfl ?_
  refine g_iload_n F dX2_jitter_0 rfl 1 rfl ?_
  refine g_i2l F dX2_jitter_1 ?_
  refine g_lconst F (v := 1) dX2_jitter_2 (by decide) ?_
  refine g_ldc2 F zX2_jitter_c155 dX2_jitter_3 ?_
  refine g_callSn F (As := [.long (Int32.toInt64 v), .long 1, .long 6]) (st := []) (kX2_in l D cI cZ cQ (Int32.toInt64 v) 1 6) (va_cwS 3 F.2.2.2.2.1 gX2_jitter_X2_in rfl rfl rfl (by decide +kernel) ⟨Nat.le_of_ble_eq_true rfl, Nat.le_of_ble_eq_true rfl⟩) rfl rfl (Nat.le_of_ble_eq_true rfl) ⟨Nat.zero_le _, Nat.zero_le _⟩ dX2_jitter_6 ?_
  refine g_beq F 29 dX2_jitter_9 (by decide) (fun c1 => ?_) (fun c1 => ?_)
  · refine g_bipush F (v := (-2)) dX2_jitter_29 (by decide) ?_
    exact g_endI (hR _ _ dX2_jitter_31) rfl rfl
  · exact absurd c1 (by rw [hb]; decide)
theorem zX2_jitter_c157 : Cond.constantLong RX2 157 (100) ∈ wsX2_jitter := by decide +kernel
set_option maxHeartbeats 1000000 in
set_option maxRecDepth 100000 in
theorem kX2_jitter_bad2 (l : Launch) (D : va_G) (cI cZ cQ : ClassId) (a : Nat → Nat) (tx : Row) (ln : Nat) (nw tr di : Row) (ac nx : Nat) (ke ik s1 s2 : Row) (se : Nat) (sd : Int64) (wo re : Row) (n : Nat) (x : Int64) (hn : n < 2 ^ 31) (hb : S_in (Int32.toInt64 (nI n)) 1 6 = true) (hc : S_in x 0 (S_lpow 100 n - 1) = false) : Ct l D (gTy cI cZ cQ) yX2_jitter wsX2_jitter ({ frames := 1, cells := 0, slots := 0, locals := 50 }) [.ref (a 0), .int (nI n), .long x] (MW cI cZ a tx ln nw tr di ac nx ke ik s1 s2 se sd wo re) (some (.int (-2))) (MW cI cZ a tx ln nw tr di ac nx ke ik s1 s2 se sd wo re) := by
  refine ct_ofI (cc := cX2_jitter) (nL := 9) (own := RX2) (by decide) rfl rfl ⟨rfl, rfl⟩ (Nat.le_of_ble_eq_true rfl) MW_same (fun p e s m below meth c A Q F hR => ?_)
  refine g_aw ([(a 0, .inr (2, [.ref (a 1), .int (nI ln), .ref (a 2), .ref (a 3), .ref (a 4), .int (nI ac), .int (nI nx), .ref (a 5), .ref (a 6), .ref (a 7), .ref (a 8), .int (nI se), .long sd, .ref (a 9), .ref (a 10)])), (a 1, .inl (cI, 60, .inl tx)), (a 2, .inl (cI, 79, .inl nw)), (a 3, .inl (cI, 79, .inl tr)), (a 4, .inl (cI, 1106, .inl di)), (a 5, .inl (cI, 158, .inl ke)), (a 6, .inl (cZ, 2, .inl ik)), (a 7, .inl (cI, 6, .inl s1)), (a 8, .inl (cI, 6, .inl s2)), (a 9, .inl (cI, 64, .inl wo)), (a 10, .inl (cI, 79, .inl re))]) rfl ?_
  refine g_iload_n F dX2_jitter_0 rfl 1 rfl ?_
  refine g_i2l F dX2_jitter_1 ?_
  refine g_lconst F (v := 1) dX2_jitter_2 (by decide) ?_
  refine g_ldc2 F zX2_jitter_c155 dX2_jitter_3 ?_
  refine g_callSn F (As := [.long (Int32.toInt64 (nI n)), .long 1, .long 6]) (st := []) (kX2_in l D cI cZ cQ (Int32.toInt64 (nI n)) 1 6) (va_cwS 3 F.2.2.2.2.1 gX2_jitter_X2_in rfl rfl rfl (by decide +kernel) ⟨Nat.le_of_ble_eq_true rfl, Nat.le_of_ble_eq_true rfl⟩) rfl rfl (Nat.le_of_ble_eq_true rfl) ⟨Nat.zero_le _, Nat.zero_le _⟩ dX2_jitter_6 ?_
  refine g_beq F 29 dX2_jitter_9 (by decide) (fun c1 => ?_) (fun c1 => ?_)
  · exact absurd c1 (by rw [hb]; decide)
  · refine g_lload_n F dX2_jitter_12 rfl 2 rfl ?_
    refine g_lconst F (v := 0) dX2_jitter_13 (by decide) ?_
    refine g_ldc2 F zX2_jitter_c157 dX2_jitter_14 ?_
    refine g_iload_n F dX2_jitter_17 rfl 1 rfl ?_
    refine g_callSn F (As := [.long 100, .int (nI n)]) (st := [.long 0, .long x]) (kX2_longPower l D cI cZ cQ 100 n (by omega)) (va_cwS 2 F.2.2.2.2.1 gX2_jitter_X2_longPower rfl rfl rfl (by decide +kernel) ⟨Nat.le_of_ble_eq_true rfl, Nat.le_of_ble_eq_true rfl⟩) rfl rfl (Nat.le_of_ble_eq_true rfl) ⟨Nat.zero_le _, Nat.zero_le _⟩ dX2_jitter_18 ?_
    refine g_lconst F (v := 1) dX2_jitter_21 (by decide) ?_
    refine g_lsub F dX2_jitter_22 ?_
    refine g_callSn F (As := [.long x, .long 0, .long ((S_lpow 100 n) - 1)]) (st := []) (kX2_in l D cI cZ cQ x 0 ((S_lpow 100 n) - 1)) (va_cwS 3 F.2.2.2.2.1 gX2_jitter_X2_in rfl rfl rfl (by decide +kernel) ⟨Nat.le_of_ble_eq_true rfl, Nat.le_of_ble_eq_true rfl⟩) rfl rfl (Nat.le_of_ble_eq_true rfl) ⟨Nat.zero_le _, Nat.zero_le _⟩ dX2_jitter_23 ?_
    refine g_bne F 32 dX2_jitter_26 (by decide) (fun c2 => ?_) (fun c2 => ?_)
    · exact absurd c2 (by rw [hc]; decide)
    · refine g_bipush F (v := (-2)) dX2_jitter_29 (by decide) ?_
      exact g_endI (hR _ _ dX2_jitter_31) rfl rfl
set_option maxHeartbeats 1000000 in
set_option maxRecDepth 100000 in
theorem kX2_jitter_ok (l : Launch) (D : va_G) (cI cZ cQ : ClassId) (a : Nat → Nat) (tx : Row) (ln : Nat) (nw tr di : Row) (ac nx : Nat) (ke ik s1 s2 : Row) (se : Nat) (sd : Int64) (wo re : Row) (n : Nat) (x : Int64) (hn : n ≤ 6) (hb : S_in (Int32.toInt64 (nI n)) 1 6 = true) (hc : S_in x 0 (S_lpow 100 n - 1) = true) : Ct l D (gTy cI cZ cQ) yX2_jitter wsX2_jitter ({ frames := 1, cells := 0, slots := 0, locals := 50 }) [.ref (a 0), .int (nI n), .long x] (MW cI cZ a tx ln nw tr di ac nx ke ik s1 s2 se sd wo re) (some (.int (S_jv x n n))) (MW cI cZ a tx ln nw tr di ac nx ke ik s1 s2 se sd wo re) := by
  refine ct_ofI (cc := cX2_jitter) (nL := 9) (own := RX2) (by decide) rfl rfl ⟨rfl, rfl⟩ (Nat.le_of_ble_eq_true rfl) MW_same (fun p e s m below meth c A Q F hR => ?_)
  refine g_aw ([(a 0, .inr (2, [.ref (a 1), .int (nI ln), .ref (a 2), .ref (a 3), .ref (a 4), .int (nI ac), .int (nI nx), .ref (a 5), .ref (a 6), .ref (a 7), .ref (a 8), .int (nI se), .long sd, .ref (a 9), .ref (a 10)])), (a 1, .inl (cI, 60, .inl tx)), (a 2, .inl (cI, 79, .inl nw)), (a 3, .inl (cI, 79, .inl tr)), (a 4, .inl (cI, 1106, .inl di)), (a 5, .inl (cI, 158, .inl ke)), (a 6, .inl (cZ, 2, .inl ik)), (a 7, .inl (cI, 6, .inl s1)), (a 8, .inl (cI, 6, .inl s2)), (a 9, .inl (cI, 64, .inl wo)), (a 10, .inl (cI, 79, .inl re))]) rfl ?_
  refine g_iload_n F dX2_jitter_0 rfl 1 rfl ?_
  refine g_i2l F dX2_jitter_1 ?_
  refine g_lconst F (v := 1) dX2_jitter_2 (by decide) ?_
  refine g_ldc2 F zX2_jitter_c155 dX2_jitter_3 ?_
  refine g_callSn F (As := [.long (Int32.toInt64 (nI n)), .long 1, .long 6]) (st := []) (kX2_in l D cI cZ cQ (Int32.toInt64 (nI n)) 1 6) (va_cwS 3 F.2.2.2.2.1 gX2_jitter_X2_in rfl rfl rfl (by decide +kernel) ⟨Nat.le_of_ble_eq_true rfl, Nat.le_of_ble_eq_true rfl⟩) rfl rfl (Nat.le_of_ble_eq_true rfl) ⟨Nat.zero_le _, Nat.zero_le _⟩ dX2_jitter_6 ?_
  refine g_beq F 29 dX2_jitter_9 (by decide) (fun c1 => ?_) (fun c1 => ?_)
  · exact absurd c1 (by rw [hb]; decide)
  · refine g_lload_n F dX2_jitter_12 rfl 2 rfl ?_
    refine g_lconst F (v := 0) dX2_jitter_13 (by decide) ?_
    refine g_ldc2 F zX2_jitter_c157 dX2_jitter_14 ?_
    refine g_iload_n F dX2_jitter_17 rfl 1 rfl ?_
    refine g_callSn F (As := [.long 100, .int (nI n)]) (st := [.long 0, .long x]) (kX2_longPower l D cI cZ cQ 100 n (by omega)) (va_cwS 2 F.2.2.2.2.1 gX2_jitter_X2_longPower rfl rfl rfl (by decide +kernel) ⟨Nat.le_of_ble_eq_true rfl, Nat.le_of_ble_eq_true rfl⟩) rfl rfl (Nat.le_of_ble_eq_true rfl) ⟨Nat.zero_le _, Nat.zero_le _⟩ dX2_jitter_18 ?_
    refine g_lconst F (v := 1) dX2_jitter_21 (by decide) ?_
    refine g_lsub F dX2_jitter_22 ?_
    refine g_callSn F (As := [.long x, .long 0, .long ((S_lpow 100 n) - 1)]) (st := []) (kX2_in l D cI cZ cQ x 0 ((S_lpow 100 n) - 1)) (va_cwS 3 F.2.2.2.2.1 gX2_jitter_X2_in rfl rfl rfl (by decide +kernel) ⟨Nat.le_of_ble_eq_true rfl, Nat.le_of_ble_eq_true rfl⟩) rfl rfl (Nat.le_of_ble_eq_true rfl) ⟨Nat.zero_le _, Nat.zero_le _⟩ dX2_jitter_23 ?_
    refine g_bne F 32 dX2_jitter_26 (by decide) (fun c2 => ?_) (fun c2 => ?_)
    · refine g_iconst F (v := 0) dX2_jitter_32 (by decide) ?_
      refine g_istore F (lv' := [(0, .ref (a 0)), (1, .int (nI n)), (2, .long x), (4, .int 0)]) dX2_jitter_33 (by decide) [1, 2, 3, 0] rfl ?_
      refine g_iconst F (v := 0) dX2_jitter_35 (by decide) ?_
      refine g_istore F (lv' := [(0, .ref (a 0)), (1, .int (nI n)), (2, .long x), (4, .int 0), (5, .int 0)]) dX2_jitter_36 (by decide) [1, 2, 3, 4, 0] rfl ?_
      refine g_iconst F (v := 0) dX2_jitter_38 (by decide) ?_
      refine g_istore F (lv' := [(0, .ref (a 0)), (1, .int (nI n)), (2, .long x), (4, .int 0), (5, .int 0), (6, .int 0)]) dX2_jitter_39 (by decide) [1, 2, 3, 4, 5, 0] rfl ?_
      refine g_all (w0 := [(a 0, .inr (2, [.ref (a 1), .int (nI ln), .ref (a 2), .ref (a 3), .ref (a 4), .int (nI ac), .int (nI nx), .ref (a 5), .ref (a 6), .ref (a 7), .ref (a 8), .int (nI se), .long sd, .ref (a 9), .ref (a 10)])), (a 1, .inl (cI, 60, .inl tx)), (a 2, .inl (cI, 79, .inl nw)), (a 3, .inl (cI, 79, .inl tr)), (a 4, .inl (cI, 1106, .inl di)), (a 5, .inl (cI, 158, .inl ke)), (a 6, .inl (cZ, 2, .inl ik)), (a 7, .inl (cI, 6, .inl s1)), (a 8, .inl (cI, 6, .inl s2)), (a 9, .inl (cI, 64, .inl wo)), (a 10, .inl (cI, 79, .inl re))]) (lv0 := [(0, .ref (a 0)), (1, .int (nI n)), (2, .long x), (4, .int (S_jv x n 0)), (5, .int (S_jw x n 0)), (6, .int (nI 0))]) (st0 := []) rfl rfl rfl ?_
      refine g_for n (fun i => True) (fun i => [(a 0, .inr (2, [.ref (a 1), .int (nI ln), .ref (a 2), .ref (a 3), .ref (a 4), .int (nI ac), .int (nI nx), .ref (a 5), .ref (a 6), .ref (a 7), .ref (a 8), .int (nI se), .long sd, .ref (a 9), .ref (a 10)])), (a 1, .inl (cI, 60, .inl tx)), (a 2, .inl (cI, 79, .inl nw)), (a 3, .inl (cI, 79, .inl tr)), (a 4, .inl (cI, 1106, .inl di)), (a 5, .inl (cI, 158, .inl ke)), (a 6, .inl (cZ, 2, .inl ik)), (a 7, .inl (cI, 6, .inl s1)), (a 8, .inl (cI, 6, .inl s2)), (a 9, .inl (cI, 64, .inl wo)), (a 10, .inl (cI, 79, .inl re))]) (fun i => [(0, .ref (a 0)), (1, .int (nI n)), (2, .long x), (4, .int (S_jv x n i)), (5, .int (S_jw x n i)), (6, .int (nI i))]) (fun i hi hIi ihi => ?_) 0 (Nat.zero_le _) trivial
      refine g_iload F dX2_jitter_41 5 rfl ?_
      refine g_iload_n F dX2_jitter_43 rfl 1 rfl ?_
      refine g_icmp_ge F 134 dX2_jitter_44 (by decide) (fun c3 => ?_) (fun c3 => ?_)
      · have hx_c3 : n = i := lp_ge hi (by omega) c3
        subst hx_c3
        refine g_iload F dX2_jitter_134 3 rfl ?_
        exact g_endI (hR _ _ dX2_jitter_136) rfl rfl
      · have hlti : i < n := lp_lt hi (by omega) c3
        refine g_lload_n F dX2_jitter_47 rfl 2 rfl ?_
        refine g_ldc2 F zX2_jitter_c157 dX2_jitter_48 ?_
        refine g_iload_n F dX2_jitter_51 rfl 1 rfl ?_
        refine g_iconst F (v := 1) dX2_jitter_52 (by decide) ?_
        refine g_isub F dX2_jitter_53 ?_
        refine g_iload F dX2_jitter_54 5 rfl ?_
        refine g_isub F dX2_jitter_56 ?_
        refine g_as (nI (n - 1 - i)) (by rw [show (1 : Int32) = nI 1 from rfl, pk_sub (by omega), pk_sub (by omega)]) ?_
        refine g_callSn F (As := [.long 100, .int (nI (n - 1 - i))]) (st := [.long x]) (kX2_longPower l D cI cZ cQ 100 (n - 1 - i) (by omega)) (va_cwS 2 F.2.2.2.2.1 gX2_jitter_X2_longPower rfl rfl rfl (by decide +kernel) ⟨Nat.le_of_ble_eq_true rfl, Nat.le_of_ble_eq_true rfl⟩) rfl rfl (Nat.le_of_ble_eq_true rfl) ⟨Nat.zero_le _, Nat.zero_le _⟩ dX2_jitter_57 ?_
        refine g_ldiv F dX2_jitter_60 (lp100 (by omega)) ?_
        refine g_ldc2 F zX2_jitter_c157 dX2_jitter_61 ?_
        refine g_lrem F dX2_jitter_64 (by decide) ?_
        refine g_l2i F dX2_jitter_65 ?_
        refine g_as (S_tm x n i) rfl ?_
        refine g_istore F (lv' := [(0, .ref (a 0)), (1, .int (nI n)), (2, .long x), (4, .int (S_jv x n i)), (5, .int (S_jw x n i)), (6, .int (nI i)), (7, .int (S_tm x n i))]) dX2_jitter_66 (by decide) [1, 2, 3, 4, 5, 6, 0] rfl ?_
        refine g_iload F dX2_jitter_68 5 rfl ?_
        refine g_if_ne F 77 dX2_jitter_70 (by decide) (fun c4 => ?_) (fun c4 => ?_)
        · have hi0 : 0 < i := nI_nz c4
          refine g_iload F dX2_jitter_77 6 rfl ?_
          refine g_iload F dX2_jitter_79 4 rfl ?_
          refine g_icmp_le F 92 dX2_jitter_81 (by decide) (fun c5 => ?_) (fun c5 => ?_)
          · refine g_iload F dX2_jitter_92 4 rfl ?_
            refine g_iload F dX2_jitter_94 6 rfl ?_
            refine g_isub F dX2_jitter_96 ?_
            refine g_istore F (lv' := [(0, .ref (a 0)), (1, .int (nI n)), (2, .long x), (4, .int (S_jv x n i)), (5, .int (S_jw x n i)), (6, .int (nI i)), (7, .int (S_tm x n i)), (8, .int ((S_jw x n i) - (S_tm x n i)))]) dX2_jitter_97 (by decide) [1, 2, 3, 4, 5, 6, 7, 0] rfl ?_
            refine g_iload F dX2_jitter_99 5 rfl ?_
            refine g_if_ne F 108 dX2_jitter_101 (by decide) (fun c6 => ?_) (fun c6 => ?_)
            · refine g_iload F dX2_jitter_108 3 rfl ?_
              refine g_iload F dX2_jitter_110 7 rfl ?_
              refine g_iadd F dX2_jitter_112 ?_
              refine g_iload F dX2_jitter_113 3 rfl ?_
              refine g_bipush F (v := 8) dX2_jitter_115 (by decide) ?_
              refine g_iadd F dX2_jitter_117 ?_
              refine g_bipush F (v := 16) dX2_jitter_118 (by decide) ?_
              refine g_idiv F dX2_jitter_120 (by decide) ?_
              refine g_isub F dX2_jitter_121 ?_
              refine g_istore F (lv' := [(0, .ref (a 0)), (1, .int (nI n)), (2, .long x), (4, .int (((S_jv x n i) + ((S_jw x n i) - (S_tm x n i))) - (((S_jv x n i) + 8) / 16))), (5, .int (S_jw x n i)), (6, .int (nI i)), (7, .int (S_tm x n i)), (8, .int ((S_jw x n i) - (S_tm x n i)))]) dX2_jitter_122 (by decide) [1, 2, 3, 0, 4, 5, 6, 7] rfl ?_
              refine g_iload F dX2_jitter_124 6 rfl ?_
              refine g_istore F (lv' := [(0, .ref (a 0)), (1, .int (nI n)), (2, .long x), (4, .int (((S_jv x n i) + ((S_jw x n i) - (S_tm x n i))) - (((S_jv x n i) + 8) / 16))), (5, .int (S_tm x n i)), (6, .int (nI i)), (7, .int (S_tm x n i)), (8, .int ((S_jw x n i) - (S_tm x n i)))]) dX2_jitter_126 (by decide) [1, 2, 3, 4, 0, 5, 6, 7] rfl ?_
              refine g_iinc F (lv' := [(0, .ref (a 0)), (1, .int (nI n)), (2, .long x), (4, .int (((S_jv x n i) + ((S_jw x n i) - (S_tm x n i))) - (((S_jv x n i) + 8) / 16))), (5, .int (S_tm x n i)), (6, .int (nI (i + 1))), (7, .int (S_tm x n i)), (8, .int ((S_jw x n i) - (S_tm x n i)))]) (nI (i + 1)) dX2_jitter_128 5 rfl (nI_add i 1) (by decide) [1, 2, 3, 4, 5, 0, 6, 7] rfl ?_
              refine g_goto F 41 dX2_jitter_131 (by decide) ?_
              refine g_lvs (lv' := [(0, .ref (a 0)), (1, .int (nI n)), (2, .long x), (4, .int (((S_jv x n i) + ((S_jw x n i) - (S_tm x n i))) - (((S_jv x n i) + 8) / 16))), (5, .int (S_tm x n i)), (6, .int (nI (i + 1)))]) [0, 1, 2, 3, 4, 5] rfl ?_
              refine g_all (w0 := [(a 0, .inr (2, [.ref (a 1), .int (nI ln), .ref (a 2), .ref (a 3), .ref (a 4), .int (nI ac), .int (nI nx), .ref (a 5), .ref (a 6), .ref (a 7), .ref (a 8), .int (nI se), .long sd, .ref (a 9), .ref (a 10)])), (a 1, .inl (cI, 60, .inl tx)), (a 2, .inl (cI, 79, .inl nw)), (a 3, .inl (cI, 79, .inl tr)), (a 4, .inl (cI, 1106, .inl di)), (a 5, .inl (cI, 158, .inl ke)), (a 6, .inl (cZ, 2, .inl ik)), (a 7, .inl (cI, 6, .inl s1)), (a 8, .inl (cI, 6, .inl s2)), (a 9, .inl (cI, 64, .inl wo)), (a 10, .inl (cI, 79, .inl re))]) (lv0 := [(0, .ref (a 0)), (1, .int (nI n)), (2, .long x), (4, .int (S_jv x n (i + 1))), (5, .int (S_jw x n (i + 1))), (6, .int (nI (i + 1)))]) (st0 := []) rfl (by rw [jv_s hi0, jw_s, ap_t c5]) rfl ?_
              exact ihi hlti trivial
            · exact absurd (nI_z (by omega) c6) (by omega)
          · refine g_iload F dX2_jitter_84 6 rfl ?_
            refine g_iload F dX2_jitter_86 4 rfl ?_
            refine g_isub F dX2_jitter_88 ?_
            refine g_goto F 97 dX2_jitter_89 (by decide) ?_
            refine g_istore F (lv' := [(0, .ref (a 0)), (1, .int (nI n)), (2, .long x), (4, .int (S_jv x n i)), (5, .int (S_jw x n i)), (6, .int (nI i)), (7, .int (S_tm x n i)), (8, .int ((S_tm x n i) - (S_jw x n i)))]) dX2_jitter_97 (by decide) [1, 2, 3, 4, 5, 6, 7, 0] rfl ?_
            refine g_iload F dX2_jitter_99 5 rfl ?_
            refine g_if_ne F 108 dX2_jitter_101 (by decide) (fun c7 => ?_) (fun c7 => ?_)
            · refine g_iload F dX2_jitter_108 3 rfl ?_
              refine g_iload F dX2_jitter_110 7 rfl ?_
              refine g_iadd F dX2_jitter_112 ?_
              refine g_iload F dX2_jitter_113 3 rfl ?_
              refine g_bipush F (v := 8) dX2_jitter_115 (by decide) ?_
              refine g_iadd F dX2_jitter_117 ?_
              refine g_bipush F (v := 16) dX2_jitter_118 (by decide) ?_
              refine g_idiv F dX2_jitter_120 (by decide) ?_
              refine g_isub F dX2_jitter_121 ?_
              refine g_istore F (lv' := [(0, .ref (a 0)), (1, .int (nI n)), (2, .long x), (4, .int (((S_jv x n i) + ((S_tm x n i) - (S_jw x n i))) - (((S_jv x n i) + 8) / 16))), (5, .int (S_jw x n i)), (6, .int (nI i)), (7, .int (S_tm x n i)), (8, .int ((S_tm x n i) - (S_jw x n i)))]) dX2_jitter_122 (by decide) [1, 2, 3, 0, 4, 5, 6, 7] rfl ?_
              refine g_iload F dX2_jitter_124 6 rfl ?_
              refine g_istore F (lv' := [(0, .ref (a 0)), (1, .int (nI n)), (2, .long x), (4, .int (((S_jv x n i) + ((S_tm x n i) - (S_jw x n i))) - (((S_jv x n i) + 8) / 16))), (5, .int (S_tm x n i)), (6, .int (nI i)), (7, .int (S_tm x n i)), (8, .int ((S_tm x n i) - (S_jw x n i)))]) dX2_jitter_126 (by decide) [1, 2, 3, 4, 0, 5, 6, 7] rfl ?_
              refine g_iinc F (lv' := [(0, .ref (a 0)), (1, .int (nI n)), (2, .long x), (4, .int (((S_jv x n i) + ((S_tm x n i) - (S_jw x n i))) - (((S_jv x n i) + 8) / 16))), (5, .int (S_tm x n i)), (6, .int (nI (i + 1))), (7, .int (S_tm x n i)), (8, .int ((S_tm x n i) - (S_jw x n i)))]) (nI (i + 1)) dX2_jitter_128 5 rfl (nI_add i 1) (by decide) [1, 2, 3, 4, 5, 0, 6, 7] rfl ?_
              refine g_goto F 41 dX2_jitter_131 (by decide) ?_
              refine g_lvs (lv' := [(0, .ref (a 0)), (1, .int (nI n)), (2, .long x), (4, .int (((S_jv x n i) + ((S_tm x n i) - (S_jw x n i))) - (((S_jv x n i) + 8) / 16))), (5, .int (S_tm x n i)), (6, .int (nI (i + 1)))]) [0, 1, 2, 3, 4, 5] rfl ?_
              refine g_all (w0 := [(a 0, .inr (2, [.ref (a 1), .int (nI ln), .ref (a 2), .ref (a 3), .ref (a 4), .int (nI ac), .int (nI nx), .ref (a 5), .ref (a 6), .ref (a 7), .ref (a 8), .int (nI se), .long sd, .ref (a 9), .ref (a 10)])), (a 1, .inl (cI, 60, .inl tx)), (a 2, .inl (cI, 79, .inl nw)), (a 3, .inl (cI, 79, .inl tr)), (a 4, .inl (cI, 1106, .inl di)), (a 5, .inl (cI, 158, .inl ke)), (a 6, .inl (cZ, 2, .inl ik)), (a 7, .inl (cI, 6, .inl s1)), (a 8, .inl (cI, 6, .inl s2)), (a 9, .inl (cI, 64, .inl wo)), (a 10, .inl (cI, 79, .inl re))]) (lv0 := [(0, .ref (a 0)), (1, .int (nI n)), (2, .long x), (4, .int (S_jv x n (i + 1))), (5, .int (S_jw x n (i + 1))), (6, .int (nI (i + 1)))]) (st0 := []) rfl (by rw [jv_s hi0, jw_s, ap_f c5]) rfl ?_
              exact ihi hlti trivial
            · exact absurd (nI_z (by omega) c7) (by omega)
        · have hi0 : i = 0 := nI_z (by omega) c4
          refine g_iconst F (v := 0) dX2_jitter_73 (by decide) ?_
          refine g_goto F 97 dX2_jitter_74 (by decide) ?_
          refine g_istore F (lv' := [(0, .ref (a 0)), (1, .int (nI n)), (2, .long x), (4, .int (S_jv x n i)), (5, .int (S_jw x n i)), (6, .int (nI i)), (7, .int (S_tm x n i)), (8, .int 0)]) dX2_jitter_97 (by decide) [1, 2, 3, 4, 5, 6, 7, 0] rfl ?_
          refine g_iload F dX2_jitter_99 5 rfl ?_
          refine g_if_ne F 108 dX2_jitter_101 (by decide) (fun c8 => ?_) (fun c8 => ?_)
          · exact absurd (by rw [hi0]; rfl) c8
          · refine g_iconst F (v := 0) dX2_jitter_104 (by decide) ?_
            refine g_goto F 122 dX2_jitter_105 (by decide) ?_
            refine g_istore F (lv' := [(0, .ref (a 0)), (1, .int (nI n)), (2, .long x), (4, .int 0), (5, .int (S_jw x n i)), (6, .int (nI i)), (7, .int (S_tm x n i)), (8, .int 0)]) dX2_jitter_122 (by decide) [1, 2, 3, 0, 4, 5, 6, 7] rfl ?_
            refine g_iload F dX2_jitter_124 6 rfl ?_
            refine g_istore F (lv' := [(0, .ref (a 0)), (1, .int (nI n)), (2, .long x), (4, .int 0), (5, .int (S_tm x n i)), (6, .int (nI i)), (7, .int (S_tm x n i)), (8, .int 0)]) dX2_jitter_126 (by decide) [1, 2, 3, 4, 0, 5, 6, 7] rfl ?_
            refine g_iinc F (lv' := [(0, .ref (a 0)), (1, .int (nI n)), (2, .long x), (4, .int 0), (5, .int (S_tm x n i)), (6, .int (nI (i + 1))), (7, .int (S_tm x n i)), (8, .int 0)]) (nI (i + 1)) dX2_jitter_128 5 rfl (nI_add i 1) (by decide) [1, 2, 3, 4, 5, 0, 6, 7] rfl ?_
            refine g_goto F 41 dX2_jitter_131 (by decide) ?_
            refine g_lvs (lv' := [(0, .ref (a 0)), (1, .int (nI n)), (2, .long x), (4, .int 0), (5, .int (S_tm x n i)), (6, .int (nI (i + 1)))]) [0, 1, 2, 3, 4, 5] rfl ?_
            refine g_all (w0 := [(a 0, .inr (2, [.ref (a 1), .int (nI ln), .ref (a 2), .ref (a 3), .ref (a 4), .int (nI ac), .int (nI nx), .ref (a 5), .ref (a 6), .ref (a 7), .ref (a 8), .int (nI se), .long sd, .ref (a 9), .ref (a 10)])), (a 1, .inl (cI, 60, .inl tx)), (a 2, .inl (cI, 79, .inl nw)), (a 3, .inl (cI, 79, .inl tr)), (a 4, .inl (cI, 1106, .inl di)), (a 5, .inl (cI, 158, .inl ke)), (a 6, .inl (cZ, 2, .inl ik)), (a 7, .inl (cI, 6, .inl s1)), (a 8, .inl (cI, 6, .inl s2)), (a 9, .inl (cI, 64, .inl wo)), (a 10, .inl (cI, 79, .inl re))]) (lv0 := [(0, .ref (a 0)), (1, .int (nI n)), (2, .long x), (4, .int (S_jv x n (i + 1))), (5, .int (S_jw x n (i + 1))), (6, .int (nI (i + 1)))]) (st0 := []) rfl (by subst hi0; rfl) rfl ?_
            exact ihi hlti trivial
    · exact absurd c2 (by rw [hc]; decide)
