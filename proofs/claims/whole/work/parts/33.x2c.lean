set_option maxHeartbeats 1000000 in
set_option maxRecDepth 100000 in
theorem kX2_copy (l : Launch) (D : va_G) (cI cZ cQ : ClassId) (a a2 : Nat) (f g : Row) : Ct l D (gTy cI cZ cQ) yX2_copy wsX2_copy ({ frames := 0, cells := 0, slots := 0, locals := 0 }) [.ref a, .ref a2] ([(a, .inl (cI, 79, .inl f)), (a2, .inl (cI, 79, .inl g))]) none ([(a, .inl (cI, 79, .inl f)), (a2, .inl (cI, 79, .inl f))]) := by
  refine ct_ofV (cc := cX2_copy) (nL := 3) (own := RX2) (by decide) rfl rfl ⟨rfl, rfl⟩ (Nat.le_of_ble_eq_true rfl) (by simp only [List.map]) (fun p e s m below meth c A Q F hR => ?_)
  refine g_iconst F (v := 0) dX2_copy_0 (by decide) ?_
  refine g_istore_n F (lv' := [(0, .ref a), (1, .ref a2), (2, .int 0)]) dX2_copy_1 rfl (by decide) [1, 2, 0] rfl ?_
  refine g_all (w0 := [(a, .inl (cI, 79, .inl f)), (a2, .inl (cI, 79, .inl (S_put g f 0 0)))]) (lv0 := [(0, .ref a), (1, .ref a2), (2, .int (nI 0))]) (st0 := []) rfl rfl rfl ?_
  refine g_for 79 (fun i => True) (fun i => [(a, .inl (cI, 79, .inl f)), (a2, .inl (cI, 79, .inl (S_put g f 0 i)))]) (fun i => [(0, .ref a), (1, .ref a2), (2, .int (nI i))]) (fun i hi hIi ihi => ?_) 0 (Nat.zero_le _) trivial
  refine g_iload_n F dX2_copy_2 rfl 2 rfl ?_
  refine g_bipush F (v := 79) dX2_copy_3 (by decide) ?_
  refine g_icmp_ge F 20 dX2_copy_5 (by decide) (fun c1 => ?_) (fun c1 => ?_)
  · have hx_c1 : 79 = i := lp_ge hi (by decide) c1
    subst hx_c1
    refine g_wp (w2 := [(a, .inl (cI, 79, .inl f)), (a2, .inl (cI, 79, .inl f))]) (fun H h => row_cong (w1 := [(a, .inl (cI, 79, .inl f))]) (w3 := []) (S_put_0 g f 79) h) rfl ?_
    exact hR _ _ dX2_copy_20
  · have hlti : i < 79 := lp_lt hi (by decide) c1
    refine g_aload_n F dX2_copy_8 rfl 1 rfl ?_
    refine g_iload_n F dX2_copy_9 rfl 2 rfl ?_
    refine g_aload_n F dX2_copy_10 rfl 0 rfl ?_
    refine g_iload_n F dX2_copy_11 rfl 2 rfl ?_
    refine g_iald F (j := i) 0 0 rfl rfl (by omega) (by decide) dX2_copy_12 ?_
    refine g_iast F (j := i) ([(a, .inl (cI, 79, .inl f)), (a2, .inl (cI, 79, .inl (upd (S_put g f 0 i) i (f i))))]) 1 0 rfl rfl (by omega) (by decide) dX2_copy_13 rfl ?_
    refine g_iinc F (lv' := [(0, .ref a), (1, .ref a2), (2, .int (nI (i + 1)))]) (nI (i + 1)) dX2_copy_14 2 rfl (nI_add i 1) (by decide) [1, 2, 0] rfl ?_
    refine g_goto F 2 dX2_copy_17 (by decide) ?_
    refine g_all (w0 := [(a, .inl (cI, 79, .inl f)), (a2, .inl (cI, 79, .inl (S_put g f 0 (i + 1))))]) (lv0 := [(0, .ref a), (1, .ref a2), (2, .int (nI (i + 1)))]) (st0 := []) (by rw [S_put_s, Nat.zero_add]) rfl rfl ?_
    exact ihi hlti trivial
set_option maxHeartbeats 1000000 in
set_option maxRecDepth 100000 in
theorem kX2_clear (l : Launch) (D : va_G) (cI cZ cQ : ClassId) (a : Nat) (f : Row) : Ct l D (gTy cI cZ cQ) yX2_clear wsX2_clear ({ frames := 0, cells := 0, slots := 0, locals := 0 }) [.ref a] ([(a, .inl (cI, 79, .inl f))]) none ([(a, .inl (cI, 79, .inl S_init))]) := by
  refine ct_ofV (cc := cX2_clear) (nL := 2) (own := RX2) (by decide) rfl rfl ⟨rfl, rfl⟩ (Nat.le_of_ble_eq_true rfl) (by simp only [List.map]) (fun p e s m below meth c A Q F hR => ?_)
  refine g_iconst F (v := 0) dX2_clear_0 (by decide) ?_
  refine g_istore_n F (lv' := [(0, .ref a), (1, .int 0)]) dX2_clear_1 rfl (by decide) [1, 0] rfl ?_
  refine g_all (w0 := [(a, .inl (cI, 79, .inl (S_put f S_zero 0 0)))]) (lv0 := [(0, .ref a), (1, .int (nI 0))]) (st0 := []) rfl rfl rfl ?_
  refine g_for 79 (fun i => True) (fun i => [(a, .inl (cI, 79, .inl (S_put f S_zero 0 i)))]) (fun i => [(0, .ref a), (1, .int (nI i))]) (fun i hi hIi ihi => ?_) 0 (Nat.zero_le _) trivial
  refine g_iload_n F dX2_clear_2 rfl 1 rfl ?_
  refine g_bipush F (v := 79) dX2_clear_3 (by decide) ?_
  refine g_icmp_ge F 18 dX2_clear_5 (by decide) (fun c1 => ?_) (fun c1 => ?_)
  · have hx_c1 : 79 = i := lp_ge hi (by decide) c1
    subst hx_c1
    refine g_aload_n F dX2_clear_18 rfl 0 rfl ?_
    refine g_bipush F (v := 66) dX2_clear_19 (by decide) ?_
    refine g_iconst F (v := 1) dX2_clear_21 (by decide) ?_
    refine g_as2 (nI 66) rfl ?_
    refine g_iast F (j := 66) ([(a, .inl (cI, 79, .inl (upd (S_put f S_zero 0 79) 66 1)))]) 0 0 rfl rfl (by omega) (by decide) dX2_clear_22 rfl ?_
    refine g_aload_n F dX2_clear_23 rfl 0 rfl ?_
    refine g_bipush F (v := 67) dX2_clear_24 (by decide) ?_
    refine g_iconst F (v := 1) dX2_clear_26 (by decide) ?_
    refine g_as2 (nI 67) rfl ?_
    refine g_iast F (j := 67) ([(a, .inl (cI, 79, .inl (upd (upd (S_put f S_zero 0 79) 66 1) 67 1)))]) 0 0 rfl rfl (by omega) (by decide) dX2_clear_27 rfl ?_
    refine g_aload_n F dX2_clear_28 rfl 0 rfl ?_
    refine g_bipush F (v := 68) dX2_clear_29 (by decide) ?_
    refine g_iconst F (v := 1) dX2_clear_31 (by decide) ?_
    refine g_as2 (nI 68) rfl ?_
    refine g_iast F (j := 68) ([(a, .inl (cI, 79, .inl (upd (upd (upd (S_put f S_zero 0 79) 66 1) 67 1) 68 1)))]) 0 0 rfl rfl (by omega) (by decide) dX2_clear_32 rfl ?_
    refine g_wp (w2 := [(a, .inl (cI, 79, .inl S_init))]) (fun H h => row_cong (w1 := []) (w3 := []) (S_init_eq f) h) rfl ?_
    exact hR _ _ dX2_clear_33
  · have hlti : i < 79 := lp_lt hi (by decide) c1
    refine g_aload_n F dX2_clear_8 rfl 0 rfl ?_
    refine g_iload_n F dX2_clear_9 rfl 1 rfl ?_
    refine g_iconst F (v := 0) dX2_clear_10 (by decide) ?_
    refine g_iast F (j := i) ([(a, .inl (cI, 79, .inl (upd (S_put f S_zero 0 i) i 0)))]) 0 0 rfl rfl (by omega) (by decide) dX2_clear_11 rfl ?_
    refine g_iinc F (lv' := [(0, .ref a), (1, .int (nI (i + 1)))]) (nI (i + 1)) dX2_clear_12 1 rfl (nI_add i 1) (by decide) [1, 0] rfl ?_
    refine g_goto F 2 dX2_clear_15 (by decide) ?_
    refine g_all (w0 := [(a, .inl (cI, 79, .inl (S_put f S_zero 0 (i + 1))))]) (lv0 := [(0, .ref a), (1, .int (nI (i + 1)))]) (st0 := []) (by rw [S_put_s, Nat.zero_add]; rfl) rfl rfl ?_
    exact ihi hlti trivial
theorem zX2_wipe_f102 : Cond.fieldLink RX2 102 (TX2 1).1 (TX2 1).2.1 (TX2 1).2.2.1 ∈ wsX2_wipe := by decide +kernel
theorem zX2_wipe_inX2 : ∀ w ∈ u_ws RX2 TX2 15, w ∈ wsX2_wipe := by decide +kernel
set_option maxHeartbeats 1000000 in
set_option maxRecDepth 100000 in
theorem kX2_wipe (l : Launch) (D : va_G) (cI cZ cQ : ClassId) (a : Nat → Nat) (tx : Row) (ln : Nat) (nw tr di : Row) (ac nx : Nat) (ke ik s1 s2 : Row) (se : Nat) (sd : Int64) (wo re : Row)  : Ct l D (gTy cI cZ cQ) yX2_wipe wsX2_wipe ({ frames := 0, cells := 0, slots := 0, locals := 0 }) [.ref (a 0)] (MW cI cZ a tx ln nw tr di ac nx ke ik s1 s2 se sd wo re) (some (.int (nI ln))) (MW cI cZ a tx 0 nw tr di ac nx ke ik s1 s2 se sd wo re) := by
  refine ct_ofI (cc := cX2_wipe) (nL := 2) (own := RX2) (by decide) rfl rfl ⟨rfl, rfl⟩ (Nat.le_of_ble_eq_true rfl) MW_same (fun p e s m below meth c A Q F hR => ?_)
  refine g_aw ([(a 0, .inr (2, [.ref (a 1), .int (nI ln), .ref (a 2), .ref (a 3), .ref (a 4), .int (nI ac), .int (nI nx), .ref (a 5), .ref (a 6), .ref (a 7), .ref (a 8), .int (nI se), .long sd, .ref (a 9), .ref (a 10)])), (a 1, .inl (cI, 60, .inl tx)), (a 2, .inl (cI, 79, .inl nw)), (a 3, .inl (cI, 79, .inl tr)), (a 4, .inl (cI, 1106, .inl di)), (a 5, .inl (cI, 158, .inl ke)), (a 6, .inl (cZ, 2, .inl ik)), (a 7, .inl (cI, 6, .inl s1)), (a 8, .inl (cI, 6, .inl s2)), (a 9, .inl (cI, 64, .inl wo)), (a 10, .inl (cI, 79, .inl re))]) rfl ?_
  refine g_aload_n F dX2_wipe_0 rfl 0 rfl ?_
  refine g_get F (.int (nI ln)) zX2_wipe_inX2 0 rfl rfl 1 (by decide) rfl zX2_wipe_f102 dX2_wipe_1 ?_
  refine g_istore_n F (lv' := [(0, .ref (a 0)), (1, .int (nI ln))]) dX2_wipe_4 rfl (by decide) [1, 0] rfl ?_
  refine g_aload_n F dX2_wipe_5 rfl 0 rfl ?_
  refine g_iconst F (v := 0) dX2_wipe_6 (by decide) ?_
  refine g_put F ([(a 0, .inr (2, [.ref (a 1), .int 0, .ref (a 2), .ref (a 3), .ref (a 4), .int (nI ac), .int (nI nx), .ref (a 5), .ref (a 6), .ref (a 7), .ref (a 8), .int (nI se), .long sd, .ref (a 9), .ref (a 10)])), (a 1, .inl (cI, 60, .inl tx)), (a 2, .inl (cI, 79, .inl nw)), (a 3, .inl (cI, 79, .inl tr)), (a 4, .inl (cI, 1106, .inl di)), (a 5, .inl (cI, 158, .inl ke)), (a 6, .inl (cZ, 2, .inl ik)), (a 7, .inl (cI, 6, .inl s1)), (a 8, .inl (cI, 6, .inl s2)), (a 9, .inl (cI, 64, .inl wo)), (a 10, .inl (cI, 79, .inl re))]) zX2_wipe_inX2 tyX2 tyX2_ok nmX2 0 rfl rfl 1 (by decide) rfl rfl rfl (Nat.le_of_ble_eq_true rfl) zX2_wipe_f102 dX2_wipe_7 rfl ?_
  refine g_iload_n F dX2_wipe_10 rfl 1 rfl ?_
  exact g_endI (hR _ _ dX2_wipe_11) rfl rfl
theorem zX2_unsee_f138 : Cond.fieldLink RX2 138 (TX2 11).1 (TX2 11).2.1 (TX2 11).2.2.1 ∈ wsX2_unsee := by decide +kernel
theorem zX2_unsee_inX2 : ∀ w ∈ u_ws RX2 TX2 15, w ∈ wsX2_unsee := by decide +kernel
set_option maxHeartbeats 1000000 in
set_option maxRecDepth 100000 in
theorem kX2_unsee (l : Launch) (D : va_G) (cI cZ cQ : ClassId) (a : Nat → Nat) (tx : Row) (ln : Nat) (nw tr di : Row) (ac nx : Nat) (ke ik s1 s2 : Row) (se : Nat) (sd : Int64) (wo re : Row)  : Ct l D (gTy cI cZ cQ) yX2_unsee wsX2_unsee ({ frames := 0, cells := 0, slots := 0, locals := 0 }) [.ref (a 0)] (MW cI cZ a tx ln nw tr di ac nx ke ik s1 s2 se sd wo re) (some (.int (nI se))) (MW cI cZ a tx ln nw tr di ac nx ke ik s1 s2 0 sd wo re) := by
  refine ct_ofI (cc := cX2_unsee) (nL := 2) (own := RX2) (by decide) rfl rfl ⟨rfl, rfl⟩ (Nat.le_of_ble_eq_true rfl) MW_same (fun p e s m below meth c A Q F hR => ?_)
  refine g_aw ([(a 0, .inr (2, [.ref (a 1), .int (nI ln), .ref (a 2), .ref (a 3), .ref (a 4), .int (nI ac), .int (nI nx), .ref (a 5), .ref (a 6), .ref (a 7), .ref (a 8), .int (nI se), .long sd, .ref (a 9), .ref (a 10)])), (a 1, .inl (cI, 60, .inl tx)), (a 2, .inl (cI, 79, .inl nw)), (a 3, .inl (cI, 79, .inl tr)), (a 4, .inl (cI, 1106, .inl di)), (a 5, .inl (cI, 158, .inl ke)), (a 6, .inl (cZ, 2, .inl ik)), (a 7, .inl (cI, 6, .inl s1)), (a 8, .inl (cI, 6, .inl s2)), (a 9, .inl (cI, 64, .inl wo)), (a 10, .inl (cI, 79, .inl re))]) rfl ?_
  refine g_aload_n F dX2_unsee_0 rfl 0 rfl ?_
  refine g_get F (.int (nI se)) zX2_unsee_inX2 0 rfl rfl 11 (by decide) rfl zX2_unsee_f138 dX2_unsee_1 ?_
  refine g_istore_n F (lv' := [(0, .ref (a 0)), (1, .int (nI se))]) dX2_unsee_4 rfl (by decide) [1, 0] rfl ?_
  refine g_aload_n F dX2_unsee_5 rfl 0 rfl ?_
  refine g_iconst F (v := 0) dX2_unsee_6 (by decide) ?_
  refine g_put F ([(a 0, .inr (2, [.ref (a 1), .int (nI ln), .ref (a 2), .ref (a 3), .ref (a 4), .int (nI ac), .int (nI nx), .ref (a 5), .ref (a 6), .ref (a 7), .ref (a 8), .int 0, .long sd, .ref (a 9), .ref (a 10)])), (a 1, .inl (cI, 60, .inl tx)), (a 2, .inl (cI, 79, .inl nw)), (a 3, .inl (cI, 79, .inl tr)), (a 4, .inl (cI, 1106, .inl di)), (a 5, .inl (cI, 158, .inl ke)), (a 6, .inl (cZ, 2, .inl ik)), (a 7, .inl (cI, 6, .inl s1)), (a 8, .inl (cI, 6, .inl s2)), (a 9, .inl (cI, 64, .inl wo)), (a 10, .inl (cI, 79, .inl re))]) zX2_unsee_inX2 tyX2 tyX2_ok nmX2 0 rfl rfl 11 (by decide) rfl rfl rfl (Nat.le_of_ble_eq_true rfl) zX2_unsee_f138 dX2_unsee_7 rfl ?_
  refine g_iload_n F dX2_unsee_10 rfl 1 rfl ?_
  exact g_endI (hR _ _ dX2_unsee_11) rfl rfl
theorem zX2_seed_f191 : Cond.fieldLink RX2 191 (TX2 12).1 (TX2 12).2.1 (TX2 12).2.2.1 ∈ wsX2_seed := by decide +kernel
theorem zX2_seed_inX2 : ∀ w ∈ u_ws RX2 TX2 15, w ∈ wsX2_seed := by decide +kernel
set_option maxHeartbeats 1000000 in
set_option maxRecDepth 100000 in
theorem kX2_seed (l : Launch) (D : va_G) (cI cZ cQ : ClassId) (a : Nat → Nat) (tx : Row) (ln : Nat) (nw tr di : Row) (ac nx : Nat) (ke ik s1 s2 : Row) (se : Nat) (sd : Int64) (wo re : Row) (v : Int64) : Ct l D (gTy cI cZ cQ) yX2_seed wsX2_seed ({ frames := 0, cells := 0, slots := 0, locals := 0 }) [.ref (a 0), .long v] (MW cI cZ a tx ln nw tr di ac nx ke ik s1 s2 se sd wo re) (some (.long sd)) (MW cI cZ a tx ln nw tr di ac nx ke ik s1 s2 se v wo re) := by
  refine ct_ofL (cc := cX2_seed) (nL := 5) (own := RX2) (by decide) rfl rfl ⟨rfl, rfl⟩ (Nat.le_of_ble_eq_true rfl) MW_same (fun p e s m below meth c A Q F hR => ?_)
  refine g_aw ([(a 0, .inr (2, [.ref (a 1), .int (nI ln), .ref (a 2), .ref (a 3), .ref (a 4), .int (nI ac), .int (nI nx), .ref (a 5), .ref (a 6), .ref (a 7), .ref (a 8), .int (nI se), .long sd, .ref (a 9), .ref (a 10)])), (a 1, .inl (cI, 60, .inl tx)), (a 2, .inl (cI, 79, .inl nw)), (a 3, .inl (cI, 79, .inl tr)), (a 4, .inl (cI, 1106, .inl di)), (a 5, .inl (cI, 158, .inl ke)), (a 6, .inl (cZ, 2, .inl ik)), (a 7, .inl (cI, 6, .inl s1)), (a 8, .inl (cI, 6, .inl s2)), (a 9, .inl (cI, 64, .inl wo)), (a 10, .inl (cI, 79, .inl re))]) rfl ?_
  refine g_aload_n F dX2_seed_0 rfl 0 rfl ?_
  refine g_get F (.long sd) zX2_seed_inX2 0 rfl rfl 12 (by decide) rfl zX2_seed_f191 dX2_seed_1 ?_
  refine g_lstore_n F (lv' := [(0, .ref (a 0)), (1, .long v), (3, .long sd)]) dX2_seed_4 rfl (by decide) [1, 2, 0] rfl ?_
  refine g_aload_n F dX2_seed_5 rfl 0 rfl ?_
  refine g_lload_n F dX2_seed_6 rfl 1 rfl ?_
  refine g_put F ([(a 0, .inr (2, [.ref (a 1), .int (nI ln), .ref (a 2), .ref (a 3), .ref (a 4), .int (nI ac), .int (nI nx), .ref (a 5), .ref (a 6), .ref (a 7), .ref (a 8), .int (nI se), .long v, .ref (a 9), .ref (a 10)])), (a 1, .inl (cI, 60, .inl tx)), (a 2, .inl (cI, 79, .inl nw)), (a 3, .inl (cI, 79, .inl tr)), (a 4, .inl (cI, 1106, .inl di)), (a 5, .inl (cI, 158, .inl ke)), (a 6, .inl (cZ, 2, .inl ik)), (a 7, .inl (cI, 6, .inl s1)), (a 8, .inl (cI, 6, .inl s2)), (a 9, .inl (cI, 64, .inl wo)), (a 10, .inl (cI, 79, .inl re))]) zX2_seed_inX2 tyX2 tyX2_ok nmX2 0 rfl rfl 12 (by decide) rfl rfl rfl (Nat.le_of_ble_eq_true rfl) zX2_seed_f191 dX2_seed_7 rfl ?_
  refine g_lload_n F dX2_seed_10 rfl 2 rfl ?_
  exact g_endL (hR _ _ dX2_seed_11) rfl rfl
theorem zX2_write_c100 : Cond.constantLong RX2 100 (255) ∈ wsX2_write := by decide +kernel
set_option maxHeartbeats 1000000 in
set_option maxRecDepth 100000 in
theorem kX2_write_bad (l : Launch) (D : va_G) (cI cZ cQ : ClassId) (a : Nat → Nat) (tx : Row) (ln : Nat) (nw tr di : Row) (ac nx : Nat) (ke ik s1 s2 : Row) (se : Nat) (sd : Int64) (wo re : Row) (v : Int32) (hb : S_in (Int32.toInt64 v) 0 255 = false) : Ct l D (gTy cI cZ cQ) yX2_write wsX2_write ({ frames := 1, cells := 0, slots := 0, locals := 25 }) [.ref (a 0), .int v] (MW cI cZ a tx ln nw tr di ac nx ke ik s1 s2 se sd wo re) (some (.int (-2))) (MW cI cZ a tx ln nw tr di ac nx ke ik s1 s2 se sd wo re) := by
  refine ct_ofI (cc := cX2_write) (nL := 2) (own := RX2) (by decide) rfl rfl ⟨rfl, rfl⟩ (Nat.le_of_ble_eq_true rfl) MW_same (fun p e s m below meth c A Q F hR => ?_)
  refine g_aw ([(a 0, .inr (2, [.ref (a 1), .int (nI ln), .ref (a 2), .ref (a 3), .ref (a 4), .int (nI ac), .int (nI nx), .ref (a 5), .ref (a 6), .ref (a 7), .ref (a 8), .int (nI se), .long sd, .ref (a 9), .ref (a 10)])), (a 1, .inl (cI, 60, .inl tx)), (a 2, .inl (cI, 79, .inl nw)), (a 3, .inl (cI, 79, .inl tr)), (a 4, .inl (cI, 1106, .inl di)), (a 5, .inl (cI, 158, .inl ke)), (a 6, .inl (cZ, 2, .inl ik)), (a 7, .inl (cI, 6, .inl s1)), (a 8, .inl (cI, 6, .inl s2)), (a 9, .inl (cI, 64, .inl wo)), (a 10, .inl (cI, 79, .inl re))]) rfl ?_
  refine g_iload_n F dX2_write_0 rfl 1 rfl ?_
  refine g_i2l F dX2_write_1 ?_
  refine g_lconst F (v := 0) dX2_write_2 (by decide) ?_
  refine g_ldc2 F zX2_write_c100 dX2_write_3 ?_
  refine g_callSn F (As := [.long (Int32.toInt64 v), .long 0, .long 255]) (st := []) (kX2_in l D cI cZ cQ (Int32.toInt64 v) 0 255) (va_cwS 3 F.2.2.2.2.1 gX2_write_X2_in rfl rfl rfl (by decide +kernel) ⟨Nat.le_of_ble_eq_true rfl, Nat.le_of_ble_eq_true rfl⟩) rfl rfl (Nat.le_of_ble_eq_true rfl) ⟨Nat.zero_le _, Nat.zero_le _⟩ dX2_write_6 ?_
  refine g_bne F 15 dX2_write_9 (by decide) (fun c1 => ?_) (fun c1 => ?_)
  · exact absurd c1 (by rw [hb]; decide)
  · refine g_bipush F (v := (-2)) dX2_write_12 (by decide) ?_
    exact g_endI (hR _ _ dX2_write_14) rfl rfl
theorem zX2_write_f102 : Cond.fieldLink RX2 102 (TX2 1).1 (TX2 1).2.1 (TX2 1).2.2.1 ∈ wsX2_write := by decide +kernel
theorem zX2_write_inX2 : ∀ w ∈ u_ws RX2 TX2 15, w ∈ wsX2_write := by decide +kernel
set_option maxHeartbeats 1000000 in
set_option maxRecDepth 100000 in
theorem kX2_write_full (l : Launch) (D : va_G) (cI cZ cQ : ClassId) (a : Nat → Nat) (tx : Row) (ln : Nat) (nw tr di : Row) (ac nx : Nat) (ke ik s1 s2 : Row) (se : Nat) (sd : Int64) (wo re : Row) (v : Int32) (hb : S_in (Int32.toInt64 v) 0 255 = true) (hl : ln = 60) : Ct l D (gTy cI cZ cQ) yX2_write wsX2_write ({ frames := 1, cells := 0, slots := 0, locals := 25 }) [.ref (a 0), .int v] (MW cI cZ a tx ln nw tr di ac nx ke ik s1 s2 se sd wo re) (some (.int (-4))) (MW cI cZ a tx ln nw tr di ac nx ke ik s1 s2 se sd wo re) := by
  refine ct_ofI (cc := cX2_write) (nL := 2) (own := RX2) (by decide) rfl rfl ⟨rfl, rfl⟩ (Nat.le_of_ble_eq_true rfl) MW_same (fun p e s m below meth c A Q F hR => ?_)
  refine g_aw ([(a 0, .inr (2, [.ref (a 1), .int (nI ln), .ref (a 2), .ref (a 3), .ref (a 4), .int (nI ac), .int (nI nx), .ref (a 5), .ref (a 6), .ref (a 7), .ref (a 8), .int (nI se), .long sd, .ref (a 9), .ref (a 10)])), (a 1, .inl (cI, 60, .inl tx)), (a 2, .inl (cI, 79, .inl nw)), (a 3, .inl (cI, 79, .inl tr)), (a 4, .inl (cI, 1106, .inl di)), (a 5, .inl (cI, 158, .inl ke)), (a 6, .inl (cZ, 2, .inl ik)), (a 7, .inl (cI, 6, .inl s1)), (a 8, .inl (cI, 6, .inl s2)), (a 9, .inl (cI, 64, .inl wo)), (a 10, .inl (cI, 79, .inl re))]) rfl ?_
  refine g_iload_n F dX2_write_0 rfl 1 rfl ?_
  refine g_i2l F dX2_write_1 ?_
  refine g_lconst F (v := 0) dX2_write_2 (by decide) ?_
  refine g_ldc2 F zX2_write_c100 dX2_write_3 ?_
  refine g_callSn F (As := [.long (Int32.toInt64 v), .long 0, .long 255]) (st := []) (kX2_in l D cI cZ cQ (Int32.toInt64 v) 0 255) (va_cwS 3 F.2.2.2.2.1 gX2_write_X2_in rfl rfl rfl (by decide +kernel) ⟨Nat.le_of_ble_eq_true rfl, Nat.le_of_ble_eq_true rfl⟩) rfl rfl (Nat.le_of_ble_eq_true rfl) ⟨Nat.zero_le _, Nat.zero_le _⟩ dX2_write_6 ?_
  refine g_bne F 15 dX2_write_9 (by decide) (fun c1 => ?_) (fun c1 => ?_)
  · refine g_aload_n F dX2_write_15 rfl 0 rfl ?_
    refine g_get F (.int (nI ln)) zX2_write_inX2 0 rfl rfl 1 (by decide) rfl zX2_write_f102 dX2_write_16 ?_
    refine g_bipush F (v := 60) dX2_write_19 (by decide) ?_
    refine g_icmp_ne F 27 dX2_write_21 (by decide) (fun c2 => ?_) (fun c2 => ?_)
    · exact absurd (by rw [hl]; rfl) c2
    · refine g_bipush F (v := (-4)) dX2_write_24 (by decide) ?_
      exact g_endI (hR _ _ dX2_write_26) rfl rfl
  · exact absurd c1 (by rw [hb]; decide)
theorem zX2_write_f7 : Cond.fieldLink RX2 7 (TX2 0).1 (TX2 0).2.1 (TX2 0).2.2.1 ∈ wsX2_write := by decide +kernel
set_option maxHeartbeats 1000000 in
set_option maxRecDepth 100000 in
theorem kX2_write_ok (l : Launch) (D : va_G) (cI cZ cQ : ClassId) (a : Nat → Nat) (tx : Row) (ln : Nat) (nw tr di : Row) (ac nx : Nat) (ke ik s1 s2 : Row) (se : Nat) (sd : Int64) (wo re : Row) (v : Int32) (hb : S_in (Int32.toInt64 v) 0 255 = true) (hl : ln < 60) : Ct l D (gTy cI cZ cQ) yX2_write wsX2_write ({ frames := 1, cells := 0, slots := 0, locals := 25 }) [.ref (a 0), .int v] (MW cI cZ a tx ln nw tr di ac nx ke ik s1 s2 se sd wo re) (some (.int (nI (ln + 1)))) (MW cI cZ a (upd tx ln v) (ln + 1) nw tr di ac nx ke ik s1 s2 se sd wo re) := by
  refine ct_ofI (cc := cX2_write) (nL := 2) (own := RX2) (by decide) rfl rfl ⟨rfl, rfl⟩ (Nat.le_of_ble_eq_true rfl) MW_same (fun p e s m below meth c A Q F hR => ?_)
  refine g_aw ([(a 0, .inr (2, [.ref (a 1), .int (nI ln), .ref (a 2), .ref (a 3), .ref (a 4), .int (nI ac), .int (nI nx), .ref (a 5), .ref (a 6), .ref (a 7), .ref (a 8), .int (nI se), .long sd, .ref (a 9), .ref (a 10)])), (a 1, .inl (cI, 60, .inl tx)), (a 2, .inl (cI, 79, .inl nw)), (a 3, .inl (cI, 79, .inl tr)), (a 4, .inl (cI, 1106, .inl di)), (a 5, .inl (cI, 158, .inl ke)), (a 6, .inl (cZ, 2, .inl ik)), (a 7, .inl (cI, 6, .inl s1)), (a 8, .inl (cI, 6, .inl s2)), (a 9, .inl (cI, 64, .inl wo)), (a 10, .inl (cI, 79, .inl re))]) rfl ?_
  refine g_iload_n F dX2_write_0 rfl 1 rfl ?_
  refine g_i2l F dX2_write_1 ?_
  refine g_lconst F (v := 0) dX2_write_2 (by decide) ?_
  refine g_ldc2 F zX2_write_c100 dX2_write_3 ?_
  refine g_callSn F (As := [.long (Int32.toInt64 v), .long 0, .long 255]) (st := []) (kX2_in l D cI cZ cQ (Int32.toInt64 v) 0 255) (va_cwS 3 F.2.2.2.2.1 gX2_write_X2_in rfl rfl rfl (by decide +kernel) ⟨Nat.le_of_ble_eq_true rfl, Nat.le_of_ble_eq_true rfl⟩) rfl rfl (Nat.le_of_ble_eq_true rfl) ⟨Nat.zero_le _, Nat.zero_le _⟩ dX2_write_6 ?_
  refine g_bne F 15 dX2_write_9 (by decide) (fun c1 => ?_) (fun c1 => ?_)
  · refine g_aload_n F dX2_write_15 rfl 0 rfl ?_
    refine g_get F (.int (nI ln)) zX2_write_inX2 0 rfl rfl 1 (by decide) rfl zX2_write_f102 dX2_write_16 ?_
    refine g_bipush F (v := 60) dX2_write_19 (by decide) ?_
    refine g_icmp_ne F 27 dX2_write_21 (by decide) (fun c2 => ?_) (fun c2 => ?_)
    · refine g_aload_n F dX2_write_27 rfl 0 rfl ?_
      refine g_get F (.ref (a 1)) zX2_write_inX2 0 rfl rfl 0 (by decide) rfl zX2_write_f7 dX2_write_28 ?_
      refine g_aload_n F dX2_write_31 rfl 0 rfl ?_
      refine g_get F (.int (nI ln)) zX2_write_inX2 0 rfl rfl 1 (by decide) rfl zX2_write_f102 dX2_write_32 ?_
      refine g_iload_n F dX2_write_35 rfl 1 rfl ?_
      refine g_iast F (j := ln) ([(a 0, .inr (2, [.ref (a 1), .int (nI ln), .ref (a 2), .ref (a 3), .ref (a 4), .int (nI ac), .int (nI nx), .ref (a 5), .ref (a 6), .ref (a 7), .ref (a 8), .int (nI se), .long sd, .ref (a 9), .ref (a 10)])), (a 1, .inl (cI, 60, .inl (upd tx ln v))), (a 2, .inl (cI, 79, .inl nw)), (a 3, .inl (cI, 79, .inl tr)), (a 4, .inl (cI, 1106, .inl di)), (a 5, .inl (cI, 158, .inl ke)), (a 6, .inl (cZ, 2, .inl ik)), (a 7, .inl (cI, 6, .inl s1)), (a 8, .inl (cI, 6, .inl s2)), (a 9, .inl (cI, 64, .inl wo)), (a 10, .inl (cI, 79, .inl re))]) 1 0 rfl rfl (by omega) (by decide) dX2_write_36 rfl ?_
      refine g_aload_n F dX2_write_37 rfl 0 rfl ?_
      refine g_dup F dX2_write_38 rfl ?_
      refine g_get F (.int (nI ln)) zX2_write_inX2 0 rfl rfl 1 (by decide) rfl zX2_write_f102 dX2_write_39 ?_
      refine g_iconst F (v := 1) dX2_write_42 (by decide) ?_
      refine g_iadd F dX2_write_43 ?_
      refine g_as (nI (ln + 1)) (nI_add ln 1) ?_
      refine g_put F ([(a 0, .inr (2, [.ref (a 1), .int (nI (ln + 1)), .ref (a 2), .ref (a 3), .ref (a 4), .int (nI ac), .int (nI nx), .ref (a 5), .ref (a 6), .ref (a 7), .ref (a 8), .int (nI se), .long sd, .ref (a 9), .ref (a 10)])), (a 1, .inl (cI, 60, .inl (upd tx ln v))), (a 2, .inl (cI, 79, .inl nw)), (a 3, .inl (cI, 79, .inl tr)), (a 4, .inl (cI, 1106, .inl di)), (a 5, .inl (cI, 158, .inl ke)), (a 6, .inl (cZ, 2, .inl ik)), (a 7, .inl (cI, 6, .inl s1)), (a 8, .inl (cI, 6, .inl s2)), (a 9, .inl (cI, 64, .inl wo)), (a 10, .inl (cI, 79, .inl re))]) zX2_write_inX2 tyX2 tyX2_ok nmX2 0 rfl rfl 1 (by decide) rfl rfl rfl (Nat.le_of_ble_eq_true rfl) zX2_write_f102 dX2_write_44 rfl ?_
      refine g_aload_n F dX2_write_47 rfl 0 rfl ?_
      refine g_get F (.int (nI (ln + 1))) zX2_write_inX2 0 rfl rfl 1 (by decide) rfl zX2_write_f102 dX2_write_48 ?_
      exact g_endI (hR _ _ dX2_write_51) rfl rfl
    · exact absurd ((nI_eq (b := 60) (by omega) (by decide)).mp c2) (by omega)
  · exact absurd c1 (by rw [hb]; decide)
theorem zX2_see_c173 : Cond.constantLong RX2 173 (60) ∈ wsX2_see := by decide +kernel
set_option maxHeartbeats 1000000 in
set_option maxRecDepth 100000 in
theorem kX2_see_bad1 (l : Launch) (D : va_G) (cI cZ cQ : ClassId) (a : Nat → Nat) (tx : Row) (ln : Nat) (nw tr di : Row) (ac nx : Nat) (ke ik s1 s2 : Row) (se : Nat) (sd : Int64) (wo re : Row) (v u : Int32) (hb : S_in (Int32.toInt64 v) 0 60 = false) : Ct l D (gTy cI cZ cQ) yX2_see wsX2_see ({ frames := 1, cells := 0, slots := 0, locals := 25 }) [.ref (a 0), .int v, .int u] (MW cI cZ a tx ln nw tr di ac nx ke ik s1 s2 se sd wo re) (some (.int (-2))) (MW cI cZ a tx ln nw tr di ac nx ke ik s1 s2 se sd wo re) := by
  refine ct_ofI (cc := cX2_see) (nL := 3) (own := RX2) (by decide) rfl rfl ⟨rfl, rfl⟩ (Nat.le_of_ble_eq_true rfl) MW_same (fun p e s m below meth c A Q F hR => ?_)
  refine g_aw ([(a 0, .inr (2, [.ref (a 1), .int (nI ln), .ref (a 2), .ref (a 3), .ref (a 4), .int (nI ac), .int (nI nx), .ref (a 5), .ref (a 6), .ref (a 7), .ref (a 8), .int (nI se), .long sd, .ref (a 9), .ref (a 10)])), (a 1, .inl (cI, 60, .inl tx)), (a 2, .inl (cI, 79, .inl nw)), (a 3, .inl (cI, 79, .inl tr)), (a 4, .inl (cI, 1106, .inl di)), (a 5, .inl (cI, 158, .inl ke)), (a 6, .inl (cZ, 2, .inl ik)), (a 7, .inl (cI, 6, .inl s1)), (a 8, .inl (cI, 6, .inl s2)), (a 9, .inl (cI, 64, .inl wo)), (a 10, .inl (cI, 79, .inl re))]) rfl ?_
  refine g_iload_n F dX2_see_0 rfl 1 rfl ?_
  refine g_i2l F dX2_see_1 ?_
  refine g_lconst F (v := 0) dX2_see_2 (by decide) ?_
  refine g_ldc2 F zX2_see_c173 dX2_see_3 ?_
  refine g_callSn F (As := [.long (Int32.toInt64 v), .long 0, .long 60]) (st := []) (kX2_in l D cI cZ cQ (Int32.toInt64 v) 0 60) (va_cwS 3 F.2.2.2.2.1 gX2_see_X2_in rfl rfl rfl (by decide +kernel) ⟨Nat.le_of_ble_eq_true rfl, Nat.le_of_ble_eq_true rfl⟩) rfl rfl (Nat.le_of_ble_eq_true rfl) ⟨Nat.zero_le _, Nat.zero_le _⟩ dX2_see_6 ?_
  refine g_beq F 24 dX2_see_9 (by decide) (fun c1 => ?_) (fun c1 => ?_)
  · refine g_bipush F (v := (-2)) dX2_see_24 (by decide) ?_
    exact g_endI (hR _ _ dX2_see_26) rfl rfl
  · exact absurd c1 (by rw [hb]; decide)
theorem zX2_see_c151 : Cond.constantLong RX2 151 (99) ∈ wsX2_see := by decide +kernel
set_option maxHeartbeats 1000000 in
set_option maxRecDepth 100000 in
theorem kX2_see_bad2 (l : Launch) (D : va_G) (cI cZ cQ : ClassId) (a : Nat → Nat) (tx : Row) (ln : Nat) (nw tr di : Row) (ac nx : Nat) (ke ik s1 s2 : Row) (se : Nat) (sd : Int64) (wo re : Row) (v u : Int32) (hb : S_in (Int32.toInt64 v) 0 60 = true) (hc : S_in (Int32.toInt64 u) 0 99 = false) : Ct l D (gTy cI cZ cQ) yX2_see wsX2_see ({ frames := 1, cells := 0, slots := 0, locals := 25 }) [.ref (a 0), .int v, .int u] (MW cI cZ a tx ln nw tr di ac nx ke ik s1 s2 se sd wo re) (some (.int (-2))) (MW cI cZ a tx ln nw tr di ac nx ke ik s1 s2 se sd wo re) := by
  refine ct_ofI (cc := cX2_see) (nL := 3) (own := RX2) (by decide) rfl rfl ⟨rfl, rfl⟩ (Nat.le_of_ble_eq_true rfl) MW_same (fun p e s m below meth c A Q F hR => ?_)
  refine g_aw ([(a 0, .inr (2, [.ref (a 1), .int (nI ln), .ref (a 2), .ref (a 3), .ref (a 4), .int (nI ac), .int (nI nx), .ref (a 5), .ref (a 6), .ref (a 7), .ref (a 8), .int (nI se), .long sd, .ref (a 9), .ref (a 10)])), (a 1, .inl (cI, 60, .inl tx)), (a 2, .inl (cI, 79, .inl nw)), (a 3, .inl (cI, 79, .inl tr)), (a 4, .inl (cI, 1106, .inl di)), (a 5, .inl (cI, 158, .inl ke)), (a 6, .inl (cZ, 2, .inl ik)), (a 7, .inl (cI, 6, .inl s1)), (a 8, .inl (cI, 6, .inl s2)), (a 9, .inl (cI, 64, .inl wo)), (a 10, .inl (cI, 79, .inl re))]) rfl ?_
  refine g_iload_n F dX2_see_0 rfl 1 rfl ?_
  refine g_i2l F dX2_see_1 ?_
  refine g_lconst F (v := 0) dX2_see_2 (by decide) ?_
  refine g_ldc2 F zX2_see_c173 dX2_see_3 ?_
  refine g_callSn F (As := [.long (Int32.toInt64 v), .long 0, .long 60]) (st := []) (kX2_in l D cI cZ cQ (Int32.toInt64 v) 0 60) (va_cwS 3 F.2.2.2.2.1 gX2_see_X2_in rfl rfl rfl (by decide +kernel) ⟨Nat.le_of_ble_eq_true rfl, Nat.le_of_ble_eq_true rfl⟩) rfl rfl (Nat.le_of_ble_eq_true rfl) ⟨Nat.zero_le _, Nat.zero_le _⟩ dX2_see_6 ?_
  refine g_beq F 24 dX2_see_9 (by decide) (fun c1 => ?_) (fun c1 => ?_)
  · exact absurd c1 (by rw [hb]; decide)
  · refine g_iload_n F dX2_see_12 rfl 2 rfl ?_
    refine g_i2l F dX2_see_13 ?_
    refine g_lconst F (v := 0) dX2_see_14 (by decide) ?_
    refine g_ldc2 F zX2_see_c151 dX2_see_15 ?_
    refine g_callSn F (As := [.long (Int32.toInt64 u), .long 0, .long 99]) (st := []) (kX2_in l D cI cZ cQ (Int32.toInt64 u) 0 99) (va_cwS 3 F.2.2.2.2.1 gX2_see_X2_in rfl rfl rfl (by decide +kernel) ⟨Nat.le_of_ble_eq_true rfl, Nat.le_of_ble_eq_true rfl⟩) rfl rfl (Nat.le_of_ble_eq_true rfl) ⟨Nat.zero_le _, Nat.zero_le _⟩ dX2_see_18 ?_
    refine g_bne F 27 dX2_see_21 (by decide) (fun c2 => ?_) (fun c2 => ?_)
    · exact absurd c2 (by rw [hc]; decide)
    · refine g_bipush F (v := (-2)) dX2_see_24 (by decide) ?_
      exact g_endI (hR _ _ dX2_see_26) rfl rfl
theorem zX2_see_f138 : Cond.fieldLink RX2 138 (TX2 11).1 (TX2 11).2.1 (TX2 11).2.2.1 ∈ wsX2_see := by decide +kernel
theorem zX2_see_inX2 : ∀ w ∈ u_ws RX2 TX2 15, w ∈ wsX2_see := by decide +kernel
set_option maxHeartbeats 1000000 in
set_option maxRecDepth 100000 in
theorem kX2_see_full (l : Launch) (D : va_G) (cI cZ cQ : ClassId) (a : Nat → Nat) (tx : Row) (ln : Nat) (nw tr di : Row) (ac nx : Nat) (ke ik s1 s2 : Row) (se : Nat) (sd : Int64) (wo re : Row) (v u : Int32) (hb : S_in (Int32.toInt64 v) 0 60 = true) (hc : S_in (Int32.toInt64 u) 0 99 = true) (hl : se = 6) : Ct l D (gTy cI cZ cQ) yX2_see wsX2_see ({ frames := 1, cells := 0, slots := 0, locals := 25 }) [.ref (a 0), .int v, .int u] (MW cI cZ a tx ln nw tr di ac nx ke ik s1 s2 se sd wo re) (some (.int (-4))) (MW cI cZ a tx ln nw tr di ac nx ke ik s1 s2 se sd wo re) := by
  refine ct_ofI (cc := cX2_see) (nL := 3) (own := RX2) (by decide) rfl rfl ⟨rfl, rfl⟩ (Nat.le_of_ble_eq_true rfl) MW_same (fun p e s m below meth c A Q F hR => ?_)
  refine g_aw ([(a 0, .inr (2, [.ref (a 1), .int (nI ln), .ref (a 2), .ref (a 3), .ref (a 4), .int (nI ac), .int (nI nx), .ref (a 5), .ref (a 6), .ref (a 7), .ref (a 8), .int (nI se), .long sd, .ref (a 9), .ref (a 10)])), (a 1, .inl (cI, 60, .inl tx)), (a 2, .inl (cI, 79, .inl nw)), (a 3, .inl (cI, 79, .inl tr)), (a 4, .inl (cI, 1106, .inl di)), (a 5, .inl (cI, 158, .inl ke)), (a 6, .inl (cZ, 2, .inl ik)), (a 7, .inl (cI, 6, .inl s1)), (a 8, .inl (cI, 6, .inl s2)), (a 9, .inl (cI, 64, .inl wo)), (a 10, .inl (cI, 79, .inl re))]) rfl ?_
  refine g_iload_n F dX2_see_0 rfl 1 rfl ?_
  refine g_i2l F dX2_see_1 ?_
  refine g_lconst F (v := 0) dX2_see_2 (by decide) ?_
  refine g_ldc2 F zX2_see_c173 dX2_see_3 ?_
  refine g_callSn F (As := [.long (Int32.toInt64 v), .long 0, .long 60]) (st := []) (kX2_in l D cI cZ cQ (Int32.toInt64 v) 0 60) (va_cwS 3 F.2.2.2.2.1 gX2_see_X2_in rfl rfl rfl (by decide +kernel) ⟨Nat.le_of_ble_eq_true rfl, Nat.le_of_ble_eq_true rfl⟩) rfl rfl (Nat.le_of_ble_eq_true rfl) ⟨Nat.zero_le _, Nat.zero_le _⟩ dX2_see_6 ?_
  refine g_beq F 24 dX2_see_9 (by decide) (fun c1 => ?_) (fun c1 => ?_)
  · exact absurd c1 (by rw [hb]; decide)
  · refine g_iload_n F dX2_see_12 rfl 2 rfl ?_
    refine g_i2l F dX2_see_13 ?_
    refine g_lconst F (v := 0) dX2_see_14 (by decide) ?_
    refine g_ldc2 F zX2_see_c151 dX2_see_15 ?_
    refine g_callSn F (As := [.long (Int32.toInt64 u), .long 0, .long 99]) (st := []) (kX2_in l D cI cZ cQ (Int32.toInt64 u) 0 99) (va_cwS 3 F.2.2.2.2.1 gX2_see_X2_in rfl rfl rfl (by decide +kernel) ⟨Nat.le_of_ble_eq_true rfl, Nat.le_of_ble_eq_true rfl⟩) rfl rfl (Nat.le_of_ble_eq_true rfl) ⟨Nat.zero_le _, Nat.zero_le _⟩ dX2_see_18 ?_
    refine g_bne F 27 dX2_see_21 (by decide) (fun c2 => ?_) (fun c2 => ?_)
    · refine g_aload_n F dX2_see_27 rfl 0 rfl ?_
      refine g_get F (.int (nI se)) zX2_see_inX2 0 rfl rfl 11 (by decide) rfl zX2_see_f138 dX2_see_28 ?_
      refine g_bipush F (v := 6) dX2_see_31 (by decide) ?_
      refine g_icmp_ne F 39 dX2_see_33 (by decide) (fun c3 => ?_) (fun c3 => ?_)
      · exact absurd (by rw [hl]; rfl) c3
      · refine g_bipush F (v := (-4)) dX2_see_36 (by decide) ?_
        exact g_endI (hR _ _ dX2_see_38) rfl rfl
    · exact absurd c2 (by rw [hc]; decide)
theorem zX2_see_f29 : Cond.fieldLink RX2 29 (TX2 9).1 (TX2 9).2.1 (TX2 9).2.2.1 ∈ wsX2_see := by decide +kernel
theorem zX2_see_f32 : Cond.fieldLink RX2 32 (TX2 10).1 (TX2 10).2.1 (TX2 10).2.2.1 ∈ wsX2_see := by decide +kernel
set_option maxHeartbeats 1000000 in
set_option maxRecDepth 100000 in
theorem kX2_see_ok (l : Launch) (D : va_G) (cI cZ cQ : ClassId) (a : Nat → Nat) (tx : Row) (ln : Nat) (nw tr di : Row) (ac nx : Nat) (ke ik s1 s2 : Row) (se : Nat) (sd : Int64) (wo re : Row) (v u : Int32) (hb : S_in (Int32.toInt64 v) 0 60 = true) (hc : S_in (Int32.toInt64 u) 0 99 = true) (hl : se < 6) : Ct l D (gTy cI cZ cQ) yX2_see wsX2_see ({ frames := 1, cells := 0, slots := 0, locals := 25 }) [.ref (a 0), .int v, .int u] (MW cI cZ a tx ln nw tr di ac nx ke ik s1 s2 se sd wo re) (some (.int (nI (se + 1)))) (MW cI cZ a tx ln nw tr di ac nx ke ik (upd s1 se v) (upd s2 se u) (se + 1) sd wo re) := by
  refine ct_ofI (cc := cX2_see) (nL := 3) (own := RX2) (by decide) rfl rfl ⟨rfl, rfl⟩ (Nat.le_of_ble_eq_true rfl) MW_same (fun p e s m below meth c A Q F hR => ?_)
  refine g_aw ([(a 0, .inr (2, [.ref (a 1), .int (nI ln), .ref (a 2), .ref (a 3), .ref (a 4), .int (nI ac), .int (nI nx), .ref (a 5), .ref (a 6), .ref (a 7), .ref (a 8), .int (nI se), .long sd, .ref (a 9), .ref (a 10)])), (a 1, .inl (cI, 60, .inl tx)), (a 2, .inl (cI, 79, .inl nw)), (a 3, .inl (cI, 79, .inl tr)), (a 4, .inl (cI, 1106, .inl di)), (a 5, .inl (cI, 158, .inl ke)), (a 6, .inl (cZ, 2, .inl ik)), (a 7, .inl (cI, 6, .inl s1)), (a 8, .inl (cI, 6, .inl s2)), (a 9, .inl (cI, 64, .inl wo)), (a 10, .inl (cI, 79, .inl re))]) rfl ?_
  refine g_iload_n F dX2_see_0 rfl 1 rfl ?_
  refine g_i2l F dX2_see_1 ?_
  refine g_lconst F (v := 0) dX2_see_2 (by decide) ?_
  refine g_ldc2 F zX2_see_c173 dX2_see_3 ?_
  refine g_callSn F (As := [.long (Int32.toInt64 v), .long 0, .long 60]) (st := []) (kX2_in l D cI cZ cQ (Int32.toInt64 v) 0 60) (va_cwS 3 F.2.2.2.2.1 gX2_see_X2_in rfl rfl rfl (by decide +kernel) ⟨Nat.le_of_ble_eq_true rfl, Nat.le_of_ble_eq_true rfl⟩) rfl rfl (Nat.le_of_ble_eq_true rfl) ⟨Nat.zero_le _, Nat.zero_le _⟩ dX2_see_6 ?_
  refine g_beq F 24 dX2_see_9 (by decide) (fun c1 => ?_) (fun c1 => ?_)
  · exact absurd c1 (by rw [hb]; decide)
  · refine g_iload_n F dX2_see_12 rfl 2 rfl ?_
    refine g_i2l F dX2_see_13 ?_
    refine g_lconst F (v := 0) dX2_see_14 (by decide) ?_
    refine g_ldc2 F zX2_see_c151 dX2_see_15 ?_
    refine g_callSn F (As := [.long (Int32.toInt64 u), .long 0, .long 99]) (st := []) (kX2_in l D cI cZ cQ (Int32.toInt64 u) 0 99) (va_cwS 3 F.2.2.2.2.1 gX2_see_X2_in rfl rfl rfl (by decide +kernel) ⟨Nat.le_of_ble_eq_true rfl, Nat.le_of_ble_eq_true rfl⟩) rfl rfl (Nat.le_of_ble_eq_true rfl) ⟨Nat.zero_le _, Nat.zero_le _⟩ dX2_see_18 ?_
    refine g_bne F 27 dX2_see_21 (by decide) (fun c2 => ?_) (fun c2 => ?_)
    · refine g_aload_n F dX2_see_27 rfl 0 rfl ?_
      refine g_get F (.int (nI se)) zX2_see_inX2 0 rfl rfl 11 (by decide) rfl zX2_see_f138 dX2_see_28 ?_
      refine g_bipush F (v := 6) dX2_see_31 (by decide) ?_
      refine g_icmp_ne F 39 dX2_see_33 (by decide) (fun c3 => ?_) (fun c3 => ?_)
      · refine g_aload_n F dX2_see_39 rfl 0 rfl ?_
        refine g_get F (.ref (a 7)) zX2_see_inX2 0 rfl rfl 9 (by decide) rfl zX2_see_f29 dX2_see_40 ?_
        refine g_aload_n F dX2_see_43 rfl 0 rfl ?_
        refine g_get F (.int (nI se)) zX2_see_inX2 0 rfl rfl 11 (by decide) rfl zX2_see_f138 dX2_see_44 ?_
        refine g_iload_n F dX2_see_47 rfl 1 rfl ?_
        refine g_iast F (j := se) ([(a 0, .inr (2, [.ref (a 1), .int (nI ln), .ref (a 2), .ref (a 3), .ref (a 4), .int (nI ac), .int (nI nx), .ref (a 5), .ref (a 6), .ref (a 7), .ref (a 8), .int (nI se), .long sd, .ref (a 9), .ref (a 10)])), (a 1, .inl (cI, 60, .inl tx)), (a 2, .inl (cI, 79, .inl nw)), (a 3, .inl (cI, 79, .inl tr)), (a 4, .inl (cI, 1106, .inl di)), (a 5, .inl (cI, 158, .inl ke)), (a 6, .inl (cZ, 2, .inl ik)), (a 7, .inl (cI, 6, .inl (upd s1 se v))), (a 8, .inl (cI, 6, .inl s2)), (a 9, .inl (cI, 64, .inl wo)), (a 10, .inl (cI, 79, .inl re))]) 7 0 rfl rfl (by omega) (by decide) dX2_see_48 rfl ?_
        refine g_aload_n F dX2_see_49 rfl 0 rfl ?_
        refine g_get F (.ref (a 8)) zX2_see_inX2 0 rfl rfl 10 (by decide) rfl zX2_see_f32 dX2_see_50 ?_
        refine g_aload_n F dX2_see_53 rfl 0 rfl ?_
        refine g_get F (.int (nI se)) zX2_see_inX2 0 rfl rfl 11 (by decide) rfl zX2_see_f138 dX2_see_54 ?_
        refine g_iload_n F dX2_see_57 rfl 2 rfl ?_
        refine g_iast F (j := se) ([(a 0, .inr (2, [.ref (a 1), .int (nI ln), .ref (a 2), .ref (a 3), .ref (a 4), .int (nI ac), .int (nI nx), .ref (a 5), .ref (a 6), .ref (a 7), .ref (a 8), .int (nI se), .long sd, .ref (a 9), .ref (a 10)])), (a 1, .inl (cI, 60, .inl tx)), (a 2, .inl (cI, 79, .inl nw)), (a 3, .inl (cI, 79, .inl tr)), (a 4, .inl (cI, 1106, .inl di)), (a 5, .inl (cI, 158, .inl ke)), (a 6, .inl (cZ, 2, .inl ik)), (a 7, .inl (cI, 6, .inl (upd s1 se v))), (a 8, .inl (cI, 6, .inl (upd s2 se u))), (a 9, .inl (cI, 64, .inl wo)), (a 10, .inl (cI, 79, .inl re))]) 8 0 rfl rfl (by omega) (by decide) dX2_see_58 rfl ?_
        refine g_aload_n F dX2_see_59 rfl 0 rfl ?_
        refine g_dup F dX2_see_60 rfl ?_
        refine g_get F (.int (nI se)) zX2_see_inX2 0 rfl rfl 11 (by decide) rfl zX2_see_f138 dX2_see_61 ?_
        refine g_iconst F (v := 1) dX2_see_64 (by decide) ?_
        refine g_iadd F dX2_see_65 ?_
        refine g_as (nI (se + 1)) (nI_add se 1) ?_
        refine g_put F ([(a 0, .inr (2, [.ref (a 1), .int (nI ln), .ref (a 2), .ref (a 3), .ref (a 4), .int (nI ac), .int (nI nx), .ref (a 5), .ref (a 6), .ref (a 7), .ref (a 8), .int (nI (se + 1)), .long sd, .ref (a 9), .ref (a 10)])), (a 1, .inl (cI, 60, .inl tx)), (a 2, .inl (cI, 79, .inl nw)), (a 3, .inl (cI, 79, .inl tr)), (a 4, .inl (cI, 1106, .inl di)), (a 5, .inl (cI, 158, .inl ke)), (a 6, .inl (cZ, 2, .inl ik)), (a 7, .inl (cI, 6, .inl (upd s1 se v))), (a 8, .inl (cI, 6, .inl (upd s2 se u))), (a 9, .inl (cI, 64, .inl wo)), (a 10, .inl (cI, 79, .inl re))]) zX2_see_inX2 tyX2 tyX2_ok nmX2 0 rfl rfl 11 (by decide) rfl rfl rfl (Nat.le_of_ble_eq_true rfl) zX2_see_f138 dX2_see_66 rfl ?_
        refine g_aload_n F dX2_see_69 rfl 0 rfl ?_
        refine g_get F (.int (nI (se + 1))) zX2_see_inX2 0 rfl rfl 11 (by decide) rfl zX2_see_f138 dX2_see_70 ?_
        exact g_endI (hR _ _ dX2_see_73) rfl rfl
      · exact absurd ((nI_eq (b := 6) (by omega) (by decide)).mp c3) (by omega)
    · exact absurd c2 (by rw [hc]; decide)
set_option maxHeartbeats 1000000 in
set_option maxRecDepth 100000 in
theorem kX2_heard_bad (l : Launch) (D : va_G) (cI cZ cQ : ClassId) (a : Nat → Nat) (tx : Row) (ln : Nat) (nw tr di : Row) (ac nx : Nat) (ke ik s1 s2 : Row) (se : Nat) (sd : Int64) (wo re : Row) (v u : Int32) (hb : S_isM v = false ∨ S_isM u = false) : Ct l D (gTy cI cZ cQ) yX2_heard wsX2_heard ({ frames := 2, cells := 0, slots := 0, locals := 50 }) [.ref (a 0), .int v, .int u] (MW cI cZ a tx ln nw tr di ac nx ke ik s1 s2 se sd wo re) (some (.int (-1))) (MW cI cZ a tx ln nw tr di ac nx ke ik s1 s2 se sd wo re) := by
  refine ct_ofI (cc := cX2_heard) (nL := 3) (own := RX2) (by decide) rfl rfl ⟨rfl, rfl⟩ (Nat.le_of_ble_eq_true rfl) MW_same (fun p e s m below meth c A Q F hR => ?_)
  refine g_aw ([(a 0, .inr (2, [.ref (a 1), .int (nI ln), .ref (a 2), .ref (a 3), .ref (a 4), .int (nI ac), .int (nI nx), .ref (a 5), .ref (a 6), .ref (a 7), .ref (a 8), .int (nI se), .long sd, .ref (a 9), .ref (a 10)])), (a 1, .inl (cI, 60, .inl tx)), (a 2, .inl (cI, 79, .inl nw)), (a 3, .inl (cI, 79, .inl tr)), (a 4, .inl (cI, 1106, .inl di)), (a 5, .inl (cI, 158, .inl ke)), (a 6, .inl (cZ, 2, .inl ik)), (a 7, .inl (cI, 6, .inl s1)), (a 8, .inl (cI, 6, .inl s2)), (a 9, .inl (cI, 64, .inl wo)), (a 10, .inl (cI, 79, .inl re))]) rfl ?_
  refine g_iload_n F dX2_heard_0 rfl 1 rfl ?_
  refine g_callSn F (As := [.int v]) (st := []) (kX2_isMember l D cI cZ cQ v) (va_cwS 1 F.2.2.2.2.1 gX2_heard_X2_isMember rfl rfl rfl (by decide +kernel) ⟨Nat.le_of_ble_eq_true rfl, Nat.le_of_ble_eq_true rfl⟩) rfl rfl (Nat.le_of_ble_eq_true rfl) ⟨Nat.zero_le _, Nat.zero_le _⟩ dX2_heard_1 ?_
  refine g_beq F 14 dX2_heard_4 (by decide) (fun c1 => ?_) (fun c1 => ?_)
  · refine g_iconst F (v := (-1)) dX2_heard_14 (by decide) ?_
    exact g_endI (hR _ _ dX2_heard_15) rfl rfl
  · refine g_iload_n F dX2_heard_7 rfl 2 rfl ?_
    refine g_callSn F (As := [.int u]) (st := []) (kX2_isMember l D cI cZ cQ u) (va_cwS 1 F.2.2.2.2.1 gX2_heard_X2_isMember rfl rfl rfl (by decide +kernel) ⟨Nat.le_of_ble_eq_true rfl, Nat.le_of_ble_eq_true rfl⟩) rfl rfl (Nat.le_of_ble_eq_true rfl) ⟨Nat.zero_le _, Nat.zero_le _⟩ dX2_heard_8 ?_
    refine g_bne F 16 dX2_heard_11 (by decide) (fun c2 => ?_) (fun c2 => ?_)
    · exact absurd hb (by rw [c1, c2]; decide)
    · refine g_iconst F (v := (-1)) dX2_heard_14 (by decide) ?_
      exact g_endI (hR _ _ dX2_heard_15) rfl rfl
theorem zX2_heard_f13 : Cond.fieldLink RX2 13 (TX2 2).1 (TX2 2).2.1 (TX2 2).2.2.1 ∈ wsX2_heard := by decide +kernel
theorem zX2_heard_inX2 : ∀ w ∈ u_ws RX2 TX2 15, w ∈ wsX2_heard := by decide +kernel
set_option maxHeartbeats 1000000 in
set_option maxRecDepth 100000 in
theorem kX2_heard_ok (l : Launch) (D : va_G) (cI cZ cQ : ClassId) (a : Nat → Nat) (tx : Row) (ln : Nat) (nw tr di : Row) (ac nx : Nat) (ke ik s1 s2 : Row) (se : Nat) (sd : Int64) (wo re : Row) (k o : Nat) (hk : k < 6) (ho : o < 6) : Ct l D (gTy cI cZ cQ) yX2_heard wsX2_heard ({ frames := 2, cells := 0, slots := 0, locals := 50 }) [.ref (a 0), .int (nI k), .int (nI o)] (MW cI cZ a tx ln nw tr di ac nx ke ik s1 s2 se sd wo re) (some (.int (S_heard nw k o))) (MW cI cZ a tx ln nw tr di ac nx ke ik s1 s2 se sd wo re) := by
  refine ct_ofI (cc := cX2_heard) (nL := 3) (own := RX2) (by decide) rfl rfl ⟨rfl, rfl⟩ (Nat.le_of_ble_eq_true rfl) MW_same (fun p e s m below meth c A Q F hR => ?_)
  refine g_aw ([(a 0, .inr (2, [.ref (a 1), .int (nI ln), .ref (a 2), .ref (a 3), .ref (a 4), .int (nI ac), .int (nI nx), .ref (a 5), .ref (a 6), .ref (a 7), .ref (a 8), .int (nI se), .long sd, .ref (a 9), .ref (a 10)])), (a 1, .inl (cI, 60, .inl tx)), (a 2, .inl (cI, 79, .inl nw)), (a 3, .inl (cI, 79, .inl tr)), (a 4, .inl (cI, 1106, .inl di)), (a 5, .inl (cI, 158, .inl ke)), (a 6, .inl (cZ, 2, .inl ik)), (a 7, .inl (cI, 6, .inl s1)), (a 8, .inl (cI, 6, .inl s2)), (a 9, .inl (cI, 64, .inl wo)), (a 10, .inl (cI, 79, .inl re))]) rfl ?_
  refine g_iload_n F dX2_heard_0 rfl 1 rfl ?_
  refine g_callSn F (As := [.int (nI k)]) (st := []) (kX2_isMember l D cI cZ cQ (nI k)) (va_cwS 1 F.2.2.2.2.1 gX2_heard_X2_isMember rfl rfl rfl (by decide +kernel) ⟨Nat.le_of_ble_eq_true rfl, Nat.le_of_ble_eq_true rfl⟩) rfl rfl (Nat.le_of_ble_eq_true rfl) ⟨Nat.zero_le _, Nat.zero_le _⟩ dX2_heard_1 ?_
  refine g_beq F 14 dX2_heard_4 (by decide) (fun c1 => ?_) (fun c1 => ?_)
  · exact absurd c1 (by rw [isM_nI hk]; decide)
  · refine g_iload_n F dX2_heard_7 rfl 2 rfl ?_
    refine g_callSn F (As := [.int (nI o)]) (st := []) (kX2_isMember l D cI cZ cQ (nI o)) (va_cwS 1 F.2.2.2.2.1 gX2_heard_X2_isMember rfl rfl rfl (by decide +kernel) ⟨Nat.le_of_ble_eq_true rfl, Nat.le_of_ble_eq_true rfl⟩) rfl rfl (Nat.le_of_ble_eq_true rfl) ⟨Nat.zero_le _, Nat.zero_le _⟩ dX2_heard_8 ?_
    refine g_bne F 16 dX2_heard_11 (by decide) (fun c2 => ?_) (fun c2 => ?_)
    · refine g_aload_n F dX2_heard_16 rfl 0 rfl ?_
      refine g_get F (.ref (a 2)) zX2_heard_inX2 0 rfl rfl 2 (by decide) rfl zX2_heard_f13 dX2_heard_17 ?_
      refine g_bipush F (v := 6) dX2_heard_20 (by decide) ?_
      refine g_iload_n F dX2_heard_22 rfl 1 rfl ?_
      refine g_iadd F dX2_heard_23 ?_
      refine g_as (nI (6 + k)) (nI_add 6 k) ?_
      refine g_iald F (j := 6 + k) 2 0 rfl rfl (by omega) (by decide) dX2_heard_24 ?_
      refine g_iload_n F dX2_heard_25 rfl 2 rfl ?_
      refine g_callSn F (As := [.int (nw (6 + k)), .int (nI o)]) (st := []) (kX2_has l D cI cZ cQ (nw (6 + k)) (nI o)) (va_cwS 2 F.2.2.2.2.1 gX2_heard_X2_has rfl rfl rfl (by decide +kernel) ⟨Nat.le_of_ble_eq_true rfl, Nat.le_of_ble_eq_true rfl⟩) rfl rfl (Nat.le_of_ble_eq_true rfl) ⟨Nat.zero_le _, Nat.zero_le _⟩ dX2_heard_26 ?_
      refine g_beq F 49 dX2_heard_29 (by decide) (fun c3 => ?_) (fun c3 => ?_)
      · refine g_bipush F (v := (-9)) dX2_heard_49 (by decide) ?_
        exact g_endI (hR _ _ dX2_heard_51) (by first | (simp only [S_heard, c1, c2, c3, Bool.false_eq_true, ↓reduceIte]; done) | (with_reducible rfl) | (simp [S_heard, c1, c2, c3, Bool.false_eq_true, ↓reduceIte]; done)) rfl
      · refine g_aload_n F dX2_heard_32 rfl 0 rfl ?_
        refine g_get F (.ref (a 2)) zX2_heard_inX2 0 rfl rfl 2 (by decide) rfl zX2_heard_f13 dX2_heard_33 ?_
        refine g_bipush F (v := 12) dX2_heard_36 (by decide) ?_
        refine g_bipush F (v := 6) dX2_heard_38 (by decide) ?_
        refine g_iload_n F dX2_heard_40 rfl 1 rfl ?_
        refine g_imul F dX2_heard_41 ?_
        refine g_as (nI (6 * k)) (pk_mul 6 k) ?_
        refine g_iadd F dX2_heard_42 ?_
        refine g_as (nI (12 + 6 * k)) (nI_add 12 (6 * k)) ?_
        refine g_iload_n F dX2_heard_43 rfl 2 rfl ?_
        refine g_iadd F dX2_heard_44 ?_
        refine g_as (nI (12 + 6 * k + o)) (nI_add (12 + 6 * k) o) ?_
        refine g_iald F (j := 12 + 6 * k + o) 2 0 rfl rfl (by omega) (by decide) dX2_heard_45 ?_
        refine g_goto F 51 dX2_heard_46 (by decide) ?_
        exact g_endI (hR _ _ dX2_heard_51) (by first | (simp only [S_heard, c1, c2, c3, Bool.false_eq_true, ↓reduceIte]; done) | (with_reducible rfl) | (simp [S_heard, c1, c2, c3, Bool.false_eq_true, ↓reduceIte]; done)) rfl
    · exact absurd c2 (by rw [isM_nI ho]; decide)
set_option maxHeartbeats 1000000 in
set_option maxRecDepth 100000 in
theorem kX2_way_bad (l : Launch) (D : va_G) (cI cZ cQ : ClassId) (a : Nat → Nat) (tx : Row) (ln : Nat) (nw tr di : Row) (ac nx : Nat) (ke ik s1 s2 : Row) (se : Nat) (sd : Int64) (wo re : Row) (v u : Int32) (hb : S_isM v = false ∨ S_isM u = false) : Ct l D (gTy cI cZ cQ) yX2_way wsX2_way ({ frames := 2, cells := 0, slots := 0, locals := 50 }) [.ref (a 0), .int v, .int u] (MW cI cZ a tx ln nw tr di ac nx ke ik s1 s2 se sd wo re) (some (.int (-1))) (MW cI cZ a tx ln nw tr di ac nx ke ik s1 s2 se sd wo re) := by
  refine ct_ofI (cc := cX2_way) (nL := 3) (own := RX2) (by decide) rfl rfl ⟨rfl, rfl⟩ (Nat.le_of_ble_eq_true rfl) MW_same (fun p e s m below meth c A Q F hR => ?_)
  refine g_aw ([(a 0, .inr (2, [.ref (a 1), .int (nI ln), .ref (a 2), .ref (a 3), .ref (a 4), .int (nI ac), .int (nI nx), .ref (a 5), .ref (a 6), .ref (a 7), .ref (a 8), .int (nI se), .long sd, .ref (a 9), .ref (a 10)])), (a 1, .inl (cI, 60, .inl tx)), (a 2, .inl (cI, 79, .inl nw)), (a 3, .inl (cI, 79, .inl tr)), (a 4, .inl (cI, 1106, .inl di)), (a 5, .inl (cI, 158, .inl ke)), (a 6, .inl (cZ, 2, .inl ik)), (a 7, .inl (cI, 6, .inl s1)), (a 8, .inl (cI, 6, .inl s2)), (a 9, .inl (cI, 64, .inl wo)), (a 10, .inl (cI, 79, .inl re))]) rfl ?_
  refine g_iload_n F dX2_way_0 rfl 1 rfl ?_
  refine g_callSn F (As := [.int v]) (st := []) (kX2_isMember l D cI cZ cQ v) (va_cwS 1 F.2.2.2.2.1 gX2_way_X2_isMember rfl rfl rfl (by decide +kernel) ⟨Nat.le_of_ble_eq_true rfl, Nat.le_of_ble_eq_true rfl⟩) rfl rfl (Nat.le_of_ble_eq_true rfl) ⟨Nat.zero_le _, Nat.zero_le _⟩ dX2_way_1 ?_
  refine g_beq F 14 dX2_way_4 (by decide) (fun c1 => ?_) (fun c1 => ?_)
  · refine g_iconst F (v := (-1)) dX2_way_14 (by decide) ?_
    exact g_endI (hR _ _ dX2_way_15) rfl rfl
  · refine g_iload_n F dX2_way_7 rfl 2 rfl ?_
    refine g_callSn F (As := [.int u]) (st := []) (kX2_isMember l D cI cZ cQ u) (va_cwS 1 F.2.2.2.2.1 gX2_way_X2_isMember rfl rfl rfl (by decide +kernel) ⟨Nat.le_of_ble_eq_true rfl, Nat.le_of_ble_eq_true rfl⟩) rfl rfl (Nat.le_of_ble_eq_true rfl) ⟨Nat.zero_le _, Nat.zero_le _⟩ dX2_way_8 ?_
    refine g_bne F 16 dX2_way_11 (by decide) (fun c2 => ?_) (fun c2 => ?_)
    · exact absurd hb (by rw [c1, c2]; decide)
    · refine g_iconst F (v := (-1)) dX2_way_14 (by decide) ?_
      exact g_endI (hR _ _ dX2_way_15) rfl rfl
set_option maxHeartbeats 1000000 in
set_option maxRecDepth 100000 in
theorem kX2_way_same (l : Launch) (D : va_G) (cI cZ cQ : ClassId) (a : Nat → Nat) (tx : Row) (ln : Nat) (nw tr di : Row) (ac nx : Nat) (ke ik s1 s2 : Row) (se : Nat) (sd : Int64) (wo re : Row) (k : Nat) (hk : k < 6) : Ct l D (gTy cI cZ cQ) yX2_way wsX2_way ({ frames := 2, cells := 0, slots := 0, locals := 50 }) [.ref (a 0), .int (nI k), .int (nI k)] (MW cI cZ a tx ln nw tr di ac nx ke ik s1 s2 se sd wo re) (some (.int (-2))) (MW cI cZ a tx ln nw tr di ac nx ke ik s1 s2 se sd wo re) := by
  refine ct_ofI (cc := cX2_way) (nL := 3) (own := RX2) (by decide) rfl rfl ⟨rfl, rfl⟩ (Nat.le_of_ble_eq_true rfl) MW_same (fun p e s m below meth c A Q F hR => ?_)
  refine g_aw ([(a 0, .inr (2, [.ref (a 1), .int (nI ln), .ref (a 2), .ref (a 3), .ref (a 4), .int (nI ac), .int (nI nx), .ref (a 5), .ref (a 6), .ref (a 7), .ref (a 8), .int (nI se), .long sd, .ref (a 9), .ref (a 10)])), (a 1, .inl (cI, 60, .inl tx)), (a 2, .inl (cI, 79, .inl nw)), (a 3, .inl (cI, 79, .inl tr)), (a 4, .inl (cI, 1106, .inl di)), (a 5, .inl (cI, 158, .inl ke)), (a 6, .inl (cZ, 2, .inl ik)), (a 7, .inl (cI, 6, .inl s1)), (a 8, .inl (cI, 6, .inl s2)), (a 9, .inl (cI, 64, .inl wo)), (a 10, .inl (cI, 79, .inl re))]) rfl ?_
  refine g_iload_n F dX2_way_0 rfl 1 rfl ?_
  refine g_callSn F (As := [.int (nI k)]) (st := []) (kX2_isMember l D cI cZ cQ (nI k)) (va_cwS 1 F.2.2.2.2.1 gX2_way_X2_isMember rfl rfl rfl (by decide +kernel) ⟨Nat.le_of_ble_eq_true rfl, Nat.le_of_ble_eq_true rfl⟩) rfl rfl (Nat.le_of_ble_eq_true rfl) ⟨Nat.zero_le _, Nat.zero_le _⟩ dX2_way_1 ?_
  refine g_beq F 14 dX2_way_4 (by decide) (fun c1 => ?_) (fun c1 => ?_)
  · exact absurd c1 (by rw [isM_nI hk]; decide)
  · refine g_iload_n F dX2_way_7 rfl 2 rfl ?_
    refine g_callSn F (As := [.int (nI k)]) (st := []) (kX2_isMember l D cI cZ cQ (nI k)) (va_cwS 1 F.2.2.2.2.1 gX2_way_X2_isMember rfl rfl rfl (by decide +kernel) ⟨Nat.le_of_ble_eq_true rfl, Nat.le_of_ble_eq_true rfl⟩) rfl rfl (Nat.le_of_ble_eq_true rfl) ⟨Nat.zero_le _, Nat.zero_le _⟩ dX2_way_8 ?_
    refine g_bne F 16 dX2_way_11 (by decide) (fun c2 => ?_) (fun c2 => ?_)
    · refine g_iload_n F dX2_way_16 rfl 1 rfl ?_
      refine g_iload_n F dX2_way_17 rfl 2 rfl ?_
      refine g_icmp_ne F 26 dX2_way_18 (by decide) (fun c3 => ?_) (fun c3 => ?_)
      · exact absurd rfl c3
      · refine g_bipush F (v := (-2)) dX2_way_21 (by decide) ?_
        refine g_goto F 47 dX2_way_23 (by decide) ?_
        exact g_endI (hR _ _ dX2_way_47) rfl rfl
    · exact absurd c2 (by rw [isM_nI hk]; decide)
theorem zX2_way_f13 : Cond.fieldLink RX2 13 (TX2 2).1 (TX2 2).2.1 (TX2 2).2.2.1 ∈ wsX2_way := by decide +kernel
theorem zX2_way_inX2 : ∀ w ∈ u_ws RX2 TX2 15, w ∈ wsX2_way := by decide +kernel
set_option maxHeartbeats 1000000 in
set_option maxRecDepth 100000 in
theorem kX2_way_ok (l : Launch) (D : va_G) (cI cZ cQ : ClassId) (a : Nat → Nat) (tx : Row) (ln : Nat) (nw tr di : Row) (ac nx : Nat) (ke ik s1 s2 : Row) (se : Nat) (sd : Int64) (wo re : Row) (k o : Nat) (hk : k < 6) (ho : o < 6) (hko : ¬ k = o) : Ct l D (gTy cI cZ cQ) yX2_way wsX2_way ({ frames := 2, cells := 0, slots := 0, locals := 50 }) [.ref (a 0), .int (nI k), .int (nI o)] (MW cI cZ a tx ln nw tr di ac nx ke ik s1 s2 se sd wo re) (some (.int (S_way nw k o))) (MW cI cZ a tx ln nw tr di ac nx ke ik s1 s2 se sd wo re) := by
  refine ct_ofI (cc := cX2_way) (nL := 3) (own := RX2) (by decide) rfl rfl ⟨rfl, rfl⟩ (Nat.le_of_ble_eq_true rfl) MW_same (fun p e s m below meth c A Q F hR => ?_)
  refine g_aw ([(a 0, .inr (2, [.ref (a 1), .int (nI ln), .ref (a 2), .ref (a 3), .ref (a 4), .int (nI ac), .int (nI nx), .ref (a 5), .ref (a 6), .ref (a 7), .ref (a 8), .int (nI se), .long sd, .ref (a 9), .ref (a 10)])), (a 1, .inl (cI, 60, .inl tx)), (a 2, .inl (cI, 79, .inl nw)), (a 3, .inl (cI, 79, .inl tr)), (a 4, .inl (cI, 1106, .inl di)), (a 5, .inl (cI, 158, .inl ke)), (a 6, .inl (cZ, 2, .inl ik)), (a 7, .inl (cI, 6, .inl s1)), (a 8, .inl (cI, 6, .inl s2)), (a 9, .inl (cI, 64, .inl wo)), (a 10, .inl (cI, 79, .inl re))]) rfl ?_
  refine g_iload_n F dX2_way_0 rfl 1 rfl ?_
  refine g_callSn F (As := [.int (nI k)]) (st := []) (kX2_isMember l D cI cZ cQ (nI k)) (va_cwS 1 F.2.2.2.2.1 gX2_way_X2_isMember rfl rfl rfl (by decide +kernel) ⟨Nat.le_of_ble_eq_true rfl, Nat.le_of_ble_eq_true rfl⟩) rfl rfl (Nat.le_of_ble_eq_true rfl) ⟨Nat.zero_le _, Nat.zero_le _⟩ dX2_way_1 ?_
  refine g_beq F 14 dX2_way_4 (by decide) (fun c1 => ?_) (fun c1 => ?_)
  · exact absurd c1 (by rw [isM_nI hk]; decide)
  · refine g_iload_n F dX2_way_7 rfl 2 rfl ?_
    refine g_callSn F (As := [.int (nI o)]) (st := []) (kX2_isMember l D cI cZ cQ (nI o)) (va_cwS 1 F.2.2.2.2.1 gX2_way_X2_isMember rfl rfl rfl (by decide +kernel) ⟨Nat.le_of_ble_eq_true rfl, Nat.le_of_ble_eq_true rfl⟩) rfl rfl (Nat.le_of_ble_eq_true rfl) ⟨Nat.zero_le _, Nat.zero_le _⟩ dX2_way_8 ?_
    refine g_bne F 16 dX2_way_11 (by decide) (fun c2 => ?_) (fun c2 => ?_)
    · refine g_iload_n F dX2_way_16 rfl 1 rfl ?_
      refine g_iload_n F dX2_way_17 rfl 2 rfl ?_
      refine g_icmp_ne F 26 dX2_way_18 (by decide) (fun c3 => ?_) (fun c3 => ?_)
      · refine g_aload_n F dX2_way_26 rfl 0 rfl ?_
        refine g_get F (.ref (a 2)) zX2_way_inX2 0 rfl rfl 2 (by decide) rfl zX2_way_f13 dX2_way_27 ?_
        refine g_bipush F (v := 73) dX2_way_30 (by decide) ?_
        refine g_iload_n F dX2_way_32 rfl 1 rfl ?_
        refine g_iadd F dX2_way_33 ?_
        refine g_as (nI (73 + k)) (nI_add 73 k) ?_
        refine g_iald F (j := 73 + k) 2 0 rfl rfl (by omega) (by decide) dX2_way_34 ?_
        refine g_iload_n F dX2_way_35 rfl 2 rfl ?_
        refine g_callSn F (As := [.int (nw (73 + k)), .int (nI o)]) (st := []) (kX2_has l D cI cZ cQ (nw (73 + k)) (nI o)) (va_cwS 2 F.2.2.2.2.1 gX2_way_X2_has rfl rfl rfl (by decide +kernel) ⟨Nat.le_of_ble_eq_true rfl, Nat.le_of_ble_eq_true rfl⟩) rfl rfl (Nat.le_of_ble_eq_true rfl) ⟨Nat.zero_le _, Nat.zero_le _⟩ dX2_way_36 ?_
        refine g_beq F 46 dX2_way_39 (by decide) (fun c4 => ?_) (fun c4 => ?_)
        · refine g_iconst F (v := 1) dX2_way_46 (by decide) ?_
          exact g_endI (hR _ _ dX2_way_47) (by first | (simp only [S_way, c1, c2, c3, c4, Bool.false_eq_true, ↓reduceIte]; done) | (with_reducible rfl) | (simp [S_way, c1, c2, c3, c4, Bool.false_eq_true, ↓reduceIte]; done)) rfl
        · refine g_iconst F (v := 0) dX2_way_42 (by decide) ?_
          refine g_goto F 47 dX2_way_43 (by decide) ?_
          exact g_endI (hR _ _ dX2_way_47) (by first | (simp only [S_way, c1, c2, c3, c4, Bool.false_eq_true, ↓reduceIte]; done) | (with_reducible rfl) | (simp [S_way, c1, c2, c3, c4, Bool.false_eq_true, ↓reduceIte]; done)) rfl
      · exact absurd ((nI_eq (by omega) (by omega)).mp c3) hko
    · exact absurd c2 (by rw [isM_nI ho]; decide)
set_option maxHeartbeats 1000000 in
set_option maxRecDepth 100000 in
theorem kX2_member_bad (l : Launch) (D : va_G) (cI cZ cQ : ClassId) (a : Nat → Nat) (tx : Row) (ln : Nat) (nw tr di : Row) (ac nx : Nat) (ke ik s1 s2 : Row) (se : Nat) (sd : Int64) (wo re : Row) (v u : Int32) (hb : S_isM v = false) : Ct l D (gTy cI cZ cQ) yX2_member wsX2_member ({ frames := 2, cells := 0, slots := 0, locals := 50 }) [.ref (a 0), .int v, .int u] (MW cI cZ a tx ln nw tr di ac nx ke ik s1 s2 se sd wo re) (some (.int (-1))) (MW cI cZ a tx ln nw tr di ac nx ke ik s1 s2 se sd wo re) := by
  refine ct_ofI (cc := cX2_member) (nL := 3) (own := RX2) (by decide) rfl rfl ⟨rfl, rfl⟩ (Nat.le_of_ble_eq_true rfl) MW_same (fun p e s m below meth c A Q F hR => ?_)
  refine g_aw ([(a 0, .inr (2, [.ref (a 1), .int (nI ln), .ref (a 2), .ref (a 3), .ref (a 4), .int (nI ac), .int (nI nx), .ref (a 5), .ref (a 6), .ref (a 7), .ref (a 8), .int (nI se), .long sd, .ref (a 9), .ref (a 10)])), (a 1, .inl (cI, 60, .inl tx)), (a 2, .inl (cI, 79, .inl nw)), (a 3, .inl (cI, 79, .inl tr)), (a 4, .inl (cI, 1106, .inl di)), (a 5, .inl (cI, 158, .inl ke)), (a 6, .inl (cZ, 2, .inl ik)), (a 7, .inl (cI, 6, .inl s1)), (a 8, .inl (cI, 6, .inl s2)), (a 9, .inl (cI, 64, .inl wo)), (a 10, .inl (cI, 79, .inl re))]) rfl ?_
  refine g_iload_n F dX2_member_0 rfl 1 rfl ?_
  refine g_callSn F (As := [.int v]) (st := []) (kX2_isMember l D cI cZ cQ v) (va_cwS 1 F.2.2.2.2.1 gX2_member_X2_isMember rfl rfl rfl (by decide +kernel) ⟨Nat.le_of_ble_eq_true rfl, Nat.le_of_ble_eq_true rfl⟩) rfl rfl (Nat.le_of_ble_eq_true rfl) ⟨Nat.zero_le _, Nat.zero_le _⟩ dX2_member_1 ?_
  refine g_bne F 9 dX2_member_4 (by decide) (fun c1 => ?_) (fun c1 => ?_)
  · exact absurd c1 (by rw [hb]; decide)
  · refine g_iconst F (v := (-1)) dX2_member_7 (by decide) ?_
    exact g_endI (hR _ _ dX2_member_8) rfl rfl
theorem zX2_member_f13 : Cond.fieldLink RX2 13 (TX2 2).1 (TX2 2).2.1 (TX2 2).2.2.1 ∈ wsX2_member := by decide +kernel
theorem zX2_member_inX2 : ∀ w ∈ u_ws RX2 TX2 15, w ∈ wsX2_member := by decide +kernel
set_option maxHeartbeats 1000000 in
set_option maxRecDepth 100000 in
theorem kX2_member_ok (l : Launch) (D : va_G) (cI cZ cQ : ClassId) (a : Nat → Nat) (tx : Row) (ln : Nat) (nw tr di : Row) (ac nx : Nat) (ke ik s1 s2 : Row) (se : Nat) (sd : Int64) (wo re : Row) (k : Nat) (u : Int32) (hk : k < 6) : Ct l D (gTy cI cZ cQ) yX2_member wsX2_member ({ frames := 2, cells := 0, slots := 0, locals := 50 }) [.ref (a 0), .int (nI k), .int u] (MW cI cZ a tx ln nw tr di ac nx ke ik s1 s2 se sd wo re) (some (.int (S_member nw k u))) (MW cI cZ a tx ln nw tr di ac nx ke ik s1 s2 se sd wo re) := by
  refine ct_ofI (cc := cX2_member) (nL := 3) (own := RX2) (by decide) rfl rfl ⟨rfl, rfl⟩ (Nat.le_of_ble_eq_true rfl) MW_same (fun p e s m below meth c A Q F hR => ?_)
  refine g_aw ([(a 0, .inr (2, [.ref (a 1), .int (nI ln), .ref (a 2), .ref (a 3), .ref (a 4), .int (nI ac), .int (nI nx), .ref (a 5), .ref (a 6), .ref (a 7), .ref (a 8), .int (nI se), .long sd, .ref (a 9), .ref (a 10)])), (a 1, .inl (cI, 60, .inl tx)), (a 2, .inl (cI, 79, .inl nw)), (a 3, .inl (cI, 79, .inl tr)), (a 4, .inl (cI, 1106, .inl di)), (a 5, .inl (cI, 158, .inl ke)), (a 6, .inl (cZ, 2, .inl ik)), (a 7, .inl (cI, 6, .inl s1)), (a 8, .inl (cI, 6, .inl s2)), (a 9, .inl (cI, 64, .inl wo)), (a 10, .inl (cI, 79, .inl re))]) rfl ?_
  refine g_iload_n F dX2_member_0 rfl 1 rfl ?_
  refine g_callSn F (As := [.int (nI k)]) (st := []) (kX2_isMember l D cI cZ cQ (nI k)) (va_cwS 1 F.2.2.2.2.1 gX2_member_X2_isMember rfl rfl rfl (by decide +kernel) ⟨Nat.le_of_ble_eq_true rfl, Nat.le_of_ble_eq_true rfl⟩) rfl rfl (Nat.le_of_ble_eq_true rfl) ⟨Nat.zero_le _, Nat.zero_le _⟩ dX2_member_1 ?_
  refine g_bne F 9 dX2_member_4 (by decide) (fun c1 => ?_) (fun c1 => ?_)
  · refine g_iload_n F dX2_member_9 rfl 2 rfl ?_
    rcases tb_cases u 0 6 (by decide) with c2 | ⟨n_c2, hn_c2, c2⟩
    · refine g_tableOut F 104 dX2_member_10 (by omega) (by decide) ?_
      refine g_bipush F (v := (-2)) dX2_member_104 (by decide) ?_
      exact g_endI (hR _ _ dX2_member_106) (by unfold S_member; rw [if_neg (show ¬ u = 0 from tb_ne (n := 0) c2 (by decide) (by decide)), if_neg (show ¬ u = 1 from tb_ne (n := 1) c2 (by decide) (by decide)), if_neg (show ¬ u = 2 from tb_ne (n := 2) c2 (by decide) (by decide)), if_neg (show ¬ u = 3 from tb_ne (n := 3) c2 (by decide) (by decide)), if_neg (show ¬ u = 4 from tb_ne (n := 4) c2 (by decide) (by decide)), if_neg (show ¬ u = 5 from tb_ne (n := 5) c2 (by decide) (by decide))]) rfl
    · match n_c2, hn_c2, c2 with
      | 0, _, c2 =>
        have hw_c2 : u = nI 0 := tb_eq (by decide) c2
        refine g_tableIn F 48 dX2_member_10 (by rw [c2]; decide) (by rw [c2]; decide) (by rw [c2]; rfl) (by decide) ?_
        refine g_aload_n F dX2_member_48 rfl 0 rfl ?_
        refine g_get F (.ref (a 2)) zX2_member_inX2 0 rfl rfl 2 (by decide) rfl zX2_member_f13 dX2_member_49 ?_
        refine g_iload_n F dX2_member_52 rfl 1 rfl ?_
        refine g_iald F (j := k) 2 0 rfl rfl (by omega) (by decide) dX2_member_53 ?_
        exact g_endI (hR _ _ dX2_member_54) (by rw [hw_c2]; rfl) rfl
      | 1, _, c2 =>
        have hw_c2 : u = nI 1 := tb_eq (by decide) c2
        refine g_tableIn F 55 dX2_member_10 (by rw [c2]; decide) (by rw [c2]; decide) (by rw [c2]; rfl) (by decide) ?_
        refine g_aload_n F dX2_member_55 rfl 0 rfl ?_
        refine g_get F (.ref (a 2)) zX2_member_inX2 0 rfl rfl 2 (by decide) rfl zX2_member_f13 dX2_member_56 ?_
        refine g_bipush F (v := 6) dX2_member_59 (by decide) ?_
        refine g_iload_n F dX2_member_61 rfl 1 rfl ?_
        refine g_iadd F dX2_member_62 ?_
        refine g_as (nI (6 + k)) (nI_add 6 k) ?_
        refine g_iald F (j := 6 + k) 2 0 rfl rfl (by omega) (by decide) dX2_member_63 ?_
        exact g_endI (hR _ _ dX2_member_64) (by rw [hw_c2]; rfl) rfl
      | 2, _, c2 =>
        have hw_c2 : u = nI 2 := tb_eq (by decide) c2
        refine g_tableIn F 65 dX2_member_10 (by rw [c2]; decide) (by rw [c2]; decide) (by rw [c2]; rfl) (by decide) ?_
        refine g_aload_n F dX2_member_65 rfl 0 rfl ?_
        refine g_get F (.ref (a 2)) zX2_member_inX2 0 rfl rfl 2 (by decide) rfl zX2_member_f13 dX2_member_66 ?_
        refine g_iload_n F dX2_member_69 rfl 1 rfl ?_
        refine g_callS F (As := [.ref (a 2), .int (nI k)]) (st := []) ([(a 0, .inr (2, [.ref (a 1), .int (nI ln), .ref (a 2), .ref (a 3), .ref (a 4), .int (nI ac), .int (nI nx), .ref (a 5), .ref (a 6), .ref (a 7), .ref (a 8), .int (nI se), .long sd, .ref (a 9), .ref (a 10)])), (a 1, .inl (cI, 60, .inl tx)), (a 3, .inl (cI, 79, .inl tr)), (a 4, .inl (cI, 1106, .inl di)), (a 5, .inl (cI, 158, .inl ke)), (a 6, .inl (cZ, 2, .inl ik)), (a 7, .inl (cI, 6, .inl s1)), (a 8, .inl (cI, 6, .inl s2)), (a 9, .inl (cI, 64, .inl wo)), (a 10, .inl (cI, 79, .inl re))]) ([(a 0, .inr (2, [.ref (a 1), .int (nI ln), .ref (a 2), .ref (a 3), .ref (a 4), .int (nI ac), .int (nI nx), .ref (a 5), .ref (a 6), .ref (a 7), .ref (a 8), .int (nI se), .long sd, .ref (a 9), .ref (a 10)])), (a 1, .inl (cI, 60, .inl tx)), (a 2, .inl (cI, 79, .inl nw)), (a 3, .inl (cI, 79, .inl tr)), (a 4, .inl (cI, 1106, .inl di)), (a 5, .inl (cI, 158, .inl ke)), (a 6, .inl (cZ, 2, .inl ik)), (a 7, .inl (cI, 6, .inl s1)), (a 8, .inl (cI, 6, .inl s2)), (a 9, .inl (cI, 64, .inl wo)), (a 10, .inl (cI, 79, .inl re))]) [2] [0, 1, 3, 4, 5, 6, 7, 8, 9, 10] [0, 1, 10, 2, 3, 4, 5, 6, 7, 8, 9] (kX2_countOf l D cI cZ cQ (a 2) nw k (by omega)) (va_cwS 2 F.2.2.2.2.1 gX2_member_X2_countOf rfl rfl rfl (by decide +kernel) ⟨Nat.le_of_ble_eq_true rfl, Nat.le_of_ble_eq_true rfl⟩) rfl rfl rfl rfl (by decide) (by decide) (by decide) rfl (by decide) (Nat.le_of_ble_eq_true rfl) ⟨Nat.zero_le _, Nat.zero_le _⟩ dX2_member_70 ?_
        exact g_endI (hR _ _ dX2_member_73) (by rw [hw_c2]; rfl) rfl
      | 3, _, c2 =>
        have hw_c2 : u = nI 3 := tb_eq (by decide) c2
        refine g_tableIn F 74 dX2_member_10 (by rw [c2]; decide) (by rw [c2]; decide) (by rw [c2]; rfl) (by decide) ?_
        refine g_aload_n F dX2_member_74 rfl 0 rfl ?_
        refine g_get F (.ref (a 2)) zX2_member_inX2 0 rfl rfl 2 (by decide) rfl zX2_member_f13 dX2_member_75 ?_
        refine g_bipush F (v := 48) dX2_member_78 (by decide) ?_
        refine g_iload_n F dX2_member_80 rfl 1 rfl ?_
        refine g_iadd F dX2_member_81 ?_
        refine g_as (nI (48 + k)) (nI_add 48 k) ?_
        refine g_iald F (j := 48 + k) 2 0 rfl rfl (by omega) (by decide) dX2_member_82 ?_
        exact g_endI (hR _ _ dX2_member_83) (by rw [hw_c2]; rfl) rfl
      | 4, _, c2 =>
        have hw_c2 : u = nI 4 := tb_eq (by decide) c2
        refine g_tableIn F 84 dX2_member_10 (by rw [c2]; decide) (by rw [c2]; decide) (by rw [c2]; rfl) (by decide) ?_
        refine g_aload_n F dX2_member_84 rfl 0 rfl ?_
        refine g_get F (.ref (a 2)) zX2_member_inX2 0 rfl rfl 2 (by decide) rfl zX2_member_f13 dX2_member_85 ?_
        refine g_bipush F (v := 54) dX2_member_88 (by decide) ?_
        refine g_iload_n F dX2_member_90 rfl 1 rfl ?_
        refine g_iadd F dX2_member_91 ?_
        refine g_as (nI (54 + k)) (nI_add 54 k) ?_
        refine g_iald F (j := 54 + k) 2 0 rfl rfl (by omega) (by decide) dX2_member_92 ?_
        exact g_endI (hR _ _ dX2_member_93) (by rw [hw_c2]; rfl) rfl
      | 5, _, c2 =>
        have hw_c2 : u = nI 5 := tb_eq (by decide) c2
        refine g_tableIn F 94 dX2_member_10 (by rw [c2]; decide) (by rw [c2]; decide) (by rw [c2]; rfl) (by decide) ?_
        refine g_aload_n F dX2_member_94 rfl 0 rfl ?_
        refine g_get F (.ref (a 2)) zX2_member_inX2 0 rfl rfl 2 (by decide) rfl zX2_member_f13 dX2_member_95 ?_
        refine g_bipush F (v := 60) dX2_member_98 (by decide) ?_
        refine g_iload_n F dX2_member_100 rfl 1 rfl ?_
        refine g_iadd F dX2_member_101 ?_
        refine g_as (nI (60 + k)) (nI_add 60 k) ?_
        refine g_iald F (j := 60 + k) 2 0 rfl rfl (by omega) (by decide) dX2_member_102 ?_
        exact g_endI (hR _ _ dX2_member_103) (by rw [hw_c2]; rfl) rfl
      | n + 6, hn, _ => exact absurd hn (by omega)
  · exact absurd c1 (by rw [isM_nI hk]; decide)
