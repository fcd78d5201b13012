set_option maxHeartbeats 1000000 in
set_option maxRecDepth 100000 in
theorem kX2_in (l : Launch) (D : va_G) (cI cZ cQ : ClassId) (v lo hi : Int64) : Ct l D (gTy cI cZ cQ) yX2_in wsX2_in ({ frames := 0, cells := 0, slots := 0, locals := 0 }) [.long v, .long lo, .long hi] ([]) (some (.int (bI (S_in v lo hi)))) ([]) := by
  refine ct_ofZ (cc := cX2_in) (nL := 6) (own := RX2) (by decide) rfl rfl ⟨rfl, rfl⟩ (Nat.le_of_ble_eq_true rfl) (by simp only [List.map]) (by first | rfl | exact bI_nar _) (fun p e s m below meth c A Q F hR => ?_)
  refine g_lload_n F dX2_in_0 rfl 0 rfl ?_
  refine g_lload_n F dX2_in_1 rfl 1 rfl ?_
  refine g_lcmp F dX2_in_2 ?_
  refine g_if_lt F 17 dX2_in_3 (by decide) (fun c1 => ?_) (fun c1 => ?_)
  · refine g_iconst F (v := 0) dX2_in_17 (by decide) ?_
    exact g_endI (hR _ _ dX2_in_18) (by have h1 := lg_cmp_lt v lo; have h2 := lg_cmp_gt v hi; simp_all [S_in, bI]) rfl
  · refine g_lload_n F dX2_in_6 rfl 0 rfl ?_
    refine g_lload F dX2_in_7 2 rfl ?_
    refine g_lcmp F dX2_in_9 ?_
    refine g_if_gt F 17 dX2_in_10 (by decide) (fun c2 => ?_) (fun c2 => ?_)
    · refine g_iconst F (v := 0) dX2_in_17 (by decide) ?_
      exact g_endI (hR _ _ dX2_in_18) (by have h1 := lg_cmp_lt v lo; have h2 := lg_cmp_gt v hi; simp_all [S_in, bI]) rfl
    · refine g_iconst F (v := 1) dX2_in_13 (by decide) ?_
      refine g_goto F 18 dX2_in_14 (by decide) ?_
      exact g_endI (hR _ _ dX2_in_18) (by have h1 := lg_cmp_lt v lo; have h2 := lg_cmp_gt v hi; simp_all [S_in, bI]) rfl
set_option maxHeartbeats 1000000 in
set_option maxRecDepth 100000 in
theorem kX2_has (l : Launch) (D : va_G) (cI cZ cQ : ClassId) (set i : Int32) : Ct l D (gTy cI cZ cQ) yX2_has wsX2_has ({ frames := 0, cells := 0, slots := 0, locals := 0 }) [.int set, .int i] ([]) (some (.int (bI (S_has set i)))) ([]) := by
  refine ct_ofZ (cc := cX2_has) (nL := 2) (own := RX2) (by decide) rfl rfl ⟨rfl, rfl⟩ (Nat.le_of_ble_eq_true rfl) (by simp only [List.map]) (by first | rfl | exact bI_nar _) (fun p e s m below meth c A Q F hR => ?_)
  refine g_iload_n F dX2_has_0 rfl 0 rfl ?_
  refine g_iload_n F dX2_has_1 rfl 1 rfl ?_
  refine g_ishr F dX2_has_2 ?_
  refine g_iconst F (v := 1) dX2_has_3 (by decide) ?_
  refine g_iand F dX2_has_4 ?_
  refine g_iconst F (v := 1) dX2_has_5 (by decide) ?_
  refine g_icmp_ne F 13 dX2_has_6 (by decide) (fun c1 => ?_) (fun c1 => ?_)
  · refine g_iconst F (v := 0) dX2_has_13 (by decide) ?_
    exact g_endI (hR _ _ dX2_has_14) (by first | (simp only [S_has, bI, c1, Bool.false_eq_true, ↓reduceIte]; done) | (with_reducible rfl) | (simp [S_has, bI, c1, Bool.false_eq_true, ↓reduceIte]; done)) rfl
  · refine g_iconst F (v := 1) dX2_has_9 (by decide) ?_
    refine g_goto F 14 dX2_has_10 (by decide) ?_
    exact g_endI (hR _ _ dX2_has_14) (by first | (simp only [S_has, bI, c1, Bool.false_eq_true, ↓reduceIte]; done) | (with_reducible rfl) | (simp [S_has, bI, c1, Bool.false_eq_true, ↓reduceIte]; done)) rfl
set_option maxHeartbeats 1000000 in
set_option maxRecDepth 100000 in
theorem kX2_ones (l : Launch) (D : va_G) (cI cZ cQ : ClassId) (set : Int32) : Ct l D (gTy cI cZ cQ) yX2_ones wsX2_ones ({ frames := 0, cells := 0, slots := 0, locals := 0 }) [.int set] ([]) (some (.int (S_ones set))) ([]) := by
  refine ct_ofI (cc := cX2_ones) (nL := 3) (own := RX2) (by decide) rfl rfl ⟨rfl, rfl⟩ (Nat.le_of_ble_eq_true rfl) (by simp only [List.map]) (fun p e s m below meth c A Q F hR => ?_)
  refine g_iconst F (v := 0) dX2_ones_0 (by decide) ?_
  refine g_istore_n F (lv' := [(0, .int set), (1, .int 0)]) dX2_ones_1 rfl (by decide) [1, 0] rfl ?_
  refine g_iconst F (v := 0) dX2_ones_2 (by decide) ?_
  refine g_istore_n F (lv' := [(0, .int set), (1, .int 0), (2, .int 0)]) dX2_ones_3 rfl (by decide) [1, 2, 0] rfl ?_
  refine g_all (w0 := []) (lv0 := [(0, .int set), (1, .int (it (S_onesStep set) 0 0)), (2, .int (nI 0))]) (st0 := []) rfl rfl rfl ?_
  refine g_for 6 (fun i => True) (fun i => []) (fun i => [(0, .int set), (1, .int (it (S_onesStep set) i 0)), (2, .int (nI i))]) (fun i hi hIi ihi => ?_) 0 (Nat.zero_le _) trivial
  refine g_iload_n F dX2_ones_4 rfl 2 rfl ?_
  refine g_bipush F (v := 6) dX2_ones_5 (by decide) ?_
  refine g_icmp_ge F 24 dX2_ones_7 (by decide) (fun c1 => ?_) (fun c1 => ?_)
  · have hx_c1 : 6 = i := lp_ge hi (by decide) c1
    subst hx_c1
    refine g_iload_n F dX2_ones_24 rfl 1 rfl ?_
    exact g_endI (hR _ _ dX2_ones_25) rfl rfl
  · have hlti : i < 6 := lp_lt hi (by decide) c1
    refine g_iload_n F dX2_ones_10 rfl 1 rfl ?_
    refine g_iload_n F dX2_ones_11 rfl 0 rfl ?_
    refine g_iload_n F dX2_ones_12 rfl 2 rfl ?_
    refine g_ishr F dX2_ones_13 ?_
    refine g_iconst F (v := 1) dX2_ones_14 (by decide) ?_
    refine g_iand F dX2_ones_15 ?_
    refine g_iadd F dX2_ones_16 ?_
    refine g_istore_n F (lv' := [(0, .int set), (1, .int ((it (S_onesStep set) i 0) + ((set >>> ((nI i) &&& 31)) &&& 1))), (2, .int (nI i))]) dX2_ones_17 rfl (by decide) [1, 0, 2] rfl ?_
    refine g_iinc F (lv' := [(0, .int set), (1, .int ((it (S_onesStep set) i 0) + ((set >>> ((nI i) &&& 31)) &&& 1))), (2, .int (nI (i + 1)))]) (nI (i + 1)) dX2_ones_18 2 rfl (nI_add i 1) (by decide) [1, 2, 0] rfl ?_
    refine g_goto F 4 dX2_ones_21 (by decide) ?_
    refine g_all (w0 := []) (lv0 := [(0, .int set), (1, .int (it (S_onesStep set) (i + 1) 0)), (2, .int (nI (i + 1)))]) (st0 := []) rfl rfl rfl ?_
    exact ihi hlti trivial
theorem zX2_isMember_c45 : Cond.constantLong RX2 45 (5) ∈ wsX2_isMember := by decide +kernel
set_option maxHeartbeats 1000000 in
set_option maxRecDepth 100000 in
theorem kX2_isMember (l : Launch) (D : va_G) (cI cZ cQ : ClassId) (v : Int32) : Ct l D (gTy cI cZ cQ) yX2_isMember wsX2_isMember ({ frames := 1, cells := 0, slots := 0, locals := 25 }) [.int v] ([]) (some (.int (bI (S_isM v)))) ([]) := by
  refine ct_ofZ (cc := cX2_isMember) (nL := 1) (own := RX2) (by decide) rfl rfl ⟨rfl, rfl⟩ (Nat.le_of_ble_eq_true rfl) (by simp only [List.map]) (by first | rfl | exact bI_nar _) (fun p e s m below meth c A Q F hR => ?_)
  refine g_iload_n F dX2_isMember_0 rfl 0 rfl ?_
  refine g_i2l F dX2_isMember_1 ?_
  refine g_lconst F (v := 0) dX2_isMember_2 (by decide) ?_
  refine g_ldc2 F zX2_isMember_c45 dX2_isMember_3 ?_
  refine g_callSs F (As := [.long (Int32.toInt64 v), .long 0, .long 5]) (st := []) (kX2_in l D cI cZ cQ (Int32.toInt64 v) 0 5) (va_cwS 3 F.2.2.2.2.1 gX2_isMember_X2_in rfl rfl rfl (by decide +kernel) ⟨Nat.le_of_ble_eq_true rfl, Nat.le_of_ble_eq_true rfl⟩) rfl rfl (Nat.le_of_ble_eq_true rfl) ⟨Nat.zero_le _, Nat.zero_le _⟩ dX2_isMember_6 ?_
  exact g_endI (hR _ _ dX2_isMember_9) rfl rfl
set_option maxHeartbeats 1000000 in
set_option maxRecDepth 100000 in
theorem kX2_countOf (l : Launch) (D : va_G) (cI cZ cQ : ClassId) (a : Nat) (f : Row) (k : Nat) (hk : k < 6) : Ct l D (gTy cI cZ cQ) yX2_countOf wsX2_countOf ({ frames := 1, cells := 0, slots := 0, locals := 22 }) [.ref a, .int (nI k)] ([(a, .inl (cI, 79, .inl f))]) (some (.int (S_count f k))) ([(a, .inl (cI, 79, .inl f))]) := by
  refine ct_ofI (cc := cX2_countOf) (nL := 2) (own := RX2) (by decide) rfl rfl ⟨rfl, rfl⟩ (Nat.le_of_ble_eq_true rfl) (by simp only [List.map]) (fun p e s m below meth c A Q F hR => ?_)
  refine g_aload_n F dX2_countOf_0 rfl 0 rfl ?_
  refine g_iload_n F dX2_countOf_1 rfl 1 rfl ?_
  refine g_iald F (j := k) 0 0 rfl rfl (by omega) (by decide) dX2_countOf_2 ?_
  refine g_if_ne F 10 dX2_countOf_3 (by decide) (fun c1 => ?_) (fun c1 => ?_)
  · refine g_iconst F (v := 1) dX2_countOf_10 (by decide) ?_
    refine g_aload_n F dX2_countOf_11 rfl 0 rfl ?_
    refine g_bipush F (v := 6) dX2_countOf_12 (by decide) ?_
    refine g_iload_n F dX2_countOf_14 rfl 1 rfl ?_
    refine g_iadd F dX2_countOf_15 ?_
    refine g_as (nI (6 + k)) (nI_add 6 k) ?_
    refine g_iald F (j := 6 + k) 0 0 rfl rfl (by omega) (by decide) dX2_countOf_16 ?_
    refine g_callSn F (As := [.int (f (6 + k))]) (st := [.int 1]) (kX2_ones l D cI cZ cQ (f (6 + k))) (va_cwS 1 F.2.2.2.2.1 gX2_countOf_X2_ones rfl rfl rfl (by decide +kernel) ⟨Nat.le_of_ble_eq_true rfl, Nat.le_of_ble_eq_true rfl⟩) rfl rfl (Nat.le_of_ble_eq_true rfl) ⟨Nat.zero_le _, Nat.zero_le _⟩ dX2_countOf_17 ?_
    refine g_iadd F dX2_countOf_20 ?_
    exact g_endI (hR _ _ dX2_countOf_21) (by first | (simp only [S_count, c1, Bool.false_eq_true, ↓reduceIte]; done) | (with_reducible rfl) | (simp [S_count, c1, Bool.false_eq_true, ↓reduceIte]; done)) rfl
  · refine g_iconst F (v := 0) dX2_countOf_6 (by decide) ?_
    refine g_goto F 21 dX2_countOf_7 (by decide) ?_
    exact g_endI (hR _ _ dX2_countOf_21) (by first | (simp only [S_count, c1, Bool.false_eq_true, ↓reduceIte]; done) | (with_reducible rfl) | (simp [S_count, c1, Bool.false_eq_true, ↓reduceIte]; done)) rfl
set_option maxHeartbeats 1000000 in
set_option maxRecDepth 100000 in
theorem kX2_spanOf (l : Launch) (D : va_G) (cI cZ cQ : ClassId) (a : Nat) (f : Row) (v : Int32) (hz : Z67 f) : Ct l D (gTy cI cZ cQ) yX2_spanOf wsX2_spanOf ({ frames := 0, cells := 0, slots := 0, locals := 0 }) [.ref a, .int v] ([(a, .inl (cI, 79, .inl f))]) (some (.int (S_span f v))) ([(a, .inl (cI, 79, .inl f))]) := by
  refine ct_ofI (cc := cX2_spanOf) (nL := 3) (own := RX2) (by decide) rfl rfl ⟨rfl, rfl⟩ (Nat.le_of_ble_eq_true rfl) (by simp only [List.map]) (fun p e s m below meth c A Q F hR => ?_)
  refine g_iload_n F dX2_spanOf_0 rfl 1 rfl ?_
  refine g_aload_n F dX2_spanOf_1 rfl 0 rfl ?_
  refine g_bipush F (v := 66) dX2_spanOf_2 (by decide) ?_
  refine g_as (nI 66) rfl ?_
  refine g_iald F (j := 66) 0 0 rfl rfl (by omega) (by decide) dX2_spanOf_4 ?_
  refine g_imul F dX2_spanOf_5 ?_
  refine g_aload_n F dX2_spanOf_6 rfl 0 rfl ?_
  refine g_bipush F (v := 67) dX2_spanOf_7 (by decide) ?_
  refine g_as (nI 67) rfl ?_
  refine g_iald F (j := 67) 0 0 rfl rfl (by omega) (by decide) dX2_spanOf_9 ?_
  refine g_iadd F dX2_spanOf_10 ?_
  refine g_iconst F (v := 1) dX2_spanOf_11 (by decide) ?_
  refine g_isub F dX2_spanOf_12 ?_
  refine g_aload_n F dX2_spanOf_13 rfl 0 rfl ?_
  refine g_bipush F (v := 67) dX2_spanOf_14 (by decide) ?_
  refine g_as (nI 67) rfl ?_
  refine g_iald F (j := 67) 0 0 rfl rfl (by omega) (by decide) dX2_spanOf_16 ?_
  refine g_idiv F dX2_spanOf_17 hz.ne ?_
  refine g_istore_n F (lv' := [(0, .ref a), (1, .int v), (2, .int ((((v * (f 66)) + (f 67)) - 1) / (f 67)))]) dX2_spanOf_18 rfl (by decide) [1, 2, 0] rfl ?_
  refine g_iload_n F dX2_spanOf_19 rfl 2 rfl ?_
  refine g_aload_n F dX2_spanOf_20 rfl 0 rfl ?_
  refine g_bipush F (v := 68) dX2_spanOf_21 (by decide) ?_
  refine g_as (nI 68) rfl ?_
  refine g_iald F (j := 68) 0 0 rfl rfl (by omega) (by decide) dX2_spanOf_23 ?_
  refine g_icmp_le F 31 dX2_spanOf_24 (by decide) (fun c1 => ?_) (fun c1 => ?_)
  · refine g_aload_n F dX2_spanOf_31 rfl 0 rfl ?_
    refine g_bipush F (v := 68) dX2_spanOf_32 (by decide) ?_
    refine g_as (nI 68) rfl ?_
    refine g_iald F (j := 68) 0 0 rfl rfl (by omega) (by decide) dX2_spanOf_34 ?_
    exact g_endI (hR _ _ dX2_spanOf_35) (by first | (simp only [S_span, S_up, c1, Bool.false_eq_true, ↓reduceIte]; done) | (with_reducible rfl) | (simp [S_span, S_up, c1, Bool.false_eq_true, ↓reduceIte]; done)) rfl
  · refine g_iload_n F dX2_spanOf_27 rfl 2 rfl ?_
    refine g_goto F 35 dX2_spanOf_28 (by decide) ?_
    exact g_endI (hR _ _ dX2_spanOf_35) (by first | (simp only [S_span, S_up, c1, Bool.false_eq_true, ↓reduceIte]; done) | (with_reducible rfl) | (simp [S_span, S_up, c1, Bool.false_eq_true, ↓reduceIte]; done)) rfl
theorem zX2_draw_c55 : Cond.constant RX2 55 (65536) ∈ wsX2_draw := by decide +kernel
set_option maxHeartbeats 1000000 in
set_option maxRecDepth 100000 in
theorem kX2_draw (l : Launch) (D : va_G) (cI cZ cQ : ClassId) (a : Nat) (f : Row) : Ct l D (gTy cI cZ cQ) yX2_draw wsX2_draw ({ frames := 0, cells := 0, slots := 0, locals := 0 }) [.ref a] ([(a, .inl (cI, 79, .inl f))]) (some (.int (S_drawV f))) ([(a, .inl (cI, 79, .inl (S_draw f)))]) := by
  refine ct_ofI (cc := cX2_draw) (nL := 1) (own := RX2) (by decide) rfl rfl ⟨rfl, rfl⟩ (Nat.le_of_ble_eq_true rfl) (by simp only [List.map]) (fun p e s m below meth c A Q F hR => ?_)
  refine g_aload_n F dX2_draw_0 rfl 0 rfl ?_
  refine g_bipush F (v := 69) dX2_draw_1 (by decide) ?_
  refine g_sipush F (v := 25173) dX2_draw_3 (by decide) ?_
  refine g_aload_n F dX2_draw_6 rfl 0 rfl ?_
  refine g_bipush F (v := 69) dX2_draw_7 (by decide) ?_
  refine g_as (nI 69) rfl ?_
  refine g_iald F (j := 69) 0 0 rfl rfl (by omega) (by decide) dX2_draw_9 ?_
  refine g_imul F dX2_draw_10 ?_
  refine g_sipush F (v := 13849) dX2_draw_11 (by decide) ?_
  refine g_iadd F dX2_draw_14 ?_
  refine g_ldc F zX2_draw_c55 dX2_draw_15 ?_
  refine g_irem F dX2_draw_17 (by decide) ?_
  refine g_as2 (nI 69) rfl ?_
  refine g_iast F (j := 69) ([(a, .inl (cI, 79, .inl (upd f 69 (((25173 * (f 69)) + 13849) - ((25173 * (f 69)) + 13849) / 65536 * 65536))))]) 0 0 rfl rfl (by omega) (by decide) dX2_draw_18 rfl ?_
  refine g_aload_n F dX2_draw_19 rfl 0 rfl ?_
  refine g_bipush F (v := 69) dX2_draw_20 (by decide) ?_
  refine g_as (nI 69) rfl ?_
  refine g_iald F (j := 69) 0 0 rfl rfl (by omega) (by decide) dX2_draw_22 ?_
  refine g_bipush F (v := 16) dX2_draw_23 (by decide) ?_
  refine g_idiv F dX2_draw_25 (by decide) ?_
  refine g_iconst F (v := 5) dX2_draw_26 (by decide) ?_
  refine g_irem F dX2_draw_27 (by decide) ?_
  exact g_endI (hR _ _ dX2_draw_28) rfl rfl
set_option maxHeartbeats 1000000 in
set_option maxRecDepth 100000 in
theorem kX2_waitOf (l : Launch) (D : va_G) (cI cZ cQ : ClassId) (a : Nat) (f : Row) (v : Int32) (hz : Z67 f) : Ct l D (gTy cI cZ cQ) yX2_waitOf wsX2_waitOf ({ frames := 1, cells := 0, slots := 0, locals := 22 }) [.ref a, .int v] ([(a, .inl (cI, 79, .inl f))]) (some (.int (S_waitV f v))) ([(a, .inl (cI, 79, .inl (S_draw f)))]) := by
  refine ct_ofI (cc := cX2_waitOf) (nL := 4) (own := RX2) (by decide) rfl rfl ⟨rfl, rfl⟩ (Nat.le_of_ble_eq_true rfl) (by simp only [List.map]) (fun p e s m below meth c A Q F hR => ?_)
  refine g_aload_n F dX2_waitOf_0 rfl 0 rfl ?_
  refine g_iload_n F dX2_waitOf_1 rfl 1 rfl ?_
  refine g_callSs F (As := [.ref a, .int v]) (st := []) (kX2_spanOf l D cI cZ cQ a f v hz) (va_cwS 2 F.2.2.2.2.1 gX2_waitOf_X2_spanOf rfl rfl rfl (by decide +kernel) ⟨Nat.le_of_ble_eq_true rfl, Nat.le_of_ble_eq_true rfl⟩) rfl rfl (Nat.le_of_ble_eq_true rfl) ⟨Nat.zero_le _, Nat.zero_le _⟩ dX2_waitOf_2 ?_
  refine g_istore_n F (lv' := [(0, .ref a), (1, .int v), (2, .int (S_span f v))]) dX2_waitOf_5 rfl (by decide) [1, 2, 0] rfl ?_
  refine g_iload_n F dX2_waitOf_6 rfl 2 rfl ?_
  refine g_iconst F (v := 2) dX2_waitOf_7 (by decide) ?_
  refine g_aload_n F dX2_waitOf_8 rfl 0 rfl ?_
  refine g_callSs F (As := [.ref a]) (st := [.int 2, .int (S_span f v)]) (kX2_draw l D cI cZ cQ a f  ) (va_cwS 1 F.2.2.2.2.1 gX2_waitOf_X2_draw rfl rfl rfl (by decide +kernel) ⟨Nat.le_of_ble_eq_true rfl, Nat.le_of_ble_eq_true rfl⟩) rfl rfl (Nat.le_of_ble_eq_true rfl) ⟨Nat.zero_le _, Nat.zero_le _⟩ dX2_waitOf_9 ?_
  refine g_iadd F dX2_waitOf_12 ?_
  refine g_imul F dX2_waitOf_13 ?_
  refine g_iconst F (v := 4) dX2_waitOf_14 (by decide) ?_
  refine g_idiv F dX2_waitOf_15 (by decide) ?_
  refine g_istore_n F (lv' := [(0, .ref a), (1, .int v), (2, .int (S_span f v)), (3, .int (((S_span f v) * (2 + (S_drawV f))) / 4))]) dX2_waitOf_16 rfl (by decide) [1, 2, 3, 0] rfl ?_
  refine g_iload_n F dX2_waitOf_17 rfl 3 rfl ?_
  refine g_iconst F (v := 1) dX2_waitOf_18 (by decide) ?_
  refine g_icmp_le F 26 dX2_waitOf_19 (by decide) (fun c1 => ?_) (fun c1 => ?_)
  · refine g_iconst F (v := 1) dX2_waitOf_26 (by decide) ?_
    exact g_endI (hR _ _ dX2_waitOf_27) (by first | (simp only [S_waitV, S_wait0, c1, Bool.false_eq_true, ↓reduceIte]; done) | (with_reducible rfl) | (simp [S_waitV, S_wait0, c1, Bool.false_eq_true, ↓reduceIte]; done)) rfl
  · refine g_iload_n F dX2_waitOf_22 rfl 3 rfl ?_
    refine g_goto F 27 dX2_waitOf_23 (by decide) ?_
    exact g_endI (hR _ _ dX2_waitOf_27) (by first | (simp only [S_waitV, S_wait0, c1, Bool.false_eq_true, ↓reduceIte]; done) | (with_reducible rfl) | (simp [S_waitV, S_wait0, c1, Bool.false_eq_true, ↓reduceIte]; done)) rfl
set_option maxHeartbeats 1000000 in
set_option maxRecDepth 100000 in
theorem kX2_lettersOf (l : Launch) (D : va_G) (cI cZ cQ : ClassId) (a : Nat) (f : Row) : Ct l D (gTy cI cZ cQ) yX2_lettersOf wsX2_lettersOf ({ frames := 0, cells := 0, slots := 0, locals := 0 }) [.ref a] ([(a, .inl (cI, 79, .inl f))]) (some (.int (S_letters f))) ([(a, .inl (cI, 79, .inl f))]) := by
  refine ct_ofI (cc := cX2_lettersOf) (nL := 1) (own := RX2) (by decide) rfl rfl ⟨rfl, rfl⟩ (Nat.le_of_ble_eq_true rfl) (by simp only [List.map]) (fun p e s m below meth c A Q F hR => ?_)
  refine g_aload_n F dX2_lettersOf_0 rfl 0 rfl ?_
  refine g_bipush F (v := 71) dX2_lettersOf_1 (by decide) ?_
  refine g_as (nI 71) rfl ?_
  refine g_iald F (j := 71) 0 0 rfl rfl (by omega) (by decide) dX2_lettersOf_3 ?_
  refine g_aload_n F dX2_lettersOf_4 rfl 0 rfl ?_
  refine g_bipush F (v := 72) dX2_lettersOf_5 (by decide) ?_
  refine g_as (nI 72) rfl ?_
  refine g_iald F (j := 72) 0 0 rfl rfl (by omega) (by decide) dX2_lettersOf_7 ?_
  refine g_iadd F dX2_lettersOf_8 ?_
  exact g_endI (hR _ _ dX2_lettersOf_9) rfl rfl
set_option maxHeartbeats 1000000 in
set_option maxRecDepth 100000 in
theorem kX2_reaches (l : Launch) (D : va_G) (cI cZ cQ : ClassId) (a : Nat) (f : Row) (k o : Nat) (hk : k < 6) (ho : o < 6) : Ct l D (gTy cI cZ cQ) yX2_reaches wsX2_reaches ({ frames := 1, cells := 0, slots := 0, locals := 21 }) [.ref a, .int (nI k), .int (nI o)] ([(a, .inl (cI, 79, .inl f))]) (some (.int (bI (S_reaches f k o)))) ([(a, .inl (cI, 79, .inl f))]) := by
  refine ct_ofZ (cc := cX2_reaches) (nL := 3) (own := RX2) (by decide) rfl rfl ⟨rfl, rfl⟩ (Nat.le_of_ble_eq_true rfl) (by simp only [List.map]) (by first | rfl | exact bI_nar _) (fun p e s m below meth c A Q F hR => ?_)
  refine g_iload_n F dX2_reaches_0 rfl 2 rfl ?_
  refine g_iload_n F dX2_reaches_1 rfl 1 rfl ?_
  refine g_icmp_eq F 28 dX2_reaches_2 (by decide) (fun c1 => ?_) (fun c1 => ?_)
  · refine g_iconst F (v := 0) dX2_reaches_28 (by decide) ?_
    exact g_endI (hR _ _ dX2_reaches_29) (by first | (simp only [S_reaches, bI, c1, Bool.false_eq_true, ↓reduceIte]; done) | (with_reducible rfl) | (simp [S_reaches, bI, c1, Bool.false_eq_true, ↓reduceIte]; done)) rfl
  · refine g_aload_n F dX2_reaches_5 rfl 0 rfl ?_
    refine g_iload_n F dX2_reaches_6 rfl 2 rfl ?_
    refine g_iald F (j := o) 0 0 rfl rfl (by omega) (by decide) dX2_reaches_7 ?_
    refine g_if_eq F 28 dX2_reaches_8 (by decide) (fun c2 => ?_) (fun c2 => ?_)
    · refine g_iconst F (v := 0) dX2_reaches_28 (by decide) ?_
      exact g_endI (hR _ _ dX2_reaches_29) (by first | (simp only [S_reaches, bI, c1, c2, Bool.false_eq_true, ↓reduceIte]; done) | (with_reducible rfl) | (simp [S_reaches, bI, c1, c2, Bool.false_eq_true, ↓reduceIte]; done)) rfl
    · refine g_aload_n F dX2_reaches_11 rfl 0 rfl ?_
      refine g_bipush F (v := 73) dX2_reaches_12 (by decide) ?_
      refine g_iload_n F dX2_reaches_14 rfl 1 rfl ?_
      refine g_iadd F dX2_reaches_15 ?_
      refine g_as (nI (73 + k)) (nI_add 73 k) ?_
      refine g_iald F (j := 73 + k) 0 0 rfl rfl (by omega) (by decide) dX2_reaches_16 ?_
      refine g_iload_n F dX2_reaches_17 rfl 2 rfl ?_
      refine g_callSn F (As := [.int (f (73 + k)), .int (nI o)]) (st := []) (kX2_has l D cI cZ cQ (f (73 + k)) (nI o)) (va_cwS 2 F.2.2.2.2.1 gX2_reaches_X2_has rfl rfl rfl (by decide +kernel) ⟨Nat.le_of_ble_eq_true rfl, Nat.le_of_ble_eq_true rfl⟩) rfl rfl (Nat.le_of_ble_eq_true rfl) ⟨Nat.zero_le _, Nat.zero_le _⟩ dX2_reaches_18 ?_
      refine g_bne F 28 dX2_reaches_21 (by decide) (fun c3 => ?_) (fun c3 => ?_)
      · refine g_iconst F (v := 0) dX2_reaches_28 (by decide) ?_
        exact g_endI (hR _ _ dX2_reaches_29) (by first | (simp only [S_reaches, bI, c1, c2, c3, Bool.false_eq_true, ↓reduceIte]; done) | (with_reducible rfl) | (simp [S_reaches, bI, c1, c2, c3, Bool.false_eq_true, ↓reduceIte]; done)) rfl
      · refine g_iconst F (v := 1) dX2_reaches_24 (by decide) ?_
        refine g_goto F 29 dX2_reaches_25 (by decide) ?_
        exact g_endI (hR _ _ dX2_reaches_29) (by first | (simp only [S_reaches, bI, c1, c2, c3, Bool.false_eq_true, ↓reduceIte]; done) | (with_reducible rfl) | (simp [S_reaches, bI, c1, c2, c3, Bool.false_eq_true, ↓reduceIte]; done)) rfl
set_option maxHeartbeats 1000000 in
set_option maxRecDepth 100000 in
theorem kX2_report (l : Launch) (D : va_G) (cI cZ cQ : ClassId) (a : Nat) (f : Row) (k : Nat) (hk : k < 6) : Ct l D (gTy cI cZ cQ) yX2_report wsX2_report ({ frames := 2, cells := 0, slots := 0, locals := 43 }) [.ref a, .int (nI k)] ([(a, .inl (cI, 79, .inl f))]) none ([(a, .inl (cI, 79, .inl (S_report f k)))]) := by
  refine ct_ofV (cc := cX2_report) (nL := 3) (own := RX2) (by decide) rfl rfl ⟨rfl, rfl⟩ (Nat.le_of_ble_eq_true rfl) (by simp only [List.map]) (fun p e s m below meth c A Q F hR => ?_)
  refine g_aload_n F dX2_report_0 rfl 0 rfl ?_
  refine g_bipush F (v := 71) dX2_report_1 (by decide) ?_
  refine g_as (nI 71) rfl ?_
  refine g_dup2 F dX2_report_3 rfl rfl ?_
  refine g_iald F (j := 71) 0 0 rfl rfl (by omega) (by decide) dX2_report_4 ?_
  refine g_iconst F (v := 1) dX2_report_5 (by decide) ?_
  refine g_iadd F dX2_report_6 ?_
  refine g_iast F (j := 71) ([(a, .inl (cI, 79, .inl (upd f 71 ((f 71) + 1))))]) 0 0 rfl rfl (by omega) (by decide) dX2_report_7 rfl ?_
  refine g_iconst F (v := 0) dX2_report_8 (by decide) ?_
  refine g_istore_n F (lv' := [(0, .ref a), (1, .int (nI k)), (2, .int 0)]) dX2_report_9 rfl (by decide) [1, 2, 0] rfl ?_
  refine g_all (w0 := [(a, .inl (cI, 79, .inl (it (S_repStep k) 0 (S_rep0 f))))]) (lv0 := [(0, .ref a), (1, .int (nI k)), (2, .int (nI 0))]) (st0 := []) rfl rfl rfl ?_
  refine g_for 6 (fun i => True) (fun i => [(a, .inl (cI, 79, .inl (it (S_repStep k) i (S_rep0 f))))]) (fun i => [(0, .ref a), (1, .int (nI k)), (2, .int (nI i))]) (fun i hi hIi ihi => ?_) 0 (Nat.zero_le _) trivial
  dsimp only [it_s] at ihi ⊢
  generalize hg_g : it (S_repStep k) i (S_rep0 f) = g at ihi ⊢
  refine g_iload_n F dX2_report_10 rfl 2 rfl ?_
  refine g_bipush F (v := 6) dX2_report_11 (by decide) ?_
  refine g_icmp_ge F 58 dX2_report_13 (by decide) (fun c1 => ?_) (fun c1 => ?_)
  · have hx_c1 : 6 = i := lp_ge hi (by decide) c1
    subst hx_c1
    subst hg_g
    exact g_endV (hR _ _ dX2_report_58) rfl
  · have hlti : i < 6 := lp_lt hi (by decide) c1
    refine g_aload_n F dX2_report_16 rfl 0 rfl ?_
    refine g_iload_n F dX2_report_17 rfl 1 rfl ?_
    refine g_iload_n F dX2_report_18 rfl 2 rfl ?_
    refine g_callSs F (As := [.ref a, .int (nI k), .int (nI i)]) (st := []) (kX2_reaches l D cI cZ cQ a g k i (by omega) (by omega)) (va_cwS 3 F.2.2.2.2.1 gX2_report_X2_reaches rfl rfl rfl (by decide +kernel) ⟨Nat.le_of_ble_eq_true rfl, Nat.le_of_ble_eq_true rfl⟩) rfl rfl (Nat.le_of_ble_eq_true rfl) ⟨Nat.zero_le _, Nat.zero_le _⟩ dX2_report_19 ?_
    refine g_beq F 52 dX2_report_22 (by decide) (fun c2 => ?_) (fun c2 => ?_)
    · refine g_iinc F (lv' := [(0, .ref a), (1, .int (nI k)), (2, .int (nI (i + 1)))]) (nI (i + 1)) dX2_report_52 2 rfl (nI_add i 1) (by decide) [1, 2, 0] rfl ?_
      refine g_goto F 10 dX2_report_55 (by decide) ?_
      refine g_all (w0 := [(a, .inl (cI, 79, .inl (S_repStep k i g)))]) (lv0 := [(0, .ref a), (1, .int (nI k)), (2, .int (nI (i + 1)))]) (st0 := []) (by first | (simp only [S_repStep, S_kn, c2, Bool.false_eq_true, ↓reduceIte]; done) | (with_reducible rfl) | (simp [S_repStep, S_kn, c2, Bool.false_eq_true, ↓reduceIte]; done)) rfl rfl ?_
      exact ihi hlti trivial
    · refine g_aload_n F dX2_report_25 rfl 0 rfl ?_
      refine g_bipush F (v := 6) dX2_report_26 (by decide) ?_
      refine g_iload_n F dX2_report_28 rfl 2 rfl ?_
      refine g_iadd F dX2_report_29 ?_
      refine g_as (nI (6 + i)) (nI_add 6 i) ?_
      refine g_dup2 F dX2_report_30 rfl rfl ?_
      refine g_iald F (j := 6 + i) 0 0 rfl rfl (by omega) (by decide) dX2_report_31 ?_
      refine g_iconst F (v := 1) dX2_report_32 (by decide) ?_
      refine g_iload_n F dX2_report_33 rfl 1 rfl ?_
      refine g_ishl F dX2_report_34 ?_
      refine g_ior F dX2_report_35 ?_
      refine g_iast F (j := 6 + i) ([(a, .inl (cI, 79, .inl (upd g (6 + i) ((g (6 + i)) ||| (1 <<< ((nI k) &&& 31))))))]) 0 0 rfl rfl (by omega) (by decide) dX2_report_36 rfl ?_
      refine g_aload_n F dX2_report_37 rfl 0 rfl ?_
      refine g_bipush F (v := 12) dX2_report_38 (by decide) ?_
      refine g_bipush F (v := 6) dX2_report_40 (by decide) ?_
      refine g_iload_n F dX2_report_42 rfl 2 rfl ?_
      refine g_imul F dX2_report_43 ?_
      refine g_as (nI (6 * i)) (pk_mul 6 i) ?_
      refine g_iadd F dX2_report_44 ?_
      refine g_as (nI (12 + 6 * i)) (nI_add 12 (6 * i)) ?_
      refine g_iload_n F dX2_report_45 rfl 1 rfl ?_
      refine g_iadd F dX2_report_46 ?_
      refine g_as (nI (12 + 6 * i + k)) (nI_add (12 + 6 * i) k) ?_
      refine g_aload_n F dX2_report_47 rfl 0 rfl ?_
      refine g_bipush F (v := 70) dX2_report_48 (by decide) ?_
      refine g_as (nI 70) rfl ?_
      refine g_iald F (j := 70) 0 0 rfl rfl (by omega) (by decide) dX2_report_50 ?_
      refine g_iast F (j := 12 + 6 * i + k) ([(a, .inl (cI, 79, .inl (upd (upd g (6 + i) ((g (6 + i)) ||| (1 <<< ((nI k) &&& 31)))) (12 + 6 * i + k) ((upd g (6 + i) ((g (6 + i)) ||| (1 <<< ((nI k) &&& 31)))) 70))))]) 0 0 rfl rfl (by omega) (by decide) dX2_report_51 rfl ?_
      refine g_iinc F (lv' := [(0, .ref a), (1, .int (nI k)), (2, .int (nI (i + 1)))]) (nI (i + 1)) dX2_report_52 2 rfl (nI_add i 1) (by decide) [1, 2, 0] rfl ?_
      refine g_goto F 10 dX2_report_55 (by decide) ?_
      refine g_all (w0 := [(a, .inl (cI, 79, .inl (S_repStep k i g)))]) (lv0 := [(0, .ref a), (1, .int (nI k)), (2, .int (nI (i + 1)))]) (st0 := []) (by first | (simp only [S_repStep, S_kn, c2, Bool.false_eq_true, ↓reduceIte]; done) | (with_reducible rfl) | (simp [S_repStep, S_kn, c2, Bool.false_eq_true, ↓reduceIte]; done)) rfl rfl ?_
      exact ihi hlti trivial
set_option maxHeartbeats 1000000 in
set_option maxRecDepth 100000 in
theorem kX2_goAway (l : Launch) (D : va_G) (cI cZ cQ : ClassId) (a : Nat) (f : Row) (k : Nat) (hk : k < 6) : Ct l D (gTy cI cZ cQ) yX2_goAway wsX2_goAway ({ frames := 0, cells := 0, slots := 0, locals := 0 }) [.ref a, .int (nI k)] ([(a, .inl (cI, 79, .inl f))]) none ([(a, .inl (cI, 79, .inl (S_goAway f k)))]) := by
  refine ct_ofV (cc := cX2_goAway) (nL := 2) (own := RX2) (by decide) rfl rfl ⟨rfl, rfl⟩ (Nat.le_of_ble_eq_true rfl) (by simp only [List.map]) (fun p e s m below meth c A Q F hR => ?_)
  refine g_aload_n F dX2_goAway_0 rfl 0 rfl ?_
  refine g_iload_n F dX2_goAway_1 rfl 1 rfl ?_
  refine g_iconst F (v := 0) dX2_goAway_2 (by decide) ?_
  refine g_iast F (j := k) ([(a, .inl (cI, 79, .inl (upd f k 0)))]) 0 0 rfl rfl (by omega) (by decide) dX2_goAway_3 rfl ?_
  refine g_aload_n F dX2_goAway_4 rfl 0 rfl ?_
  refine g_bipush F (v := 6) dX2_goAway_5 (by decide) ?_
  refine g_iload_n F dX2_goAway_7 rfl 1 rfl ?_
  refine g_iadd F dX2_goAway_8 ?_
  refine g_as (nI (6 + k)) (nI_add 6 k) ?_
  refine g_iconst F (v := 0) dX2_goAway_9 (by decide) ?_
  refine g_iast F (j := 6 + k) ([(a, .inl (cI, 79, .inl (upd (upd f k 0) (6 + k) 0)))]) 0 0 rfl rfl (by omega) (by decide) dX2_goAway_10 rfl ?_
  refine g_aload_n F dX2_goAway_11 rfl 0 rfl ?_
  refine g_bipush F (v := 48) dX2_goAway_12 (by decide) ?_
  refine g_iload_n F dX2_goAway_14 rfl 1 rfl ?_
  refine g_iadd F dX2_goAway_15 ?_
  refine g_as (nI (48 + k)) (nI_add 48 k) ?_
  refine g_iconst F (v := 0) dX2_goAway_16 (by decide) ?_
  refine g_iast F (j := 48 + k) ([(a, .inl (cI, 79, .inl (upd (upd (upd f k 0) (6 + k) 0) (48 + k) 0)))]) 0 0 rfl rfl (by omega) (by decide) dX2_goAway_17 rfl ?_
  refine g_aload_n F dX2_goAway_18 rfl 0 rfl ?_
  refine g_bipush F (v := 54) dX2_goAway_19 (by decide) ?_
  refine g_iload_n F dX2_goAway_21 rfl 1 rfl ?_
  refine g_iadd F dX2_goAway_22 ?_
  refine g_as (nI (54 + k)) (nI_add 54 k) ?_
  refine g_iconst F (v := 0) dX2_goAway_23 (by decide) ?_
  refine g_iast F (j := 54 + k) ([(a, .inl (cI, 79, .inl (upd (upd (upd (upd f k 0) (6 + k) 0) (48 + k) 0) (54 + k) 0)))]) 0 0 rfl rfl (by omega) (by decide) dX2_goAway_24 rfl ?_
  refine g_aload_n F dX2_goAway_25 rfl 0 rfl ?_
  refine g_bipush F (v := 60) dX2_goAway_26 (by decide) ?_
  refine g_iload_n F dX2_goAway_28 rfl 1 rfl ?_
  refine g_iadd F dX2_goAway_29 ?_
  refine g_as (nI (60 + k)) (nI_add 60 k) ?_
  refine g_iconst F (v := 0) dX2_goAway_30 (by decide) ?_
  refine g_iast F (j := 60 + k) ([(a, .inl (cI, 79, .inl (upd (upd (upd (upd (upd f k 0) (6 + k) 0) (48 + k) 0) (54 + k) 0) (60 + k) 0)))]) 0 0 rfl rfl (by omega) (by decide) dX2_goAway_31 rfl ?_
  exact g_endV (hR _ _ dX2_goAway_32) rfl
