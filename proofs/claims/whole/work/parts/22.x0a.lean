theorem zJ6_bitCount_0f7a4_c265 : Cond.constant RJ6 265 (1431655765) ∈ wsJ6_bitCount_0f7a4 := by decide +kernel
theorem zJ6_bitCount_0f7a4_c266 : Cond.constant RJ6 266 (858993459) ∈ wsJ6_bitCount_0f7a4 := by decide +kernel
theorem zJ6_bitCount_0f7a4_c267 : Cond.constant RJ6 267 (252645135) ∈ wsJ6_bitCount_0f7a4 := by decide +kernel
set_option maxHeartbeats 1000000 in
set_option maxRecDepth 100000 in
theorem kJ6_bitCount_0f7a4 (l : Launch) (D : va_G) (cI cZ cQ : ClassId) (v : Nat) (hv : v < 64) : Ct l D (gTy cI cZ cQ) yJ6_bitCount_0f7a4 wsJ6_bitCount_0f7a4 ({ frames := 0, cells := 0, slots := 0, locals := 0 }) [.int (nI v)] ([]) (some (.int (S_ones (nI v)))) ([]) := by
  refine ct_ofI (cc := cJ6_bitCount_0f7a4) (nL := 1) (own := RJ6) (by decide) rfl rfl ⟨rfl, rfl⟩ (Nat.le_of_ble_eq_true rfl) (by simp only [List.map]) (fun p e s m below meth c A Q F hR => ?_)
  refine g_iload_n F dJ6_bitCount_0f7a4_0 rfl 0 rfl ?_
  refine g_iload_n F dJ6_bitCount_0f7a4_1 rfl 0 rfl ?_
  refine g_iconst F (v := 1) dJ6_bitCount_0f7a4_2 (by decide) ?_
  refine g_iushr F _ dJ6_bitCount_0f7a4_3 rfl ?_
  refine g_ldcw F zJ6_bitCount_0f7a4_c265 dJ6_bitCount_0f7a4_4 ?_
  refine g_iand F dJ6_bitCount_0f7a4_7 ?_
  refine g_isub F dJ6_bitCount_0f7a4_8 ?_
  refine g_istore_n F (lv' := [(0, .int ((nI v) - ((((nI v).toUInt32 >>> (Int32.toUInt32 1 &&& Int32.toUInt32 31)).toInt32) &&& 1431655765)))]) dJ6_bitCount_0f7a4_9 rfl (by decide) [0] rfl ?_
  refine g_iload_n F dJ6_bitCount_0f7a4_10 rfl 0 rfl ?_
  refine g_ldcw F zJ6_bitCount_0f7a4_c266 dJ6_bitCount_0f7a4_11 ?_
  refine g_iand F dJ6_bitCount_0f7a4_14 ?_
  refine g_iload_n F dJ6_bitCount_0f7a4_15 rfl 0 rfl ?_
  refine g_iconst F (v := 2) dJ6_bitCount_0f7a4_16 (by decide) ?_
  refine g_iushr F _ dJ6_bitCount_0f7a4_17 rfl ?_
  refine g_ldcw F zJ6_bitCount_0f7a4_c266 dJ6_bitCount_0f7a4_18 ?_
  refine g_iand F dJ6_bitCount_0f7a4_21 ?_
  refine g_iadd F dJ6_bitCount_0f7a4_22 ?_
  refine g_istore_n F (lv' := [(0, .int ((((nI v) - ((((nI v).toUInt32 >>> (Int32.toUInt32 1 &&& Int32.toUInt32 31)).toInt32) &&& 1431655765)) &&& 858993459) + (((((nI v) - ((((nI v).toUInt32 >>> (Int32.toUInt32 1 &&& Int32.toUInt32 31)).toInt32) &&& 1431655765)).toUInt32 >>> (Int32.toUInt32 2 &&& Int32.toUInt32 31)).toInt32) &&& 858993459)))]) dJ6_bitCount_0f7a4_23 rfl (by decide) [0] rfl ?_
  refine g_iload_n F dJ6_bitCount_0f7a4_24 rfl 0 rfl ?_
  refine g_iload_n F dJ6_bitCount_0f7a4_25 rfl 0 rfl ?_
  refine g_iconst F (v := 4) dJ6_bitCount_0f7a4_26 (by decide) ?_
  refine g_iushr F _ dJ6_bitCount_0f7a4_27 rfl ?_
  refine g_iadd F dJ6_bitCount_0f7a4_28 ?_
  refine g_ldcw F zJ6_bitCount_0f7a4_c267 dJ6_bitCount_0f7a4_29 ?_
  refine g_iand F dJ6_bitCount_0f7a4_32 ?_
  refine g_istore_n F (lv' := [(0, .int ((((((nI v) - ((((nI v).toUInt32 >>> (Int32.toUInt32 1 &&& Int32.toUInt32 31)).toInt32) &&& 1431655765)) &&& 858993459) + (((((nI v) - ((((nI v).toUInt32 >>> (Int32.toUInt32 1 &&& Int32.toUInt32 31)).toInt32) &&& 1431655765)).toUInt32 >>> (Int32.toUInt32 2 &&& Int32.toUInt32 31)).toInt32) &&& 858993459)) + ((((((nI v) - ((((nI v).toUInt32 >>> (Int32.toUInt32 1 &&& Int32.toUInt32 31)).toInt32) &&& 1431655765)) &&& 858993459) + (((((nI v) - ((((nI v).toUInt32 >>> (Int32.toUInt32 1 &&& Int32.toUInt32 31)).toInt32) &&& 1431655765)).toUInt32 >>> (Int32.toUInt32 2 &&& Int32.toUInt32 31)).toInt32) &&& 858993459)).toUInt32 >>> (Int32.toUInt32 4 &&& Int32.toUInt32 31)).toInt32)) &&& 252645135))]) dJ6_bitCount_0f7a4_33 rfl (by decide) [0] rfl ?_
  refine g_iload_n F dJ6_bitCount_0f7a4_34 rfl 0 rfl ?_
  refine g_iload_n F dJ6_bitCount_0f7a4_35 rfl 0 rfl ?_
  refine g_bipush F (v := 8) dJ6_bitCount_0f7a4_36 (by decide) ?_
  refine g_iushr F _ dJ6_bitCount_0f7a4_38 rfl ?_
  refine g_iadd F dJ6_bitCount_0f7a4_39 ?_
  refine g_istore_n F (lv' := [(0, .int (((((((nI v) - ((((nI v).toUInt32 >>> (Int32.toUInt32 1 &&& Int32.toUInt32 31)).toInt32) &&& 1431655765)) &&& 858993459) + (((((nI v) - ((((nI v).toUInt32 >>> (Int32.toUInt32 1 &&& Int32.toUInt32 31)).toInt32) &&& 1431655765)).toUInt32 >>> (Int32.toUInt32 2 &&& Int32.toUInt32 31)).toInt32) &&& 858993459)) + ((((((nI v) - ((((nI v).toUInt32 >>> (Int32.toUInt32 1 &&& Int32.toUInt32 31)).toInt32) &&& 1431655765)) &&& 858993459) + (((((nI v) - ((((nI v).toUInt32 >>> (Int32.toUInt32 1 &&& Int32.toUInt32 31)).toInt32) &&& 1431655765)).toUInt32 >>> (Int32.toUInt32 2 &&& Int32.toUInt32 31)).toInt32) &&& 858993459)).toUInt32 >>> (Int32.toUInt32 4 &&& Int32.toUInt32 31)).toInt32)) &&& 252645135) + ((((((((nI v) - ((((nI v).toUInt32 >>> (Int32.toUInt32 1 &&& Int32.toUInt32 31)).toInt32) &&& 1431655765)) &&& 858993459) + (((((nI v) - ((((nI v).toUInt32 >>> (Int32.toUInt32 1 &&& Int32.toUInt32 31)).toInt32) &&& 1431655765)).toUInt32 >>> (Int32.toUInt32 2 &&& Int32.toUInt32 31)).toInt32) &&& 858993459)) + ((((((nI v) - ((((nI v).toUInt32 >>> (Int32.toUInt32 1 &&& Int32.toUInt32 31)).toInt32) &&& 1431655765)) &&& 858993459) + (((((nI v) - ((((nI v).toUInt32 >>> (Int32.toUInt32 1 &&& Int32.toUInt32 31)).toInt32) &&& 1431655765)).toUInt32 >>> (Int32.toUInt32 2 &&& Int32.toUInt32 31)).toInt32) &&& 858993459)).toUInt32 >>> (Int32.toUInt32 4 &&& Int32.toUInt32 31)).toInt32)) &&& 252645135).toUInt32 >>> (Int32.toUInt32 8 &&& Int32.toUInt32 31)).toInt32)))]) dJ6_bitCount_0f7a4_40 rfl (by decide) [0] rfl ?_
  refine g_iload_n F dJ6_bitCount_0f7a4_41 rfl 0 rfl ?_
  refine g_iload_n F dJ6_bitCount_0f7a4_42 rfl 0 rfl ?_
  refine g_bipush F (v := 16) dJ6_bitCount_0f7a4_43 (by decide) ?_
  refine g_iushr F _ dJ6_bitCount_0f7a4_45 rfl ?_
  refine g_iadd F dJ6_bitCount_0f7a4_46 ?_
  refine g_istore_n F (lv' := [(0, .int ((((((((nI v) - ((((nI v).toUInt32 >>> (Int32.toUInt32 1 &&& Int32.toUInt32 31)).toInt32) &&& 1431655765)) &&& 858993459) + (((((nI v) - ((((nI v).toUInt32 >>> (Int32.toUInt32 1 &&& Int32.toUInt32 31)).toInt32) &&& 1431655765)).toUInt32 >>> (Int32.toUInt32 2 &&& Int32.toUInt32 31)).toInt32) &&& 858993459)) + ((((((nI v) - ((((nI v).toUInt32 >>> (Int32.toUInt32 1 &&& Int32.toUInt32 31)).toInt32) &&& 1431655765)) &&& 858993459) + (((((nI v) - ((((nI v).toUInt32 >>> (Int32.toUInt32 1 &&& Int32.toUInt32 31)).toInt32) &&& 1431655765)).toUInt32 >>> (Int32.toUInt32 2 &&& Int32.toUInt32 31)).toInt32) &&& 858993459)).toUInt32 >>> (Int32.toUInt32 4 &&& Int32.toUInt32 31)).toInt32)) &&& 252645135) + ((((((((nI v) - ((((nI v).toUInt32 >>> (Int32.toUInt32 1 &&& Int32.toUInt32 31)).toInt32) &&& 1431655765)) &&& 858993459) + (((((nI v) - ((((nI v).toUInt32 >>> (Int32.toUInt32 1 &&& Int32.toUInt32 31)).toInt32) &&& 1431655765)).toUInt32 >>> (Int32.toUInt32 2 &&& Int32.toUInt32 31)).toInt32) &&& 858993459)) + ((((((nI v) - ((((nI v).toUInt32 >>> (Int32.toUInt32 1 &&& Int32.toUInt32 31)).toInt32) &&& 1431655765)) &&& 858993459) + (((((nI v) - ((((nI v).toUInt32 >>> (Int32.toUInt32 1 &&& Int32.toUInt32 31)).toInt32) &&& 1431655765)).toUInt32 >>> (Int32.toUInt32 2 &&& Int32.toUInt32 31)).toInt32) &&& 858993459)).toUInt32 >>> (Int32.toUInt32 4 &&& Int32.toUInt32 31)).toInt32)) &&& 252645135).toUInt32 >>> (Int32.toUInt32 8 &&& Int32.toUInt32 31)).toInt32)) + (((((((((nI v) - ((((nI v).toUInt32 >>> (Int32.toUInt32 1 &&& Int32.toUInt32 31)).toInt32) &&& 1431655765)) &&& 858993459) + (((((nI v) - ((((nI v).toUInt32 >>> (Int32.toUInt32 1 &&& Int32.toUInt32 31)).toInt32) &&& 1431655765)).toUInt32 >>> (Int32.toUInt32 2 &&& Int32.toUInt32 31)).toInt32) &&& 858993459)) + ((((((nI v) - ((((nI v).toUInt32 >>> (Int32.toUInt32 1 &&& Int32.toUInt32 31)).toInt32) &&& 1431655765)) &&& 858993459) + (((((nI v) - ((((nI v).toUInt32 >>> (Int32.toUInt32 1 &&& Int32.toUInt32 31)).toInt32) &&& 1431655765)).toUInt32 >>> (Int32.toUInt32 2 &&& Int32.toUInt32 31)).toInt32) &&& 858993459)).toUInt32 >>> (Int32.toUInt32 4 &&& Int32.toUInt32 31)).toInt32)) &&& 252645135) + ((((((((nI v) - ((((nI v).toUInt32 >>> (Int32.toUInt32 1 &&& Int32.toUInt32 31)).toInt32) &&& 1431655765)) &&& 858993459) + (((((nI v) - ((((nI v).toUInt32 >>> (Int32.toUInt32 1 &&& Int32.toUInt32 31)).toInt32) &&& 1431655765)).toUInt32 >>> (Int32.toUInt32 2 &&& Int32.toUInt32 31)).toInt32) &&& 858993459)) + ((((((nI v) - ((((nI v).toUInt32 >>> (Int32.toUInt32 1 &&& Int32.toUInt32 31)).toInt32) &&& 1431655765)) &&& 858993459) + (((((nI v) - ((((nI v).toUInt32 >>> (Int32.toUInt32 1 &&& Int32.toUInt32 31)).toInt32) &&& 1431655765)).toUInt32 >>> (Int32.toUInt32 2 &&& Int32.toUInt32 31)).toInt32) &&& 858993459)).toUInt32 >>> (Int32.toUInt32 4 &&& Int32.toUInt32 31)).toInt32)) &&& 252645135).toUInt32 >>> (Int32.toUInt32 8 &&& Int32.toUInt32 31)).toInt32)).toUInt32 >>> (Int32.toUInt32 16 &&& Int32.toUInt32 31)).toInt32)))]) dJ6_bitCount_0f7a4_47 rfl (by decide) [0] rfl ?_
  refine g_iload_n F dJ6_bitCount_0f7a4_48 rfl 0 rfl ?_
  refine g_bipush F (v := 63) dJ6_bitCount_0f7a4_49 (by decide) ?_
  refine g_iand F dJ6_bitCount_0f7a4_51 ?_
  exact g_endI (hR _ _ dJ6_bitCount_0f7a4_52) ((show _ = bcE (nI v) from rfl).trans (bc_ok v hv)) rfl
set_option maxHeartbeats 1000000 in
set_option maxRecDepth 100000 in
theorem kX1_isMember (l : Launch) (D : va_G) (cI cZ cQ : ClassId) (v : Int32) : Ct l D (gTy cI cZ cQ) yX1_isMember wsX1_isMember ({ frames := 0, cells := 0, slots := 0, locals := 0 }) [.int v] ([]) (some (.int (bI (S_mem v)))) ([]) := by
  refine ct_ofZ (cc := cX1_isMember) (nL := 1) (own := RX1) (by decide) rfl rfl ⟨rfl, rfl⟩ (Nat.le_of_ble_eq_true rfl) (by simp only [List.map]) (by first | rfl | exact bI_nar _) (fun p e s m below meth c A Q F hR => ?_)
  refine g_iload_n F dX1_isMember_0 rfl 0 rfl ?_
  refine g_if_lt F 14 dX1_isMember_1 (by decide) (fun c1 => ?_) (fun c1 => ?_)
  · refine g_iconst F (v := 0) dX1_isMember_14 (by decide) ?_
    exact g_endI (hR _ _ dX1_isMember_15) (by first | (simp only [S_mem, bI, c1, Bool.false_eq_true, ↓reduceIte]; done) | (with_reducible rfl) | (simp [S_mem, bI, c1, Bool.false_eq_true, ↓reduceIte]; done)) rfl
  · refine g_iload_n F dX1_isMember_4 rfl 0 rfl ?_
    refine g_bipush F (v := 6) dX1_isMember_5 (by decide) ?_
    refine g_icmp_ge F 14 dX1_isMember_7 (by decide) (fun c2 => ?_) (fun c2 => ?_)
    · refine g_iconst F (v := 0) dX1_isMember_14 (by decide) ?_
      exact g_endI (hR _ _ dX1_isMember_15) (by first | (simp only [S_mem, bI, c1, c2, Bool.false_eq_true, ↓reduceIte]; done) | (with_reducible rfl) | (simp [S_mem, bI, c1, c2, Bool.false_eq_true, ↓reduceIte]; done)) rfl
    · refine g_iconst F (v := 1) dX1_isMember_10 (by decide) ?_
      refine g_goto F 15 dX1_isMember_11 (by decide) ?_
      exact g_endI (hR _ _ dX1_isMember_15) (by first | (simp only [S_mem, bI, c1, c2, Bool.false_eq_true, ↓reduceIte]; done) | (with_reducible rfl) | (simp [S_mem, bI, c1, c2, Bool.false_eq_true, ↓reduceIte]; done)) rfl
theorem zX0_sent_f27 : Cond.fieldLink RX0 27 (TX0 5).1 (TX0 5).2.1 (TX0 5).2.2.1 ∈ wsX0_sent := by decide +kernel
theorem zX0_sent_f30 : Cond.fieldLink RX0 30 (TX0 6).1 (TX0 6).2.1 (TX0 6).2.2.1 ∈ wsX0_sent := by decide +kernel
theorem zX0_sent_inX0 : ∀ w ∈ u_ws RX0 TX0 14, w ∈ wsX0_sent := by decide +kernel
set_option maxHeartbeats 1000000 in
set_option maxRecDepth 100000 in
theorem kX0_sent (l : Launch) (D : va_G) (cI cZ cQ : ClassId) (b : Nat → Nat) (f : Row) : Ct l D (gTy cI cZ cQ) yX0_sent wsX0_sent ({ frames := 0, cells := 0, slots := 0, locals := 0 }) [.ref (b 0)] (CR cI b f) (some (.int (S_letters f))) (CR cI b f) := by
  refine ct_ofI (cc := cX0_sent) (nL := 1) (own := RX0) (by decide) rfl rfl ⟨rfl, rfl⟩ (Nat.le_of_ble_eq_true rfl) CR_same (fun p e s m below meth c A Q F hR => ?_)
  refine g_aload_n F dX0_sent_0 rfl 0 rfl ?_
  refine g_lF71 F zX0_sent_inX0 zX0_sent_f27 dX0_sent_1 ?_
  refine g_aload_n F dX0_sent_4 rfl 0 rfl ?_
  refine g_lF72 F zX0_sent_inX0 zX0_sent_f30 dX0_sent_5 ?_
  refine g_iadd F dX0_sent_8 ?_
  exact g_endI (hR _ _ dX0_sent_9) rfl rfl
theorem zX0_bitsOf_f33 : Cond.fieldLink RX0 33 (TX0 7).1 (TX0 7).2.1 (TX0 7).2.2.1 ∈ wsX0_bitsOf := by decide +kernel
theorem zX0_bitsOf_inX0 : ∀ w ∈ u_ws RX0 TX0 14, w ∈ wsX0_bitsOf := by decide +kernel
set_option maxHeartbeats 1000000 in
set_option maxRecDepth 100000 in
theorem kX0_bitsOf (l : Launch) (D : va_G) (cI cZ cQ : ClassId) (b : Nat → Nat) (f : Row) (v : Int32) : Ct l D (gTy cI cZ cQ) yX0_bitsOf wsX0_bitsOf ({ frames := 0, cells := 0, slots := 0, locals := 0 }) [.ref (b 0), .int v] (CR cI b f) (some (.int (S_those f v))) (CR cI b f) := by
  refine ct_ofI (cc := cX0_bitsOf) (nL := 4) (own := RX0) (by decide) rfl rfl ⟨rfl, rfl⟩ (Nat.le_of_ble_eq_true rfl) CR_same (fun p e s m below meth c A Q F hR => ?_)
  refine g_iconst F (v := 0) dX0_bitsOf_0 (by decide) ?_
  refine g_istore_n F (lv' := [(0, .ref (b 0)), (1, .int v), (2, .int 0)]) dX0_bitsOf_1 rfl (by decide) [1, 2, 0] rfl ?_
  refine g_iconst F (v := 0) dX0_bitsOf_2 (by decide) ?_
  refine g_istore_n F (lv' := [(0, .ref (b 0)), (1, .int v), (2, .int 0), (3, .int 0)]) dX0_bitsOf_3 rfl (by decide) [1, 2, 3, 0] rfl ?_
  refine g_all (w0 := CR cI b f) (lv0 := [(0, .ref (b 0)), (1, .int v), (2, .int (it (S_thoseStep f v) 0 0)), (3, .int (nI 0))]) (st0 := []) rfl rfl rfl ?_
  refine g_for 6 (fun i => True) (fun i => CR cI b f) (fun i => [(0, .ref (b 0)), (1, .int v), (2, .int (it (S_thoseStep f v) i 0)), (3, .int (nI i))]) (fun i hi hIi ihi => ?_) 0 (Nat.zero_le _) trivial
  refine g_iload_n F dX0_bitsOf_4 rfl 3 rfl ?_
  refine g_bipush F (v := 6) dX0_bitsOf_5 (by decide) ?_
  refine g_icmp_ge F 32 dX0_bitsOf_7 (by decide) (fun c1 => ?_) (fun c1 => ?_)
  · have hx_c1 : 6 = i := lp_ge hi (by decide) c1
    subst hx_c1
    refine g_iload_n F dX0_bitsOf_32 rfl 2 rfl ?_
    exact g_endI (hR _ _ dX0_bitsOf_33) rfl rfl
  · have hlti : i < 6 := lp_lt hi (by decide) c1
    refine g_aload_n F dX0_bitsOf_10 rfl 0 rfl ?_
    refine g_lR1 F zX0_bitsOf_inX0 zX0_bitsOf_f33 dX0_bitsOf_11 ?_
    refine g_iload_n F dX0_bitsOf_14 rfl 3 rfl ?_
    refine g_lA1 F rfl (by omega) dX0_bitsOf_15 ?_
    refine g_iload_n F dX0_bitsOf_16 rfl 1 rfl ?_
    refine g_icmp_ne F 26 dX0_bitsOf_17 (by decide) (fun c2 => ?_) (fun c2 => ?_)
    · refine g_iinc F (lv' := [(0, .ref (b 0)), (1, .int v), (2, .int (it (S_thoseStep f v) i 0)), (3, .int (nI (i + 1)))]) (nI (i + 1)) dX0_bitsOf_26 3 rfl (nI_add i 1) (by decide) [1, 2, 3, 0] rfl ?_
      refine g_goto F 4 dX0_bitsOf_29 (by decide) ?_
      refine g_all (w0 := CR cI b f) (lv0 := [(0, .ref (b 0)), (1, .int v), (2, .int (it (S_thoseStep f v) (i + 1) 0)), (3, .int (nI (i + 1)))]) (st0 := []) rfl (by first | (simp only [it_s, S_thoseStep, or_z, c2, Bool.false_eq_true, ↓reduceIte]; done) | (with_reducible rfl) | (simp [it_s, S_thoseStep, or_z, c2, Bool.false_eq_true, ↓reduceIte]; done)) rfl ?_
      exact ihi hlti trivial
    · refine g_iload_n F dX0_bitsOf_20 rfl 2 rfl ?_
      refine g_iconst F (v := 1) dX0_bitsOf_21 (by decide) ?_
      refine g_iload_n F dX0_bitsOf_22 rfl 3 rfl ?_
      refine g_ishl F dX0_bitsOf_23 ?_
      refine g_ior F dX0_bitsOf_24 ?_
      refine g_istore_n F (lv' := [(0, .ref (b 0)), (1, .int v), (2, .int ((it (S_thoseStep f v) i 0) ||| (1 <<< ((nI i) &&& 31)))), (3, .int (nI i))]) dX0_bitsOf_25 rfl (by decide) [1, 2, 0, 3] rfl ?_
      refine g_iinc F (lv' := [(0, .ref (b 0)), (1, .int v), (2, .int ((it (S_thoseStep f v) i 0) ||| (1 <<< ((nI i) &&& 31)))), (3, .int (nI (i + 1)))]) (nI (i + 1)) dX0_bitsOf_26 3 rfl (nI_add i 1) (by decide) [1, 2, 3, 0] rfl ?_
      refine g_goto F 4 dX0_bitsOf_29 (by decide) ?_
      refine g_all (w0 := CR cI b f) (lv0 := [(0, .ref (b 0)), (1, .int v), (2, .int (it (S_thoseStep f v) (i + 1) 0)), (3, .int (nI (i + 1)))]) (st0 := []) rfl (by first | (simp only [it_s, S_thoseStep, or_z, c2, Bool.false_eq_true, ↓reduceIte]; done) | (with_reducible rfl) | (simp [it_s, S_thoseStep, or_z, c2, Bool.false_eq_true, ↓reduceIte]; done)) rfl ?_
      exact ihi hlti trivial
theorem zX0_knows_f37 : Cond.fieldLink RX0 37 (TX0 8).1 (TX0 8).2.1 (TX0 8).2.2.1 ∈ wsX0_knows := by decide +kernel
theorem zX0_knows_inX0 : ∀ w ∈ u_ws RX0 TX0 14, w ∈ wsX0_knows := by decide +kernel
set_option maxHeartbeats 1000000 in
set_option maxRecDepth 100000 in
theorem kX0_knows (l : Launch) (D : va_G) (cI cZ cQ : ClassId) (b : Nat → Nat) (f : Row) (k o : Nat) (hk : k < 6) (ho : o < 6) : Ct l D (gTy cI cZ cQ) yX0_knows wsX0_knows ({ frames := 0, cells := 0, slots := 0, locals := 0 }) [.ref (b 0), .int (nI k), .int (nI o)] (CR cI b f) (some (.int (bI (S_has (f (6 + k)) (nI o))))) (CR cI b f) := by
  refine ct_ofZ (cc := cX0_knows) (nL := 3) (own := RX0) (by decide) rfl rfl ⟨rfl, rfl⟩ (Nat.le_of_ble_eq_true rfl) CR_same (by first | rfl | exact bI_nar _) (fun p e s m below meth c A Q F hR => ?_)
  refine g_aload_n F dX0_knows_0 rfl 0 rfl ?_
  refine g_lR2 F zX0_knows_inX0 zX0_knows_f37 dX0_knows_1 ?_
  refine g_iload_n F dX0_knows_4 rfl 1 rfl ?_
  refine g_lA2 F rfl (by omega) dX0_knows_5 ?_
  refine g_iload_n F dX0_knows_6 rfl 2 rfl ?_
  refine g_ishr F dX0_knows_7 ?_
  refine g_iconst F (v := 1) dX0_knows_8 (by decide) ?_
  refine g_iand F dX0_knows_9 ?_
  refine g_if_eq F 17 dX0_knows_10 (by decide) (fun c1 => ?_) (fun c1 => ?_)
  · refine g_iconst F (v := 0) dX0_knows_17 (by decide) ?_
    exact g_endI (hR _ _ dX0_knows_18) (by rw [has_00.mp c1]; rfl) rfl
  · refine g_iconst F (v := 1) dX0_knows_13 (by decide) ?_
    refine g_goto F 18 dX0_knows_14 (by decide) ?_
    exact g_endI (hR _ _ dX0_knows_18) (by rw [has_01.mp c1]; rfl) rfl
theorem zX0_isOpen_f49 : Cond.fieldLink RX0 49 (TX0 12).1 (TX0 12).2.1 (TX0 12).2.2.1 ∈ wsX0_isOpen := by decide +kernel
theorem zX0_isOpen_inX0 : ∀ w ∈ u_ws RX0 TX0 14, w ∈ wsX0_isOpen := by decide +kernel
set_option maxHeartbeats 1000000 in
set_option maxRecDepth 100000 in
theorem kX0_isOpen (l : Launch) (D : va_G) (cI cZ cQ : ClassId) (b : Nat → Nat) (f : Row) (k o : Nat) (hk : k < 6) (ho : o < 6) : Ct l D (gTy cI cZ cQ) yX0_isOpen wsX0_isOpen ({ frames := 0, cells := 0, slots := 0, locals := 0 }) [.ref (b 0), .int (nI k), .int (nI o)] (CR cI b f) (some (.int (bI (!(S_has (f (73 + k)) (nI o)))))) (CR cI b f) := by
  refine ct_ofZ (cc := cX0_isOpen) (nL := 3) (own := RX0) (by decide) rfl rfl ⟨rfl, rfl⟩ (Nat.le_of_ble_eq_true rfl) CR_same (by first | rfl | exact bI_nar _) (fun p e s m below meth c A Q F hR => ?_)
  refine g_aload_n F dX0_isOpen_0 rfl 0 rfl ?_
  refine g_lR6 F zX0_isOpen_inX0 zX0_isOpen_f49 dX0_isOpen_1 ?_
  refine g_iload_n F dX0_isOpen_4 rfl 1 rfl ?_
  refine g_lA6 F rfl (by omega) dX0_isOpen_5 ?_
  refine g_iload_n F dX0_isOpen_6 rfl 2 rfl ?_
  refine g_ishr F dX0_isOpen_7 ?_
  refine g_iconst F (v := 1) dX0_isOpen_8 (by decide) ?_
  refine g_iand F dX0_isOpen_9 ?_
  refine g_if_ne F 17 dX0_isOpen_10 (by decide) (fun c1 => ?_) (fun c1 => ?_)
  · refine g_iconst F (v := 0) dX0_isOpen_17 (by decide) ?_
    exact g_endI (hR _ _ dX0_isOpen_18) (by rw [has_01.mp c1]; rfl) rfl
  · refine g_iconst F (v := 1) dX0_isOpen_13 (by decide) ?_
    refine g_goto F 18 dX0_isOpen_14 (by decide) ?_
    exact g_endI (hR _ _ dX0_isOpen_18) (by rw [has_00.mp c1]; rfl) rfl
theorem zX0_countOf_f37 : Cond.fieldLink RX0 37 (TX0 8).1 (TX0 8).2.1 (TX0 8).2.2.1 ∈ wsX0_countOf := by decide +kernel
theorem zX0_countOf_inX0 : ∀ w ∈ u_ws RX0 TX0 14, w ∈ wsX0_countOf := by decide +kernel
set_option maxHeartbeats 1000000 in
set_option maxRecDepth 100000 in
theorem kX0_countOf (l : Launch) (D : va_G) (cI cZ cQ : ClassId) (b : Nat → Nat) (f : Row) (k : Nat) (hk : k < 6) (hn : ¬ f k = 0) (hK : Kn f) : Ct l D (gTy cI cZ cQ) yX0_countOf wsX0_countOf ({ frames := 1, cells := 0, slots := 0, locals := 20 }) [.ref (b 0), .int (nI k)] (CR cI b f) (some (.int (S_count f k))) (CR cI b f) := by
  refine ct_ofI (cc := cX0_countOf) (nL := 2) (own := RX0) (by decide) rfl rfl ⟨rfl, rfl⟩ (Nat.le_of_ble_eq_true rfl) CR_same (fun p e s m below meth c A Q F hR => ?_)
  obtain ⟨v, hv, ev⟩ := hK k hk
  refine g_iconst F (v := 1) dX0_countOf_0 (by decide) ?_
  refine g_aload_n F dX0_countOf_1 rfl 0 rfl ?_
  refine g_lR2 F zX0_countOf_inX0 zX0_countOf_f37 dX0_countOf_2 ?_
  refine g_iload_n F dX0_countOf_5 rfl 1 rfl ?_
  refine g_lA2 F rfl (by omega) dX0_countOf_6 ?_
  refine g_as (nI v) ev ?_
  refine g_callSn F (As := [.int (nI v)]) (st := [.int 1]) (kJ6_bitCount_0f7a4 l D cI cZ cQ v hv) (va_cwS 1 F.2.2.2.2.1 gX0_countOf_J6_bitCount_0f7a4 rfl rfl rfl (by decide +kernel) ⟨Nat.le_of_ble_eq_true rfl, Nat.le_of_ble_eq_true rfl⟩) rfl rfl (Nat.le_of_ble_eq_true rfl) ⟨Nat.zero_le _, Nat.zero_le _⟩ dX0_countOf_7 ?_
  refine g_iadd F dX0_countOf_10 ?_
  exact g_endI (hR _ _ dX0_countOf_11) (by unfold S_count; rw [if_neg hn, ev]) rfl
theorem zX0_countTold_f33 : Cond.fieldLink RX0 33 (TX0 7).1 (TX0 7).2.1 (TX0 7).2.2.1 ∈ wsX0_countTold := by decide +kernel
theorem zX0_countTold_inX0 : ∀ w ∈ u_ws RX0 TX0 14, w ∈ wsX0_countTold := by decide +kernel
set_option maxHeartbeats 1000000 in
set_option maxRecDepth 100000 in
theorem kX0_countTold (l : Launch) (D : va_G) (cI cZ cQ : ClassId) (b : Nat → Nat) (f : Row) (k : Nat) (hk : k < 6) (hK : Kn f) : Ct l D (gTy cI cZ cQ) yX0_countTold wsX0_countTold ({ frames := 2, cells := 0, slots := 0, locals := 41 }) [.ref (b 0), .int (nI k)] (CR cI b f) (some (.int (S_count f k))) (CR cI b f) := by
  refine ct_ofI (cc := cX0_countTold) (nL := 2) (own := RX0) (by decide) rfl rfl ⟨rfl, rfl⟩ (Nat.le_of_ble_eq_true rfl) CR_same (fun p e s m below meth c A Q F hR => ?_)
  refine g_aload_n F dX0_countTold_0 rfl 0 rfl ?_
  refine g_lR1 F zX0_countTold_inX0 zX0_countTold_f33 dX0_countTold_1 ?_
  refine g_iload_n F dX0_countTold_4 rfl 1 rfl ?_
  refine g_lA1 F rfl (by omega) dX0_countTold_5 ?_
  refine g_if_ne F 13 dX0_countTold_6 (by decide) (fun c1 => ?_) (fun c1 => ?_)
  · refine g_aload_n F dX0_countTold_13 rfl 0 rfl ?_
    refine g_iload_n F dX0_countTold_14 rfl 1 rfl ?_
    refine g_callVs F (As := [.int (nI k)]) (st := []) (kX0_countOf l D cI cZ cQ b f k (by omega) c1 hK) 0 rfl rfl (cwV 1 F.2.2.2.2.1 gX0_countTold_X0_countOf rfl rfl rfl (by decide +kernel) ⟨Nat.le_of_ble_eq_true rfl, Nat.le_of_ble_eq_true rfl⟩) rfl rfl (Nat.le_of_ble_eq_true rfl) ⟨Nat.zero_le _, Nat.zero_le _⟩ dX0_countTold_15 ?_
    exact g_endI (hR _ _ dX0_countTold_18) rfl rfl
  · refine g_iconst F (v := 0) dX0_countTold_9 (by decide) ?_
    refine g_goto F 18 dX0_countTold_10 (by decide) ?_
    exact g_endI (hR _ _ dX0_countTold_18) (by unfold S_count; rw [if_pos c1]) rfl
theorem zX0_spanOf_f15 : Cond.fieldLink RX0 15 (TX0 1).1 (TX0 1).2.1 (TX0 1).2.2.1 ∈ wsX0_spanOf := by decide +kernel
theorem zX0_spanOf_f18 : Cond.fieldLink RX0 18 (TX0 2).1 (TX0 2).2.1 (TX0 2).2.2.1 ∈ wsX0_spanOf := by decide +kernel
theorem zX0_spanOf_f9 : Cond.fieldLink RX0 9 (TX0 0).1 (TX0 0).2.1 (TX0 0).2.2.1 ∈ wsX0_spanOf := by decide +kernel
theorem zX0_spanOf_imath : Cond.initialized "java/lang/Math" ∈ wsX0_spanOf := by decide +kernel
theorem zX0_spanOf_inX0 : ∀ w ∈ u_ws RX0 TX0 14, w ∈ wsX0_spanOf := by decide +kernel
theorem zX0_spanOf_kmmax : Cond.code Lib.Math.max.name Lib.Math.max.code 2 (some .int) ∈ wsX0_spanOf := by decide +kernel
theorem zX0_spanOf_l77 : Cond.methodLink RX0 77 Lib.Math.max.name ∈ wsX0_spanOf := by decide +kernel
theorem zX0_spanOf_smmax : Cond.static Lib.Math.max.name ∈ wsX0_spanOf := by decide +kernel
set_option maxHeartbeats 1000000 in
set_option maxRecDepth 100000 in
theorem kX0_spanOf (l : Launch) (D : va_G) (cI cZ cQ : ClassId) (b : Nat → Nat) (f : Row) (v : Int32) (hz : Z67 f) : Ct l D (gTy cI cZ cQ) yX0_spanOf wsX0_spanOf ({ frames := 1, cells := 0, slots := 0, locals := 21 }) [.ref (b 0), .int v] (CR cI b f) (some (.int (S_span f v))) (CR cI b f) := by
  refine ct_ofI (cc := cX0_spanOf) (nL := 3) (own := RX0) (by decide) rfl rfl ⟨rfl, rfl⟩ (Nat.le_of_ble_eq_true rfl) CR_same (fun p e s m below meth c A Q F hR => ?_)
  refine g_iconst F (v := 1) dX0_spanOf_0 (by decide) ?_
  refine g_aload_n F dX0_spanOf_1 rfl 0 rfl ?_
  refine g_lF67 F zX0_spanOf_inX0 zX0_spanOf_f15 dX0_spanOf_2 ?_
  refine g_mmax F zX0_spanOf_l77 zX0_spanOf_smmax zX0_spanOf_imath zX0_spanOf_kmmax (Nat.le_of_ble_eq_true rfl) (Nat.le_of_ble_eq_true rfl) (Nat.zero_le _) (Nat.zero_le _) dX0_spanOf_5 ?_
  refine g_istore_n F (lv' := [(0, .ref (b 0)), (1, .int v), (2, .int (if 1 < f 67 then f 67 else 1))]) dX0_spanOf_8 rfl (by decide) [1, 2, 0] rfl ?_
  refine g_aload_n F dX0_spanOf_9 rfl 0 rfl ?_
  refine g_lF68 F zX0_spanOf_inX0 zX0_spanOf_f18 dX0_spanOf_10 ?_
  refine g_iload_n F dX0_spanOf_13 rfl 1 rfl ?_
  refine g_aload_n F dX0_spanOf_14 rfl 0 rfl ?_
  refine g_lF66 F zX0_spanOf_inX0 zX0_spanOf_f9 dX0_spanOf_15 ?_
  refine g_imul F dX0_spanOf_18 ?_
  refine g_iload_n F dX0_spanOf_19 rfl 2 rfl ?_
  refine g_iadd F dX0_spanOf_20 ?_
  refine g_iconst F (v := 1) dX0_spanOf_21 (by decide) ?_
  refine g_isub F dX0_spanOf_22 ?_
  refine g_iload_n F dX0_spanOf_23 rfl 2 rfl ?_
  refine g_idiv F dX0_spanOf_24 (by rw [mx1 hz]; exact hz.ne) ?_
  refine g_mmax F zX0_spanOf_l77 zX0_spanOf_smmax zX0_spanOf_imath zX0_spanOf_kmmax (Nat.le_of_ble_eq_true rfl) (Nat.le_of_ble_eq_true rfl) (Nat.zero_le _) (Nat.zero_le _) dX0_spanOf_25 ?_
  exact g_endI (hR _ _ dX0_spanOf_28) ((show _ = C_span f v from rfl).trans (C_span_eq hz)) rfl
theorem zX0_waitOf_c83 : Cond.constant RX0 83 (65536) ∈ wsX0_waitOf := by decide +kernel
theorem zX0_waitOf_f24 : Cond.fieldLink RX0 24 (TX0 4).1 (TX0 4).2.1 (TX0 4).2.2.1 ∈ wsX0_waitOf := by decide +kernel
theorem zX0_waitOf_imath : Cond.initialized "java/lang/Math" ∈ wsX0_waitOf := by decide +kernel
theorem zX0_waitOf_inX0 : ∀ w ∈ u_ws RX0 TX0 14, w ∈ wsX0_waitOf := by decide +kernel
theorem zX0_waitOf_kmmax : Cond.code Lib.Math.max.name Lib.Math.max.code 2 (some .int) ∈ wsX0_waitOf := by decide +kernel
theorem zX0_waitOf_l77 : Cond.methodLink RX0 77 Lib.Math.max.name ∈ wsX0_waitOf := by decide +kernel
theorem zX0_waitOf_smmax : Cond.static Lib.Math.max.name ∈ wsX0_waitOf := by decide +kernel
set_option maxHeartbeats 1000000 in
set_option maxRecDepth 100000 in
theorem kX0_waitOf (l : Launch) (D : va_G) (cI cZ cQ : ClassId) (b : Nat → Nat) (f : Row) (v : Int32) (hz : Z67 f) : Ct l D (gTy cI cZ cQ) yX0_waitOf wsX0_waitOf ({ frames := 2, cells := 0, slots := 0, locals := 43 }) [.ref (b 0), .int v] (CR cI b f) (some (.int (S_waitV f v))) (CR cI b (S_draw f)) := by
  refine ct_ofI (cc := cX0_waitOf) (nL := 3) (own := RX0) (by decide) rfl rfl ⟨rfl, rfl⟩ (Nat.le_of_ble_eq_true rfl) CR_same (fun p e s m below meth c A Q F hR => ?_)
  refine g_aload_n F dX0_waitOf_0 rfl 0 rfl ?_
  refine g_sipush F (v := 25173) dX0_waitOf_1 (by decide) ?_
  refine g_aload_n F dX0_waitOf_4 rfl 0 rfl ?_
  refine g_lF69 F zX0_waitOf_inX0 zX0_waitOf_f24 dX0_waitOf_5 ?_
  refine g_imul F dX0_waitOf_8 ?_
  refine g_sipush F (v := 13849) dX0_waitOf_9 (by decide) ?_
  refine g_iadd F dX0_waitOf_12 ?_
  refine g_ldc F zX0_waitOf_c83 dX0_waitOf_13 ?_
  refine g_irem F dX0_waitOf_15 (by decide) ?_
  refine g_cF69 F zX0_waitOf_inX0 zX0_waitOf_f24 dX0_waitOf_16 ?_
  refine g_aload_n F dX0_waitOf_19 rfl 0 rfl ?_
  refine g_lF69 F zX0_waitOf_inX0 zX0_waitOf_f24 dX0_waitOf_20 ?_
  refine g_bipush F (v := 16) dX0_waitOf_23 (by decide) ?_
  refine g_idiv F dX0_waitOf_25 (by decide) ?_
  refine g_iconst F (v := 5) dX0_waitOf_26 (by decide) ?_
  refine g_irem F dX0_waitOf_27 (by decide) ?_
  refine g_istore_n F (lv' := [(0, .ref (b 0)), (1, .int v), (2, .int ((((upd f 69 (((25173 * (f 69)) + 13849) - ((25173 * (f 69)) + 13849) / 65536 * 65536)) 69) / 16) - (((upd f 69 (((25173 * (f 69)) + 13849) - ((25173 * (f 69)) + 13849) / 65536 * 65536)) 69) / 16) / 5 * 5))]) dX0_waitOf_28 rfl (by decide) [1, 2, 0] rfl ?_
  refine g_iconst F (v := 1) dX0_waitOf_29 (by decide) ?_
  refine g_aload_n F dX0_waitOf_30 rfl 0 rfl ?_
  refine g_iload_n F dX0_waitOf_31 rfl 1 rfl ?_
  refine g_callVs F (As := [.int v]) (st := [.int 1]) (kX0_spanOf l D cI cZ cQ b (upd f 69 (((25173 * (f 69)) + 13849) - ((25173 * (f 69)) + 13849) / 65536 * 65536)) v (Z_upd hz (by omega))) 0 rfl rfl (cwV 1 F.2.2.2.2.1 gX0_waitOf_X0_spanOf rfl rfl rfl (by decide +kernel) ⟨Nat.le_of_ble_eq_true rfl, Nat.le_of_ble_eq_true rfl⟩) rfl rfl (Nat.le_of_ble_eq_true rfl) ⟨Nat.zero_le _, Nat.zero_le _⟩ dX0_waitOf_32 ?_
  refine g_iconst F (v := 2) dX0_waitOf_35 (by decide) ?_
  refine g_iload_n F dX0_waitOf_36 rfl 2 rfl ?_
  refine g_iadd F dX0_waitOf_37 ?_
  refine g_imul F dX0_waitOf_38 ?_
  refine g_iconst F (v := 4) dX0_waitOf_39 (by decide) ?_
  refine g_idiv F dX0_waitOf_40 (by decide) ?_
  refine g_mmax F zX0_waitOf_l77 zX0_waitOf_smmax zX0_waitOf_imath zX0_waitOf_kmmax (Nat.le_of_ble_eq_true rfl) (Nat.le_of_ble_eq_true rfl) (Nat.zero_le _) (Nat.zero_le _) dX0_waitOf_41 ?_
  exact g_endI (hR _ _ dX0_waitOf_44) ((show _ = (if 1 < S_span (S_draw f) v * (2 + S_drawV f) / 4 then S_span (S_draw f) v * (2 + S_drawV f) / 4 else 1) from rfl).trans C_wait_eq) rfl
theorem zX0_begin_f21 : Cond.fieldLink RX0 21 (TX0 3).1 (TX0 3).2.1 (TX0 3).2.2.1 ∈ wsX0_begin := by decide +kernel
theorem zX0_begin_f40 : Cond.fieldLink RX0 40 (TX0 9).1 (TX0 9).2.1 (TX0 9).2.2.1 ∈ wsX0_begin := by decide +kernel
theorem zX0_begin_f43 : Cond.fieldLink RX0 43 (TX0 10).1 (TX0 10).2.1 (TX0 10).2.2.1 ∈ wsX0_begin := by decide +kernel
theorem zX0_begin_inX0 : ∀ w ∈ u_ws RX0 TX0 14, w ∈ wsX0_begin := by decide +kernel
set_option maxHeartbeats 1000000 in
set_option maxRecDepth 100000 in
theorem kX0_begin (l : Launch) (D : va_G) (cI cZ cQ : ClassId) (b : Nat → Nat) (f : Row) (k : Nat) (hk : k < 6) (hz : Z67 f) : Ct l D (gTy cI cZ cQ) yX0_begin wsX0_begin ({ frames := 3, cells := 0, slots := 0, locals := 65 }) [.ref (b 0), .int (nI k)] (CR cI b f) none (CR cI b (S_begin f k)) := by
  refine ct_ofV (cc := cX0_begin) (nL := 2) (own := RX0) (by decide) rfl rfl ⟨rfl, rfl⟩ (Nat.le_of_ble_eq_true rfl) CR_same (fun p e s m below meth c A Q F hR => ?_)
  refine g_aload_n F dX0_begin_0 rfl 0 rfl ?_
  refine g_lR3 F zX0_begin_inX0 zX0_begin_f40 dX0_begin_1 ?_
  refine g_iload_n F dX0_begin_4 rfl 1 rfl ?_
  refine g_aload_n F dX0_begin_5 rfl 0 rfl ?_
  refine g_lF70 F zX0_begin_inX0 zX0_begin_f21 dX0_begin_6 ?_
  refine g_cA3 F rfl (by omega) dX0_begin_9 ?_
  refine g_aload_n F dX0_begin_10 rfl 0 rfl ?_
  refine g_lR4 F zX0_begin_inX0 zX0_begin_f43 dX0_begin_11 ?_
  refine g_iload_n F dX0_begin_14 rfl 1 rfl ?_
  refine g_aload_n F dX0_begin_15 rfl 0 rfl ?_
  refine g_lF70 F zX0_begin_inX0 zX0_begin_f21 dX0_begin_16 ?_
  refine g_aload_n F dX0_begin_19 rfl 0 rfl ?_
  refine g_iconst F (v := 1) dX0_begin_20 (by decide) ?_
  refine g_callVs F (As := [.int 1]) (st := [.int ((upd f (48 + k) (f 70)) 70), .int (nI k), .ref (b 4)]) (kX0_waitOf l D cI cZ cQ b (upd f (48 + k) (f 70)) 1 (Z_upd hz (by omega))) 0 rfl rfl (cwV 1 F.2.2.2.2.1 gX0_begin_X0_waitOf rfl rfl rfl (by decide +kernel) ⟨Nat.le_of_ble_eq_true rfl, Nat.le_of_ble_eq_true rfl⟩) rfl rfl (Nat.le_of_ble_eq_true rfl) ⟨Nat.zero_le _, Nat.zero_le _⟩ dX0_begin_21 ?_
  refine g_iadd F dX0_begin_24 ?_
  refine g_cA4 F rfl (by omega) dX0_begin_25 ?_
  exact g_endV (hR _ _ dX0_begin_26) rfl
theorem zX0_goAway_f33 : Cond.fieldLink RX0 33 (TX0 7).1 (TX0 7).2.1 (TX0 7).2.2.1 ∈ wsX0_goAway := by decide +kernel
theorem zX0_goAway_f37 : Cond.fieldLink RX0 37 (TX0 8).1 (TX0 8).2.1 (TX0 8).2.2.1 ∈ wsX0_goAway := by decide +kernel
theorem zX0_goAway_f40 : Cond.fieldLink RX0 40 (TX0 9).1 (TX0 9).2.1 (TX0 9).2.2.1 ∈ wsX0_goAway := by decide +kernel
theorem zX0_goAway_f43 : Cond.fieldLink RX0 43 (TX0 10).1 (TX0 10).2.1 (TX0 10).2.2.1 ∈ wsX0_goAway := by decide +kernel
theorem zX0_goAway_f46 : Cond.fieldLink RX0 46 (TX0 11).1 (TX0 11).2.1 (TX0 11).2.2.1 ∈ wsX0_goAway := by decide +kernel
theorem zX0_goAway_inX0 : ∀ w ∈ u_ws RX0 TX0 14, w ∈ wsX0_goAway := by decide +kernel
set_option maxHeartbeats 1000000 in
set_option maxRecDepth 100000 in
theorem kX0_goAway (l : Launch) (D : va_G) (cI cZ cQ : ClassId) (b : Nat → Nat) (f : Row) (k : Nat) (hk : k < 6) : Ct l D (gTy cI cZ cQ) yX0_goAway wsX0_goAway ({ frames := 0, cells := 0, slots := 0, locals := 0 }) [.ref (b 0), .int (nI k)] (CR cI b f) none (CR cI b (S_goAway f k)) := by
  refine ct_ofV (cc := cX0_goAway) (nL := 2) (own := RX0) (by decide) rfl rfl ⟨rfl, rfl⟩ (Nat.le_of_ble_eq_true rfl) CR_same (fun p e s m below meth c A Q F hR => ?_)
  refine g_aload_n F dX0_goAway_0 rfl 0 rfl ?_
  refine g_lR1 F zX0_goAway_inX0 zX0_goAway_f33 dX0_goAway_1 ?_
  refine g_iload_n F dX0_goAway_4 rfl 1 rfl ?_
  refine g_iconst F (v := 0) dX0_goAway_5 (by decide) ?_
  refine g_cA1 F rfl (by omega) dX0_goAway_6 ?_
  refine g_aload_n F dX0_goAway_7 rfl 0 rfl ?_
  refine g_lR2 F zX0_goAway_inX0 zX0_goAway_f37 dX0_goAway_8 ?_
  refine g_iload_n F dX0_goAway_11 rfl 1 rfl ?_
  refine g_iconst F (v := 0) dX0_goAway_12 (by decide) ?_
  refine g_cA2 F rfl (by omega) dX0_goAway_13 ?_
  refine g_aload_n F dX0_goAway_14 rfl 0 rfl ?_
  refine g_lR3 F zX0_goAway_inX0 zX0_goAway_f40 dX0_goAway_15 ?_
  refine g_iload_n F dX0_goAway_18 rfl 1 rfl ?_
  refine g_iconst F (v := 0) dX0_goAway_19 (by decide) ?_
  refine g_cA3 F rfl (by omega) dX0_goAway_20 ?_
  refine g_aload_n F dX0_goAway_21 rfl 0 rfl ?_
  refine g_lR4 F zX0_goAway_inX0 zX0_goAway_f43 dX0_goAway_22 ?_
  refine g_iload_n F dX0_goAway_25 rfl 1 rfl ?_
  refine g_iconst F (v := 0) dX0_goAway_26 (by decide) ?_
  refine g_cA4 F rfl (by omega) dX0_goAway_27 ?_
  refine g_aload_n F dX0_goAway_28 rfl 0 rfl ?_
  refine g_lR5 F zX0_goAway_inX0 zX0_goAway_f46 dX0_goAway_29 ?_
  refine g_iload_n F dX0_goAway_32 rfl 1 rfl ?_
  refine g_iconst F (v := 0) dX0_goAway_33 (by decide) ?_
  refine g_cA5 F rfl (by omega) dX0_goAway_34 ?_
  exact g_endV (hR _ _ dX0_goAway_35) rfl
theorem zX0_reaches_f33 : Cond.fieldLink RX0 33 (TX0 7).1 (TX0 7).2.1 (TX0 7).2.2.1 ∈ wsX0_reaches := by decide +kernel
theorem zX0_reaches_inX0 : ∀ w ∈ u_ws RX0 TX0 14, w ∈ wsX0_reaches := by decide +kernel
set_option maxHeartbeats 1000000 in
set_option maxRecDepth 100000 in
theorem kX0_reaches (l : Launch) (D : va_G) (cI cZ cQ : ClassId) (b : Nat → Nat) (f : Row) (k o : Nat) (hk : k < 6) (ho : o < 6) : Ct l D (gTy cI cZ cQ) yX0_reaches wsX0_reaches ({ frames := 1, cells := 0, slots := 0, locals := 22 }) [.ref (b 0), .int (nI k), .int (nI o)] (CR cI b f) (some (.int (bI (S_reaches f k o)))) (CR cI b f) := by
  refine ct_ofZ (cc := cX0_reaches) (nL := 3) (own := RX0) (by decide) rfl rfl ⟨rfl, rfl⟩ (Nat.le_of_ble_eq_true rfl) CR_same (by first | rfl | exact bI_nar _) (fun p e s m below meth c A Q F hR => ?_)
  refine g_iload_n F dX0_reaches_0 rfl 1 rfl ?_
  refine g_iload_n F dX0_reaches_1 rfl 2 rfl ?_
  refine g_icmp_eq F 27 dX0_reaches_2 (by decide) (fun c1 => ?_) (fun c1 => ?_)
  · refine g_iconst F (v := 0) dX0_reaches_27 (by decide) ?_
    exact g_endI (hR _ _ dX0_reaches_28) (by unfold S_reaches; rw [if_pos c1.symm]; rfl) rfl
  · refine g_aload_n F dX0_reaches_5 rfl 0 rfl ?_
    refine g_lR1 F zX0_reaches_inX0 zX0_reaches_f33 dX0_reaches_6 ?_
    refine g_iload_n F dX0_reaches_9 rfl 2 rfl ?_
    refine g_lA1 F rfl (by omega) dX0_reaches_10 ?_
    refine g_if_eq F 27 dX0_reaches_11 (by decide) (fun c2 => ?_) (fun c2 => ?_)
    · refine g_iconst F (v := 0) dX0_reaches_27 (by decide) ?_
      exact g_endI (hR _ _ dX0_reaches_28) (by unfold S_reaches; rw [if_neg (fun q => c1 q.symm), if_pos c2]; rfl) rfl
    · refine g_aload_n F dX0_reaches_14 rfl 0 rfl ?_
      refine g_iload_n F dX0_reaches_15 rfl 1 rfl ?_
      refine g_iload_n F dX0_reaches_16 rfl 2 rfl ?_
      refine g_callVs F (As := [.int (nI k), .int (nI o)]) (st := []) (kX0_isOpen l D cI cZ cQ b f k o (by omega) (by omega)) 0 rfl rfl (cwV 2 F.2.2.2.2.1 gX0_reaches_X0_isOpen rfl rfl rfl (by decide +kernel) ⟨Nat.le_of_ble_eq_true rfl, Nat.le_of_ble_eq_true rfl⟩) rfl rfl (Nat.le_of_ble_eq_true rfl) ⟨Nat.zero_le _, Nat.zero_le _⟩ dX0_reaches_17 ?_
      refine g_beq F 27 dX0_reaches_20 (by decide) (fun c3 => ?_) (fun c3 => ?_)
      · refine g_iconst F (v := 0) dX0_reaches_27 (by decide) ?_
        exact g_endI (hR _ _ dX0_reaches_28) (by unfold S_reaches; rw [if_neg (fun q => c1 q.symm), if_neg c2]; simp_all [bI]) rfl
      · refine g_iconst F (v := 1) dX0_reaches_23 (by decide) ?_
        refine g_goto F 28 dX0_reaches_24 (by decide) ?_
        exact g_endI (hR _ _ dX0_reaches_28) (by unfold S_reaches; rw [if_neg (fun q => c1 q.symm), if_neg c2]; simp_all [bI]) rfl
theorem zX0_sendReport_f21 : Cond.fieldLink RX0 21 (TX0 3).1 (TX0 3).2.1 (TX0 3).2.2.1 ∈ wsX0_sendReport := by decide +kernel
theorem zX0_sendReport_f27 : Cond.fieldLink RX0 27 (TX0 5).1 (TX0 5).2.1 (TX0 5).2.2.1 ∈ wsX0_sendReport := by decide +kernel
theorem zX0_sendReport_f37 : Cond.fieldLink RX0 37 (TX0 8).1 (TX0 8).2.1 (TX0 8).2.2.1 ∈ wsX0_sendReport := by decide +kernel
theorem zX0_sendReport_f52 : Cond.fieldLink RX0 52 (TX0 13).1 (TX0 13).2.1 (TX0 13).2.2.1 ∈ wsX0_sendReport := by decide +kernel
theorem zX0_sendReport_inX0 : ∀ w ∈ u_ws RX0 TX0 14, w ∈ wsX0_sendReport := by decide +kernel
set_option maxHeartbeats 1000000 in
set_option maxRecDepth 100000 in
theorem kX0_sendReport (l : Launch) (D : va_G) (cI cZ cQ : ClassId) (b : Nat → Nat) (f : Row) (k : Nat) (hk : k < 6) : Ct l D (gTy cI cZ cQ) yX0_sendReport wsX0_sendReport ({ frames := 2, cells := 0, slots := 0, locals := 44 }) [.ref (b 0), .int (nI k)] (CR cI b f) none (CR cI b (S_report f k)) := by
  refine ct_ofV (cc := cX0_sendReport) (nL := 3) (own := RX0) (by decide) rfl rfl ⟨rfl, rfl⟩ (Nat.le_of_ble_eq_true rfl) CR_same (fun p e s m below meth c A Q F hR => ?_)
  refine g_aload_n F dX0_sendReport_0 rfl 0 rfl ?_
  refine g_dup F dX0_sendReport_1 rfl ?_
  refine g_lF71 F zX0_sendReport_inX0 zX0_sendReport_f27 dX0_sendReport_2 ?_
  refine g_iconst F (v := 1) dX0_sendReport_5 (by decide) ?_
  refine g_iadd F dX0_sendReport_6 ?_
  refine g_cF71 F zX0_sendReport_inX0 zX0_sendReport_f27 dX0_sendReport_7 ?_
  refine g_iconst F (v := 0) dX0_sendReport_10 (by decide) ?_
  refine g_istore_n F (lv' := [(0, .ref (b 0)), (1, .int (nI k)), (2, .int 0)]) dX0_sendReport_11 rfl (by decide) [1, 2, 0] rfl ?_
  refine g_all (w0 := CR cI b (it (S_repStep k) 0 (S_rep0 f))) (lv0 := [(0, .ref (b 0)), (1, .int (nI k)), (2, .int (nI 0))]) (st0 := []) rfl rfl rfl ?_
  refine g_for 6 (fun i => True) (fun i => CR cI b (it (S_repStep k) i (S_rep0 f))) (fun i => [(0, .ref (b 0)), (1, .int (nI k)), (2, .int (nI i))]) (fun i hi hIi ihi => ?_) 0 (Nat.zero_le _) trivial
  dsimp only [it_s] at ihi ⊢
  generalize hg_g : it (S_repStep k) i (S_rep0 f) = g at ihi ⊢
  refine g_iload_n F dX0_sendReport_12 rfl 2 rfl ?_
  refine g_bipush F (v := 6) dX0_sendReport_13 (by decide) ?_
  refine g_icmp_ge F 60 dX0_sendReport_15 (by decide) (fun c1 => ?_) (fun c1 => ?_)
  · have hx_c1 : 6 = i := lp_ge hi (by decide) c1
    subst hx_c1
    subst hg_g
    exact g_endV (hR _ _ dX0_sendReport_60) rfl
  · have hlti : i < 6 := lp_lt hi (by decide) c1
    refine g_aload_n F dX0_sendReport_18 rfl 0 rfl ?_
    refine g_iload_n F dX0_sendReport_19 rfl 1 rfl ?_
    refine g_iload_n F dX0_sendReport_20 rfl 2 rfl ?_
    refine g_callVs F (As := [.int (nI k), .int (nI i)]) (st := []) (kX0_reaches l D cI cZ cQ b g k i (by omega) (by omega)) 0 rfl rfl (cwV 2 F.2.2.2.2.1 gX0_sendReport_X0_reaches rfl rfl rfl (by decide +kernel) ⟨Nat.le_of_ble_eq_true rfl, Nat.le_of_ble_eq_true rfl⟩) rfl rfl (Nat.le_of_ble_eq_true rfl) ⟨Nat.zero_le _, Nat.zero_le _⟩ dX0_sendReport_21 ?_
    refine g_beq F 54 dX0_sendReport_24 (by decide) (fun c2 => ?_) (fun c2 => ?_)
    · refine g_iinc F (lv' := [(0, .ref (b 0)), (1, .int (nI k)), (2, .int (nI (i + 1)))]) (nI (i + 1)) dX0_sendReport_54 2 rfl (nI_add i 1) (by decide) [1, 2, 0] rfl ?_
      refine g_goto F 12 dX0_sendReport_57 (by decide) ?_
      refine g_all (w0 := CR cI b (S_repStep k i g)) (lv0 := [(0, .ref (b 0)), (1, .int (nI k)), (2, .int (nI (i + 1)))]) (st0 := []) (by first | (simp only [S_repStep, S_kn, c2, Bool.false_eq_true, ↓reduceIte]; done) | (with_reducible rfl) | (simp [S_repStep, S_kn, c2, Bool.false_eq_true, ↓reduceIte]; done)) rfl rfl ?_
      exact ihi hlti trivial
    · refine g_aload_n F dX0_sendReport_27 rfl 0 rfl ?_
      refine g_lR2 F zX0_sendReport_inX0 zX0_sendReport_f37 dX0_sendReport_28 ?_
      refine g_iload_n F dX0_sendReport_31 rfl 2 rfl ?_
      refine g_dup2 F dX0_sendReport_32 rfl rfl ?_
      refine g_lA2 F rfl (by omega) dX0_sendReport_33 ?_
      refine g_iconst F (v := 1) dX0_sendReport_34 (by decide) ?_
      refine g_iload_n F dX0_sendReport_35 rfl 1 rfl ?_
      refine g_ishl F dX0_sendReport_36 ?_
      refine g_ior F dX0_sendReport_37 ?_
      refine g_cA2 F rfl (by omega) dX0_sendReport_38 ?_
      refine g_aload_n F dX0_sendReport_39 rfl 0 rfl ?_
      refine g_lR7 F zX0_sendReport_inX0 zX0_sendReport_f52 dX0_sendReport_40 ?_
      refine g_iload_n F dX0_sendReport_43 rfl 2 rfl ?_
      refine g_bipush F (v := 6) dX0_sendReport_44 (by decide) ?_
      refine g_imul F dX0_sendReport_46 ?_
      refine g_as (nI (i * 6)) (pk_mul i 6) ?_
      refine g_iload_n F dX0_sendReport_47 rfl 1 rfl ?_
      refine g_iadd F dX0_sendReport_48 ?_
      refine g_as (nI (i * 6 + k)) (nI_add (i * 6) k) ?_
      refine g_aload_n F dX0_sendReport_49 rfl 0 rfl ?_
      refine g_lF70 F zX0_sendReport_inX0 zX0_sendReport_f21 dX0_sendReport_50 ?_
      refine g_cA7 F rfl (by omega) dX0_sendReport_53 ?_
      refine g_aw (CR cI b (upd (upd g (6 + i) ((g (6 + i)) ||| (1 <<< ((nI k) &&& 31)))) (12 + 6 * i + k) ((upd g (6 + i) ((g (6 + i)) ||| (1 <<< ((nI k) &&& 31)))) 70))) (congrArg (fun z => CR cI b (upd (upd g (6 + i) ((g (6 + i)) ||| (1 <<< ((nI k) &&& 31)))) z ((upd g (6 + i) ((g (6 + i)) ||| (1 <<< ((nI k) &&& 31)))) 70))) (by omega)) ?_
      refine g_iinc F (lv' := [(0, .ref (b 0)), (1, .int (nI k)), (2, .int (nI (i + 1)))]) (nI (i + 1)) dX0_sendReport_54 2 rfl (nI_add i 1) (by decide) [1, 2, 0] rfl ?_
      refine g_goto F 12 dX0_sendReport_57 (by decide) ?_
      refine g_all (w0 := CR cI b (S_repStep k i g)) (lv0 := [(0, .ref (b 0)), (1, .int (nI k)), (2, .int (nI (i + 1)))]) (st0 := []) (by first | (simp only [S_repStep, S_kn, c2, Bool.false_eq_true, ↓reduceIte]; done) | (with_reducible rfl) | (simp [S_repStep, S_kn, c2, Bool.false_eq_true, ↓reduceIte]; done)) rfl rfl ?_
      exact ihi hlti trivial
theorem zX0_restart_f21 : Cond.fieldLink RX0 21 (TX0 3).1 (TX0 3).2.1 (TX0 3).2.2.1 ∈ wsX0_restart := by decide +kernel
theorem zX0_restart_f27 : Cond.fieldLink RX0 27 (TX0 5).1 (TX0 5).2.1 (TX0 5).2.2.1 ∈ wsX0_restart := by decide +kernel
theorem zX0_restart_f30 : Cond.fieldLink RX0 30 (TX0 6).1 (TX0 6).2.1 (TX0 6).2.2.1 ∈ wsX0_restart := by decide +kernel
theorem zX0_restart_f49 : Cond.fieldLink RX0 49 (TX0 12).1 (TX0 12).2.1 (TX0 12).2.2.1 ∈ wsX0_restart := by decide +kernel
theorem zX0_restart_inX0 : ∀ w ∈ u_ws RX0 TX0 14, w ∈ wsX0_restart := by decide +kernel
set_option maxHeartbeats 1000000 in
set_option maxRecDepth 100000 in
theorem kX0_restart (l : Launch) (D : va_G) (cI cZ cQ : ClassId) (b : Nat → Nat) (f : Row) : Ct l D (gTy cI cZ cQ) yX0_restart wsX0_restart ({ frames := 1, cells := 0, slots := 0, locals := 21 }) [.ref (b 0)] (CR cI b f) none (CR cI b (S_restart f)) := by
  refine ct_ofV (cc := cX0_restart) (nL := 2) (own := RX0) (by decide) rfl rfl ⟨rfl, rfl⟩ (Nat.le_of_ble_eq_true rfl) CR_same (fun p e s m below meth c A Q F hR => ?_)
  refine g_aload_n F dX0_restart_0 rfl 0 rfl ?_
  refine g_iconst F (v := 0) dX0_restart_1 (by decide) ?_
  refine g_cF70 F zX0_restart_inX0 zX0_restart_f21 dX0_restart_2 ?_
  refine g_aload_n F dX0_restart_5 rfl 0 rfl ?_
  refine g_iconst F (v := 0) dX0_restart_6 (by decide) ?_
  refine g_cF71 F zX0_restart_inX0 zX0_restart_f27 dX0_restart_7 ?_
  refine g_aload_n F dX0_restart_10 rfl 0 rfl ?_
  refine g_iconst F (v := 0) dX0_restart_11 (by decide) ?_
  refine g_cF72 F zX0_restart_inX0 zX0_restart_f30 dX0_restart_12 ?_
  refine g_iconst F (v := 0) dX0_restart_15 (by decide) ?_
  refine g_istore_n F (lv' := [(0, .ref (b 0)), (1, .int 0)]) dX0_restart_16 rfl (by decide) [1, 0] rfl ?_
  refine g_all (w0 := CR cI b (it S_rsStep 0 (S_rs0 f))) (lv0 := [(0, .ref (b 0)), (1, .int (nI 0))]) (st0 := []) rfl rfl rfl ?_
  refine g_for 6 (fun i => True) (fun i => CR cI b (it S_rsStep i (S_rs0 f))) (fun i => [(0, .ref (b 0)), (1, .int (nI i))]) (fun i hi hIi ihi => ?_) 0 (Nat.zero_le _) trivial
  dsimp only [it_s] at ihi ⊢
  generalize hg_g : it S_rsStep i (S_rs0 f) = g at ihi ⊢
  refine g_iload_n F dX0_restart_17 rfl 1 rfl ?_
  refine g_bipush F (v := 6) dX0_restart_18 (by decide) ?_
  refine g_icmp_ge F 41 dX0_restart_20 (by decide) (fun c1 => ?_) (fun c1 => ?_)
  · have hx_c1 : 6 = i := lp_ge hi (by decide) c1
    subst hx_c1
    subst hg_g
    exact g_endV (hR _ _ dX0_restart_41) rfl
  · have hlti : i < 6 := lp_lt hi (by decide) c1
    refine g_aload_n F dX0_restart_23 rfl 0 rfl ?_
    refine g_iload_n F dX0_restart_24 rfl 1 rfl ?_
    refine g_callVs F (As := [.int (nI i)]) (st := []) (kX0_goAway l D cI cZ cQ b g i (by omega)) 0 rfl rfl (cwV 1 F.2.2.2.2.1 gX0_restart_X0_goAway rfl rfl rfl (by decide +kernel) ⟨Nat.le_of_ble_eq_true rfl, Nat.le_of_ble_eq_true rfl⟩) rfl rfl (Nat.le_of_ble_eq_true rfl) ⟨Nat.zero_le _, Nat.zero_le _⟩ dX0_restart_25 ?_
    refine g_aload_n F dX0_restart_28 rfl 0 rfl ?_
    refine g_lR6 F zX0_restart_inX0 zX0_restart_f49 dX0_restart_29 ?_
    refine g_iload_n F dX0_restart_32 rfl 1 rfl ?_
    refine g_iconst F (v := 0) dX0_restart_33 (by decide) ?_
    refine g_cA6 F rfl (by omega) dX0_restart_34 ?_
    refine g_iinc F (lv' := [(0, .ref (b 0)), (1, .int (nI (i + 1)))]) (nI (i + 1)) dX0_restart_35 1 rfl (nI_add i 1) (by decide) [1, 0] rfl ?_
    refine g_goto F 17 dX0_restart_38 (by decide) ?_
    refine g_all (w0 := CR cI b (S_rsStep i g)) (lv0 := [(0, .ref (b 0)), (1, .int (nI (i + 1)))]) (st0 := []) rfl rfl rfl ?_
    exact ihi hlti trivial
theorem zX0_isAtRest_f33 : Cond.fieldLink RX0 33 (TX0 7).1 (TX0 7).2.1 (TX0 7).2.2.1 ∈ wsX0_isAtRest := by decide +kernel
theorem zX0_isAtRest_f37 : Cond.fieldLink RX0 37 (TX0 8).1 (TX0 8).2.1 (TX0 8).2.2.1 ∈ wsX0_isAtRest := by decide +kernel
theorem zX0_isAtRest_inX0 : ∀ w ∈ u_ws RX0 TX0 14, w ∈ wsX0_isAtRest := by decide +kernel
set_option maxHeartbeats 1000000 in
set_option maxRecDepth 100000 in
theorem kX0_isAtRest (l : Launch) (D : va_G) (cI cZ cQ : ClassId) (b : Nat → Nat) (f : Row) : Ct l D (gTy cI cZ cQ) yX0_isAtRest wsX0_isAtRest ({ frames := 1, cells := 0, slots := 0, locals := 23 }) [.ref (b 0)] (CR cI b f) (some (.int (bI (S_restN f 6)))) (CR cI b f) := by
  refine ct_ofZ (cc := cX0_isAtRest) (nL := 3) (own := RX0) (by decide) rfl rfl ⟨rfl, rfl⟩ (Nat.le_of_ble_eq_true rfl) CR_same (by first | rfl | exact bI_nar _) (fun p e s m below meth c A Q F hR => ?_)
  refine g_aload_n F dX0_isAtRest_0 rfl 0 rfl ?_
  refine g_iconst F (v := 1) dX0_isAtRest_1 (by decide) ?_
  refine g_callVs F (As := [.int 1]) (st := []) (kX0_bitsOf l D cI cZ cQ b f 1 ) 0 rfl rfl (cwV 1 F.2.2.2.2.1 gX0_isAtRest_X0_bitsOf rfl rfl rfl (by decide +kernel) ⟨Nat.le_of_ble_eq_true rfl, Nat.le_of_ble_eq_true rfl⟩) rfl rfl (Nat.le_of_ble_eq_true rfl) ⟨Nat.zero_le _, Nat.zero_le _⟩ dX0_isAtRest_2 ?_
  refine g_istore_n F (lv' := [(0, .ref (b 0)), (1, .int (S_those f 1))]) dX0_isAtRest_5 rfl (by decide) [1, 0] rfl ?_
  refine g_iconst F (v := 0) dX0_isAtRest_6 (by decide) ?_
  refine g_istore_n F (lv' := [(0, .ref (b 0)), (1, .int (S_those f 1)), (2, .int 0)]) dX0_isAtRest_7 rfl (by decide) [1, 2, 0] rfl ?_
  refine g_all (w0 := CR cI b f) (lv0 := [(0, .ref (b 0)), (1, .int (S_those f 1)), (2, .int (nI 0))]) (st0 := []) rfl rfl rfl ?_
  refine g_for 6 (fun i => S_restN f i = true) (fun i => CR cI b f) (fun i => [(0, .ref (b 0)), (1, .int (S_those f 1)), (2, .int (nI i))]) (fun i hi hIi ihi => ?_) 0 (Nat.zero_le _) rfl
  refine g_iload_n F dX0_isAtRest_8 rfl 2 rfl ?_
  refine g_bipush F (v := 6) dX0_isAtRest_9 (by decide) ?_
  refine g_icmp_ge F 58 dX0_isAtRest_11 (by decide) (fun c1 => ?_) (fun c1 => ?_)
  · have hx_c1 : 6 = i := lp_ge hi (by decide) c1
    subst hx_c1
    refine g_iconst F (v := 1) dX0_isAtRest_58 (by decide) ?_
    exact g_endI (hR _ _ dX0_isAtRest_59) (by rw [show S_restN f 6 = true from hIi]; rfl) rfl
  · have hlti : i < 6 := lp_lt hi (by decide) c1
    refine g_aload_n F dX0_isAtRest_14 rfl 0 rfl ?_
    refine g_lR1 F zX0_isAtRest_inX0 zX0_isAtRest_f33 dX0_isAtRest_15 ?_
    refine g_iload_n F dX0_isAtRest_18 rfl 2 rfl ?_
    refine g_lA1 F rfl (by omega) dX0_isAtRest_19 ?_
    refine g_iconst F (v := 2) dX0_isAtRest_20 (by decide) ?_
    refine g_icmp_eq F 50 dX0_isAtRest_21 (by decide) (fun c2 => ?_) (fun c2 => ?_)
    · refine g_iconst F (v := 0) dX0_isAtRest_50 (by decide) ?_
      exact g_endI (hR _ _ dX0_isAtRest_51) (by rw [S_restN_f (i := i) (by simp_all [S_restOk]) 6 hlti]; rfl) rfl
    · refine g_aload_n F dX0_isAtRest_24 rfl 0 rfl ?_
      refine g_lR1 F zX0_isAtRest_inX0 zX0_isAtRest_f33 dX0_isAtRest_25 ?_
      refine g_iload_n F dX0_isAtRest_28 rfl 2 rfl ?_
      refine g_lA1 F rfl (by omega) dX0_isAtRest_29 ?_
      refine g_iconst F (v := 1) dX0_isAtRest_30 (by decide) ?_
      refine g_icmp_ne F 52 dX0_isAtRest_31 (by decide) (fun c3 => ?_) (fun c3 => ?_)
      · refine g_iinc F (lv' := [(0, .ref (b 0)), (1, .int (S_those f 1)), (2, .int (nI (i + 1)))]) (nI (i + 1)) dX0_isAtRest_52 2 rfl (nI_add i 1) (by decide) [1, 2, 0] rfl ?_
        refine g_goto F 8 dX0_isAtRest_55 (by decide) ?_
        refine g_all (w0 := CR cI b f) (lv0 := [(0, .ref (b 0)), (1, .int (S_those f 1)), (2, .int (nI (i + 1)))]) (st0 := []) rfl rfl rfl ?_
        exact ihi hlti (by unfold S_restN; rw [show S_restN f i = true from hIi]; simp_all [S_restOk])
      · refine g_aload_n F dX0_isAtRest_34 rfl 0 rfl ?_
        refine g_lR2 F zX0_isAtRest_inX0 zX0_isAtRest_f37 dX0_isAtRest_35 ?_
        refine g_iload_n F dX0_isAtRest_38 rfl 2 rfl ?_
        refine g_lA2 F rfl (by omega) dX0_isAtRest_39 ?_
        refine g_iload_n F dX0_isAtRest_40 rfl 1 rfl ?_
        refine g_iconst F (v := 1) dX0_isAtRest_41 (by decide) ?_
        refine g_iload_n F dX0_isAtRest_42 rfl 2 rfl ?_
        refine g_ishl F dX0_isAtRest_43 ?_
        refine g_iconst F (v := (-1)) dX0_isAtRest_44 (by decide) ?_
        refine g_ixor F dX0_isAtRest_45 ?_
        refine g_iand F dX0_isAtRest_46 ?_
        refine g_icmp_eq F 52 dX0_isAtRest_47 (by decide) (fun c4 => ?_) (fun c4 => ?_)
        · refine g_iinc F (lv' := [(0, .ref (b 0)), (1, .int (S_those f 1)), (2, .int (nI (i + 1)))]) (nI (i + 1)) dX0_isAtRest_52 2 rfl (nI_add i 1) (by decide) [1, 2, 0] rfl ?_
          refine g_goto F 8 dX0_isAtRest_55 (by decide) ?_
          refine g_all (w0 := CR cI b f) (lv0 := [(0, .ref (b 0)), (1, .int (S_those f 1)), (2, .int (nI (i + 1)))]) (st0 := []) rfl rfl rfl ?_
          exact ihi hlti (by unfold S_restN; rw [show S_restN f i = true from hIi]; simp_all [S_restOk])
        · refine g_iconst F (v := 0) dX0_isAtRest_50 (by decide) ?_
          exact g_endI (hR _ _ dX0_isAtRest_51) (by rw [S_restN_f (i := i) (by simp_all [S_restOk]) 6 hlti]; rfl) rfl
theorem zX0_feltBits_f33 : Cond.fieldLink RX0 33 (TX0 7).1 (TX0 7).2.1 (TX0 7).2.2.1 ∈ wsX0_feltBits := by decide +kernel
theorem zX0_feltBits_f37 : Cond.fieldLink RX0 37 (TX0 8).1 (TX0 8).2.1 (TX0 8).2.2.1 ∈ wsX0_feltBits := by decide +kernel
theorem zX0_feltBits_inX0 : ∀ w ∈ u_ws RX0 TX0 14, w ∈ wsX0_feltBits := by decide +kernel
set_option maxHeartbeats 1000000 in
set_option maxRecDepth 100000 in
theorem kX0_feltBits (l : Launch) (D : va_G) (cI cZ cQ : ClassId) (b : Nat → Nat) (f : Row) : Ct l D (gTy cI cZ cQ) yX0_feltBits wsX0_feltBits ({ frames := 0, cells := 0, slots := 0, locals := 0 }) [.ref (b 0)] (CR cI b f) (some (.int (S_felt f))) (CR cI b f) := by
  refine ct_ofI (cc := cX0_feltBits) (nL := 3) (own := RX0) (by decide) rfl rfl ⟨rfl, rfl⟩ (Nat.le_of_ble_eq_true rfl) CR_same (fun p e s m below meth c A Q F hR => ?_)
  refine g_iconst F (v := 0) dX0_feltBits_0 (by decide) ?_
  refine g_istore_n F (lv' := [(0, .ref (b 0)), (1, .int 0)]) dX0_feltBits_1 rfl (by decide) [1, 0] rfl ?_
  refine g_iconst F (v := 0) dX0_feltBits_2 (by decide) ?_
  refine g_istore_n F (lv' := [(0, .ref (b 0)), (1, .int 0), (2, .int 0)]) dX0_feltBits_3 rfl (by decide) [1, 2, 0] rfl ?_
  refine g_all (w0 := CR cI b f) (lv0 := [(0, .ref (b 0)), (1, .int (it (S_feltStep f) 0 0)), (2, .int (nI 0))]) (st0 := []) rfl rfl rfl ?_
  refine g_for 6 (fun i => True) (fun i => CR cI b f) (fun i => [(0, .ref (b 0)), (1, .int (it (S_feltStep f) i 0)), (2, .int (nI i))]) (fun i hi hIi ihi => ?_) 0 (Nat.zero_le _) trivial
  refine g_iload_n F dX0_feltBits_4 rfl 2 rfl ?_
  refine g_bipush F (v := 6) dX0_feltBits_5 (by decide) ?_
  refine g_icmp_ge F 40 dX0_feltBits_7 (by decide) (fun c1 => ?_) (fun c1 => ?_)
  · have hx_c1 : 6 = i := lp_ge hi (by decide) c1
    subst hx_c1
    refine g_iload_n F dX0_feltBits_40 rfl 1 rfl ?_
    exact g_endI (hR _ _ dX0_feltBits_41) rfl rfl
  · have hlti : i < 6 := lp_lt hi (by decide) c1
    refine g_iload_n F dX0_feltBits_10 rfl 1 rfl ?_
    refine g_aload_n F dX0_feltBits_11 rfl 0 rfl ?_
    refine g_lR2 F zX0_feltBits_inX0 zX0_feltBits_f37 dX0_feltBits_12 ?_
    refine g_iload_n F dX0_feltBits_15 rfl 2 rfl ?_
    refine g_lA2 F rfl (by omega) dX0_feltBits_16 ?_
    refine g_ior F dX0_feltBits_17 ?_
    refine g_istore_n F (lv' := [(0, .ref (b 0)), (1, .int ((it (S_feltStep f) i 0) ||| (f (6 + i)))), (2, .int (nI i))]) dX0_feltBits_18 rfl (by decide) [1, 0, 2] rfl ?_
    refine g_aload_n F dX0_feltBits_19 rfl 0 rfl ?_
    refine g_lR1 F zX0_feltBits_inX0 zX0_feltBits_f33 dX0_feltBits_20 ?_
    refine g_iload_n F dX0_feltBits_23 rfl 2 rfl ?_
    refine g_lA1 F rfl (by omega) dX0_feltBits_24 ?_
    refine g_if_eq F 34 dX0_feltBits_25 (by decide) (fun c2 => ?_) (fun c2 => ?_)
    · refine g_iinc F (lv' := [(0, .ref (b 0)), (1, .int ((it (S_feltStep f) i 0) ||| (f (6 + i)))), (2, .int (nI (i + 1)))]) (nI (i + 1)) dX0_feltBits_34 2 rfl (nI_add i 1) (by decide) [1, 2, 0] rfl ?_
      refine g_goto F 4 dX0_feltBits_37 (by decide) ?_
      refine g_all (w0 := CR cI b f) (lv0 := [(0, .ref (b 0)), (1, .int (it (S_feltStep f) (i + 1) 0)), (2, .int (nI (i + 1)))]) (st0 := []) rfl (by first | (simp only [it_s, S_feltStep, c2, Bool.false_eq_true, ↓reduceIte]; done) | (with_reducible rfl) | (simp [it_s, S_feltStep, c2, Bool.false_eq_true, ↓reduceIte]; done)) rfl ?_
      exact ihi hlti trivial
    · refine g_iload_n F dX0_feltBits_28 rfl 1 rfl ?_
      refine g_iconst F (v := 1) dX0_feltBits_29 (by decide) ?_
      refine g_iload_n F dX0_feltBits_30 rfl 2 rfl ?_
      refine g_ishl F dX0_feltBits_31 ?_
      refine g_ior F dX0_feltBits_32 ?_
      refine g_istore_n F (lv' := [(0, .ref (b 0)), (1, .int (((it (S_feltStep f) i 0) ||| (f (6 + i))) ||| (1 <<< ((nI i) &&& 31)))), (2, .int (nI i))]) dX0_feltBits_33 rfl (by decide) [1, 0, 2] rfl ?_
      refine g_iinc F (lv' := [(0, .ref (b 0)), (1, .int (((it (S_feltStep f) i 0) ||| (f (6 + i))) ||| (1 <<< ((nI i) &&& 31)))), (2, .int (nI (i + 1)))]) (nI (i + 1)) dX0_feltBits_34 2 rfl (nI_add i 1) (by decide) [1, 2, 0] rfl ?_
      refine g_goto F 4 dX0_feltBits_37 (by decide) ?_
      refine g_all (w0 := CR cI b f) (lv0 := [(0, .ref (b 0)), (1, .int (it (S_feltStep f) (i + 1) 0)), (2, .int (nI (i + 1)))]) (st0 := []) rfl (by first | (simp only [it_s, S_feltStep, c2, Bool.false_eq_true, ↓reduceIte]; done) | (with_reducible rfl) | (simp [it_s, S_feltStep, c2, Bool.false_eq_true, ↓reduceIte]; done)) rfl ?_
      exact ihi hlti trivial
theorem zX0_leaveOnly_f37 : Cond.fieldLink RX0 37 (TX0 8).1 (TX0 8).2.1 (TX0 8).2.2.1 ∈ wsX0_leaveOnly := by decide +kernel
theorem zX0_leaveOnly_inX0 : ∀ w ∈ u_ws RX0 TX0 14, w ∈ wsX0_leaveOnly := by decide +kernel
set_option maxHeartbeats 1000000 in
set_option maxRecDepth 100000 in
theorem kX0_leaveOnly (l : Launch) (D : va_G) (cI cZ cQ : ClassId) (b : Nat → Nat) (f : Row) (v : Int32) : Ct l D (gTy cI cZ cQ) yX0_leaveOnly wsX0_leaveOnly ({ frames := 1, cells := 0, slots := 0, locals := 21 }) [.ref (b 0), .int v] (CR cI b f) none (CR cI b (S_only f v)) := by
  refine ct_ofV (cc := cX0_leaveOnly) (nL := 3) (own := RX0) (by decide) rfl rfl ⟨rfl, rfl⟩ (Nat.le_of_ble_eq_true rfl) CR_same (fun p e s m below meth c A Q F hR => ?_)
  refine g_iconst F (v := 0) dX0_leaveOnly_0 (by decide) ?_
  refine g_istore_n F (lv' := [(0, .ref (b 0)), (1, .int v), (2, .int 0)]) dX0_leaveOnly_1 rfl (by decide) [1, 2, 0] rfl ?_
  refine g_all (w0 := CR cI b (it (S_onlyStep v) 0 f)) (lv0 := [(0, .ref (b 0)), (1, .int v), (2, .int (nI 0))]) (st0 := []) rfl rfl rfl ?_
  refine g_for 6 (fun i => True) (fun i => CR cI b (it (S_onlyStep v) i f)) (fun i => [(0, .ref (b 0)), (1, .int v), (2, .int (nI i))]) (fun i hi hIi ihi => ?_) 0 (Nat.zero_le _) trivial
  dsimp only [it_s] at ihi ⊢
  generalize hg_g : it (S_onlyStep v) i f = g at ihi ⊢
  refine g_iload_n F dX0_leaveOnly_2 rfl 2 rfl ?_
  refine g_bipush F (v := 6) dX0_leaveOnly_3 (by decide) ?_
  refine g_icmp_ge F 37 dX0_leaveOnly_5 (by decide) (fun c1 => ?_) (fun c1 => ?_)
  · have hx_c1 : 6 = i := lp_ge hi (by decide) c1
    subst hx_c1
    subst hg_g
    exact g_endV (hR _ _ dX0_leaveOnly_37) rfl
  · have hlti : i < 6 := lp_lt hi (by decide) c1
    refine g_aload_n F dX0_leaveOnly_8 rfl 0 rfl ?_
    refine g_lR2 F zX0_leaveOnly_inX0 zX0_leaveOnly_f37 dX0_leaveOnly_9 ?_
    refine g_iload_n F dX0_leaveOnly_12 rfl 2 rfl ?_
    refine g_dup2 F dX0_leaveOnly_13 rfl rfl ?_
    refine g_lA2 F rfl (by omega) dX0_leaveOnly_14 ?_
    refine g_iload_n F dX0_leaveOnly_15 rfl 1 rfl ?_
    refine g_iand F dX0_leaveOnly_16 ?_
    refine g_cA2 F rfl (by omega) dX0_leaveOnly_17 ?_
    refine g_iload_n F dX0_leaveOnly_18 rfl 1 rfl ?_
    refine g_iload_n F dX0_leaveOnly_19 rfl 2 rfl ?_
    refine g_ishr F dX0_leaveOnly_20 ?_
    refine g_iconst F (v := 1) dX0_leaveOnly_21 (by decide) ?_
    refine g_iand F dX0_leaveOnly_22 ?_
    refine g_if_ne F 31 dX0_leaveOnly_23 (by decide) (fun c2 => ?_) (fun c2 => ?_)
    · refine g_iinc F (lv' := [(0, .ref (b 0)), (1, .int v), (2, .int (nI (i + 1)))]) (nI (i + 1)) dX0_leaveOnly_31 2 rfl (nI_add i 1) (by decide) [1, 2, 0] rfl ?_
      refine g_goto F 2 dX0_leaveOnly_34 (by decide) ?_
      refine g_all (w0 := CR cI b (S_onlyStep v i g)) (lv0 := [(0, .ref (b 0)), (1, .int v), (2, .int (nI (i + 1)))]) (st0 := []) (by unfold S_onlyStep; rw [if_pos (has_01.mp c2)]) rfl rfl ?_
      exact ihi hlti trivial
    · refine g_aload_n F dX0_leaveOnly_26 rfl 0 rfl ?_
      refine g_iload_n F dX0_leaveOnly_27 rfl 2 rfl ?_
      refine g_callVs F (As := [.int (nI i)]) (st := []) (kX0_goAway l D cI cZ cQ b (upd g (6 + i) ((g (6 + i)) &&& v)) i (by omega)) 0 rfl rfl (cwV 1 F.2.2.2.2.1 gX0_leaveOnly_X0_goAway rfl rfl rfl (by decide +kernel) ⟨Nat.le_of_ble_eq_true rfl, Nat.le_of_ble_eq_true rfl⟩) rfl rfl (Nat.le_of_ble_eq_true rfl) ⟨Nat.zero_le _, Nat.zero_le _⟩ dX0_leaveOnly_28 ?_
      refine g_iinc F (lv' := [(0, .ref (b 0)), (1, .int v), (2, .int (nI (i + 1)))]) (nI (i + 1)) dX0_leaveOnly_31 2 rfl (nI_add i 1) (by decide) [1, 2, 0] rfl ?_
      refine g_goto F 2 dX0_leaveOnly_34 (by decide) ?_
      refine g_all (w0 := CR cI b (S_onlyStep v i g)) (lv0 := [(0, .ref (b 0)), (1, .int v), (2, .int (nI (i + 1)))]) (st0 := []) (by unfold S_onlyStep; rw [has_00.mp c2]; rfl) rfl rfl ?_
      exact ihi hlti trivial
theorem zX0_turnWay_f49 : Cond.fieldLink RX0 49 (TX0 12).1 (TX0 12).2.1 (TX0 12).2.2.1 ∈ wsX0_turnWay := by decide +kernel
theorem zX0_turnWay_inX0 : ∀ w ∈ u_ws RX0 TX0 14, w ∈ wsX0_turnWay := by decide +kernel
set_option maxHeartbeats 1000000 in
set_option maxRecDepth 100000 in
theorem kX0_turnWay (l : Launch) (D : va_G) (cI cZ cQ : ClassId) (b : Nat → Nat) (f : Row) (k o : Nat) (hk : k < 6) (ho : o < 6) (hko : ¬ k = o) : Ct l D (gTy cI cZ cQ) yX0_turnWay wsX0_turnWay ({ frames := 0, cells := 0, slots := 0, locals := 0 }) [.ref (b 0), .int (nI k), .int (nI o)] (CR cI b f) (some (.int 1)) (CR cI b (S_turn f k o)) := by
  refine ct_ofZ (cc := cX0_turnWay) (nL := 3) (own := RX0) (by decide) rfl rfl ⟨rfl, rfl⟩ (Nat.le_of_ble_eq_true rfl) CR_same (by first | rfl | exact bI_nar _) (fun p e s m below meth c A Q F hR => ?_)
  refine g_iload_n F dX0_turnWay_0 rfl 1 rfl ?_
  refine g_iload_n F dX0_turnWay_1 rfl 2 rfl ?_
  refine g_icmp_ne F 7 dX0_turnWay_2 (by decide) (fun c1 => ?_) (fun c1 => ?_)
  · refine g_aload_n F dX0_turnWay_7 rfl 0 rfl ?_
    refine g_lR6 F zX0_turnWay_inX0 zX0_turnWay_f49 dX0_turnWay_8 ?_
    refine g_iload_n F dX0_turnWay_11 rfl 1 rfl ?_
    refine g_dup2 F dX0_turnWay_12 rfl rfl ?_
    refine g_lA6 F rfl (by omega) dX0_turnWay_13 ?_
    refine g_iconst F (v := 1) dX0_turnWay_14 (by decide) ?_
    refine g_iload_n F dX0_turnWay_15 rfl 2 rfl ?_
    refine g_ishl F dX0_turnWay_16 ?_
    refine g_ixor F dX0_turnWay_17 ?_
    refine g_cA6 F rfl (by omega) dX0_turnWay_18 ?_
    refine g_iconst F (v := 1) dX0_turnWay_19 (by decide) ?_
    exact g_endI (hR _ _ dX0_turnWay_20) rfl rfl
  · exact absurd ((nI_eq (by omega) (by omega)).mp c1) hko
theorem zX0_forgetOld_f21 : Cond.fieldLink RX0 21 (TX0 3).1 (TX0 3).2.1 (TX0 3).2.2.1 ∈ wsX0_forgetOld := by decide +kernel
theorem zX0_forgetOld_f37 : Cond.fieldLink RX0 37 (TX0 8).1 (TX0 8).2.1 (TX0 8).2.2.1 ∈ wsX0_forgetOld := by decide +kernel
theorem zX0_forgetOld_f52 : Cond.fieldLink RX0 52 (TX0 13).1 (TX0 13).2.1 (TX0 13).2.2.1 ∈ wsX0_forgetOld := by decide +kernel
theorem zX0_forgetOld_inX0 : ∀ w ∈ u_ws RX0 TX0 14, w ∈ wsX0_forgetOld := by decide +kernel
set_option maxHeartbeats 1000000 in
set_option maxRecDepth 100000 in
theorem kX0_forgetOld (l : Launch) (D : va_G) (cI cZ cQ : ClassId) (b : Nat → Nat) (f : Row) (k : Nat) (hk : k < 6) (hn : ¬ f k = 0) (hK : Kn f) (hz : Z67 f) : Ct l D (gTy cI cZ cQ) yX0_forgetOld wsX0_forgetOld ({ frames := 2, cells := 0, slots := 0, locals := 43 }) [.ref (b 0), .int (nI k)] (CR cI b f) none (CR cI b (S_forget f k)) := by
  refine ct_ofV (cc := cX0_forgetOld) (nL := 5) (own := RX0) (by decide) rfl rfl ⟨rfl, rfl⟩ (Nat.le_of_ble_eq_true rfl) CR_same (fun p e s m below meth c A Q F hR => ?_)
  refine g_iconst F (v := 5) dX0_forgetOld_0 (by decide) ?_
  refine g_aload_n F dX0_forgetOld_1 rfl 0 rfl ?_
  refine g_aload_n F dX0_forgetOld_2 rfl 0 rfl ?_
  refine g_iload_n F dX0_forgetOld_3 rfl 1 rfl ?_
  refine g_callVs F (As := [.int (nI k)]) (st := [.ref (b 0), .int 5]) (kX0_countOf l D cI cZ cQ b f k (by omega) hn hK) 0 rfl rfl (cwV 1 F.2.2.2.2.1 gX0_forgetOld_X0_countOf rfl rfl rfl (by decide +kernel) ⟨Nat.le_of_ble_eq_true rfl, Nat.le_of_ble_eq_true rfl⟩) rfl rfl (Nat.le_of_ble_eq_true rfl) ⟨Nat.zero_le _, Nat.zero_le _⟩ dX0_forgetOld_4 ?_
  refine g_callVs F (As := [.int (S_count f k)]) (st := [.int 5]) (kX0_spanOf l D cI cZ cQ b f (S_count f k) hz) 0 rfl rfl (cwV 1 F.2.2.2.2.1 gX0_forgetOld_X0_spanOf rfl rfl rfl (by decide +kernel) ⟨Nat.le_of_ble_eq_true rfl, Nat.le_of_ble_eq_true rfl⟩) rfl rfl (Nat.le_of_ble_eq_true rfl) ⟨Nat.zero_le _, Nat.zero_le _⟩ dX0_forgetOld_7 ?_
  refine g_imul F dX0_forgetOld_10 ?_
  refine g_istore_n F (lv' := [(0, .ref (b 0)), (1, .int (nI k)), (2, .int (5 * (S_span f (S_count f k))))]) dX0_forgetOld_11 rfl (by decide) [1, 2, 0] rfl ?_
  refine g_iconst F (v := 0) dX0_forgetOld_12 (by decide) ?_
  refine g_istore_n F (lv' := [(0, .ref (b 0)), (1, .int (nI k)), (2, .int (5 * (S_span f (S_count f k)))), (3, .int 0)]) dX0_forgetOld_13 rfl (by decide) [1, 2, 3, 0] rfl ?_
  refine g_all (w0 := CR cI b (it (S_forStep k (S_most f k)) 0 f)) (lv0 := [(0, .ref (b 0)), (1, .int (nI k)), (2, .int (S_most f k)), (3, .int (nI 0))]) (st0 := []) rfl rfl rfl ?_
  refine g_for 6 (fun i => True) (fun i => CR cI b (it (S_forStep k (S_most f k)) i f)) (fun i => [(0, .ref (b 0)), (1, .int (nI k)), (2, .int (S_most f k)), (3, .int (nI i))]) (fun i hi hIi ihi => ?_) 0 (Nat.zero_le _) trivial
  dsimp only [it_s] at ihi ⊢
  generalize hg_g : it (S_forStep k (S_most f k)) i f = g at ihi ⊢
  refine g_iload_n F dX0_forgetOld_14 rfl 3 rfl ?_
  refine g_bipush F (v := 6) dX0_forgetOld_15 (by decide) ?_
  refine g_icmp_ge F 73 dX0_forgetOld_17 (by decide) (fun c1 => ?_) (fun c1 => ?_)
  · have hx_c1 : 6 = i := lp_ge hi (by decide) c1
    subst hx_c1
    subst hg_g
    exact g_endV (hR _ _ dX0_forgetOld_73) rfl
  · have hlti : i < 6 := lp_lt hi (by decide) c1
    refine g_aload_n F dX0_forgetOld_20 rfl 0 rfl ?_
    refine g_lF70 F zX0_forgetOld_inX0 zX0_forgetOld_f21 dX0_forgetOld_21 ?_
    refine g_aload_n F dX0_forgetOld_24 rfl 0 rfl ?_
    refine g_lR7 F zX0_forgetOld_inX0 zX0_forgetOld_f52 dX0_forgetOld_25 ?_
    refine g_iload_n F dX0_forgetOld_28 rfl 1 rfl ?_
    refine g_bipush F (v := 6) dX0_forgetOld_29 (by decide) ?_
    refine g_imul F dX0_forgetOld_31 ?_
    refine g_as (nI (k * 6)) (pk_mul k 6) ?_
    refine g_iload_n F dX0_forgetOld_32 rfl 3 rfl ?_
    refine g_iadd F dX0_forgetOld_33 ?_
    refine g_as (nI (k * 6 + i)) (nI_add (k * 6) i) ?_
    refine g_lA7 F rfl (by omega) dX0_forgetOld_34 ?_
    refine g_as (g (12 + 6 * k + i)) (congrArg g (by omega)) ?_
    refine g_isub F dX0_forgetOld_35 ?_
    refine g_istore F (lv' := [(0, .ref (b 0)), (1, .int (nI k)), (2, .int (S_most f k)), (3, .int (nI i)), (4, .int ((g 70) - (g (12 + 6 * k + i))))]) dX0_forgetOld_36 (by decide) [1, 2, 3, 4, 0] rfl ?_
    refine g_aload_n F dX0_forgetOld_38 rfl 0 rfl ?_
    refine g_iload_n F dX0_forgetOld_39 rfl 1 rfl ?_
    refine g_iload_n F dX0_forgetOld_40 rfl 3 rfl ?_
    refine g_callVs F (As := [.int (nI k), .int (nI i)]) (st := []) (kX0_knows l D cI cZ cQ b g k i (by omega) (by omega)) 0 rfl rfl (cwV 2 F.2.2.2.2.1 gX0_forgetOld_X0_knows rfl rfl rfl (by decide +kernel) ⟨Nat.le_of_ble_eq_true rfl, Nat.le_of_ble_eq_true rfl⟩) rfl rfl (Nat.le_of_ble_eq_true rfl) ⟨Nat.zero_le _, Nat.zero_le _⟩ dX0_forgetOld_41 ?_
    refine g_beq F 67 dX0_forgetOld_44 (by decide) (fun c2 => ?_) (fun c2 => ?_)
    · refine g_iinc F (lv' := [(0, .ref (b 0)), (1, .int (nI k)), (2, .int (S_most f k)), (3, .int (nI (i + 1))), (4, .int ((g 70) - (g (12 + 6 * k + i))))]) (nI (i + 1)) dX0_forgetOld_67 3 rfl (nI_add i 1) (by decide) [1, 2, 3, 0, 4] rfl ?_
      refine g_goto F 14 dX0_forgetOld_70 (by decide) ?_
      refine g_lvs [0, 1, 2, 3] rfl ?_
      refine g_all (w0 := CR cI b (S_forStep k (S_most f k) i g)) (lv0 := [(0, .ref (b 0)), (1, .int (nI k)), (2, .int (S_most f k)), (3, .int (nI (i + 1)))]) (st0 := []) (by rw [S_fs_no (S_old_a c2)]) rfl rfl ?_
      exact ihi hlti trivial
    · refine g_iload F dX0_forgetOld_47 4 rfl ?_
      refine g_iload_n F dX0_forgetOld_49 rfl 2 rfl ?_
      refine g_icmp_le F 67 dX0_forgetOld_50 (by decide) (fun c3 => ?_) (fun c3 => ?_)
      · refine g_iinc F (lv' := [(0, .ref (b 0)), (1, .int (nI k)), (2, .int (S_most f k)), (3, .int (nI (i + 1))), (4, .int ((g 70) - (g (12 + 6 * k + i))))]) (nI (i + 1)) dX0_forgetOld_67 3 rfl (nI_add i 1) (by decide) [1, 2, 3, 0, 4] rfl ?_
        refine g_goto F 14 dX0_forgetOld_70 (by decide) ?_
        refine g_lvs [0, 1, 2, 3] rfl ?_
        refine g_all (w0 := CR cI b (S_forStep k (S_most f k) i g)) (lv0 := [(0, .ref (b 0)), (1, .int (nI k)), (2, .int (S_most f k)), (3, .int (nI (i + 1)))]) (st0 := []) (by rw [S_fs_no (S_old_b c2 c3)]) rfl rfl ?_
        exact ihi hlti trivial
      · refine g_aload_n F dX0_forgetOld_53 rfl 0 rfl ?_
        refine g_lR2 F zX0_forgetOld_inX0 zX0_forgetOld_f37 dX0_forgetOld_54 ?_
        refine g_iload_n F dX0_forgetOld_57 rfl 1 rfl ?_
        refine g_dup2 F dX0_forgetOld_58 rfl rfl ?_
        refine g_lA2 F rfl (by omega) dX0_forgetOld_59 ?_
        refine g_iconst F (v := 1) dX0_forgetOld_60 (by decide) ?_
        refine g_iload_n F dX0_forgetOld_61 rfl 3 rfl ?_
        refine g_ishl F dX0_forgetOld_62 ?_
        refine g_iconst F (v := (-1)) dX0_forgetOld_63 (by decide) ?_
        refine g_ixor F dX0_forgetOld_64 ?_
        refine g_iand F dX0_forgetOld_65 ?_
        refine g_cA2 F rfl (by omega) dX0_forgetOld_66 ?_
        refine g_iinc F (lv' := [(0, .ref (b 0)), (1, .int (nI k)), (2, .int (S_most f k)), (3, .int (nI (i + 1))), (4, .int ((g 70) - (g (12 + 6 * k + i))))]) (nI (i + 1)) dX0_forgetOld_67 3 rfl (nI_add i 1) (by decide) [1, 2, 3, 0, 4] rfl ?_
        refine g_goto F 14 dX0_forgetOld_70 (by decide) ?_
        refine g_lvs [0, 1, 2, 3] rfl ?_
        refine g_all (w0 := CR cI b (S_forStep k (S_most f k) i g)) (lv0 := [(0, .ref (b 0)), (1, .int (nI k)), (2, .int (S_most f k)), (3, .int (nI (i + 1)))]) (st0 := []) (by rw [S_fs_yes (S_old_c c2 c3)]) rfl rfl ?_
        exact ihi hlti trivial
