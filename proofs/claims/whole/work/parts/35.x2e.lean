set_option maxHeartbeats 1000000 in
set_option maxRecDepth 100000 in
theorem kX2_longPower (l : Launch) (D : va_G) (cI cZ cQ : ClassId) (v : Int64) (n : Nat) (hn : n < 2 ^ 31) : Ct l D (gTy cI cZ cQ) yX2_longPower wsX2_longPower ({ frames := 0, cells := 0, slots := 0, locals := 0 }) [.long v, .int (nI n)] ([]) (some (.long (S_lpow v n))) ([]) := by
  refine ct_ofL (cc := cX2_longPower) (nL := 6) (own := RX2) (by decide) rfl rfl ⟨rfl, rfl⟩ (Nat.le_of_ble_eq_true rfl) (by simp only [List.map]) (fun p e s m below meth c A Q F hR => ?_)
  refine g_lconst F (v := 1) dX2_longPower_0 (by decide) ?_
  refine g_lstore_n F (lv' := [(0, .long v), (2, .int (nI n)), (3, .long 1)]) dX2_longPower_1 rfl (by decide) [1, 2, 0] rfl ?_
  refine g_iconst F (v := 0) dX2_longPower_2 (by decide) ?_
  refine g_istore F (lv' := [(0, .long v), (2, .int (nI n)), (3, .long 1), (5, .int 0)]) dX2_longPower_3 (by decide) [1, 2, 3, 0] rfl ?_
  refine g_all (w0 := []) (lv0 := [(0, .long v), (2, .int (nI n)), (3, .long (S_lpow v 0)), (5, .int (nI 0))]) (st0 := []) rfl rfl rfl ?_
  refine g_for n (fun i => True) (fun i => []) (fun i => [(0, .long v), (2, .int (nI n)), (3, .long (S_lpow v i)), (5, .int (nI i))]) (fun i hi hIi ihi => ?_) 0 (Nat.zero_le _) trivial
  refine g_iload F dX2_longPower_5 3 rfl ?_
  refine g_iload_n F dX2_longPower_7 rfl 1 rfl ?_
  refine g_icmp_ge F 21 dX2_longPower_8 (by decide) (fun c1 => ?_) (fun c1 => ?_)
  · have hx_c1 : n = i := lp_ge hi hn c1
    subst hx_c1
    refine g_lload_n F dX2_longPower_21 rfl 2 rfl ?_
    exact g_endL (hR _ _ dX2_longPower_22) rfl rfl
  · have hlti : i < n := lp_lt hi hn c1
    refine g_lload_n F dX2_longPower_11 rfl 2 rfl ?_
    refine g_lload_n F dX2_longPower_12 rfl 0 rfl ?_
    refine g_lmul F dX2_longPower_13 ?_
    refine g_lstore_n F (lv' := [(0, .long v), (2, .int (nI n)), (3, .long ((S_lpow v i) * v)), (5, .int (nI i))]) dX2_longPower_14 rfl (by decide) [1, 2, 0, 3] rfl ?_
    refine g_iinc F (lv' := [(0, .long v), (2, .int (nI n)), (3, .long ((S_lpow v i) * v)), (5, .int (nI (i + 1)))]) (nI (i + 1)) dX2_longPower_15 3 rfl (nI_add i 1) (by decide) [1, 2, 3, 0] rfl ?_
    refine g_goto F 5 dX2_longPower_18 (by decide) ?_
    refine g_all (w0 := []) (lv0 := [(0, .long v), (2, .int (nI n)), (3, .long (S_lpow v (i + 1))), (5, .int (nI (i + 1)))]) (st0 := []) rfl rfl rfl ?_
    exact ihi hlti trivial
set_option maxHeartbeats 1000000 in
set_option maxRecDepth 100000 in
theorem kX2_power (l : Launch) (D : va_G) (cI cZ cQ : ClassId) (v : Int32) (n : Nat) (hn : n < 2 ^ 31) : Ct l D (gTy cI cZ cQ) yX2_power wsX2_power ({ frames := 0, cells := 0, slots := 0, locals := 0 }) [.int v, .int (nI n)] ([]) (some (.int (S_pow v n))) ([]) := by
  refine ct_ofI (cc := cX2_power) (nL := 4) (own := RX2) (by decide) rfl rfl ⟨rfl, rfl⟩ (Nat.le_of_ble_eq_true rfl) (by simp only [List.map]) (fun p e s m below meth c A Q F hR => ?_)
  refine g_iconst F (v := 1) dX2_power_0 (by decide) ?_
  refine g_istore_n F (lv' := [(0, .int v), (1, .int (nI n)), (2, .int 1)]) dX2_power_1 rfl (by decide) [1, 2, 0] rfl ?_
  refine g_iconst F (v := 0) dX2_power_2 (by decide) ?_
  refine g_istore_n F (lv' := [(0, .int v), (1, .int (nI n)), (2, .int 1), (3, .int 0)]) dX2_power_3 rfl (by decide) [1, 2, 3, 0] rfl ?_
  refine g_all (w0 := []) (lv0 := [(0, .int v), (1, .int (nI n)), (2, .int (S_pow v 0)), (3, .int (nI 0))]) (st0 := []) rfl rfl rfl ?_
  refine g_for n (fun i => True) (fun i => []) (fun i => [(0, .int v), (1, .int (nI n)), (2, .int (S_pow v i)), (3, .int (nI i))]) (fun i hi hIi ihi => ?_) 0 (Nat.zero_le _) trivial
  refine g_iload_n F dX2_power_4 rfl 3 rfl ?_
  refine g_iload_n F dX2_power_5 rfl 1 rfl ?_
  refine g_icmp_ge F 19 dX2_power_6 (by decide) (fun c1 => ?_) (fun c1 => ?_)
  · have hx_c1 : n = i := lp_ge hi hn c1
    subst hx_c1
    refine g_iload_n F dX2_power_19 rfl 2 rfl ?_
    exact g_endI (hR _ _ dX2_power_20) rfl rfl
  · have hlti : i < n := lp_lt hi hn c1
    refine g_iload_n F dX2_power_9 rfl 2 rfl ?_
    refine g_iload_n F dX2_power_10 rfl 0 rfl ?_
    refine g_imul F dX2_power_11 ?_
    refine g_istore_n F (lv' := [(0, .int v), (1, .int (nI n)), (2, .int ((S_pow v i) * v)), (3, .int (nI i))]) dX2_power_12 rfl (by decide) [1, 2, 0, 3] rfl ?_
    refine g_iinc F (lv' := [(0, .int v), (1, .int (nI n)), (2, .int ((S_pow v i) * v)), (3, .int (nI (i + 1)))]) (nI (i + 1)) dX2_power_13 3 rfl (nI_add i 1) (by decide) [1, 2, 3, 0] rfl ?_
    refine g_goto F 4 dX2_power_16 (by decide) ?_
    refine g_all (w0 := []) (lv0 := [(0, .int v), (1, .int (nI n)), (2, .int (S_pow v (i + 1))), (3, .int (nI (i + 1)))]) (st0 := []) rfl rfl rfl ?_
    exact ihi hlti trivial
set_option maxHeartbeats 1000000 in
set_option maxRecDepth 100000 in
theorem kX2_factorial (l : Launch) (D : va_G) (cI cZ cQ : ClassId) (n : Nat) (hn : n < 1000) : Ct l D (gTy cI cZ cQ) yX2_factorial wsX2_factorial ({ frames := 0, cells := 0, slots := 0, locals := 0 }) [.int (nI n)] ([]) (some (.int (S_facP (n - 1)))) ([]) := by
  refine ct_ofI (cc := cX2_factorial) (nL := 3) (own := RX2) (by decide) rfl rfl ⟨rfl, rfl⟩ (Nat.le_of_ble_eq_true rfl) (by simp only [List.map]) (fun p e s m below meth c A Q F hR => ?_)
  refine g_iconst F (v := 1) dX2_factorial_0 (by decide) ?_
  refine g_istore_n F (lv' := [(0, .int (nI n)), (1, .int 1)]) dX2_factorial_1 rfl (by decide) [1, 0] rfl ?_
  refine g_iconst F (v := 2) dX2_factorial_2 (by decide) ?_
  refine g_istore_n F (lv' := [(0, .int (nI n)), (1, .int 1), (2, .int 2)]) dX2_factorial_3 rfl (by decide) [1, 2, 0] rfl ?_
  refine g_all (w0 := []) (lv0 := [(0, .int (nI n)), (1, .int (S_facP 0)), (2, .int (nI (0 + 2)))]) (st0 := []) rfl rfl rfl ?_
  refine g_for (n - 1) (fun i => True) (fun i => []) (fun i => [(0, .int (nI n)), (1, .int (S_facP i)), (2, .int (nI (i + 2)))]) (fun i hi hIi ihi => ?_) 0 (Nat.zero_le _) trivial
  refine g_iload_n F dX2_factorial_4 rfl 2 rfl ?_
  refine g_iload_n F dX2_factorial_5 rfl 0 rfl ?_
  refine g_icmp_gt F 19 dX2_factorial_6 (by decide) (fun c1 => ?_) (fun c1 => ?_)
  · have hx_c1 : n - 1 = i := by have := (nI_ltI (a := n) (b := i + 2) (by omega) (by omega)).mp c1; omega
    subst hx_c1
    refine g_iload_n F dX2_factorial_19 rfl 1 rfl ?_
    exact g_endI (hR _ _ dX2_factorial_20) rfl rfl
  · have hlti : i < n - 1 := by have := mt (nI_lt (a := n) (b := i + 2) · (by omega)) c1; omega
    refine g_iload_n F dX2_factorial_9 rfl 1 rfl ?_
    refine g_iload_n F dX2_factorial_10 rfl 2 rfl ?_
    refine g_imul F dX2_factorial_11 ?_
    refine g_istore_n F (lv' := [(0, .int (nI n)), (1, .int ((S_facP i) * (nI (i + 2)))), (2, .int (nI (i + 2)))]) dX2_factorial_12 rfl (by decide) [1, 0, 2] rfl ?_
    refine g_iinc F (lv' := [(0, .int (nI n)), (1, .int ((S_facP i) * (nI (i + 2)))), (2, .int (nI (i + 2 + 1)))]) (nI (i + 2 + 1)) dX2_factorial_13 2 rfl (nI_add (i + 2) 1) (by decide) [1, 2, 0] rfl ?_
    refine g_goto F 4 dX2_factorial_16 (by decide) ?_
    refine g_all (w0 := []) (lv0 := [(0, .int (nI n)), (1, .int (S_facP (i + 1))), (2, .int (nI (i + 1 + 2)))]) (st0 := []) rfl (by rw [S_facP_s]) rfl ?_
    exact ihi hlti trivial
set_option maxHeartbeats 1000000 in
set_option maxRecDepth 100000 in
theorem kX2_fraction (l : Launch) (D : va_G) (cI cZ cQ : ClassId) (x up : Int32) (X B : Nat) (hX : S_abs x = nI X) (hX1 : X < 2 ^ 31) (hB : 0 < B) (hB1 : B < 2 ^ 31) : Ct l D (gTy cI cZ cQ) yX2_fraction wsX2_fraction ({ frames := 0, cells := 0, slots := 0, locals := 0 }) [.int x, .int (nI B), .int up] ([]) (some (.int (S_frac x (Nat.gcd X B) B up))) ([]) := by
  refine ct_ofI (cc := cX2_fraction) (nL := 6) (own := RX2) (by decide) rfl rfl ⟨rfl, rfl⟩ (Nat.le_of_ble_eq_true rfl) (by simp only [List.map]) (fun p e s m below meth c A Q F hR => ?_)
  refine g_iload_n F dX2_fraction_0 rfl 0 rfl ?_
  have hJ2 : Go p l e ({ frames := 0, cells := 0, slots := 0, locals := 0 }) s m (List.toArray [.int x, .int (nI B), .int up]) below meth c Q D A 6 0 0 ([]) 10 [(0, .int x), (1, .int (nI B)), (2, .int up)] [.int (nI X)] := by
    refine g_istore_n F (lv' := [(0, .int x), (1, .int (nI B)), (2, .int up), (3, .int (nI X))]) dX2_fraction_10 rfl (by decide) [1, 2, 3, 0] rfl ?_
    refine g_iload_n F dX2_fraction_11 rfl 1 rfl ?_
    refine g_istore F (lv' := [(0, .int x), (1, .int (nI B)), (2, .int up), (3, .int (nI X)), (4, .int (nI B))]) dX2_fraction_12 (by decide) [1, 2, 3, 4, 0] rfl ?_
    refine g_all (w0 := []) (lv0 := [(0, .int x), (1, .int (nI B)), (2, .int up), (3, .int (nI (X, B).1)), (4, .int (nI (X, B).2))]) (st0 := []) rfl rfl rfl ?_
    refine g_loop (σ := Nat × Nat) B (fun i z => Nat.gcd z.1 z.2 = Nat.gcd X B ∧ z.2 + i ≤ B ∧ z.1 < 2 ^ 31 ∧ (0 < z.1 ∨ 0 < z.2)) (fun i z => []) (fun i z => [(0, .int x), (1, .int (nI B)), (2, .int up), (3, .int (nI z.1)), (4, .int (nI z.2))]) (fun i z hi hIi ihi => ?_) 0 (X, B) (Nat.zero_le _) ⟨rfl, Nat.le_refl _, hX1, Or.inr hB⟩
    obtain ⟨hI1, hI2, hI3, hI4⟩ := id hIi
    refine g_iload F dX2_fraction_14 4 rfl ?_
    refine g_if_eq F 35 dX2_fraction_16 (by decide) (fun c3 => ?_) (fun c3 => ?_)
    · have hq0 : z.2 = 0 := nI_z (by omega) c3
      have hgz : z.1 = Nat.gcd X B := by have := hIi.1; rw [hq0, Nat.gcd_zero_right] at this; exact this
      refine g_iload_n F dX2_fraction_35 rfl 2 rfl ?_
      refine g_if_eq F 45 dX2_fraction_36 (by decide) (fun c4 => ?_) (fun c4 => ?_)
      · refine g_iload_n F dX2_fraction_45 rfl 1 rfl ?_
        refine g_iload_n F dX2_fraction_46 rfl 3 rfl ?_
        refine g_idiv F dX2_fraction_47 (nI_ne0 (by omega) (by omega)) ?_
        exact g_endI (hR _ _ dX2_fraction_48) (by unfold S_frac; rw [← hgz, if_pos c4]) rfl
      · refine g_iload_n F dX2_fraction_39 rfl 0 rfl ?_
        refine g_iload_n F dX2_fraction_40 rfl 3 rfl ?_
        refine g_idiv F dX2_fraction_41 (nI_ne0 (by omega) (by omega)) ?_
        refine g_goto F 48 dX2_fraction_42 (by decide) ?_
        exact g_endI (hR _ _ dX2_fraction_48) (by unfold S_frac; rw [← hgz, if_neg c4]) rfl
    · have hqp : 0 < z.2 := nI_nz c3
      have hmod := Nat.mod_lt z.1 hqp
      refine g_iload_n F dX2_fraction_19 rfl 3 rfl ?_
      refine g_iload F dX2_fraction_20 4 rfl ?_
      refine g_irem F dX2_fraction_22 (nI_ne0 hqp (by omega)) ?_
      refine g_as (nI (z.1 % z.2)) (pk_rem (by omega) hqp (by omega)) ?_
      refine g_istore F (lv' := [(0, .int x), (1, .int (nI B)), (2, .int up), (3, .int (nI z.1)), (4, .int (nI z.2)), (5, .int (nI (z.1 % z.2)))]) dX2_fraction_23 (by decide) [1, 2, 3, 4, 5, 0] rfl ?_
      refine g_iload F dX2_fraction_25 4 rfl ?_
      refine g_istore_n F (lv' := [(0, .int x), (1, .int (nI B)), (2, .int up), (3, .int (nI z.2)), (4, .int (nI z.2)), (5, .int (nI (z.1 % z.2)))]) dX2_fraction_27 rfl (by decide) [1, 2, 3, 0, 4, 5] rfl ?_
      refine g_iload F dX2_fraction_28 5 rfl ?_
      refine g_istore F (lv' := [(0, .int x), (1, .int (nI B)), (2, .int up), (3, .int (nI z.2)), (4, .int (nI (z.1 % z.2))), (5, .int (nI (z.1 % z.2)))]) dX2_fraction_30 (by decide) [1, 2, 3, 4, 0, 5] rfl ?_
      refine g_goto F 14 dX2_fraction_32 (by decide) ?_
      refine g_lvs (lv' := [(0, .int x), (1, .int (nI B)), (2, .int up), (3, .int (nI z.2)), (4, .int (nI (z.1 % z.2)))]) [0, 1, 2, 3, 4] rfl ?_
      refine g_all (w0 := []) (lv0 := [(0, .int x), (1, .int (nI B)), (2, .int up), (3, .int (nI (z.2, z.1 % z.2).1)), (4, .int (nI (z.2, z.1 % z.2).2))]) (st0 := []) rfl rfl rfl ?_
      exact ihi (by omega) (z.2, z.1 % z.2) ⟨by rw [← hIi.1]; exact gcd_step, by show z.1 % z.2 + (i + 1) ≤ B; omega, by show z.2 < 2 ^ 31; omega, Or.inl hqp⟩
  refine g_if_ge F 9 dX2_fraction_1 (by decide) (fun c1 => ?_) (fun c1 => ?_)
  · refine g_iload_n F dX2_fraction_9 rfl 0 rfl ?_
    refine g_as (nI X) (by rw [← hX]; unfold S_abs; rw [if_pos c1]) ?_
    exact hJ2
  · refine g_iload_n F dX2_fraction_4 rfl 0 rfl ?_
    refine g_ineg F dX2_fraction_5 ?_
    refine g_goto F 10 dX2_fraction_6 (by decide) ?_
    refine g_as (nI X) (by rw [← hX]; unfold S_abs; rw [if_neg c1]) ?_
    exact hJ2
theorem zX2_lettersBy_f13 : Cond.fieldLink RX2 13 (TX2 2).1 (TX2 2).2.1 (TX2 2).2.2.1 ∈ wsX2_lettersBy := by decide +kernel
theorem zX2_lettersBy_f16 : Cond.fieldLink RX2 16 (TX2 3).1 (TX2 3).2.1 (TX2 3).2.2.1 ∈ wsX2_lettersBy := by decide +kernel
theorem zX2_lettersBy_inX2 : ∀ w ∈ u_ws RX2 TX2 15, w ∈ wsX2_lettersBy := by decide +kernel
set_option maxHeartbeats 1000000 in
set_option maxRecDepth 100000 in
theorem kX2_lettersBy (l : Launch) (D : va_G) (cI cZ cQ : ClassId) (a : Nat → Nat) (tx : Row) (ln : Nat) (nw tr di : Row) (ac nx : Nat) (ke ik s1 s2 : Row) (se : Nat) (sd : Int64) (wo re : Row) (v : Int32) (n : Nat) (hn : n < 2 ^ 31) (hz : Z67 nw) : Ct l D (gTy cI cZ cQ) yX2_lettersBy wsX2_lettersBy ({ frames := 6, cells := 0, slots := 0, locals := 180 }) [.ref (a 0), .int v, .int (nI n)] (MW cI cZ a tx ln nw tr di ac nx ke ik s1 s2 se sd wo re) (some (.int (S_pass (S_only nw v) n))) (MW cI cZ a tx ln nw (S_ticks (S_only nw v) n) di ac nx ke ik s1 s2 se sd wo re) := by
  refine ct_ofI (cc := cX2_lettersBy) (nL := 4) (own := RX2) (by decide) rfl rfl ⟨rfl, rfl⟩ (Nat.le_of_ble_eq_true rfl) MW_same (fun p e s m below meth c A Q F hR => ?_)
  refine g_aw ([(a 0, .inr (2, [.ref (a 1), .int (nI ln), .ref (a 2), .ref (a 3), .ref (a 4), .int (nI ac), .int (nI nx), .ref (a 5), .ref (a 6), .ref (a 7), .ref (a 8), .int (nI se), .long sd, .ref (a 9), .ref (a 10)])), (a 1, .inl (cI, 60, .inl tx)), (a 2, .inl (cI, 79, .inl nw)), (a 3, .inl (cI, 79, .inl tr)), (a 4, .inl (cI, 1106, .inl di)), (a 5, .inl (cI, 158, .inl ke)), (a 6, .inl (cZ, 2, .inl ik)), (a 7, .inl (cI, 6, .inl s1)), (a 8, .inl (cI, 6, .inl s2)), (a 9, .inl (cI, 64, .inl wo)), (a 10, .inl (cI, 79, .inl re))]) rfl ?_
  refine g_aload_n F dX2_lettersBy_0 rfl 0 rfl ?_
  refine g_get F (.ref (a 2)) zX2_lettersBy_inX2 0 rfl rfl 2 (by decide) rfl zX2_lettersBy_f13 dX2_lettersBy_1 ?_
  refine g_aload_n F dX2_lettersBy_4 rfl 0 rfl ?_
  refine g_get F (.ref (a 3)) zX2_lettersBy_inX2 0 rfl rfl 3 (by decide) rfl zX2_lettersBy_f16 dX2_lettersBy_5 ?_
  refine g_callS F (As := [.ref (a 2), .ref (a 3)]) (st := []) ([(a 0, .inr (2, [.ref (a 1), .int (nI ln), .ref (a 2), .ref (a 3), .ref (a 4), .int (nI ac), .int (nI nx), .ref (a 5), .ref (a 6), .ref (a 7), .ref (a 8), .int (nI se), .long sd, .ref (a 9), .ref (a 10)])), (a 1, .inl (cI, 60, .inl tx)), (a 4, .inl (cI, 1106, .inl di)), (a 5, .inl (cI, 158, .inl ke)), (a 6, .inl (cZ, 2, .inl ik)), (a 7, .inl (cI, 6, .inl s1)), (a 8, .inl (cI, 6, .inl s2)), (a 9, .inl (cI, 64, .inl wo)), (a 10, .inl (cI, 79, .inl re))]) ([(a 0, .inr (2, [.ref (a 1), .int (nI ln), .ref (a 2), .ref (a 3), .ref (a 4), .int (nI ac), .int (nI nx), .ref (a 5), .ref (a 6), .ref (a 7), .ref (a 8), .int (nI se), .long sd, .ref (a 9), .ref (a 10)])), (a 1, .inl (cI, 60, .inl tx)), (a 2, .inl (cI, 79, .inl nw)), (a 3, .inl (cI, 79, .inl nw)), (a 4, .inl (cI, 1106, .inl di)), (a 5, .inl (cI, 158, .inl ke)), (a 6, .inl (cZ, 2, .inl ik)), (a 7, .inl (cI, 6, .inl s1)), (a 8, .inl (cI, 6, .inl s2)), (a 9, .inl (cI, 64, .inl wo)), (a 10, .inl (cI, 79, .inl re))]) [2, 3] [0, 1, 4, 5, 6, 7, 8, 9, 10] [0, 1, 9, 10, 2, 3, 4, 5, 6, 7, 8] (kX2_copy l D cI cZ cQ (a 2) (a 3) nw tr) (va_cwS 2 F.2.2.2.2.1 gX2_lettersBy_X2_copy rfl rfl rfl (by decide +kernel) ⟨Nat.le_of_ble_eq_true rfl, Nat.le_of_ble_eq_true rfl⟩) rfl rfl rfl rfl (by decide) (by decide) (by decide) rfl (by decide) (Nat.le_of_ble_eq_true rfl) ⟨Nat.zero_le _, Nat.zero_le _⟩ dX2_lettersBy_8 ?_
  refine g_iconst F (v := 0) dX2_lettersBy_11 (by decide) ?_
  refine g_istore_n F (lv' := [(0, .ref (a 0)), (1, .int v), (2, .int (nI n)), (3, .int 0)]) dX2_lettersBy_12 rfl (by decide) [1, 2, 3, 0] rfl ?_
  refine g_all (w0 := [(a 0, .inr (2, [.ref (a 1), .int (nI ln), .ref (a 2), .ref (a 3), .ref (a 4), .int (nI ac), .int (nI nx), .ref (a 5), .ref (a 6), .ref (a 7), .ref (a 8), .int (nI se), .long sd, .ref (a 9), .ref (a 10)])), (a 1, .inl (cI, 60, .inl tx)), (a 2, .inl (cI, 79, .inl nw)), (a 3, .inl (cI, 79, .inl (it (S_onlyStep v) 0 nw))), (a 4, .inl (cI, 1106, .inl di)), (a 5, .inl (cI, 158, .inl ke)), (a 6, .inl (cZ, 2, .inl ik)), (a 7, .inl (cI, 6, .inl s1)), (a 8, .inl (cI, 6, .inl s2)), (a 9, .inl (cI, 64, .inl wo)), (a 10, .inl (cI, 79, .inl re))]) (lv0 := [(0, .ref (a 0)), (1, .int v), (2, .int (nI n)), (3, .int (nI 0))]) (st0 := []) rfl rfl rfl ?_
  refine g_for 6 (fun i => True) (fun i => [(a 0, .inr (2, [.ref (a 1), .int (nI ln), .ref (a 2), .ref (a 3), .ref (a 4), .int (nI ac), .int (nI nx), .ref (a 5), .ref (a 6), .ref (a 7), .ref (a 8), .int (nI se), .long sd, .ref (a 9), .ref (a 10)])), (a 1, .inl (cI, 60, .inl tx)), (a 2, .inl (cI, 79, .inl nw)), (a 3, .inl (cI, 79, .inl (it (S_onlyStep v) i nw))), (a 4, .inl (cI, 1106, .inl di)), (a 5, .inl (cI, 158, .inl ke)), (a 6, .inl (cZ, 2, .inl ik)), (a 7, .inl (cI, 6, .inl s1)), (a 8, .inl (cI, 6, .inl s2)), (a 9, .inl (cI, 64, .inl wo)), (a 10, .inl (cI, 79, .inl re))]) (fun i => [(0, .ref (a 0)), (1, .int v), (2, .int (nI n)), (3, .int (nI i))]) (fun i hi hIi ihi => ?_) 0 (Nat.zero_le _) trivial
  dsimp only [it_s] at ihi ⊢
  generalize hg_g : it (S_onlyStep v) i nw = g at ihi ⊢
  refine g_iload_n F dX2_lettersBy_13 rfl 3 rfl ?_
  refine g_bipush F (v := 6) dX2_lettersBy_14 (by decide) ?_
  refine g_icmp_ge F 54 dX2_lettersBy_16 (by decide) (fun c1 => ?_) (fun c1 => ?_)
  · have hx_c1 : 6 = i := lp_ge hi (by decide) c1
    subst hx_c1
    subst hg_g
    refine g_aw ([(a 0, .inr (2, [.ref (a 1), .int (nI ln), .ref (a 2), .ref (a 3), .ref (a 4), .int (nI ac), .int (nI nx), .ref (a 5), .ref (a 6), .ref (a 7), .ref (a 8), .int (nI se), .long sd, .ref (a 9), .ref (a 10)])), (a 1, .inl (cI, 60, .inl tx)), (a 2, .inl (cI, 79, .inl nw)), (a 3, .inl (cI, 79, .inl (S_only nw v))), (a 4, .inl (cI, 1106, .inl di)), (a 5, .inl (cI, 158, .inl ke)), (a 6, .inl (cZ, 2, .inl ik)), (a 7, .inl (cI, 6, .inl s1)), (a 8, .inl (cI, 6, .inl s2)), (a 9, .inl (cI, 64, .inl wo)), (a 10, .inl (cI, 79, .inl re))]) rfl ?_
    refine g_aload_n F dX2_lettersBy_54 rfl 0 rfl ?_
    refine g_get F (.ref (a 3)) zX2_lettersBy_inX2 0 rfl rfl 3 (by decide) rfl zX2_lettersBy_f16 dX2_lettersBy_55 ?_
    refine g_iload_n F dX2_lettersBy_58 rfl 2 rfl ?_
    refine g_callS F (As := [.ref (a 3), .int (nI n)]) (st := []) ([(a 0, .inr (2, [.ref (a 1), .int (nI ln), .ref (a 2), .ref (a 3), .ref (a 4), .int (nI ac), .int (nI nx), .ref (a 5), .ref (a 6), .ref (a 7), .ref (a 8), .int (nI se), .long sd, .ref (a 9), .ref (a 10)])), (a 1, .inl (cI, 60, .inl tx)), (a 2, .inl (cI, 79, .inl nw)), (a 4, .inl (cI, 1106, .inl di)), (a 5, .inl (cI, 158, .inl ke)), (a 6, .inl (cZ, 2, .inl ik)), (a 7, .inl (cI, 6, .inl s1)), (a 8, .inl (cI, 6, .inl s2)), (a 9, .inl (cI, 64, .inl wo)), (a 10, .inl (cI, 79, .inl re))]) ([(a 0, .inr (2, [.ref (a 1), .int (nI ln), .ref (a 2), .ref (a 3), .ref (a 4), .int (nI ac), .int (nI nx), .ref (a 5), .ref (a 6), .ref (a 7), .ref (a 8), .int (nI se), .long sd, .ref (a 9), .ref (a 10)])), (a 1, .inl (cI, 60, .inl tx)), (a 2, .inl (cI, 79, .inl nw)), (a 3, .inl (cI, 79, .inl (S_ticks (S_only nw v) n))), (a 4, .inl (cI, 1106, .inl di)), (a 5, .inl (cI, 158, .inl ke)), (a 6, .inl (cZ, 2, .inl ik)), (a 7, .inl (cI, 6, .inl s1)), (a 8, .inl (cI, 6, .inl s2)), (a 9, .inl (cI, 64, .inl wo)), (a 10, .inl (cI, 79, .inl re))]) [3] [0, 1, 2, 4, 5, 6, 7, 8, 9, 10] [0, 1, 2, 10, 3, 4, 5, 6, 7, 8, 9] (kX2_passOn l D cI cZ cQ (a 3) (S_only nw v) n (by omega) (Z_only hz)) (va_cwS 2 F.2.2.2.2.1 gX2_lettersBy_X2_passOn rfl rfl rfl (by decide +kernel) ⟨Nat.le_of_ble_eq_true rfl, Nat.le_of_ble_eq_true rfl⟩) rfl rfl rfl rfl (by decide) (by decide) (by decide) rfl (by decide) (Nat.le_of_ble_eq_true rfl) ⟨Nat.zero_le _, Nat.zero_le _⟩ dX2_lettersBy_59 ?_
    exact g_endI (hR _ _ dX2_lettersBy_62) rfl rfl
  · have hlti : i < 6 := lp_lt hi (by decide) c1
    refine g_aload_n F dX2_lettersBy_19 rfl 0 rfl ?_
    refine g_get F (.ref (a 3)) zX2_lettersBy_inX2 0 rfl rfl 3 (by decide) rfl zX2_lettersBy_f16 dX2_lettersBy_20 ?_
    refine g_bipush F (v := 6) dX2_lettersBy_23 (by decide) ?_
    refine g_iload_n F dX2_lettersBy_25 rfl 3 rfl ?_
    refine g_iadd F dX2_lettersBy_26 ?_
    refine g_as (nI (6 + i)) (nI_add 6 i) ?_
    refine g_dup2 F dX2_lettersBy_27 rfl rfl ?_
    refine g_iald F (j := 6 + i) 3 0 rfl rfl (by omega) (by decide) dX2_lettersBy_28 ?_
    refine g_iload_n F dX2_lettersBy_29 rfl 1 rfl ?_
    refine g_iand F dX2_lettersBy_30 ?_
    refine g_iast F (j := 6 + i) ([(a 0, .inr (2, [.ref (a 1), .int (nI ln), .ref (a 2), .ref (a 3), .ref (a 4), .int (nI ac), .int (nI nx), .ref (a 5), .ref (a 6), .ref (a 7), .ref (a 8), .int (nI se), .long sd, .ref (a 9), .ref (a 10)])), (a 1, .inl (cI, 60, .inl tx)), (a 2, .inl (cI, 79, .inl nw)), (a 3, .inl (cI, 79, .inl (upd g (6 + i) ((g (6 + i)) &&& v)))), (a 4, .inl (cI, 1106, .inl di)), (a 5, .inl (cI, 158, .inl ke)), (a 6, .inl (cZ, 2, .inl ik)), (a 7, .inl (cI, 6, .inl s1)), (a 8, .inl (cI, 6, .inl s2)), (a 9, .inl (cI, 64, .inl wo)), (a 10, .inl (cI, 79, .inl re))]) 3 0 rfl rfl (by omega) (by decide) dX2_lettersBy_31 rfl ?_
    refine g_iload_n F dX2_lettersBy_32 rfl 1 rfl ?_
    refine g_iload_n F dX2_lettersBy_33 rfl 3 rfl ?_
    refine g_callSn F (As := [.int v, .int (nI i)]) (st := []) (kX2_has l D cI cZ cQ v (nI i)) (va_cwS 2 F.2.2.2.2.1 gX2_lettersBy_X2_has rfl rfl rfl (by decide +kernel) ⟨Nat.le_of_ble_eq_true rfl, Nat.le_of_ble_eq_true rfl⟩) rfl rfl (Nat.le_of_ble_eq_true rfl) ⟨Nat.zero_le _, Nat.zero_le _⟩ dX2_lettersBy_34 ?_
    refine g_bne F 48 dX2_lettersBy_37 (by decide) (fun c2 => ?_) (fun c2 => ?_)
    · refine g_iinc F (lv' := [(0, .ref (a 0)), (1, .int v), (2, .int (nI n)), (3, .int (nI (i + 1)))]) (nI (i + 1)) dX2_lettersBy_48 3 rfl (nI_add i 1) (by decide) [1, 2, 3, 0] rfl ?_
      refine g_goto F 13 dX2_lettersBy_51 (by decide) ?_
      refine g_all (w0 := [(a 0, .inr (2, [.ref (a 1), .int (nI ln), .ref (a 2), .ref (a 3), .ref (a 4), .int (nI ac), .int (nI nx), .ref (a 5), .ref (a 6), .ref (a 7), .ref (a 8), .int (nI se), .long sd, .ref (a 9), .ref (a 10)])), (a 1, .inl (cI, 60, .inl tx)), (a 2, .inl (cI, 79, .inl nw)), (a 3, .inl (cI, 79, .inl (S_onlyStep v i g))), (a 4, .inl (cI, 1106, .inl di)), (a 5, .inl (cI, 158, .inl ke)), (a 6, .inl (cZ, 2, .inl ik)), (a 7, .inl (cI, 6, .inl s1)), (a 8, .inl (cI, 6, .inl s2)), (a 9, .inl (cI, 64, .inl wo)), (a 10, .inl (cI, 79, .inl re))]) (lv0 := [(0, .ref (a 0)), (1, .int v), (2, .int (nI n)), (3, .int (nI (i + 1)))]) (st0 := []) (by unfold S_onlyStep; rw [if_pos c2]) rfl rfl ?_
      exact ihi hlti trivial
    · refine g_aload_n F dX2_lettersBy_40 rfl 0 rfl ?_
      refine g_get F (.ref (a 3)) zX2_lettersBy_inX2 0 rfl rfl 3 (by decide) rfl zX2_lettersBy_f16 dX2_lettersBy_41 ?_
      refine g_iload_n F dX2_lettersBy_44 rfl 3 rfl ?_
      refine g_callS F (As := [.ref (a 3), .int (nI i)]) (st := []) ([(a 0, .inr (2, [.ref (a 1), .int (nI ln), .ref (a 2), .ref (a 3), .ref (a 4), .int (nI ac), .int (nI nx), .ref (a 5), .ref (a 6), .ref (a 7), .ref (a 8), .int (nI se), .long sd, .ref (a 9), .ref (a 10)])), (a 1, .inl (cI, 60, .inl tx)), (a 2, .inl (cI, 79, .inl nw)), (a 4, .inl (cI, 1106, .inl di)), (a 5, .inl (cI, 158, .inl ke)), (a 6, .inl (cZ, 2, .inl ik)), (a 7, .inl (cI, 6, .inl s1)), (a 8, .inl (cI, 6, .inl s2)), (a 9, .inl (cI, 64, .inl wo)), (a 10, .inl (cI, 79, .inl re))]) ([(a 0, .inr (2, [.ref (a 1), .int (nI ln), .ref (a 2), .ref (a 3), .ref (a 4), .int (nI ac), .int (nI nx), .ref (a 5), .ref (a 6), .ref (a 7), .ref (a 8), .int (nI se), .long sd, .ref (a 9), .ref (a 10)])), (a 1, .inl (cI, 60, .inl tx)), (a 2, .inl (cI, 79, .inl nw)), (a 3, .inl (cI, 79, .inl (S_goAway (upd g (6 + i) ((g (6 + i)) &&& v)) i))), (a 4, .inl (cI, 1106, .inl di)), (a 5, .inl (cI, 158, .inl ke)), (a 6, .inl (cZ, 2, .inl ik)), (a 7, .inl (cI, 6, .inl s1)), (a 8, .inl (cI, 6, .inl s2)), (a 9, .inl (cI, 64, .inl wo)), (a 10, .inl (cI, 79, .inl re))]) [3] [0, 1, 2, 4, 5, 6, 7, 8, 9, 10] [0, 1, 2, 10, 3, 4, 5, 6, 7, 8, 9] (kX2_goAway l D cI cZ cQ (a 3) (upd g (6 + i) ((g (6 + i)) &&& v)) i (by omega)) (va_cwS 2 F.2.2.2.2.1 gX2_lettersBy_X2_goAway rfl rfl rfl (by decide +kernel) ⟨Nat.le_of_ble_eq_true rfl, Nat.le_of_ble_eq_true rfl⟩) rfl rfl rfl rfl (by decide) (by decide) (by decide) rfl (by decide) (Nat.le_of_ble_eq_true rfl) ⟨Nat.zero_le _, Nat.zero_le _⟩ dX2_lettersBy_45 ?_
      refine g_iinc F (lv' := [(0, .ref (a 0)), (1, .int v), (2, .int (nI n)), (3, .int (nI (i + 1)))]) (nI (i + 1)) dX2_lettersBy_48 3 rfl (nI_add i 1) (by decide) [1, 2, 3, 0] rfl ?_
      refine g_goto F 13 dX2_lettersBy_51 (by decide) ?_
      refine g_all (w0 := [(a 0, .inr (2, [.ref (a 1), .int (nI ln), .ref (a 2), .ref (a 3), .ref (a 4), .int (nI ac), .int (nI nx), .ref (a 5), .ref (a 6), .ref (a 7), .ref (a 8), .int (nI se), .long sd, .ref (a 9), .ref (a 10)])), (a 1, .inl (cI, 60, .inl tx)), (a 2, .inl (cI, 79, .inl nw)), (a 3, .inl (cI, 79, .inl (S_onlyStep v i g))), (a 4, .inl (cI, 1106, .inl di)), (a 5, .inl (cI, 158, .inl ke)), (a 6, .inl (cZ, 2, .inl ik)), (a 7, .inl (cI, 6, .inl s1)), (a 8, .inl (cI, 6, .inl s2)), (a 9, .inl (cI, 64, .inl wo)), (a 10, .inl (cI, 79, .inl re))]) (lv0 := [(0, .ref (a 0)), (1, .int v), (2, .int (nI n)), (3, .int (nI (i + 1)))]) (st0 := []) (by unfold S_onlyStep; rw [c2]; rfl) rfl rfl ?_
      exact ihi hlti trivial
