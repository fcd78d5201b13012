theorem zX1_readHead_f33 : Cond.fieldLink RX1 33 (TX1 6).1 (TX1 6).2.1 (TX1 6).2.2.1 ∈ wsX1_readHead := by decide +kernel
theorem zX1_readHead_f37 : Cond.fieldLink RX1 37 (TX1 7).1 (TX1 7).2.1 (TX1 7).2.2.1 ∈ wsX1_readHead := by decide +kernel
theorem zX1_readHead_inX1 : ∀ w ∈ u_ws RX1 TX1 13, w ∈ wsX1_readHead := by decide +kernel
set_option maxHeartbeats 1000000 in
set_option maxRecDepth 100000 in
theorem kX1_readHead_b (l : Launch) (D : va_G) (cI cZ cQ : ClassId) (x bn bt : Nat → Nat) (pa sl : Nat → Option Nat) (ac : Nat) (kb : Int32) (tx : Row) (ln : Nat) (s1 s2 : Row) (se : Nat) (sd : Int64) (sb f g : Row) (Z : va_W) (hln : ln ≤ 60) (k : Nat) (hk6 : k ≤ 6) (hgood : ∀ j, j < k → S_ok tx ln j = true) (hbad : S_ok tx ln k = false) : Ct l D (gTy cI cZ cQ) yX1_readHead wsX1_readHead ({ frames := 3, cells := 0, slots := 0, locals := 70 }) [.ref (x 0)] (XW cI cQ x bn bt pa sl ac kb tx ln s1 s2 se sd sb f g Z) (some (.int (nI k))) (XW cI cQ x bn bt pa sl ac kb tx ln s1 s2 se sd sb f g Z) := by
  refine ct_ofI (cc := cX1_readHead) (nL := 3) (own := RX1) (by decide) rfl rfl ⟨rfl, rfl⟩ (Nat.le_of_ble_eq_true rfl) XW_same (fun p e s m below meth c A Q F hR => ?_)
  refine g_aw ([(x 0, .inr (1, [.ref (bn 0), .ref (bt 0), .ref (x 1), .int (nI ac), .ref (x 2), .int kb, .ref (x 3), .int (nI ln), .ref (x 4), .ref (x 5), .int (nI se), .long sd, .ref (x 6)])), (x 1, .inl (cQ, 14, .inr (.inr (.inr (.inr pa))))), (x 2, .inl (cQ, 2, .inr (.inr (.inr (.inr sl))))), (x 3, .inl (cI, 60, .inl tx)), (x 4, .inl (cI, 6, .inl s1)), (x 5, .inl (cI, 6, .inl s2)), (x 6, .inl (cI, 64, .inl sb))] ++ (CR cI bn f ++ (CR cI bt g ++ (Z)))) rfl ?_
  refine g_iconst F (v := 0) dX1_readHead_0 (by decide) ?_
  refine g_istore_n F (lv' := [(0, .ref (x 0)), (1, .int 0)]) dX1_readHead_1 rfl (by decide) [1, 0] rfl ?_
  refine g_all (w0 := [(x 0, .inr (1, [.ref (bn 0), .ref (bt 0), .ref (x 1), .int (nI ac), .ref (x 2), .int kb, .ref (x 3), .int (nI ln), .ref (x 4), .ref (x 5), .int (nI se), .long sd, .ref (x 6)])), (x 1, .inl (cQ, 14, .inr (.inr (.inr (.inr pa))))), (x 2, .inl (cQ, 2, .inr (.inr (.inr (.inr sl))))), (x 3, .inl (cI, 60, .inl tx)), (x 4, .inl (cI, 6, .inl s1)), (x 5, .inl (cI, 6, .inl s2)), (x 6, .inl (cI, 64, .inl sb))] ++ (CR cI bn f ++ (CR cI bt g ++ (Z)))) (lv0 := [(0, .ref (x 0)), (1, .int (nI 0))]) (st0 := []) rfl rfl rfl ?_
  refine g_for 7 (fun i => i ≤ k ∧ i ≤ ln) (fun i => [(x 0, .inr (1, [.ref (bn 0), .ref (bt 0), .ref (x 1), .int (nI ac), .ref (x 2), .int kb, .ref (x 3), .int (nI ln), .ref (x 4), .ref (x 5), .int (nI se), .long sd, .ref (x 6)])), (x 1, .inl (cQ, 14, .inr (.inr (.inr (.inr pa))))), (x 2, .inl (cQ, 2, .inr (.inr (.inr (.inr sl))))), (x 3, .inl (cI, 60, .inl tx)), (x 4, .inl (cI, 6, .inl s1)), (x 5, .inl (cI, 6, .inl s2)), (x 6, .inl (cI, 64, .inl sb))] ++ (CR cI bn f ++ (CR cI bt g ++ (Z)))) (fun i => [(0, .ref (x 0)), (1, .int (nI i))]) (fun i hi hIi ihi => ?_) 0 (Nat.zero_le _) ⟨Nat.zero_le _, Nat.zero_le _⟩
  refine g_iload_n F dX1_readHead_2 rfl 1 rfl ?_
  refine g_bipush F (v := 7) dX1_readHead_3 (by decide) ?_
  refine g_icmp_ge F 76 dX1_readHead_5 (by decide) (fun c1 => ?_) (fun c1 => ?_)
  · have hx_c1 : 7 = i := lp_ge hi (by decide) c1
    subst hx_c1
    exact absurd hIi.1 (by omega)
  · have hlti : i < 7 := lp_lt hi (by decide) c1
    refine g_iload_n F dX1_readHead_8 rfl 1 rfl ?_
    refine g_aload_n F dX1_readHead_9 rfl 0 rfl ?_
    refine g_get F (.int (nI ln)) zX1_readHead_inX1 0 rfl rfl 7 (by decide) rfl zX1_readHead_f37 dX1_readHead_10 ?_
    refine g_icmp_lt F 21 dX1_readHead_13 (by decide) (fun c2 => ?_) (fun c2 => ?_)
    · have hil : i < ln := (nI_ltI (by omega) (by omega)).mp c2
      refine g_iload_n F dX1_readHead_21 rfl 1 rfl ?_
      have hJ4 : Go p l e ({ frames := 3, cells := 0, slots := 0, locals := 70 }) s m (List.toArray [.ref (x 0)]) below meth c Q D A 3 0 0 ([(x 0, .inr (1, [.ref (bn 0), .ref (bt 0), .ref (x 1), .int (nI ac), .ref (x 2), .int kb, .ref (x 3), .int (nI ln), .ref (x 4), .ref (x 5), .int (nI se), .long sd, .ref (x 6)])), (x 1, .inl (cQ, 14, .inr (.inr (.inr (.inr pa))))), (x 2, .inl (cQ, 2, .inr (.inr (.inr (.inr sl))))), (x 3, .inl (cI, 60, .inl tx)), (x 4, .inl (cI, 6, .inl s1)), (x 5, .inl (cI, 6, .inl s2)), (x 6, .inl (cI, 64, .inl sb))] ++ (CR cI bn f ++ (CR cI bt g ++ (Z)))) 63 [(0, .ref (x 0)), (1, .int (nI i))] [.int (bI (S_hk tx i))] := by
        refine g_istore_n F (lv' := [(0, .ref (x 0)), (1, .int (nI i)), (2, .int (bI (S_hk tx i)))]) dX1_readHead_63 rfl (by decide) [1, 2, 0] rfl ?_
        refine g_iload_n F dX1_readHead_64 rfl 2 rfl ?_
        refine g_bne F 70 dX1_readHead_65 (by decide) (fun c5 => ?_) (fun c5 => ?_)
        · have hok : S_hk tx i = true := c5
          have hik : i + 1 ≤ k := Nat.lt_of_le_of_ne hIi.1 fun q => absurd hbad (by rw [← q, ok_hk hil, hok]; decide)
          refine g_iinc F (lv' := [(0, .ref (x 0)), (1, .int (nI (i + 1))), (2, .int (bI (S_hk tx i)))]) (nI (i + 1)) dX1_readHead_70 1 rfl (nI_add i 1) (by decide) [1, 0, 2] rfl ?_
          refine g_goto F 2 dX1_readHead_73 (by decide) ?_
          refine g_lvs (lv' := [(0, .ref (x 0)), (1, .int (nI (i + 1)))]) [0, 1] rfl ?_
          refine g_all (w0 := [(x 0, .inr (1, [.ref (bn 0), .ref (bt 0), .ref (x 1), .int (nI ac), .ref (x 2), .int kb, .ref (x 3), .int (nI ln), .ref (x 4), .ref (x 5), .int (nI se), .long sd, .ref (x 6)])), (x 1, .inl (cQ, 14, .inr (.inr (.inr (.inr pa))))), (x 2, .inl (cQ, 2, .inr (.inr (.inr (.inr sl))))), (x 3, .inl (cI, 60, .inl tx)), (x 4, .inl (cI, 6, .inl s1)), (x 5, .inl (cI, 6, .inl s2)), (x 6, .inl (cI, 64, .inl sb))] ++ (CR cI bn f ++ (CR cI bt g ++ (Z)))) (lv0 := [(0, .ref (x 0)), (1, .int (nI (i + 1)))]) (st0 := []) rfl rfl rfl ?_
          exact ihi hlti ⟨hik, hil⟩
        · have hki : k ≤ i := Nat.le_of_not_lt fun q => absurd (ok_lt (hgood i q)).2 (by rw [c5]; decide)
          refine g_iload_n F dX1_readHead_68 rfl 1 rfl ?_
          exact g_endI (hR _ _ dX1_readHead_69) (congrArg nI (by omega)) rfl
      refine g_if_ne F 44 dX1_readHead_22 (by decide) (fun c3 => ?_) (fun c3 => ?_)
      · refine g_aload_n F dX1_readHead_44 rfl 0 rfl ?_
        refine g_get F (.ref (x 3)) zX1_readHead_inX1 0 rfl rfl 6 (by decide) rfl zX1_readHead_f33 dX1_readHead_45 ?_
        refine g_iload_n F dX1_readHead_48 rfl 1 rfl ?_
        refine g_iald F (j := i) 3 0 rfl rfl (by omega) (by decide) dX1_readHead_49 ?_
        refine g_iload_n F dX1_readHead_50 rfl 1 rfl ?_
        refine g_iconst F (v := 4) dX1_readHead_51 (by decide) ?_
        have hJ7 : Go p l e ({ frames := 3, cells := 0, slots := 0, locals := 70 }) s m (List.toArray [.ref (x 0)]) below meth c Q D A 3 0 0 ([(x 0, .inr (1, [.ref (bn 0), .ref (bt 0), .ref (x 1), .int (nI ac), .ref (x 2), .int kb, .ref (x 3), .int (nI ln), .ref (x 4), .ref (x 5), .int (nI se), .long sd, .ref (x 6)])), (x 1, .inl (cQ, 14, .inr (.inr (.inr (.inr pa))))), (x 2, .inl (cQ, 2, .inr (.inr (.inr (.inr sl))))), (x 3, .inl (cI, 60, .inl tx)), (x 4, .inl (cI, 6, .inl s1)), (x 5, .inl (cI, 6, .inl s2)), (x 6, .inl (cI, 64, .inl sb))] ++ (CR cI bn f ++ (CR cI bt g ++ (Z)))) 60 [(0, .ref (x 0)), (1, .int (nI i))] [.int (if i < 4 then (1 : Int32) else 0), .int (tx i)] := by
          refine g_callSn F (As := [.int (tx i), .int (if i < 4 then (1 : Int32) else 0)]) (st := []) (kX1_isFigure l D cI cZ cQ (tx i) (if i < 4 then (1 : Int32) else 0)) (va_cwS 2 F.2.2.2.2.1 gX1_readHead_X1_isFigure rfl rfl rfl (by decide +kernel) ⟨Nat.le_of_ble_eq_true rfl, Nat.le_of_ble_eq_true rfl⟩) rfl rfl (Nat.le_of_ble_eq_true rfl) ⟨Nat.zero_le _, Nat.zero_le _⟩ dX1_readHead_60 ?_
          refine g_as (bI (S_hk tx i)) (by unfold S_hk; rw [if_neg c3]) ?_
          exact hJ4
        refine g_icmp_ge F 59 dX1_readHead_52 (by decide) (fun c6 => ?_) (fun c6 => ?_)
        · refine g_iconst F (v := 0) dX1_readHead_59 (by decide) ?_
          refine g_as (if i < 4 then (1 : Int32) else 0) (by rw [if_neg (by have := (nI_leI (a := 4) (b := i) (by decide) (by omega)).mp c6; omega)]) ?_
          exact hJ7
        · refine g_iconst F (v := 1) dX1_readHead_55 (by decide) ?_
          refine g_goto F 60 dX1_readHead_56 (by decide) ?_
          refine g_as (if i < 4 then (1 : Int32) else 0) (by rw [if_pos (nlt_of (b := 4) (by omega) (by decide) c6)]) ?_
          exact hJ7
      · refine g_aload_n F dX1_readHead_25 rfl 0 rfl ?_
        refine g_get F (.ref (x 3)) zX1_readHead_inX1 0 rfl rfl 6 (by decide) rfl zX1_readHead_f33 dX1_readHead_26 ?_
        refine g_iconst F (v := 0) dX1_readHead_29 (by decide) ?_
        refine g_as (nI 0) rfl ?_
        refine g_iald F (j := 0) 3 0 rfl rfl (by omega) (by decide) dX1_readHead_30 ?_
        refine g_bipush F (v := 77) dX1_readHead_31 (by decide) ?_
        refine g_icmp_ne F 40 dX1_readHead_33 (by decide) (fun c8 => ?_) (fun c8 => ?_)
        · refine g_iconst F (v := 0) dX1_readHead_40 (by decide) ?_
          refine g_goto F 63 dX1_readHead_41 (by decide) ?_
          refine g_as (bI (S_hk tx i)) (by unfold S_hk; rw [if_pos c3, if_neg c8]; rfl) ?_
          exact hJ4
        · refine g_iconst F (v := 1) dX1_readHead_36 (by decide) ?_
          refine g_goto F 63 dX1_readHead_37 (by decide) ?_
          refine g_as (bI (S_hk tx i)) (by unfold S_hk; rw [if_pos c3, if_pos c8]; rfl) ?_
          exact hJ4
    · have hle : ln ≤ i := Nat.le_of_not_lt fun q => c2 (nI_lt q (by omega))
      have hki : k ≤ i := Nat.le_of_not_lt fun q => absurd (hgood i q) (by rw [ok_no hle]; decide)
      refine g_aload_n F dX1_readHead_16 rfl 0 rfl ?_
      refine g_get F (.int (nI ln)) zX1_readHead_inX1 0 rfl rfl 7 (by decide) rfl zX1_readHead_f37 dX1_readHead_17 ?_
      exact g_endI (hR _ _ dX1_readHead_20) (congrArg nI (by omega)) rfl
theorem zX1_readHead_f16 : Cond.fieldLink RX1 16 (TX1 1).1 (TX1 1).2.1 (TX1 1).2.2.1 ∈ wsX1_readHead := by decide +kernel
theorem zX1_readHead_f67 : Cond.fieldLink RX1 67 (TX0 0).1 (TX0 0).2.1 (TX0 0).2.2.1 ∈ wsX1_readHead := by decide +kernel
theorem zX1_readHead_f70 : Cond.fieldLink RX1 70 (TX0 1).1 (TX0 1).2.1 (TX0 1).2.2.1 ∈ wsX1_readHead := by decide +kernel
theorem zX1_readHead_f73 : Cond.fieldLink RX1 73 (TX0 2).1 (TX0 2).2.1 (TX0 2).2.2.1 ∈ wsX1_readHead := by decide +kernel
theorem zX1_readHead_f76 : Cond.fieldLink RX1 76 (TX0 4).1 (TX0 4).2.1 (TX0 4).2.2.1 ∈ wsX1_readHead := by decide +kernel
theorem zX1_readHead_inX0 : ∀ w ∈ u_ws RX0 TX0 14, w ∈ wsX1_readHead := by decide +kernel
set_option maxHeartbeats 1000000 in
set_option maxRecDepth 100000 in
theorem kX1_readHead_c (l : Launch) (D : va_G) (cI cZ cQ : ClassId) (x bn bt : Nat → Nat) (pa sl : Nat → Option Nat) (ac : Nat) (kb : Int32) (tx : Row) (ln : Nat) (s1 s2 : Row) (se : Nat) (sd : Int64) (sb f g : Row) (Z : va_W) (hln : ln ≤ 60) (hall : ∀ j, j < 7 → S_ok tx ln j = true) : Ct l D (gTy cI cZ cQ) yX1_readHead wsX1_readHead ({ frames := 3, cells := 0, slots := 0, locals := 70 }) [.ref (x 0)] (XW cI cQ x bn bt pa sl ac kb tx ln s1 s2 se sd sb f g Z) (some (.int (-9))) (XW cI cQ x bn bt pa sl ac kb tx ln s1 s2 se sd sb f (S_rh tx g) Z) := by
  refine ct_ofI (cc := cX1_readHead) (nL := 3) (own := RX1) (by decide) rfl rfl ⟨rfl, rfl⟩ (Nat.le_of_ble_eq_true rfl) XW_same (fun p e s m below meth c A Q F hR => ?_)
  refine g_aw ([(x 0, .inr (1, [.ref (bn 0), .ref (bt 0), .ref (x 1), .int (nI ac), .ref (x 2), .int kb, .ref (x 3), .int (nI ln), .ref (x 4), .ref (x 5), .int (nI se), .long sd, .ref (x 6)])), (x 1, .inl (cQ, 14, .inr (.inr (.inr (.inr pa))))), (x 2, .inl (cQ, 2, .inr (.inr (.inr (.inr sl))))), (x 3, .inl (cI, 60, .inl tx)), (x 4, .inl (cI, 6, .inl s1)), (x 5, .inl (cI, 6, .inl s2)), (x 6, .inl (cI, 64, .inl sb))] ++ (CR cI bn f ++ (CR cI bt g ++ (Z)))) rfl ?_
  refine g_iconst F (v := 0) dX1_readHead_0 (by decide) ?_
  refine g_istore_n F (lv' := [(0, .ref (x 0)), (1, .int 0)]) dX1_readHead_1 rfl (by decide) [1, 0] rfl ?_
  refine g_all (w0 := [(x 0, .inr (1, [.ref (bn 0), .ref (bt 0), .ref (x 1), .int (nI ac), .ref (x 2), .int kb, .ref (x 3), .int (nI ln), .ref (x 4), .ref (x 5), .int (nI se), .long sd, .ref (x 6)])), (x 1, .inl (cQ, 14, .inr (.inr (.inr (.inr pa))))), (x 2, .inl (cQ, 2, .inr (.inr (.inr (.inr sl))))), (x 3, .inl (cI, 60, .inl tx)), (x 4, .inl (cI, 6, .inl s1)), (x 5, .inl (cI, 6, .inl s2)), (x 6, .inl (cI, 64, .inl sb))] ++ (CR cI bn f ++ (CR cI bt g ++ (Z)))) (lv0 := [(0, .ref (x 0)), (1, .int (nI 0))]) (st0 := []) rfl rfl rfl ?_
  refine g_for 7 (fun i => True) (fun i => [(x 0, .inr (1, [.ref (bn 0), .ref (bt 0), .ref (x 1), .int (nI ac), .ref (x 2), .int kb, .ref (x 3), .int (nI ln), .ref (x 4), .ref (x 5), .int (nI se), .long sd, .ref (x 6)])), (x 1, .inl (cQ, 14, .inr (.inr (.inr (.inr pa))))), (x 2, .inl (cQ, 2, .inr (.inr (.inr (.inr sl))))), (x 3, .inl (cI, 60, .inl tx)), (x 4, .inl (cI, 6, .inl s1)), (x 5, .inl (cI, 6, .inl s2)), (x 6, .inl (cI, 64, .inl sb))] ++ (CR cI bn f ++ (CR cI bt g ++ (Z)))) (fun i => [(0, .ref (x 0)), (1, .int (nI i))]) (fun i hi hIi ihi => ?_) 0 (Nat.zero_le _) trivial
  refine g_iload_n F dX1_readHead_2 rfl 1 rfl ?_
  refine g_bipush F (v := 7) dX1_readHead_3 (by decide) ?_
  refine g_icmp_ge F 76 dX1_readHead_5 (by decide) (fun c1 => ?_) (fun c1 => ?_)
  · have hx_c1 : 7 = i := lp_ge hi (by decide) c1
    subst hx_c1
    refine g_aload_n F dX1_readHead_76 rfl 0 rfl ?_
    refine g_get F (.ref (bt 0)) zX1_readHead_inX1 0 rfl rfl 1 (by decide) rfl zX1_readHead_f16 dX1_readHead_77 ?_
    refine g_segV F (As := []) (st := []) ([(x 0, .inr (1, [.ref (bn 0), .ref (bt 0), .ref (x 1), .int (nI ac), .ref (x 2), .int kb, .ref (x 3), .int (nI ln), .ref (x 4), .ref (x 5), .int (nI se), .long sd, .ref (x 6)])), (x 1, .inl (cQ, 14, .inr (.inr (.inr (.inr pa))))), (x 2, .inl (cQ, 2, .inr (.inr (.inr (.inr sl))))), (x 3, .inl (cI, 60, .inl tx)), (x 4, .inl (cI, 6, .inl s1)), (x 5, .inl (cI, 6, .inl s2)), (x 6, .inl (cI, 64, .inl sb))] ++ (CR cI bn f)) (Z) ([(x 0, .inr (1, [.ref (bn 0), .ref (bt 0), .ref (x 1), .int (nI ac), .ref (x 2), .int kb, .ref (x 3), .int (nI ln), .ref (x 4), .ref (x 5), .int (nI se), .long sd, .ref (x 6)])), (x 1, .inl (cQ, 14, .inr (.inr (.inr (.inr pa))))), (x 2, .inl (cQ, 2, .inr (.inr (.inr (.inr sl))))), (x 3, .inl (cI, 60, .inl tx)), (x 4, .inl (cI, 6, .inl s1)), (x 5, .inl (cI, 6, .inl s2)), (x 6, .inl (cI, 64, .inl sb))] ++ (CR cI bn f ++ (CR cI bt (S_restart g) ++ (Z)))) (kX0_restart l D cI cZ cQ bt g  ) 0 rfl rfl (cwV 0 F.2.2.2.2.1 gX1_readHead_X0_restart rfl rfl rfl (by decide +kernel) ⟨Nat.le_of_ble_eq_true rfl, Nat.le_of_ble_eq_true rfl⟩) rfl rfl rfl rfl (Nat.le_of_ble_eq_true rfl) ⟨Nat.zero_le _, Nat.zero_le _⟩ dX1_readHead_80 ?_
    refine g_aload_n F dX1_readHead_83 rfl 0 rfl ?_
    refine g_get F (.ref (bt 0)) zX1_readHead_inX1 0 rfl rfl 1 (by decide) rfl zX1_readHead_f16 dX1_readHead_84 ?_
    refine g_aload_n F dX1_readHead_87 rfl 0 rfl ?_
    refine g_get F (.ref (x 3)) zX1_readHead_inX1 0 rfl rfl 6 (by decide) rfl zX1_readHead_f33 dX1_readHead_88 ?_
    refine g_iconst F (v := 1) dX1_readHead_91 (by decide) ?_
    refine g_as (nI 1) rfl ?_
    refine g_iald F (j := 1) 3 0 rfl rfl (by omega) (by decide) dX1_readHead_92 ?_
    refine g_bipush F (v := 48) dX1_readHead_93 (by decide) ?_
    refine g_isub F dX1_readHead_95 ?_
    refine g_xF66 F ([(x 0, .inr (1, [.ref (bn 0), .ref (bt 0), .ref (x 1), .int (nI ac), .ref (x 2), .int kb, .ref (x 3), .int (nI ln), .ref (x 4), .ref (x 5), .int (nI se), .long sd, .ref (x 6)])), (x 1, .inl (cQ, 14, .inr (.inr (.inr (.inr pa))))), (x 2, .inl (cQ, 2, .inr (.inr (.inr (.inr sl))))), (x 3, .inl (cI, 60, .inl tx)), (x 4, .inl (cI, 6, .inl s1)), (x 5, .inl (cI, 6, .inl s2)), (x 6, .inl (cI, 64, .inl sb))] ++ (CR cI bn f)) (Z) ([(x 0, .inr (1, [.ref (bn 0), .ref (bt 0), .ref (x 1), .int (nI ac), .ref (x 2), .int kb, .ref (x 3), .int (nI ln), .ref (x 4), .ref (x 5), .int (nI se), .long sd, .ref (x 6)])), (x 1, .inl (cQ, 14, .inr (.inr (.inr (.inr pa))))), (x 2, .inl (cQ, 2, .inr (.inr (.inr (.inr sl))))), (x 3, .inl (cI, 60, .inl tx)), (x 4, .inl (cI, 6, .inl s1)), (x 5, .inl (cI, 6, .inl s2)), (x 6, .inl (cI, 64, .inl sb))] ++ (CR cI bn f ++ (CR cI bt (upd (S_restart g) 66 ((tx 1) - 48)) ++ (Z)))) zX1_readHead_inX0 zX1_readHead_f67 dX1_readHead_96 rfl rfl ?_
    refine g_aload_n F dX1_readHead_99 rfl 0 rfl ?_
    refine g_get F (.ref (bt 0)) zX1_readHead_inX1 0 rfl rfl 1 (by decide) rfl zX1_readHead_f16 dX1_readHead_100 ?_
    refine g_aload_n F dX1_readHead_103 rfl 0 rfl ?_
    refine g_get F (.ref (x 3)) zX1_readHead_inX1 0 rfl rfl 6 (by decide) rfl zX1_readHead_f33 dX1_readHead_104 ?_
    refine g_iconst F (v := 2) dX1_readHead_107 (by decide) ?_
    refine g_as (nI 2) rfl ?_
    refine g_iald F (j := 2) 3 0 rfl rfl (by omega) (by decide) dX1_readHead_108 ?_
    refine g_bipush F (v := 48) dX1_readHead_109 (by decide) ?_
    refine g_isub F dX1_readHead_111 ?_
    refine g_xF67 F ([(x 0, .inr (1, [.ref (bn 0), .ref (bt 0), .ref (x 1), .int (nI ac), .ref (x 2), .int kb, .ref (x 3), .int (nI ln), .ref (x 4), .ref (x 5), .int (nI se), .long sd, .ref (x 6)])), (x 1, .inl (cQ, 14, .inr (.inr (.inr (.inr pa))))), (x 2, .inl (cQ, 2, .inr (.inr (.inr (.inr sl))))), (x 3, .inl (cI, 60, .inl tx)), (x 4, .inl (cI, 6, .inl s1)), (x 5, .inl (cI, 6, .inl s2)), (x 6, .inl (cI, 64, .inl sb))] ++ (CR cI bn f)) (Z) ([(x 0, .inr (1, [.ref (bn 0), .ref (bt 0), .ref (x 1), .int (nI ac), .ref (x 2), .int kb, .ref (x 3), .int (nI ln), .ref (x 4), .ref (x 5), .int (nI se), .long sd, .ref (x 6)])), (x 1, .inl (cQ, 14, .inr (.inr (.inr (.inr pa))))), (x 2, .inl (cQ, 2, .inr (.inr (.inr (.inr sl))))), (x 3, .inl (cI, 60, .inl tx)), (x 4, .inl (cI, 6, .inl s1)), (x 5, .inl (cI, 6, .inl s2)), (x 6, .inl (cI, 64, .inl sb))] ++ (CR cI bn f ++ (CR cI bt (upd (upd (S_restart g) 66 ((tx 1) - 48)) 67 ((tx 2) - 48)) ++ (Z)))) zX1_readHead_inX0 zX1_readHead_f70 dX1_readHead_112 rfl rfl ?_
    refine g_aload_n F dX1_readHead_115 rfl 0 rfl ?_
    refine g_get F (.ref (bt 0)) zX1_readHead_inX1 0 rfl rfl 1 (by decide) rfl zX1_readHead_f16 dX1_readHead_116 ?_
    refine g_aload_n F dX1_readHead_119 rfl 0 rfl ?_
    refine g_get F (.ref (x 3)) zX1_readHead_inX1 0 rfl rfl 6 (by decide) rfl zX1_readHead_f33 dX1_readHead_120 ?_
    refine g_iconst F (v := 3) dX1_readHead_123 (by decide) ?_
    refine g_as (nI 3) rfl ?_
    refine g_iald F (j := 3) 3 0 rfl rfl (by omega) (by decide) dX1_readHead_124 ?_
    refine g_bipush F (v := 48) dX1_readHead_125 (by decide) ?_
    refine g_isub F dX1_readHead_127 ?_
    refine g_xF68 F ([(x 0, .inr (1, [.ref (bn 0), .ref (bt 0), .ref (x 1), .int (nI ac), .ref (x 2), .int kb, .ref (x 3), .int (nI ln), .ref (x 4), .ref (x 5), .int (nI se), .long sd, .ref (x 6)])), (x 1, .inl (cQ, 14, .inr (.inr (.inr (.inr pa))))), (x 2, .inl (cQ, 2, .inr (.inr (.inr (.inr sl))))), (x 3, .inl (cI, 60, .inl tx)), (x 4, .inl (cI, 6, .inl s1)), (x 5, .inl (cI, 6, .inl s2)), (x 6, .inl (cI, 64, .inl sb))] ++ (CR cI bn f)) (Z) ([(x 0, .inr (1, [.ref (bn 0), .ref (bt 0), .ref (x 1), .int (nI ac), .ref (x 2), .int kb, .ref (x 3), .int (nI ln), .ref (x 4), .ref (x 5), .int (nI se), .long sd, .ref (x 6)])), (x 1, .inl (cQ, 14, .inr (.inr (.inr (.inr pa))))), (x 2, .inl (cQ, 2, .inr (.inr (.inr (.inr sl))))), (x 3, .inl (cI, 60, .inl tx)), (x 4, .inl (cI, 6, .inl s1)), (x 5, .inl (cI, 6, .inl s2)), (x 6, .inl (cI, 64, .inl sb))] ++ (CR cI bn f ++ (CR cI bt (upd (upd (upd (S_restart g) 66 ((tx 1) - 48)) 67 ((tx 2) - 48)) 68 ((tx 3) - 48)) ++ (Z)))) zX1_readHead_inX0 zX1_readHead_f73 dX1_readHead_128 rfl rfl ?_
    refine g_aload_n F dX1_readHead_131 rfl 0 rfl ?_
    refine g_get F (.ref (bt 0)) zX1_readHead_inX1 0 rfl rfl 1 (by decide) rfl zX1_readHead_f16 dX1_readHead_132 ?_
    refine g_aload_n F dX1_readHead_135 rfl 0 rfl ?_
    refine g_get F (.ref (x 3)) zX1_readHead_inX1 0 rfl rfl 6 (by decide) rfl zX1_readHead_f33 dX1_readHead_136 ?_
    refine g_iconst F (v := 4) dX1_readHead_139 (by decide) ?_
    refine g_as (nI 4) rfl ?_
    refine g_iald F (j := 4) 3 0 rfl rfl (by omega) (by decide) dX1_readHead_140 ?_
    refine g_bipush F (v := 48) dX1_readHead_141 (by decide) ?_
    refine g_isub F dX1_readHead_143 ?_
    refine g_bipush F (v := 100) dX1_readHead_144 (by decide) ?_
    refine g_imul F dX1_readHead_146 ?_
    refine g_aload_n F dX1_readHead_147 rfl 0 rfl ?_
    refine g_get F (.ref (x 3)) zX1_readHead_inX1 0 rfl rfl 6 (by decide) rfl zX1_readHead_f33 dX1_readHead_148 ?_
    refine g_iconst F (v := 5) dX1_readHead_151 (by decide) ?_
    refine g_as (nI 5) rfl ?_
    refine g_iald F (j := 5) 3 0 rfl rfl (by omega) (by decide) dX1_readHead_152 ?_
    refine g_bipush F (v := 48) dX1_readHead_153 (by decide) ?_
    refine g_isub F dX1_readHead_155 ?_
    refine g_bipush F (v := 10) dX1_readHead_156 (by decide) ?_
    refine g_imul F dX1_readHead_158 ?_
    refine g_iadd F dX1_readHead_159 ?_
    refine g_aload_n F dX1_readHead_160 rfl 0 rfl ?_
    refine g_get F (.ref (x 3)) zX1_readHead_inX1 0 rfl rfl 6 (by decide) rfl zX1_readHead_f33 dX1_readHead_161 ?_
    refine g_bipush F (v := 6) dX1_readHead_164 (by decide) ?_
    refine g_as (nI 6) rfl ?_
    refine g_iald F (j := 6) 3 0 rfl rfl (by omega) (by decide) dX1_readHead_166 ?_
    refine g_bipush F (v := 48) dX1_readHead_167 (by decide) ?_
    refine g_isub F dX1_readHead_169 ?_
    refine g_iadd F dX1_readHead_170 ?_
    refine g_xF69 F ([(x 0, .inr (1, [.ref (bn 0), .ref (bt 0), .ref (x 1), .int (nI ac), .ref (x 2), .int kb, .ref (x 3), .int (nI ln), .ref (x 4), .ref (x 5), .int (nI se), .long sd, .ref (x 6)])), (x 1, .inl (cQ, 14, .inr (.inr (.inr (.inr pa))))), (x 2, .inl (cQ, 2, .inr (.inr (.inr (.inr sl))))), (x 3, .inl (cI, 60, .inl tx)), (x 4, .inl (cI, 6, .inl s1)), (x 5, .inl (cI, 6, .inl s2)), (x 6, .inl (cI, 64, .inl sb))] ++ (CR cI bn f)) (Z) ([(x 0, .inr (1, [.ref (bn 0), .ref (bt 0), .ref (x 1), .int (nI ac), .ref (x 2), .int kb, .ref (x 3), .int (nI ln), .ref (x 4), .ref (x 5), .int (nI se), .long sd, .ref (x 6)])), (x 1, .inl (cQ, 14, .inr (.inr (.inr (.inr pa))))), (x 2, .inl (cQ, 2, .inr (.inr (.inr (.inr sl))))), (x 3, .inl (cI, 60, .inl tx)), (x 4, .inl (cI, 6, .inl s1)), (x 5, .inl (cI, 6, .inl s2)), (x 6, .inl (cI, 64, .inl sb))] ++ (CR cI bn f ++ (CR cI bt (upd (upd (upd (upd (S_restart g) 66 ((tx 1) - 48)) 67 ((tx 2) - 48)) 68 ((tx 3) - 48)) 69 (((((tx 4) - 48) * 100) + (((tx 5) - 48) * 10)) + ((tx 6) - 48))) ++ (Z)))) zX1_readHead_inX0 zX1_readHead_f76 dX1_readHead_171 rfl rfl ?_
    refine g_bipush F (v := (-9)) dX1_readHead_174 (by decide) ?_
    exact g_endI (hR _ _ dX1_readHead_176) rfl rfl
  · have hlti : i < 7 := lp_lt hi (by decide) c1
    refine g_iload_n F dX1_readHead_8 rfl 1 rfl ?_
    refine g_aload_n F dX1_readHead_9 rfl 0 rfl ?_
    refine g_get F (.int (nI ln)) zX1_readHead_inX1 0 rfl rfl 7 (by decide) rfl zX1_readHead_f37 dX1_readHead_10 ?_
    refine g_icmp_lt F 21 dX1_readHead_13 (by decide) (fun c2 => ?_) (fun c2 => ?_)
    · have hil : i < ln := (nI_ltI (by omega) (by omega)).mp c2
      refine g_iload_n F dX1_readHead_21 rfl 1 rfl ?_
      have hJ4 : Go p l e ({ frames := 3, cells := 0, slots := 0, locals := 70 }) s m (List.toArray [.ref (x 0)]) below meth c Q D A 3 0 0 ([(x 0, .inr (1, [.ref (bn 0), .ref (bt 0), .ref (x 1), .int (nI ac), .ref (x 2), .int kb, .ref (x 3), .int (nI ln), .ref (x 4), .ref (x 5), .int (nI se), .long sd, .ref (x 6)])), (x 1, .inl (cQ, 14, .inr (.inr (.inr (.inr pa))))), (x 2, .inl (cQ, 2, .inr (.inr (.inr (.inr sl))))), (x 3, .inl (cI, 60, .inl tx)), (x 4, .inl (cI, 6, .inl s1)), (x 5, .inl (cI, 6, .inl s2)), (x 6, .inl (cI, 64, .inl sb))] ++ (CR cI bn f ++ (CR cI bt g ++ (Z)))) 63 [(0, .ref (x 0)), (1, .int (nI i))] [.int (bI (S_hk tx i))] := by
        refine g_istore_n F (lv' := [(0, .ref (x 0)), (1, .int (nI i)), (2, .int (bI (S_hk tx i)))]) dX1_readHead_63 rfl (by decide) [1, 2, 0] rfl ?_
        refine g_iload_n F dX1_readHead_64 rfl 2 rfl ?_
        refine g_bne F 70 dX1_readHead_65 (by decide) (fun c5 => ?_) (fun c5 => ?_)
        · have hok : S_hk tx i = true := c5
          refine g_iinc F (lv' := [(0, .ref (x 0)), (1, .int (nI (i + 1))), (2, .int (bI (S_hk tx i)))]) (nI (i + 1)) dX1_readHead_70 1 rfl (nI_add i 1) (by decide) [1, 0, 2] rfl ?_
          refine g_goto F 2 dX1_readHead_73 (by decide) ?_
          refine g_lvs (lv' := [(0, .ref (x 0)), (1, .int (nI (i + 1)))]) [0, 1] rfl ?_
          refine g_all (w0 := [(x 0, .inr (1, [.ref (bn 0), .ref (bt 0), .ref (x 1), .int (nI ac), .ref (x 2), .int kb, .ref (x 3), .int (nI ln), .ref (x 4), .ref (x 5), .int (nI se), .long sd, .ref (x 6)])), (x 1, .inl (cQ, 14, .inr (.inr (.inr (.inr pa))))), (x 2, .inl (cQ, 2, .inr (.inr (.inr (.inr sl))))), (x 3, .inl (cI, 60, .inl tx)), (x 4, .inl (cI, 6, .inl s1)), (x 5, .inl (cI, 6, .inl s2)), (x 6, .inl (cI, 64, .inl sb))] ++ (CR cI bn f ++ (CR cI bt g ++ (Z)))) (lv0 := [(0, .ref (x 0)), (1, .int (nI (i + 1)))]) (st0 := []) rfl rfl rfl ?_
          exact ihi hlti trivial
        · exact absurd (ok_lt (hall i (by omega))).2 (by rw [c5]; decide)
      refine g_if_ne F 44 dX1_readHead_22 (by decide) (fun c3 => ?_) (fun c3 => ?_)
      · refine g_aload_n F dX1_readHead_44 rfl 0 rfl ?_
        refine g_get F (.ref (x 3)) zX1_readHead_inX1 0 rfl rfl 6 (by decide) rfl zX1_readHead_f33 dX1_readHead_45 ?_
        refine g_iload_n F dX1_readHead_48 rfl 1 rfl ?_
        refine g_iald F (j := i) 3 0 rfl rfl (by omega) (by decide) dX1_readHead_49 ?_
        refine g_iload_n F dX1_readHead_50 rfl 1 rfl ?_
        refine g_iconst F (v := 4) dX1_readHead_51 (by decide) ?_
        have hJ7 : Go p l e ({ frames := 3, cells := 0, slots := 0, locals := 70 }) s m (List.toArray [.ref (x 0)]) below meth c Q D A 3 0 0 ([(x 0, .inr (1, [.ref (bn 0), .ref (bt 0), .ref (x 1), .int (nI ac), .ref (x 2), .int kb, .ref (x 3), .int (nI ln), .ref (x 4), .ref (x 5), .int (nI se), .long sd, .ref (x 6)])), (x 1, .inl (cQ, 14, .inr (.inr (.inr (.inr pa))))), (x 2, .inl (cQ, 2, .inr (.inr (.inr (.inr sl))))), (x 3, .inl (cI, 60, .inl tx)), (x 4, .inl (cI, 6, .inl s1)), (x 5, .inl (cI, 6, .inl s2)), (x 6, .inl (cI, 64, .inl sb))] ++ (CR cI bn f ++ (CR cI bt g ++ (Z)))) 60 [(0, .ref (x 0)), (1, .int (nI i))] [.int (if i < 4 then (1 : Int32) else 0), .int (tx i)] := by
          refine g_callSn F (As := [.int (tx i), .int (if i < 4 then (1 : Int32) else 0)]) (st := []) (kX1_isFigure l D cI cZ cQ (tx i) (if i < 4 then (1 : Int32) else 0)) (va_cwS 2 F.2.2.2.2.1 gX1_readHead_X1_isFigure rfl rfl rfl (by decide +kernel) ⟨Nat.le_of_ble_eq_true rfl, Nat.le_of_ble_eq_true rfl⟩) rfl rfl (Nat.le_of_ble_eq_true rfl) ⟨Nat.zero_le _, Nat.zero_le _⟩ dX1_readHead_60 ?_
          refine g_as (bI (S_hk tx i)) (by unfold S_hk; rw [if_neg c3]) ?_
          exact hJ4
        refine g_icmp_ge F 59 dX1_readHead_52 (by decide) (fun c6 => ?_) (fun c6 => ?_)
        · refine g_iconst F (v := 0) dX1_readHead_59 (by decide) ?_
          refine g_as (if i < 4 then (1 : Int32) else 0) (by rw [if_neg (by have := (nI_leI (a := 4) (b := i) (by decide) (by omega)).mp c6; omega)]) ?_
          exact hJ7
        · refine g_iconst F (v := 1) dX1_readHead_55 (by decide) ?_
          refine g_goto F 60 dX1_readHead_56 (by decide) ?_
          refine g_as (if i < 4 then (1 : Int32) else 0) (by rw [if_pos (nlt_of (b := 4) (by omega) (by decide) c6)]) ?_
          exact hJ7
      · refine g_aload_n F dX1_readHead_25 rfl 0 rfl ?_
        refine g_get F (.ref (x 3)) zX1_readHead_inX1 0 rfl rfl 6 (by decide) rfl zX1_readHead_f33 dX1_readHead_26 ?_
        refine g_iconst F (v := 0) dX1_readHead_29 (by decide) ?_
        refine g_as (nI 0) rfl ?_
        refine g_iald F (j := 0) 3 0 rfl rfl (by omega) (by decide) dX1_readHead_30 ?_
        refine g_bipush F (v := 77) dX1_readHead_31 (by decide) ?_
        refine g_icmp_ne F 40 dX1_readHead_33 (by decide) (fun c8 => ?_) (fun c8 => ?_)
        · refine g_iconst F (v := 0) dX1_readHead_40 (by decide) ?_
          refine g_goto F 63 dX1_readHead_41 (by decide) ?_
          refine g_as (bI (S_hk tx i)) (by unfold S_hk; rw [if_pos c3, if_neg c8]; rfl) ?_
          exact hJ4
        · refine g_iconst F (v := 1) dX1_readHead_36 (by decide) ?_
          refine g_goto F 63 dX1_readHead_37 (by decide) ?_
          refine g_as (bI (S_hk tx i)) (by unfold S_hk; rw [if_pos c3, if_pos c8]; rfl) ?_
          exact hJ4
    · have hle : ln ≤ i := Nat.le_of_not_lt fun q => c2 (nI_lt q (by omega))
      exact absurd (ok_lt (hall i (by omega))).1 (by omega)
set_option maxHeartbeats 1000000 in
set_option maxRecDepth 100000 in
theorem kX1_readText_b (l : Launch) (D : va_G) (cI cZ cQ : ClassId) (x bn bt : Nat → Nat) (pa sl : Nat → Option Nat) (ac : Nat) (kb : Int32) (tx : Row) (ln : Nat) (s1 s2 : Row) (se : Nat) (sd : Int64) (sb f g : Row) (Z : va_W) (hln : ln ≤ 60) (k : Nat) (hk6 : k ≤ 6) (hgood : ∀ j, j < k → S_ok tx ln j = true) (hbad : S_ok tx ln k = false) : Ct l D (gTy cI cZ cQ) yX1_readText wsX1_readText ({ frames := 8, cells := 0, slots := 0, locals := 280 }) [.ref (x 0)] (XW cI cQ x bn bt pa sl ac kb tx ln s1 s2 se sd sb f g Z) (some (.int (nI k))) (XW cI cQ x bn bt pa sl ac kb tx ln s1 s2 se sd sb f g Z) := by
  refine ct_ofI (cc := cX1_readText) (nL := 7) (own := RX1) (by decide) rfl rfl ⟨rfl, rfl⟩ (Nat.le_of_ble_eq_true rfl) XW_same (fun p e s m below meth c A Q F hR => ?_)
  refine g_aw ([(x 0, .inr (1, [.ref (bn 0), .ref (bt 0), .ref (x 1), .int (nI ac), .ref (x 2), .int kb, .ref (x 3), .int (nI ln), .ref (x 4), .ref (x 5), .int (nI se), .long sd, .ref (x 6)])), (x 1, .inl (cQ, 14, .inr (.inr (.inr (.inr pa))))), (x 2, .inl (cQ, 2, .inr (.inr (.inr (.inr sl))))), (x 3, .inl (cI, 60, .inl tx)), (x 4, .inl (cI, 6, .inl s1)), (x 5, .inl (cI, 6, .inl s2)), (x 6, .inl (cI, 64, .inl sb))] ++ (CR cI bn f ++ (CR cI bt g ++ (Z)))) rfl ?_
  refine g_aload_n F dX1_readText_0 rfl 0 rfl ?_
  refine g_callVs F (As := []) (st := []) (kX1_readHead_b l D cI cZ cQ x bn bt pa sl ac kb tx ln s1 s2 se sd sb f g Z  hln k hk6 hgood hbad) 0 rfl rfl (cwV 0 F.2.2.2.2.1 gX1_readText_X1_readHead rfl rfl rfl (by decide +kernel) ⟨Nat.le_of_ble_eq_true rfl, Nat.le_of_ble_eq_true rfl⟩) rfl rfl (Nat.le_of_ble_eq_true rfl) ⟨Nat.zero_le _, Nat.zero_le _⟩ dX1_readText_1 ?_
  refine g_istore_n F (lv' := [(0, .ref (x 0)), (1, .int (nI k))]) dX1_readText_4 rfl (by decide) [1, 0] rfl ?_
  refine g_iload_n F dX1_readText_5 rfl 1 rfl ?_
  refine g_bipush F (v := (-9)) dX1_readText_6 (by decide) ?_
  refine g_icmp_eq F 13 dX1_readText_8 (by decide) (fun c1 => ?_) (fun c1 => ?_)
  · exact absurd c1 ((by decide : ∀ k, k ≤ 6 → ¬ nI k = -9) k hk6)
  · refine g_iload_n F dX1_readText_11 rfl 1 rfl ?_
    exact g_endI (hR _ _ dX1_readText_12) rfl rfl
theorem zX1_readText_f16 : Cond.fieldLink RX1 16 (TX1 1).1 (TX1 1).2.1 (TX1 1).2.2.1 ∈ wsX1_readText := by decide +kernel
theorem zX1_readText_f33 : Cond.fieldLink RX1 33 (TX1 6).1 (TX1 6).2.1 (TX1 6).2.2.1 ∈ wsX1_readText := by decide +kernel
theorem zX1_readText_f37 : Cond.fieldLink RX1 37 (TX1 7).1 (TX1 7).2.1 (TX1 7).2.2.1 ∈ wsX1_readText := by decide +kernel
theorem zX1_readText_inX1 : ∀ w ∈ u_ws RX1 TX1 13, w ∈ wsX1_readText := by decide +kernel
set_option maxHeartbeats 1000000 in
set_option maxRecDepth 100000 in
theorem kX1_readText_c (l : Launch) (D : va_G) (cI cZ cQ : ClassId) (x bn bt : Nat → Nat) (pa sl : Nat → Option Nat) (ac : Nat) (kb : Int32) (tx : Row) (ln : Nat) (s1 s2 : Row) (se : Nat) (sd : Int64) (sb f g : Row) (Z : va_W) (hln : ln ≤ 60) (hall : ∀ j, j < 7 → S_ok tx ln j = true) : Ct l D (gTy cI cZ cQ) yX1_readText wsX1_readText ({ frames := 8, cells := 0, slots := 0, locals := 280 }) [.ref (x 0)] (XW cI cQ x bn bt pa sl ac kb tx ln s1 s2 se sd sb f g Z) (some (.int ((S_rd tx ln (ln + 1) 7 (S_rh tx g)).1))) (XW cI cQ x bn bt pa sl ac kb tx ln s1 s2 se sd sb f ((S_rd tx ln (ln + 1) 7 (S_rh tx g)).2) Z) := by
  refine ct_ofI (cc := cX1_readText) (nL := 7) (own := RX1) (by decide) rfl rfl ⟨rfl, rfl⟩ (Nat.le_of_ble_eq_true rfl) XW_same (fun p e s m below meth c A Q F hR => ?_)
  refine g_aw ([(x 0, .inr (1, [.ref (bn 0), .ref (bt 0), .ref (x 1), .int (nI ac), .ref (x 2), .int kb, .ref (x 3), .int (nI ln), .ref (x 4), .ref (x 5), .int (nI se), .long sd, .ref (x 6)])), (x 1, .inl (cQ, 14, .inr (.inr (.inr (.inr pa))))), (x 2, .inl (cQ, 2, .inr (.inr (.inr (.inr sl))))), (x 3, .inl (cI, 60, .inl tx)), (x 4, .inl (cI, 6, .inl s1)), (x 5, .inl (cI, 6, .inl s2)), (x 6, .inl (cI, 64, .inl sb))] ++ (CR cI bn f ++ (CR cI bt g ++ (Z)))) rfl ?_
  have hl7 : 6 < ln := (ok_lt (hall 6 (by omega))).1
  refine g_aload_n F dX1_readText_0 rfl 0 rfl ?_
  refine g_callVs F (As := []) (st := []) (kX1_readHead_c l D cI cZ cQ x bn bt pa sl ac kb tx ln s1 s2 se sd sb f g Z  hln hall) 0 rfl rfl (cwV 0 F.2.2.2.2.1 gX1_readText_X1_readHead rfl rfl rfl (by decide +kernel) ⟨Nat.le_of_ble_eq_true rfl, Nat.le_of_ble_eq_true rfl⟩) rfl rfl (Nat.le_of_ble_eq_true rfl) ⟨Nat.zero_le _, Nat.zero_le _⟩ dX1_readText_1 ?_
  refine g_istore_n F (lv' := [(0, .ref (x 0)), (1, .int (-9))]) dX1_readText_4 rfl (by decide) [1, 0] rfl ?_
  refine g_iload_n F dX1_readText_5 rfl 1 rfl ?_
  refine g_bipush F (v := (-9)) dX1_readText_6 (by decide) ?_
  refine g_icmp_eq F 13 dX1_readText_8 (by decide) (fun c1 => ?_) (fun c1 => ?_)
  · refine g_iconst F (v := 0) dX1_readText_13 (by decide) ?_
    refine g_istore_n F (lv' := [(0, .ref (x 0)), (1, .int (-9)), (2, .int 0)]) dX1_readText_14 rfl (by decide) [1, 2, 0] rfl ?_
    refine g_bipush F (v := 7) dX1_readText_15 (by decide) ?_
    refine g_istore_n F (lv' := [(0, .ref (x 0)), (1, .int (-9)), (2, .int 0), (3, .int 7)]) dX1_readText_17 rfl (by decide) [1, 2, 3, 0] rfl ?_
    refine g_all (w0 := [(x 0, .inr (1, [.ref (bn 0), .ref (bt 0), .ref (x 1), .int (nI ac), .ref (x 2), .int kb, .ref (x 3), .int (nI ln), .ref (x 4), .ref (x 5), .int (nI se), .long sd, .ref (x 6)])), (x 1, .inl (cQ, 14, .inr (.inr (.inr (.inr pa))))), (x 2, .inl (cQ, 2, .inr (.inr (.inr (.inr sl))))), (x 3, .inl (cI, 60, .inl tx)), (x 4, .inl (cI, 6, .inl s1)), (x 5, .inl (cI, 6, .inl s2)), (x 6, .inl (cI, 64, .inl sb))] ++ (CR cI bn f ++ (CR cI bt ((0, S_rh tx g).2) ++ (Z)))) (lv0 := [(0, .ref (x 0)), (1, .int (-9)), (2, .int ((0, S_rh tx g).1)), (3, .int (nI (7 + 0)))]) (st0 := []) rfl rfl rfl ?_
    refine g_loop (σ := Int32 × Row) (ln - 7) (fun i z => RdI tx ln (7 + i) z.1 z.2 = S_rd tx ln (ln + 1) 7 (S_rh tx g) ∧ Inv (9 * i) (1 + 324 * i) z.2 ∧ (z.1 = 0 ∨ z.1 = 106 ∨ z.1 = 108)) (fun i z => [(x 0, .inr (1, [.ref (bn 0), .ref (bt 0), .ref (x 1), .int (nI ac), .ref (x 2), .int kb, .ref (x 3), .int (nI ln), .ref (x 4), .ref (x 5), .int (nI se), .long sd, .ref (x 6)])), (x 1, .inl (cQ, 14, .inr (.inr (.inr (.inr pa))))), (x 2, .inl (cQ, 2, .inr (.inr (.inr (.inr sl))))), (x 3, .inl (cI, 60, .inl tx)), (x 4, .inl (cI, 6, .inl s1)), (x 5, .inl (cI, 6, .inl s2)), (x 6, .inl (cI, 64, .inl sb))] ++ (CR cI bn f ++ (CR cI bt z.2 ++ (Z)))) (fun i z => [(0, .ref (x 0)), (1, .int (-9)), (2, .int z.1), (3, .int (nI (7 + i)))]) (fun i z hi hIi ihi => ?_) 0 (0, S_rh tx g) (Nat.zero_le _) ⟨rdI_0, Inv_rh hall, Or.inl rfl⟩
    obtain ⟨hJ1, hJ2, hJ3⟩ := id hIi
    refine g_iload_n F dX1_readText_18 rfl 3 rfl ?_
    refine g_aload_n F dX1_readText_19 rfl 0 rfl ?_
    refine g_get F (.int (nI ln)) zX1_readText_inX1 0 rfl rfl 7 (by decide) rfl zX1_readText_f37 dX1_readText_20 ?_
    refine g_icmp_ge F 134 dX1_readText_23 (by decide) (fun c2 => ?_) (fun c2 => ?_)
    · have hle : ln ≤ 7 + i := (nI_leI (by omega) (by omega)).mp c2
      have hpl : ln = 7 + i := by omega
      refine g_iload_n F dX1_readText_134 rfl 2 rfl ?_
      refine g_if_ne F 143 dX1_readText_135 (by decide) (fun c3 => ?_) (fun c3 => ?_)
      · refine g_aload_n F dX1_readText_143 rfl 0 rfl ?_
        refine g_get F (.int (nI ln)) zX1_readText_inX1 0 rfl rfl 7 (by decide) rfl zX1_readText_f37 dX1_readText_144 ?_
        exact g_endI (hR _ _ dX1_readText_147) (by rw [← hJ1, rdI_y hle c3]; exact congrArg nI hpl) (by rw [← hJ1, rdI_y hle c3]; rfl)
      · refine g_bipush F (v := (-9)) dX1_readText_138 (by decide) ?_
        refine g_goto F 147 dX1_readText_140 (by decide) ?_
        exact g_endI (hR _ _ dX1_readText_147) (by rw [← hJ1, c3, rdI_x hle]) (by rw [← hJ1, c3, rdI_x hle]; rfl)
    · have hil : 7 + i < ln := nlt_of (by omega) (by omega) c2
      refine g_aload_n F dX1_readText_26 rfl 0 rfl ?_
      refine g_get F (.ref (x 3)) zX1_readText_inX1 0 rfl rfl 6 (by decide) rfl zX1_readText_f33 dX1_readText_27 ?_
      refine g_iload_n F dX1_readText_30 rfl 3 rfl ?_
      refine g_iald F (j := 7 + i) 3 0 rfl rfl (by omega) (by decide) dX1_readText_31 ?_
      refine g_istore F (lv' := [(0, .ref (x 0)), (1, .int (-9)), (2, .int z.1), (3, .int (nI (7 + i))), (4, .int (tx (7 + i)))]) dX1_readText_32 (by decide) [1, 2, 3, 4, 0] rfl ?_
      refine g_iload_n F dX1_readText_34 rfl 2 rfl ?_
      refine g_if_eq F 86 dX1_readText_35 (by decide) (fun c4 => ?_) (fun c4 => ?_)
      · refine g_iload F dX1_readText_86 4 rfl ?_
        refine g_iconst F (v := 1) dX1_readText_88 (by decide) ?_
        refine g_callSn F (As := [.int (tx (7 + i)), .int 1]) (st := []) (kX1_isFigure l D cI cZ cQ (tx (7 + i)) 1) (va_cwS 2 F.2.2.2.2.1 gX1_readText_X1_isFigure rfl rfl rfl (by decide +kernel) ⟨Nat.le_of_ble_eq_true rfl, Nat.le_of_ble_eq_true rfl⟩) rfl rfl (Nat.le_of_ble_eq_true rfl) ⟨Nat.zero_le _, Nat.zero_le _⟩ dX1_readText_89 ?_
        refine g_beq F 111 dX1_readText_92 (by decide) (fun c5 => ?_) (fun c5 => ?_)
        · refine g_aload_n F dX1_readText_111 rfl 0 rfl ?_
          refine g_iload F dX1_readText_112 4 rfl ?_
          refine g_callVs F (As := [.int (tx (7 + i))]) (st := []) (kX1_canBegin l D cI cZ cQ x bn bt pa sl ac kb tx ln s1 s2 se sd sb f z.2 Z (tx (7 + i)) ) 0 rfl rfl (cwV 1 F.2.2.2.2.1 gX1_readText_X1_canBegin rfl rfl rfl (by decide +kernel) ⟨Nat.le_of_ble_eq_true rfl, Nat.le_of_ble_eq_true rfl⟩) rfl rfl (Nat.le_of_ble_eq_true rfl) ⟨Nat.zero_le _, Nat.zero_le _⟩ dX1_readText_114 ?_
          refine g_beq F 126 dX1_readText_117 (by decide) (fun c6 => ?_) (fun c6 => ?_)
          · refine g_iload_n F dX1_readText_126 rfl 3 rfl ?_
            exact g_endI (hR _ _ dX1_readText_127) (by rw [← hJ1, c4, rdI_c hil c5 c6]; try rfl) (by rw [← hJ1, c4, rdI_c hil c5 c6]; try rfl)
          · refine g_iload F dX1_readText_120 4 rfl ?_
            refine g_istore_n F (lv' := [(0, .ref (x 0)), (1, .int (-9)), (2, .int (tx (7 + i))), (3, .int (nI (7 + i))), (4, .int (tx (7 + i)))]) dX1_readText_122 rfl (by decide) [1, 2, 0, 3, 4] rfl ?_
            refine g_goto F 128 dX1_readText_123 (by decide) ?_
            refine g_iinc F (lv' := [(0, .ref (x 0)), (1, .int (-9)), (2, .int (tx (7 + i))), (3, .int (nI (7 + i + 1))), (4, .int (tx (7 + i)))]) (nI (7 + i + 1)) dX1_readText_128 3 rfl (nI_add (7 + i) 1) (by decide) [1, 2, 3, 0, 4] rfl ?_
            refine g_goto F 18 dX1_readText_131 (by decide) ?_
            refine g_lvs (lv' := [(0, .ref (x 0)), (1, .int (-9)), (2, .int (tx (7 + i))), (3, .int (nI (7 + i + 1)))]) [0, 1, 2, 3] rfl ?_
            refine g_all (w0 := [(x 0, .inr (1, [.ref (bn 0), .ref (bt 0), .ref (x 1), .int (nI ac), .ref (x 2), .int kb, .ref (x 3), .int (nI ln), .ref (x 4), .ref (x 5), .int (nI se), .long sd, .ref (x 6)])), (x 1, .inl (cQ, 14, .inr (.inr (.inr (.inr pa))))), (x 2, .inl (cQ, 2, .inr (.inr (.inr (.inr sl))))), (x 3, .inl (cI, 60, .inl tx)), (x 4, .inl (cI, 6, .inl s1)), (x 5, .inl (cI, 6, .inl s2)), (x 6, .inl (cI, 64, .inl sb))] ++ (CR cI bn f ++ (CR cI bt ((tx (7 + i), z.2).2) ++ (Z)))) (lv0 := [(0, .ref (x 0)), (1, .int (-9)), (2, .int ((tx (7 + i), z.2).1)), (3, .int (nI (7 + (i + 1))))]) (st0 := []) rfl rfl rfl ?_
            exact ihi (by omega) (tx (7 + i), z.2) ⟨by rw [← hJ1, c4, rdI_b hil c5 c6]; rfl, hJ2.mono (by omega) (by omega), Or.inr (may_is c6)⟩
        · obtain ⟨d, hd1, hd9, ed⟩ := fig_ex c5
          refine g_aload_n F dX1_readText_95 rfl 0 rfl ?_
          refine g_get F (.ref (bt 0)) zX1_readText_inX1 0 rfl rfl 1 (by decide) rfl zX1_readText_f16 dX1_readText_96 ?_
          refine g_iload F dX1_readText_99 4 rfl ?_
          refine g_bipush F (v := 48) dX1_readText_101 (by decide) ?_
          refine g_isub F dX1_readText_103 ?_
          refine g_as (nI d) ed ?_
          refine g_segV F (As := [.int (nI d)]) (st := []) ([(x 0, .inr (1, [.ref (bn 0), .ref (bt 0), .ref (x 1), .int (nI ac), .ref (x 2), .int kb, .ref (x 3), .int (nI ln), .ref (x 4), .ref (x 5), .int (nI se), .long sd, .ref (x 6)])), (x 1, .inl (cQ, 14, .inr (.inr (.inr (.inr pa))))), (x 2, .inl (cQ, 2, .inr (.inr (.inr (.inr sl))))), (x 3, .inl (cI, 60, .inl tx)), (x 4, .inl (cI, 6, .inl s1)), (x 5, .inl (cI, 6, .inl s2)), (x 6, .inl (cI, 64, .inl sb))] ++ (CR cI bn f)) (Z) ([(x 0, .inr (1, [.ref (bn 0), .ref (bt 0), .ref (x 1), .int (nI ac), .ref (x 2), .int kb, .ref (x 3), .int (nI ln), .ref (x 4), .ref (x 5), .int (nI se), .long sd, .ref (x 6)])), (x 1, .inl (cQ, 14, .inr (.inr (.inr (.inr pa))))), (x 2, .inl (cQ, 2, .inr (.inr (.inr (.inr sl))))), (x 3, .inl (cI, 60, .inl tx)), (x 4, .inl (cI, 6, .inl s1)), (x 5, .inl (cI, 6, .inl s2)), (x 6, .inl (cI, 64, .inl sb))] ++ (CR cI bn f ++ (CR cI bt (S_ticks z.2 d) ++ (Z)))) (kX0_run l D cI cZ cQ bt z.2 d (9 * i) (1 + 324 * i) (by omega) hJ2 (by omega) (by omega)) 0 rfl rfl (cwV 1 F.2.2.2.2.1 gX1_readText_X0_run rfl rfl rfl (by decide +kernel) ⟨Nat.le_of_ble_eq_true rfl, Nat.le_of_ble_eq_true rfl⟩) rfl rfl rfl rfl (Nat.le_of_ble_eq_true rfl) ⟨Nat.zero_le _, Nat.zero_le _⟩ dX1_readText_104 ?_
          refine g_pop F dX1_readText_107 rfl ?_
          refine g_goto F 128 dX1_readText_108 (by decide) ?_
          refine g_iinc F (lv' := [(0, .ref (x 0)), (1, .int (-9)), (2, .int z.1), (3, .int (nI (7 + i + 1))), (4, .int (tx (7 + i)))]) (nI (7 + i + 1)) dX1_readText_128 3 rfl (nI_add (7 + i) 1) (by decide) [1, 2, 3, 0, 4] rfl ?_
          refine g_goto F 18 dX1_readText_131 (by decide) ?_
          refine g_lvs (lv' := [(0, .ref (x 0)), (1, .int (-9)), (2, .int z.1), (3, .int (nI (7 + i + 1)))]) [0, 1, 2, 3] rfl ?_
          refine g_all (w0 := [(x 0, .inr (1, [.ref (bn 0), .ref (bt 0), .ref (x 1), .int (nI ac), .ref (x 2), .int kb, .ref (x 3), .int (nI ln), .ref (x 4), .ref (x 5), .int (nI se), .long sd, .ref (x 6)])), (x 1, .inl (cQ, 14, .inr (.inr (.inr (.inr pa))))), (x 2, .inl (cQ, 2, .inr (.inr (.inr (.inr sl))))), (x 3, .inl (cI, 60, .inl tx)), (x 4, .inl (cI, 6, .inl s1)), (x 5, .inl (cI, 6, .inl s2)), (x 6, .inl (cI, 64, .inl sb))] ++ (CR cI bn f ++ (CR cI bt ((z.1, S_ticks z.2 d).2) ++ (Z)))) (lv0 := [(0, .ref (x 0)), (1, .int (-9)), (2, .int ((z.1, S_ticks z.2 d).1)), (3, .int (nI (7 + (i + 1))))]) (st0 := []) rfl rfl rfl ?_
          exact ihi (by omega) (z.1, S_ticks z.2 d) ⟨by show RdI tx ln (7 + i + 1) z.1 (S_ticks z.2 d) = _; rw [← hJ1, c4, rdI_f hil c5 ed hd9], (Inv_ticks hJ2 9 (by omega) (by omega) d hd9).mono (by omega) (by omega), Or.inl c4⟩
      · refine g_iload F dX1_readText_38 4 rfl ?_
        refine g_bipush F (v := 48) dX1_readText_40 (by decide) ?_
        refine g_isub F dX1_readText_42 ?_
        refine g_istore F (lv' := [(0, .ref (x 0)), (1, .int (-9)), (2, .int z.1), (3, .int (nI (7 + i))), (4, .int (tx (7 + i))), (5, .int ((tx (7 + i)) - 48))]) dX1_readText_43 (by decide) [1, 2, 3, 4, 5, 0] rfl ?_
        refine g_iload_n F dX1_readText_45 rfl 2 rfl ?_
        refine g_bipush F (v := 106) dX1_readText_46 (by decide) ?_
        refine g_icmp_ne F 63 dX1_readText_48 (by decide) (fun c7 => ?_) (fun c7 => ?_)
        · have h108 : z.1 = 108 := hJ3.elim (fun q => absurd q c4) (fun q => q.elim (fun q => absurd q c7) id)
          refine g_aload_n F dX1_readText_63 rfl 0 rfl ?_
          refine g_get F (.ref (bt 0)) zX1_readText_inX1 0 rfl rfl 1 (by decide) rfl zX1_readText_f16 dX1_readText_64 ?_
          refine g_iload F dX1_readText_67 5 rfl ?_
          refine g_segV F (As := [.int ((tx (7 + i)) - 48)]) (st := []) ([(x 0, .inr (1, [.ref (bn 0), .ref (bt 0), .ref (x 1), .int (nI ac), .ref (x 2), .int kb, .ref (x 3), .int (nI ln), .ref (x 4), .ref (x 5), .int (nI se), .long sd, .ref (x 6)])), (x 1, .inl (cQ, 14, .inr (.inr (.inr (.inr pa))))), (x 2, .inl (cQ, 2, .inr (.inr (.inr (.inr sl))))), (x 3, .inl (cI, 60, .inl tx)), (x 4, .inl (cI, 6, .inl s1)), (x 5, .inl (cI, 6, .inl s2)), (x 6, .inl (cI, 64, .inl sb))] ++ (CR cI bn f)) (Z) ([(x 0, .inr (1, [.ref (bn 0), .ref (bt 0), .ref (x 1), .int (nI ac), .ref (x 2), .int kb, .ref (x 3), .int (nI ln), .ref (x 4), .ref (x 5), .int (nI se), .long sd, .ref (x 6)])), (x 1, .inl (cQ, 14, .inr (.inr (.inr (.inr pa))))), (x 2, .inl (cQ, 2, .inr (.inr (.inr (.inr sl))))), (x 3, .inl (cI, 60, .inl tx)), (x 4, .inl (cI, 6, .inl s1)), (x 5, .inl (cI, 6, .inl s2)), (x 6, .inl (cI, 64, .inl sb))] ++ (CR cI bn f ++ (CR cI bt (S_depF z.2 ((tx (7 + i)) - 48)) ++ (Z)))) (kX0_departA l D cI cZ cQ bt z.2 ((tx (7 + i)) - 48) (9 * i) (1 + 324 * i) hJ2 (by omega)) 0 rfl rfl (cwV 1 F.2.2.2.2.1 gX1_readText_X0_depart rfl rfl rfl (by decide +kernel) ⟨Nat.le_of_ble_eq_true rfl, Nat.le_of_ble_eq_true rfl⟩) rfl rfl rfl rfl (Nat.le_of_ble_eq_true rfl) ⟨Nat.zero_le _, Nat.zero_le _⟩ dX1_readText_69 ?_
          refine g_istore F (lv' := [(0, .ref (x 0)), (1, .int (-9)), (2, .int z.1), (3, .int (nI (7 + i))), (4, .int (tx (7 + i))), (5, .int ((tx (7 + i)) - 48)), (6, .int (bI (S_depB z.2 ((tx (7 + i)) - 48))))]) dX1_readText_72 (by decide) [1, 2, 3, 4, 5, 6, 0] rfl ?_
          refine g_iload F dX1_readText_74 6 rfl ?_
          refine g_bne F 81 dX1_readText_76 (by decide) (fun c8 => ?_) (fun c8 => ?_)
          · refine g_iconst F (v := 0) dX1_readText_81 (by decide) ?_
            refine g_istore_n F (lv' := [(0, .ref (x 0)), (1, .int (-9)), (2, .int 0), (3, .int (nI (7 + i))), (4, .int (tx (7 + i))), (5, .int ((tx (7 + i)) - 48)), (6, .int (bI (S_depB z.2 ((tx (7 + i)) - 48))))]) dX1_readText_82 rfl (by decide) [1, 2, 0, 3, 4, 5, 6] rfl ?_
            refine g_goto F 128 dX1_readText_83 (by decide) ?_
            refine g_iinc F (lv' := [(0, .ref (x 0)), (1, .int (-9)), (2, .int 0), (3, .int (nI (7 + i + 1))), (4, .int (tx (7 + i))), (5, .int ((tx (7 + i)) - 48)), (6, .int (bI (S_depB z.2 ((tx (7 + i)) - 48))))]) (nI (7 + i + 1)) dX1_readText_128 3 rfl (nI_add (7 + i) 1) (by decide) [1, 2, 3, 0, 4, 5, 6] rfl ?_
            refine g_goto F 18 dX1_readText_131 (by decide) ?_
            refine g_lvs (lv' := [(0, .ref (x 0)), (1, .int (-9)), (2, .int 0), (3, .int (nI (7 + i + 1)))]) [0, 1, 2, 3] rfl ?_
            refine g_all (w0 := [(x 0, .inr (1, [.ref (bn 0), .ref (bt 0), .ref (x 1), .int (nI ac), .ref (x 2), .int kb, .ref (x 3), .int (nI ln), .ref (x 4), .ref (x 5), .int (nI se), .long sd, .ref (x 6)])), (x 1, .inl (cQ, 14, .inr (.inr (.inr (.inr pa))))), (x 2, .inl (cQ, 2, .inr (.inr (.inr (.inr sl))))), (x 3, .inl (cI, 60, .inl tx)), (x 4, .inl (cI, 6, .inl s1)), (x 5, .inl (cI, 6, .inl s2)), (x 6, .inl (cI, 64, .inl sb))] ++ (CR cI bn f ++ (CR cI bt ((0, S_depF z.2 (tx (7 + i) - 48)).2) ++ (Z)))) (lv0 := [(0, .ref (x 0)), (1, .int (-9)), (2, .int ((0, S_depF z.2 (tx (7 + i) - 48)).1)), (3, .int (nI (7 + (i + 1))))]) (st0 := []) rfl rfl rfl ?_
            exact ihi (by omega) (0, S_depF z.2 (tx (7 + i) - 48)) ⟨by rw [← hJ1, h108, rdI_d hil, if_pos c8]; rfl, (Inv_dep hJ2 (by omega) (by omega)).mono (by omega) (by omega), Or.inl rfl⟩
          · refine g_iload_n F dX1_readText_79 rfl 3 rfl ?_
            exact g_endI (hR _ _ dX1_readText_80) (by rw [← hJ1, h108, rdI_d hil, c8]; try rfl) (by rw [← hJ1, h108, rdI_d hil, c8]; rw [show S_depF z.2 (tx (7 + i) - 48) = z.2 from by unfold S_depF; rw [c8]; rfl]; rfl)
        · refine g_aload_n F dX1_readText_51 rfl 0 rfl ?_
          refine g_get F (.ref (bt 0)) zX1_readText_inX1 0 rfl rfl 1 (by decide) rfl zX1_readText_f16 dX1_readText_52 ?_
          refine g_iload F dX1_readText_55 5 rfl ?_
          refine g_segV F (As := [.int ((tx (7 + i)) - 48)]) (st := []) ([(x 0, .inr (1, [.ref (bn 0), .ref (bt 0), .ref (x 1), .int (nI ac), .ref (x 2), .int kb, .ref (x 3), .int (nI ln), .ref (x 4), .ref (x 5), .int (nI se), .long sd, .ref (x 6)])), (x 1, .inl (cQ, 14, .inr (.inr (.inr (.inr pa))))), (x 2, .inl (cQ, 2, .inr (.inr (.inr (.inr sl))))), (x 3, .inl (cI, 60, .inl tx)), (x 4, .inl (cI, 6, .inl s1)), (x 5, .inl (cI, 6, .inl s2)), (x 6, .inl (cI, 64, .inl sb))] ++ (CR cI bn f)) (Z) ([(x 0, .inr (1, [.ref (bn 0), .ref (bt 0), .ref (x 1), .int (nI ac), .ref (x 2), .int kb, .ref (x 3), .int (nI ln), .ref (x 4), .ref (x 5), .int (nI se), .long sd, .ref (x 6)])), (x 1, .inl (cQ, 14, .inr (.inr (.inr (.inr pa))))), (x 2, .inl (cQ, 2, .inr (.inr (.inr (.inr sl))))), (x 3, .inl (cI, 60, .inl tx)), (x 4, .inl (cI, 6, .inl s1)), (x 5, .inl (cI, 6, .inl s2)), (x 6, .inl (cI, 64, .inl sb))] ++ (CR cI bn f ++ (CR cI bt (S_entF z.2 ((tx (7 + i)) - 48)) ++ (Z)))) (kX0_enterA l D cI cZ cQ bt z.2 ((tx (7 + i)) - 48) (9 * i) (1 + 324 * i) hJ2) 0 rfl rfl (cwV 1 F.2.2.2.2.1 gX1_readText_X0_enter rfl rfl rfl (by decide +kernel) ⟨Nat.le_of_ble_eq_true rfl, Nat.le_of_ble_eq_true rfl⟩) rfl rfl rfl rfl (Nat.le_of_ble_eq_true rfl) ⟨Nat.zero_le _, Nat.zero_le _⟩ dX1_readText_57 ?_
          refine g_goto F 72 dX1_readText_60 (by decide) ?_
          refine g_istore F (lv' := [(0, .ref (x 0)), (1, .int (-9)), (2, .int z.1), (3, .int (nI (7 + i))), (4, .int (tx (7 + i))), (5, .int ((tx (7 + i)) - 48)), (6, .int (bI (S_entB z.2 ((tx (7 + i)) - 48))))]) dX1_readText_72 (by decide) [1, 2, 3, 4, 5, 6, 0] rfl ?_
          refine g_iload F dX1_readText_74 6 rfl ?_
          refine g_bne F 81 dX1_readText_76 (by decide) (fun c9 => ?_) (fun c9 => ?_)
          · refine g_iconst F (v := 0) dX1_readText_81 (by decide) ?_
            refine g_istore_n F (lv' := [(0, .ref (x 0)), (1, .int (-9)), (2, .int 0), (3, .int (nI (7 + i))), (4, .int (tx (7 + i))), (5, .int ((tx (7 + i)) - 48)), (6, .int (bI (S_entB z.2 ((tx (7 + i)) - 48))))]) dX1_readText_82 rfl (by decide) [1, 2, 0, 3, 4, 5, 6] rfl ?_
            refine g_goto F 128 dX1_readText_83 (by decide) ?_
            refine g_iinc F (lv' := [(0, .ref (x 0)), (1, .int (-9)), (2, .int 0), (3, .int (nI (7 + i + 1))), (4, .int (tx (7 + i))), (5, .int ((tx (7 + i)) - 48)), (6, .int (bI (S_entB z.2 ((tx (7 + i)) - 48))))]) (nI (7 + i + 1)) dX1_readText_128 3 rfl (nI_add (7 + i) 1) (by decide) [1, 2, 3, 0, 4, 5, 6] rfl ?_
            refine g_goto F 18 dX1_readText_131 (by decide) ?_
            refine g_lvs (lv' := [(0, .ref (x 0)), (1, .int (-9)), (2, .int 0), (3, .int (nI (7 + i + 1)))]) [0, 1, 2, 3] rfl ?_
            refine g_all (w0 := [(x 0, .inr (1, [.ref (bn 0), .ref (bt 0), .ref (x 1), .int (nI ac), .ref (x 2), .int kb, .ref (x 3), .int (nI ln), .ref (x 4), .ref (x 5), .int (nI se), .long sd, .ref (x 6)])), (x 1, .inl (cQ, 14, .inr (.inr (.inr (.inr pa))))), (x 2, .inl (cQ, 2, .inr (.inr (.inr (.inr sl))))), (x 3, .inl (cI, 60, .inl tx)), (x 4, .inl (cI, 6, .inl s1)), (x 5, .inl (cI, 6, .inl s2)), (x 6, .inl (cI, 64, .inl sb))] ++ (CR cI bn f ++ (CR cI bt ((0, S_entF z.2 (tx (7 + i) - 48)).2) ++ (Z)))) (lv0 := [(0, .ref (x 0)), (1, .int (-9)), (2, .int ((0, S_entF z.2 (tx (7 + i) - 48)).1)), (3, .int (nI (7 + (i + 1))))]) (st0 := []) rfl rfl rfl ?_
            exact ihi (by omega) (0, S_entF z.2 (tx (7 + i) - 48)) ⟨by rw [← hJ1, c7, rdI_e hil, if_pos c9]; rfl, (Inv_ent hJ2).mono (by omega) (by omega), Or.inl rfl⟩
          · refine g_iload_n F dX1_readText_79 rfl 3 rfl ?_
            exact g_endI (hR _ _ dX1_readText_80) (by rw [← hJ1, c7, rdI_e hil, c9]; try rfl) (by rw [← hJ1, c7, rdI_e hil, c9]; rw [show S_entF z.2 (tx (7 + i) - 48) = z.2 from by unfold S_entF; rw [c9]; rfl]; rfl)
  · exact absurd c1 (by decide)
theorem kX1_readText (l : Launch) (D : va_G) (cI cZ cQ : ClassId) (x bn bt : Nat → Nat) (pa sl : Nat → Option Nat) (ac : Nat) (kb : Int32) (tx : Row) (ln : Nat) (s1 s2 : Row) (se : Nat) (sd : Int64) (sb f g : Row) (Z : va_W) (hln : ln ≤ 60) : Ct l D (gTy cI cZ cQ) yX1_readText wsX1_readText ({ frames := 8, cells := 0, slots := 0, locals := 280 }) [.ref (x 0)] (XW cI cQ x bn bt pa sl ac kb tx ln s1 s2 se sd sb f g Z) (some (.int (S_readC tx ln g).1)) (XW cI cQ x bn bt pa sl ac kb tx ln s1 s2 se sd sb f ((S_readC tx ln g).2) Z) := by
  unfold S_readC
  cases hh : S_fst tx ln 0 7 with
  | some k =>
    obtain ⟨h1, h2, h3, h4⟩ := fst_some hh
    exact kX1_readText_b l D cI cZ cQ x bn bt pa sl ac kb tx ln s1 s2 se sd sb f g Z hln k (by omega) (fun j hj => h3 j (by omega) hj) h4
  | none => exact kX1_readText_c l D cI cZ cQ x bn bt pa sl ac kb tx ln s1 s2 se sd sb f g Z hln (fun j hj => fst_none hh j (by omega) (by omega))
set_option maxHeartbeats 1000000 in
set_option maxRecDepth 100000 in
theorem kX1_fault (l : Launch) (D : va_G) (cI cZ cQ : ClassId) (x bn bt : Nat → Nat) (pa sl : Nat → Option Nat) (ac : Nat) (kb : Int32) (tx : Row) (ln : Nat) (s1 s2 : Row) (se : Nat) (sd : Int64) (sb f g : Row) (Z : va_W) (hln : ln ≤ 60) : Ct l D (gTy cI cZ cQ) yX1_fault wsX1_fault ({ frames := 9, cells := 0, slots := 0, locals := 306 }) [.ref (x 0)] (XW cI cQ x bn bt pa sl ac kb tx ln s1 s2 se sd sb f g Z) (some (.int ((S_readC tx ln g).1))) (XW cI cQ x bn bt pa sl ac kb tx ln s1 s2 se sd sb f ((S_readC tx ln g).2) Z) := by
  refine ct_ofI (cc := cX1_fault) (nL := 1) (own := RX1) (by decide) rfl rfl ⟨rfl, rfl⟩ (Nat.le_of_ble_eq_true rfl) XW_same (fun p e s m below meth c A Q F hR => ?_)
  refine g_aw ([(x 0, .inr (1, [.ref (bn 0), .ref (bt 0), .ref (x 1), .int (nI ac), .ref (x 2), .int kb, .ref (x 3), .int (nI ln), .ref (x 4), .ref (x 5), .int (nI se), .long sd, .ref (x 6)])), (x 1, .inl (cQ, 14, .inr (.inr (.inr (.inr pa))))), (x 2, .inl (cQ, 2, .inr (.inr (.inr (.inr sl))))), (x 3, .inl (cI, 60, .inl tx)), (x 4, .inl (cI, 6, .inl s1)), (x 5, .inl (cI, 6, .inl s2)), (x 6, .inl (cI, 64, .inl sb))] ++ (CR cI bn f ++ (CR cI bt g ++ (Z)))) rfl ?_
  refine g_aload_n F dX1_fault_0 rfl 0 rfl ?_
  refine g_callVs F (As := []) (st := []) (kX1_readText l D cI cZ cQ x bn bt pa sl ac kb tx ln s1 s2 se sd sb f g Z  hln) 0 rfl rfl (cwV 0 F.2.2.2.2.1 gX1_fault_X1_readText rfl rfl rfl (by decide +kernel) ⟨Nat.le_of_ble_eq_true rfl, Nat.le_of_ble_eq_true rfl⟩) rfl rfl (Nat.le_of_ble_eq_true rfl) ⟨Nat.zero_le _, Nat.zero_le _⟩ dX1_fault_1 ?_
  exact g_endI (hR _ _ dX1_fault_4) rfl rfl
set_option maxHeartbeats 1000000 in
set_option maxRecDepth 100000 in
theorem kX1_meeting_late (l : Launch) (D : va_G) (cI cZ cQ : ClassId) (x bn bt : Nat → Nat) (pa sl : Nat → Option Nat) (ac : Nat) (kb : Int32) (tx : Row) (ln : Nat) (s1 s2 : Row) (se : Nat) (sd : Int64) (sb f g : Row) (Z : va_W) (hln : ln ≤ 60) (h : ¬ (S_readC tx ln g).1 = -9) : Ct l D (gTy cI cZ cQ) yX1_meeting wsX1_meeting ({ frames := 9, cells := 0, slots := 0, locals := 306 }) [.ref (x 0)] (XW cI cQ x bn bt pa sl ac kb tx ln s1 s2 se sd sb f g Z) (some (.int (-3))) (XW cI cQ x bn bt pa sl ac kb tx ln s1 s2 se sd sb f ((S_readC tx ln g).2) Z) := by
  refine ct_ofI (cc := cX1_meeting) (nL := 1) (own := RX1) (by decide) rfl rfl ⟨rfl, rfl⟩ (Nat.le_of_ble_eq_true rfl) XW_same (fun p e s m below meth c A Q F hR => ?_)
  refine g_aw ([(x 0, .inr (1, [.ref (bn 0), .ref (bt 0), .ref (x 1), .int (nI ac), .ref (x 2), .int kb, .ref (x 3), .int (nI ln), .ref (x 4), .ref (x 5), .int (nI se), .long sd, .ref (x 6)])), (x 1, .inl (cQ, 14, .inr (.inr (.inr (.inr pa))))), (x 2, .inl (cQ, 2, .inr (.inr (.inr (.inr sl))))), (x 3, .inl (cI, 60, .inl tx)), (x 4, .inl (cI, 6, .inl s1)), (x 5, .inl (cI, 6, .inl s2)), (x 6, .inl (cI, 64, .inl sb))] ++ (CR cI bn f ++ (CR cI bt g ++ (Z)))) rfl ?_
  refine g_aload_n F dX1_meeting_0 rfl 0 rfl ?_
  refine g_callVs F (As := []) (st := []) (kX1_readText l D cI cZ cQ x bn bt pa sl ac kb tx ln s1 s2 se sd sb f g Z  hln) 0 rfl rfl (cwV 0 F.2.2.2.2.1 gX1_meeting_X1_readText rfl rfl rfl (by decide +kernel) ⟨Nat.le_of_ble_eq_true rfl, Nat.le_of_ble_eq_true rfl⟩) rfl rfl (Nat.le_of_ble_eq_true rfl) ⟨Nat.zero_le _, Nat.zero_le _⟩ dX1_meeting_1 ?_
  refine g_bipush F (v := (-9)) dX1_meeting_4 (by decide) ?_
  refine g_icmp_eq F 12 dX1_meeting_6 (by decide) (fun c1 => ?_) (fun c1 => ?_)
  · exact absurd c1 h
  · refine g_bipush F (v := (-3)) dX1_meeting_9 (by decide) ?_
    exact g_endI (hR _ _ dX1_meeting_11) rfl rfl
theorem zX1_meeting_f10 : Cond.fieldLink RX1 10 (TX1 0).1 (TX1 0).2.1 (TX1 0).2.2.1 ∈ wsX1_meeting := by decide +kernel
theorem zX1_meeting_f16 : Cond.fieldLink RX1 16 (TX1 1).1 (TX1 1).2.1 (TX1 1).2.2.1 ∈ wsX1_meeting := by decide +kernel
theorem zX1_meeting_f23 : Cond.fieldLink RX1 23 (TX1 3).1 (TX1 3).2.1 (TX1 3).2.2.1 ∈ wsX1_meeting := by decide +kernel
theorem zX1_meeting_f30 : Cond.fieldLink RX1 30 (TX1 5).1 (TX1 5).2.1 (TX1 5).2.2.1 ∈ wsX1_meeting := by decide +kernel
theorem zX1_meeting_f64 : Cond.fieldLink RX1 64 (TX0 3).1 (TX0 3).2.1 (TX0 3).2.2.1 ∈ wsX1_meeting := by decide +kernel
theorem zX1_meeting_inX0 : ∀ w ∈ u_ws RX0 TX0 14, w ∈ wsX1_meeting := by decide +kernel
theorem zX1_meeting_inX1 : ∀ w ∈ u_ws RX1 TX1 13, w ∈ wsX1_meeting := by decide +kernel
set_option maxHeartbeats 1000000 in
set_option maxRecDepth 100000 in
theorem kX1_meeting_ok (l : Launch) (D : va_G) (cI cZ cQ : ClassId) (x bn bt : Nat → Nat) (pa sl : Nat → Option Nat) (ac : Nat) (kb : Int32) (tx : Row) (ln : Nat) (s1 s2 : Row) (se : Nat) (sd : Int64) (sb f g : Row) (Z : va_W) (hln : ln ≤ 60) (h : (S_readC tx ln g).1 = -9) : Ct l D (gTy cI cZ cQ) yX1_meeting wsX1_meeting ({ frames := 9, cells := 0, slots := 0, locals := 306 }) [.ref (x 0)] (XW cI cQ x bn bt pa sl ac kb tx ln s1 s2 se sd sb f g Z) (some (.int ((S_readC tx ln g).2 70))) (XW cI cQ x bn bt pa sl 0 0 tx ln s1 s2 se sd sb ((S_readC tx ln g).2) ((S_readC tx ln g).2) Z) := by
  refine ct_ofI (cc := cX1_meeting) (nL := 1) (own := RX1) (by decide) rfl rfl ⟨rfl, rfl⟩ (Nat.le_of_ble_eq_true rfl) XW_same (fun p e s m below meth c A Q F hR => ?_)
  refine g_aw ([(x 0, .inr (1, [.ref (bn 0), .ref (bt 0), .ref (x 1), .int (nI ac), .ref (x 2), .int kb, .ref (x 3), .int (nI ln), .ref (x 4), .ref (x 5), .int (nI se), .long sd, .ref (x 6)])), (x 1, .inl (cQ, 14, .inr (.inr (.inr (.inr pa))))), (x 2, .inl (cQ, 2, .inr (.inr (.inr (.inr sl))))), (x 3, .inl (cI, 60, .inl tx)), (x 4, .inl (cI, 6, .inl s1)), (x 5, .inl (cI, 6, .inl s2)), (x 6, .inl (cI, 64, .inl sb))] ++ (CR cI bn f ++ (CR cI bt g ++ (Z)))) rfl ?_
  refine g_aload_n F dX1_meeting_0 rfl 0 rfl ?_
  refine g_callVs F (As := []) (st := []) (kX1_readText l D cI cZ cQ x bn bt pa sl ac kb tx ln s1 s2 se sd sb f g Z  hln) 0 rfl rfl (cwV 0 F.2.2.2.2.1 gX1_meeting_X1_readText rfl rfl rfl (by decide +kernel) ⟨Nat.le_of_ble_eq_true rfl, Nat.le_of_ble_eq_true rfl⟩) rfl rfl (Nat.le_of_ble_eq_true rfl) ⟨Nat.zero_le _, Nat.zero_le _⟩ dX1_meeting_1 ?_
  refine g_bipush F (v := (-9)) dX1_meeting_4 (by decide) ?_
  refine g_icmp_eq F 12 dX1_meeting_6 (by decide) (fun c1 => ?_) (fun c1 => ?_)
  · refine g_aload_n F dX1_meeting_12 rfl 0 rfl ?_
    refine g_get F (.ref (bn 0)) zX1_meeting_inX1 0 rfl rfl 0 (by decide) rfl zX1_meeting_f10 dX1_meeting_13 ?_
    refine g_aload_n F dX1_meeting_16 rfl 0 rfl ?_
    refine g_get F (.ref (bt 0)) zX1_meeting_inX1 0 rfl rfl 1 (by decide) rfl zX1_meeting_f16 dX1_meeting_17 ?_
    refine g_segV F (As := [.ref (bt 0)]) (st := []) ([(x 0, .inr (1, [.ref (bn 0), .ref (bt 0), .ref (x 1), .int (nI ac), .ref (x 2), .int kb, .ref (x 3), .int (nI ln), .ref (x 4), .ref (x 5), .int (nI se), .long sd, .ref (x 6)])), (x 1, .inl (cQ, 14, .inr (.inr (.inr (.inr pa))))), (x 2, .inl (cQ, 2, .inr (.inr (.inr (.inr sl))))), (x 3, .inl (cI, 60, .inl tx)), (x 4, .inl (cI, 6, .inl s1)), (x 5, .inl (cI, 6, .inl s2)), (x 6, .inl (cI, 64, .inl sb))]) (Z) ([(x 0, .inr (1, [.ref (bn 0), .ref (bt 0), .ref (x 1), .int (nI ac), .ref (x 2), .int kb, .ref (x 3), .int (nI ln), .ref (x 4), .ref (x 5), .int (nI se), .long sd, .ref (x 6)])), (x 1, .inl (cQ, 14, .inr (.inr (.inr (.inr pa))))), (x 2, .inl (cQ, 2, .inr (.inr (.inr (.inr sl))))), (x 3, .inl (cI, 60, .inl tx)), (x 4, .inl (cI, 6, .inl s1)), (x 5, .inl (cI, 6, .inl s2)), (x 6, .inl (cI, 64, .inl sb))] ++ (CR cI bn ((S_readC tx ln g).2) ++ (CR cI bt ((S_readC tx ln g).2) ++ (Z)))) (kX0_takeFrom l D cI cZ cQ bn bt f ((S_readC tx ln g).2)) 0 rfl rfl (cwV 1 F.2.2.2.2.1 gX1_meeting_X0_takeFrom rfl rfl rfl (by decide +kernel) ⟨Nat.le_of_ble_eq_true rfl, Nat.le_of_ble_eq_true rfl⟩) rfl rfl rfl rfl (Nat.le_of_ble_eq_true rfl) ⟨Nat.zero_le _, Nat.zero_le _⟩ dX1_meeting_20 ?_
    refine g_aload_n F dX1_meeting_23 rfl 0 rfl ?_
    refine g_iconst F (v := 0) dX1_meeting_24 (by decide) ?_
    refine g_put F ([(x 0, .inr (1, [.ref (bn 0), .ref (bt 0), .ref (x 1), .int 0, .ref (x 2), .int kb, .ref (x 3), .int (nI ln), .ref (x 4), .ref (x 5), .int (nI se), .long sd, .ref (x 6)])), (x 1, .inl (cQ, 14, .inr (.inr (.inr (.inr pa))))), (x 2, .inl (cQ, 2, .inr (.inr (.inr (.inr sl))))), (x 3, .inl (cI, 60, .inl tx)), (x 4, .inl (cI, 6, .inl s1)), (x 5, .inl (cI, 6, .inl s2)), (x 6, .inl (cI, 64, .inl sb))] ++ (CR cI bn ((S_readC tx ln g).2) ++ (CR cI bt ((S_readC tx ln g).2) ++ (Z)))) zX1_meeting_inX1 tyX1 tyX1_ok nmX1 0 rfl rfl 3 (by decide) rfl rfl rfl (Nat.le_of_ble_eq_true rfl) zX1_meeting_f23 dX1_meeting_25 rfl ?_
    refine g_aload_n F dX1_meeting_28 rfl 0 rfl ?_
    refine g_iconst F (v := 0) dX1_meeting_29 (by decide) ?_
    refine g_put F ([(x 0, .inr (1, [.ref (bn 0), .ref (bt 0), .ref (x 1), .int 0, .ref (x 2), .int 0, .ref (x 3), .int (nI ln), .ref (x 4), .ref (x 5), .int (nI se), .long sd, .ref (x 6)])), (x 1, .inl (cQ, 14, .inr (.inr (.inr (.inr pa))))), (x 2, .inl (cQ, 2, .inr (.inr (.inr (.inr sl))))), (x 3, .inl (cI, 60, .inl tx)), (x 4, .inl (cI, 6, .inl s1)), (x 5, .inl (cI, 6, .inl s2)), (x 6, .inl (cI, 64, .inl sb))] ++ (CR cI bn ((S_readC tx ln g).2) ++ (CR cI bt ((S_readC tx ln g).2) ++ (Z)))) zX1_meeting_inX1 tyX1 tyX1_ok nmX1 0 rfl rfl 5 (by decide) rfl rfl rfl (Nat.le_of_ble_eq_true rfl) zX1_meeting_f30 dX1_meeting_30 rfl ?_
    refine g_aload_n F dX1_meeting_33 rfl 0 rfl ?_
    refine g_get F (.ref (bn 0)) zX1_meeting_inX1 0 rfl rfl 0 (by decide) rfl zX1_meeting_f10 dX1_meeting_34 ?_
    refine g_get F (.int (((S_readC tx ln g).2) 70)) zX1_meeting_inX0 7 rfl rfl 3 (by decide) rfl zX1_meeting_f64 dX1_meeting_37 ?_
    exact g_endI (hR _ _ dX1_meeting_40) rfl rfl
  · exact absurd h c1
