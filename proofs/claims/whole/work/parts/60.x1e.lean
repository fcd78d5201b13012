theorem zX1_remember_f10 : Cond.fieldLink RX1 10 (TX1 0).1 (TX1 0).2.1 (TX1 0).2.2.1 ∈ wsX1_remember := by decide +kernel
theorem zX1_remember_f19 : Cond.fieldLink RX1 19 (TX1 2).1 (TX1 2).2.1 (TX1 2).2.2.1 ∈ wsX1_remember := by decide +kernel
theorem zX1_remember_f23 : Cond.fieldLink RX1 23 (TX1 3).1 (TX1 3).2.1 (TX1 3).2.2.1 ∈ wsX1_remember := by decide +kernel
theorem zX1_remember_inX1 : ∀ w ∈ u_ws RX1 TX1 13, w ∈ wsX1_remember := by decide +kernel
set_option maxHeartbeats 1000000 in
set_option maxRecDepth 100000 in
theorem kX1_remember_a (l : Launch) (D : va_G) (cI cZ cQ : ClassId) (x bn bt : Nat → Nat) (pa sl : Nat → Option Nat) (ac : Nat) (kb : Int32) (tx : Row) (ln : Nat) (s1 s2 : Row) (se : Nat) (sd : Int64) (sb f g : Row) (Z : va_W) (pb qb : Nat → Nat → Nat) (pr qr : Nat → Row) (ix : Nat → Nat) (hpa : ∀ i, i < 14 → ix i < 14 ∧ pa i = some (pb (ix i) 0)) (ha : ac < 14) : Ct l D (gTy cI cZ cQ) yX1_remember wsX1_remember ({ frames := 2, cells := 0, slots := 0, locals := 60 }) [.ref (x 0)] (XW cI cQ x bn bt pa sl ac kb tx ln s1 s2 se sd sb f g (ZW cI pb pr qb qr)) none (XW cI cQ x bn bt pa sl (ac + 1) kb tx ln s1 s2 se sd sb f g (ZW cI pb (updR pr (ix ac) f) qb qr)) := by
  refine ct_ofV (cc := cX1_remember) (nL := 3) (own := RX1) (by decide) rfl rfl ⟨rfl, rfl⟩ (Nat.le_of_ble_eq_true rfl) XZ_same (fun p e s m below meth c A Q F hR => ?_)
  refine g_aw ([(x 0, .inr (1, [.ref (bn 0), .ref (bt 0), .ref (x 1), .int (nI ac), .ref (x 2), .int kb, .ref (x 3), .int (nI ln), .ref (x 4), .ref (x 5), .int (nI se), .long sd, .ref (x 6)])), (x 1, .inl (cQ, 14, .inr (.inr (.inr (.inr pa))))), (x 2, .inl (cQ, 2, .inr (.inr (.inr (.inr sl))))), (x 3, .inl (cI, 60, .inl tx)), (x 4, .inl (cI, 6, .inl s1)), (x 5, .inl (cI, 6, .inl s2)), (x 6, .inl (cI, 64, .inl sb))] ++ (CR cI bn f ++ (CR cI bt g ++ (ZW cI pb pr qb qr)))) rfl ?_
  refine g_aload_n F dX1_remember_0 rfl 0 rfl ?_
  refine g_get F (.int (nI ac)) zX1_remember_inX1 0 rfl rfl 3 (by decide) rfl zX1_remember_f23 dX1_remember_1 ?_
  refine g_bipush F (v := 14) dX1_remember_4 (by decide) ?_
  refine g_icmp_lt F 58 dX1_remember_6 (by decide) (fun c1 => ?_) (fun c1 => ?_)
  · refine g_aload_n F dX1_remember_58 rfl 0 rfl ?_
    refine g_get F (.ref (x 1)) zX1_remember_inX1 0 rfl rfl 2 (by decide) rfl zX1_remember_f19 dX1_remember_59 ?_
    refine g_aload_n F dX1_remember_62 rfl 0 rfl ?_
    refine g_get F (.int (nI ac)) zX1_remember_inX1 0 rfl rfl 3 (by decide) rfl zX1_remember_f23 dX1_remember_63 ?_
    refine g_aald F 1 2 rfl rfl (by omega) (by decide) (hpa ac ha).2 dX1_remember_66 ?_
    refine g_aload_n F dX1_remember_67 rfl 0 rfl ?_
    refine g_get F (.ref (bn 0)) zX1_remember_inX1 0 rfl rfl 0 (by decide) rfl zX1_remember_f10 dX1_remember_68 ?_
    obtain ⟨w1_2, hp_2, hq_2, hr_2⟩ := zw_past (cI := cI) (pb := pb) (qb := qb) (pr := pr) (qr := qr) (k := ix ac) (hpa ac ha).1 ([(x 0, .inr (1, [.ref (bn 0), .ref (bt 0), .ref (x 1), .int (nI ac), .ref (x 2), .int kb, .ref (x 3), .int (nI ln), .ref (x 4), .ref (x 5), .int (nI se), .long sd, .ref (x 6)])), (x 1, .inl (cQ, 14, .inr (.inr (.inr (.inr pa))))), (x 2, .inl (cQ, 2, .inr (.inr (.inr (.inr sl))))), (x 3, .inl (cI, 60, .inl tx)), (x 4, .inl (cI, 6, .inl s1)), (x 5, .inl (cI, 6, .inl s2)), (x 6, .inl (cI, 64, .inl sb))]) (CR cI bn f) (CR cI bt g)
    refine g_tf F (n := 0) (bd := pb (ix ac)) (bs := bn) (st := []) ([(x 0, .inr (1, [.ref (bn 0), .ref (bt 0), .ref (x 1), .int (nI ac), .ref (x 2), .int kb, .ref (x 3), .int (nI ln), .ref (x 4), .ref (x 5), .int (nI se), .long sd, .ref (x 6)])), (x 1, .inl (cQ, 14, .inr (.inr (.inr (.inr pa))))), (x 2, .inl (cQ, 2, .inr (.inr (.inr (.inr sl))))), (x 3, .inl (cI, 60, .inl tx)), (x 4, .inl (cI, 6, .inl s1)), (x 5, .inl (cI, 6, .inl s2)), (x 6, .inl (cI, 64, .inl sb))] ++ (CR cI bn f ++ (CR cI bt g ++ (ZW cI pb (updR pr (ix ac) f) qb qr)))) (kX0_takeFrom l D cI cZ cQ (pb (ix ac)) (bn) (pr (ix ac)) f) hp_2 (hr_2 f) (cwV 1 F.2.2.2.2.1 gX1_remember_X0_takeFrom rfl rfl rfl (by decide +kernel) ⟨Nat.le_of_ble_eq_true rfl, Nat.le_of_ble_eq_true rfl⟩) rfl (Nat.le_of_ble_eq_true rfl) ⟨Nat.zero_le _, Nat.zero_le _⟩ dX1_remember_71 ?_
    refine g_aload_n F dX1_remember_74 rfl 0 rfl ?_
    refine g_dup F dX1_remember_75 rfl ?_
    refine g_get F (.int (nI ac)) zX1_remember_inX1 0 rfl rfl 3 (by decide) rfl zX1_remember_f23 dX1_remember_76 ?_
    refine g_iconst F (v := 1) dX1_remember_79 (by decide) ?_
    refine g_iadd F dX1_remember_80 ?_
    refine g_as (nI (ac + 1)) (nI_add ac 1) ?_
    refine g_put F ([(x 0, .inr (1, [.ref (bn 0), .ref (bt 0), .ref (x 1), .int (nI (ac + 1)), .ref (x 2), .int kb, .ref (x 3), .int (nI ln), .ref (x 4), .ref (x 5), .int (nI se), .long sd, .ref (x 6)])), (x 1, .inl (cQ, 14, .inr (.inr (.inr (.inr pa))))), (x 2, .inl (cQ, 2, .inr (.inr (.inr (.inr sl))))), (x 3, .inl (cI, 60, .inl tx)), (x 4, .inl (cI, 6, .inl s1)), (x 5, .inl (cI, 6, .inl s2)), (x 6, .inl (cI, 64, .inl sb))] ++ (CR cI bn f ++ (CR cI bt g ++ (ZW cI pb (updR pr (ix ac) f) qb qr)))) zX1_remember_inX1 tyX1 tyX1_ok nmX1 0 rfl rfl 3 (by decide) rfl rfl rfl (Nat.le_of_ble_eq_true rfl) zX1_remember_f23 dX1_remember_81 rfl ?_
    exact g_endV (hR _ _ dX1_remember_84) rfl
  · exact absurd (nI_lt (b := 14) ha (by decide)) c1
set_option maxHeartbeats 1000000 in
set_option maxRecDepth 100000 in
theorem kX1_remember_b (l : Launch) (D : va_G) (cI cZ cQ : ClassId) (x bn bt : Nat → Nat) (pa sl : Nat → Option Nat) (ac : Nat) (kb : Int32) (tx : Row) (ln : Nat) (s1 s2 : Row) (se : Nat) (sd : Int64) (sb f g : Row) (Z : va_W) (pb qb : Nat → Nat → Nat) (pr qr : Nat → Row) (ix : Nat → Nat) (hpa : ∀ i, i < 14 → ix i < 14 ∧ pa i = some (pb (ix i) 0)) (ha : ac = 14) : Ct l D (gTy cI cZ cQ) yX1_remember wsX1_remember ({ frames := 2, cells := 0, slots := 0, locals := 60 }) [.ref (x 0)] (XW cI cQ x bn bt pa sl ac kb tx ln s1 s2 se sd sb f g (ZW cI pb pr qb qr)) none (XW cI cQ x bn bt (rotF pa) sl 14 kb tx ln s1 s2 se sd sb f g (ZW cI pb (updR pr (ix 0) f) qb qr)) := by
  refine ct_ofV (cc := cX1_remember) (nL := 3) (own := RX1) (by decide) rfl rfl ⟨rfl, rfl⟩ (Nat.le_of_ble_eq_true rfl) XZ_same (fun p e s m below meth c A Q F hR => ?_)
  refine g_aw ([(x 0, .inr (1, [.ref (bn 0), .ref (bt 0), .ref (x 1), .int (nI ac), .ref (x 2), .int kb, .ref (x 3), .int (nI ln), .ref (x 4), .ref (x 5), .int (nI se), .long sd, .ref (x 6)])), (x 1, .inl (cQ, 14, .inr (.inr (.inr (.inr pa))))), (x 2, .inl (cQ, 2, .inr (.inr (.inr (.inr sl))))), (x 3, .inl (cI, 60, .inl tx)), (x 4, .inl (cI, 6, .inl s1)), (x 5, .inl (cI, 6, .inl s2)), (x 6, .inl (cI, 64, .inl sb))] ++ (CR cI bn f ++ (CR cI bt g ++ (ZW cI pb pr qb qr)))) rfl ?_
  refine g_aload_n F dX1_remember_0 rfl 0 rfl ?_
  refine g_get F (.int (nI ac)) zX1_remember_inX1 0 rfl rfl 3 (by decide) rfl zX1_remember_f23 dX1_remember_1 ?_
  refine g_bipush F (v := 14) dX1_remember_4 (by decide) ?_
  refine g_icmp_lt F 58 dX1_remember_6 (by decide) (fun c1 => ?_) (fun c1 => ?_)
  · exact absurd c1 (by rw [ha]; decide)
  · refine g_aload_n F dX1_remember_9 rfl 0 rfl ?_
    refine g_get F (.ref (x 1)) zX1_remember_inX1 0 rfl rfl 2 (by decide) rfl zX1_remember_f19 dX1_remember_10 ?_
    refine g_iconst F (v := 0) dX1_remember_13 (by decide) ?_
    refine g_as (nI 0) rfl ?_
    refine g_aald F 1 2 rfl rfl (by omega) (by decide) (hpa 0 (by omega)).2 dX1_remember_14 ?_
    refine g_astore_n F (lv' := [(0, .ref (x 0)), (1, .ref (pb (ix 0) 0))]) dX1_remember_15 rfl (by decide) [1, 0] rfl ?_
    refine g_iconst F (v := 1) dX1_remember_16 (by decide) ?_
    refine g_istore_n F (lv' := [(0, .ref (x 0)), (1, .ref (pb (ix 0) 0)), (2, .int 1)]) dX1_remember_17 rfl (by decide) [1, 2, 0] rfl ?_
    refine g_all (w0 := [(x 0, .inr (1, [.ref (bn 0), .ref (bt 0), .ref (x 1), .int (nI ac), .ref (x 2), .int kb, .ref (x 3), .int (nI ln), .ref (x 4), .ref (x 5), .int (nI se), .long sd, .ref (x 6)])), (x 1, .inl (cQ, 14, .inr (.inr (.inr (.inr (rotN pa 0)))))), (x 2, .inl (cQ, 2, .inr (.inr (.inr (.inr sl))))), (x 3, .inl (cI, 60, .inl tx)), (x 4, .inl (cI, 6, .inl s1)), (x 5, .inl (cI, 6, .inl s2)), (x 6, .inl (cI, 64, .inl sb))] ++ (CR cI bn f ++ (CR cI bt g ++ (ZW cI pb pr qb qr)))) (lv0 := [(0, .ref (x 0)), (1, .ref (pb (ix 0) 0)), (2, .int (nI (0 + 1)))]) (st0 := []) (by rw [rotN_0]) rfl rfl ?_
    refine g_for 13 (fun i => True) (fun i => [(x 0, .inr (1, [.ref (bn 0), .ref (bt 0), .ref (x 1), .int (nI ac), .ref (x 2), .int kb, .ref (x 3), .int (nI ln), .ref (x 4), .ref (x 5), .int (nI se), .long sd, .ref (x 6)])), (x 1, .inl (cQ, 14, .inr (.inr (.inr (.inr (rotN pa i)))))), (x 2, .inl (cQ, 2, .inr (.inr (.inr (.inr sl))))), (x 3, .inl (cI, 60, .inl tx)), (x 4, .inl (cI, 6, .inl s1)), (x 5, .inl (cI, 6, .inl s2)), (x 6, .inl (cI, 64, .inl sb))] ++ (CR cI bn f ++ (CR cI bt g ++ (ZW cI pb pr qb qr)))) (fun i => [(0, .ref (x 0)), (1, .ref (pb (ix 0) 0)), (2, .int (nI (i + 1)))]) (fun i hi hIi ihi => ?_) 0 (Nat.zero_le _) trivial
    refine g_iload_n F dX1_remember_18 rfl 2 rfl ?_
    refine g_bipush F (v := 14) dX1_remember_19 (by decide) ?_
    refine g_icmp_ge F 44 dX1_remember_21 (by decide) (fun c2 => ?_) (fun c2 => ?_)
    · have hx_c2 : 13 = i := by have := (nI_leI (a := 14) (b := i + 1) (by decide) (by omega)).mp c2; omega
      subst hx_c2
      refine g_aload_n F dX1_remember_44 rfl 0 rfl ?_
      refine g_get F (.ref (x 1)) zX1_remember_inX1 0 rfl rfl 2 (by decide) rfl zX1_remember_f19 dX1_remember_45 ?_
      refine g_bipush F (v := 13) dX1_remember_48 (by decide) ?_
      refine g_aload_n F dX1_remember_50 rfl 1 rfl ?_
      refine g_as2r (nI 13) rfl ?_
      refine g_aastM F (rc := (RX0, TX0, 14)) ([(x 0, .inr (1, [.ref (bn 0), .ref (bt 0), .ref (x 1), .int (nI ac), .ref (x 2), .int kb, .ref (x 3), .int (nI ln), .ref (x 4), .ref (x 5), .int (nI se), .long sd, .ref (x 6)])), (x 1, .inl (cQ, 14, .inr (.inr (.inr (.inr (va_up (rotN pa 13) 13 (some (pb (ix 0) 0)))))))), (x 2, .inl (cQ, 2, .inr (.inr (.inr (.inr sl))))), (x 3, .inl (cI, 60, .inl tx)), (x 4, .inl (cI, 6, .inl s1)), (x 5, .inl (cI, 6, .inl s2)), (x 6, .inl (cI, 64, .inl sb))] ++ (CR cI bn f ++ (CR cI bt g ++ (ZW cI pb pr qb qr)))) 1 2 0 rfl rfl (zw_mem (cI := cI) (pb := pb) (qb := qb) (pr := pr) (qr := qr) (k := ix 0) (hpa 0 (by omega)).1 ([(x 0, .inr (1, [.ref (bn 0), .ref (bt 0), .ref (x 1), .int (nI ac), .ref (x 2), .int kb, .ref (x 3), .int (nI ln), .ref (x 4), .ref (x 5), .int (nI se), .long sd, .ref (x 6)])), (x 1, .inl (cQ, 14, .inr (.inr (.inr (.inr (rotN pa 13)))))), (x 2, .inl (cQ, 2, .inr (.inr (.inr (.inr sl))))), (x 3, .inl (cI, 60, .inl tx)), (x 4, .inl (cI, 6, .inl s1)), (x 5, .inl (cI, 6, .inl s2)), (x 6, .inl (cI, 64, .inl sb))]) (CR cI bn f) (CR cI bt g)) rfl (by omega) (by decide) dX1_remember_51 rfl ?_
      refine g_aw ([(x 0, .inr (1, [.ref (bn 0), .ref (bt 0), .ref (x 1), .int (nI ac), .ref (x 2), .int kb, .ref (x 3), .int (nI ln), .ref (x 4), .ref (x 5), .int (nI se), .long sd, .ref (x 6)])), (x 1, .inl (cQ, 14, .inr (.inr (.inr (.inr (rotF pa)))))), (x 2, .inl (cQ, 2, .inr (.inr (.inr (.inr sl))))), (x 3, .inl (cI, 60, .inl tx)), (x 4, .inl (cI, 6, .inl s1)), (x 5, .inl (cI, 6, .inl s2)), (x 6, .inl (cI, 64, .inl sb))] ++ (CR cI bn f ++ (CR cI bt g ++ (ZW cI pb pr qb qr)))) (by rw [rot_f (hpa 0 (by omega)).2]) ?_
      refine g_aload_n F dX1_remember_52 rfl 0 rfl ?_
      refine g_bipush F (v := 13) dX1_remember_53 (by decide) ?_
      refine g_put F ([(x 0, .inr (1, [.ref (bn 0), .ref (bt 0), .ref (x 1), .int 13, .ref (x 2), .int kb, .ref (x 3), .int (nI ln), .ref (x 4), .ref (x 5), .int (nI se), .long sd, .ref (x 6)])), (x 1, .inl (cQ, 14, .inr (.inr (.inr (.inr (rotF pa)))))), (x 2, .inl (cQ, 2, .inr (.inr (.inr (.inr sl))))), (x 3, .inl (cI, 60, .inl tx)), (x 4, .inl (cI, 6, .inl s1)), (x 5, .inl (cI, 6, .inl s2)), (x 6, .inl (cI, 64, .inl sb))] ++ (CR cI bn f ++ (CR cI bt g ++ (ZW cI pb pr qb qr)))) zX1_remember_inX1 tyX1 tyX1_ok nmX1 0 rfl rfl 3 (by decide) rfl rfl rfl (Nat.le_of_ble_eq_true rfl) zX1_remember_f23 dX1_remember_55 rfl ?_
      refine g_aload_n F dX1_remember_58 rfl 0 rfl ?_
      refine g_get F (.ref (x 1)) zX1_remember_inX1 0 rfl rfl 2 (by decide) rfl zX1_remember_f19 dX1_remember_59 ?_
      refine g_aload_n F dX1_remember_62 rfl 0 rfl ?_
      refine g_get F (.int 13) zX1_remember_inX1 0 rfl rfl 3 (by decide) rfl zX1_remember_f23 dX1_remember_63 ?_
      refine g_as (nI 13) rfl ?_
      refine g_aald F 1 2 rfl rfl (by omega) (by decide) (rotF_13.trans (hpa 0 (by omega)).2) dX1_remember_66 ?_
      refine g_aload_n F dX1_remember_67 rfl 0 rfl ?_
      refine g_get F (.ref (bn 0)) zX1_remember_inX1 0 rfl rfl 0 (by decide) rfl zX1_remember_f10 dX1_remember_68 ?_
      obtain ⟨w1_3, hp_3, hq_3, hr_3⟩ := zw_past (cI := cI) (pb := pb) (qb := qb) (pr := pr) (qr := qr) (k := ix 0) (hpa 0 (by omega)).1 ([(x 0, .inr (1, [.ref (bn 0), .ref (bt 0), .ref (x 1), .int 13, .ref (x 2), .int kb, .ref (x 3), .int (nI ln), .ref (x 4), .ref (x 5), .int (nI se), .long sd, .ref (x 6)])), (x 1, .inl (cQ, 14, .inr (.inr (.inr (.inr (rotF pa)))))), (x 2, .inl (cQ, 2, .inr (.inr (.inr (.inr sl))))), (x 3, .inl (cI, 60, .inl tx)), (x 4, .inl (cI, 6, .inl s1)), (x 5, .inl (cI, 6, .inl s2)), (x 6, .inl (cI, 64, .inl sb))]) (CR cI bn f) (CR cI bt g)
      refine g_tf F (n := 0) (bd := pb (ix 0)) (bs := bn) (st := []) ([(x 0, .inr (1, [.ref (bn 0), .ref (bt 0), .ref (x 1), .int (nI 13), .ref (x 2), .int kb, .ref (x 3), .int (nI ln), .ref (x 4), .ref (x 5), .int (nI se), .long sd, .ref (x 6)])), (x 1, .inl (cQ, 14, .inr (.inr (.inr (.inr (rotF pa)))))), (x 2, .inl (cQ, 2, .inr (.inr (.inr (.inr sl))))), (x 3, .inl (cI, 60, .inl tx)), (x 4, .inl (cI, 6, .inl s1)), (x 5, .inl (cI, 6, .inl s2)), (x 6, .inl (cI, 64, .inl sb))] ++ (CR cI bn f ++ (CR cI bt g ++ (ZW cI pb (updR pr (ix 0) f) qb qr)))) (kX0_takeFrom l D cI cZ cQ (pb (ix 0)) (bn) (pr (ix 0)) f) hp_3 (hr_3 f) (cwV 1 F.2.2.2.2.1 gX1_remember_X0_takeFrom rfl rfl rfl (by decide +kernel) ⟨Nat.le_of_ble_eq_true rfl, Nat.le_of_ble_eq_true rfl⟩) rfl (Nat.le_of_ble_eq_true rfl) ⟨Nat.zero_le _, Nat.zero_le _⟩ dX1_remember_71 ?_
      refine g_aload_n F dX1_remember_74 rfl 0 rfl ?_
      refine g_dup F dX1_remember_75 rfl ?_
      refine g_get F (.int (nI 13)) zX1_remember_inX1 0 rfl rfl 3 (by decide) rfl zX1_remember_f23 dX1_remember_76 ?_
      refine g_iconst F (v := 1) dX1_remember_79 (by decide) ?_
      refine g_iadd F dX1_remember_80 ?_
      refine g_as (nI (13 + 1)) (nI_add 13 1) ?_
      refine g_put F ([(x 0, .inr (1, [.ref (bn 0), .ref (bt 0), .ref (x 1), .int (nI (13 + 1)), .ref (x 2), .int kb, .ref (x 3), .int (nI ln), .ref (x 4), .ref (x 5), .int (nI se), .long sd, .ref (x 6)])), (x 1, .inl (cQ, 14, .inr (.inr (.inr (.inr (rotF pa)))))), (x 2, .inl (cQ, 2, .inr (.inr (.inr (.inr sl))))), (x 3, .inl (cI, 60, .inl tx)), (x 4, .inl (cI, 6, .inl s1)), (x 5, .inl (cI, 6, .inl s2)), (x 6, .inl (cI, 64, .inl sb))] ++ (CR cI bn f ++ (CR cI bt g ++ (ZW cI pb (updR pr (ix 0) f) qb qr)))) zX1_remember_inX1 tyX1 tyX1_ok nmX1 0 rfl rfl 3 (by decide) rfl rfl rfl (Nat.le_of_ble_eq_true rfl) zX1_remember_f23 dX1_remember_81 rfl ?_
      exact g_endV (hR _ _ dX1_remember_84) rfl
    · have hlti : i < 13 := by have := nlt_of (a := i + 1) (b := 14) (by omega) (by decide) c2; omega
      refine g_aload_n F dX1_remember_24 rfl 0 rfl ?_
      refine g_get F (.ref (x 1)) zX1_remember_inX1 0 rfl rfl 2 (by decide) rfl zX1_remember_f19 dX1_remember_25 ?_
      refine g_iload_n F dX1_remember_28 rfl 2 rfl ?_
      refine g_iconst F (v := 1) dX1_remember_29 (by decide) ?_
      refine g_isub F dX1_remember_30 ?_
      refine g_as (nI i) (pk_sub (a := i + 1) (b := 1) (by omega)) ?_
      refine g_aload_n F dX1_remember_31 rfl 0 rfl ?_
      refine g_get F (.ref (x 1)) zX1_remember_inX1 0 rfl rfl 2 (by decide) rfl zX1_remember_f19 dX1_remember_32 ?_
      refine g_iload_n F dX1_remember_35 rfl 2 rfl ?_
      refine g_aald F 1 2 rfl rfl (by omega) (by decide) ((rotN_ge (by omega)).trans (hpa (i + 1) (by omega)).2) dX1_remember_36 ?_
      refine g_aastM F (rc := (RX0, TX0, 14)) ([(x 0, .inr (1, [.ref (bn 0), .ref (bt 0), .ref (x 1), .int (nI ac), .ref (x 2), .int kb, .ref (x 3), .int (nI ln), .ref (x 4), .ref (x 5), .int (nI se), .long sd, .ref (x 6)])), (x 1, .inl (cQ, 14, .inr (.inr (.inr (.inr (va_up (rotN pa i) i (some (pb (ix (i + 1)) 0)))))))), (x 2, .inl (cQ, 2, .inr (.inr (.inr (.inr sl))))), (x 3, .inl (cI, 60, .inl tx)), (x 4, .inl (cI, 6, .inl s1)), (x 5, .inl (cI, 6, .inl s2)), (x 6, .inl (cI, 64, .inl sb))] ++ (CR cI bn f ++ (CR cI bt g ++ (ZW cI pb pr qb qr)))) 1 2 0 rfl rfl (zw_mem (cI := cI) (pb := pb) (qb := qb) (pr := pr) (qr := qr) (k := ix (i + 1)) (hpa (i + 1) (by omega)).1 ([(x 0, .inr (1, [.ref (bn 0), .ref (bt 0), .ref (x 1), .int (nI ac), .ref (x 2), .int kb, .ref (x 3), .int (nI ln), .ref (x 4), .ref (x 5), .int (nI se), .long sd, .ref (x 6)])), (x 1, .inl (cQ, 14, .inr (.inr (.inr (.inr (rotN pa i)))))), (x 2, .inl (cQ, 2, .inr (.inr (.inr (.inr sl))))), (x 3, .inl (cI, 60, .inl tx)), (x 4, .inl (cI, 6, .inl s1)), (x 5, .inl (cI, 6, .inl s2)), (x 6, .inl (cI, 64, .inl sb))]) (CR cI bn f) (CR cI bt g)) rfl (by omega) (by decide) dX1_remember_37 rfl ?_
      refine g_iinc F (lv' := [(0, .ref (x 0)), (1, .ref (pb (ix 0) 0)), (2, .int (nI (i + 1 + 1)))]) (nI (i + 1 + 1)) dX1_remember_38 2 rfl (nI_add (i + 1) 1) (by decide) [1, 2, 0] rfl ?_
      refine g_goto F 18 dX1_remember_41 (by decide) ?_
      refine g_all (w0 := [(x 0, .inr (1, [.ref (bn 0), .ref (bt 0), .ref (x 1), .int (nI ac), .ref (x 2), .int kb, .ref (x 3), .int (nI ln), .ref (x 4), .ref (x 5), .int (nI se), .long sd, .ref (x 6)])), (x 1, .inl (cQ, 14, .inr (.inr (.inr (.inr (rotN pa (i + 1))))))), (x 2, .inl (cQ, 2, .inr (.inr (.inr (.inr sl))))), (x 3, .inl (cI, 60, .inl tx)), (x 4, .inl (cI, 6, .inl s1)), (x 5, .inl (cI, 6, .inl s2)), (x 6, .inl (cI, 64, .inl sb))] ++ (CR cI bn f ++ (CR cI bt g ++ (ZW cI pb pr qb qr)))) (lv0 := [(0, .ref (x 0)), (1, .ref (pb (ix 0) 0)), (2, .int (nI (i + 1 + 1)))]) (st0 := []) (by rw [rot_s (hpa (i + 1) (by omega)).2]) rfl rfl ?_
      exact ihi hlti trivial
theorem kX1_remember (l : Launch) (D : va_G) (cI cZ cQ : ClassId) (x bn bt : Nat → Nat) (pa sl : Nat → Option Nat) (ac : Nat) (kb : Int32) (tx : Row) (ln : Nat) (s1 s2 : Row) (se : Nat) (sd : Int64) (sb f g : Row) (Z : va_W) (pb qb : Nat → Nat → Nat) (pr qr : Nat → Row) (ix : Nat → Nat) (hpa : ∀ i, i < 14 → ix i < 14 ∧ pa i = some (pb (ix i) 0)) (ha : ac ≤ 14) : Ct l D (gTy cI cZ cQ) yX1_remember wsX1_remember ({ frames := 2, cells := 0, slots := 0, locals := 60 }) [.ref (x 0)] (XW cI cQ x bn bt pa sl ac kb tx ln s1 s2 se sd sb f g (ZW cI pb pr qb qr)) none (XW cI cQ x bn bt (S_rpa pa ac) sl (S_inc14 ac) kb tx ln s1 s2 se sd sb f g (ZW cI pb (updR pr (S_rk ix ac) f) qb qr)) := by
  unfold S_rpa S_inc14 S_rk
  by_cases h : ac < 14
  · rw [if_pos h, if_pos h, if_pos h]
    exact kX1_remember_a l D cI cZ cQ x bn bt pa sl ac kb tx ln s1 s2 se sd sb f g Z pb qb pr qr ix hpa h
  · rw [if_neg h, if_neg h, if_neg h]
    exact kX1_remember_b l D cI cZ cQ x bn bt pa sl ac kb tx ln s1 s2 se sd sb f g Z pb qb pr qr ix hpa (by omega)
set_option maxHeartbeats 1000000 in
set_option maxRecDepth 100000 in
theorem kX1_join_bad (l : Launch) (D : va_G) (cI cZ cQ : ClassId) (x bn bt : Nat → Nat) (pa sl : Nat → Option Nat) (ac : Nat) (kb : Int32) (tx : Row) (ln : Nat) (s1 s2 : Row) (se : Nat) (sd : Int64) (sb f g : Row) (Z : va_W) (v : Int32) (hb : S_mem v = false) : Ct l D (gTy cI cZ cQ) yX1_join wsX1_join ({ frames := 9, cells := 0, slots := 0, locals := 300 }) [.ref (x 0), .int v] (XW cI cQ x bn bt pa sl ac kb tx ln s1 s2 se sd sb f g Z) (some (.int (-1))) (XW cI cQ x bn bt pa sl ac kb tx ln s1 s2 se sd sb f g Z) := by
  refine ct_ofI (cc := cX1_join) (nL := 2) (own := RX1) (by decide) rfl rfl ⟨rfl, rfl⟩ (Nat.le_of_ble_eq_true rfl) XW_same (fun p e s m below meth c A Q F hR => ?_)
  refine g_aw ([(x 0, .inr (1, [.ref (bn 0), .ref (bt 0), .ref (x 1), .int (nI ac), .ref (x 2), .int kb, .ref (x 3), .int (nI ln), .ref (x 4), .ref (x 5), .int (nI se), .long sd, .ref (x 6)])), (x 1, .inl (cQ, 14, .inr (.inr (.inr (.inr pa))))), (x 2, .inl (cQ, 2, .inr (.inr (.inr (.inr sl))))), (x 3, .inl (cI, 60, .inl tx)), (x 4, .inl (cI, 6, .inl s1)), (x 5, .inl (cI, 6, .inl s2)), (x 6, .inl (cI, 64, .inl sb))] ++ (CR cI bn f ++ (CR cI bt g ++ (Z)))) rfl ?_
  refine g_iload_n F dX1_join_0 rfl 1 rfl ?_
  refine g_callSn F (As := [.int v]) (st := []) (kX1_isMember l D cI cZ cQ v) (va_cwS 1 F.2.2.2.2.1 gX1_join_X1_isMember rfl rfl rfl (by decide +kernel) ⟨Nat.le_of_ble_eq_true rfl, Nat.le_of_ble_eq_true rfl⟩) rfl rfl (Nat.le_of_ble_eq_true rfl) ⟨Nat.zero_le _, Nat.zero_le _⟩ dX1_join_1 ?_
  refine g_bne F 9 dX1_join_4 (by decide) (fun c1 => ?_) (fun c1 => ?_)
  · exact absurd c1 (by rw [hb]; decide)
  · refine g_iconst F (v := (-1)) dX1_join_7 (by decide) ?_
    exact g_endI (hR _ _ dX1_join_8) rfl rfl
theorem zX1_join_f10 : Cond.fieldLink RX1 10 (TX1 0).1 (TX1 0).2.1 (TX1 0).2.2.1 ∈ wsX1_join := by decide +kernel
theorem zX1_join_f96 : Cond.fieldLink RX1 96 (TX0 7).1 (TX0 7).2.1 (TX0 7).2.2.1 ∈ wsX1_join := by decide +kernel
theorem zX1_join_inX0 : ∀ w ∈ u_ws RX0 TX0 14, w ∈ wsX1_join := by decide +kernel
theorem zX1_join_inX1 : ∀ w ∈ u_ws RX1 TX1 13, w ∈ wsX1_join := by decide +kernel
set_option maxHeartbeats 1000000 in
set_option maxRecDepth 100000 in
theorem kX1_join_late (l : Launch) (D : va_G) (cI cZ cQ : ClassId) (x bn bt : Nat → Nat) (pa sl : Nat → Option Nat) (ac : Nat) (kb : Int32) (tx : Row) (ln : Nat) (s1 s2 : Row) (se : Nat) (sd : Int64) (sb f g : Row) (Z : va_W) (k : Nat) (hk : k < 6) (h0 : ¬ f k = 0) : Ct l D (gTy cI cZ cQ) yX1_join wsX1_join ({ frames := 9, cells := 0, slots := 0, locals := 300 }) [.ref (x 0), .int (nI k)] (XW cI cQ x bn bt pa sl ac kb tx ln s1 s2 se sd sb f g Z) (some (.int (-3))) (XW cI cQ x bn bt pa sl ac kb tx ln s1 s2 se sd sb f g Z) := by
  refine ct_ofI (cc := cX1_join) (nL := 2) (own := RX1) (by decide) rfl rfl ⟨rfl, rfl⟩ (Nat.le_of_ble_eq_true rfl) XW_same (fun p e s m below meth c A Q F hR => ?_)
  refine g_aw ([(x 0, .inr (1, [.ref (bn 0), .ref (bt 0), .ref (x 1), .int (nI ac), .ref (x 2), .int kb, .ref (x 3), .int (nI ln), .ref (x 4), .ref (x 5), .int (nI se), .long sd, .ref (x 6)])), (x 1, .inl (cQ, 14, .inr (.inr (.inr (.inr pa))))), (x 2, .inl (cQ, 2, .inr (.inr (.inr (.inr sl))))), (x 3, .inl (cI, 60, .inl tx)), (x 4, .inl (cI, 6, .inl s1)), (x 5, .inl (cI, 6, .inl s2)), (x 6, .inl (cI, 64, .inl sb))] ++ (CR cI bn f ++ (CR cI bt g ++ (Z)))) rfl ?_
  refine g_iload_n F dX1_join_0 rfl 1 rfl ?_
  refine g_callSn F (As := [.int (nI k)]) (st := []) (kX1_isMember l D cI cZ cQ (nI k)) (va_cwS 1 F.2.2.2.2.1 gX1_join_X1_isMember rfl rfl rfl (by decide +kernel) ⟨Nat.le_of_ble_eq_true rfl, Nat.le_of_ble_eq_true rfl⟩) rfl rfl (Nat.le_of_ble_eq_true rfl) ⟨Nat.zero_le _, Nat.zero_le _⟩ dX1_join_1 ?_
  refine g_bne F 9 dX1_join_4 (by decide) (fun c1 => ?_) (fun c1 => ?_)
  · refine g_aload_n F dX1_join_9 rfl 0 rfl ?_
    refine g_get F (.ref (bn 0)) zX1_join_inX1 0 rfl rfl 0 (by decide) rfl zX1_join_f10 dX1_join_10 ?_
    refine g_get F (.ref (bn 1)) zX1_join_inX0 7 rfl rfl 7 (by decide) rfl zX1_join_f96 dX1_join_13 ?_
    refine g_iload_n F dX1_join_16 rfl 1 rfl ?_
    refine g_iald F (j := k) 8 0 rfl rfl (by omega) (by decide) dX1_join_17 ?_
    refine g_as (f (k)) rfl ?_
    refine g_if_eq F 24 dX1_join_18 (by decide) (fun c2 => ?_) (fun c2 => ?_)
    · exact absurd c2 h0
    · refine g_bipush F (v := (-3)) dX1_join_21 (by decide) ?_
      exact g_endI (hR _ _ dX1_join_23) rfl rfl
  · exact absurd c1 (by rw [mem_nI hk]; decide)
set_option maxHeartbeats 1000000 in
set_option maxRecDepth 100000 in
theorem kX1_leave_bad (l : Launch) (D : va_G) (cI cZ cQ : ClassId) (x bn bt : Nat → Nat) (pa sl : Nat → Option Nat) (ac : Nat) (kb : Int32) (tx : Row) (ln : Nat) (s1 s2 : Row) (se : Nat) (sd : Int64) (sb f g : Row) (Z : va_W) (v : Int32) (hb : S_mem v = false) : Ct l D (gTy cI cZ cQ) yX1_leave wsX1_leave ({ frames := 9, cells := 0, slots := 0, locals := 300 }) [.ref (x 0), .int v] (XW cI cQ x bn bt pa sl ac kb tx ln s1 s2 se sd sb f g Z) (some (.int (-1))) (XW cI cQ x bn bt pa sl ac kb tx ln s1 s2 se sd sb f g Z) := by
  refine ct_ofI (cc := cX1_leave) (nL := 2) (own := RX1) (by decide) rfl rfl ⟨rfl, rfl⟩ (Nat.le_of_ble_eq_true rfl) XW_same (fun p e s m below meth c A Q F hR => ?_)
  refine g_aw ([(x 0, .inr (1, [.ref (bn 0), .ref (bt 0), .ref (x 1), .int (nI ac), .ref (x 2), .int kb, .ref (x 3), .int (nI ln), .ref (x 4), .ref (x 5), .int (nI se), .long sd, .ref (x 6)])), (x 1, .inl (cQ, 14, .inr (.inr (.inr (.inr pa))))), (x 2, .inl (cQ, 2, .inr (.inr (.inr (.inr sl))))), (x 3, .inl (cI, 60, .inl tx)), (x 4, .inl (cI, 6, .inl s1)), (x 5, .inl (cI, 6, .inl s2)), (x 6, .inl (cI, 64, .inl sb))] ++ (CR cI bn f ++ (CR cI bt g ++ (Z)))) rfl ?_
  refine g_iload_n F dX1_leave_0 rfl 1 rfl ?_
  refine g_callSn F (As := [.int v]) (st := []) (kX1_isMember l D cI cZ cQ v) (va_cwS 1 F.2.2.2.2.1 gX1_leave_X1_isMember rfl rfl rfl (by decide +kernel) ⟨Nat.le_of_ble_eq_true rfl, Nat.le_of_ble_eq_true rfl⟩) rfl rfl (Nat.le_of_ble_eq_true rfl) ⟨Nat.zero_le _, Nat.zero_le _⟩ dX1_leave_1 ?_
  refine g_bne F 9 dX1_leave_4 (by decide) (fun c1 => ?_) (fun c1 => ?_)
  · exact absurd c1 (by rw [hb]; decide)
  · refine g_iconst F (v := (-1)) dX1_leave_7 (by decide) ?_
    exact g_endI (hR _ _ dX1_leave_8) rfl rfl
theorem zX1_leave_f10 : Cond.fieldLink RX1 10 (TX1 0).1 (TX1 0).2.1 (TX1 0).2.2.1 ∈ wsX1_leave := by decide +kernel
theorem zX1_leave_f96 : Cond.fieldLink RX1 96 (TX0 7).1 (TX0 7).2.1 (TX0 7).2.2.1 ∈ wsX1_leave := by decide +kernel
theorem zX1_leave_inX0 : ∀ w ∈ u_ws RX0 TX0 14, w ∈ wsX1_leave := by decide +kernel
theorem zX1_leave_inX1 : ∀ w ∈ u_ws RX1 TX1 13, w ∈ wsX1_leave := by decide +kernel
set_option maxHeartbeats 1000000 in
set_option maxRecDepth 100000 in
theorem kX1_leave_late (l : Launch) (D : va_G) (cI cZ cQ : ClassId) (x bn bt : Nat → Nat) (pa sl : Nat → Option Nat) (ac : Nat) (kb : Int32) (tx : Row) (ln : Nat) (s1 s2 : Row) (se : Nat) (sd : Int64) (sb f g : Row) (Z : va_W) (k : Nat) (hk : k < 6) (h0 : ¬ f k = 1) : Ct l D (gTy cI cZ cQ) yX1_leave wsX1_leave ({ frames := 9, cells := 0, slots := 0, locals := 300 }) [.ref (x 0), .int (nI k)] (XW cI cQ x bn bt pa sl ac kb tx ln s1 s2 se sd sb f g Z) (some (.int (-3))) (XW cI cQ x bn bt pa sl ac kb tx ln s1 s2 se sd sb f g Z) := by
  refine ct_ofI (cc := cX1_leave) (nL := 2) (own := RX1) (by decide) rfl rfl ⟨rfl, rfl⟩ (Nat.le_of_ble_eq_true rfl) XW_same (fun p e s m below meth c A Q F hR => ?_)
  refine g_aw ([(x 0, .inr (1, [.ref (bn 0), .ref (bt 0), .ref (x 1), .int (nI ac), .ref (x 2), .int kb, .ref (x 3), .int (nI ln), .ref (x 4), .ref (x 5), .int (nI se), .long sd, .ref (x 6)])), (x 1, .inl (cQ, 14, .inr (.inr (.inr (.inr pa))))), (x 2, .inl (cQ, 2, .inr (.inr (.inr (.inr sl))))), (x 3, .inl (cI, 60, .inl tx)), (x 4, .inl (cI, 6, .inl s1)), (x 5, .inl (cI, 6, .inl s2)), (x 6, .inl (cI, 64, .inl sb))] ++ (CR cI bn f ++ (CR cI bt g ++ (Z)))) rfl ?_
  refine g_iload_n F dX1_leave_0 rfl 1 rfl ?_
  refine g_callSn F (As := [.int (nI k)]) (st := []) (kX1_isMember l D cI cZ cQ (nI k)) (va_cwS 1 F.2.2.2.2.1 gX1_leave_X1_isMember rfl rfl rfl (by decide +kernel) ⟨Nat.le_of_ble_eq_true rfl, Nat.le_of_ble_eq_true rfl⟩) rfl rfl (Nat.le_of_ble_eq_true rfl) ⟨Nat.zero_le _, Nat.zero_le _⟩ dX1_leave_1 ?_
  refine g_bne F 9 dX1_leave_4 (by decide) (fun c1 => ?_) (fun c1 => ?_)
  · refine g_aload_n F dX1_leave_9 rfl 0 rfl ?_
    refine g_get F (.ref (bn 0)) zX1_leave_inX1 0 rfl rfl 0 (by decide) rfl zX1_leave_f10 dX1_leave_10 ?_
    refine g_get F (.ref (bn 1)) zX1_leave_inX0 7 rfl rfl 7 (by decide) rfl zX1_leave_f96 dX1_leave_13 ?_
    refine g_iload_n F dX1_leave_16 rfl 1 rfl ?_
    refine g_iald F (j := k) 8 0 rfl rfl (by omega) (by decide) dX1_leave_17 ?_
    refine g_as (f (k)) rfl ?_
    refine g_iconst F (v := 1) dX1_leave_18 (by decide) ?_
    refine g_icmp_eq F 25 dX1_leave_19 (by decide) (fun c2 => ?_) (fun c2 => ?_)
    · exact absurd c2 h0
    · refine g_bipush F (v := (-3)) dX1_leave_22 (by decide) ?_
      exact g_endI (hR _ _ dX1_leave_24) rfl rfl
  · exact absurd c1 (by rw [mem_nI hk]; decide)
theorem zX1_join_f108 : Cond.fieldLink RX1 108 (TX0 10).1 (TX0 10).2.1 (TX0 10).2.2.1 ∈ wsX1_join := by decide +kernel
set_option maxHeartbeats 1000000 in
set_option maxRecDepth 100000 in
theorem kX1_join_ok (l : Launch) (D : va_G) (cI cZ cQ : ClassId) (x bn bt : Nat → Nat) (pa sl : Nat → Option Nat) (ac : Nat) (kb : Int32) (tx : Row) (ln : Nat) (s1 s2 : Row) (se : Nat) (sd : Int64) (sb f g : Row) (Z : va_W) (k : Nat) (hk : k < 6) (h0 : f k = 0) (pb qb : Nat → Nat → Nat) (pr qr : Nat → Row) (ix : Nat → Nat) (hpa : ∀ i, i < 14 → ix i < 14 ∧ pa i = some (pb (ix i) 0)) (ha : ac ≤ 14) (n G : Nat) (hI : Inv n G f) (hn0 : n ≤ 1040000) (hG0 : G ≤ 1000000) : Ct l D (gTy cI cZ cQ) yX1_join wsX1_join ({ frames := 9, cells := 0, slots := 0, locals := 300 }) [.ref (x 0), .int (nI k)] (XW cI cQ x bn bt pa sl ac kb tx ln s1 s2 se sd sb f g (ZW cI pb pr qb qr)) (some (.int (S_joins f k (54 + k)))) (XW cI cQ x bn bt (S_rpa pa ac) sl (S_inc14 ac) kb tx ln s1 s2 se sd sb (S_joins f k) g (ZW cI pb (updR pr (S_rk ix ac) f) qb qr)) := by
  refine ct_ofI (cc := cX1_join) (nL := 2) (own := RX1) (by decide) rfl rfl ⟨rfl, rfl⟩ (Nat.le_of_ble_eq_true rfl) XZ_same (fun p e s m below meth c A Q F hR => ?_)
  refine g_aw ([(x 0, .inr (1, [.ref (bn 0), .ref (bt 0), .ref (x 1), .int (nI ac), .ref (x 2), .int kb, .ref (x 3), .int (nI ln), .ref (x 4), .ref (x 5), .int (nI se), .long sd, .ref (x 6)])), (x 1, .inl (cQ, 14, .inr (.inr (.inr (.inr pa))))), (x 2, .inl (cQ, 2, .inr (.inr (.inr (.inr sl))))), (x 3, .inl (cI, 60, .inl tx)), (x 4, .inl (cI, 6, .inl s1)), (x 5, .inl (cI, 6, .inl s2)), (x 6, .inl (cI, 64, .inl sb))] ++ (CR cI bn f ++ (CR cI bt g ++ (ZW cI pb pr qb qr)))) rfl ?_
  refine g_iload_n F dX1_join_0 rfl 1 rfl ?_
  refine g_callSn F (As := [.int (nI k)]) (st := []) (kX1_isMember l D cI cZ cQ (nI k)) (va_cwS 1 F.2.2.2.2.1 gX1_join_X1_isMember rfl rfl rfl (by decide +kernel) ⟨Nat.le_of_ble_eq_true rfl, Nat.le_of_ble_eq_true rfl⟩) rfl rfl (Nat.le_of_ble_eq_true rfl) ⟨Nat.zero_le _, Nat.zero_le _⟩ dX1_join_1 ?_
  refine g_bne F 9 dX1_join_4 (by decide) (fun c1 => ?_) (fun c1 => ?_)
  · refine g_aload_n F dX1_join_9 rfl 0 rfl ?_
    refine g_get F (.ref (bn 0)) zX1_join_inX1 0 rfl rfl 0 (by decide) rfl zX1_join_f10 dX1_join_10 ?_
    refine g_get F (.ref (bn 1)) zX1_join_inX0 7 rfl rfl 7 (by decide) rfl zX1_join_f96 dX1_join_13 ?_
    refine g_iload_n F dX1_join_16 rfl 1 rfl ?_
    refine g_iald F (j := k) 8 0 rfl rfl (by omega) (by decide) dX1_join_17 ?_
    refine g_as (f (k)) rfl ?_
    refine g_if_eq F 24 dX1_join_18 (by decide) (fun c2 => ?_) (fun c2 => ?_)
    · refine g_aload_n F dX1_join_24 rfl 0 rfl ?_
      refine g_callVs F (As := []) (st := []) (kX1_remember l D cI cZ cQ x bn bt pa sl ac kb tx ln s1 s2 se sd sb f g (ZW cI pb pr qb qr)  pb qb pr qr ix hpa ha) 0 rfl rfl (cwV 0 F.2.2.2.2.1 gX1_join_X1_remember rfl rfl rfl (by decide +kernel) ⟨Nat.le_of_ble_eq_true rfl, Nat.le_of_ble_eq_true rfl⟩) rfl rfl (Nat.le_of_ble_eq_true rfl) ⟨Nat.zero_le _, Nat.zero_le _⟩ dX1_join_25 ?_
      refine g_aload_n F dX1_join_28 rfl 0 rfl ?_
      refine g_get F (.ref (bn 0)) zX1_join_inX1 0 rfl rfl 0 (by decide) rfl zX1_join_f10 dX1_join_29 ?_
      refine g_iload_n F dX1_join_32 rfl 1 rfl ?_
      refine g_segV F (As := [.int (nI k)]) (st := []) ([(x 0, .inr (1, [.ref (bn 0), .ref (bt 0), .ref (x 1), .int (nI (S_inc14 ac)), .ref (x 2), .int kb, .ref (x 3), .int (nI ln), .ref (x 4), .ref (x 5), .int (nI se), .long sd, .ref (x 6)])), (x 1, .inl (cQ, 14, .inr (.inr (.inr (.inr (S_rpa pa ac)))))), (x 2, .inl (cQ, 2, .inr (.inr (.inr (.inr sl))))), (x 3, .inl (cI, 60, .inl tx)), (x 4, .inl (cI, 6, .inl s1)), (x 5, .inl (cI, 6, .inl s2)), (x 6, .inl (cI, 64, .inl sb))]) (CR cI bt g ++ (ZW cI pb (updR pr (S_rk ix ac) f) qb qr)) ([(x 0, .inr (1, [.ref (bn 0), .ref (bt 0), .ref (x 1), .int (nI (S_inc14 ac)), .ref (x 2), .int kb, .ref (x 3), .int (nI ln), .ref (x 4), .ref (x 5), .int (nI se), .long sd, .ref (x 6)])), (x 1, .inl (cQ, 14, .inr (.inr (.inr (.inr (S_rpa pa ac)))))), (x 2, .inl (cQ, 2, .inr (.inr (.inr (.inr sl))))), (x 3, .inl (cI, 60, .inl tx)), (x 4, .inl (cI, 6, .inl s1)), (x 5, .inl (cI, 6, .inl s2)), (x 6, .inl (cI, 64, .inl sb))] ++ (CR cI bn (S_joins f k) ++ (CR cI bt g ++ (ZW cI pb (updR pr (S_rk ix ac) f) qb qr)))) (kX0_enter_ok l D cI cZ cQ bn f k n G (by omega) h0 hI) 0 rfl rfl (cwV 1 F.2.2.2.2.1 gX1_join_X0_enter rfl rfl rfl (by decide +kernel) ⟨Nat.le_of_ble_eq_true rfl, Nat.le_of_ble_eq_true rfl⟩) rfl rfl rfl rfl (Nat.le_of_ble_eq_true rfl) ⟨Nat.zero_le _, Nat.zero_le _⟩ dX1_join_33 ?_
      refine g_pop F dX1_join_36 rfl ?_
      refine g_aload_n F dX1_join_37 rfl 0 rfl ?_
      refine g_get F (.ref (bn 0)) zX1_join_inX1 0 rfl rfl 0 (by decide) rfl zX1_join_f10 dX1_join_38 ?_
      refine g_get F (.ref (bn 4)) zX1_join_inX0 7 rfl rfl 10 (by decide) rfl zX1_join_f108 dX1_join_41 ?_
      refine g_iload_n F dX1_join_44 rfl 1 rfl ?_
      refine g_iald F (j := k) 11 0 rfl rfl (by omega) (by decide) dX1_join_45 ?_
      refine g_as ((S_joins f k) (54 + k)) rfl ?_
      exact g_endI (hR _ _ dX1_join_46) rfl rfl
    · exact absurd h0 c2
  · exact absurd c1 (by rw [mem_nI hk]; decide)
theorem zX1_leave_f108 : Cond.fieldLink RX1 108 (TX0 10).1 (TX0 10).2.1 (TX0 10).2.2.1 ∈ wsX1_leave := by decide +kernel
set_option maxHeartbeats 1000000 in
set_option maxRecDepth 100000 in
theorem kX1_leave_ok (l : Launch) (D : va_G) (cI cZ cQ : ClassId) (x bn bt : Nat → Nat) (pa sl : Nat → Option Nat) (ac : Nat) (kb : Int32) (tx : Row) (ln : Nat) (s1 s2 : Row) (se : Nat) (sd : Int64) (sb f g : Row) (Z : va_W) (k : Nat) (hk : k < 6) (h0 : f k = 1) (pb qb : Nat → Nat → Nat) (pr qr : Nat → Row) (ix : Nat → Nat) (hpa : ∀ i, i < 14 → ix i < 14 ∧ pa i = some (pb (ix i) 0)) (ha : ac ≤ 14) (n G : Nat) (hI : Inv n G f) (hn0 : n ≤ 1040000) (hG0 : G ≤ 1000000) : Ct l D (gTy cI cZ cQ) yX1_leave wsX1_leave ({ frames := 9, cells := 0, slots := 0, locals := 300 }) [.ref (x 0), .int (nI k)] (XW cI cQ x bn bt pa sl ac kb tx ln s1 s2 se sd sb f g (ZW cI pb pr qb qr)) (some (.int (S_leaves f k (54 + k)))) (XW cI cQ x bn bt (S_rpa pa ac) sl (S_inc14 ac) kb tx ln s1 s2 se sd sb (S_leaves f k) g (ZW cI pb (updR pr (S_rk ix ac) f) qb qr)) := by
  refine ct_ofI (cc := cX1_leave) (nL := 2) (own := RX1) (by decide) rfl rfl ⟨rfl, rfl⟩ (Nat.le_of_ble_eq_true rfl) XZ_same (fun p e s m below meth c A Q F hR => ?_)
  refine g_aw ([(x 0, .inr (1, [.ref (bn 0), .ref (bt 0), .ref (x 1), .int (nI ac), .ref (x 2), .int kb, .ref (x 3), .int (nI ln), .ref (x 4), .ref (x 5), .int (nI se), .long sd, .ref (x 6)])), (x 1, .inl (cQ, 14, .inr (.inr (.inr (.inr pa))))), (x 2, .inl (cQ, 2, .inr (.inr (.inr (.inr sl))))), (x 3, .inl (cI, 60, .inl tx)), (x 4, .inl (cI, 6, .inl s1)), (x 5, .inl (cI, 6, .inl s2)), (x 6, .inl (cI, 64, .inl sb))] ++ (CR cI bn f ++ (CR cI bt g ++ (ZW cI pb pr qb qr)))) rfl ?_
  refine g_iload_n F dX1_leave_0 rfl 1 rfl ?_
  refine g_callSn F (As := [.int (nI k)]) (st := []) (kX1_isMember l D cI cZ cQ (nI k)) (va_cwS 1 F.2.2.2.2.1 gX1_leave_X1_isMember rfl rfl rfl (by decide +kernel) ⟨Nat.le_of_ble_eq_true rfl, Nat.le_of_ble_eq_true rfl⟩) rfl rfl (Nat.le_of_ble_eq_true rfl) ⟨Nat.zero_le _, Nat.zero_le _⟩ dX1_leave_1 ?_
  refine g_bne F 9 dX1_leave_4 (by decide) (fun c1 => ?_) (fun c1 => ?_)
  · refine g_aload_n F dX1_leave_9 rfl 0 rfl ?_
    refine g_get F (.ref (bn 0)) zX1_leave_inX1 0 rfl rfl 0 (by decide) rfl zX1_leave_f10 dX1_leave_10 ?_
    refine g_get F (.ref (bn 1)) zX1_leave_inX0 7 rfl rfl 7 (by decide) rfl zX1_leave_f96 dX1_leave_13 ?_
    refine g_iload_n F dX1_leave_16 rfl 1 rfl ?_
    refine g_iald F (j := k) 8 0 rfl rfl (by omega) (by decide) dX1_leave_17 ?_
    refine g_as (f (k)) rfl ?_
    refine g_iconst F (v := 1) dX1_leave_18 (by decide) ?_
    refine g_icmp_eq F 25 dX1_leave_19 (by decide) (fun c2 => ?_) (fun c2 => ?_)
    · refine g_aload_n F dX1_leave_25 rfl 0 rfl ?_
      refine g_callVs F (As := []) (st := []) (kX1_remember l D cI cZ cQ x bn bt pa sl ac kb tx ln s1 s2 se sd sb f g (ZW cI pb pr qb qr)  pb qb pr qr ix hpa ha) 0 rfl rfl (cwV 0 F.2.2.2.2.1 gX1_leave_X1_remember rfl rfl rfl (by decide +kernel) ⟨Nat.le_of_ble_eq_true rfl, Nat.le_of_ble_eq_true rfl⟩) rfl rfl (Nat.le_of_ble_eq_true rfl) ⟨Nat.zero_le _, Nat.zero_le _⟩ dX1_leave_26 ?_
      refine g_aload_n F dX1_leave_29 rfl 0 rfl ?_
      refine g_get F (.ref (bn 0)) zX1_leave_inX1 0 rfl rfl 0 (by decide) rfl zX1_leave_f10 dX1_leave_30 ?_
      refine g_iload_n F dX1_leave_33 rfl 1 rfl ?_
      refine g_segV F (As := [.int (nI k)]) (st := []) ([(x 0, .inr (1, [.ref (bn 0), .ref (bt 0), .ref (x 1), .int (nI (S_inc14 ac)), .ref (x 2), .int kb, .ref (x 3), .int (nI ln), .ref (x 4), .ref (x 5), .int (nI se), .long sd, .ref (x 6)])), (x 1, .inl (cQ, 14, .inr (.inr (.inr (.inr (S_rpa pa ac)))))), (x 2, .inl (cQ, 2, .inr (.inr (.inr (.inr sl))))), (x 3, .inl (cI, 60, .inl tx)), (x 4, .inl (cI, 6, .inl s1)), (x 5, .inl (cI, 6, .inl s2)), (x 6, .inl (cI, 64, .inl sb))]) (CR cI bt g ++ (ZW cI pb (updR pr (S_rk ix ac) f) qb qr)) ([(x 0, .inr (1, [.ref (bn 0), .ref (bt 0), .ref (x 1), .int (nI (S_inc14 ac)), .ref (x 2), .int kb, .ref (x 3), .int (nI ln), .ref (x 4), .ref (x 5), .int (nI se), .long sd, .ref (x 6)])), (x 1, .inl (cQ, 14, .inr (.inr (.inr (.inr (S_rpa pa ac)))))), (x 2, .inl (cQ, 2, .inr (.inr (.inr (.inr sl))))), (x 3, .inl (cI, 60, .inl tx)), (x 4, .inl (cI, 6, .inl s1)), (x 5, .inl (cI, 6, .inl s2)), (x 6, .inl (cI, 64, .inl sb))] ++ (CR cI bn (S_leaves f k) ++ (CR cI bt g ++ (ZW cI pb (updR pr (S_rk ix ac) f) qb qr)))) (kX0_depart_ok l D cI cZ cQ bn f k n G (by omega) h0 hI (by omega)) 0 rfl rfl (cwV 1 F.2.2.2.2.1 gX1_leave_X0_depart rfl rfl rfl (by decide +kernel) ⟨Nat.le_of_ble_eq_true rfl, Nat.le_of_ble_eq_true rfl⟩) rfl rfl rfl rfl (Nat.le_of_ble_eq_true rfl) ⟨Nat.zero_le _, Nat.zero_le _⟩ dX1_leave_34 ?_
      refine g_pop F dX1_leave_37 rfl ?_
      refine g_aload_n F dX1_leave_38 rfl 0 rfl ?_
      refine g_get F (.ref (bn 0)) zX1_leave_inX1 0 rfl rfl 0 (by decide) rfl zX1_leave_f10 dX1_leave_39 ?_
      refine g_get F (.ref (bn 4)) zX1_leave_inX0 7 rfl rfl 10 (by decide) rfl zX1_leave_f108 dX1_leave_42 ?_
      refine g_iload_n F dX1_leave_45 rfl 1 rfl ?_
      refine g_iald F (j := k) 11 0 rfl rfl (by omega) (by decide) dX1_leave_46 ?_
      refine g_as ((S_leaves f k) (54 + k)) rfl ?_
      exact g_endI (hR _ _ dX1_leave_47) rfl rfl
    · exact absurd h0 c2
  · exact absurd c1 (by rw [mem_nI hk]; decide)
set_option maxHeartbeats 1000000 in
set_option maxRecDepth 100000 in
theorem kX1_pass_bad (l : Launch) (D : va_G) (cI cZ cQ : ClassId) (x bn bt : Nat → Nat) (pa sl : Nat → Option Nat) (ac : Nat) (kb : Int32) (tx : Row) (ln : Nat) (s1 s2 : Row) (se : Nat) (sd : Int64) (sb f g : Row) (Z : va_W) (v : Int32) (hb : ¬ (¬ v < 1 ∧ v ≤ 30)) : Ct l D (gTy cI cZ cQ) yX1_pass wsX1_pass ({ frames := 9, cells := 0, slots := 0, locals := 300 }) [.ref (x 0), .int v] (XW cI cQ x bn bt pa sl ac kb tx ln s1 s2 se sd sb f g Z) (some (.int (-2))) (XW cI cQ x bn bt pa sl ac kb tx ln s1 s2 se sd sb f g Z) := by
  refine ct_ofI (cc := cX1_pass) (nL := 2) (own := RX1) (by decide) rfl rfl ⟨rfl, rfl⟩ (Nat.le_of_ble_eq_true rfl) XW_same (fun p e s m below meth c A Q F hR => ?_)
  refine g_aw ([(x 0, .inr (1, [.ref (bn 0), .ref (bt 0), .ref (x 1), .int (nI ac), .ref (x 2), .int kb, .ref (x 3), .int (nI ln), .ref (x 4), .ref (x 5), .int (nI se), .long sd, .ref (x 6)])), (x 1, .inl (cQ, 14, .inr (.inr (.inr (.inr pa))))), (x 2, .inl (cQ, 2, .inr (.inr (.inr (.inr sl))))), (x 3, .inl (cI, 60, .inl tx)), (x 4, .inl (cI, 6, .inl s1)), (x 5, .inl (cI, 6, .inl s2)), (x 6, .inl (cI, 64, .inl sb))] ++ (CR cI bn f ++ (CR cI bt g ++ (Z)))) rfl ?_
  refine g_iload_n F dX1_pass_0 rfl 1 rfl ?_
  refine g_iconst F (v := 1) dX1_pass_1 (by decide) ?_
  refine g_icmp_lt F 11 dX1_pass_2 (by decide) (fun c1 => ?_) (fun c1 => ?_)
  · refine g_bipush F (v := (-2)) dX1_pass_11 (by decide) ?_
    exact g_endI (hR _ _ dX1_pass_13) rfl rfl
  · refine g_iload_n F dX1_pass_5 rfl 1 rfl ?_
    refine g_bipush F (v := 30) dX1_pass_6 (by decide) ?_
    refine g_icmp_le F 14 dX1_pass_8 (by decide) (fun c2 => ?_) (fun c2 => ?_)
    · exact absurd ⟨c1, c2⟩ hb
    · refine g_bipush F (v := (-2)) dX1_pass_11 (by decide) ?_
      exact g_endI (hR _ _ dX1_pass_13) rfl rfl
theorem zX1_pass_f10 : Cond.fieldLink RX1 10 (TX1 0).1 (TX1 0).2.1 (TX1 0).2.2.1 ∈ wsX1_pass := by decide +kernel
theorem zX1_pass_inX1 : ∀ w ∈ u_ws RX1 TX1 13, w ∈ wsX1_pass := by decide +kernel
set_option maxHeartbeats 1000000 in
set_option maxRecDepth 100000 in
theorem kX1_pass_ok (l : Launch) (D : va_G) (cI cZ cQ : ClassId) (x bn bt : Nat → Nat) (pa sl : Nat → Option Nat) (ac : Nat) (kb : Int32) (tx : Row) (ln : Nat) (s1 s2 : Row) (se : Nat) (sd : Int64) (sb f g : Row) (Z : va_W) (k : Nat) (h1 : 1 ≤ k) (hk : k ≤ 30) (pb qb : Nat → Nat → Nat) (pr qr : Nat → Row) (ix : Nat → Nat) (hpa : ∀ i, i < 14 → ix i < 14 ∧ pa i = some (pb (ix i) 0)) (ha : ac ≤ 14) (n G : Nat) (hI : Inv n G f) (hn0 : n ≤ 1040000) (hG0 : G ≤ 1000000) : Ct l D (gTy cI cZ cQ) yX1_pass wsX1_pass ({ frames := 9, cells := 0, slots := 0, locals := 300 }) [.ref (x 0), .int (nI k)] (XW cI cQ x bn bt pa sl ac kb tx ln s1 s2 se sd sb f g (ZW cI pb pr qb qr)) (some (.int (S_pass f k))) (XW cI cQ x bn bt (S_rpa pa ac) sl (S_inc14 ac) kb tx ln s1 s2 se sd sb (S_ticks f k) g (ZW cI pb (updR pr (S_rk ix ac) f) qb qr)) := by
  refine ct_ofI (cc := cX1_pass) (nL := 2) (own := RX1) (by decide) rfl rfl ⟨rfl, rfl⟩ (Nat.le_of_ble_eq_true rfl) XZ_same (fun p e s m below meth c A Q F hR => ?_)
  refine g_aw ([(x 0, .inr (1, [.ref (bn 0), .ref (bt 0), .ref (x 1), .int (nI ac), .ref (x 2), .int kb, .ref (x 3), .int (nI ln), .ref (x 4), .ref (x 5), .int (nI se), .long sd, .ref (x 6)])), (x 1, .inl (cQ, 14, .inr (.inr (.inr (.inr pa))))), (x 2, .inl (cQ, 2, .inr (.inr (.inr (.inr sl))))), (x 3, .inl (cI, 60, .inl tx)), (x 4, .inl (cI, 6, .inl s1)), (x 5, .inl (cI, 6, .inl s2)), (x 6, .inl (cI, 64, .inl sb))] ++ (CR cI bn f ++ (CR cI bt g ++ (ZW cI pb pr qb qr)))) rfl ?_
  refine g_iload_n F dX1_pass_0 rfl 1 rfl ?_
  refine g_iconst F (v := 1) dX1_pass_1 (by decide) ?_
  refine g_icmp_lt F 11 dX1_pass_2 (by decide) (fun c1 => ?_) (fun c1 => ?_)
  · exact absurd ((nI_ltI (b := 1) (by omega) (by decide)).mp c1) (by omega)
  · refine g_iload_n F dX1_pass_5 rfl 1 rfl ?_
    refine g_bipush F (v := 30) dX1_pass_6 (by decide) ?_
    refine g_icmp_le F 14 dX1_pass_8 (by decide) (fun c2 => ?_) (fun c2 => ?_)
    · refine g_aload_n F dX1_pass_14 rfl 0 rfl ?_
      refine g_callVs F (As := []) (st := []) (kX1_remember l D cI cZ cQ x bn bt pa sl ac kb tx ln s1 s2 se sd sb f g (ZW cI pb pr qb qr)  pb qb pr qr ix hpa ha) 0 rfl rfl (cwV 0 F.2.2.2.2.1 gX1_pass_X1_remember rfl rfl rfl (by decide +kernel) ⟨Nat.le_of_ble_eq_true rfl, Nat.le_of_ble_eq_true rfl⟩) rfl rfl (Nat.le_of_ble_eq_true rfl) ⟨Nat.zero_le _, Nat.zero_le _⟩ dX1_pass_15 ?_
      refine g_aload_n F dX1_pass_18 rfl 0 rfl ?_
      refine g_get F (.ref (bn 0)) zX1_pass_inX1 0 rfl rfl 0 (by decide) rfl zX1_pass_f10 dX1_pass_19 ?_
      refine g_iload_n F dX1_pass_22 rfl 1 rfl ?_
      refine g_segV F (As := [.int (nI k)]) (st := []) ([(x 0, .inr (1, [.ref (bn 0), .ref (bt 0), .ref (x 1), .int (nI (S_inc14 ac)), .ref (x 2), .int kb, .ref (x 3), .int (nI ln), .ref (x 4), .ref (x 5), .int (nI se), .long sd, .ref (x 6)])), (x 1, .inl (cQ, 14, .inr (.inr (.inr (.inr (S_rpa pa ac)))))), (x 2, .inl (cQ, 2, .inr (.inr (.inr (.inr sl))))), (x 3, .inl (cI, 60, .inl tx)), (x 4, .inl (cI, 6, .inl s1)), (x 5, .inl (cI, 6, .inl s2)), (x 6, .inl (cI, 64, .inl sb))]) (CR cI bt g ++ (ZW cI pb (updR pr (S_rk ix ac) f) qb qr)) ([(x 0, .inr (1, [.ref (bn 0), .ref (bt 0), .ref (x 1), .int (nI (S_inc14 ac)), .ref (x 2), .int kb, .ref (x 3), .int (nI ln), .ref (x 4), .ref (x 5), .int (nI se), .long sd, .ref (x 6)])), (x 1, .inl (cQ, 14, .inr (.inr (.inr (.inr (S_rpa pa ac)))))), (x 2, .inl (cQ, 2, .inr (.inr (.inr (.inr sl))))), (x 3, .inl (cI, 60, .inl tx)), (x 4, .inl (cI, 6, .inl s1)), (x 5, .inl (cI, 6, .inl s2)), (x 6, .inl (cI, 64, .inl sb))] ++ (CR cI bn (S_ticks f k) ++ (CR cI bt g ++ (ZW cI pb (updR pr (S_rk ix ac) f) qb qr)))) (kX0_run l D cI cZ cQ bn f k n G (by omega) hI (by omega) (by omega)) 0 rfl rfl (cwV 1 F.2.2.2.2.1 gX1_pass_X0_run rfl rfl rfl (by decide +kernel) ⟨Nat.le_of_ble_eq_true rfl, Nat.le_of_ble_eq_true rfl⟩) rfl rfl rfl rfl (Nat.le_of_ble_eq_true rfl) ⟨Nat.zero_le _, Nat.zero_le _⟩ dX1_pass_23 ?_
      exact g_endI (hR _ _ dX1_pass_26) rfl rfl
    · exact absurd (nI_le (b := 30) hk (by decide)) c2
set_option maxHeartbeats 1000000 in
set_option maxRecDepth 100000 in
theorem kX1_turn_bad (l : Launch) (D : va_G) (cI cZ cQ : ClassId) (x bn bt : Nat → Nat) (pa sl : Nat → Option Nat) (ac : Nat) (kb : Int32) (tx : Row) (ln : Nat) (s1 s2 : Row) (se : Nat) (sd : Int64) (sb f g : Row) (Z : va_W) (v u : Int32) (hb : S_mem v = false ∨ S_mem u = false) : Ct l D (gTy cI cZ cQ) yX1_turn wsX1_turn ({ frames := 9, cells := 0, slots := 0, locals := 300 }) [.ref (x 0), .int v, .int u] (XW cI cQ x bn bt pa sl ac kb tx ln s1 s2 se sd sb f g Z) (some (.int (-1))) (XW cI cQ x bn bt pa sl ac kb tx ln s1 s2 se sd sb f g Z) := by
  refine ct_ofI (cc := cX1_turn) (nL := 3) (own := RX1) (by decide) rfl rfl ⟨rfl, rfl⟩ (Nat.le_of_ble_eq_true rfl) XW_same (fun p e s m below meth c A Q F hR => ?_)
  refine g_aw ([(x 0, .inr (1, [.ref (bn 0), .ref (bt 0), .ref (x 1), .int (nI ac), .ref (x 2), .int kb, .ref (x 3), .int (nI ln), .ref (x 4), .ref (x 5), .int (nI se), .long sd, .ref (x 6)])), (x 1, .inl (cQ, 14, .inr (.inr (.inr (.inr pa))))), (x 2, .inl (cQ, 2, .inr (.inr (.inr (.inr sl))))), (x 3, .inl (cI, 60, .inl tx)), (x 4, .inl (cI, 6, .inl s1)), (x 5, .inl (cI, 6, .inl s2)), (x 6, .inl (cI, 64, .inl sb))] ++ (CR cI bn f ++ (CR cI bt g ++ (Z)))) rfl ?_
  refine g_iload_n F dX1_turn_0 rfl 1 rfl ?_
  refine g_callSn F (As := [.int v]) (st := []) (kX1_isMember l D cI cZ cQ v) (va_cwS 1 F.2.2.2.2.1 gX1_turn_X1_isMember rfl rfl rfl (by decide +kernel) ⟨Nat.le_of_ble_eq_true rfl, Nat.le_of_ble_eq_true rfl⟩) rfl rfl (Nat.le_of_ble_eq_true rfl) ⟨Nat.zero_le _, Nat.zero_le _⟩ dX1_turn_1 ?_
  refine g_beq F 14 dX1_turn_4 (by decide) (fun c1 => ?_) (fun c1 => ?_)
  · refine g_iconst F (v := (-1)) dX1_turn_14 (by decide) ?_
    exact g_endI (hR _ _ dX1_turn_15) rfl rfl
  · refine g_iload_n F dX1_turn_7 rfl 2 rfl ?_
    refine g_callSn F (As := [.int u]) (st := []) (kX1_isMember l D cI cZ cQ u) (va_cwS 1 F.2.2.2.2.1 gX1_turn_X1_isMember rfl rfl rfl (by decide +kernel) ⟨Nat.le_of_ble_eq_true rfl, Nat.le_of_ble_eq_true rfl⟩) rfl rfl (Nat.le_of_ble_eq_true rfl) ⟨Nat.zero_le _, Nat.zero_le _⟩ dX1_turn_8 ?_
    refine g_bne F 16 dX1_turn_11 (by decide) (fun c2 => ?_) (fun c2 => ?_)
    · exact absurd hb (by rw [c1, c2]; decide)
    · refine g_iconst F (v := (-1)) dX1_turn_14 (by decide) ?_
      exact g_endI (hR _ _ dX1_turn_15) rfl rfl
set_option maxHeartbeats 1000000 in
set_option maxRecDepth 100000 in
theorem kX1_turn_same (l : Launch) (D : va_G) (cI cZ cQ : ClassId) (x bn bt : Nat → Nat) (pa sl : Nat → Option Nat) (ac : Nat) (kb : Int32) (tx : Row) (ln : Nat) (s1 s2 : Row) (se : Nat) (sd : Int64) (sb f g : Row) (Z : va_W) (k : Nat) (hk : k < 6) : Ct l D (gTy cI cZ cQ) yX1_turn wsX1_turn ({ frames := 9, cells := 0, slots := 0, locals := 300 }) [.ref (x 0), .int (nI k), .int (nI k)] (XW cI cQ x bn bt pa sl ac kb tx ln s1 s2 se sd sb f g Z) (some (.int (-2))) (XW cI cQ x bn bt pa sl ac kb tx ln s1 s2 se sd sb f g Z) := by
  refine ct_ofI (cc := cX1_turn) (nL := 3) (own := RX1) (by decide) rfl rfl ⟨rfl, rfl⟩ (Nat.le_of_ble_eq_true rfl) XW_same (fun p e s m below meth c A Q F hR => ?_)
  refine g_aw ([(x 0, .inr (1, [.ref (bn 0), .ref (bt 0), .ref (x 1), .int (nI ac), .ref (x 2), .int kb, .ref (x 3), .int (nI ln), .ref (x 4), .ref (x 5), .int (nI se), .long sd, .ref (x 6)])), (x 1, .inl (cQ, 14, .inr (.inr (.inr (.inr pa))))), (x 2, .inl (cQ, 2, .inr (.inr (.inr (.inr sl))))), (x 3, .inl (cI, 60, .inl tx)), (x 4, .inl (cI, 6, .inl s1)), (x 5, .inl (cI, 6, .inl s2)), (x 6, .inl (cI, 64, .inl sb))] ++ (CR cI bn f ++ (CR cI bt g ++ (Z)))) rfl ?_
  refine g_iload_n F dX1_turn_0 rfl 1 rfl ?_
  refine g_callSn F (As := [.int (nI k)]) (st := []) (kX1_isMember l D cI cZ cQ (nI k)) (va_cwS 1 F.2.2.2.2.1 gX1_turn_X1_isMember rfl rfl rfl (by decide +kernel) ⟨Nat.le_of_ble_eq_true rfl, Nat.le_of_ble_eq_true rfl⟩) rfl rfl (Nat.le_of_ble_eq_true rfl) ⟨Nat.zero_le _, Nat.zero_le _⟩ dX1_turn_1 ?_
  refine g_beq F 14 dX1_turn_4 (by decide) (fun c1 => ?_) (fun c1 => ?_)
  · exact absurd c1 (by rw [mem_nI hk]; decide)
  · refine g_iload_n F dX1_turn_7 rfl 2 rfl ?_
    refine g_callSn F (As := [.int (nI k)]) (st := []) (kX1_isMember l D cI cZ cQ (nI k)) (va_cwS 1 F.2.2.2.2.1 gX1_turn_X1_isMember rfl rfl rfl (by decide +kernel) ⟨Nat.le_of_ble_eq_true rfl, Nat.le_of_ble_eq_true rfl⟩) rfl rfl (Nat.le_of_ble_eq_true rfl) ⟨Nat.zero_le _, Nat.zero_le _⟩ dX1_turn_8 ?_
    refine g_bne F 16 dX1_turn_11 (by decide) (fun c2 => ?_) (fun c2 => ?_)
    · refine g_iload_n F dX1_turn_16 rfl 1 rfl ?_
      refine g_iload_n F dX1_turn_17 rfl 2 rfl ?_
      refine g_icmp_ne F 24 dX1_turn_18 (by decide) (fun c3 => ?_) (fun c3 => ?_)
      · exact absurd rfl c3
      · refine g_bipush F (v := (-2)) dX1_turn_21 (by decide) ?_
        exact g_endI (hR _ _ dX1_turn_23) rfl rfl
    · exact absurd c2 (by rw [mem_nI hk]; decide)
theorem zX1_turn_f10 : Cond.fieldLink RX1 10 (TX1 0).1 (TX1 0).2.1 (TX1 0).2.2.1 ∈ wsX1_turn := by decide +kernel
theorem zX1_turn_inX1 : ∀ w ∈ u_ws RX1 TX1 13, w ∈ wsX1_turn := by decide +kernel
set_option maxHeartbeats 1000000 in
set_option maxRecDepth 100000 in
theorem kX1_turn_ok (l : Launch) (D : va_G) (cI cZ cQ : ClassId) (x bn bt : Nat → Nat) (pa sl : Nat → Option Nat) (ac : Nat) (kb : Int32) (tx : Row) (ln : Nat) (s1 s2 : Row) (se : Nat) (sd : Int64) (sb f g : Row) (Z : va_W) (k o : Nat) (hk : k < 6) (ho : o < 6) (hko : ¬ k = o) (pb qb : Nat → Nat → Nat) (pr qr : Nat → Row) (ix : Nat → Nat) (hpa : ∀ i, i < 14 → ix i < 14 ∧ pa i = some (pb (ix i) 0)) (ha : ac ≤ 14) : Ct l D (gTy cI cZ cQ) yX1_turn wsX1_turn ({ frames := 9, cells := 0, slots := 0, locals := 300 }) [.ref (x 0), .int (nI k), .int (nI o)] (XW cI cQ x bn bt pa sl ac kb tx ln s1 s2 se sd sb f g (ZW cI pb pr qb qr)) (some (.int (S_way (S_turn f k o) k o))) (XW cI cQ x bn bt (S_rpa pa ac) sl (S_inc14 ac) kb tx ln s1 s2 se sd sb (S_turn f k o) g (ZW cI pb (updR pr (S_rk ix ac) f) qb qr)) := by
  refine ct_ofI (cc := cX1_turn) (nL := 3) (own := RX1) (by decide) rfl rfl ⟨rfl, rfl⟩ (Nat.le_of_ble_eq_true rfl) XZ_same (fun p e s m below meth c A Q F hR => ?_)
  refine g_aw ([(x 0, .inr (1, [.ref (bn 0), .ref (bt 0), .ref (x 1), .int (nI ac), .ref (x 2), .int kb, .ref (x 3), .int (nI ln), .ref (x 4), .ref (x 5), .int (nI se), .long sd, .ref (x 6)])), (x 1, .inl (cQ, 14, .inr (.inr (.inr (.inr pa))))), (x 2, .inl (cQ, 2, .inr (.inr (.inr (.inr sl))))), (x 3, .inl (cI, 60, .inl tx)), (x 4, .inl (cI, 6, .inl s1)), (x 5, .inl (cI, 6, .inl s2)), (x 6, .inl (cI, 64, .inl sb))] ++ (CR cI bn f ++ (CR cI bt g ++ (ZW cI pb pr qb qr)))) rfl ?_
  refine g_iload_n F dX1_turn_0 rfl 1 rfl ?_
  refine g_callSn F (As := [.int (nI k)]) (st := []) (kX1_isMember l D cI cZ cQ (nI k)) (va_cwS 1 F.2.2.2.2.1 gX1_turn_X1_isMember rfl rfl rfl (by decide +kernel) ⟨Nat.le_of_ble_eq_true rfl, Nat.le_of_ble_eq_true rfl⟩) rfl rfl (Nat.le_of_ble_eq_true rfl) ⟨Nat.zero_le _, Nat.zero_le _⟩ dX1_turn_1 ?_
  refine g_beq F 14 dX1_turn_4 (by decide) (fun c1 => ?_) (fun c1 => ?_)
  · exact absurd c1 (by rw [mem_nI hk]; decide)
  · refine g_iload_n F dX1_turn_7 rfl 2 rfl ?_
    refine g_callSn F (As := [.int (nI o)]) (st := []) (kX1_isMember l D cI cZ cQ (nI o)) (va_cwS 1 F.2.2.2.2.1 gX1_turn_X1_isMember rfl rfl rfl (by decide +kernel) ⟨Nat.le_of_ble_eq_true rfl, Nat.le_of_ble_eq_true rfl⟩) rfl rfl (Nat.le_of_ble_eq_true rfl) ⟨Nat.zero_le _, Nat.zero_le _⟩ dX1_turn_8 ?_
    refine g_bne F 16 dX1_turn_11 (by decide) (fun c2 => ?_) (fun c2 => ?_)
    · refine g_iload_n F dX1_turn_16 rfl 1 rfl ?_
      refine g_iload_n F dX1_turn_17 rfl 2 rfl ?_
      refine g_icmp_ne F 24 dX1_turn_18 (by decide) (fun c3 => ?_) (fun c3 => ?_)
      · refine g_aload_n F dX1_turn_24 rfl 0 rfl ?_
        refine g_callVs F (As := []) (st := []) (kX1_remember l D cI cZ cQ x bn bt pa sl ac kb tx ln s1 s2 se sd sb f g (ZW cI pb pr qb qr)  pb qb pr qr ix hpa ha) 0 rfl rfl (cwV 0 F.2.2.2.2.1 gX1_turn_X1_remember rfl rfl rfl (by decide +kernel) ⟨Nat.le_of_ble_eq_true rfl, Nat.le_of_ble_eq_true rfl⟩) rfl rfl (Nat.le_of_ble_eq_true rfl) ⟨Nat.zero_le _, Nat.zero_le _⟩ dX1_turn_25 ?_
        refine g_aload_n F dX1_turn_28 rfl 0 rfl ?_
        refine g_get F (.ref (bn 0)) zX1_turn_inX1 0 rfl rfl 0 (by decide) rfl zX1_turn_f10 dX1_turn_29 ?_
        refine g_iload_n F dX1_turn_32 rfl 1 rfl ?_
        refine g_iload_n F dX1_turn_33 rfl 2 rfl ?_
        refine g_segV F (As := [.int (nI k), .int (nI o)]) (st := []) ([(x 0, .inr (1, [.ref (bn 0), .ref (bt 0), .ref (x 1), .int (nI (S_inc14 ac)), .ref (x 2), .int kb, .ref (x 3), .int (nI ln), .ref (x 4), .ref (x 5), .int (nI se), .long sd, .ref (x 6)])), (x 1, .inl (cQ, 14, .inr (.inr (.inr (.inr (S_rpa pa ac)))))), (x 2, .inl (cQ, 2, .inr (.inr (.inr (.inr sl))))), (x 3, .inl (cI, 60, .inl tx)), (x 4, .inl (cI, 6, .inl s1)), (x 5, .inl (cI, 6, .inl s2)), (x 6, .inl (cI, 64, .inl sb))]) (CR cI bt g ++ (ZW cI pb (updR pr (S_rk ix ac) f) qb qr)) ([(x 0, .inr (1, [.ref (bn 0), .ref (bt 0), .ref (x 1), .int (nI (S_inc14 ac)), .ref (x 2), .int kb, .ref (x 3), .int (nI ln), .ref (x 4), .ref (x 5), .int (nI se), .long sd, .ref (x 6)])), (x 1, .inl (cQ, 14, .inr (.inr (.inr (.inr (S_rpa pa ac)))))), (x 2, .inl (cQ, 2, .inr (.inr (.inr (.inr sl))))), (x 3, .inl (cI, 60, .inl tx)), (x 4, .inl (cI, 6, .inl s1)), (x 5, .inl (cI, 6, .inl s2)), (x 6, .inl (cI, 64, .inl sb))] ++ (CR cI bn (S_turn f k o) ++ (CR cI bt g ++ (ZW cI pb (updR pr (S_rk ix ac) f) qb qr)))) (kX0_turnWay l D cI cZ cQ bn f k o (by omega) (by omega) (by omega)) 0 rfl rfl (cwV 2 F.2.2.2.2.1 gX1_turn_X0_turnWay rfl rfl rfl (by decide +kernel) ⟨Nat.le_of_ble_eq_true rfl, Nat.le_of_ble_eq_true rfl⟩) rfl rfl rfl rfl (Nat.le_of_ble_eq_true rfl) ⟨Nat.zero_le _, Nat.zero_le _⟩ dX1_turn_34 ?_
        refine g_pop F dX1_turn_37 rfl ?_
        refine g_aload_n F dX1_turn_38 rfl 0 rfl ?_
        refine g_get F (.ref (bn 0)) zX1_turn_inX1 0 rfl rfl 0 (by decide) rfl zX1_turn_f10 dX1_turn_39 ?_
        refine g_iload_n F dX1_turn_42 rfl 1 rfl ?_
        refine g_iload_n F dX1_turn_43 rfl 2 rfl ?_
        refine g_segV F (As := [.int (nI k), .int (nI o)]) (st := []) ([(x 0, .inr (1, [.ref (bn 0), .ref (bt 0), .ref (x 1), .int (nI (S_inc14 ac)), .ref (x 2), .int kb, .ref (x 3), .int (nI ln), .ref (x 4), .ref (x 5), .int (nI se), .long sd, .ref (x 6)])), (x 1, .inl (cQ, 14, .inr (.inr (.inr (.inr (S_rpa pa ac)))))), (x 2, .inl (cQ, 2, .inr (.inr (.inr (.inr sl))))), (x 3, .inl (cI, 60, .inl tx)), (x 4, .inl (cI, 6, .inl s1)), (x 5, .inl (cI, 6, .inl s2)), (x 6, .inl (cI, 64, .inl sb))]) (CR cI bt g ++ (ZW cI pb (updR pr (S_rk ix ac) f) qb qr)) ([(x 0, .inr (1, [.ref (bn 0), .ref (bt 0), .ref (x 1), .int (nI (S_inc14 ac)), .ref (x 2), .int kb, .ref (x 3), .int (nI ln), .ref (x 4), .ref (x 5), .int (nI se), .long sd, .ref (x 6)])), (x 1, .inl (cQ, 14, .inr (.inr (.inr (.inr (S_rpa pa ac)))))), (x 2, .inl (cQ, 2, .inr (.inr (.inr (.inr sl))))), (x 3, .inl (cI, 60, .inl tx)), (x 4, .inl (cI, 6, .inl s1)), (x 5, .inl (cI, 6, .inl s2)), (x 6, .inl (cI, 64, .inl sb))] ++ (CR cI bn (S_turn f k o) ++ (CR cI bt g ++ (ZW cI pb (updR pr (S_rk ix ac) f) qb qr)))) (kX0_isOpen l D cI cZ cQ bn (S_turn f k o) k o (by omega) (by omega)) 0 rfl rfl (cwV 2 F.2.2.2.2.1 gX1_turn_X0_isOpen rfl rfl rfl (by decide +kernel) ⟨Nat.le_of_ble_eq_true rfl, Nat.le_of_ble_eq_true rfl⟩) rfl rfl rfl rfl (Nat.le_of_ble_eq_true rfl) ⟨Nat.zero_le _, Nat.zero_le _⟩ dX1_turn_44 ?_
        refine g_beq F 54 dX1_turn_47 (by decide) (fun c4 => ?_) (fun c4 => ?_)
        · refine g_iconst F (v := 0) dX1_turn_54 (by decide) ?_
          exact g_endI (hR _ _ dX1_turn_55) (by unfold S_way; simp_all) rfl
        · refine g_iconst F (v := 1) dX1_turn_50 (by decide) ?_
          refine g_goto F 55 dX1_turn_51 (by decide) ?_
          exact g_endI (hR _ _ dX1_turn_55) (by unfold S_way; simp_all) rfl
      · exact absurd ((nI_eq (by omega) (by omega)).mp c3) hko
    · exact absurd c2 (by rw [mem_nI ho]; decide)
set_option maxHeartbeats 1000000 in
set_option maxRecDepth 100000 in
theorem kX1_set_bad (l : Launch) (D : va_G) (cI cZ cQ : ClassId) (x bn bt : Nat → Nat) (pa sl : Nat → Option Nat) (ac : Nat) (kb : Int32) (tx : Row) (ln : Nat) (s1 s2 : Row) (se : Nat) (sd : Int64) (sb f g : Row) (Z : va_W) (v u : Int32) (hb : ¬ (¬ v < 0 ∧ v ≤ 2 ∧ ¬ u < 1 ∧ u ≤ 9)) : Ct l D (gTy cI cZ cQ) yX1_set wsX1_set ({ frames := 9, cells := 0, slots := 0, locals := 300 }) [.ref (x 0), .int v, .int u] (XW cI cQ x bn bt pa sl ac kb tx ln s1 s2 se sd sb f g Z) (some (.int (-2))) (XW cI cQ x bn bt pa sl ac kb tx ln s1 s2 se sd sb f g Z) := by
  refine ct_ofI (cc := cX1_set) (nL := 3) (own := RX1) (by decide) rfl rfl ⟨rfl, rfl⟩ (Nat.le_of_ble_eq_true rfl) XW_same (fun p e s m below meth c A Q F hR => ?_)
  refine g_aw ([(x 0, .inr (1, [.ref (bn 0), .ref (bt 0), .ref (x 1), .int (nI ac), .ref (x 2), .int kb, .ref (x 3), .int (nI ln), .ref (x 4), .ref (x 5), .int (nI se), .long sd, .ref (x 6)])), (x 1, .inl (cQ, 14, .inr (.inr (.inr (.inr pa))))), (x 2, .inl (cQ, 2, .inr (.inr (.inr (.inr sl))))), (x 3, .inl (cI, 60, .inl tx)), (x 4, .inl (cI, 6, .inl s1)), (x 5, .inl (cI, 6, .inl s2)), (x 6, .inl (cI, 64, .inl sb))] ++ (CR cI bn f ++ (CR cI bt g ++ (Z)))) rfl ?_
  refine g_iload_n F dX1_set_0 rfl 1 rfl ?_
  refine g_if_lt F 20 dX1_set_1 (by decide) (fun c1 => ?_) (fun c1 => ?_)
  · refine g_bipush F (v := (-2)) dX1_set_20 (by decide) ?_
    exact g_endI (hR _ _ dX1_set_22) rfl rfl
  · refine g_iload_n F dX1_set_4 rfl 1 rfl ?_
    refine g_iconst F (v := 2) dX1_set_5 (by decide) ?_
    refine g_icmp_gt F 20 dX1_set_6 (by decide) (fun c2 => ?_) (fun c2 => ?_)
    · refine g_bipush F (v := (-2)) dX1_set_20 (by decide) ?_
      exact g_endI (hR _ _ dX1_set_22) rfl rfl
    · refine g_iload_n F dX1_set_9 rfl 2 rfl ?_
      refine g_iconst F (v := 1) dX1_set_10 (by decide) ?_
      refine g_icmp_lt F 20 dX1_set_11 (by decide) (fun c3 => ?_) (fun c3 => ?_)
      · refine g_bipush F (v := (-2)) dX1_set_20 (by decide) ?_
        exact g_endI (hR _ _ dX1_set_22) rfl rfl
      · refine g_iload_n F dX1_set_14 rfl 2 rfl ?_
        refine g_bipush F (v := 9) dX1_set_15 (by decide) ?_
        refine g_icmp_le F 23 dX1_set_17 (by decide) (fun c4 => ?_) (fun c4 => ?_)
        · exact absurd ⟨c1, Int32.not_lt.mp c2, c3, c4⟩ hb
        · refine g_bipush F (v := (-2)) dX1_set_20 (by decide) ?_
          exact g_endI (hR _ _ dX1_set_22) rfl rfl
theorem zX1_set_f10 : Cond.fieldLink RX1 10 (TX1 0).1 (TX1 0).2.1 (TX1 0).2.2.1 ∈ wsX1_set := by decide +kernel
theorem zX1_set_inX1 : ∀ w ∈ u_ws RX1 TX1 13, w ∈ wsX1_set := by decide +kernel
set_option maxHeartbeats 1000000 in
set_option maxRecDepth 100000 in
theorem kX1_set_ok0 (l : Launch) (D : va_G) (cI cZ cQ : ClassId) (x bn bt : Nat → Nat) (pa sl : Nat → Option Nat) (ac : Nat) (kb : Int32) (tx : Row) (ln : Nat) (s1 s2 : Row) (se : Nat) (sd : Int64) (sb f g : Row) (Z : va_W) (u : Int32) (hu : ¬ u < 1 ∧ u ≤ 9) (pb qb : Nat → Nat → Nat) (pr qr : Nat → Row) (ix : Nat → Nat) (hpa : ∀ i, i < 14 → ix i < 14 ∧ pa i = some (pb (ix i) 0)) (ha : ac ≤ 14) : Ct l D (gTy cI cZ cQ) yX1_set wsX1_set ({ frames := 9, cells := 0, slots := 0, locals := 300 }) [.ref (x 0), .int 0, .int u] (XW cI cQ x bn bt pa sl ac kb tx ln s1 s2 se sd sb f g (ZW cI pb pr qb qr)) (some (.int (f 66))) (XW cI cQ x bn bt (S_rpa pa ac) sl (S_inc14 ac) kb tx ln s1 s2 se sd sb (upd f 66 u) g (ZW cI pb (updR pr (S_rk ix ac) f) qb qr)) := by
  refine ct_ofI (cc := cX1_set) (nL := 3) (own := RX1) (by decide) rfl rfl ⟨rfl, rfl⟩ (Nat.le_of_ble_eq_true rfl) XZ_same (fun p e s m below meth c A Q F hR => ?_)
  refine g_aw ([(x 0, .inr (1, [.ref (bn 0), .ref (bt 0), .ref (x 1), .int (nI ac), .ref (x 2), .int kb, .ref (x 3), .int (nI ln), .ref (x 4), .ref (x 5), .int (nI se), .long sd, .ref (x 6)])), (x 1, .inl (cQ, 14, .inr (.inr (.inr (.inr pa))))), (x 2, .inl (cQ, 2, .inr (.inr (.inr (.inr sl))))), (x 3, .inl (cI, 60, .inl tx)), (x 4, .inl (cI, 6, .inl s1)), (x 5, .inl (cI, 6, .inl s2)), (x 6, .inl (cI, 64, .inl sb))] ++ (CR cI bn f ++ (CR cI bt g ++ (ZW cI pb pr qb qr)))) rfl ?_
  refine g_iload_n F dX1_set_0 rfl 1 rfl ?_
  refine g_if_lt F 20 dX1_set_1 (by decide) (fun c1 => ?_) (fun c1 => ?_)
  · exact absurd c1 (by decide)
  · refine g_iload_n F dX1_set_4 rfl 1 rfl ?_
    refine g_iconst F (v := 2) dX1_set_5 (by decide) ?_
    refine g_icmp_gt F 20 dX1_set_6 (by decide) (fun c2 => ?_) (fun c2 => ?_)
    · exact absurd c2 (by decide)
    · refine g_iload_n F dX1_set_9 rfl 2 rfl ?_
      refine g_iconst F (v := 1) dX1_set_10 (by decide) ?_
      refine g_icmp_lt F 20 dX1_set_11 (by decide) (fun c3 => ?_) (fun c3 => ?_)
      · exact absurd c3 hu.1
      · refine g_iload_n F dX1_set_14 rfl 2 rfl ?_
        refine g_bipush F (v := 9) dX1_set_15 (by decide) ?_
        refine g_icmp_le F 23 dX1_set_17 (by decide) (fun c4 => ?_) (fun c4 => ?_)
        · refine g_aload_n F dX1_set_23 rfl 0 rfl ?_
          refine g_callVs F (As := []) (st := []) (kX1_remember l D cI cZ cQ x bn bt pa sl ac kb tx ln s1 s2 se sd sb f g (ZW cI pb pr qb qr)  pb qb pr qr ix hpa ha) 0 rfl rfl (cwV 0 F.2.2.2.2.1 gX1_set_X1_remember rfl rfl rfl (by decide +kernel) ⟨Nat.le_of_ble_eq_true rfl, Nat.le_of_ble_eq_true rfl⟩) rfl rfl (Nat.le_of_ble_eq_true rfl) ⟨Nat.zero_le _, Nat.zero_le _⟩ dX1_set_24 ?_
          refine g_aload_n F dX1_set_27 rfl 0 rfl ?_
          refine g_get F (.ref (bn 0)) zX1_set_inX1 0 rfl rfl 0 (by decide) rfl zX1_set_f10 dX1_set_28 ?_
          refine g_iload_n F dX1_set_31 rfl 1 rfl ?_
          refine g_iload_n F dX1_set_32 rfl 2 rfl ?_
          refine g_segV F (As := [.int 0, .int u]) (st := []) ([(x 0, .inr (1, [.ref (bn 0), .ref (bt 0), .ref (x 1), .int (nI (S_inc14 ac)), .ref (x 2), .int kb, .ref (x 3), .int (nI ln), .ref (x 4), .ref (x 5), .int (nI se), .long sd, .ref (x 6)])), (x 1, .inl (cQ, 14, .inr (.inr (.inr (.inr (S_rpa pa ac)))))), (x 2, .inl (cQ, 2, .inr (.inr (.inr (.inr sl))))), (x 3, .inl (cI, 60, .inl tx)), (x 4, .inl (cI, 6, .inl s1)), (x 5, .inl (cI, 6, .inl s2)), (x 6, .inl (cI, 64, .inl sb))]) (CR cI bt g ++ (ZW cI pb (updR pr (S_rk ix ac) f) qb qr)) ([(x 0, .inr (1, [.ref (bn 0), .ref (bt 0), .ref (x 1), .int (nI (S_inc14 ac)), .ref (x 2), .int kb, .ref (x 3), .int (nI ln), .ref (x 4), .ref (x 5), .int (nI se), .long sd, .ref (x 6)])), (x 1, .inl (cQ, 14, .inr (.inr (.inr (.inr (S_rpa pa ac)))))), (x 2, .inl (cQ, 2, .inr (.inr (.inr (.inr sl))))), (x 3, .inl (cI, 60, .inl tx)), (x 4, .inl (cI, 6, .inl s1)), (x 5, .inl (cI, 6, .inl s2)), (x 6, .inl (cI, 64, .inl sb))] ++ (CR cI bn (upd f 66 u) ++ (CR cI bt g ++ (ZW cI pb (updR pr (S_rk ix ac) f) qb qr)))) (kX0_tellAnew_0 l D cI cZ cQ bn f u) 0 rfl rfl (cwV 2 F.2.2.2.2.1 gX1_set_X0_tellAnew rfl rfl rfl (by decide +kernel) ⟨Nat.le_of_ble_eq_true rfl, Nat.le_of_ble_eq_true rfl⟩) rfl rfl rfl rfl (Nat.le_of_ble_eq_true rfl) ⟨Nat.zero_le _, Nat.zero_le _⟩ dX1_set_33 ?_
          exact g_endI (hR _ _ dX1_set_36) rfl rfl
        · exact absurd hu.2 c4
set_option maxHeartbeats 1000000 in
set_option maxRecDepth 100000 in
theorem kX1_set_ok1 (l : Launch) (D : va_G) (cI cZ cQ : ClassId) (x bn bt : Nat → Nat) (pa sl : Nat → Option Nat) (ac : Nat) (kb : Int32) (tx : Row) (ln : Nat) (s1 s2 : Row) (se : Nat) (sd : Int64) (sb f g : Row) (Z : va_W) (u : Int32) (hu : ¬ u < 1 ∧ u ≤ 9) (pb qb : Nat → Nat → Nat) (pr qr : Nat → Row) (ix : Nat → Nat) (hpa : ∀ i, i < 14 → ix i < 14 ∧ pa i = some (pb (ix i) 0)) (ha : ac ≤ 14) : Ct l D (gTy cI cZ cQ) yX1_set wsX1_set ({ frames := 9, cells := 0, slots := 0, locals := 300 }) [.ref (x 0), .int 1, .int u] (XW cI cQ x bn bt pa sl ac kb tx ln s1 s2 se sd sb f g (ZW cI pb pr qb qr)) (some (.int (f 67))) (XW cI cQ x bn bt (S_rpa pa ac) sl (S_inc14 ac) kb tx ln s1 s2 se sd sb (upd f 67 u) g (ZW cI pb (updR pr (S_rk ix ac) f) qb qr)) := by
  refine ct_ofI (cc := cX1_set) (nL := 3) (own := RX1) (by decide) rfl rfl ⟨rfl, rfl⟩ (Nat.le_of_ble_eq_true rfl) XZ_same (fun p e s m below meth c A Q F hR => ?_)
  refine g_aw ([(x 0, .inr (1, [.ref (bn 0), .ref (bt 0), .ref (x 1), .int (nI ac), .ref (x 2), .int kb, .ref (x 3), .int (nI ln), .ref (x 4), .ref (x 5), .int (nI se), .long sd, .ref (x 6)])), (x 1, .inl (cQ, 14, .inr (.inr (.inr (.inr pa))))), (x 2, .inl (cQ, 2, .inr (.inr (.inr (.inr sl))))), (x 3, .inl (cI, 60, .inl tx)), (x 4, .inl (cI, 6, .inl s1)), (x 5, .inl (cI, 6, .inl s2)), (x 6, .inl (cI, 64, .inl sb))] ++ (CR cI bn f ++ (CR cI bt g ++ (ZW cI pb pr qb qr)))) rfl ?_
  refine g_iload_n F dX1_set_0 rfl 1 rfl ?_
  refine g_if_lt F 20 dX1_set_1 (by decide) (fun c1 => ?_) (fun c1 => ?_)
  · exact absurd c1 (by decide)
  · refine g_iload_n F dX1_set_4 rfl 1 rfl ?_
    refine g_iconst F (v := 2) dX1_set_5 (by decide) ?_
    refine g_icmp_gt F 20 dX1_set_6 (by decide) (fun c2 => ?_) (fun c2 => ?_)
    · exact absurd c2 (by decide)
    · refine g_iload_n F dX1_set_9 rfl 2 rfl ?_
      refine g_iconst F (v := 1) dX1_set_10 (by decide) ?_
      refine g_icmp_lt F 20 dX1_set_11 (by decide) (fun c3 => ?_) (fun c3 => ?_)
      · exact absurd c3 hu.1
      · refine g_iload_n F dX1_set_14 rfl 2 rfl ?_
        refine g_bipush F (v := 9) dX1_set_15 (by decide) ?_
        refine g_icmp_le F 23 dX1_set_17 (by decide) (fun c4 => ?_) (fun c4 => ?_)
        · refine g_aload_n F dX1_set_23 rfl 0 rfl ?_
          refine g_callVs F (As := []) (st := []) (kX1_remember l D cI cZ cQ x bn bt pa sl ac kb tx ln s1 s2 se sd sb f g (ZW cI pb pr qb qr)  pb qb pr qr ix hpa ha) 0 rfl rfl (cwV 0 F.2.2.2.2.1 gX1_set_X1_remember rfl rfl rfl (by decide +kernel) ⟨Nat.le_of_ble_eq_true rfl, Nat.le_of_ble_eq_true rfl⟩) rfl rfl (Nat.le_of_ble_eq_true rfl) ⟨Nat.zero_le _, Nat.zero_le _⟩ dX1_set_24 ?_
          refine g_aload_n F dX1_set_27 rfl 0 rfl ?_
          refine g_get F (.ref (bn 0)) zX1_set_inX1 0 rfl rfl 0 (by decide) rfl zX1_set_f10 dX1_set_28 ?_
          refine g_iload_n F dX1_set_31 rfl 1 rfl ?_
          refine g_iload_n F dX1_set_32 rfl 2 rfl ?_
          refine g_segV F (As := [.int 1, .int u]) (st := []) ([(x 0, .inr (1, [.ref (bn 0), .ref (bt 0), .ref (x 1), .int (nI (S_inc14 ac)), .ref (x 2), .int kb, .ref (x 3), .int (nI ln), .ref (x 4), .ref (x 5), .int (nI se), .long sd, .ref (x 6)])), (x 1, .inl (cQ, 14, .inr (.inr (.inr (.inr (S_rpa pa ac)))))), (x 2, .inl (cQ, 2, .inr (.inr (.inr (.inr sl))))), (x 3, .inl (cI, 60, .inl tx)), (x 4, .inl (cI, 6, .inl s1)), (x 5, .inl (cI, 6, .inl s2)), (x 6, .inl (cI, 64, .inl sb))]) (CR cI bt g ++ (ZW cI pb (updR pr (S_rk ix ac) f) qb qr)) ([(x 0, .inr (1, [.ref (bn 0), .ref (bt 0), .ref (x 1), .int (nI (S_inc14 ac)), .ref (x 2), .int kb, .ref (x 3), .int (nI ln), .ref (x 4), .ref (x 5), .int (nI se), .long sd, .ref (x 6)])), (x 1, .inl (cQ, 14, .inr (.inr (.inr (.inr (S_rpa pa ac)))))), (x 2, .inl (cQ, 2, .inr (.inr (.inr (.inr sl))))), (x 3, .inl (cI, 60, .inl tx)), (x 4, .inl (cI, 6, .inl s1)), (x 5, .inl (cI, 6, .inl s2)), (x 6, .inl (cI, 64, .inl sb))] ++ (CR cI bn (upd f 67 u) ++ (CR cI bt g ++ (ZW cI pb (updR pr (S_rk ix ac) f) qb qr)))) (kX0_tellAnew_1 l D cI cZ cQ bn f u) 0 rfl rfl (cwV 2 F.2.2.2.2.1 gX1_set_X0_tellAnew rfl rfl rfl (by decide +kernel) ⟨Nat.le_of_ble_eq_true rfl, Nat.le_of_ble_eq_true rfl⟩) rfl rfl rfl rfl (Nat.le_of_ble_eq_true rfl) ⟨Nat.zero_le _, Nat.zero_le _⟩ dX1_set_33 ?_
          exact g_endI (hR _ _ dX1_set_36) rfl rfl
        · exact absurd hu.2 c4
set_option maxHeartbeats 1000000 in
set_option maxRecDepth 100000 in
theorem kX1_set_ok2 (l : Launch) (D : va_G) (cI cZ cQ : ClassId) (x bn bt : Nat → Nat) (pa sl : Nat → Option Nat) (ac : Nat) (kb : Int32) (tx : Row) (ln : Nat) (s1 s2 : Row) (se : Nat) (sd : Int64) (sb f g : Row) (Z : va_W) (u : Int32) (hu : ¬ u < 1 ∧ u ≤ 9) (pb qb : Nat → Nat → Nat) (pr qr : Nat → Row) (ix : Nat → Nat) (hpa : ∀ i, i < 14 → ix i < 14 ∧ pa i = some (pb (ix i) 0)) (ha : ac ≤ 14) : Ct l D (gTy cI cZ cQ) yX1_set wsX1_set ({ frames := 9, cells := 0, slots := 0, locals := 300 }) [.ref (x 0), .int 2, .int u] (XW cI cQ x bn bt pa sl ac kb tx ln s1 s2 se sd sb f g (ZW cI pb pr qb qr)) (some (.int (f 68))) (XW cI cQ x bn bt (S_rpa pa ac) sl (S_inc14 ac) kb tx ln s1 s2 se sd sb (upd f 68 u) g (ZW cI pb (updR pr (S_rk ix ac) f) qb qr)) := by
  refine ct_ofI (cc := cX1_set) (nL := 3) (own := RX1) (by decide) rfl rfl ⟨rfl, rfl⟩ (Nat.le_of_ble_eq_true rfl) XZ_same (fun p e s m below meth c A Q F hR => ?_)
  refine g_aw ([(x 0, .inr (1, [.ref (bn 0), .ref (bt 0), .ref (x 1), .int (nI ac), .ref (x 2), .int kb, .ref (x 3), .int (nI ln), .ref (x 4), .ref (x 5), .int (nI se), .long sd, .ref (x 6)])), (x 1, .inl (cQ, 14, .inr (.inr (.inr (.inr pa))))), (x 2, .inl (cQ, 2, .inr (.inr (.inr (.inr sl))))), (x 3, .inl (cI, 60, .inl tx)), (x 4, .inl (cI, 6, .inl s1)), (x 5, .inl (cI, 6, .inl s2)), (x 6, .inl (cI, 64, .inl sb))] ++ (CR cI bn f ++ (CR cI bt g ++ (ZW cI pb pr qb qr)))) rfl ?_
  refine g_iload_n F dX1_set_0 rfl 1 rfl ?_
  refine g_if_lt F 20 dX1_set_1 (by decide) (fun c1 => ?_) (fun c1 => ?_)
  · exact absurd c1 (by decide)
  · refine g_iload_n F dX1_set_4 rfl 1 rfl ?_
    refine g_iconst F (v := 2) dX1_set_5 (by decide) ?_
    refine g_icmp_gt F 20 dX1_set_6 (by decide) (fun c2 => ?_) (fun c2 => ?_)
    · exact absurd c2 (by decide)
    · refine g_iload_n F dX1_set_9 rfl 2 rfl ?_
      refine g_iconst F (v := 1) dX1_set_10 (by decide) ?_
      refine g_icmp_lt F 20 dX1_set_11 (by decide) (fun c3 => ?_) (fun c3 => ?_)
      · exact absurd c3 hu.1
      · refine g_iload_n F dX1_set_14 rfl 2 rfl ?_
        refine g_bipush F (v := 9) dX1_set_15 (by decide) ?_
        refine g_icmp_le F 23 dX1_set_17 (by decide) (fun c4 => ?_) (fun c4 => ?_)
        · refine g_aload_n F dX1_set_23 rfl 0 rfl ?_
          refine g_callVs F (As := []) (st := []) (kX1_remember l D cI cZ cQ x bn bt pa sl ac kb tx ln s1 s2 se sd sb f g (ZW cI pb pr qb qr)  pb qb pr qr ix hpa ha) 0 rfl rfl (cwV 0 F.2.2.2.2.1 gX1_set_X1_remember rfl rfl rfl (by decide +kernel) ⟨Nat.le_of_ble_eq_true rfl, Nat.le_of_ble_eq_true rfl⟩) rfl rfl (Nat.le_of_ble_eq_true rfl) ⟨Nat.zero_le _, Nat.zero_le _⟩ dX1_set_24 ?_
          refine g_aload_n F dX1_set_27 rfl 0 rfl ?_
          refine g_get F (.ref (bn 0)) zX1_set_inX1 0 rfl rfl 0 (by decide) rfl zX1_set_f10 dX1_set_28 ?_
          refine g_iload_n F dX1_set_31 rfl 1 rfl ?_
          refine g_iload_n F dX1_set_32 rfl 2 rfl ?_
          refine g_segV F (As := [.int 2, .int u]) (st := []) ([(x 0, .inr (1, [.ref (bn 0), .ref (bt 0), .ref (x 1), .int (nI (S_inc14 ac)), .ref (x 2), .int kb, .ref (x 3), .int (nI ln), .ref (x 4), .ref (x 5), .int (nI se), .long sd, .ref (x 6)])), (x 1, .inl (cQ, 14, .inr (.inr (.inr (.inr (S_rpa pa ac)))))), (x 2, .inl (cQ, 2, .inr (.inr (.inr (.inr sl))))), (x 3, .inl (cI, 60, .inl tx)), (x 4, .inl (cI, 6, .inl s1)), (x 5, .inl (cI, 6, .inl s2)), (x 6, .inl (cI, 64, .inl sb))]) (CR cI bt g ++ (ZW cI pb (updR pr (S_rk ix ac) f) qb qr)) ([(x 0, .inr (1, [.ref (bn 0), .ref (bt 0), .ref (x 1), .int (nI (S_inc14 ac)), .ref (x 2), .int kb, .ref (x 3), .int (nI ln), .ref (x 4), .ref (x 5), .int (nI se), .long sd, .ref (x 6)])), (x 1, .inl (cQ, 14, .inr (.inr (.inr (.inr (S_rpa pa ac)))))), (x 2, .inl (cQ, 2, .inr (.inr (.inr (.inr sl))))), (x 3, .inl (cI, 60, .inl tx)), (x 4, .inl (cI, 6, .inl s1)), (x 5, .inl (cI, 6, .inl s2)), (x 6, .inl (cI, 64, .inl sb))] ++ (CR cI bn (upd f 68 u) ++ (CR cI bt g ++ (ZW cI pb (updR pr (S_rk ix ac) f) qb qr)))) (kX0_tellAnew_2 l D cI cZ cQ bn f u) 0 rfl rfl (cwV 2 F.2.2.2.2.1 gX1_set_X0_tellAnew rfl rfl rfl (by decide +kernel) ⟨Nat.le_of_ble_eq_true rfl, Nat.le_of_ble_eq_true rfl⟩) rfl rfl rfl rfl (Nat.le_of_ble_eq_true rfl) ⟨Nat.zero_le _, Nat.zero_le _⟩ dX1_set_33 ?_
          exact g_endI (hR _ _ dX1_set_36) rfl rfl
        · exact absurd hu.2 c4
theorem zX1_undo_f23 : Cond.fieldLink RX1 23 (TX1 3).1 (TX1 3).2.1 (TX1 3).2.2.1 ∈ wsX1_undo := by decide +kernel
theorem zX1_undo_inX1 : ∀ w ∈ u_ws RX1 TX1 13, w ∈ wsX1_undo := by decide +kernel
set_option maxHeartbeats 1000000 in
set_option maxRecDepth 100000 in
theorem kX1_undo_late (l : Launch) (D : va_G) (cI cZ cQ : ClassId) (x bn bt : Nat → Nat) (pa sl : Nat → Option Nat) (ac : Nat) (kb : Int32) (tx : Row) (ln : Nat) (s1 s2 : Row) (se : Nat) (sd : Int64) (sb f g : Row) (Z : va_W) (h0 : ac = 0) : Ct l D (gTy cI cZ cQ) yX1_undo wsX1_undo ({ frames := 2, cells := 0, slots := 0, locals := 60 }) [.ref (x 0)] (XW cI cQ x bn bt pa sl ac kb tx ln s1 s2 se sd sb f g Z) (some (.int (-3))) (XW cI cQ x bn bt pa sl ac kb tx ln s1 s2 se sd sb f g Z) := by
  refine ct_ofI (cc := cX1_undo) (nL := 1) (own := RX1) (by decide) rfl rfl ⟨rfl, rfl⟩ (Nat.le_of_ble_eq_true rfl) XW_same (fun p e s m below meth c A Q F hR => ?_)
  refine g_aw ([(x 0, .inr (1, [.ref (bn 0), .ref (bt 0), .ref (x 1), .int (nI ac), .ref (x 2), .int kb, .ref (x 3), .int (nI ln), .ref (x 4), .ref (x 5), .int (nI se), .long sd, .ref (x 6)])), (x 1, .inl (cQ, 14, .inr (.inr (.inr (.inr pa))))), (x 2, .inl (cQ, 2, .inr (.inr (.inr (.inr sl))))), (x 3, .inl (cI, 60, .inl tx)), (x 4, .inl (cI, 6, .inl s1)), (x 5, .inl (cI, 6, .inl s2)), (x 6, .inl (cI, 64, .inl sb))] ++ (CR cI bn f ++ (CR cI bt g ++ (Z)))) rfl ?_
  refine g_aload_n F dX1_undo_0 rfl 0 rfl ?_
  refine g_get F (.int (nI ac)) zX1_undo_inX1 0 rfl rfl 3 (by decide) rfl zX1_undo_f23 dX1_undo_1 ?_
  refine g_iconst F (v := 1) dX1_undo_4 (by decide) ?_
  refine g_icmp_lt F 17 dX1_undo_5 (by decide) (fun c1 => ?_) (fun c1 => ?_)
  · refine g_bipush F (v := (-3)) dX1_undo_17 (by decide) ?_
    exact g_endI (hR _ _ dX1_undo_19) rfl rfl
  · exact absurd (by rw [h0]; decide) c1
theorem zX1_undo_f10 : Cond.fieldLink RX1 10 (TX1 0).1 (TX1 0).2.1 (TX1 0).2.2.1 ∈ wsX1_undo := by decide +kernel
theorem zX1_undo_f19 : Cond.fieldLink RX1 19 (TX1 2).1 (TX1 2).2.1 (TX1 2).2.2.1 ∈ wsX1_undo := by decide +kernel
set_option maxHeartbeats 1000000 in
set_option maxRecDepth 100000 in
theorem kX1_undo_ok (l : Launch) (D : va_G) (cI cZ cQ : ClassId) (x bn bt : Nat → Nat) (pa sl : Nat → Option Nat) (ac : Nat) (kb : Int32) (tx : Row) (ln : Nat) (s1 s2 : Row) (se : Nat) (sd : Int64) (sb f g : Row) (Z : va_W) (pb qb : Nat → Nat → Nat) (pr qr : Nat → Row) (ix : Nat → Nat) (hpa : ∀ i, i < 14 → ix i < 14 ∧ pa i = some (pb (ix i) 0)) (h0 : 0 < ac) (ha : ac ≤ 14) : Ct l D (gTy cI cZ cQ) yX1_undo wsX1_undo ({ frames := 2, cells := 0, slots := 0, locals := 60 }) [.ref (x 0)] (XW cI cQ x bn bt pa sl ac kb tx ln s1 s2 se sd sb f g (ZW cI pb pr qb qr)) (some (.int (nI (ac - 1)))) (XW cI cQ x bn bt pa sl (ac - 1) kb tx ln s1 s2 se sd sb (pr (ix (ac - 1))) g (ZW cI pb pr qb qr)) := by
  refine ct_ofI (cc := cX1_undo) (nL := 1) (own := RX1) (by decide) rfl rfl ⟨rfl, rfl⟩ (Nat.le_of_ble_eq_true rfl) XZ_same (fun p e s m below meth c A Q F hR => ?_)
  refine g_aw ([(x 0, .inr (1, [.ref (bn 0), .ref (bt 0), .ref (x 1), .int (nI ac), .ref (x 2), .int kb, .ref (x 3), .int (nI ln), .ref (x 4), .ref (x 5), .int (nI se), .long sd, .ref (x 6)])), (x 1, .inl (cQ, 14, .inr (.inr (.inr (.inr pa))))), (x 2, .inl (cQ, 2, .inr (.inr (.inr (.inr sl))))), (x 3, .inl (cI, 60, .inl tx)), (x 4, .inl (cI, 6, .inl s1)), (x 5, .inl (cI, 6, .inl s2)), (x 6, .inl (cI, 64, .inl sb))] ++ (CR cI bn f ++ (CR cI bt g ++ (ZW cI pb pr qb qr)))) rfl ?_
  refine g_aload_n F dX1_undo_0 rfl 0 rfl ?_
  refine g_get F (.int (nI ac)) zX1_undo_inX1 0 rfl rfl 3 (by decide) rfl zX1_undo_f23 dX1_undo_1 ?_
  refine g_iconst F (v := 1) dX1_undo_4 (by decide) ?_
  refine g_icmp_lt F 17 dX1_undo_5 (by decide) (fun c1 => ?_) (fun c1 => ?_)
  · exact absurd ((nI_ltI (b := 1) (by omega) (by decide)).mp c1) (by omega)
  · refine g_aload_n F dX1_undo_8 rfl 0 rfl ?_
    refine g_get F (.int (nI ac)) zX1_undo_inX1 0 rfl rfl 3 (by decide) rfl zX1_undo_f23 dX1_undo_9 ?_
    refine g_bipush F (v := 14) dX1_undo_12 (by decide) ?_
    refine g_icmp_le F 20 dX1_undo_14 (by decide) (fun c2 => ?_) (fun c2 => ?_)
    · refine g_aload_n F dX1_undo_20 rfl 0 rfl ?_
      refine g_dup F dX1_undo_21 rfl ?_
      refine g_get F (.int (nI ac)) zX1_undo_inX1 0 rfl rfl 3 (by decide) rfl zX1_undo_f23 dX1_undo_22 ?_
      refine g_iconst F (v := 1) dX1_undo_25 (by decide) ?_
      refine g_isub F dX1_undo_26 ?_
      refine g_as (nI (ac - 1)) (pk_sub (b := 1) (by omega)) ?_
      refine g_put F ([(x 0, .inr (1, [.ref (bn 0), .ref (bt 0), .ref (x 1), .int (nI (ac - 1)), .ref (x 2), .int kb, .ref (x 3), .int (nI ln), .ref (x 4), .ref (x 5), .int (nI se), .long sd, .ref (x 6)])), (x 1, .inl (cQ, 14, .inr (.inr (.inr (.inr pa))))), (x 2, .inl (cQ, 2, .inr (.inr (.inr (.inr sl))))), (x 3, .inl (cI, 60, .inl tx)), (x 4, .inl (cI, 6, .inl s1)), (x 5, .inl (cI, 6, .inl s2)), (x 6, .inl (cI, 64, .inl sb))] ++ (CR cI bn f ++ (CR cI bt g ++ (ZW cI pb pr qb qr)))) zX1_undo_inX1 tyX1 tyX1_ok nmX1 0 rfl rfl 3 (by decide) rfl rfl rfl (Nat.le_of_ble_eq_true rfl) zX1_undo_f23 dX1_undo_27 rfl ?_
      refine g_aload_n F dX1_undo_30 rfl 0 rfl ?_
      refine g_get F (.ref (bn 0)) zX1_undo_inX1 0 rfl rfl 0 (by decide) rfl zX1_undo_f10 dX1_undo_31 ?_
      refine g_aload_n F dX1_undo_34 rfl 0 rfl ?_
      refine g_get F (.ref (x 1)) zX1_undo_inX1 0 rfl rfl 2 (by decide) rfl zX1_undo_f19 dX1_undo_35 ?_
      refine g_aload_n F dX1_undo_38 rfl 0 rfl ?_
      refine g_get F (.int (nI (ac - 1))) zX1_undo_inX1 0 rfl rfl 3 (by decide) rfl zX1_undo_f23 dX1_undo_39 ?_
      refine g_aald F 1 2 rfl rfl (by omega) (by decide) (hpa (ac - 1) (by omega)).2 dX1_undo_42 ?_
      obtain ⟨w1_3, hp_3, hq_3, hr_3⟩ := zw_past (cI := cI) (pb := pb) (qb := qb) (pr := pr) (qr := qr) (k := ix (ac - 1)) (hpa (ac - 1) (by omega)).1 ([(x 0, .inr (1, [.ref (bn 0), .ref (bt 0), .ref (x 1), .int (nI (ac - 1)), .ref (x 2), .int kb, .ref (x 3), .int (nI ln), .ref (x 4), .ref (x 5), .int (nI se), .long sd, .ref (x 6)])), (x 1, .inl (cQ, 14, .inr (.inr (.inr (.inr pa))))), (x 2, .inl (cQ, 2, .inr (.inr (.inr (.inr sl))))), (x 3, .inl (cI, 60, .inl tx)), (x 4, .inl (cI, 6, .inl s1)), (x 5, .inl (cI, 6, .inl s2)), (x 6, .inl (cI, 64, .inl sb))]) (CR cI bn f) (CR cI bt g)
      refine g_tf F (n := 0) (bd := bn) (bs := pb (ix (ac - 1))) (st := []) ([(x 0, .inr (1, [.ref (bn 0), .ref (bt 0), .ref (x 1), .int (nI (ac - 1)), .ref (x 2), .int kb, .ref (x 3), .int (nI ln), .ref (x 4), .ref (x 5), .int (nI se), .long sd, .ref (x 6)])), (x 1, .inl (cQ, 14, .inr (.inr (.inr (.inr pa))))), (x 2, .inl (cQ, 2, .inr (.inr (.inr (.inr sl))))), (x 3, .inl (cI, 60, .inl tx)), (x 4, .inl (cI, 6, .inl s1)), (x 5, .inl (cI, 6, .inl s2)), (x 6, .inl (cI, 64, .inl sb))] ++ (CR cI bn (pr (ix (ac - 1))) ++ (CR cI bt g ++ (ZW cI pb pr qb qr)))) (kX0_takeFrom l D cI cZ cQ (bn) (pb (ix (ac - 1))) f (pr (ix (ac - 1)))) (hp_3.trans p_sw) (p_sw.trans (hq_3 (CR cI bn (pr (ix (ac - 1))))).symm) (cwV 1 F.2.2.2.2.1 gX1_undo_X0_takeFrom rfl rfl rfl (by decide +kernel) ⟨Nat.le_of_ble_eq_true rfl, Nat.le_of_ble_eq_true rfl⟩) rfl (Nat.le_of_ble_eq_true rfl) ⟨Nat.zero_le _, Nat.zero_le _⟩ dX1_undo_43 ?_
      refine g_aload_n F dX1_undo_46 rfl 0 rfl ?_
      refine g_get F (.int (nI (ac - 1))) zX1_undo_inX1 0 rfl rfl 3 (by decide) rfl zX1_undo_f23 dX1_undo_47 ?_
      exact g_endI (hR _ _ dX1_undo_50) rfl rfl
    · exact absurd (nI_le (b := 14) ha (by decide)) c2
set_option maxHeartbeats 1000000 in
set_option maxRecDepth 100000 in
theorem kX1_keep_bad (l : Launch) (D : va_G) (cI cZ cQ : ClassId) (x bn bt : Nat → Nat) (pa sl : Nat → Option Nat) (ac : Nat) (kb : Int32) (tx : Row) (ln : Nat) (s1 s2 : Row) (se : Nat) (sd : Int64) (sb f g : Row) (Z : va_W) (v : Int32) (hb : ¬ (¬ v < 0 ∧ v < 2)) : Ct l D (gTy cI cZ cQ) yX1_keep wsX1_keep ({ frames := 2, cells := 0, slots := 0, locals := 60 }) [.ref (x 0), .int v] (XW cI cQ x bn bt pa sl ac kb tx ln s1 s2 se sd sb f g Z) (some (.int (-1))) (XW cI cQ x bn bt pa sl ac kb tx ln s1 s2 se sd sb f g Z) := by
  refine ct_ofI (cc := cX1_keep) (nL := 2) (own := RX1) (by decide) rfl rfl ⟨rfl, rfl⟩ (Nat.le_of_ble_eq_true rfl) XW_same (fun p e s m below meth c A Q F hR => ?_)
  refine g_aw ([(x 0, .inr (1, [.ref (bn 0), .ref (bt 0), .ref (x 1), .int (nI ac), .ref (x 2), .int kb, .ref (x 3), .int (nI ln), .ref (x 4), .ref (x 5), .int (nI se), .long sd, .ref (x 6)])), (x 1, .inl (cQ, 14, .inr (.inr (.inr (.inr pa))))), (x 2, .inl (cQ, 2, .inr (.inr (.inr (.inr sl))))), (x 3, .inl (cI, 60, .inl tx)), (x 4, .inl (cI, 6, .inl s1)), (x 5, .inl (cI, 6, .inl s2)), (x 6, .inl (cI, 64, .inl sb))] ++ (CR cI bn f ++ (CR cI bt g ++ (Z)))) rfl ?_
  refine g_iload_n F dX1_keep_0 rfl 1 rfl ?_
  refine g_if_lt F 9 dX1_keep_1 (by decide) (fun c1 => ?_) (fun c1 => ?_)
  · refine g_iconst F (v := (-1)) dX1_keep_9 (by decide) ?_
    exact g_endI (hR _ _ dX1_keep_10) rfl rfl
  · refine g_iload_n F dX1_keep_4 rfl 1 rfl ?_
    refine g_iconst F (v := 2) dX1_keep_5 (by decide) ?_
    refine g_icmp_lt F 11 dX1_keep_6 (by decide) (fun c2 => ?_) (fun c2 => ?_)
    · exact absurd ⟨c1, c2⟩ hb
    · refine g_iconst F (v := (-1)) dX1_keep_9 (by decide) ?_
      exact g_endI (hR _ _ dX1_keep_10) rfl rfl
set_option maxHeartbeats 1000000 in
set_option maxRecDepth 100000 in
theorem kX1_again_bad (l : Launch) (D : va_G) (cI cZ cQ : ClassId) (x bn bt : Nat → Nat) (pa sl : Nat → Option Nat) (ac : Nat) (kb : Int32) (tx : Row) (ln : Nat) (s1 s2 : Row) (se : Nat) (sd : Int64) (sb f g : Row) (Z : va_W) (v : Int32) (hb : ¬ (¬ v < 0 ∧ v < 2)) : Ct l D (gTy cI cZ cQ) yX1_again wsX1_again ({ frames := 2, cells := 0, slots := 0, locals := 60 }) [.ref (x 0), .int v] (XW cI cQ x bn bt pa sl ac kb tx ln s1 s2 se sd sb f g Z) (some (.int (-1))) (XW cI cQ x bn bt pa sl ac kb tx ln s1 s2 se sd sb f g Z) := by
  refine ct_ofI (cc := cX1_again) (nL := 2) (own := RX1) (by decide) rfl rfl ⟨rfl, rfl⟩ (Nat.le_of_ble_eq_true rfl) XW_same (fun p e s m below meth c A Q F hR => ?_)
  refine g_aw ([(x 0, .inr (1, [.ref (bn 0), .ref (bt 0), .ref (x 1), .int (nI ac), .ref (x 2), .int kb, .ref (x 3), .int (nI ln), .ref (x 4), .ref (x 5), .int (nI se), .long sd, .ref (x 6)])), (x 1, .inl (cQ, 14, .inr (.inr (.inr (.inr pa))))), (x 2, .inl (cQ, 2, .inr (.inr (.inr (.inr sl))))), (x 3, .inl (cI, 60, .inl tx)), (x 4, .inl (cI, 6, .inl s1)), (x 5, .inl (cI, 6, .inl s2)), (x 6, .inl (cI, 64, .inl sb))] ++ (CR cI bn f ++ (CR cI bt g ++ (Z)))) rfl ?_
  refine g_iload_n F dX1_again_0 rfl 1 rfl ?_
  refine g_if_lt F 9 dX1_again_1 (by decide) (fun c1 => ?_) (fun c1 => ?_)
  · refine g_iconst F (v := (-1)) dX1_again_9 (by decide) ?_
    exact g_endI (hR _ _ dX1_again_10) rfl rfl
  · refine g_iload_n F dX1_again_4 rfl 1 rfl ?_
    refine g_iconst F (v := 2) dX1_again_5 (by decide) ?_
    refine g_icmp_lt F 11 dX1_again_6 (by decide) (fun c2 => ?_) (fun c2 => ?_)
    · exact absurd ⟨c1, c2⟩ hb
    · refine g_iconst F (v := (-1)) dX1_again_9 (by decide) ?_
      exact g_endI (hR _ _ dX1_again_10) rfl rfl
theorem zX1_keep_f10 : Cond.fieldLink RX1 10 (TX1 0).1 (TX1 0).2.1 (TX1 0).2.2.1 ∈ wsX1_keep := by decide +kernel
theorem zX1_keep_f27 : Cond.fieldLink RX1 27 (TX1 4).1 (TX1 4).2.1 (TX1 4).2.2.1 ∈ wsX1_keep := by decide +kernel
theorem zX1_keep_f30 : Cond.fieldLink RX1 30 (TX1 5).1 (TX1 5).2.1 (TX1 5).2.2.1 ∈ wsX1_keep := by decide +kernel
theorem zX1_keep_f64 : Cond.fieldLink RX1 64 (TX0 3).1 (TX0 3).2.1 (TX0 3).2.2.1 ∈ wsX1_keep := by decide +kernel
theorem zX1_keep_inX0 : ∀ w ∈ u_ws RX0 TX0 14, w ∈ wsX1_keep := by decide +kernel
theorem zX1_keep_inX1 : ∀ w ∈ u_ws RX1 TX1 13, w ∈ wsX1_keep := by decide +kernel
set_option maxHeartbeats 1000000 in
set_option maxRecDepth 100000 in
theorem kX1_keep_ok (l : Launch) (D : va_G) (cI cZ cQ : ClassId) (x bn bt : Nat → Nat) (pa sl : Nat → Option Nat) (ac : Nat) (kb : Int32) (tx : Row) (ln : Nat) (s1 s2 : Row) (se : Nat) (sd : Int64) (sb f g : Row) (Z : va_W) (k : Nat) (hk : k < 2) (pb qb : Nat → Nat → Nat) (pr qr : Nat → Row) (hsl : ∀ i, i < 2 → sl i = some (qb i 0)) : Ct l D (gTy cI cZ cQ) yX1_keep wsX1_keep ({ frames := 2, cells := 0, slots := 0, locals := 60 }) [.ref (x 0), .int (nI k)] (XW cI cQ x bn bt pa sl ac kb tx ln s1 s2 se sd sb f g (ZW cI pb pr qb qr)) (some (.int (f 70))) (XW cI cQ x bn bt pa sl ac (kb ||| (1 <<< (nI k &&& 31))) tx ln s1 s2 se sd sb f g (ZW cI pb pr qb (updR qr k f))) := by
  refine ct_ofI (cc := cX1_keep) (nL := 2) (own := RX1) (by decide) rfl rfl ⟨rfl, rfl⟩ (Nat.le_of_ble_eq_true rfl) XZ_same (fun p e s m below meth c A Q F hR => ?_)
  refine g_aw ([(x 0, .inr (1, [.ref (bn 0), .ref (bt 0), .ref (x 1), .int (nI ac), .ref (x 2), .int kb, .ref (x 3), .int (nI ln), .ref (x 4), .ref (x 5), .int (nI se), .long sd, .ref (x 6)])), (x 1, .inl (cQ, 14, .inr (.inr (.inr (.inr pa))))), (x 2, .inl (cQ, 2, .inr (.inr (.inr (.inr sl))))), (x 3, .inl (cI, 60, .inl tx)), (x 4, .inl (cI, 6, .inl s1)), (x 5, .inl (cI, 6, .inl s2)), (x 6, .inl (cI, 64, .inl sb))] ++ (CR cI bn f ++ (CR cI bt g ++ (ZW cI pb pr qb qr)))) rfl ?_
  refine g_iload_n F dX1_keep_0 rfl 1 rfl ?_
  refine g_if_lt F 9 dX1_keep_1 (by decide) (fun c1 => ?_) (fun c1 => ?_)
  · exact absurd c1 (nI_pos (by omega))
  · refine g_iload_n F dX1_keep_4 rfl 1 rfl ?_
    refine g_iconst F (v := 2) dX1_keep_5 (by decide) ?_
    refine g_icmp_lt F 11 dX1_keep_6 (by decide) (fun c2 => ?_) (fun c2 => ?_)
    · refine g_aload_n F dX1_keep_11 rfl 0 rfl ?_
      refine g_get F (.ref (x 2)) zX1_keep_inX1 0 rfl rfl 4 (by decide) rfl zX1_keep_f27 dX1_keep_12 ?_
      refine g_iload_n F dX1_keep_15 rfl 1 rfl ?_
      refine g_aald F 2 2 rfl rfl (by omega) (by decide) (hsl k hk) dX1_keep_16 ?_
      refine g_aload_n F dX1_keep_17 rfl 0 rfl ?_
      refine g_get F (.ref (bn 0)) zX1_keep_inX1 0 rfl rfl 0 (by decide) rfl zX1_keep_f10 dX1_keep_18 ?_
      obtain ⟨w1_3, hp_3, hq_3, hr_3⟩ := zw_slot (cI := cI) (pb := pb) (qb := qb) (pr := pr) (qr := qr) (k := k) hk ([(x 0, .inr (1, [.ref (bn 0), .ref (bt 0), .ref (x 1), .int (nI ac), .ref (x 2), .int kb, .ref (x 3), .int (nI ln), .ref (x 4), .ref (x 5), .int (nI se), .long sd, .ref (x 6)])), (x 1, .inl (cQ, 14, .inr (.inr (.inr (.inr pa))))), (x 2, .inl (cQ, 2, .inr (.inr (.inr (.inr sl))))), (x 3, .inl (cI, 60, .inl tx)), (x 4, .inl (cI, 6, .inl s1)), (x 5, .inl (cI, 6, .inl s2)), (x 6, .inl (cI, 64, .inl sb))]) (CR cI bn f) (CR cI bt g)
      refine g_tf F (n := 0) (bd := qb k) (bs := bn) (st := []) ([(x 0, .inr (1, [.ref (bn 0), .ref (bt 0), .ref (x 1), .int (nI ac), .ref (x 2), .int kb, .ref (x 3), .int (nI ln), .ref (x 4), .ref (x 5), .int (nI se), .long sd, .ref (x 6)])), (x 1, .inl (cQ, 14, .inr (.inr (.inr (.inr pa))))), (x 2, .inl (cQ, 2, .inr (.inr (.inr (.inr sl))))), (x 3, .inl (cI, 60, .inl tx)), (x 4, .inl (cI, 6, .inl s1)), (x 5, .inl (cI, 6, .inl s2)), (x 6, .inl (cI, 64, .inl sb))] ++ (CR cI bn f ++ (CR cI bt g ++ (ZW cI pb pr qb (updR qr k f))))) (kX0_takeFrom l D cI cZ cQ (qb k) (bn) (qr (k)) f) hp_3 (hr_3 f) (cwV 1 F.2.2.2.2.1 gX1_keep_X0_takeFrom rfl rfl rfl (by decide +kernel) ⟨Nat.le_of_ble_eq_true rfl, Nat.le_of_ble_eq_true rfl⟩) rfl (Nat.le_of_ble_eq_true rfl) ⟨Nat.zero_le _, Nat.zero_le _⟩ dX1_keep_21 ?_
      refine g_aload_n F dX1_keep_24 rfl 0 rfl ?_
      refine g_dup F dX1_keep_25 rfl ?_
      refine g_get F (.int kb) zX1_keep_inX1 0 rfl rfl 5 (by decide) rfl zX1_keep_f30 dX1_keep_26 ?_
      refine g_iconst F (v := 1) dX1_keep_29 (by decide) ?_
      refine g_iload_n F dX1_keep_30 rfl 1 rfl ?_
      refine g_ishl F dX1_keep_31 ?_
      refine g_ior F dX1_keep_32 ?_
      refine g_put F ([(x 0, .inr (1, [.ref (bn 0), .ref (bt 0), .ref (x 1), .int (nI ac), .ref (x 2), .int (kb ||| (1 <<< ((nI k) &&& 31))), .ref (x 3), .int (nI ln), .ref (x 4), .ref (x 5), .int (nI se), .long sd, .ref (x 6)])), (x 1, .inl (cQ, 14, .inr (.inr (.inr (.inr pa))))), (x 2, .inl (cQ, 2, .inr (.inr (.inr (.inr sl))))), (x 3, .inl (cI, 60, .inl tx)), (x 4, .inl (cI, 6, .inl s1)), (x 5, .inl (cI, 6, .inl s2)), (x 6, .inl (cI, 64, .inl sb))] ++ (CR cI bn f ++ (CR cI bt g ++ (ZW cI pb pr qb (updR qr k f))))) zX1_keep_inX1 tyX1 tyX1_ok nmX1 0 rfl rfl 5 (by decide) rfl rfl rfl (Nat.le_of_ble_eq_true rfl) zX1_keep_f30 dX1_keep_33 rfl ?_
      refine g_aload_n F dX1_keep_36 rfl 0 rfl ?_
      refine g_get F (.ref (bn 0)) zX1_keep_inX1 0 rfl rfl 0 (by decide) rfl zX1_keep_f10 dX1_keep_37 ?_
      refine g_get F (.int (f 70)) zX1_keep_inX0 7 rfl rfl 3 (by decide) rfl zX1_keep_f64 dX1_keep_40 ?_
      exact g_endI (hR _ _ dX1_keep_43) rfl rfl
    · exact absurd (nI_lt (b := 2) hk (by decide)) c2
theorem zX1_again_f30 : Cond.fieldLink RX1 30 (TX1 5).1 (TX1 5).2.1 (TX1 5).2.2.1 ∈ wsX1_again := by decide +kernel
theorem zX1_again_inX1 : ∀ w ∈ u_ws RX1 TX1 13, w ∈ wsX1_again := by decide +kernel
set_option maxHeartbeats 1000000 in
set_option maxRecDepth 100000 in
theorem kX1_again_late (l : Launch) (D : va_G) (cI cZ cQ : ClassId) (x bn bt : Nat → Nat) (pa sl : Nat → Option Nat) (ac : Nat) (kb : Int32) (tx : Row) (ln : Nat) (s1 s2 : Row) (se : Nat) (sd : Int64) (sb f g : Row) (Z : va_W) (k : Nat) (hk : k < 2) (h0 : S_has kb (nI k) = false) : Ct l D (gTy cI cZ cQ) yX1_again wsX1_again ({ frames := 2, cells := 0, slots := 0, locals := 60 }) [.ref (x 0), .int (nI k)] (XW cI cQ x bn bt pa sl ac kb tx ln s1 s2 se sd sb f g Z) (some (.int (-3))) (XW cI cQ x bn bt pa sl ac kb tx ln s1 s2 se sd sb f g Z) := by
  refine ct_ofI (cc := cX1_again) (nL := 2) (own := RX1) (by decide) rfl rfl ⟨rfl, rfl⟩ (Nat.le_of_ble_eq_true rfl) XW_same (fun p e s m below meth c A Q F hR => ?_)
  refine g_aw ([(x 0, .inr (1, [.ref (bn 0), .ref (bt 0), .ref (x 1), .int (nI ac), .ref (x 2), .int kb, .ref (x 3), .int (nI ln), .ref (x 4), .ref (x 5), .int (nI se), .long sd, .ref (x 6)])), (x 1, .inl (cQ, 14, .inr (.inr (.inr (.inr pa))))), (x 2, .inl (cQ, 2, .inr (.inr (.inr (.inr sl))))), (x 3, .inl (cI, 60, .inl tx)), (x 4, .inl (cI, 6, .inl s1)), (x 5, .inl (cI, 6, .inl s2)), (x 6, .inl (cI, 64, .inl sb))] ++ (CR cI bn f ++ (CR cI bt g ++ (Z)))) rfl ?_
  refine g_iload_n F dX1_again_0 rfl 1 rfl ?_
  refine g_if_lt F 9 dX1_again_1 (by decide) (fun c1 => ?_) (fun c1 => ?_)
  · exact absurd c1 (nI_pos (by omega))
  · refine g_iload_n F dX1_again_4 rfl 1 rfl ?_
    refine g_iconst F (v := 2) dX1_again_5 (by decide) ?_
    refine g_icmp_lt F 11 dX1_again_6 (by decide) (fun c2 => ?_) (fun c2 => ?_)
    · refine g_aload_n F dX1_again_11 rfl 0 rfl ?_
      refine g_get F (.int kb) zX1_again_inX1 0 rfl rfl 5 (by decide) rfl zX1_again_f30 dX1_again_12 ?_
      refine g_iload_n F dX1_again_15 rfl 1 rfl ?_
      refine g_ishr F dX1_again_16 ?_
      refine g_iconst F (v := 1) dX1_again_17 (by decide) ?_
      refine g_iand F dX1_again_18 ?_
      refine g_if_ne F 25 dX1_again_19 (by decide) (fun c3 => ?_) (fun c3 => ?_)
      · exact absurd (has_01.mp c3) (by rw [h0]; decide)
      · refine g_bipush F (v := (-3)) dX1_again_22 (by decide) ?_
        exact g_endI (hR _ _ dX1_again_24) rfl rfl
    · exact absurd (nI_lt (b := 2) hk (by decide)) c2
theorem zX1_again_f10 : Cond.fieldLink RX1 10 (TX1 0).1 (TX1 0).2.1 (TX1 0).2.2.1 ∈ wsX1_again := by decide +kernel
theorem zX1_again_f23 : Cond.fieldLink RX1 23 (TX1 3).1 (TX1 3).2.1 (TX1 3).2.2.1 ∈ wsX1_again := by decide +kernel
theorem zX1_again_f27 : Cond.fieldLink RX1 27 (TX1 4).1 (TX1 4).2.1 (TX1 4).2.2.1 ∈ wsX1_again := by decide +kernel
theorem zX1_again_f64 : Cond.fieldLink RX1 64 (TX0 3).1 (TX0 3).2.1 (TX0 3).2.2.1 ∈ wsX1_again := by decide +kernel
theorem zX1_again_inX0 : ∀ w ∈ u_ws RX0 TX0 14, w ∈ wsX1_again := by decide +kernel
set_option maxHeartbeats 1000000 in
set_option maxRecDepth 100000 in
theorem kX1_again_ok (l : Launch) (D : va_G) (cI cZ cQ : ClassId) (x bn bt : Nat → Nat) (pa sl : Nat → Option Nat) (ac : Nat) (kb : Int32) (tx : Row) (ln : Nat) (s1 s2 : Row) (se : Nat) (sd : Int64) (sb f g : Row) (Z : va_W) (k : Nat) (hk : k < 2) (h0 : S_has kb (nI k) = true) (pb qb : Nat → Nat → Nat) (pr qr : Nat → Row) (hsl : ∀ i, i < 2 → sl i = some (qb i 0)) : Ct l D (gTy cI cZ cQ) yX1_again wsX1_again ({ frames := 2, cells := 0, slots := 0, locals := 60 }) [.ref (x 0), .int (nI k)] (XW cI cQ x bn bt pa sl ac kb tx ln s1 s2 se sd sb f g (ZW cI pb pr qb qr)) (some (.int (qr k 70))) (XW cI cQ x bn bt pa sl 0 kb tx ln s1 s2 se sd sb (qr k) g (ZW cI pb pr qb qr)) := by
  refine ct_ofI (cc := cX1_again) (nL := 2) (own := RX1) (by decide) rfl rfl ⟨rfl, rfl⟩ (Nat.le_of_ble_eq_true rfl) XZ_same (fun p e s m below meth c A Q F hR => ?_)
  refine g_aw ([(x 0, .inr (1, [.ref (bn 0), .ref (bt 0), .ref (x 1), .int (nI ac), .ref (x 2), .int kb, .ref (x 3), .int (nI ln), .ref (x 4), .ref (x 5), .int (nI se), .long sd, .ref (x 6)])), (x 1, .inl (cQ, 14, .inr (.inr (.inr (.inr pa))))), (x 2, .inl (cQ, 2, .inr (.inr (.inr (.inr sl))))), (x 3, .inl (cI, 60, .inl tx)), (x 4, .inl (cI, 6, .inl s1)), (x 5, .inl (cI, 6, .inl s2)), (x 6, .inl (cI, 64, .inl sb))] ++ (CR cI bn f ++ (CR cI bt g ++ (ZW cI pb pr qb qr)))) rfl ?_
  refine g_iload_n F dX1_again_0 rfl 1 rfl ?_
  refine g_if_lt F 9 dX1_again_1 (by decide) (fun c1 => ?_) (fun c1 => ?_)
  · exact absurd c1 (nI_pos (by omega))
  · refine g_iload_n F dX1_again_4 rfl 1 rfl ?_
    refine g_iconst F (v := 2) dX1_again_5 (by decide) ?_
    refine g_icmp_lt F 11 dX1_again_6 (by decide) (fun c2 => ?_) (fun c2 => ?_)
    · refine g_aload_n F dX1_again_11 rfl 0 rfl ?_
      refine g_get F (.int kb) zX1_again_inX1 0 rfl rfl 5 (by decide) rfl zX1_again_f30 dX1_again_12 ?_
      refine g_iload_n F dX1_again_15 rfl 1 rfl ?_
      refine g_ishr F dX1_again_16 ?_
      refine g_iconst F (v := 1) dX1_again_17 (by decide) ?_
      refine g_iand F dX1_again_18 ?_
      refine g_if_ne F 25 dX1_again_19 (by decide) (fun c3 => ?_) (fun c3 => ?_)
      · refine g_aload_n F dX1_again_25 rfl 0 rfl ?_
        refine g_get F (.ref (bn 0)) zX1_again_inX1 0 rfl rfl 0 (by decide) rfl zX1_again_f10 dX1_again_26 ?_
        refine g_aload_n F dX1_again_29 rfl 0 rfl ?_
        refine g_get F (.ref (x 2)) zX1_again_inX1 0 rfl rfl 4 (by decide) rfl zX1_again_f27 dX1_again_30 ?_
        refine g_iload_n F dX1_again_33 rfl 1 rfl ?_
        refine g_aald F 2 2 rfl rfl (by omega) (by decide) (hsl k hk) dX1_again_34 ?_
        obtain ⟨w1_4, hp_4, hq_4, hr_4⟩ := zw_slot (cI := cI) (pb := pb) (qb := qb) (pr := pr) (qr := qr) (k := k) hk ([(x 0, .inr (1, [.ref (bn 0), .ref (bt 0), .ref (x 1), .int (nI ac), .ref (x 2), .int kb, .ref (x 3), .int (nI ln), .ref (x 4), .ref (x 5), .int (nI se), .long sd, .ref (x 6)])), (x 1, .inl (cQ, 14, .inr (.inr (.inr (.inr pa))))), (x 2, .inl (cQ, 2, .inr (.inr (.inr (.inr sl))))), (x 3, .inl (cI, 60, .inl tx)), (x 4, .inl (cI, 6, .inl s1)), (x 5, .inl (cI, 6, .inl s2)), (x 6, .inl (cI, 64, .inl sb))]) (CR cI bn f) (CR cI bt g)
        refine g_tf F (n := 0) (bd := bn) (bs := qb k) (st := []) ([(x 0, .inr (1, [.ref (bn 0), .ref (bt 0), .ref (x 1), .int (nI ac), .ref (x 2), .int kb, .ref (x 3), .int (nI ln), .ref (x 4), .ref (x 5), .int (nI se), .long sd, .ref (x 6)])), (x 1, .inl (cQ, 14, .inr (.inr (.inr (.inr pa))))), (x 2, .inl (cQ, 2, .inr (.inr (.inr (.inr sl))))), (x 3, .inl (cI, 60, .inl tx)), (x 4, .inl (cI, 6, .inl s1)), (x 5, .inl (cI, 6, .inl s2)), (x 6, .inl (cI, 64, .inl sb))] ++ (CR cI bn (qr k) ++ (CR cI bt g ++ (ZW cI pb pr qb qr)))) (kX0_takeFrom l D cI cZ cQ (bn) (qb k) f (qr (k))) (hp_4.trans p_sw) (p_sw.trans (hq_4 (CR cI bn (qr (k)))).symm) (cwV 1 F.2.2.2.2.1 gX1_again_X0_takeFrom rfl rfl rfl (by decide +kernel) ⟨Nat.le_of_ble_eq_true rfl, Nat.le_of_ble_eq_true rfl⟩) rfl (Nat.le_of_ble_eq_true rfl) ⟨Nat.zero_le _, Nat.zero_le _⟩ dX1_again_35 ?_
        refine g_aload_n F dX1_again_38 rfl 0 rfl ?_
        refine g_iconst F (v := 0) dX1_again_39 (by decide) ?_
        refine g_put F ([(x 0, .inr (1, [.ref (bn 0), .ref (bt 0), .ref (x 1), .int 0, .ref (x 2), .int kb, .ref (x 3), .int (nI ln), .ref (x 4), .ref (x 5), .int (nI se), .long sd, .ref (x 6)])), (x 1, .inl (cQ, 14, .inr (.inr (.inr (.inr pa))))), (x 2, .inl (cQ, 2, .inr (.inr (.inr (.inr sl))))), (x 3, .inl (cI, 60, .inl tx)), (x 4, .inl (cI, 6, .inl s1)), (x 5, .inl (cI, 6, .inl s2)), (x 6, .inl (cI, 64, .inl sb))] ++ (CR cI bn (qr k) ++ (CR cI bt g ++ (ZW cI pb pr qb qr)))) zX1_again_inX1 tyX1 tyX1_ok nmX1 0 rfl rfl 3 (by decide) rfl rfl rfl (Nat.le_of_ble_eq_true rfl) zX1_again_f23 dX1_again_40 rfl ?_
        refine g_aload_n F dX1_again_43 rfl 0 rfl ?_
        refine g_get F (.ref (bn 0)) zX1_again_inX1 0 rfl rfl 0 (by decide) rfl zX1_again_f10 dX1_again_44 ?_
        refine g_get F (.int ((qr k) 70)) zX1_again_inX0 7 rfl rfl 3 (by decide) rfl zX1_again_f64 dX1_again_47 ?_
        exact g_endI (hR _ _ dX1_again_50) rfl rfl
      · exact absurd (has_00.mp c3) (by rw [h0]; decide)
    · exact absurd (nI_lt (b := 2) hk (by decide)) c2
