theorem zX1_canBegin_f16 : Cond.fieldLink RX1 16 (TX1 1).1 (TX1 1).2.1 (TX1 1).2.2.1 ∈ wsX1_canBegin := by decide +kernel
theorem zX1_canBegin_inX1 : ∀ w ∈ u_ws RX1 TX1 13, w ∈ wsX1_canBegin := by decide +kernel
set_option maxHeartbeats 1000000 in
set_option maxRecDepth 100000 in
theorem kX1_canBegin (l : Launch) (D : va_G) (cI cZ cQ : ClassId) (x bn bt : Nat → Nat) (pa sl : Nat → Option Nat) (ac : Nat) (kb : Int32) (tx : Row) (ln : Nat) (s1 s2 : Row) (se : Nat) (sd : Int64) (sb f g : Row) (Z : va_W) (v : Int32) : Ct l D (gTy cI cZ cQ) yX1_canBegin wsX1_canBegin ({ frames := 1, cells := 0, slots := 0, locals := 23 }) [.ref (x 0), .int v] (XW cI cQ x bn bt pa sl ac kb tx ln s1 s2 se sd sb f g Z) (some (.int (bI (S_cb g v)))) (XW cI cQ x bn bt pa sl ac kb tx ln s1 s2 se sd sb f g Z) := by
  refine ct_ofZ (cc := cX1_canBegin) (nL := 2) (own := RX1) (by decide) rfl rfl ⟨rfl, rfl⟩ (Nat.le_of_ble_eq_true rfl) XW_same (by first | rfl | exact bI_nar _) (fun p e s m below meth c A Q F hR => ?_)
  refine g_aw ([(x 0, .inr (1, [.ref (bn 0), .ref (bt 0), .ref (x 1), .int (nI ac), .ref (x 2), .int kb, .ref (x 3), .int (nI ln), .ref (x 4), .ref (x 5), .int (nI se), .long sd, .ref (x 6)])), (x 1, .inl (cQ, 14, .inr (.inr (.inr (.inr pa))))), (x 2, .inl (cQ, 2, .inr (.inr (.inr (.inr sl))))), (x 3, .inl (cI, 60, .inl tx)), (x 4, .inl (cI, 6, .inl s1)), (x 5, .inl (cI, 6, .inl s2)), (x 6, .inl (cI, 64, .inl sb))] ++ (CR cI bn f ++ (CR cI bt g ++ (Z)))) rfl ?_
  refine g_iload_n F dX1_canBegin_0 rfl 1 rfl ?_
  refine g_bipush F (v := 106) dX1_canBegin_1 (by decide) ?_
  refine g_icmp_ne F 17 dX1_canBegin_3 (by decide) (fun c1 => ?_) (fun c1 => ?_)
  · refine g_iload_n F dX1_canBegin_17 rfl 1 rfl ?_
    refine g_bipush F (v := 108) dX1_canBegin_18 (by decide) ?_
    refine g_icmp_ne F 38 dX1_canBegin_20 (by decide) (fun c2 => ?_) (fun c2 => ?_)
    · refine g_iconst F (v := 0) dX1_canBegin_38 (by decide) ?_
      exact g_endI (hR _ _ dX1_canBegin_39) (by first | (simp only [S_cb, S_may, bI, c1, c2, Bool.false_eq_true, ↓reduceIte]; done) | (with_reducible rfl) | (simp [S_cb, S_may, bI, c1, c2, Bool.false_eq_true, ↓reduceIte]; done)) rfl
    · refine g_aload_n F dX1_canBegin_23 rfl 0 rfl ?_
      refine g_get F (.ref (bt 0)) zX1_canBegin_inX1 0 rfl rfl 1 (by decide) rfl zX1_canBegin_f16 dX1_canBegin_24 ?_
      refine g_iconst F (v := 1) dX1_canBegin_27 (by decide) ?_
      refine g_segV F (As := [.int 1]) (st := []) ([(x 0, .inr (1, [.ref (bn 0), .ref (bt 0), .ref (x 1), .int (nI ac), .ref (x 2), .int kb, .ref (x 3), .int (nI ln), .ref (x 4), .ref (x 5), .int (nI se), .long sd, .ref (x 6)])), (x 1, .inl (cQ, 14, .inr (.inr (.inr (.inr pa))))), (x 2, .inl (cQ, 2, .inr (.inr (.inr (.inr sl))))), (x 3, .inl (cI, 60, .inl tx)), (x 4, .inl (cI, 6, .inl s1)), (x 5, .inl (cI, 6, .inl s2)), (x 6, .inl (cI, 64, .inl sb))] ++ (CR cI bn f)) (Z) ([(x 0, .inr (1, [.ref (bn 0), .ref (bt 0), .ref (x 1), .int (nI ac), .ref (x 2), .int kb, .ref (x 3), .int (nI ln), .ref (x 4), .ref (x 5), .int (nI se), .long sd, .ref (x 6)])), (x 1, .inl (cQ, 14, .inr (.inr (.inr (.inr pa))))), (x 2, .inl (cQ, 2, .inr (.inr (.inr (.inr sl))))), (x 3, .inl (cI, 60, .inl tx)), (x 4, .inl (cI, 6, .inl s1)), (x 5, .inl (cI, 6, .inl s2)), (x 6, .inl (cI, 64, .inl sb))] ++ (CR cI bn f ++ (CR cI bt g ++ (Z)))) (kX0_bitsOf l D cI cZ cQ bt g 1 ) 0 rfl rfl (cwV 1 F.2.2.2.2.1 gX1_canBegin_X0_bitsOf rfl rfl rfl (by decide +kernel) ⟨Nat.le_of_ble_eq_true rfl, Nat.le_of_ble_eq_true rfl⟩) rfl rfl rfl rfl (Nat.le_of_ble_eq_true rfl) ⟨Nat.zero_le _, Nat.zero_le _⟩ dX1_canBegin_28 ?_
      refine g_if_eq F 38 dX1_canBegin_31 (by decide) (fun c3 => ?_) (fun c3 => ?_)
      · refine g_iconst F (v := 0) dX1_canBegin_38 (by decide) ?_
        exact g_endI (hR _ _ dX1_canBegin_39) (by first | (simp only [S_cb, S_may, bI, c1, c2, c3, Bool.false_eq_true, ↓reduceIte]; done) | (with_reducible rfl) | (simp [S_cb, S_may, bI, c1, c2, c3, Bool.false_eq_true, ↓reduceIte]; done)) rfl
      · refine g_iconst F (v := 1) dX1_canBegin_34 (by decide) ?_
        refine g_goto F 39 dX1_canBegin_35 (by decide) ?_
        exact g_endI (hR _ _ dX1_canBegin_39) (by first | (simp only [S_cb, S_may, bI, c1, c2, c3, Bool.false_eq_true, ↓reduceIte]; done) | (with_reducible rfl) | (simp [S_cb, S_may, bI, c1, c2, c3, Bool.false_eq_true, ↓reduceIte]; done)) rfl
  · refine g_aload_n F dX1_canBegin_6 rfl 0 rfl ?_
    refine g_get F (.ref (bt 0)) zX1_canBegin_inX1 0 rfl rfl 1 (by decide) rfl zX1_canBegin_f16 dX1_canBegin_7 ?_
    refine g_iconst F (v := 0) dX1_canBegin_10 (by decide) ?_
    refine g_segV F (As := [.int 0]) (st := []) ([(x 0, .inr (1, [.ref (bn 0), .ref (bt 0), .ref (x 1), .int (nI ac), .ref (x 2), .int kb, .ref (x 3), .int (nI ln), .ref (x 4), .ref (x 5), .int (nI se), .long sd, .ref (x 6)])), (x 1, .inl (cQ, 14, .inr (.inr (.inr (.inr pa))))), (x 2, .inl (cQ, 2, .inr (.inr (.inr (.inr sl))))), (x 3, .inl (cI, 60, .inl tx)), (x 4, .inl (cI, 6, .inl s1)), (x 5, .inl (cI, 6, .inl s2)), (x 6, .inl (cI, 64, .inl sb))] ++ (CR cI bn f)) (Z) ([(x 0, .inr (1, [.ref (bn 0), .ref (bt 0), .ref (x 1), .int (nI ac), .ref (x 2), .int kb, .ref (x 3), .int (nI ln), .ref (x 4), .ref (x 5), .int (nI se), .long sd, .ref (x 6)])), (x 1, .inl (cQ, 14, .inr (.inr (.inr (.inr pa))))), (x 2, .inl (cQ, 2, .inr (.inr (.inr (.inr sl))))), (x 3, .inl (cI, 60, .inl tx)), (x 4, .inl (cI, 6, .inl s1)), (x 5, .inl (cI, 6, .inl s2)), (x 6, .inl (cI, 64, .inl sb))] ++ (CR cI bn f ++ (CR cI bt g ++ (Z)))) (kX0_bitsOf l D cI cZ cQ bt g 0 ) 0 rfl rfl (cwV 1 F.2.2.2.2.1 gX1_canBegin_X0_bitsOf rfl rfl rfl (by decide +kernel) ⟨Nat.le_of_ble_eq_true rfl, Nat.le_of_ble_eq_true rfl⟩) rfl rfl rfl rfl (Nat.le_of_ble_eq_true rfl) ⟨Nat.zero_le _, Nat.zero_le _⟩ dX1_canBegin_11 ?_
    refine g_if_ne F 34 dX1_canBegin_14 (by decide) (fun c4 => ?_) (fun c4 => ?_)
    · refine g_iconst F (v := 1) dX1_canBegin_34 (by decide) ?_
      refine g_goto F 39 dX1_canBegin_35 (by decide) ?_
      exact g_endI (hR _ _ dX1_canBegin_39) (by first | (simp only [S_cb, S_may, bI, c1, c4, Bool.false_eq_true, ↓reduceIte]; done) | (with_reducible rfl) | (simp [S_cb, S_may, bI, c1, c4, Bool.false_eq_true, ↓reduceIte]; done)) rfl
    · refine g_iload_n F dX1_canBegin_17 rfl 1 rfl ?_
      refine g_bipush F (v := 108) dX1_canBegin_18 (by decide) ?_
      refine g_icmp_ne F 38 dX1_canBegin_20 (by decide) (fun c5 => ?_) (fun c5 => ?_)
      · refine g_iconst F (v := 0) dX1_canBegin_38 (by decide) ?_
        exact g_endI (hR _ _ dX1_canBegin_39) (by first | (simp only [S_cb, S_may, bI, c1, c4, c5, Bool.false_eq_true, ↓reduceIte]; done) | (with_reducible rfl) | (simp [S_cb, S_may, bI, c1, c4, c5, Bool.false_eq_true, ↓reduceIte]; done)) rfl
      · exact absurd (c1.symm.trans c5) (by decide)
theorem zX1_restAt_f10 : Cond.fieldLink RX1 10 (TX1 0).1 (TX1 0).2.1 (TX1 0).2.2.1 ∈ wsX1_restAt := by decide +kernel
theorem zX1_restAt_f16 : Cond.fieldLink RX1 16 (TX1 1).1 (TX1 1).2.1 (TX1 1).2.2.1 ∈ wsX1_restAt := by decide +kernel
theorem zX1_restAt_inX1 : ∀ w ∈ u_ws RX1 TX1 13, w ∈ wsX1_restAt := by decide +kernel
set_option maxHeartbeats 1000000 in
set_option maxRecDepth 100000 in
theorem kX1_restAt (l : Launch) (D : va_G) (cI cZ cQ : ClassId) (x bn bt : Nat → Nat) (pa sl : Nat → Option Nat) (ac : Nat) (kb : Int32) (tx : Row) (ln : Nat) (s1 s2 : Row) (se : Nat) (sd : Int64) (sb f g : Row) (Z : va_W) (n G : Nat) (hI : Inv n G f) (hn0 : n ≤ 1040000) (hG0 : G ≤ 1000000) : Ct l D (gTy cI cZ cQ) yX1_restAt wsX1_restAt ({ frames := 6, cells := 0, slots := 0, locals := 134 }) [.ref (x 0)] (XW cI cQ x bn bt pa sl ac kb tx ln s1 s2 se sd sb f g Z) (some (.int (S_rest (fun f => S_restN f 6) f 0 100))) (XW cI cQ x bn bt pa sl ac kb tx ln s1 s2 se sd sb f (S_restT (fun f => S_restN f 6) f 0 100) Z) := by
  refine ct_ofI (cc := cX1_restAt) (nL := 2) (own := RX1) (by decide) rfl rfl ⟨rfl, rfl⟩ (Nat.le_of_ble_eq_true rfl) XW_same (fun p e s m below meth c A Q F hR => ?_)
  refine g_aw ([(x 0, .inr (1, [.ref (bn 0), .ref (bt 0), .ref (x 1), .int (nI ac), .ref (x 2), .int kb, .ref (x 3), .int (nI ln), .ref (x 4), .ref (x 5), .int (nI se), .long sd, .ref (x 6)])), (x 1, .inl (cQ, 14, .inr (.inr (.inr (.inr pa))))), (x 2, .inl (cQ, 2, .inr (.inr (.inr (.inr sl))))), (x 3, .inl (cI, 60, .inl tx)), (x 4, .inl (cI, 6, .inl s1)), (x 5, .inl (cI, 6, .inl s2)), (x 6, .inl (cI, 64, .inl sb))] ++ (CR cI bn f ++ (CR cI bt g ++ (Z)))) rfl ?_
  refine g_aload_n F dX1_restAt_0 rfl 0 rfl ?_
  refine g_get F (.ref (bt 0)) zX1_restAt_inX1 0 rfl rfl 1 (by decide) rfl zX1_restAt_f16 dX1_restAt_1 ?_
  refine g_aload_n F dX1_restAt_4 rfl 0 rfl ?_
  refine g_get F (.ref (bn 0)) zX1_restAt_inX1 0 rfl rfl 0 (by decide) rfl zX1_restAt_f10 dX1_restAt_5 ?_
  refine g_segV F (As := [.ref (bn 0)]) (st := []) ([(x 0, .inr (1, [.ref (bn 0), .ref (bt 0), .ref (x 1), .int (nI ac), .ref (x 2), .int kb, .ref (x 3), .int (nI ln), .ref (x 4), .ref (x 5), .int (nI se), .long sd, .ref (x 6)])), (x 1, .inl (cQ, 14, .inr (.inr (.inr (.inr pa))))), (x 2, .inl (cQ, 2, .inr (.inr (.inr (.inr sl))))), (x 3, .inl (cI, 60, .inl tx)), (x 4, .inl (cI, 6, .inl s1)), (x 5, .inl (cI, 6, .inl s2)), (x 6, .inl (cI, 64, .inl sb))]) (Z) ([(x 0, .inr (1, [.ref (bn 0), .ref (bt 0), .ref (x 1), .int (nI ac), .ref (x 2), .int kb, .ref (x 3), .int (nI ln), .ref (x 4), .ref (x 5), .int (nI se), .long sd, .ref (x 6)])), (x 1, .inl (cQ, 14, .inr (.inr (.inr (.inr pa))))), (x 2, .inl (cQ, 2, .inr (.inr (.inr (.inr sl))))), (x 3, .inl (cI, 60, .inl tx)), (x 4, .inl (cI, 6, .inl s1)), (x 5, .inl (cI, 6, .inl s2)), (x 6, .inl (cI, 64, .inl sb))] ++ (CR cI bn f ++ (CR cI bt f ++ (Z)))) (kX0_takeFromS l D cI cZ cQ bt bn g f) 8 rfl rfl (cwV 1 F.2.2.2.2.1 gX1_restAt_X0_takeFrom rfl rfl rfl (by decide +kernel) ⟨Nat.le_of_ble_eq_true rfl, Nat.le_of_ble_eq_true rfl⟩) rfl rfl rfl rfl (Nat.le_of_ble_eq_true rfl) ⟨Nat.zero_le _, Nat.zero_le _⟩ dX1_restAt_8 ?_
  refine g_iconst F (v := 0) dX1_restAt_11 (by decide) ?_
  refine g_istore_n F (lv' := [(0, .ref (x 0)), (1, .int 0)]) dX1_restAt_12 rfl (by decide) [1, 0] rfl ?_
  refine g_all (w0 := [(x 0, .inr (1, [.ref (bn 0), .ref (bt 0), .ref (x 1), .int (nI ac), .ref (x 2), .int kb, .ref (x 3), .int (nI ln), .ref (x 4), .ref (x 5), .int (nI se), .long sd, .ref (x 6)])), (x 1, .inl (cQ, 14, .inr (.inr (.inr (.inr pa))))), (x 2, .inl (cQ, 2, .inr (.inr (.inr (.inr sl))))), (x 3, .inl (cI, 60, .inl tx)), (x 4, .inl (cI, 6, .inl s1)), (x 5, .inl (cI, 6, .inl s2)), (x 6, .inl (cI, 64, .inl sb))] ++ (CR cI bn f ++ (CR cI bt (S_ticks f 0) ++ (Z)))) (lv0 := [(0, .ref (x 0)), (1, .int (nI 0))]) (st0 := []) rfl rfl rfl ?_
  refine g_for 100 (fun i => S_rest (fun f => S_restN f 6) f 0 100 = S_rest (fun f => S_restN f 6) f i (100 - i) ∧ S_restT (fun f => S_restN f 6) f 0 100 = S_restT (fun f => S_restN f 6) f i (100 - i)) (fun i => [(x 0, .inr (1, [.ref (bn 0), .ref (bt 0), .ref (x 1), .int (nI ac), .ref (x 2), .int kb, .ref (x 3), .int (nI ln), .ref (x 4), .ref (x 5), .int (nI se), .long sd, .ref (x 6)])), (x 1, .inl (cQ, 14, .inr (.inr (.inr (.inr pa))))), (x 2, .inl (cQ, 2, .inr (.inr (.inr (.inr sl))))), (x 3, .inl (cI, 60, .inl tx)), (x 4, .inl (cI, 6, .inl s1)), (x 5, .inl (cI, 6, .inl s2)), (x 6, .inl (cI, 64, .inl sb))] ++ (CR cI bn f ++ (CR cI bt (S_ticks f i) ++ (Z)))) (fun i => [(0, .ref (x 0)), (1, .int (nI i))]) (fun i hi hIi ihi => ?_) 0 (Nat.zero_le _) ⟨rfl, rfl⟩
  refine g_iload_n F dX1_restAt_13 rfl 1 rfl ?_
  refine g_bipush F (v := 99) dX1_restAt_14 (by decide) ?_
  refine g_icmp_gt F 46 dX1_restAt_16 (by decide) (fun c1 => ?_) (fun c1 => ?_)
  · have hx_c1 : 99 + 1 = i := gt_x (N := 99) hi (by decide) c1
    subst hx_c1
    have hI100 := hIi
    refine g_bipush F (v := (-9)) dX1_restAt_46 (by decide) ?_
    exact g_endI (hR _ _ dX1_restAt_48) (show (-9 : Int32) = S_rest (fun f => S_restN f 6) f 0 100 from by rw [hI100.1]; rfl) (by rw [hI100.2]; rfl)
  · have hlti : i < 100 := gt_c (N := 99) hi (by decide) c1
    refine g_aload_n F dX1_restAt_19 rfl 0 rfl ?_
    refine g_get F (.ref (bt 0)) zX1_restAt_inX1 0 rfl rfl 1 (by decide) rfl zX1_restAt_f16 dX1_restAt_20 ?_
    refine g_segV F (As := []) (st := []) ([(x 0, .inr (1, [.ref (bn 0), .ref (bt 0), .ref (x 1), .int (nI ac), .ref (x 2), .int kb, .ref (x 3), .int (nI ln), .ref (x 4), .ref (x 5), .int (nI se), .long sd, .ref (x 6)])), (x 1, .inl (cQ, 14, .inr (.inr (.inr (.inr pa))))), (x 2, .inl (cQ, 2, .inr (.inr (.inr (.inr sl))))), (x 3, .inl (cI, 60, .inl tx)), (x 4, .inl (cI, 6, .inl s1)), (x 5, .inl (cI, 6, .inl s2)), (x 6, .inl (cI, 64, .inl sb))] ++ (CR cI bn f)) (Z) ([(x 0, .inr (1, [.ref (bn 0), .ref (bt 0), .ref (x 1), .int (nI ac), .ref (x 2), .int kb, .ref (x 3), .int (nI ln), .ref (x 4), .ref (x 5), .int (nI se), .long sd, .ref (x 6)])), (x 1, .inl (cQ, 14, .inr (.inr (.inr (.inr pa))))), (x 2, .inl (cQ, 2, .inr (.inr (.inr (.inr sl))))), (x 3, .inl (cI, 60, .inl tx)), (x 4, .inl (cI, 6, .inl s1)), (x 5, .inl (cI, 6, .inl s2)), (x 6, .inl (cI, 64, .inl sb))] ++ (CR cI bn f ++ (CR cI bt (S_ticks f i) ++ (Z)))) (kX0_isAtRest l D cI cZ cQ bt (S_ticks f i)  ) 0 rfl rfl (cwV 0 F.2.2.2.2.1 gX1_restAt_X0_isAtRest rfl rfl rfl (by decide +kernel) ⟨Nat.le_of_ble_eq_true rfl, Nat.le_of_ble_eq_true rfl⟩) rfl rfl rfl rfl (Nat.le_of_ble_eq_true rfl) ⟨Nat.zero_le _, Nat.zero_le _⟩ dX1_restAt_23 ?_
    refine g_beq F 31 dX1_restAt_26 (by decide) (fun c2 => ?_) (fun c2 => ?_)
    · refine g_aload_n F dX1_restAt_31 rfl 0 rfl ?_
      refine g_get F (.ref (bt 0)) zX1_restAt_inX1 0 rfl rfl 1 (by decide) rfl zX1_restAt_f16 dX1_restAt_32 ?_
      refine g_iconst F (v := 1) dX1_restAt_35 (by decide) ?_
      refine g_segV F (As := [.int 1]) (st := []) ([(x 0, .inr (1, [.ref (bn 0), .ref (bt 0), .ref (x 1), .int (nI ac), .ref (x 2), .int kb, .ref (x 3), .int (nI ln), .ref (x 4), .ref (x 5), .int (nI se), .long sd, .ref (x 6)])), (x 1, .inl (cQ, 14, .inr (.inr (.inr (.inr pa))))), (x 2, .inl (cQ, 2, .inr (.inr (.inr (.inr sl))))), (x 3, .inl (cI, 60, .inl tx)), (x 4, .inl (cI, 6, .inl s1)), (x 5, .inl (cI, 6, .inl s2)), (x 6, .inl (cI, 64, .inl sb))] ++ (CR cI bn f)) (Z) ([(x 0, .inr (1, [.ref (bn 0), .ref (bt 0), .ref (x 1), .int (nI ac), .ref (x 2), .int kb, .ref (x 3), .int (nI ln), .ref (x 4), .ref (x 5), .int (nI se), .long sd, .ref (x 6)])), (x 1, .inl (cQ, 14, .inr (.inr (.inr (.inr pa))))), (x 2, .inl (cQ, 2, .inr (.inr (.inr (.inr sl))))), (x 3, .inl (cI, 60, .inl tx)), (x 4, .inl (cI, 6, .inl s1)), (x 5, .inl (cI, 6, .inl s2)), (x 6, .inl (cI, 64, .inl sb))] ++ (CR cI bn f ++ (CR cI bt (S_ticks (S_ticks f i) 1) ++ (Z)))) (kX0_run l D cI cZ cQ bt (S_ticks f i) 1 (n + i) (G + 36 * i) (by decide) (Inv_ticks hI 100 (by omega) (by omega) i (by omega)) (by omega) (by omega)) 0 rfl rfl (cwV 1 F.2.2.2.2.1 gX1_restAt_X0_run rfl rfl rfl (by decide +kernel) ⟨Nat.le_of_ble_eq_true rfl, Nat.le_of_ble_eq_true rfl⟩) rfl rfl rfl rfl (Nat.le_of_ble_eq_true rfl) ⟨Nat.zero_le _, Nat.zero_le _⟩ dX1_restAt_36 ?_
      refine g_pop F dX1_restAt_39 rfl ?_
      refine g_iinc F (lv' := [(0, .ref (x 0)), (1, .int (nI (i + 1)))]) (nI (i + 1)) dX1_restAt_40 1 rfl (nI_add i 1) (by decide) [1, 0] rfl ?_
      refine g_goto F 13 dX1_restAt_43 (by decide) ?_
      refine g_all (w0 := [(x 0, .inr (1, [.ref (bn 0), .ref (bt 0), .ref (x 1), .int (nI ac), .ref (x 2), .int kb, .ref (x 3), .int (nI ln), .ref (x 4), .ref (x 5), .int (nI se), .long sd, .ref (x 6)])), (x 1, .inl (cQ, 14, .inr (.inr (.inr (.inr pa))))), (x 2, .inl (cQ, 2, .inr (.inr (.inr (.inr sl))))), (x 3, .inl (cI, 60, .inl tx)), (x 4, .inl (cI, 6, .inl s1)), (x 5, .inl (cI, 6, .inl s2)), (x 6, .inl (cI, 64, .inl sb))] ++ (CR cI bn f ++ (CR cI bt (S_ticks f (i + 1)) ++ (Z)))) (lv0 := [(0, .ref (x 0)), (1, .int (nI (i + 1)))]) (st0 := []) (by rw [S_ticks_1, S_ticks_s]) rfl rfl ?_
      exact ihi hlti ⟨hIi.1.trans (rest_miss hlti c2).1, hIi.2.trans (rest_miss hlti c2).2⟩
    · refine g_iload_n F dX1_restAt_29 rfl 1 rfl ?_
      exact g_endI (hR _ _ dX1_restAt_30) (show nI i = S_rest (fun f => S_restN f 6) f 0 100 from by rw [hIi.1]; exact (rest_hit hlti c2).1.symm) (by rw [show S_restT (fun f => S_restN f 6) f 0 100 = S_ticks f i from hIi.2.trans (rest_hit hlti c2).2]; rfl)
theorem zX1_about_f10 : Cond.fieldLink RX1 10 (TX1 0).1 (TX1 0).2.1 (TX1 0).2.2.1 ∈ wsX1_about := by decide +kernel
theorem zX1_about_f23 : Cond.fieldLink RX1 23 (TX1 3).1 (TX1 3).2.1 (TX1 3).2.2.1 ∈ wsX1_about := by decide +kernel
theorem zX1_about_f37 : Cond.fieldLink RX1 37 (TX1 7).1 (TX1 7).2.1 (TX1 7).2.2.1 ∈ wsX1_about := by decide +kernel
theorem zX1_about_f46 : Cond.fieldLink RX1 46 (TX1 10).1 (TX1 10).2.1 (TX1 10).2.2.1 ∈ wsX1_about := by decide +kernel
theorem zX1_about_f64 : Cond.fieldLink RX1 64 (TX0 3).1 (TX0 3).2.1 (TX0 3).2.2.1 ∈ wsX1_about := by decide +kernel
theorem zX1_about_f67 : Cond.fieldLink RX1 67 (TX0 0).1 (TX0 0).2.1 (TX0 0).2.2.1 ∈ wsX1_about := by decide +kernel
theorem zX1_about_f70 : Cond.fieldLink RX1 70 (TX0 1).1 (TX0 1).2.1 (TX0 1).2.2.1 ∈ wsX1_about := by decide +kernel
theorem zX1_about_f73 : Cond.fieldLink RX1 73 (TX0 2).1 (TX0 2).2.1 (TX0 2).2.2.1 ∈ wsX1_about := by decide +kernel
theorem zX1_about_f76 : Cond.fieldLink RX1 76 (TX0 4).1 (TX0 4).2.1 (TX0 4).2.2.1 ∈ wsX1_about := by decide +kernel
theorem zX1_about_f79 : Cond.fieldLink RX1 79 (TX0 5).1 (TX0 5).2.1 (TX0 5).2.2.1 ∈ wsX1_about := by decide +kernel
theorem zX1_about_f82 : Cond.fieldLink RX1 82 (TX0 6).1 (TX0 6).2.1 (TX0 6).2.2.1 ∈ wsX1_about := by decide +kernel
theorem zX1_about_inX0 : ∀ w ∈ u_ws RX0 TX0 14, w ∈ wsX1_about := by decide +kernel
theorem zX1_about_inX1 : ∀ w ∈ u_ws RX1 TX1 13, w ∈ wsX1_about := by decide +kernel
set_option maxHeartbeats 1000000 in
set_option maxRecDepth 100000 in
theorem kX1_about_o (l : Launch) (D : va_G) (cI cZ cQ : ClassId) (x bn bt : Nat → Nat) (pa sl : Nat → Option Nat) (ac : Nat) (kb : Int32) (tx : Row) (ln : Nat) (s1 s2 : Row) (se : Nat) (sd : Int64) (sb f g : Row) (Z : va_W) (u : Int32) (h9 : ¬ u = 9) : Ct l D (gTy cI cZ cQ) yX1_about wsX1_about ({ frames := 9, cells := 0, slots := 0, locals := 300 }) [.ref (x 0), .int u] (XW cI cQ x bn bt pa sl ac kb tx ln s1 s2 se sd sb f g Z) (some (.int (S_about f ac se ln u))) (XW cI cQ x bn bt pa sl ac kb tx ln s1 s2 se sd sb f g Z) := by
  refine ct_ofI (cc := cX1_about) (nL := 2) (own := RX1) (by decide) rfl rfl ⟨rfl, rfl⟩ (Nat.le_of_ble_eq_true rfl) XW_same (fun p e s m below meth c A Q F hR => ?_)
  refine g_aw ([(x 0, .inr (1, [.ref (bn 0), .ref (bt 0), .ref (x 1), .int (nI ac), .ref (x 2), .int kb, .ref (x 3), .int (nI ln), .ref (x 4), .ref (x 5), .int (nI se), .long sd, .ref (x 6)])), (x 1, .inl (cQ, 14, .inr (.inr (.inr (.inr pa))))), (x 2, .inl (cQ, 2, .inr (.inr (.inr (.inr sl))))), (x 3, .inl (cI, 60, .inl tx)), (x 4, .inl (cI, 6, .inl s1)), (x 5, .inl (cI, 6, .inl s2)), (x 6, .inl (cI, 64, .inl sb))] ++ (CR cI bn f ++ (CR cI bt g ++ (Z)))) rfl ?_
  refine g_iload_n F dX1_about_0 rfl 1 rfl ?_
  rcases tb_cases u 0 13 (by decide) with c1 | ⟨n_c1, hn_c1, c1⟩
  · refine g_tableOut F 162 dX1_about_1 (by omega) (by decide) ?_
    refine g_bipush F (v := (-2)) dX1_about_162 (by decide) ?_
    exact g_endI (hR _ _ dX1_about_164) (by unfold S_about; rw [if_neg (show ¬ u = 0 from tb_ne (n := 0) c1 (by decide) (by decide)), if_neg (show ¬ u = 1 from tb_ne (n := 1) c1 (by decide) (by decide)), if_neg (show ¬ u = 2 from tb_ne (n := 2) c1 (by decide) (by decide)), if_neg (show ¬ u = 3 from tb_ne (n := 3) c1 (by decide) (by decide)), if_neg (show ¬ u = 4 from tb_ne (n := 4) c1 (by decide) (by decide)), if_neg (show ¬ u = 5 from tb_ne (n := 5) c1 (by decide) (by decide)), if_neg (show ¬ u = 6 from tb_ne (n := 6) c1 (by decide) (by decide)), if_neg (show ¬ u = 7 from tb_ne (n := 7) c1 (by decide) (by decide)), if_neg (show ¬ u = 8 from tb_ne (n := 8) c1 (by decide) (by decide)), if_neg (show ¬ u = 10 from tb_ne (n := 10) c1 (by decide) (by decide)), if_neg (show ¬ u = 11 from tb_ne (n := 11) c1 (by decide) (by decide)), if_neg (show ¬ u = 12 from tb_ne (n := 12) c1 (by decide) (by decide))]) rfl
  · match n_c1, hn_c1, c1 with
    | 0, _, c1 =>
      have hw_c1 : u = nI 0 := tb_eq (by decide) c1
      refine g_tableIn F 68 dX1_about_1 (by rw [c1]; decide) (by rw [c1]; decide) (by rw [c1]; rfl) (by decide) ?_
      refine g_aload_n F dX1_about_68 rfl 0 rfl ?_
      refine g_get F (.ref (bn 0)) zX1_about_inX1 0 rfl rfl 0 (by decide) rfl zX1_about_f10 dX1_about_69 ?_
      refine g_get F (.int (f 66)) zX1_about_inX0 7 rfl rfl 0 (by decide) rfl zX1_about_f67 dX1_about_72 ?_
      exact g_endI (hR _ _ dX1_about_75) (by rw [hw_c1]; rfl) rfl
    | 1, _, c1 =>
      have hw_c1 : u = nI 1 := tb_eq (by decide) c1
      refine g_tableIn F 76 dX1_about_1 (by rw [c1]; decide) (by rw [c1]; decide) (by rw [c1]; rfl) (by decide) ?_
      refine g_aload_n F dX1_about_76 rfl 0 rfl ?_
      refine g_get F (.ref (bn 0)) zX1_about_inX1 0 rfl rfl 0 (by decide) rfl zX1_about_f10 dX1_about_77 ?_
      refine g_get F (.int (f 67)) zX1_about_inX0 7 rfl rfl 1 (by decide) rfl zX1_about_f70 dX1_about_80 ?_
      exact g_endI (hR _ _ dX1_about_83) (by rw [hw_c1]; rfl) rfl
    | 2, _, c1 =>
      have hw_c1 : u = nI 2 := tb_eq (by decide) c1
      refine g_tableIn F 84 dX1_about_1 (by rw [c1]; decide) (by rw [c1]; decide) (by rw [c1]; rfl) (by decide) ?_
      refine g_aload_n F dX1_about_84 rfl 0 rfl ?_
      refine g_get F (.ref (bn 0)) zX1_about_inX1 0 rfl rfl 0 (by decide) rfl zX1_about_f10 dX1_about_85 ?_
      refine g_get F (.int (f 68)) zX1_about_inX0 7 rfl rfl 2 (by decide) rfl zX1_about_f73 dX1_about_88 ?_
      exact g_endI (hR _ _ dX1_about_91) (by rw [hw_c1]; rfl) rfl
    | 3, _, c1 =>
      have hw_c1 : u = nI 3 := tb_eq (by decide) c1
      refine g_tableIn F 92 dX1_about_1 (by rw [c1]; decide) (by rw [c1]; decide) (by rw [c1]; rfl) (by decide) ?_
      refine g_aload_n F dX1_about_92 rfl 0 rfl ?_
      refine g_get F (.ref (bn 0)) zX1_about_inX1 0 rfl rfl 0 (by decide) rfl zX1_about_f10 dX1_about_93 ?_
      refine g_get F (.int (f 70)) zX1_about_inX0 7 rfl rfl 3 (by decide) rfl zX1_about_f64 dX1_about_96 ?_
      exact g_endI (hR _ _ dX1_about_99) (by rw [hw_c1]; rfl) rfl
    | 4, _, c1 =>
      have hw_c1 : u = nI 4 := tb_eq (by decide) c1
      refine g_tableIn F 100 dX1_about_1 (by rw [c1]; decide) (by rw [c1]; decide) (by rw [c1]; rfl) (by decide) ?_
      refine g_aload_n F dX1_about_100 rfl 0 rfl ?_
      refine g_get F (.ref (bn 0)) zX1_about_inX1 0 rfl rfl 0 (by decide) rfl zX1_about_f10 dX1_about_101 ?_
      refine g_get F (.int (f 69)) zX1_about_inX0 7 rfl rfl 4 (by decide) rfl zX1_about_f76 dX1_about_104 ?_
      exact g_endI (hR _ _ dX1_about_107) (by rw [hw_c1]; rfl) rfl
    | 5, _, c1 =>
      have hw_c1 : u = nI 5 := tb_eq (by decide) c1
      refine g_tableIn F 108 dX1_about_1 (by rw [c1]; decide) (by rw [c1]; decide) (by rw [c1]; rfl) (by decide) ?_
      refine g_aload_n F dX1_about_108 rfl 0 rfl ?_
      refine g_get F (.ref (bn 0)) zX1_about_inX1 0 rfl rfl 0 (by decide) rfl zX1_about_f10 dX1_about_109 ?_
      refine g_get F (.int (f 71)) zX1_about_inX0 7 rfl rfl 5 (by decide) rfl zX1_about_f79 dX1_about_112 ?_
      exact g_endI (hR _ _ dX1_about_115) (by rw [hw_c1]; rfl) rfl
    | 6, _, c1 =>
      have hw_c1 : u = nI 6 := tb_eq (by decide) c1
      refine g_tableIn F 116 dX1_about_1 (by rw [c1]; decide) (by rw [c1]; decide) (by rw [c1]; rfl) (by decide) ?_
      refine g_aload_n F dX1_about_116 rfl 0 rfl ?_
      refine g_get F (.ref (bn 0)) zX1_about_inX1 0 rfl rfl 0 (by decide) rfl zX1_about_f10 dX1_about_117 ?_
      refine g_get F (.int (f 72)) zX1_about_inX0 7 rfl rfl 6 (by decide) rfl zX1_about_f82 dX1_about_120 ?_
      exact g_endI (hR _ _ dX1_about_123) (by rw [hw_c1]; rfl) rfl
    | 7, _, c1 =>
      have hw_c1 : u = nI 7 := tb_eq (by decide) c1
      refine g_tableIn F 124 dX1_about_1 (by rw [c1]; decide) (by rw [c1]; decide) (by rw [c1]; rfl) (by decide) ?_
      refine g_aload_n F dX1_about_124 rfl 0 rfl ?_
      refine g_get F (.ref (bn 0)) zX1_about_inX1 0 rfl rfl 0 (by decide) rfl zX1_about_f10 dX1_about_125 ?_
      refine g_iconst F (v := 1) dX1_about_128 (by decide) ?_
      refine g_segV F (As := [.int 1]) (st := []) ([(x 0, .inr (1, [.ref (bn 0), .ref (bt 0), .ref (x 1), .int (nI ac), .ref (x 2), .int kb, .ref (x 3), .int (nI ln), .ref (x 4), .ref (x 5), .int (nI se), .long sd, .ref (x 6)])), (x 1, .inl (cQ, 14, .inr (.inr (.inr (.inr pa))))), (x 2, .inl (cQ, 2, .inr (.inr (.inr (.inr sl))))), (x 3, .inl (cI, 60, .inl tx)), (x 4, .inl (cI, 6, .inl s1)), (x 5, .inl (cI, 6, .inl s2)), (x 6, .inl (cI, 64, .inl sb))]) (CR cI bt g ++ (Z)) ([(x 0, .inr (1, [.ref (bn 0), .ref (bt 0), .ref (x 1), .int (nI ac), .ref (x 2), .int kb, .ref (x 3), .int (nI ln), .ref (x 4), .ref (x 5), .int (nI se), .long sd, .ref (x 6)])), (x 1, .inl (cQ, 14, .inr (.inr (.inr (.inr pa))))), (x 2, .inl (cQ, 2, .inr (.inr (.inr (.inr sl))))), (x 3, .inl (cI, 60, .inl tx)), (x 4, .inl (cI, 6, .inl s1)), (x 5, .inl (cI, 6, .inl s2)), (x 6, .inl (cI, 64, .inl sb))] ++ (CR cI bn f ++ (CR cI bt g ++ (Z)))) (kX0_bitsOf l D cI cZ cQ bn f 1 ) 0 rfl rfl (cwV 1 F.2.2.2.2.1 gX1_about_X0_bitsOf rfl rfl rfl (by decide +kernel) ⟨Nat.le_of_ble_eq_true rfl, Nat.le_of_ble_eq_true rfl⟩) rfl rfl rfl rfl (Nat.le_of_ble_eq_true rfl) ⟨Nat.zero_le _, Nat.zero_le _⟩ dX1_about_129 ?_
      exact g_endI (hR _ _ dX1_about_132) (by rw [hw_c1]; rfl) rfl
    | 8, _, c1 =>
      have hw_c1 : u = nI 8 := tb_eq (by decide) c1
      refine g_tableIn F 133 dX1_about_1 (by rw [c1]; decide) (by rw [c1]; decide) (by rw [c1]; rfl) (by decide) ?_
      refine g_aload_n F dX1_about_133 rfl 0 rfl ?_
      refine g_get F (.ref (bn 0)) zX1_about_inX1 0 rfl rfl 0 (by decide) rfl zX1_about_f10 dX1_about_134 ?_
      refine g_iconst F (v := 2) dX1_about_137 (by decide) ?_
      refine g_segV F (As := [.int 2]) (st := []) ([(x 0, .inr (1, [.ref (bn 0), .ref (bt 0), .ref (x 1), .int (nI ac), .ref (x 2), .int kb, .ref (x 3), .int (nI ln), .ref (x 4), .ref (x 5), .int (nI se), .long sd, .ref (x 6)])), (x 1, .inl (cQ, 14, .inr (.inr (.inr (.inr pa))))), (x 2, .inl (cQ, 2, .inr (.inr (.inr (.inr sl))))), (x 3, .inl (cI, 60, .inl tx)), (x 4, .inl (cI, 6, .inl s1)), (x 5, .inl (cI, 6, .inl s2)), (x 6, .inl (cI, 64, .inl sb))]) (CR cI bt g ++ (Z)) ([(x 0, .inr (1, [.ref (bn 0), .ref (bt 0), .ref (x 1), .int (nI ac), .ref (x 2), .int kb, .ref (x 3), .int (nI ln), .ref (x 4), .ref (x 5), .int (nI se), .long sd, .ref (x 6)])), (x 1, .inl (cQ, 14, .inr (.inr (.inr (.inr pa))))), (x 2, .inl (cQ, 2, .inr (.inr (.inr (.inr sl))))), (x 3, .inl (cI, 60, .inl tx)), (x 4, .inl (cI, 6, .inl s1)), (x 5, .inl (cI, 6, .inl s2)), (x 6, .inl (cI, 64, .inl sb))] ++ (CR cI bn f ++ (CR cI bt g ++ (Z)))) (kX0_bitsOf l D cI cZ cQ bn f 2 ) 0 rfl rfl (cwV 1 F.2.2.2.2.1 gX1_about_X0_bitsOf rfl rfl rfl (by decide +kernel) ⟨Nat.le_of_ble_eq_true rfl, Nat.le_of_ble_eq_true rfl⟩) rfl rfl rfl rfl (Nat.le_of_ble_eq_true rfl) ⟨Nat.zero_le _, Nat.zero_le _⟩ dX1_about_138 ?_
      exact g_endI (hR _ _ dX1_about_141) (by rw [hw_c1]; rfl) rfl
    | 9, _, c1 =>
      have hw_c1 : u = nI 9 := tb_eq (by decide) c1
      exact absurd hw_c1 h9
    | 10, _, c1 =>
      have hw_c1 : u = nI 10 := tb_eq (by decide) c1
      refine g_tableIn F 147 dX1_about_1 (by rw [c1]; decide) (by rw [c1]; decide) (by rw [c1]; rfl) (by decide) ?_
      refine g_aload_n F dX1_about_147 rfl 0 rfl ?_
      refine g_get F (.int (nI ac)) zX1_about_inX1 0 rfl rfl 3 (by decide) rfl zX1_about_f23 dX1_about_148 ?_
      exact g_endI (hR _ _ dX1_about_151) (by rw [hw_c1]; rfl) rfl
    | 11, _, c1 =>
      have hw_c1 : u = nI 11 := tb_eq (by decide) c1
      refine g_tableIn F 152 dX1_about_1 (by rw [c1]; decide) (by rw [c1]; decide) (by rw [c1]; rfl) (by decide) ?_
      refine g_aload_n F dX1_about_152 rfl 0 rfl ?_
      refine g_get F (.int (nI se)) zX1_about_inX1 0 rfl rfl 10 (by decide) rfl zX1_about_f46 dX1_about_153 ?_
      exact g_endI (hR _ _ dX1_about_156) (by rw [hw_c1]; rfl) rfl
    | 12, _, c1 =>
      have hw_c1 : u = nI 12 := tb_eq (by decide) c1
      refine g_tableIn F 157 dX1_about_1 (by rw [c1]; decide) (by rw [c1]; decide) (by rw [c1]; rfl) (by decide) ?_
      refine g_aload_n F dX1_about_157 rfl 0 rfl ?_
      refine g_get F (.int (nI ln)) zX1_about_inX1 0 rfl rfl 7 (by decide) rfl zX1_about_f37 dX1_about_158 ?_
      exact g_endI (hR _ _ dX1_about_161) (by rw [hw_c1]; rfl) rfl
    | n + 13, hn, _ => exact absurd hn (by omega)
set_option maxHeartbeats 1000000 in
set_option maxRecDepth 100000 in
theorem kX1_about_9 (l : Launch) (D : va_G) (cI cZ cQ : ClassId) (x bn bt : Nat → Nat) (pa sl : Nat → Option Nat) (ac : Nat) (kb : Int32) (tx : Row) (ln : Nat) (s1 s2 : Row) (se : Nat) (sd : Int64) (sb f g : Row) (Z : va_W) (n G : Nat) (hI : Inv n G f) (hn0 : n ≤ 1040000) (hG0 : G ≤ 1000000) : Ct l D (gTy cI cZ cQ) yX1_about wsX1_about ({ frames := 9, cells := 0, slots := 0, locals := 300 }) [.ref (x 0), .int 9] (XW cI cQ x bn bt pa sl ac kb tx ln s1 s2 se sd sb f g Z) (some (.int (S_rest (fun f => S_restN f 6) f 0 100))) (XW cI cQ x bn bt pa sl ac kb tx ln s1 s2 se sd sb f (S_restT (fun f => S_restN f 6) f 0 100) Z) := by
  refine ct_ofI (cc := cX1_about) (nL := 2) (own := RX1) (by decide) rfl rfl ⟨rfl, rfl⟩ (Nat.le_of_ble_eq_true rfl) XW_same (fun p e s m below meth c A Q F hR => ?_)
  refine g_aw ([(x 0, .inr (1, [.ref (bn 0), .ref (bt 0), .ref (x 1), .int (nI ac), .ref (x 2), .int kb, .ref (x 3), .int (nI ln), .ref (x 4), .ref (x 5), .int (nI se), .long sd, .ref (x 6)])), (x 1, .inl (cQ, 14, .inr (.inr (.inr (.inr pa))))), (x 2, .inl (cQ, 2, .inr (.inr (.inr (.inr sl))))), (x 3, .inl (cI, 60, .inl tx)), (x 4, .inl (cI, 6, .inl s1)), (x 5, .inl (cI, 6, .inl s2)), (x 6, .inl (cI, 64, .inl sb))] ++ (CR cI bn f ++ (CR cI bt g ++ (Z)))) rfl ?_
  refine g_iload_n F dX1_about_0 rfl 1 rfl ?_
  refine g_tableIn F 142 dX1_about_1 (by decide) (by decide) rfl (by decide) ?_
  refine g_aload_n F dX1_about_142 rfl 0 rfl ?_
  refine g_callVs F (As := []) (st := []) (kX1_restAt l D cI cZ cQ x bn bt pa sl ac kb tx ln s1 s2 se sd sb f g Z  n G hI hn0 hG0) 0 rfl rfl (cwV 0 F.2.2.2.2.1 gX1_about_X1_restAt rfl rfl rfl (by decide +kernel) ⟨Nat.le_of_ble_eq_true rfl, Nat.le_of_ble_eq_true rfl⟩) rfl rfl (Nat.le_of_ble_eq_true rfl) ⟨Nat.zero_le _, Nat.zero_le _⟩ dX1_about_143 ?_
  exact g_endI (hR _ _ dX1_about_146) rfl rfl
set_option maxHeartbeats 1000000 in
set_option maxRecDepth 100000 in
theorem kX1_ahead_bad (l : Launch) (D : va_G) (cI cZ cQ : ClassId) (x bn bt : Nat → Nat) (pa sl : Nat → Option Nat) (ac : Nat) (kb : Int32) (tx : Row) (ln : Nat) (s1 s2 : Row) (se : Nat) (sd : Int64) (sb f g : Row) (Z : va_W) (v u : Int32) (hb : ¬ (¬ v < 0 ∧ v ≤ 99 ∧ ¬ u < 0 ∧ u ≤ 3)) : Ct l D (gTy cI cZ cQ) yX1_ahead wsX1_ahead ({ frames := 9, cells := 0, slots := 0, locals := 300 }) [.ref (x 0), .int v, .int u] (XW cI cQ x bn bt pa sl ac kb tx ln s1 s2 se sd sb f g Z) (some (.int (-2))) (XW cI cQ x bn bt pa sl ac kb tx ln s1 s2 se sd sb f g Z) := by
  refine ct_ofI (cc := cX1_ahead) (nL := 3) (own := RX1) (by decide) rfl rfl ⟨rfl, rfl⟩ (Nat.le_of_ble_eq_true rfl) XW_same (fun p e s m below meth c A Q F hR => ?_)
  refine g_aw ([(x 0, .inr (1, [.ref (bn 0), .ref (bt 0), .ref (x 1), .int (nI ac), .ref (x 2), .int kb, .ref (x 3), .int (nI ln), .ref (x 4), .ref (x 5), .int (nI se), .long sd, .ref (x 6)])), (x 1, .inl (cQ, 14, .inr (.inr (.inr (.inr pa))))), (x 2, .inl (cQ, 2, .inr (.inr (.inr (.inr sl))))), (x 3, .inl (cI, 60, .inl tx)), (x 4, .inl (cI, 6, .inl s1)), (x 5, .inl (cI, 6, .inl s2)), (x 6, .inl (cI, 64, .inl sb))] ++ (CR cI bn f ++ (CR cI bt g ++ (Z)))) rfl ?_
  refine g_iload_n F dX1_ahead_0 rfl 1 rfl ?_
  refine g_if_lt F 19 dX1_ahead_1 (by decide) (fun c1 => ?_) (fun c1 => ?_)
  · refine g_bipush F (v := (-2)) dX1_ahead_19 (by decide) ?_
    exact g_endI (hR _ _ dX1_ahead_21) rfl rfl
  · refine g_iload_n F dX1_ahead_4 rfl 1 rfl ?_
    refine g_bipush F (v := 99) dX1_ahead_5 (by decide) ?_
    refine g_icmp_gt F 19 dX1_ahead_7 (by decide) (fun c2 => ?_) (fun c2 => ?_)
    · refine g_bipush F (v := (-2)) dX1_ahead_19 (by decide) ?_
      exact g_endI (hR _ _ dX1_ahead_21) rfl rfl
    · refine g_iload_n F dX1_ahead_10 rfl 2 rfl ?_
      refine g_if_lt F 19 dX1_ahead_11 (by decide) (fun c3 => ?_) (fun c3 => ?_)
      · refine g_bipush F (v := (-2)) dX1_ahead_19 (by decide) ?_
        exact g_endI (hR _ _ dX1_ahead_21) rfl rfl
      · refine g_iload_n F dX1_ahead_14 rfl 2 rfl ?_
        refine g_iconst F (v := 3) dX1_ahead_15 (by decide) ?_
        refine g_icmp_le F 22 dX1_ahead_16 (by decide) (fun c4 => ?_) (fun c4 => ?_)
        · exact absurd ⟨c1, Int32.not_lt.mp c2, c3, c4⟩ hb
        · refine g_bipush F (v := (-2)) dX1_ahead_19 (by decide) ?_
          exact g_endI (hR _ _ dX1_ahead_21) rfl rfl
theorem zX1_ahead_f10 : Cond.fieldLink RX1 10 (TX1 0).1 (TX1 0).2.1 (TX1 0).2.2.1 ∈ wsX1_ahead := by decide +kernel
theorem zX1_ahead_f16 : Cond.fieldLink RX1 16 (TX1 1).1 (TX1 1).2.1 (TX1 1).2.2.1 ∈ wsX1_ahead := by decide +kernel
theorem zX1_ahead_f76 : Cond.fieldLink RX1 76 (TX0 4).1 (TX0 4).2.1 (TX0 4).2.2.1 ∈ wsX1_ahead := by decide +kernel
theorem zX1_ahead_f79 : Cond.fieldLink RX1 79 (TX0 5).1 (TX0 5).2.1 (TX0 5).2.2.1 ∈ wsX1_ahead := by decide +kernel
theorem zX1_ahead_f82 : Cond.fieldLink RX1 82 (TX0 6).1 (TX0 6).2.1 (TX0 6).2.2.1 ∈ wsX1_ahead := by decide +kernel
theorem zX1_ahead_inX0 : ∀ w ∈ u_ws RX0 TX0 14, w ∈ wsX1_ahead := by decide +kernel
theorem zX1_ahead_inX1 : ∀ w ∈ u_ws RX1 TX1 13, w ∈ wsX1_ahead := by decide +kernel
set_option maxHeartbeats 1000000 in
set_option maxRecDepth 100000 in
theorem kX1_ahead_ok (l : Launch) (D : va_G) (cI cZ cQ : ClassId) (x bn bt : Nat → Nat) (pa sl : Nat → Option Nat) (ac : Nat) (kb : Int32) (tx : Row) (ln : Nat) (s1 s2 : Row) (se : Nat) (sd : Int64) (sb f g : Row) (Z : va_W) (k : Nat) (u : Int32) (hk : k ≤ 99) (hu : ¬ u < 0 ∧ u ≤ 3) (n G : Nat) (hI : Inv n G f) (hn0 : n ≤ 1040000) (hG0 : G ≤ 1000000) : Ct l D (gTy cI cZ cQ) yX1_ahead wsX1_ahead ({ frames := 9, cells := 0, slots := 0, locals := 300 }) [.ref (x 0), .int (nI k), .int u] (XW cI cQ x bn bt pa sl ac kb tx ln s1 s2 se sd sb f g Z) (some (.int (S_ahead (S_ticks f k) u))) (XW cI cQ x bn bt pa sl ac kb tx ln s1 s2 se sd sb f (S_ticks f k) Z) := by
  refine ct_ofI (cc := cX1_ahead) (nL := 3) (own := RX1) (by decide) rfl rfl ⟨rfl, rfl⟩ (Nat.le_of_ble_eq_true rfl) XW_same (fun p e s m below meth c A Q F hR => ?_)
  refine g_aw ([(x 0, .inr (1, [.ref (bn 0), .ref (bt 0), .ref (x 1), .int (nI ac), .ref (x 2), .int kb, .ref (x 3), .int (nI ln), .ref (x 4), .ref (x 5), .int (nI se), .long sd, .ref (x 6)])), (x 1, .inl (cQ, 14, .inr (.inr (.inr (.inr pa))))), (x 2, .inl (cQ, 2, .inr (.inr (.inr (.inr sl))))), (x 3, .inl (cI, 60, .inl tx)), (x 4, .inl (cI, 6, .inl s1)), (x 5, .inl (cI, 6, .inl s2)), (x 6, .inl (cI, 64, .inl sb))] ++ (CR cI bn f ++ (CR cI bt g ++ (Z)))) rfl ?_
  refine g_iload_n F dX1_ahead_0 rfl 1 rfl ?_
  refine g_if_lt F 19 dX1_ahead_1 (by decide) (fun c1 => ?_) (fun c1 => ?_)
  · exact absurd c1 (nI_pos (by omega))
  · refine g_iload_n F dX1_ahead_4 rfl 1 rfl ?_
    refine g_bipush F (v := 99) dX1_ahead_5 (by decide) ?_
    refine g_icmp_gt F 19 dX1_ahead_7 (by decide) (fun c2 => ?_) (fun c2 => ?_)
    · exact absurd ((nI_ltI (a := 99) (by decide) (by omega)).mp c2) (by omega)
    · refine g_iload_n F dX1_ahead_10 rfl 2 rfl ?_
      refine g_if_lt F 19 dX1_ahead_11 (by decide) (fun c3 => ?_) (fun c3 => ?_)
      · exact absurd c3 hu.1
      · refine g_iload_n F dX1_ahead_14 rfl 2 rfl ?_
        refine g_iconst F (v := 3) dX1_ahead_15 (by decide) ?_
        refine g_icmp_le F 22 dX1_ahead_16 (by decide) (fun c4 => ?_) (fun c4 => ?_)
        · refine g_aload_n F dX1_ahead_22 rfl 0 rfl ?_
          refine g_get F (.ref (bt 0)) zX1_ahead_inX1 0 rfl rfl 1 (by decide) rfl zX1_ahead_f16 dX1_ahead_23 ?_
          refine g_aload_n F dX1_ahead_26 rfl 0 rfl ?_
          refine g_get F (.ref (bn 0)) zX1_ahead_inX1 0 rfl rfl 0 (by decide) rfl zX1_ahead_f10 dX1_ahead_27 ?_
          refine g_segV F (As := [.ref (bn 0)]) (st := []) ([(x 0, .inr (1, [.ref (bn 0), .ref (bt 0), .ref (x 1), .int (nI ac), .ref (x 2), .int kb, .ref (x 3), .int (nI ln), .ref (x 4), .ref (x 5), .int (nI se), .long sd, .ref (x 6)])), (x 1, .inl (cQ, 14, .inr (.inr (.inr (.inr pa))))), (x 2, .inl (cQ, 2, .inr (.inr (.inr (.inr sl))))), (x 3, .inl (cI, 60, .inl tx)), (x 4, .inl (cI, 6, .inl s1)), (x 5, .inl (cI, 6, .inl s2)), (x 6, .inl (cI, 64, .inl sb))]) (Z) ([(x 0, .inr (1, [.ref (bn 0), .ref (bt 0), .ref (x 1), .int (nI ac), .ref (x 2), .int kb, .ref (x 3), .int (nI ln), .ref (x 4), .ref (x 5), .int (nI se), .long sd, .ref (x 6)])), (x 1, .inl (cQ, 14, .inr (.inr (.inr (.inr pa))))), (x 2, .inl (cQ, 2, .inr (.inr (.inr (.inr sl))))), (x 3, .inl (cI, 60, .inl tx)), (x 4, .inl (cI, 6, .inl s1)), (x 5, .inl (cI, 6, .inl s2)), (x 6, .inl (cI, 64, .inl sb))] ++ (CR cI bn f ++ (CR cI bt f ++ (Z)))) (kX0_takeFromS l D cI cZ cQ bt bn g f) 8 rfl rfl (cwV 1 F.2.2.2.2.1 gX1_ahead_X0_takeFrom rfl rfl rfl (by decide +kernel) ⟨Nat.le_of_ble_eq_true rfl, Nat.le_of_ble_eq_true rfl⟩) rfl rfl rfl rfl (Nat.le_of_ble_eq_true rfl) ⟨Nat.zero_le _, Nat.zero_le _⟩ dX1_ahead_30 ?_
          refine g_aload_n F dX1_ahead_33 rfl 0 rfl ?_
          refine g_get F (.ref (bt 0)) zX1_ahead_inX1 0 rfl rfl 1 (by decide) rfl zX1_ahead_f16 dX1_ahead_34 ?_
          refine g_iload_n F dX1_ahead_37 rfl 1 rfl ?_
          refine g_segV F (As := [.int (nI k)]) (st := []) ([(x 0, .inr (1, [.ref (bn 0), .ref (bt 0), .ref (x 1), .int (nI ac), .ref (x 2), .int kb, .ref (x 3), .int (nI ln), .ref (x 4), .ref (x 5), .int (nI se), .long sd, .ref (x 6)])), (x 1, .inl (cQ, 14, .inr (.inr (.inr (.inr pa))))), (x 2, .inl (cQ, 2, .inr (.inr (.inr (.inr sl))))), (x 3, .inl (cI, 60, .inl tx)), (x 4, .inl (cI, 6, .inl s1)), (x 5, .inl (cI, 6, .inl s2)), (x 6, .inl (cI, 64, .inl sb))] ++ (CR cI bn f)) (Z) ([(x 0, .inr (1, [.ref (bn 0), .ref (bt 0), .ref (x 1), .int (nI ac), .ref (x 2), .int kb, .ref (x 3), .int (nI ln), .ref (x 4), .ref (x 5), .int (nI se), .long sd, .ref (x 6)])), (x 1, .inl (cQ, 14, .inr (.inr (.inr (.inr pa))))), (x 2, .inl (cQ, 2, .inr (.inr (.inr (.inr sl))))), (x 3, .inl (cI, 60, .inl tx)), (x 4, .inl (cI, 6, .inl s1)), (x 5, .inl (cI, 6, .inl s2)), (x 6, .inl (cI, 64, .inl sb))] ++ (CR cI bn f ++ (CR cI bt (S_ticks f k) ++ (Z)))) (kX0_run l D cI cZ cQ bt f k n G (by omega) hI (by omega) (by omega)) 0 rfl rfl (cwV 1 F.2.2.2.2.1 gX1_ahead_X0_run rfl rfl rfl (by decide +kernel) ⟨Nat.le_of_ble_eq_true rfl, Nat.le_of_ble_eq_true rfl⟩) rfl rfl rfl rfl (Nat.le_of_ble_eq_true rfl) ⟨Nat.zero_le _, Nat.zero_le _⟩ dX1_ahead_38 ?_
          refine g_pop F dX1_ahead_41 rfl ?_
          refine g_iload_n F dX1_ahead_42 rfl 2 rfl ?_
          rcases tb_cases u 0 3 (by decide) with c5 | ⟨n_c5, hn_c5, c5⟩
          · refine g_tableOut F 93 dX1_ahead_43 (by omega) (by decide) ?_
            refine g_aload_n F dX1_ahead_93 rfl 0 rfl ?_
            refine g_get F (.ref (bt 0)) zX1_ahead_inX1 0 rfl rfl 1 (by decide) rfl zX1_ahead_f16 dX1_ahead_94 ?_
            refine g_get F (.int ((S_ticks f k) 69)) zX1_ahead_inX0 15 rfl rfl 4 (by decide) rfl zX1_ahead_f76 dX1_ahead_97 ?_
            exact g_endI (hR _ _ dX1_ahead_100) (by unfold S_ahead; rw [if_neg (show ¬ u = 0 from tb_ne (n := 0) c5 (by decide) (by decide)), if_neg (show ¬ u = 1 from tb_ne (n := 1) c5 (by decide) (by decide)), if_neg (show ¬ u = 2 from tb_ne (n := 2) c5 (by decide) (by decide))]) rfl
          · match n_c5, hn_c5, c5 with
            | 0, _, c5 =>
              have hw_c5 : u = nI 0 := tb_eq (by decide) c5
              refine g_tableIn F 68 dX1_ahead_43 (by rw [c5]; decide) (by rw [c5]; decide) (by rw [c5]; rfl) (by decide) ?_
              refine g_aload_n F dX1_ahead_68 rfl 0 rfl ?_
              refine g_get F (.ref (bt 0)) zX1_ahead_inX1 0 rfl rfl 1 (by decide) rfl zX1_ahead_f16 dX1_ahead_69 ?_
              refine g_get F (.int ((S_ticks f k) 71)) zX1_ahead_inX0 15 rfl rfl 5 (by decide) rfl zX1_ahead_f79 dX1_ahead_72 ?_
              exact g_endI (hR _ _ dX1_ahead_75) (by rw [hw_c5]; rfl) rfl
            | 1, _, c5 =>
              have hw_c5 : u = nI 1 := tb_eq (by decide) c5
              refine g_tableIn F 76 dX1_ahead_43 (by rw [c5]; decide) (by rw [c5]; decide) (by rw [c5]; rfl) (by decide) ?_
              refine g_aload_n F dX1_ahead_76 rfl 0 rfl ?_
              refine g_get F (.ref (bt 0)) zX1_ahead_inX1 0 rfl rfl 1 (by decide) rfl zX1_ahead_f16 dX1_ahead_77 ?_
              refine g_get F (.int ((S_ticks f k) 72)) zX1_ahead_inX0 15 rfl rfl 6 (by decide) rfl zX1_ahead_f82 dX1_ahead_80 ?_
              exact g_endI (hR _ _ dX1_ahead_83) (by rw [hw_c5]; rfl) rfl
            | 2, _, c5 =>
              have hw_c5 : u = nI 2 := tb_eq (by decide) c5
              refine g_tableIn F 84 dX1_ahead_43 (by rw [c5]; decide) (by rw [c5]; decide) (by rw [c5]; rfl) (by decide) ?_
              refine g_aload_n F dX1_ahead_84 rfl 0 rfl ?_
              refine g_get F (.ref (bt 0)) zX1_ahead_inX1 0 rfl rfl 1 (by decide) rfl zX1_ahead_f16 dX1_ahead_85 ?_
              refine g_iconst F (v := 1) dX1_ahead_88 (by decide) ?_
              refine g_segV F (As := [.int 1]) (st := []) ([(x 0, .inr (1, [.ref (bn 0), .ref (bt 0), .ref (x 1), .int (nI ac), .ref (x 2), .int kb, .ref (x 3), .int (nI ln), .ref (x 4), .ref (x 5), .int (nI se), .long sd, .ref (x 6)])), (x 1, .inl (cQ, 14, .inr (.inr (.inr (.inr pa))))), (x 2, .inl (cQ, 2, .inr (.inr (.inr (.inr sl))))), (x 3, .inl (cI, 60, .inl tx)), (x 4, .inl (cI, 6, .inl s1)), (x 5, .inl (cI, 6, .inl s2)), (x 6, .inl (cI, 64, .inl sb))] ++ (CR cI bn f)) (Z) ([(x 0, .inr (1, [.ref (bn 0), .ref (bt 0), .ref (x 1), .int (nI ac), .ref (x 2), .int kb, .ref (x 3), .int (nI ln), .ref (x 4), .ref (x 5), .int (nI se), .long sd, .ref (x 6)])), (x 1, .inl (cQ, 14, .inr (.inr (.inr (.inr pa))))), (x 2, .inl (cQ, 2, .inr (.inr (.inr (.inr sl))))), (x 3, .inl (cI, 60, .inl tx)), (x 4, .inl (cI, 6, .inl s1)), (x 5, .inl (cI, 6, .inl s2)), (x 6, .inl (cI, 64, .inl sb))] ++ (CR cI bn f ++ (CR cI bt (S_ticks f k) ++ (Z)))) (kX0_bitsOf l D cI cZ cQ bt (S_ticks f k) 1 ) 0 rfl rfl (cwV 1 F.2.2.2.2.1 gX1_ahead_X0_bitsOf rfl rfl rfl (by decide +kernel) ⟨Nat.le_of_ble_eq_true rfl, Nat.le_of_ble_eq_true rfl⟩) rfl rfl rfl rfl (Nat.le_of_ble_eq_true rfl) ⟨Nat.zero_le _, Nat.zero_le _⟩ dX1_ahead_89 ?_
              exact g_endI (hR _ _ dX1_ahead_92) (by rw [hw_c5]; rfl) rfl
            | n + 3, hn, _ => exact absurd hn (by omega)
        · exact absurd hu.2 c4
set_option maxHeartbeats 1000000 in
set_option maxRecDepth 100000 in
theorem kX1_crowd_bad (l : Launch) (D : va_G) (cI cZ cQ : ClassId) (x bn bt : Nat → Nat) (pa sl : Nat → Option Nat) (ac : Nat) (kb : Int32) (tx : Row) (ln : Nat) (s1 s2 : Row) (se : Nat) (sd : Int64) (sb f g : Row) (Z : va_W) (v : Int32) (hb : ¬ (¬ v < 1 ∧ v ≤ 99)) : Ct l D (gTy cI cZ cQ) yX1_crowd wsX1_crowd ({ frames := 9, cells := 0, slots := 0, locals := 300 }) [.ref (x 0), .int v] (XW cI cQ x bn bt pa sl ac kb tx ln s1 s2 se sd sb f g Z) (some (.int (-2))) (XW cI cQ x bn bt pa sl ac kb tx ln s1 s2 se sd sb f g Z) := by
  refine ct_ofI (cc := cX1_crowd) (nL := 4) (own := RX1) (by decide) rfl rfl ⟨rfl, rfl⟩ (Nat.le_of_ble_eq_true rfl) XW_same (fun p e s m below meth c A Q F hR => ?_)
  refine g_aw ([(x 0, .inr (1, [.ref (bn 0), .ref (bt 0), .ref (x 1), .int (nI ac), .ref (x 2), .int kb, .ref (x 3), .int (nI ln), .ref (x 4), .ref (x 5), .int (nI se), .long sd, .ref (x 6)])), (x 1, .inl (cQ, 14, .inr (.inr (.inr (.inr pa))))), (x 2, .inl (cQ, 2, .inr (.inr (.inr (.inr sl))))), (x 3, .inl (cI, 60, .inl tx)), (x 4, .inl (cI, 6, .inl s1)), (x 5, .inl (cI, 6, .inl s2)), (x 6, .inl (cI, 64, .inl sb))] ++ (CR cI bn f ++ (CR cI bt g ++ (Z)))) rfl ?_
  refine g_iload_n F dX1_crowd_0 rfl 1 rfl ?_
  refine g_iconst F (v := 1) dX1_crowd_1 (by decide) ?_
  refine g_icmp_lt F 11 dX1_crowd_2 (by decide) (fun c1 => ?_) (fun c1 => ?_)
  · refine g_bipush F (v := (-2)) dX1_crowd_11 (by decide) ?_
    exact g_endI (hR _ _ dX1_crowd_13) rfl rfl
  · refine g_iload_n F dX1_crowd_5 rfl 1 rfl ?_
    refine g_bipush F (v := 99) dX1_crowd_6 (by decide) ?_
    refine g_icmp_le F 14 dX1_crowd_8 (by decide) (fun c2 => ?_) (fun c2 => ?_)
    · exact absurd ⟨c1, c2⟩ hb
    · refine g_bipush F (v := (-2)) dX1_crowd_11 (by decide) ?_
      exact g_endI (hR _ _ dX1_crowd_13) rfl rfl
theorem zX1_crowd_f10 : Cond.fieldLink RX1 10 (TX1 0).1 (TX1 0).2.1 (TX1 0).2.2.1 ∈ wsX1_crowd := by decide +kernel
theorem zX1_crowd_f16 : Cond.fieldLink RX1 16 (TX1 1).1 (TX1 1).2.1 (TX1 1).2.2.1 ∈ wsX1_crowd := by decide +kernel
theorem zX1_crowd_imath : Cond.initialized "java/lang/Math" ∈ wsX1_crowd := by decide +kernel
theorem zX1_crowd_inX1 : ∀ w ∈ u_ws RX1 TX1 13, w ∈ wsX1_crowd := by decide +kernel
theorem zX1_crowd_kmmax : Cond.code Lib.Math.max.name Lib.Math.max.code 2 (some .int) ∈ wsX1_crowd := by decide +kernel
theorem zX1_crowd_l143 : Cond.methodLink RX1 143 Lib.Math.max.name ∈ wsX1_crowd := by decide +kernel
theorem zX1_crowd_smmax : Cond.static Lib.Math.max.name ∈ wsX1_crowd := by decide +kernel
set_option maxHeartbeats 1000000 in
set_option maxRecDepth 100000 in
theorem kX1_crowd_ok (l : Launch) (D : va_G) (cI cZ cQ : ClassId) (x bn bt : Nat → Nat) (pa sl : Nat → Option Nat) (ac : Nat) (kb : Int32) (tx : Row) (ln : Nat) (s1 s2 : Row) (se : Nat) (sd : Int64) (sb f g : Row) (Z : va_W) (k : Nat) (h1 : 1 ≤ k) (hk : k ≤ 99) (n G : Nat) (hI : Inv n G f) (hn0 : n ≤ 1040000) (hG0 : G ≤ 1000000) : Ct l D (gTy cI cZ cQ) yX1_crowd wsX1_crowd ({ frames := 9, cells := 0, slots := 0, locals := 300 }) [.ref (x 0), .int (nI k)] (XW cI cQ x bn bt pa sl ac kb tx ln s1 s2 se sd sb f g Z) (some (.int (S_crowd f k))) (XW cI cQ x bn bt pa sl ac kb tx ln s1 s2 se sd sb f (S_ticks f k) Z) := by
  refine ct_ofI (cc := cX1_crowd) (nL := 4) (own := RX1) (by decide) rfl rfl ⟨rfl, rfl⟩ (Nat.le_of_ble_eq_true rfl) XW_same (fun p e s m below meth c A Q F hR => ?_)
  refine g_aw ([(x 0, .inr (1, [.ref (bn 0), .ref (bt 0), .ref (x 1), .int (nI ac), .ref (x 2), .int kb, .ref (x 3), .int (nI ln), .ref (x 4), .ref (x 5), .int (nI se), .long sd, .ref (x 6)])), (x 1, .inl (cQ, 14, .inr (.inr (.inr (.inr pa))))), (x 2, .inl (cQ, 2, .inr (.inr (.inr (.inr sl))))), (x 3, .inl (cI, 60, .inl tx)), (x 4, .inl (cI, 6, .inl s1)), (x 5, .inl (cI, 6, .inl s2)), (x 6, .inl (cI, 64, .inl sb))] ++ (CR cI bn f ++ (CR cI bt g ++ (Z)))) rfl ?_
  refine g_iload_n F dX1_crowd_0 rfl 1 rfl ?_
  refine g_iconst F (v := 1) dX1_crowd_1 (by decide) ?_
  refine g_icmp_lt F 11 dX1_crowd_2 (by decide) (fun c1 => ?_) (fun c1 => ?_)
  · exact absurd ((nI_ltI (b := 1) (by omega) (by decide)).mp c1) (by omega)
  · refine g_iload_n F dX1_crowd_5 rfl 1 rfl ?_
    refine g_bipush F (v := 99) dX1_crowd_6 (by decide) ?_
    refine g_icmp_le F 14 dX1_crowd_8 (by decide) (fun c2 => ?_) (fun c2 => ?_)
    · refine g_aload_n F dX1_crowd_14 rfl 0 rfl ?_
      refine g_get F (.ref (bt 0)) zX1_crowd_inX1 0 rfl rfl 1 (by decide) rfl zX1_crowd_f16 dX1_crowd_15 ?_
      refine g_aload_n F dX1_crowd_18 rfl 0 rfl ?_
      refine g_get F (.ref (bn 0)) zX1_crowd_inX1 0 rfl rfl 0 (by decide) rfl zX1_crowd_f10 dX1_crowd_19 ?_
      refine g_segV F (As := [.ref (bn 0)]) (st := []) ([(x 0, .inr (1, [.ref (bn 0), .ref (bt 0), .ref (x 1), .int (nI ac), .ref (x 2), .int kb, .ref (x 3), .int (nI ln), .ref (x 4), .ref (x 5), .int (nI se), .long sd, .ref (x 6)])), (x 1, .inl (cQ, 14, .inr (.inr (.inr (.inr pa))))), (x 2, .inl (cQ, 2, .inr (.inr (.inr (.inr sl))))), (x 3, .inl (cI, 60, .inl tx)), (x 4, .inl (cI, 6, .inl s1)), (x 5, .inl (cI, 6, .inl s2)), (x 6, .inl (cI, 64, .inl sb))]) (Z) ([(x 0, .inr (1, [.ref (bn 0), .ref (bt 0), .ref (x 1), .int (nI ac), .ref (x 2), .int kb, .ref (x 3), .int (nI ln), .ref (x 4), .ref (x 5), .int (nI se), .long sd, .ref (x 6)])), (x 1, .inl (cQ, 14, .inr (.inr (.inr (.inr pa))))), (x 2, .inl (cQ, 2, .inr (.inr (.inr (.inr sl))))), (x 3, .inl (cI, 60, .inl tx)), (x 4, .inl (cI, 6, .inl s1)), (x 5, .inl (cI, 6, .inl s2)), (x 6, .inl (cI, 64, .inl sb))] ++ (CR cI bn f ++ (CR cI bt f ++ (Z)))) (kX0_takeFromS l D cI cZ cQ bt bn g f) 8 rfl rfl (cwV 1 F.2.2.2.2.1 gX1_crowd_X0_takeFrom rfl rfl rfl (by decide +kernel) ⟨Nat.le_of_ble_eq_true rfl, Nat.le_of_ble_eq_true rfl⟩) rfl rfl rfl rfl (Nat.le_of_ble_eq_true rfl) ⟨Nat.zero_le _, Nat.zero_le _⟩ dX1_crowd_22 ?_
      refine g_iconst F (v := 0) dX1_crowd_25 (by decide) ?_
      refine g_istore_n F (lv' := [(0, .ref (x 0)), (1, .int (nI k)), (2, .int 0)]) dX1_crowd_26 rfl (by decide) [1, 2, 0] rfl ?_
      refine g_iconst F (v := 0) dX1_crowd_27 (by decide) ?_
      refine g_istore_n F (lv' := [(0, .ref (x 0)), (1, .int (nI k)), (2, .int 0), (3, .int 0)]) dX1_crowd_28 rfl (by decide) [1, 2, 3, 0] rfl ?_
      refine g_all (w0 := [(x 0, .inr (1, [.ref (bn 0), .ref (bt 0), .ref (x 1), .int (nI ac), .ref (x 2), .int kb, .ref (x 3), .int (nI ln), .ref (x 4), .ref (x 5), .int (nI se), .long sd, .ref (x 6)])), (x 1, .inl (cQ, 14, .inr (.inr (.inr (.inr pa))))), (x 2, .inl (cQ, 2, .inr (.inr (.inr (.inr sl))))), (x 3, .inl (cI, 60, .inl tx)), (x 4, .inl (cI, 6, .inl s1)), (x 5, .inl (cI, 6, .inl s2)), (x 6, .inl (cI, 64, .inl sb))] ++ (CR cI bn f ++ (CR cI bt (S_ticks f 0) ++ (Z)))) (lv0 := [(0, .ref (x 0)), (1, .int (nI k)), (2, .int (S_crowd f 0)), (3, .int (nI 0))]) (st0 := []) rfl rfl rfl ?_
      refine g_for k (fun i => True) (fun i => [(x 0, .inr (1, [.ref (bn 0), .ref (bt 0), .ref (x 1), .int (nI ac), .ref (x 2), .int kb, .ref (x 3), .int (nI ln), .ref (x 4), .ref (x 5), .int (nI se), .long sd, .ref (x 6)])), (x 1, .inl (cQ, 14, .inr (.inr (.inr (.inr pa))))), (x 2, .inl (cQ, 2, .inr (.inr (.inr (.inr sl))))), (x 3, .inl (cI, 60, .inl tx)), (x 4, .inl (cI, 6, .inl s1)), (x 5, .inl (cI, 6, .inl s2)), (x 6, .inl (cI, 64, .inl sb))] ++ (CR cI bn f ++ (CR cI bt (S_ticks f i) ++ (Z)))) (fun i => [(0, .ref (x 0)), (1, .int (nI k)), (2, .int (S_crowd f i)), (3, .int (nI i))]) (fun i hi hIi ihi => ?_) 0 (Nat.zero_le _) trivial
      refine g_iload_n F dX1_crowd_29 rfl 3 rfl ?_
      refine g_iload_n F dX1_crowd_30 rfl 1 rfl ?_
      refine g_icmp_ge F 53 dX1_crowd_31 (by decide) (fun c3 => ?_) (fun c3 => ?_)
      · have hx_c3 : k = i := lp_ge hi (by omega) c3
        subst hx_c3
        refine g_iload_n F dX1_crowd_53 rfl 2 rfl ?_
        exact g_endI (hR _ _ dX1_crowd_54) rfl rfl
      · have hlti : i < k := lp_lt hi (by omega) c3
        refine g_iload_n F dX1_crowd_34 rfl 2 rfl ?_
        refine g_aload_n F dX1_crowd_35 rfl 0 rfl ?_
        refine g_get F (.ref (bt 0)) zX1_crowd_inX1 0 rfl rfl 1 (by decide) rfl zX1_crowd_f16 dX1_crowd_36 ?_
        refine g_iconst F (v := 1) dX1_crowd_39 (by decide) ?_
        refine g_segV F (As := [.int 1]) (st := [.int (S_crowd f i)]) ([(x 0, .inr (1, [.ref (bn 0), .ref (bt 0), .ref (x 1), .int (nI ac), .ref (x 2), .int kb, .ref (x 3), .int (nI ln), .ref (x 4), .ref (x 5), .int (nI se), .long sd, .ref (x 6)])), (x 1, .inl (cQ, 14, .inr (.inr (.inr (.inr pa))))), (x 2, .inl (cQ, 2, .inr (.inr (.inr (.inr sl))))), (x 3, .inl (cI, 60, .inl tx)), (x 4, .inl (cI, 6, .inl s1)), (x 5, .inl (cI, 6, .inl s2)), (x 6, .inl (cI, 64, .inl sb))] ++ (CR cI bn f)) (Z) ([(x 0, .inr (1, [.ref (bn 0), .ref (bt 0), .ref (x 1), .int (nI ac), .ref (x 2), .int kb, .ref (x 3), .int (nI ln), .ref (x 4), .ref (x 5), .int (nI se), .long sd, .ref (x 6)])), (x 1, .inl (cQ, 14, .inr (.inr (.inr (.inr pa))))), (x 2, .inl (cQ, 2, .inr (.inr (.inr (.inr sl))))), (x 3, .inl (cI, 60, .inl tx)), (x 4, .inl (cI, 6, .inl s1)), (x 5, .inl (cI, 6, .inl s2)), (x 6, .inl (cI, 64, .inl sb))] ++ (CR cI bn f ++ (CR cI bt (S_ticks (S_ticks f i) 1) ++ (Z)))) (kX0_run l D cI cZ cQ bt (S_ticks f i) 1 (n + i) (G + 36 * i) (by decide) (Inv_ticks hI 100 (by omega) (by omega) i (by omega)) (by omega) (by omega)) 0 rfl rfl (cwV 1 F.2.2.2.2.1 gX1_crowd_X0_run rfl rfl rfl (by decide +kernel) ⟨Nat.le_of_ble_eq_true rfl, Nat.le_of_ble_eq_true rfl⟩) rfl rfl rfl rfl (Nat.le_of_ble_eq_true rfl) ⟨Nat.zero_le _, Nat.zero_le _⟩ dX1_crowd_40 ?_
        refine g_mmax F zX1_crowd_l143 zX1_crowd_smmax zX1_crowd_imath zX1_crowd_kmmax (Nat.le_of_ble_eq_true rfl) (Nat.le_of_ble_eq_true rfl) (Nat.zero_le _) (Nat.zero_le _) dX1_crowd_43 ?_
        refine g_istore_n F (lv' := [(0, .ref (x 0)), (1, .int (nI k)), (2, .int (if S_crowd f i < S_pass (S_ticks f i) 1 then S_pass (S_ticks f i) 1 else S_crowd f i)), (3, .int (nI i))]) dX1_crowd_46 rfl (by decide) [1, 2, 0, 3] rfl ?_
        refine g_iinc F (lv' := [(0, .ref (x 0)), (1, .int (nI k)), (2, .int (if S_crowd f i < S_pass (S_ticks f i) 1 then S_pass (S_ticks f i) 1 else S_crowd f i)), (3, .int (nI (i + 1)))]) (nI (i + 1)) dX1_crowd_47 3 rfl (nI_add i 1) (by decide) [1, 2, 3, 0] rfl ?_
        refine g_goto F 29 dX1_crowd_50 (by decide) ?_
        refine g_all (w0 := [(x 0, .inr (1, [.ref (bn 0), .ref (bt 0), .ref (x 1), .int (nI ac), .ref (x 2), .int kb, .ref (x 3), .int (nI ln), .ref (x 4), .ref (x 5), .int (nI se), .long sd, .ref (x 6)])), (x 1, .inl (cQ, 14, .inr (.inr (.inr (.inr pa))))), (x 2, .inl (cQ, 2, .inr (.inr (.inr (.inr sl))))), (x 3, .inl (cI, 60, .inl tx)), (x 4, .inl (cI, 6, .inl s1)), (x 5, .inl (cI, 6, .inl s2)), (x 6, .inl (cI, 64, .inl sb))] ++ (CR cI bn f ++ (CR cI bt (S_ticks f (i + 1)) ++ (Z)))) (lv0 := [(0, .ref (x 0)), (1, .int (nI k)), (2, .int (S_crowd f (i + 1))), (3, .int (nI (i + 1)))]) (st0 := []) (by rw [S_ticks_1, S_ticks_s]) (by rw [S_crowd_s, ← S_max_c]) rfl ?_
        exact ihi hlti trivial
    · exact absurd (nI_le (b := 99) hk (by decide)) c2
theorem zX1_tenTo_c198 : Cond.constantLong RX1 198 (10) ∈ wsX1_tenTo := by decide +kernel
set_option maxHeartbeats 1000000 in
set_option maxRecDepth 100000 in
theorem kX1_tenTo (l : Launch) (D : va_G) (cI cZ cQ : ClassId) (n : Nat) (hn : n < 2 ^ 31) : Ct l D (gTy cI cZ cQ) yX1_tenTo wsX1_tenTo ({ frames := 0, cells := 0, slots := 0, locals := 0 }) [.int (nI n)] ([]) (some (.long (S_ten n))) ([]) := by
  refine ct_ofL (cc := cX1_tenTo) (nL := 4) (own := RX1) (by decide) rfl rfl ⟨rfl, rfl⟩ (Nat.le_of_ble_eq_true rfl) (by simp only [List.map]) (fun p e s m below meth c A Q F hR => ?_)
  refine g_lconst F (v := 1) dX1_tenTo_0 (by decide) ?_
  refine g_lstore_n F (lv' := [(0, .int (nI n)), (1, .long 1)]) dX1_tenTo_1 rfl (by decide) [1, 0] rfl ?_
  refine g_iconst F (v := 0) dX1_tenTo_2 (by decide) ?_
  refine g_istore_n F (lv' := [(0, .int (nI n)), (1, .long 1), (3, .int 0)]) dX1_tenTo_3 rfl (by decide) [1, 2, 0] rfl ?_
  refine g_all (w0 := []) (lv0 := [(0, .int (nI n)), (1, .long (S_ten 0)), (3, .int (nI 0))]) (st0 := []) rfl rfl rfl ?_
  refine g_for n (fun i => True) (fun i => []) (fun i => [(0, .int (nI n)), (1, .long (S_ten i)), (3, .int (nI i))]) (fun i hi hIi ihi => ?_) 0 (Nat.zero_le _) trivial
  refine g_iload_n F dX1_tenTo_4 rfl 2 rfl ?_
  refine g_iload_n F dX1_tenTo_5 rfl 0 rfl ?_
  refine g_icmp_ge F 21 dX1_tenTo_6 (by decide) (fun c1 => ?_) (fun c1 => ?_)
  · have hx_c1 : n = i := lp_ge hi hn c1
    subst hx_c1
    refine g_lload_n F dX1_tenTo_21 rfl 1 rfl ?_
    exact g_endL (hR _ _ dX1_tenTo_22) rfl rfl
  · have hlti : i < n := lp_lt hi hn c1
    refine g_lload_n F dX1_tenTo_9 rfl 1 rfl ?_
    refine g_ldc2 F zX1_tenTo_c198 dX1_tenTo_10 ?_
    refine g_lmul F dX1_tenTo_13 ?_
    refine g_lstore_n F (lv' := [(0, .int (nI n)), (1, .long ((S_ten i) * 10)), (3, .int (nI i))]) dX1_tenTo_14 rfl (by decide) [1, 0, 2] rfl ?_
    refine g_iinc F (lv' := [(0, .int (nI n)), (1, .long ((S_ten i) * 10)), (3, .int (nI (i + 1)))]) (nI (i + 1)) dX1_tenTo_15 2 rfl (nI_add i 1) (by decide) [1, 2, 0] rfl ?_
    refine g_goto F 4 dX1_tenTo_18 (by decide) ?_
    refine g_all (w0 := []) (lv0 := [(0, .int (nI n)), (1, .long (S_ten (i + 1))), (3, .int (nI (i + 1)))]) (st0 := []) rfl rfl rfl ?_
    exact ihi hlti trivial
set_option maxHeartbeats 1000000 in
set_option maxRecDepth 100000 in
theorem kX1_part (l : Launch) (D : va_G) (cI cZ cQ : ClassId) (X j_ k_ : Nat) (hX : X < 2 ^ 63) (hb : j_ * k_ ≤ 18) (hc : k_ ≤ 8) : Ct l D (gTy cI cZ cQ) yX1_part wsX1_part ({ frames := 1, cells := 0, slots := 0, locals := 23 }) [.long (lN X), .int (nI j_), .int (nI k_)] ([]) (some (.int (nI (S_part X j_ k_)))) ([]) := by
  refine ct_ofI (cc := cX1_part) (nL := 4) (own := RX1) (by decide) rfl rfl ⟨rfl, rfl⟩ (Nat.le_of_ble_eq_true rfl) (by simp only [List.map]) (fun p e s m below meth c A Q F hR => ?_)
  refine g_lload_n F dX1_part_0 rfl 0 rfl ?_
  refine g_iload_n F dX1_part_1 rfl 1 rfl ?_
  refine g_iload_n F dX1_part_2 rfl 2 rfl ?_
  refine g_imul F dX1_part_3 ?_
  refine g_as (nI (j_ * k_)) (pk_mul j_ k_) ?_
  refine g_callSs F (As := [.int (nI (j_ * k_))]) (st := [.long (lN X)]) (kX1_tenTo l D cI cZ cQ (j_ * k_) (by omega)) (va_cwS 1 F.2.2.2.2.1 gX1_part_X1_tenTo rfl rfl rfl (by decide +kernel) ⟨Nat.le_of_ble_eq_true rfl, Nat.le_of_ble_eq_true rfl⟩) rfl rfl (Nat.le_of_ble_eq_true rfl) ⟨Nat.zero_le _, Nat.zero_le _⟩ dX1_part_4 ?_
  refine g_ldiv F dX1_part_7 (ten_nz hb) ?_
  refine g_iload_n F dX1_part_8 rfl 2 rfl ?_
  refine g_callSs F (As := [.int (nI k_)]) (st := [.long ((lN X) / (S_ten (j_ * k_)))]) (kX1_tenTo l D cI cZ cQ k_ (by omega)) (va_cwS 1 F.2.2.2.2.1 gX1_part_X1_tenTo rfl rfl rfl (by decide +kernel) ⟨Nat.le_of_ble_eq_true rfl, Nat.le_of_ble_eq_true rfl⟩) rfl rfl (Nat.le_of_ble_eq_true rfl) ⟨Nat.zero_le _, Nat.zero_le _⟩ dX1_part_9 ?_
  refine g_lrem F dX1_part_12 (ten_nz (by omega)) ?_
  refine g_l2i F dX1_part_13 ?_
  exact g_endI (hR _ _ dX1_part_14) (part_ok hX hb hc) rfl
set_option maxHeartbeats 1000000 in
set_option maxRecDepth 100000 in
theorem kX1_jitter_bad (l : Launch) (D : va_G) (cI cZ cQ : ClassId) (x bn bt : Nat → Nat) (pa sl : Nat → Option Nat) (ac : Nat) (kb : Int32) (tx : Row) (ln : Nat) (s1 s2 : Row) (se : Nat) (sd : Int64) (sb f g : Row) (Z : va_W) (v : Int32) (y : Int64) (hb : ¬ (¬ v < 1 ∧ v ≤ 6)) : Ct l D (gTy cI cZ cQ) yX1_jitter wsX1_jitter ({ frames := 2, cells := 0, slots := 0, locals := 60 }) [.ref (x 0), .int v, .long y] (XW cI cQ x bn bt pa sl ac kb tx ln s1 s2 se sd sb f g Z) (some (.int (-2))) (XW cI cQ x bn bt pa sl ac kb tx ln s1 s2 se sd sb f g Z) := by
  refine ct_ofI (cc := cX1_jitter) (nL := 7) (own := RX1) (by decide) rfl rfl ⟨rfl, rfl⟩ (Nat.le_of_ble_eq_true rfl) XW_same (fun p e s m below meth c A Q F hR => ?_)
  refine g_aw ([(x 0, .inr (1, [.ref (bn 0), .ref (bt 0), .ref (x 1), .int (nI ac), .ref (x 2), .int kb, .ref (x 3), .int (nI ln), .ref (x 4), .ref (x 5), .int (nI se), .long sd, .ref (x 6)])), (x 1, .inl (cQ, 14, .inr (.inr (.inr (.inr pa))))), (x 2, .inl (cQ, 2, .inr (.inr (.inr (.inr sl))))), (x 3, .inl (cI, 60, .inl tx)), (x 4, .inl (cI, 6, .inl s1)), (x 5, .inl (cI, 6, .inl s2)), (x 6, .inl (cI, 64, .inl sb))] ++ (CR cI bn f ++ (CR cI bt g ++ (Z)))) rfl ?_
  refine g_iload_n F dX1_jitter_0 rfl 1 rfl ?_
  refine g_iconst F (v := 1) dX1_jitter_1 (by decide) ?_
  refine g_icmp_lt F 28 dX1_jitter_2 (by decide) (fun c1 => ?_) (fun c1 => ?_)
  · refine g_bipush F (v := (-2)) dX1_jitter_28 (by decide) ?_
    exact g_endI (hR _ _ dX1_jitter_30) rfl rfl
  · refine g_iload_n F dX1_jitter_5 rfl 1 rfl ?_
    refine g_bipush F (v := 6) dX1_jitter_6 (by decide) ?_
    refine g_icmp_gt F 28 dX1_jitter_8 (by decide) (fun c2 => ?_) (fun c2 => ?_)
    · refine g_bipush F (v := (-2)) dX1_jitter_28 (by decide) ?_
      exact g_endI (hR _ _ dX1_jitter_30) rfl rfl
    · exact absurd ⟨c1, Int32.not_lt.mp c2⟩ hb
set_option maxHeartbeats 1000000 in
set_option maxRecDepth 100000 in
theorem kX1_jitter_bad2 (l : Launch) (D : va_G) (cI cZ cQ : ClassId) (x bn bt : Nat → Nat) (pa sl : Nat → Option Nat) (ac : Nat) (kb : Int32) (tx : Row) (ln : Nat) (s1 s2 : Row) (se : Nat) (sd : Int64) (sb f g : Row) (Z : va_W) (m_ : Nat) (y : Int64) (h1 : 1 ≤ m_) (hm : m_ ≤ 6) (hb : ¬ (¬ y < 0 ∧ y < S_ten (2 * m_))) : Ct l D (gTy cI cZ cQ) yX1_jitter wsX1_jitter ({ frames := 2, cells := 0, slots := 0, locals := 60 }) [.ref (x 0), .int (nI m_), .long y] (XW cI cQ x bn bt pa sl ac kb tx ln s1 s2 se sd sb f g Z) (some (.int (-2))) (XW cI cQ x bn bt pa sl ac kb tx ln s1 s2 se sd sb f g Z) := by
  refine ct_ofI (cc := cX1_jitter) (nL := 7) (own := RX1) (by decide) rfl rfl ⟨rfl, rfl⟩ (Nat.le_of_ble_eq_true rfl) XW_same (fun p e s m below meth c A Q F hR => ?_)
  refine g_aw ([(x 0, .inr (1, [.ref (bn 0), .ref (bt 0), .ref (x 1), .int (nI ac), .ref (x 2), .int kb, .ref (x 3), .int (nI ln), .ref (x 4), .ref (x 5), .int (nI se), .long sd, .ref (x 6)])), (x 1, .inl (cQ, 14, .inr (.inr (.inr (.inr pa))))), (x 2, .inl (cQ, 2, .inr (.inr (.inr (.inr sl))))), (x 3, .inl (cI, 60, .inl tx)), (x 4, .inl (cI, 6, .inl s1)), (x 5, .inl (cI, 6, .inl s2)), (x 6, .inl (cI, 64, .inl sb))] ++ (CR cI bn f ++ (CR cI bt g ++ (Z)))) rfl ?_
  refine g_iload_n F dX1_jitter_0 rfl 1 rfl ?_
  refine g_iconst F (v := 1) dX1_jitter_1 (by decide) ?_
  refine g_icmp_lt F 28 dX1_jitter_2 (by decide) (fun c1 => ?_) (fun c1 => ?_)
  · exact absurd ((nI_ltI (b := 1) (by omega) (by decide)).mp c1) (by omega)
  · refine g_iload_n F dX1_jitter_5 rfl 1 rfl ?_
    refine g_bipush F (v := 6) dX1_jitter_6 (by decide) ?_
    refine g_icmp_gt F 28 dX1_jitter_8 (by decide) (fun c2 => ?_) (fun c2 => ?_)
    · exact absurd ((nI_ltI (a := 6) (by decide) (by omega)).mp c2) (by omega)
    · refine g_lload_n F dX1_jitter_11 rfl 2 rfl ?_
      refine g_lconst F (v := 0) dX1_jitter_12 (by decide) ?_
      refine g_lcmp F dX1_jitter_13 ?_
      refine g_if_lt F 28 dX1_jitter_14 (by decide) (fun c3 => ?_) (fun c3 => ?_)
      · refine g_bipush F (v := (-2)) dX1_jitter_28 (by decide) ?_
        exact g_endI (hR _ _ dX1_jitter_30) rfl rfl
      · refine g_lload_n F dX1_jitter_17 rfl 2 rfl ?_
        refine g_iconst F (v := 2) dX1_jitter_18 (by decide) ?_
        refine g_iload_n F dX1_jitter_19 rfl 1 rfl ?_
        refine g_imul F dX1_jitter_20 ?_
        refine g_as (nI (2 * m_)) (pk_mul 2 m_) ?_
        refine g_callSn F (As := [.int (nI (2 * m_))]) (st := [.long y]) (kX1_tenTo l D cI cZ cQ (2 * m_) (by omega)) (va_cwS 1 F.2.2.2.2.1 gX1_jitter_X1_tenTo rfl rfl rfl (by decide +kernel) ⟨Nat.le_of_ble_eq_true rfl, Nat.le_of_ble_eq_true rfl⟩) rfl rfl (Nat.le_of_ble_eq_true rfl) ⟨Nat.zero_le _, Nat.zero_le _⟩ dX1_jitter_21 ?_
        refine g_lcmp F dX1_jitter_24 ?_
        refine g_if_lt F 31 dX1_jitter_25 (by decide) (fun c4 => ?_) (fun c4 => ?_)
        · exact absurd ⟨fun q => c3 ((lg_cmp_lt y 0).mpr q), (lg_cmp_lt y (S_ten (2 * m_))).mp c4⟩ hb
        · refine g_bipush F (v := (-2)) dX1_jitter_28 (by decide) ?_
          exact g_endI (hR _ _ dX1_jitter_30) rfl rfl
theorem zX1_jitter_imath : Cond.initialized "java/lang/Math" ∈ wsX1_jitter := by decide +kernel
theorem zX1_jitter_kmabs : Cond.code Lib.Math.abs.name Lib.Math.abs.code 1 (some .int) ∈ wsX1_jitter := by decide +kernel
theorem zX1_jitter_l156 : Cond.methodLink RX1 156 Lib.Math.abs.name ∈ wsX1_jitter := by decide +kernel
theorem zX1_jitter_smabs : Cond.static Lib.Math.abs.name ∈ wsX1_jitter := by decide +kernel
set_option maxHeartbeats 1000000 in
set_option maxRecDepth 100000 in
theorem kX1_jitter_ok (l : Launch) (D : va_G) (cI cZ cQ : ClassId) (x bn bt : Nat → Nat) (pa sl : Nat → Option Nat) (ac : Nat) (kb : Int32) (tx : Row) (ln : Nat) (s1 s2 : Row) (se : Nat) (sd : Int64) (sb f g : Row) (Z : va_W) (m_ X : Nat) (h1 : 1 ≤ m_) (hm : m_ ≤ 6) (hX : X < 2 ^ 63) (h0 : ¬ lN X < 0) (hlt : lN X < S_ten (2 * m_)) : Ct l D (gTy cI cZ cQ) yX1_jitter wsX1_jitter ({ frames := 2, cells := 0, slots := 0, locals := 60 }) [.ref (x 0), .int (nI m_), .long (lN X)] (XW cI cQ x bn bt pa sl ac kb tx ln s1 s2 se sd sb f g Z) (some (.int (S_jv (lN X) m_ m_))) (XW cI cQ x bn bt pa sl ac kb tx ln s1 s2 se sd sb f g Z) := by
  refine ct_ofI (cc := cX1_jitter) (nL := 7) (own := RX1) (by decide) rfl rfl ⟨rfl, rfl⟩ (Nat.le_of_ble_eq_true rfl) XW_same (fun p e s m below meth c A Q F hR => ?_)
  refine g_aw ([(x 0, .inr (1, [.ref (bn 0), .ref (bt 0), .ref (x 1), .int (nI ac), .ref (x 2), .int kb, .ref (x 3), .int (nI ln), .ref (x 4), .ref (x 5), .int (nI se), .long sd, .ref (x 6)])), (x 1, .inl (cQ, 14, .inr (.inr (.inr (.inr pa))))), (x 2, .inl (cQ, 2, .inr (.inr (.inr (.inr sl))))), (x 3, .inl (cI, 60, .inl tx)), (x 4, .inl (cI, 6, .inl s1)), (x 5, .inl (cI, 6, .inl s2)), (x 6, .inl (cI, 64, .inl sb))] ++ (CR cI bn f ++ (CR cI bt g ++ (Z)))) rfl ?_
  refine g_iload_n F dX1_jitter_0 rfl 1 rfl ?_
  refine g_iconst F (v := 1) dX1_jitter_1 (by decide) ?_
  refine g_icmp_lt F 28 dX1_jitter_2 (by decide) (fun c1 => ?_) (fun c1 => ?_)
  · exact absurd ((nI_ltI (b := 1) (by omega) (by decide)).mp c1) (by omega)
  · refine g_iload_n F dX1_jitter_5 rfl 1 rfl ?_
    refine g_bipush F (v := 6) dX1_jitter_6 (by decide) ?_
    refine g_icmp_gt F 28 dX1_jitter_8 (by decide) (fun c2 => ?_) (fun c2 => ?_)
    · exact absurd ((nI_ltI (a := 6) (by decide) (by omega)).mp c2) (by omega)
    · refine g_lload_n F dX1_jitter_11 rfl 2 rfl ?_
      refine g_lconst F (v := 0) dX1_jitter_12 (by decide) ?_
      refine g_lcmp F dX1_jitter_13 ?_
      refine g_if_lt F 28 dX1_jitter_14 (by decide) (fun c3 => ?_) (fun c3 => ?_)
      · exact absurd ((lg_cmp_lt (lN X) 0).mp c3) h0
      · refine g_lload_n F dX1_jitter_17 rfl 2 rfl ?_
        refine g_iconst F (v := 2) dX1_jitter_18 (by decide) ?_
        refine g_iload_n F dX1_jitter_19 rfl 1 rfl ?_
        refine g_imul F dX1_jitter_20 ?_
        refine g_as (nI (2 * m_)) (pk_mul 2 m_) ?_
        refine g_callSn F (As := [.int (nI (2 * m_))]) (st := [.long (lN X)]) (kX1_tenTo l D cI cZ cQ (2 * m_) (by omega)) (va_cwS 1 F.2.2.2.2.1 gX1_jitter_X1_tenTo rfl rfl rfl (by decide +kernel) ⟨Nat.le_of_ble_eq_true rfl, Nat.le_of_ble_eq_true rfl⟩) rfl rfl (Nat.le_of_ble_eq_true rfl) ⟨Nat.zero_le _, Nat.zero_le _⟩ dX1_jitter_21 ?_
        refine g_lcmp F dX1_jitter_24 ?_
        refine g_if_lt F 31 dX1_jitter_25 (by decide) (fun c4 => ?_) (fun c4 => ?_)
        · refine g_iconst F (v := 0) dX1_jitter_31 (by decide) ?_
          refine g_istore F (lv' := [(0, .ref (x 0)), (1, .int (nI m_)), (2, .long (lN X)), (4, .int 0)]) dX1_jitter_32 (by decide) [1, 2, 3, 0] rfl ?_
          refine g_iconst F (v := 1) dX1_jitter_34 (by decide) ?_
          refine g_istore F (lv' := [(0, .ref (x 0)), (1, .int (nI m_)), (2, .long (lN X)), (4, .int 0), (5, .int 1)]) dX1_jitter_35 (by decide) [1, 2, 3, 4, 0] rfl ?_
          refine g_all (w0 := [(x 0, .inr (1, [.ref (bn 0), .ref (bt 0), .ref (x 1), .int (nI ac), .ref (x 2), .int kb, .ref (x 3), .int (nI ln), .ref (x 4), .ref (x 5), .int (nI se), .long sd, .ref (x 6)])), (x 1, .inl (cQ, 14, .inr (.inr (.inr (.inr pa))))), (x 2, .inl (cQ, 2, .inr (.inr (.inr (.inr sl))))), (x 3, .inl (cI, 60, .inl tx)), (x 4, .inl (cI, 6, .inl s1)), (x 5, .inl (cI, 6, .inl s2)), (x 6, .inl (cI, 64, .inl sb))] ++ (CR cI bn f ++ (CR cI bt g ++ (Z)))) (lv0 := [(0, .ref (x 0)), (1, .int (nI m_)), (2, .long (lN X)), (4, .int (S_jv (lN X) m_ 1)), (5, .int (nI 1))]) (st0 := []) rfl rfl rfl ?_
          refine g_for m_ (fun i => 1 ≤ i) (fun i => [(x 0, .inr (1, [.ref (bn 0), .ref (bt 0), .ref (x 1), .int (nI ac), .ref (x 2), .int kb, .ref (x 3), .int (nI ln), .ref (x 4), .ref (x 5), .int (nI se), .long sd, .ref (x 6)])), (x 1, .inl (cQ, 14, .inr (.inr (.inr (.inr pa))))), (x 2, .inl (cQ, 2, .inr (.inr (.inr (.inr sl))))), (x 3, .inl (cI, 60, .inl tx)), (x 4, .inl (cI, 6, .inl s1)), (x 5, .inl (cI, 6, .inl s2)), (x 6, .inl (cI, 64, .inl sb))] ++ (CR cI bn f ++ (CR cI bt g ++ (Z)))) (fun i => [(0, .ref (x 0)), (1, .int (nI m_)), (2, .long (lN X)), (4, .int (S_jv (lN X) m_ i)), (5, .int (nI i))]) (fun i hi hIi ihi => ?_) 1 h1 (Nat.le_refl 1)
          refine g_iload F dX1_jitter_37 4 rfl ?_
          refine g_iload_n F dX1_jitter_39 rfl 1 rfl ?_
          refine g_icmp_ge F 91 dX1_jitter_40 (by decide) (fun c5 => ?_) (fun c5 => ?_)
          · have hx_c5 : m_ = i := lp_ge hi (by omega) c5
            subst hx_c5
            refine g_iload F dX1_jitter_91 3 rfl ?_
            exact g_endI (hR _ _ dX1_jitter_93) rfl rfl
          · have hlti : i < m_ := lp_lt hi (by omega) c5
            refine g_lload_n F dX1_jitter_43 rfl 2 rfl ?_
            refine g_iload_n F dX1_jitter_44 rfl 1 rfl ?_
            refine g_iconst F (v := 1) dX1_jitter_45 (by decide) ?_
            refine g_isub F dX1_jitter_46 ?_
            refine g_iload F dX1_jitter_47 4 rfl ?_
            refine g_isub F dX1_jitter_49 ?_
            refine g_as (nI (m_ - 1 - i)) (by rw [show (1 : Int32) = nI 1 from rfl, pk_sub (by omega), pk_sub (by omega)]) ?_
            refine g_iconst F (v := 2) dX1_jitter_50 (by decide) ?_
            refine g_callSn F (As := [.long (lN X), .int (nI (m_ - 1 - i)), .int 2]) (st := []) (kX1_part l D cI cZ cQ X (m_ - 1 - i) 2 hX (by omega) (by decide)) (va_cwS 3 F.2.2.2.2.1 gX1_jitter_X1_part rfl rfl rfl (by decide +kernel) ⟨Nat.le_of_ble_eq_true rfl, Nat.le_of_ble_eq_true rfl⟩) rfl rfl (Nat.le_of_ble_eq_true rfl) ⟨Nat.zero_le _, Nat.zero_le _⟩ dX1_jitter_51 ?_
            refine g_lload_n F dX1_jitter_54 rfl 2 rfl ?_
            refine g_iload_n F dX1_jitter_55 rfl 1 rfl ?_
            refine g_iload F dX1_jitter_56 4 rfl ?_
            refine g_isub F dX1_jitter_58 ?_
            refine g_as (nI (m_ - i)) (pk_sub (by omega)) ?_
            refine g_iconst F (v := 2) dX1_jitter_59 (by decide) ?_
            refine g_callSn F (As := [.long (lN X), .int (nI (m_ - i)), .int 2]) (st := [.int (nI (S_part X (m_ - 1 - i) 2))]) (kX1_part l D cI cZ cQ X (m_ - i) 2 hX (by omega) (by decide)) (va_cwS 3 F.2.2.2.2.1 gX1_jitter_X1_part rfl rfl rfl (by decide +kernel) ⟨Nat.le_of_ble_eq_true rfl, Nat.le_of_ble_eq_true rfl⟩) rfl rfl (Nat.le_of_ble_eq_true rfl) ⟨Nat.zero_le _, Nat.zero_le _⟩ dX1_jitter_60 ?_
            refine g_isub F dX1_jitter_63 ?_
            refine g_mabs F zX1_jitter_l156 zX1_jitter_smabs zX1_jitter_imath zX1_jitter_kmabs (Nat.le_of_ble_eq_true rfl) (Nat.le_of_ble_eq_true rfl) (Nat.zero_le _) (Nat.zero_le _) dX1_jitter_64 ?_
            refine g_istore F (lv' := [(0, .ref (x 0)), (1, .int (nI m_)), (2, .long (lN X)), (4, .int (S_jv (lN X) m_ i)), (5, .int (nI i)), (6, .int (if 0 ≤ (nI (S_part X (m_ - 1 - i) 2)) - (nI (S_part X (m_ - i) 2)) then (nI (S_part X (m_ - 1 - i) 2)) - (nI (S_part X (m_ - i) 2)) else 0 - ((nI (S_part X (m_ - 1 - i) 2)) - (nI (S_part X (m_ - i) 2)))))]) dX1_jitter_67 (by decide) [1, 2, 3, 4, 5, 0] rfl ?_
            refine g_iload F dX1_jitter_69 3 rfl ?_
            refine g_iload F dX1_jitter_71 5 rfl ?_
            refine g_iload F dX1_jitter_73 3 rfl ?_
            refine g_bipush F (v := 8) dX1_jitter_75 (by decide) ?_
            refine g_iadd F dX1_jitter_77 ?_
            refine g_bipush F (v := 16) dX1_jitter_78 (by decide) ?_
            refine g_idiv F dX1_jitter_80 (by decide) ?_
            refine g_isub F dX1_jitter_81 ?_
            refine g_iadd F dX1_jitter_82 ?_
            refine g_istore F (lv' := [(0, .ref (x 0)), (1, .int (nI m_)), (2, .long (lN X)), (4, .int ((S_jv (lN X) m_ i) + ((if 0 ≤ (nI (S_part X (m_ - 1 - i) 2)) - (nI (S_part X (m_ - i) 2)) then (nI (S_part X (m_ - 1 - i) 2)) - (nI (S_part X (m_ - i) 2)) else 0 - ((nI (S_part X (m_ - 1 - i) 2)) - (nI (S_part X (m_ - i) 2)))) - (((S_jv (lN X) m_ i) + 8) / 16)))), (5, .int (nI i)), (6, .int (if 0 ≤ (nI (S_part X (m_ - 1 - i) 2)) - (nI (S_part X (m_ - i) 2)) then (nI (S_part X (m_ - 1 - i) 2)) - (nI (S_part X (m_ - i) 2)) else 0 - ((nI (S_part X (m_ - 1 - i) 2)) - (nI (S_part X (m_ - i) 2)))))]) dX1_jitter_83 (by decide) [1, 2, 3, 0, 4, 5] rfl ?_
            refine g_iinc F (lv' := [(0, .ref (x 0)), (1, .int (nI m_)), (2, .long (lN X)), (4, .int ((S_jv (lN X) m_ i) + ((if 0 ≤ (nI (S_part X (m_ - 1 - i) 2)) - (nI (S_part X (m_ - i) 2)) then (nI (S_part X (m_ - 1 - i) 2)) - (nI (S_part X (m_ - i) 2)) else 0 - ((nI (S_part X (m_ - 1 - i) 2)) - (nI (S_part X (m_ - i) 2)))) - (((S_jv (lN X) m_ i) + 8) / 16)))), (5, .int (nI (i + 1))), (6, .int (if 0 ≤ (nI (S_part X (m_ - 1 - i) 2)) - (nI (S_part X (m_ - i) 2)) then (nI (S_part X (m_ - 1 - i) 2)) - (nI (S_part X (m_ - i) 2)) else 0 - ((nI (S_part X (m_ - 1 - i) 2)) - (nI (S_part X (m_ - i) 2)))))]) (nI (i + 1)) dX1_jitter_85 4 rfl (nI_add i 1) (by decide) [1, 2, 3, 4, 0, 5] rfl ?_
            refine g_goto F 37 dX1_jitter_88 (by decide) ?_
            refine g_lvs (lv' := [(0, .ref (x 0)), (1, .int (nI m_)), (2, .long (lN X)), (4, .int ((S_jv (lN X) m_ i) + ((if 0 ≤ (nI (S_part X (m_ - 1 - i) 2)) - (nI (S_part X (m_ - i) 2)) then (nI (S_part X (m_ - 1 - i) 2)) - (nI (S_part X (m_ - i) 2)) else 0 - ((nI (S_part X (m_ - 1 - i) 2)) - (nI (S_part X (m_ - i) 2)))) - (((S_jv (lN X) m_ i) + 8) / 16)))), (5, .int (nI (i + 1)))]) [0, 1, 2, 3, 4] rfl ?_
            refine g_all (w0 := [(x 0, .inr (1, [.ref (bn 0), .ref (bt 0), .ref (x 1), .int (nI ac), .ref (x 2), .int kb, .ref (x 3), .int (nI ln), .ref (x 4), .ref (x 5), .int (nI se), .long sd, .ref (x 6)])), (x 1, .inl (cQ, 14, .inr (.inr (.inr (.inr pa))))), (x 2, .inl (cQ, 2, .inr (.inr (.inr (.inr sl))))), (x 3, .inl (cI, 60, .inl tx)), (x 4, .inl (cI, 6, .inl s1)), (x 5, .inl (cI, 6, .inl s2)), (x 6, .inl (cI, 64, .inl sb))] ++ (CR cI bn f ++ (CR cI bt g ++ (Z)))) (lv0 := [(0, .ref (x 0)), (1, .int (nI m_)), (2, .long (lN X)), (4, .int (S_jv (lN X) m_ (i + 1))), (5, .int (nI (i + 1)))]) (st0 := []) rfl (by rw [jv_c hX hm hIi hlti]) rfl ?_
            exact ihi hlti (by omega)
        · exact absurd ((lg_cmp_lt (lN X) (S_ten (2 * m_))).mpr hlt) c4
theorem zX1_greatestDivisor_imath : Cond.initialized "java/lang/Math" ∈ wsX1_greatestDivisor := by decide +kernel
theorem zX1_greatestDivisor_kmmax : Cond.code Lib.Math.max.name Lib.Math.max.code 2 (some .int) ∈ wsX1_greatestDivisor := by decide +kernel
theorem zX1_greatestDivisor_l143 : Cond.methodLink RX1 143 Lib.Math.max.name ∈ wsX1_greatestDivisor := by decide +kernel
theorem zX1_greatestDivisor_smmax : Cond.static Lib.Math.max.name ∈ wsX1_greatestDivisor := by decide +kernel
set_option maxHeartbeats 1000000 in
set_option maxRecDepth 100000 in
theorem kX1_greatestDivisor (l : Launch) (D : va_G) (cI cZ cQ : ClassId) (X B : Nat) (hX1 : X < 2 ^ 31) (hB : 0 < B) (hB1 : B ≤ 1048576) : Ct l D (gTy cI cZ cQ) yX1_greatestDivisor wsX1_greatestDivisor ({ frames := 1, cells := 0, slots := 0, locals := 21 }) [.int (nI X), .int (nI B)] ([]) (some (.int (nI (Nat.gcd X B)))) ([]) := by
  refine ct_ofI (cc := cX1_greatestDivisor) (nL := 6) (own := RX1) (by decide) rfl rfl ⟨rfl, rfl⟩ (Nat.le_of_ble_eq_true rfl) (by simp only [List.map]) (fun p e s m below meth c A Q F hR => ?_)
  refine g_iload_n F dX1_greatestDivisor_0 rfl 0 rfl ?_
  refine g_istore_n F (lv' := [(0, .int (nI X)), (1, .int (nI B)), (2, .int (nI X))]) dX1_greatestDivisor_1 rfl (by decide) [1, 2, 0] rfl ?_
  refine g_iload_n F dX1_greatestDivisor_2 rfl 1 rfl ?_
  refine g_istore_n F (lv' := [(0, .int (nI X)), (1, .int (nI B)), (2, .int (nI X)), (3, .int (nI B))]) dX1_greatestDivisor_3 rfl (by decide) [1, 2, 3, 0] rfl ?_
  refine g_iconst F (v := 0) dX1_greatestDivisor_4 (by decide) ?_
  refine g_istore F (lv' := [(0, .int (nI X)), (1, .int (nI B)), (2, .int (nI X)), (3, .int (nI B)), (4, .int 0)]) dX1_greatestDivisor_5 (by decide) [1, 2, 3, 4, 0] rfl ?_
  refine g_all (w0 := []) (lv0 := [(0, .int (nI X)), (1, .int (nI B)), (2, .int (nI (X, B).1)), (3, .int (nI (X, B).2)), (4, .int (nI 0))]) (st0 := []) rfl rfl rfl ?_
  refine g_loop (σ := Nat × Nat) 64 (fun i z => GdI X B i z) (fun i z => []) (fun i z => [(0, .int (nI X)), (1, .int (nI B)), (2, .int (nI z.1)), (3, .int (nI z.2)), (4, .int (nI i))]) (fun i z hi hIi ihi => ?_) 0 (X, B) (Nat.zero_le _) (GdI_0 hX1 hB)
  obtain ⟨hJ1, hJ2, hJ3, hJ4, hJ5⟩ := id hIi
  refine g_iload F dX1_greatestDivisor_7 4 rfl ?_
  refine g_bipush F (v := 64) dX1_greatestDivisor_9 (by decide) ?_
  refine g_icmp_ge F 34 dX1_greatestDivisor_11 (by decide) (fun c1 => ?_) (fun c1 => ?_)
  · have hx_c1 : 64 = i := lp_ge hi (by decide) c1
    subst hx_c1
    have hge := GdI_end hIi (GdI_64 hB1 hIi)
    refine g_iconst F (v := 1) dX1_greatestDivisor_34 (by decide) ?_
    refine g_iload_n F dX1_greatestDivisor_35 rfl 2 rfl ?_
    refine g_mmax F zX1_greatestDivisor_l143 zX1_greatestDivisor_smmax zX1_greatestDivisor_imath zX1_greatestDivisor_kmmax (Nat.le_of_ble_eq_true rfl) (Nat.le_of_ble_eq_true rfl) (Nat.zero_le _) (Nat.zero_le _) dX1_greatestDivisor_36 ?_
    exact g_endI (hR _ _ dX1_greatestDivisor_39) (by rw [← hge.1]; exact mx_g hge.2 (by omega)) rfl
  · have hlti : i < 64 := lp_lt hi (by decide) c1
    refine g_iload_n F dX1_greatestDivisor_14 rfl 3 rfl ?_
    refine g_if_eq F 34 dX1_greatestDivisor_15 (by decide) (fun c2 => ?_) (fun c2 => ?_)
    · have hge := GdI_end hIi (nI_z (by omega) c2)
      refine g_iconst F (v := 1) dX1_greatestDivisor_34 (by decide) ?_
      refine g_iload_n F dX1_greatestDivisor_35 rfl 2 rfl ?_
      refine g_mmax F zX1_greatestDivisor_l143 zX1_greatestDivisor_smmax zX1_greatestDivisor_imath zX1_greatestDivisor_kmmax (Nat.le_of_ble_eq_true rfl) (Nat.le_of_ble_eq_true rfl) (Nat.zero_le _) (Nat.zero_le _) dX1_greatestDivisor_36 ?_
      exact g_endI (hR _ _ dX1_greatestDivisor_39) (by rw [← hge.1]; exact mx_g hge.2 (by omega)) rfl
    · have hqp : 0 < z.2 := nI_nz c2
      refine g_iload_n F dX1_greatestDivisor_18 rfl 2 rfl ?_
      refine g_iload_n F dX1_greatestDivisor_19 rfl 3 rfl ?_
      refine g_irem F dX1_greatestDivisor_20 (nI_ne0 hqp (by omega)) ?_
      refine g_as (nI (z.1 % z.2)) (pk_rem (by omega) hqp (by omega)) ?_
      refine g_istore F (lv' := [(0, .int (nI X)), (1, .int (nI B)), (2, .int (nI z.1)), (3, .int (nI z.2)), (4, .int (nI i)), (5, .int (nI (z.1 % z.2)))]) dX1_greatestDivisor_21 (by decide) [1, 2, 3, 4, 5, 0] rfl ?_
      refine g_iload_n F dX1_greatestDivisor_23 rfl 3 rfl ?_
      refine g_istore_n F (lv' := [(0, .int (nI X)), (1, .int (nI B)), (2, .int (nI z.2)), (3, .int (nI z.2)), (4, .int (nI i)), (5, .int (nI (z.1 % z.2)))]) dX1_greatestDivisor_24 rfl (by decide) [1, 2, 0, 3, 4, 5] rfl ?_
      refine g_iload F dX1_greatestDivisor_25 5 rfl ?_
      refine g_istore_n F (lv' := [(0, .int (nI X)), (1, .int (nI B)), (2, .int (nI z.2)), (3, .int (nI (z.1 % z.2))), (4, .int (nI i)), (5, .int (nI (z.1 % z.2)))]) dX1_greatestDivisor_27 rfl (by decide) [1, 2, 3, 0, 4, 5] rfl ?_
      refine g_iinc F (lv' := [(0, .int (nI X)), (1, .int (nI B)), (2, .int (nI z.2)), (3, .int (nI (z.1 % z.2))), (4, .int (nI (i + 1))), (5, .int (nI (z.1 % z.2)))]) (nI (i + 1)) dX1_greatestDivisor_28 4 rfl (nI_add i 1) (by decide) [1, 2, 3, 4, 0, 5] rfl ?_
      refine g_goto F 7 dX1_greatestDivisor_31 (by decide) ?_
      refine g_lvs (lv' := [(0, .int (nI X)), (1, .int (nI B)), (2, .int (nI z.2)), (3, .int (nI (z.1 % z.2))), (4, .int (nI (i + 1)))]) [0, 1, 2, 3, 4] rfl ?_
      refine g_all (w0 := []) (lv0 := [(0, .int (nI X)), (1, .int (nI B)), (2, .int (nI (z.2, z.1 % z.2).1)), (3, .int (nI (z.2, z.1 % z.2).2)), (4, .int (nI (i + 1)))]) (st0 := []) rfl rfl rfl ?_
      exact ihi hlti (z.2, z.1 % z.2) (GdI_s (by omega) hIi hqp)
theorem zX1_fraction_imath : Cond.initialized "java/lang/Math" ∈ wsX1_fraction := by decide +kernel
theorem zX1_fraction_kmabs : Cond.code Lib.Math.abs.name Lib.Math.abs.code 1 (some .int) ∈ wsX1_fraction := by decide +kernel
theorem zX1_fraction_l156 : Cond.methodLink RX1 156 Lib.Math.abs.name ∈ wsX1_fraction := by decide +kernel
theorem zX1_fraction_smabs : Cond.static Lib.Math.abs.name ∈ wsX1_fraction := by decide +kernel
set_option maxHeartbeats 1000000 in
set_option maxRecDepth 100000 in
theorem kX1_fraction (l : Launch) (D : va_G) (cI cZ cQ : ClassId) (y up : Int32) (X B : Nat) (hX : S_abs y = nI X) (hX1 : X < 2 ^ 31) (hB : 0 < B) (hB1 : B ≤ 1048576) : Ct l D (gTy cI cZ cQ) yX1_fraction wsX1_fraction ({ frames := 2, cells := 0, slots := 0, locals := 46 }) [.int y, .int (nI B), .int up] ([]) (some (.int (S_frac y (Nat.gcd X B) B up))) ([]) := by
  refine ct_ofI (cc := cX1_fraction) (nL := 4) (own := RX1) (by decide) rfl rfl ⟨rfl, rfl⟩ (Nat.le_of_ble_eq_true rfl) (by simp only [List.map]) (fun p e s m below meth c A Q F hR => ?_)
  have hg0 : 0 < Nat.gcd X B := Nat.gcd_pos_of_pos_right X hB
  have hg1 : Nat.gcd X B ≤ B := Nat.gcd_le_right X hB
  refine g_iload_n F dX1_fraction_0 rfl 0 rfl ?_
  refine g_mabs F zX1_fraction_l156 zX1_fraction_smabs zX1_fraction_imath zX1_fraction_kmabs (Nat.le_of_ble_eq_true rfl) (Nat.le_of_ble_eq_true rfl) (Nat.zero_le _) (Nat.zero_le _) dX1_fraction_1 ?_
  refine g_as (nI X) (abs_c.trans hX) ?_
  refine g_iload_n F dX1_fraction_4 rfl 1 rfl ?_
  refine g_callSs F (As := [.int (nI X), .int (nI B)]) (st := []) (kX1_greatestDivisor l D cI cZ cQ X B hX1 hB hB1) (va_cwS 2 F.2.2.2.2.1 gX1_fraction_X1_greatestDivisor rfl rfl rfl (by decide +kernel) ⟨Nat.le_of_ble_eq_true rfl, Nat.le_of_ble_eq_true rfl⟩) rfl rfl (Nat.le_of_ble_eq_true rfl) ⟨Nat.zero_le _, Nat.zero_le _⟩ dX1_fraction_5 ?_
  refine g_istore_n F (lv' := [(0, .int y), (1, .int (nI B)), (2, .int up), (3, .int (nI (Nat.gcd X B)))]) dX1_fraction_8 rfl (by decide) [1, 2, 3, 0] rfl ?_
  refine g_iload_n F dX1_fraction_9 rfl 2 rfl ?_
  refine g_if_eq F 19 dX1_fraction_10 (by decide) (fun c1 => ?_) (fun c1 => ?_)
  · refine g_iload_n F dX1_fraction_19 rfl 1 rfl ?_
    refine g_iload_n F dX1_fraction_20 rfl 3 rfl ?_
    refine g_idiv F dX1_fraction_21 (nI_ne0 hg0 (by omega)) ?_
    exact g_endI (hR _ _ dX1_fraction_22) (by unfold S_frac; rw [if_pos c1]) rfl
  · refine g_iload_n F dX1_fraction_13 rfl 0 rfl ?_
    refine g_iload_n F dX1_fraction_14 rfl 3 rfl ?_
    refine g_idiv F dX1_fraction_15 (nI_ne0 hg0 (by omega)) ?_
    refine g_goto F 22 dX1_fraction_16 (by decide) ?_
    exact g_endI (hR _ _ dX1_fraction_22) (by unfold S_frac; rw [if_neg c1]) rfl
set_option maxHeartbeats 1000000 in
set_option maxRecDepth 100000 in
theorem kX1_likelihood (l : Launch) (D : va_G) (cI cZ cQ : ClassId) (v u : Int32) : Ct l D (gTy cI cZ cQ) yX1_likelihood wsX1_likelihood ({ frames := 0, cells := 0, slots := 0, locals := 0 }) [.int v, .int u] ([]) (some (.int (S_lik v u))) ([]) := by
  refine ct_ofI (cc := cX1_likelihood) (nL := 4) (own := RX1) (by decide) rfl rfl ⟨rfl, rfl⟩ (Nat.le_of_ble_eq_true rfl) (by simp only [List.map]) (fun p e s m below meth c A Q F hR => ?_)
  refine g_iconst F (v := 1) dX1_likelihood_0 (by decide) ?_
  refine g_istore_n F (lv' := [(0, .int v), (1, .int u), (2, .int 1)]) dX1_likelihood_1 rfl (by decide) [1, 2, 0] rfl ?_
  refine g_iconst F (v := 0) dX1_likelihood_2 (by decide) ?_
  refine g_istore_n F (lv' := [(0, .int v), (1, .int u), (2, .int 1), (3, .int 0)]) dX1_likelihood_3 rfl (by decide) [1, 2, 3, 0] rfl ?_
  refine g_all (w0 := []) (lv0 := [(0, .int v), (1, .int u), (2, .int (it (S_likStep v u) 0 1)), (3, .int (nI 0))]) (st0 := []) rfl rfl rfl ?_
  refine g_for 6 (fun i => True) (fun i => []) (fun i => [(0, .int v), (1, .int u), (2, .int (it (S_likStep v u) i 1)), (3, .int (nI i))]) (fun i hi hIi ihi => ?_) 0 (Nat.zero_le _) trivial
  refine g_iload_n F dX1_likelihood_4 rfl 3 rfl ?_
  refine g_bipush F (v := 6) dX1_likelihood_5 (by decide) ?_
  refine g_icmp_ge F 35 dX1_likelihood_7 (by decide) (fun c1 => ?_) (fun c1 => ?_)
  · have hx_c1 : 6 = i := lp_ge hi (by decide) c1
    subst hx_c1
    refine g_iload_n F dX1_likelihood_35 rfl 2 rfl ?_
    exact g_endI (hR _ _ dX1_likelihood_36) rfl rfl
  · have hlti : i < 6 := lp_lt hi (by decide) c1
    refine g_iload_n F dX1_likelihood_10 rfl 2 rfl ?_
    refine g_iload_n F dX1_likelihood_11 rfl 0 rfl ?_
    refine g_iload_n F dX1_likelihood_12 rfl 3 rfl ?_
    refine g_ishr F dX1_likelihood_13 ?_
    refine g_iconst F (v := 1) dX1_likelihood_14 (by decide) ?_
    refine g_iand F dX1_likelihood_15 ?_
    refine g_if_ne F 23 dX1_likelihood_16 (by decide) (fun c2 => ?_) (fun c2 => ?_)
    · refine g_bipush F (v := 10) dX1_likelihood_23 (by decide) ?_
      refine g_iload_n F dX1_likelihood_25 rfl 1 rfl ?_
      refine g_isub F dX1_likelihood_26 ?_
      refine g_imul F dX1_likelihood_27 ?_
      refine g_istore_n F (lv' := [(0, .int v), (1, .int u), (2, .int ((it (S_likStep v u) i 1) * (10 - u))), (3, .int (nI i))]) dX1_likelihood_28 rfl (by decide) [1, 2, 0, 3] rfl ?_
      refine g_iinc F (lv' := [(0, .int v), (1, .int u), (2, .int ((it (S_likStep v u) i 1) * (10 - u))), (3, .int (nI (i + 1)))]) (nI (i + 1)) dX1_likelihood_29 3 rfl (nI_add i 1) (by decide) [1, 2, 3, 0] rfl ?_
      refine g_goto F 4 dX1_likelihood_32 (by decide) ?_
      refine g_all (w0 := []) (lv0 := [(0, .int v), (1, .int u), (2, .int (it (S_likStep v u) (i + 1) 1)), (3, .int (nI (i + 1)))]) (st0 := []) rfl (by rw [it_s]; unfold S_likStep; rw [if_pos (has_01.mp c2)]) rfl ?_
      exact ihi hlti trivial
    · refine g_iload_n F dX1_likelihood_19 rfl 1 rfl ?_
      refine g_goto F 27 dX1_likelihood_20 (by decide) ?_
      refine g_imul F dX1_likelihood_27 ?_
      refine g_istore_n F (lv' := [(0, .int v), (1, .int u), (2, .int ((it (S_likStep v u) i 1) * u)), (3, .int (nI i))]) dX1_likelihood_28 rfl (by decide) [1, 2, 0, 3] rfl ?_
      refine g_iinc F (lv' := [(0, .int v), (1, .int u), (2, .int ((it (S_likStep v u) i 1) * u)), (3, .int (nI (i + 1)))]) (nI (i + 1)) dX1_likelihood_29 3 rfl (nI_add i 1) (by decide) [1, 2, 3, 0] rfl ?_
      refine g_goto F 4 dX1_likelihood_32 (by decide) ?_
      refine g_all (w0 := []) (lv0 := [(0, .int v), (1, .int u), (2, .int (it (S_likStep v u) (i + 1) 1)), (3, .int (nI (i + 1)))]) (st0 := []) rfl (by rw [it_s]; unfold S_likStep; rw [has_00.mp c2]; rfl) rfl ?_
      exact ihi hlti trivial
