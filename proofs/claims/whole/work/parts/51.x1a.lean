set_option maxHeartbeats 1000000 in
set_option maxRecDepth 100000 in
theorem kX1_isTime (l : Launch) (D : va_G) (cI cZ cQ : ClassId) (v : Int32) : Ct l D (gTy cI cZ cQ) yX1_isTime wsX1_isTime ({ frames := 0, cells := 0, slots := 0, locals := 0 }) [.int v] ([]) (some (.int (bI (S_time v)))) ([]) := by
  refine ct_ofZ (cc := cX1_isTime) (nL := 1) (own := RX1) (by decide) rfl rfl ⟨rfl, rfl⟩ (Nat.le_of_ble_eq_true rfl) (by simp only [List.map]) (by first | rfl | exact bI_nar _) (fun p e s m below meth c A Q F hR => ?_)
  refine g_iload_n F dX1_isTime_0 rfl 0 rfl ?_
  refine g_if_lt F 15 dX1_isTime_1 (by decide) (fun c1 => ?_) (fun c1 => ?_)
  · refine g_iconst F (v := 0) dX1_isTime_15 (by decide) ?_
    exact g_endI (hR _ _ dX1_isTime_16) (by first | (simp only [S_time, bI, c1, Bool.false_eq_true, ↓reduceIte]; done) | (with_reducible rfl) | (simp [S_time, bI, c1, Bool.false_eq_true, ↓reduceIte]; done)) rfl
  · refine g_iload_n F dX1_isTime_4 rfl 0 rfl ?_
    refine g_sipush F (v := 9999) dX1_isTime_5 (by decide) ?_
    refine g_icmp_gt F 15 dX1_isTime_8 (by decide) (fun c2 => ?_) (fun c2 => ?_)
    · refine g_iconst F (v := 0) dX1_isTime_15 (by decide) ?_
      exact g_endI (hR _ _ dX1_isTime_16) (by first | (simp only [S_time, bI, c1, c2, Bool.false_eq_true, ↓reduceIte]; done) | (with_reducible rfl) | (simp [S_time, bI, c1, c2, Bool.false_eq_true, ↓reduceIte]; done)) rfl
    · refine g_iconst F (v := 1) dX1_isTime_11 (by decide) ?_
      refine g_goto F 16 dX1_isTime_12 (by decide) ?_
      exact g_endI (hR _ _ dX1_isTime_16) (by first | (simp only [S_time, bI, c1, c2, Bool.false_eq_true, ↓reduceIte]; done) | (with_reducible rfl) | (simp [S_time, bI, c1, c2, Bool.false_eq_true, ↓reduceIte]; done)) rfl
set_option maxHeartbeats 1000000 in
set_option maxRecDepth 100000 in
theorem kX1_isFigure (l : Launch) (D : va_G) (cI cZ cQ : ClassId) (v u : Int32) : Ct l D (gTy cI cZ cQ) yX1_isFigure wsX1_isFigure ({ frames := 0, cells := 0, slots := 0, locals := 0 }) [.int v, .int u] ([]) (some (.int (bI (S_fig v u)))) ([]) := by
  refine ct_ofZ (cc := cX1_isFigure) (nL := 2) (own := RX1) (by decide) rfl rfl ⟨rfl, rfl⟩ (Nat.le_of_ble_eq_true rfl) (by simp only [List.map]) (by first | rfl | exact bI_nar _) (fun p e s m below meth c A Q F hR => ?_)
  refine g_iload_n F dX1_isFigure_0 rfl 0 rfl ?_
  refine g_bipush F (v := 48) dX1_isFigure_1 (by decide) ?_
  refine g_iload_n F dX1_isFigure_3 rfl 1 rfl ?_
  refine g_iadd F dX1_isFigure_4 ?_
  refine g_icmp_lt F 18 dX1_isFigure_5 (by decide) (fun c1 => ?_) (fun c1 => ?_)
  · refine g_iconst F (v := 0) dX1_isFigure_18 (by decide) ?_
    exact g_endI (hR _ _ dX1_isFigure_19) (by first | (simp only [S_fig, bI, c1, Bool.false_eq_true, ↓reduceIte]; done) | (with_reducible rfl) | (simp [S_fig, bI, c1, Bool.false_eq_true, ↓reduceIte]; done)) rfl
  · refine g_iload_n F dX1_isFigure_8 rfl 0 rfl ?_
    refine g_bipush F (v := 57) dX1_isFigure_9 (by decide) ?_
    refine g_icmp_gt F 18 dX1_isFigure_11 (by decide) (fun c2 => ?_) (fun c2 => ?_)
    · refine g_iconst F (v := 0) dX1_isFigure_18 (by decide) ?_
      exact g_endI (hR _ _ dX1_isFigure_19) (by first | (simp only [S_fig, bI, c1, c2, Bool.false_eq_true, ↓reduceIte]; done) | (with_reducible rfl) | (simp [S_fig, bI, c1, c2, Bool.false_eq_true, ↓reduceIte]; done)) rfl
    · refine g_iconst F (v := 1) dX1_isFigure_14 (by decide) ?_
      refine g_goto F 19 dX1_isFigure_15 (by decide) ?_
      exact g_endI (hR _ _ dX1_isFigure_19) (by first | (simp only [S_fig, bI, c1, c2, Bool.false_eq_true, ↓reduceIte]; done) | (with_reducible rfl) | (simp [S_fig, bI, c1, c2, Bool.false_eq_true, ↓reduceIte]; done)) rfl
theorem zX1_wipe_f37 : Cond.fieldLink RX1 37 (TX1 7).1 (TX1 7).2.1 (TX1 7).2.2.1 ∈ wsX1_wipe := by decide +kernel
theorem zX1_wipe_inX1 : ∀ w ∈ u_ws RX1 TX1 13, w ∈ wsX1_wipe := by decide +kernel
set_option maxHeartbeats 1000000 in
set_option maxRecDepth 100000 in
theorem kX1_wipe (l : Launch) (D : va_G) (cI cZ cQ : ClassId) (x bn bt : Nat → Nat) (pa sl : Nat → Option Nat) (ac : Nat) (kb : Int32) (tx : Row) (ln : Nat) (s1 s2 : Row) (se : Nat) (sd : Int64) (sb f g : Row) (Z : va_W)  : Ct l D (gTy cI cZ cQ) yX1_wipe wsX1_wipe ({ frames := 0, cells := 0, slots := 0, locals := 0 }) [.ref (x 0)] (XW cI cQ x bn bt pa sl ac kb tx ln s1 s2 se sd sb f g Z) (some (.int (nI ln))) (XW cI cQ x bn bt pa sl ac kb tx 0 s1 s2 se sd sb f g Z) := by
  refine ct_ofI (cc := cX1_wipe) (nL := 2) (own := RX1) (by decide) rfl rfl ⟨rfl, rfl⟩ (Nat.le_of_ble_eq_true rfl) XW_same (fun p e s m below meth c A Q F hR => ?_)
  refine g_aw ([(x 0, .inr (1, [.ref (bn 0), .ref (bt 0), .ref (x 1), .int (nI ac), .ref (x 2), .int kb, .ref (x 3), .int (nI ln), .ref (x 4), .ref (x 5), .int (nI se), .long sd, .ref (x 6)])), (x 1, .inl (cQ, 14, .inr (.inr (.inr (.inr pa))))), (x 2, .inl (cQ, 2, .inr (.inr (.inr (.inr sl))))), (x 3, .inl (cI, 60, .inl tx)), (x 4, .inl (cI, 6, .inl s1)), (x 5, .inl (cI, 6, .inl s2)), (x 6, .inl (cI, 64, .inl sb))] ++ (CR cI bn f ++ (CR cI bt g ++ (Z)))) rfl ?_
  refine g_aload_n F dX1_wipe_0 rfl 0 rfl ?_
  refine g_get F (.int (nI ln)) zX1_wipe_inX1 0 rfl rfl 7 (by decide) rfl zX1_wipe_f37 dX1_wipe_1 ?_
  refine g_istore_n F (lv' := [(0, .ref (x 0)), (1, .int (nI ln))]) dX1_wipe_4 rfl (by decide) [1, 0] rfl ?_
  refine g_aload_n F dX1_wipe_5 rfl 0 rfl ?_
  refine g_iconst F (v := 0) dX1_wipe_6 (by decide) ?_
  refine g_put F ([(x 0, .inr (1, [.ref (bn 0), .ref (bt 0), .ref (x 1), .int (nI ac), .ref (x 2), .int kb, .ref (x 3), .int 0, .ref (x 4), .ref (x 5), .int (nI se), .long sd, .ref (x 6)])), (x 1, .inl (cQ, 14, .inr (.inr (.inr (.inr pa))))), (x 2, .inl (cQ, 2, .inr (.inr (.inr (.inr sl))))), (x 3, .inl (cI, 60, .inl tx)), (x 4, .inl (cI, 6, .inl s1)), (x 5, .inl (cI, 6, .inl s2)), (x 6, .inl (cI, 64, .inl sb))] ++ (CR cI bn f ++ (CR cI bt g ++ (Z)))) zX1_wipe_inX1 tyX1 tyX1_ok nmX1 0 rfl rfl 7 (by decide) rfl rfl rfl (Nat.le_of_ble_eq_true rfl) zX1_wipe_f37 dX1_wipe_7 rfl ?_
  refine g_iload_n F dX1_wipe_10 rfl 1 rfl ?_
  exact g_endI (hR _ _ dX1_wipe_11) rfl rfl
theorem zX1_unsee_f46 : Cond.fieldLink RX1 46 (TX1 10).1 (TX1 10).2.1 (TX1 10).2.2.1 ∈ wsX1_unsee := by decide +kernel
theorem zX1_unsee_inX1 : ∀ w ∈ u_ws RX1 TX1 13, w ∈ wsX1_unsee := by decide +kernel
set_option maxHeartbeats 1000000 in
set_option maxRecDepth 100000 in
theorem kX1_unsee (l : Launch) (D : va_G) (cI cZ cQ : ClassId) (x bn bt : Nat → Nat) (pa sl : Nat → Option Nat) (ac : Nat) (kb : Int32) (tx : Row) (ln : Nat) (s1 s2 : Row) (se : Nat) (sd : Int64) (sb f g : Row) (Z : va_W)  : Ct l D (gTy cI cZ cQ) yX1_unsee wsX1_unsee ({ frames := 0, cells := 0, slots := 0, locals := 0 }) [.ref (x 0)] (XW cI cQ x bn bt pa sl ac kb tx ln s1 s2 se sd sb f g Z) (some (.int (nI se))) (XW cI cQ x bn bt pa sl ac kb tx ln s1 s2 0 sd sb f g Z) := by
  refine ct_ofI (cc := cX1_unsee) (nL := 2) (own := RX1) (by decide) rfl rfl ⟨rfl, rfl⟩ (Nat.le_of_ble_eq_true rfl) XW_same (fun p e s m below meth c A Q F hR => ?_)
  refine g_aw ([(x 0, .inr (1, [.ref (bn 0), .ref (bt 0), .ref (x 1), .int (nI ac), .ref (x 2), .int kb, .ref (x 3), .int (nI ln), .ref (x 4), .ref (x 5), .int (nI se), .long sd, .ref (x 6)])), (x 1, .inl (cQ, 14, .inr (.inr (.inr (.inr pa))))), (x 2, .inl (cQ, 2, .inr (.inr (.inr (.inr sl))))), (x 3, .inl (cI, 60, .inl tx)), (x 4, .inl (cI, 6, .inl s1)), (x 5, .inl (cI, 6, .inl s2)), (x 6, .inl (cI, 64, .inl sb))] ++ (CR cI bn f ++ (CR cI bt g ++ (Z)))) rfl ?_
  refine g_aload_n F dX1_unsee_0 rfl 0 rfl ?_
  refine g_get F (.int (nI se)) zX1_unsee_inX1 0 rfl rfl 10 (by decide) rfl zX1_unsee_f46 dX1_unsee_1 ?_
  refine g_istore_n F (lv' := [(0, .ref (x 0)), (1, .int (nI se))]) dX1_unsee_4 rfl (by decide) [1, 0] rfl ?_
  refine g_aload_n F dX1_unsee_5 rfl 0 rfl ?_
  refine g_iconst F (v := 0) dX1_unsee_6 (by decide) ?_
  refine g_put F ([(x 0, .inr (1, [.ref (bn 0), .ref (bt 0), .ref (x 1), .int (nI ac), .ref (x 2), .int kb, .ref (x 3), .int (nI ln), .ref (x 4), .ref (x 5), .int 0, .long sd, .ref (x 6)])), (x 1, .inl (cQ, 14, .inr (.inr (.inr (.inr pa))))), (x 2, .inl (cQ, 2, .inr (.inr (.inr (.inr sl))))), (x 3, .inl (cI, 60, .inl tx)), (x 4, .inl (cI, 6, .inl s1)), (x 5, .inl (cI, 6, .inl s2)), (x 6, .inl (cI, 64, .inl sb))] ++ (CR cI bn f ++ (CR cI bt g ++ (Z)))) zX1_unsee_inX1 tyX1 tyX1_ok nmX1 0 rfl rfl 10 (by decide) rfl rfl rfl (Nat.le_of_ble_eq_true rfl) zX1_unsee_f46 dX1_unsee_7 rfl ?_
  refine g_iload_n F dX1_unsee_10 rfl 1 rfl ?_
  exact g_endI (hR _ _ dX1_unsee_11) rfl rfl
theorem zX1_seed_f49 : Cond.fieldLink RX1 49 (TX1 11).1 (TX1 11).2.1 (TX1 11).2.2.1 ∈ wsX1_seed := by decide +kernel
theorem zX1_seed_inX1 : ∀ w ∈ u_ws RX1 TX1 13, w ∈ wsX1_seed := by decide +kernel
set_option maxHeartbeats 1000000 in
set_option maxRecDepth 100000 in
theorem kX1_seed (l : Launch) (D : va_G) (cI cZ cQ : ClassId) (x bn bt : Nat → Nat) (pa sl : Nat → Option Nat) (ac : Nat) (kb : Int32) (tx : Row) (ln : Nat) (s1 s2 : Row) (se : Nat) (sd : Int64) (sb f g : Row) (Z : va_W) (v : Int64) : Ct l D (gTy cI cZ cQ) yX1_seed wsX1_seed ({ frames := 0, cells := 0, slots := 0, locals := 0 }) [.ref (x 0), .long v] (XW cI cQ x bn bt pa sl ac kb tx ln s1 s2 se sd sb f g Z) (some (.long sd)) (XW cI cQ x bn bt pa sl ac kb tx ln s1 s2 se v sb f g Z) := by
  refine ct_ofL (cc := cX1_seed) (nL := 5) (own := RX1) (by decide) rfl rfl ⟨rfl, rfl⟩ (Nat.le_of_ble_eq_true rfl) XW_same (fun p e s m below meth c A Q F hR => ?_)
  refine g_aw ([(x 0, .inr (1, [.ref (bn 0), .ref (bt 0), .ref (x 1), .int (nI ac), .ref (x 2), .int kb, .ref (x 3), .int (nI ln), .ref (x 4), .ref (x 5), .int (nI se), .long sd, .ref (x 6)])), (x 1, .inl (cQ, 14, .inr (.inr (.inr (.inr pa))))), (x 2, .inl (cQ, 2, .inr (.inr (.inr (.inr sl))))), (x 3, .inl (cI, 60, .inl tx)), (x 4, .inl (cI, 6, .inl s1)), (x 5, .inl (cI, 6, .inl s2)), (x 6, .inl (cI, 64, .inl sb))] ++ (CR cI bn f ++ (CR cI bt g ++ (Z)))) rfl ?_
  refine g_aload_n F dX1_seed_0 rfl 0 rfl ?_
  refine g_get F (.long sd) zX1_seed_inX1 0 rfl rfl 11 (by decide) rfl zX1_seed_f49 dX1_seed_1 ?_
  refine g_lstore_n F (lv' := [(0, .ref (x 0)), (1, .long v), (3, .long sd)]) dX1_seed_4 rfl (by decide) [1, 2, 0] rfl ?_
  refine g_aload_n F dX1_seed_5 rfl 0 rfl ?_
  refine g_lload_n F dX1_seed_6 rfl 1 rfl ?_
  refine g_put F ([(x 0, .inr (1, [.ref (bn 0), .ref (bt 0), .ref (x 1), .int (nI ac), .ref (x 2), .int kb, .ref (x 3), .int (nI ln), .ref (x 4), .ref (x 5), .int (nI se), .long v, .ref (x 6)])), (x 1, .inl (cQ, 14, .inr (.inr (.inr (.inr pa))))), (x 2, .inl (cQ, 2, .inr (.inr (.inr (.inr sl))))), (x 3, .inl (cI, 60, .inl tx)), (x 4, .inl (cI, 6, .inl s1)), (x 5, .inl (cI, 6, .inl s2)), (x 6, .inl (cI, 64, .inl sb))] ++ (CR cI bn f ++ (CR cI bt g ++ (Z)))) zX1_seed_inX1 tyX1 tyX1_ok nmX1 0 rfl rfl 11 (by decide) rfl rfl rfl (Nat.le_of_ble_eq_true rfl) zX1_seed_f49 dX1_seed_7 rfl ?_
  refine g_lload_n F dX1_seed_10 rfl 2 rfl ?_
  exact g_endL (hR _ _ dX1_seed_11) rfl rfl
set_option maxHeartbeats 1000000 in
set_option maxRecDepth 100000 in
theorem kX1_write_bad (l : Launch) (D : va_G) (cI cZ cQ : ClassId) (x bn bt : Nat → Nat) (pa sl : Nat → Option Nat) (ac : Nat) (kb : Int32) (tx : Row) (ln : Nat) (s1 s2 : Row) (se : Nat) (sd : Int64) (sb f g : Row) (Z : va_W) (v : Int32) (hb : ¬ (¬ v < 0 ∧ v ≤ 255)) : Ct l D (gTy cI cZ cQ) yX1_write wsX1_write ({ frames := 0, cells := 0, slots := 0, locals := 0 }) [.ref (x 0), .int v] (XW cI cQ x bn bt pa sl ac kb tx ln s1 s2 se sd sb f g Z) (some (.int (-2))) (XW cI cQ x bn bt pa sl ac kb tx ln s1 s2 se sd sb f g Z) := by
  refine ct_ofI (cc := cX1_write) (nL := 2) (own := RX1) (by decide) rfl rfl ⟨rfl, rfl⟩ (Nat.le_of_ble_eq_true rfl) XW_same (fun p e s m below meth c A Q F hR => ?_)
  refine g_aw ([(x 0, .inr (1, [.ref (bn 0), .ref (bt 0), .ref (x 1), .int (nI ac), .ref (x 2), .int kb, .ref (x 3), .int (nI ln), .ref (x 4), .ref (x 5), .int (nI se), .long sd, .ref (x 6)])), (x 1, .inl (cQ, 14, .inr (.inr (.inr (.inr pa))))), (x 2, .inl (cQ, 2, .inr (.inr (.inr (.inr sl))))), (x 3, .inl (cI, 60, .inl tx)), (x 4, .inl (cI, 6, .inl s1)), (x 5, .inl (cI, 6, .inl s2)), (x 6, .inl (cI, 64, .inl sb))] ++ (CR cI bn f ++ (CR cI bt g ++ (Z)))) rfl ?_
  refine g_iload_n F dX1_write_0 rfl 1 rfl ?_
  refine g_if_lt F 11 dX1_write_1 (by decide) (fun c1 => ?_) (fun c1 => ?_)
  · refine g_bipush F (v := (-2)) dX1_write_11 (by decide) ?_
    exact g_endI (hR _ _ dX1_write_13) rfl rfl
  · refine g_iload_n F dX1_write_4 rfl 1 rfl ?_
    refine g_sipush F (v := 255) dX1_write_5 (by decide) ?_
    refine g_icmp_le F 14 dX1_write_8 (by decide) (fun c2 => ?_) (fun c2 => ?_)
    · exact absurd ⟨c1, c2⟩ hb
    · refine g_bipush F (v := (-2)) dX1_write_11 (by decide) ?_
      exact g_endI (hR _ _ dX1_write_13) rfl rfl
theorem zX1_write_f37 : Cond.fieldLink RX1 37 (TX1 7).1 (TX1 7).2.1 (TX1 7).2.2.1 ∈ wsX1_write := by decide +kernel
theorem zX1_write_inX1 : ∀ w ∈ u_ws RX1 TX1 13, w ∈ wsX1_write := by decide +kernel
set_option maxHeartbeats 1000000 in
set_option maxRecDepth 100000 in
theorem kX1_write_full (l : Launch) (D : va_G) (cI cZ cQ : ClassId) (x bn bt : Nat → Nat) (pa sl : Nat → Option Nat) (ac : Nat) (kb : Int32) (tx : Row) (ln : Nat) (s1 s2 : Row) (se : Nat) (sd : Int64) (sb f g : Row) (Z : va_W) (v : Int32) (hb : ¬ v < 0 ∧ v ≤ 255) (hl : ln = 60) : Ct l D (gTy cI cZ cQ) yX1_write wsX1_write ({ frames := 0, cells := 0, slots := 0, locals := 0 }) [.ref (x 0), .int v] (XW cI cQ x bn bt pa sl ac kb tx ln s1 s2 se sd sb f g Z) (some (.int (-4))) (XW cI cQ x bn bt pa sl ac kb tx ln s1 s2 se sd sb f g Z) := by
  refine ct_ofI (cc := cX1_write) (nL := 2) (own := RX1) (by decide) rfl rfl ⟨rfl, rfl⟩ (Nat.le_of_ble_eq_true rfl) XW_same (fun p e s m below meth c A Q F hR => ?_)
  refine g_aw ([(x 0, .inr (1, [.ref (bn 0), .ref (bt 0), .ref (x 1), .int (nI ac), .ref (x 2), .int kb, .ref (x 3), .int (nI ln), .ref (x 4), .ref (x 5), .int (nI se), .long sd, .ref (x 6)])), (x 1, .inl (cQ, 14, .inr (.inr (.inr (.inr pa))))), (x 2, .inl (cQ, 2, .inr (.inr (.inr (.inr sl))))), (x 3, .inl (cI, 60, .inl tx)), (x 4, .inl (cI, 6, .inl s1)), (x 5, .inl (cI, 6, .inl s2)), (x 6, .inl (cI, 64, .inl sb))] ++ (CR cI bn f ++ (CR cI bt g ++ (Z)))) rfl ?_
  refine g_iload_n F dX1_write_0 rfl 1 rfl ?_
  refine g_if_lt F 11 dX1_write_1 (by decide) (fun c1 => ?_) (fun c1 => ?_)
  · exact absurd c1 hb.1
  · refine g_iload_n F dX1_write_4 rfl 1 rfl ?_
    refine g_sipush F (v := 255) dX1_write_5 (by decide) ?_
    refine g_icmp_le F 14 dX1_write_8 (by decide) (fun c2 => ?_) (fun c2 => ?_)
    · refine g_aload_n F dX1_write_14 rfl 0 rfl ?_
      refine g_get F (.int (nI ln)) zX1_write_inX1 0 rfl rfl 7 (by decide) rfl zX1_write_f37 dX1_write_15 ?_
      refine g_bipush F (v := 60) dX1_write_18 (by decide) ?_
      refine g_icmp_lt F 26 dX1_write_20 (by decide) (fun c3 => ?_) (fun c3 => ?_)
      · exact absurd c3 (by rw [hl]; decide)
      · refine g_bipush F (v := (-4)) dX1_write_23 (by decide) ?_
        exact g_endI (hR _ _ dX1_write_25) rfl rfl
    · exact absurd hb.2 c2
theorem zX1_write_f33 : Cond.fieldLink RX1 33 (TX1 6).1 (TX1 6).2.1 (TX1 6).2.2.1 ∈ wsX1_write := by decide +kernel
set_option maxHeartbeats 1000000 in
set_option maxRecDepth 100000 in
theorem kX1_write_ok (l : Launch) (D : va_G) (cI cZ cQ : ClassId) (x bn bt : Nat → Nat) (pa sl : Nat → Option Nat) (ac : Nat) (kb : Int32) (tx : Row) (ln : Nat) (s1 s2 : Row) (se : Nat) (sd : Int64) (sb f g : Row) (Z : va_W) (v : Int32) (hb : ¬ v < 0 ∧ v ≤ 255) (hl : ln < 60) : Ct l D (gTy cI cZ cQ) yX1_write wsX1_write ({ frames := 0, cells := 0, slots := 0, locals := 0 }) [.ref (x 0), .int v] (XW cI cQ x bn bt pa sl ac kb tx ln s1 s2 se sd sb f g Z) (some (.int (nI (ln + 1)))) (XW cI cQ x bn bt pa sl ac kb (upd tx ln v) (ln + 1) s1 s2 se sd sb f g Z) := by
  refine ct_ofI (cc := cX1_write) (nL := 2) (own := RX1) (by decide) rfl rfl ⟨rfl, rfl⟩ (Nat.le_of_ble_eq_true rfl) XW_same (fun p e s m below meth c A Q F hR => ?_)
  refine g_aw ([(x 0, .inr (1, [.ref (bn 0), .ref (bt 0), .ref (x 1), .int (nI ac), .ref (x 2), .int kb, .ref (x 3), .int (nI ln), .ref (x 4), .ref (x 5), .int (nI se), .long sd, .ref (x 6)])), (x 1, .inl (cQ, 14, .inr (.inr (.inr (.inr pa))))), (x 2, .inl (cQ, 2, .inr (.inr (.inr (.inr sl))))), (x 3, .inl (cI, 60, .inl tx)), (x 4, .inl (cI, 6, .inl s1)), (x 5, .inl (cI, 6, .inl s2)), (x 6, .inl (cI, 64, .inl sb))] ++ (CR cI bn f ++ (CR cI bt g ++ (Z)))) rfl ?_
  refine g_iload_n F dX1_write_0 rfl 1 rfl ?_
  refine g_if_lt F 11 dX1_write_1 (by decide) (fun c1 => ?_) (fun c1 => ?_)
  · exact absurd c1 hb.1
  · refine g_iload_n F dX1_write_4 rfl 1 rfl ?_
    refine g_sipush F (v := 255) dX1_write_5 (by decide) ?_
    refine g_icmp_le F 14 dX1_write_8 (by decide) (fun c2 => ?_) (fun c2 => ?_)
    · refine g_aload_n F dX1_write_14 rfl 0 rfl ?_
      refine g_get F (.int (nI ln)) zX1_write_inX1 0 rfl rfl 7 (by decide) rfl zX1_write_f37 dX1_write_15 ?_
      refine g_bipush F (v := 60) dX1_write_18 (by decide) ?_
      refine g_icmp_lt F 26 dX1_write_20 (by decide) (fun c3 => ?_) (fun c3 => ?_)
      · refine g_aload_n F dX1_write_26 rfl 0 rfl ?_
        refine g_get F (.ref (x 3)) zX1_write_inX1 0 rfl rfl 6 (by decide) rfl zX1_write_f33 dX1_write_27 ?_
        refine g_aload_n F dX1_write_30 rfl 0 rfl ?_
        refine g_get F (.int (nI ln)) zX1_write_inX1 0 rfl rfl 7 (by decide) rfl zX1_write_f37 dX1_write_31 ?_
        refine g_iload_n F dX1_write_34 rfl 1 rfl ?_
        refine g_iast F (j := ln) ([(x 0, .inr (1, [.ref (bn 0), .ref (bt 0), .ref (x 1), .int (nI ac), .ref (x 2), .int kb, .ref (x 3), .int (nI ln), .ref (x 4), .ref (x 5), .int (nI se), .long sd, .ref (x 6)])), (x 1, .inl (cQ, 14, .inr (.inr (.inr (.inr pa))))), (x 2, .inl (cQ, 2, .inr (.inr (.inr (.inr sl))))), (x 3, .inl (cI, 60, .inl (upd tx ln v))), (x 4, .inl (cI, 6, .inl s1)), (x 5, .inl (cI, 6, .inl s2)), (x 6, .inl (cI, 64, .inl sb))] ++ (CR cI bn f ++ (CR cI bt g ++ (Z)))) 3 0 rfl rfl (by omega) (by decide) dX1_write_35 rfl ?_
        refine g_aload_n F dX1_write_36 rfl 0 rfl ?_
        refine g_dup F dX1_write_37 rfl ?_
        refine g_get F (.int (nI ln)) zX1_write_inX1 0 rfl rfl 7 (by decide) rfl zX1_write_f37 dX1_write_38 ?_
        refine g_iconst F (v := 1) dX1_write_41 (by decide) ?_
        refine g_iadd F dX1_write_42 ?_
        refine g_as (nI (ln + 1)) (nI_add ln 1) ?_
        refine g_put F ([(x 0, .inr (1, [.ref (bn 0), .ref (bt 0), .ref (x 1), .int (nI ac), .ref (x 2), .int kb, .ref (x 3), .int (nI (ln + 1)), .ref (x 4), .ref (x 5), .int (nI se), .long sd, .ref (x 6)])), (x 1, .inl (cQ, 14, .inr (.inr (.inr (.inr pa))))), (x 2, .inl (cQ, 2, .inr (.inr (.inr (.inr sl))))), (x 3, .inl (cI, 60, .inl (upd tx ln v))), (x 4, .inl (cI, 6, .inl s1)), (x 5, .inl (cI, 6, .inl s2)), (x 6, .inl (cI, 64, .inl sb))] ++ (CR cI bn f ++ (CR cI bt g ++ (Z)))) zX1_write_inX1 tyX1 tyX1_ok nmX1 0 rfl rfl 7 (by decide) rfl rfl rfl (Nat.le_of_ble_eq_true rfl) zX1_write_f37 dX1_write_43 rfl ?_
        refine g_aload_n F dX1_write_46 rfl 0 rfl ?_
        refine g_get F (.int (nI (ln + 1))) zX1_write_inX1 0 rfl rfl 7 (by decide) rfl zX1_write_f37 dX1_write_47 ?_
        exact g_endI (hR _ _ dX1_write_50) rfl rfl
      · exact absurd (nI_lt (b := 60) hl (by decide)) c3
    · exact absurd hb.2 c2
set_option maxHeartbeats 1000000 in
set_option maxRecDepth 100000 in
theorem kX1_see_bad (l : Launch) (D : va_G) (cI cZ cQ : ClassId) (x bn bt : Nat → Nat) (pa sl : Nat → Option Nat) (ac : Nat) (kb : Int32) (tx : Row) (ln : Nat) (s1 s2 : Row) (se : Nat) (sd : Int64) (sb f g : Row) (Z : va_W) (v u : Int32) (hb : ¬ (¬ v < 0 ∧ v ≤ 60 ∧ ¬ u < 0 ∧ u ≤ 99)) : Ct l D (gTy cI cZ cQ) yX1_see wsX1_see ({ frames := 0, cells := 0, slots := 0, locals := 0 }) [.ref (x 0), .int v, .int u] (XW cI cQ x bn bt pa sl ac kb tx ln s1 s2 se sd sb f g Z) (some (.int (-2))) (XW cI cQ x bn bt pa sl ac kb tx ln s1 s2 se sd sb f g Z) := by
  refine ct_ofI (cc := cX1_see) (nL := 3) (own := RX1) (by decide) rfl rfl ⟨rfl, rfl⟩ (Nat.le_of_ble_eq_true rfl) XW_same (fun p e s m below meth c A Q F hR => ?_)
  refine g_aw ([(x 0, .inr (1, [.ref (bn 0), .ref (bt 0), .ref (x 1), .int (nI ac), .ref (x 2), .int kb, .ref (x 3), .int (nI ln), .ref (x 4), .ref (x 5), .int (nI se), .long sd, .ref (x 6)])), (x 1, .inl (cQ, 14, .inr (.inr (.inr (.inr pa))))), (x 2, .inl (cQ, 2, .inr (.inr (.inr (.inr sl))))), (x 3, .inl (cI, 60, .inl tx)), (x 4, .inl (cI, 6, .inl s1)), (x 5, .inl (cI, 6, .inl s2)), (x 6, .inl (cI, 64, .inl sb))] ++ (CR cI bn f ++ (CR cI bt g ++ (Z)))) rfl ?_
  refine g_iload_n F dX1_see_0 rfl 1 rfl ?_
  refine g_if_lt F 20 dX1_see_1 (by decide) (fun c1 => ?_) (fun c1 => ?_)
  · refine g_bipush F (v := (-2)) dX1_see_20 (by decide) ?_
    exact g_endI (hR _ _ dX1_see_22) rfl rfl
  · refine g_iload_n F dX1_see_4 rfl 1 rfl ?_
    refine g_bipush F (v := 60) dX1_see_5 (by decide) ?_
    refine g_icmp_gt F 20 dX1_see_7 (by decide) (fun c2 => ?_) (fun c2 => ?_)
    · refine g_bipush F (v := (-2)) dX1_see_20 (by decide) ?_
      exact g_endI (hR _ _ dX1_see_22) rfl rfl
    · refine g_iload_n F dX1_see_10 rfl 2 rfl ?_
      refine g_if_lt F 20 dX1_see_11 (by decide) (fun c3 => ?_) (fun c3 => ?_)
      · refine g_bipush F (v := (-2)) dX1_see_20 (by decide) ?_
        exact g_endI (hR _ _ dX1_see_22) rfl rfl
      · refine g_iload_n F dX1_see_14 rfl 2 rfl ?_
        refine g_bipush F (v := 99) dX1_see_15 (by decide) ?_
        refine g_icmp_le F 23 dX1_see_17 (by decide) (fun c4 => ?_) (fun c4 => ?_)
        · exact absurd ⟨c1, Int32.not_lt.mp c2, c3, c4⟩ hb
        · refine g_bipush F (v := (-2)) dX1_see_20 (by decide) ?_
          exact g_endI (hR _ _ dX1_see_22) rfl rfl
theorem zX1_see_f46 : Cond.fieldLink RX1 46 (TX1 10).1 (TX1 10).2.1 (TX1 10).2.2.1 ∈ wsX1_see := by decide +kernel
theorem zX1_see_inX1 : ∀ w ∈ u_ws RX1 TX1 13, w ∈ wsX1_see := by decide +kernel
set_option maxHeartbeats 1000000 in
set_option maxRecDepth 100000 in
theorem kX1_see_full (l : Launch) (D : va_G) (cI cZ cQ : ClassId) (x bn bt : Nat → Nat) (pa sl : Nat → Option Nat) (ac : Nat) (kb : Int32) (tx : Row) (ln : Nat) (s1 s2 : Row) (se : Nat) (sd : Int64) (sb f g : Row) (Z : va_W) (v u : Int32) (hb : ¬ v < 0 ∧ v ≤ 60 ∧ ¬ u < 0 ∧ u ≤ 99) (hl : se = 6) : Ct l D (gTy cI cZ cQ) yX1_see wsX1_see ({ frames := 0, cells := 0, slots := 0, locals := 0 }) [.ref (x 0), .int v, .int u] (XW cI cQ x bn bt pa sl ac kb tx ln s1 s2 se sd sb f g Z) (some (.int (-4))) (XW cI cQ x bn bt pa sl ac kb tx ln s1 s2 se sd sb f g Z) := by
  refine ct_ofI (cc := cX1_see) (nL := 3) (own := RX1) (by decide) rfl rfl ⟨rfl, rfl⟩ (Nat.le_of_ble_eq_true rfl) XW_same (fun p e s m below meth c A Q F hR => ?_)
  refine g_aw ([(x 0, .inr (1, [.ref (bn 0), .ref (bt 0), .ref (x 1), .int (nI ac), .ref (x 2), .int kb, .ref (x 3), .int (nI ln), .ref (x 4), .ref (x 5), .int (nI se), .long sd, .ref (x 6)])), (x 1, .inl (cQ, 14, .inr (.inr (.inr (.inr pa))))), (x 2, .inl (cQ, 2, .inr (.inr (.inr (.inr sl))))), (x 3, .inl (cI, 60, .inl tx)), (x 4, .inl (cI, 6, .inl s1)), (x 5, .inl (cI, 6, .inl s2)), (x 6, .inl (cI, 64, .inl sb))] ++ (CR cI bn f ++ (CR cI bt g ++ (Z)))) rfl ?_
  refine g_iload_n F dX1_see_0 rfl 1 rfl ?_
  refine g_if_lt F 20 dX1_see_1 (by decide) (fun c1 => ?_) (fun c1 => ?_)
  · exact absurd c1 hb.1
  · refine g_iload_n F dX1_see_4 rfl 1 rfl ?_
    refine g_bipush F (v := 60) dX1_see_5 (by decide) ?_
    refine g_icmp_gt F 20 dX1_see_7 (by decide) (fun c2 => ?_) (fun c2 => ?_)
    · exact absurd hb.2.1 (Int32.not_le.mpr c2)
    · refine g_iload_n F dX1_see_10 rfl 2 rfl ?_
      refine g_if_lt F 20 dX1_see_11 (by decide) (fun c3 => ?_) (fun c3 => ?_)
      · exact absurd c3 hb.2.2.1
      · refine g_iload_n F dX1_see_14 rfl 2 rfl ?_
        refine g_bipush F (v := 99) dX1_see_15 (by decide) ?_
        refine g_icmp_le F 23 dX1_see_17 (by decide) (fun c4 => ?_) (fun c4 => ?_)
        · refine g_aload_n F dX1_see_23 rfl 0 rfl ?_
          refine g_get F (.int (nI se)) zX1_see_inX1 0 rfl rfl 10 (by decide) rfl zX1_see_f46 dX1_see_24 ?_
          refine g_bipush F (v := 6) dX1_see_27 (by decide) ?_
          refine g_icmp_lt F 35 dX1_see_29 (by decide) (fun c5 => ?_) (fun c5 => ?_)
          · exact absurd c5 (by rw [hl]; decide)
          · refine g_bipush F (v := (-4)) dX1_see_32 (by decide) ?_
            exact g_endI (hR _ _ dX1_see_34) rfl rfl
        · exact absurd hb.2.2.2 c4
theorem zX1_see_f40 : Cond.fieldLink RX1 40 (TX1 8).1 (TX1 8).2.1 (TX1 8).2.2.1 ∈ wsX1_see := by decide +kernel
theorem zX1_see_f43 : Cond.fieldLink RX1 43 (TX1 9).1 (TX1 9).2.1 (TX1 9).2.2.1 ∈ wsX1_see := by decide +kernel
set_option maxHeartbeats 1000000 in
set_option maxRecDepth 100000 in
theorem kX1_see_ok (l : Launch) (D : va_G) (cI cZ cQ : ClassId) (x bn bt : Nat → Nat) (pa sl : Nat → Option Nat) (ac : Nat) (kb : Int32) (tx : Row) (ln : Nat) (s1 s2 : Row) (se : Nat) (sd : Int64) (sb f g : Row) (Z : va_W) (v u : Int32) (hb : ¬ v < 0 ∧ v ≤ 60 ∧ ¬ u < 0 ∧ u ≤ 99) (hl : se < 6) : Ct l D (gTy cI cZ cQ) yX1_see wsX1_see ({ frames := 0, cells := 0, slots := 0, locals := 0 }) [.ref (x 0), .int v, .int u] (XW cI cQ x bn bt pa sl ac kb tx ln s1 s2 se sd sb f g Z) (some (.int (nI (se + 1)))) (XW cI cQ x bn bt pa sl ac kb tx ln (upd s1 se v) (upd s2 se u) (se + 1) sd sb f g Z) := by
  refine ct_ofI (cc := cX1_see) (nL := 3) (own := RX1) (by decide) rfl rfl ⟨rfl, rfl⟩ (Nat.le_of_ble_eq_true rfl) XW_same (fun p e s m below meth c A Q F hR => ?_)
  refine g_aw ([(x 0, .inr (1, [.ref (bn 0), .ref (bt 0), .ref (x 1), .int (nI ac), .ref (x 2), .int kb, .ref (x 3), .int (nI ln), .ref (x 4), .ref (x 5), .int (nI se), .long sd, .ref (x 6)])), (x 1, .inl (cQ, 14, .inr (.inr (.inr (.inr pa))))), (x 2, .inl (cQ, 2, .inr (.inr (.inr (.inr sl))))), (x 3, .inl (cI, 60, .inl tx)), (x 4, .inl (cI, 6, .inl s1)), (x 5, .inl (cI, 6, .inl s2)), (x 6, .inl (cI, 64, .inl sb))] ++ (CR cI bn f ++ (CR cI bt g ++ (Z)))) rfl ?_
  refine g_iload_n F dX1_see_0 rfl 1 rfl ?_
  refine g_if_lt F 20 dX1_see_1 (by decide) (fun c1 => ?_) (fun c1 => ?_)
  · exact absurd c1 hb.1
  · refine g_iload_n F dX1_see_4 rfl 1 rfl ?_
    refine g_bipush F (v := 60) dX1_see_5 (by decide) ?_
    refine g_icmp_gt F 20 dX1_see_7 (by decide) (fun c2 => ?_) (fun c2 => ?_)
    · exact absurd hb.2.1 (Int32.not_le.mpr c2)
    · refine g_iload_n F dX1_see_10 rfl 2 rfl ?_
      refine g_if_lt F 20 dX1_see_11 (by decide) (fun c3 => ?_) (fun c3 => ?_)
      · exact absurd c3 hb.2.2.1
      · refine g_iload_n F dX1_see_14 rfl 2 rfl ?_
        refine g_bipush F (v := 99) dX1_see_15 (by decide) ?_
        refine g_icmp_le F 23 dX1_see_17 (by decide) (fun c4 => ?_) (fun c4 => ?_)
        · refine g_aload_n F dX1_see_23 rfl 0 rfl ?_
          refine g_get F (.int (nI se)) zX1_see_inX1 0 rfl rfl 10 (by decide) rfl zX1_see_f46 dX1_see_24 ?_
          refine g_bipush F (v := 6) dX1_see_27 (by decide) ?_
          refine g_icmp_lt F 35 dX1_see_29 (by decide) (fun c5 => ?_) (fun c5 => ?_)
          · refine g_aload_n F dX1_see_35 rfl 0 rfl ?_
            refine g_get F (.ref (x 4)) zX1_see_inX1 0 rfl rfl 8 (by decide) rfl zX1_see_f40 dX1_see_36 ?_
            refine g_aload_n F dX1_see_39 rfl 0 rfl ?_
            refine g_get F (.int (nI se)) zX1_see_inX1 0 rfl rfl 10 (by decide) rfl zX1_see_f46 dX1_see_40 ?_
            refine g_iload_n F dX1_see_43 rfl 1 rfl ?_
            refine g_iast F (j := se) ([(x 0, .inr (1, [.ref (bn 0), .ref (bt 0), .ref (x 1), .int (nI ac), .ref (x 2), .int kb, .ref (x 3), .int (nI ln), .ref (x 4), .ref (x 5), .int (nI se), .long sd, .ref (x 6)])), (x 1, .inl (cQ, 14, .inr (.inr (.inr (.inr pa))))), (x 2, .inl (cQ, 2, .inr (.inr (.inr (.inr sl))))), (x 3, .inl (cI, 60, .inl tx)), (x 4, .inl (cI, 6, .inl (upd s1 se v))), (x 5, .inl (cI, 6, .inl s2)), (x 6, .inl (cI, 64, .inl sb))] ++ (CR cI bn f ++ (CR cI bt g ++ (Z)))) 4 0 rfl rfl (by omega) (by decide) dX1_see_44 rfl ?_
            refine g_aload_n F dX1_see_45 rfl 0 rfl ?_
            refine g_get F (.ref (x 5)) zX1_see_inX1 0 rfl rfl 9 (by decide) rfl zX1_see_f43 dX1_see_46 ?_
            refine g_aload_n F dX1_see_49 rfl 0 rfl ?_
            refine g_get F (.int (nI se)) zX1_see_inX1 0 rfl rfl 10 (by decide) rfl zX1_see_f46 dX1_see_50 ?_
            refine g_iload_n F dX1_see_53 rfl 2 rfl ?_
            refine g_iast F (j := se) ([(x 0, .inr (1, [.ref (bn 0), .ref (bt 0), .ref (x 1), .int (nI ac), .ref (x 2), .int kb, .ref (x 3), .int (nI ln), .ref (x 4), .ref (x 5), .int (nI se), .long sd, .ref (x 6)])), (x 1, .inl (cQ, 14, .inr (.inr (.inr (.inr pa))))), (x 2, .inl (cQ, 2, .inr (.inr (.inr (.inr sl))))), (x 3, .inl (cI, 60, .inl tx)), (x 4, .inl (cI, 6, .inl (upd s1 se v))), (x 5, .inl (cI, 6, .inl (upd s2 se u))), (x 6, .inl (cI, 64, .inl sb))] ++ (CR cI bn f ++ (CR cI bt g ++ (Z)))) 5 0 rfl rfl (by omega) (by decide) dX1_see_54 rfl ?_
            refine g_aload_n F dX1_see_55 rfl 0 rfl ?_
            refine g_dup F dX1_see_56 rfl ?_
            refine g_get F (.int (nI se)) zX1_see_inX1 0 rfl rfl 10 (by decide) rfl zX1_see_f46 dX1_see_57 ?_
            refine g_iconst F (v := 1) dX1_see_60 (by decide) ?_
            refine g_iadd F dX1_see_61 ?_
            refine g_as (nI (se + 1)) (nI_add se 1) ?_
            refine g_put F ([(x 0, .inr (1, [.ref (bn 0), .ref (bt 0), .ref (x 1), .int (nI ac), .ref (x 2), .int kb, .ref (x 3), .int (nI ln), .ref (x 4), .ref (x 5), .int (nI (se + 1)), .long sd, .ref (x 6)])), (x 1, .inl (cQ, 14, .inr (.inr (.inr (.inr pa))))), (x 2, .inl (cQ, 2, .inr (.inr (.inr (.inr sl))))), (x 3, .inl (cI, 60, .inl tx)), (x 4, .inl (cI, 6, .inl (upd s1 se v))), (x 5, .inl (cI, 6, .inl (upd s2 se u))), (x 6, .inl (cI, 64, .inl sb))] ++ (CR cI bn f ++ (CR cI bt g ++ (Z)))) zX1_see_inX1 tyX1 tyX1_ok nmX1 0 rfl rfl 10 (by decide) rfl rfl rfl (Nat.le_of_ble_eq_true rfl) zX1_see_f46 dX1_see_62 rfl ?_
            refine g_aload_n F dX1_see_65 rfl 0 rfl ?_
            refine g_get F (.int (nI (se + 1))) zX1_see_inX1 0 rfl rfl 10 (by decide) rfl zX1_see_f46 dX1_see_66 ?_
            exact g_endI (hR _ _ dX1_see_69) rfl rfl
          · exact absurd (nI_lt (b := 6) hl (by decide)) c5
        · exact absurd hb.2.2.2 c4
set_option maxHeartbeats 1000000 in
set_option maxRecDepth 100000 in
theorem kX1_round_bad (l : Launch) (D : va_G) (cI cZ cQ : ClassId) (x bn bt : Nat → Nat) (pa sl : Nat → Option Nat) (ac : Nat) (kb : Int32) (tx : Row) (ln : Nat) (s1 s2 : Row) (se : Nat) (sd : Int64) (sb f g : Row) (Z : va_W) (v u z : Int32) (hb : ¬ (S_time v = true ∧ S_time u = true ∧ S_time z = true)) : Ct l D (gTy cI cZ cQ) yX1_round wsX1_round ({ frames := 1, cells := 0, slots := 0, locals := 20 }) [.ref (x 0), .int v, .int u, .int z] (XW cI cQ x bn bt pa sl ac kb tx ln s1 s2 se sd sb f g Z) (some (.int (-2))) (XW cI cQ x bn bt pa sl ac kb tx ln s1 s2 se sd sb f g Z) := by
  refine ct_ofI (cc := cX1_round) (nL := 5) (own := RX1) (by decide) rfl rfl ⟨rfl, rfl⟩ (Nat.le_of_ble_eq_true rfl) XW_same (fun p e s m below meth c A Q F hR => ?_)
  refine g_aw ([(x 0, .inr (1, [.ref (bn 0), .ref (bt 0), .ref (x 1), .int (nI ac), .ref (x 2), .int kb, .ref (x 3), .int (nI ln), .ref (x 4), .ref (x 5), .int (nI se), .long sd, .ref (x 6)])), (x 1, .inl (cQ, 14, .inr (.inr (.inr (.inr pa))))), (x 2, .inl (cQ, 2, .inr (.inr (.inr (.inr sl))))), (x 3, .inl (cI, 60, .inl tx)), (x 4, .inl (cI, 6, .inl s1)), (x 5, .inl (cI, 6, .inl s2)), (x 6, .inl (cI, 64, .inl sb))] ++ (CR cI bn f ++ (CR cI bt g ++ (Z)))) rfl ?_
  refine g_iload_n F dX1_round_0 rfl 1 rfl ?_
  refine g_callSn F (As := [.int v]) (st := []) (kX1_isTime l D cI cZ cQ v) (va_cwS 1 F.2.2.2.2.1 gX1_round_X1_isTime rfl rfl rfl (by decide +kernel) ⟨Nat.le_of_ble_eq_true rfl, Nat.le_of_ble_eq_true rfl⟩) rfl rfl (Nat.le_of_ble_eq_true rfl) ⟨Nat.zero_le _, Nat.zero_le _⟩ dX1_round_1 ?_
  refine g_beq F 21 dX1_round_4 (by decide) (fun c1 => ?_) (fun c1 => ?_)
  · refine g_bipush F (v := (-2)) dX1_round_21 (by decide) ?_
    exact g_endI (hR _ _ dX1_round_23) rfl rfl
  · refine g_iload_n F dX1_round_7 rfl 2 rfl ?_
    refine g_callSn F (As := [.int u]) (st := []) (kX1_isTime l D cI cZ cQ u) (va_cwS 1 F.2.2.2.2.1 gX1_round_X1_isTime rfl rfl rfl (by decide +kernel) ⟨Nat.le_of_ble_eq_true rfl, Nat.le_of_ble_eq_true rfl⟩) rfl rfl (Nat.le_of_ble_eq_true rfl) ⟨Nat.zero_le _, Nat.zero_le _⟩ dX1_round_8 ?_
    refine g_beq F 21 dX1_round_11 (by decide) (fun c2 => ?_) (fun c2 => ?_)
    · refine g_bipush F (v := (-2)) dX1_round_21 (by decide) ?_
      exact g_endI (hR _ _ dX1_round_23) rfl rfl
    · refine g_iload_n F dX1_round_14 rfl 3 rfl ?_
      refine g_callSn F (As := [.int z]) (st := []) (kX1_isTime l D cI cZ cQ z) (va_cwS 1 F.2.2.2.2.1 gX1_round_X1_isTime rfl rfl rfl (by decide +kernel) ⟨Nat.le_of_ble_eq_true rfl, Nat.le_of_ble_eq_true rfl⟩) rfl rfl (Nat.le_of_ble_eq_true rfl) ⟨Nat.zero_le _, Nat.zero_le _⟩ dX1_round_15 ?_
      refine g_bne F 24 dX1_round_18 (by decide) (fun c3 => ?_) (fun c3 => ?_)
      · exact absurd ⟨c1, c2, c3⟩ hb
      · refine g_bipush F (v := (-2)) dX1_round_21 (by decide) ?_
        exact g_endI (hR _ _ dX1_round_23) rfl rfl
set_option maxHeartbeats 1000000 in
set_option maxRecDepth 100000 in
theorem kX1_round_ok (l : Launch) (D : va_G) (cI cZ cQ : ClassId) (x bn bt : Nat → Nat) (pa sl : Nat → Option Nat) (ac : Nat) (kb : Int32) (tx : Row) (ln : Nat) (s1 s2 : Row) (se : Nat) (sd : Int64) (sb f g : Row) (Z : va_W) (v u z : Int32) (hb : S_time v = true ∧ S_time u = true ∧ S_time z = true) : Ct l D (gTy cI cZ cQ) yX1_round wsX1_round ({ frames := 1, cells := 0, slots := 0, locals := 20 }) [.ref (x 0), .int v, .int u, .int z] (XW cI cQ x bn bt pa sl ac kb tx ln s1 s2 se sd sb f g Z) (some (.int (S_round v u z))) (XW cI cQ x bn bt pa sl ac kb tx ln s1 s2 se sd sb f g Z) := by
  refine ct_ofI (cc := cX1_round) (nL := 5) (own := RX1) (by decide) rfl rfl ⟨rfl, rfl⟩ (Nat.le_of_ble_eq_true rfl) XW_same (fun p e s m below meth c A Q F hR => ?_)
  refine g_aw ([(x 0, .inr (1, [.ref (bn 0), .ref (bt 0), .ref (x 1), .int (nI ac), .ref (x 2), .int kb, .ref (x 3), .int (nI ln), .ref (x 4), .ref (x 5), .int (nI se), .long sd, .ref (x 6)])), (x 1, .inl (cQ, 14, .inr (.inr (.inr (.inr pa))))), (x 2, .inl (cQ, 2, .inr (.inr (.inr (.inr sl))))), (x 3, .inl (cI, 60, .inl tx)), (x 4, .inl (cI, 6, .inl s1)), (x 5, .inl (cI, 6, .inl s2)), (x 6, .inl (cI, 64, .inl sb))] ++ (CR cI bn f ++ (CR cI bt g ++ (Z)))) rfl ?_
  refine g_iload_n F dX1_round_0 rfl 1 rfl ?_
  refine g_callSn F (As := [.int v]) (st := []) (kX1_isTime l D cI cZ cQ v) (va_cwS 1 F.2.2.2.2.1 gX1_round_X1_isTime rfl rfl rfl (by decide +kernel) ⟨Nat.le_of_ble_eq_true rfl, Nat.le_of_ble_eq_true rfl⟩) rfl rfl (Nat.le_of_ble_eq_true rfl) ⟨Nat.zero_le _, Nat.zero_le _⟩ dX1_round_1 ?_
  refine g_beq F 21 dX1_round_4 (by decide) (fun c1 => ?_) (fun c1 => ?_)
  · exact absurd c1 (by rw [hb.1]; decide)
  · refine g_iload_n F dX1_round_7 rfl 2 rfl ?_
    refine g_callSn F (As := [.int u]) (st := []) (kX1_isTime l D cI cZ cQ u) (va_cwS 1 F.2.2.2.2.1 gX1_round_X1_isTime rfl rfl rfl (by decide +kernel) ⟨Nat.le_of_ble_eq_true rfl, Nat.le_of_ble_eq_true rfl⟩) rfl rfl (Nat.le_of_ble_eq_true rfl) ⟨Nat.zero_le _, Nat.zero_le _⟩ dX1_round_8 ?_
    refine g_beq F 21 dX1_round_11 (by decide) (fun c2 => ?_) (fun c2 => ?_)
    · exact absurd c2 (by rw [hb.2.1]; decide)
    · refine g_iload_n F dX1_round_14 rfl 3 rfl ?_
      refine g_callSn F (As := [.int z]) (st := []) (kX1_isTime l D cI cZ cQ z) (va_cwS 1 F.2.2.2.2.1 gX1_round_X1_isTime rfl rfl rfl (by decide +kernel) ⟨Nat.le_of_ble_eq_true rfl, Nat.le_of_ble_eq_true rfl⟩) rfl rfl (Nat.le_of_ble_eq_true rfl) ⟨Nat.zero_le _, Nat.zero_le _⟩ dX1_round_15 ?_
      refine g_bne F 24 dX1_round_18 (by decide) (fun c3 => ?_) (fun c3 => ?_)
      · refine g_iload_n F dX1_round_24 rfl 1 rfl ?_
        refine g_iload_n F dX1_round_25 rfl 2 rfl ?_
        refine g_isub F dX1_round_26 ?_
        refine g_iload_n F dX1_round_27 rfl 3 rfl ?_
        refine g_isub F dX1_round_28 ?_
        refine g_istore F (lv' := [(0, .ref (x 0)), (1, .int v), (2, .int u), (3, .int z), (4, .int ((v - u) - z))]) dX1_round_29 (by decide) [1, 2, 3, 4, 0] rfl ?_
        refine g_iload F dX1_round_31 4 rfl ?_
        refine g_if_ge F 41 dX1_round_33 (by decide) (fun c4 => ?_) (fun c4 => ?_)
        · refine g_iload F dX1_round_41 4 rfl ?_
          exact g_endI (hR _ _ dX1_round_43) (by first | (simp only [S_round, c1, c2, c3, c4, Bool.false_eq_true, ↓reduceIte]; done) | (with_reducible rfl) | (simp [S_round, c1, c2, c3, c4, Bool.false_eq_true, ↓reduceIte]; done)) rfl
        · refine g_bipush F (v := (-3)) dX1_round_36 (by decide) ?_
          refine g_goto F 43 dX1_round_38 (by decide) ?_
          exact g_endI (hR _ _ dX1_round_43) (by first | (simp only [S_round, c1, c2, c3, c4, Bool.false_eq_true, ↓reduceIte]; done) | (with_reducible rfl) | (simp [S_round, c1, c2, c3, c4, Bool.false_eq_true, ↓reduceIte]; done)) rfl
      · exact absurd c3 (by rw [hb.2.2]; decide)
set_option maxHeartbeats 1000000 in
set_option maxRecDepth 100000 in
theorem kX1_member_bad (l : Launch) (D : va_G) (cI cZ cQ : ClassId) (x bn bt : Nat → Nat) (pa sl : Nat → Option Nat) (ac : Nat) (kb : Int32) (tx : Row) (ln : Nat) (s1 s2 : Row) (se : Nat) (sd : Int64) (sb f g : Row) (Z : va_W) (v u : Int32) (hb : S_mem v = false) : Ct l D (gTy cI cZ cQ) yX1_member wsX1_member ({ frames := 3, cells := 0, slots := 0, locals := 70 }) [.ref (x 0), .int v, .int u] (XW cI cQ x bn bt pa sl ac kb tx ln s1 s2 se sd sb f g Z) (some (.int (-1))) (XW cI cQ x bn bt pa sl ac kb tx ln s1 s2 se sd sb f g Z) := by
  refine ct_ofI (cc := cX1_member) (nL := 3) (own := RX1) (by decide) rfl rfl ⟨rfl, rfl⟩ (Nat.le_of_ble_eq_true rfl) XW_same (fun p e s m below meth c A Q F hR => ?_)
  refine g_aw ([(x 0, .inr (1, [.ref (bn 0), .ref (bt 0), .ref (x 1), .int (nI ac), .ref (x 2), .int kb, .ref (x 3), .int (nI ln), .ref (x 4), .ref (x 5), .int (nI se), .long sd, .ref (x 6)])), (x 1, .inl (cQ, 14, .inr (.inr (.inr (.inr pa))))), (x 2, .inl (cQ, 2, .inr (.inr (.inr (.inr sl))))), (x 3, .inl (cI, 60, .inl tx)), (x 4, .inl (cI, 6, .inl s1)), (x 5, .inl (cI, 6, .inl s2)), (x 6, .inl (cI, 64, .inl sb))] ++ (CR cI bn f ++ (CR cI bt g ++ (Z)))) rfl ?_
  refine g_iload_n F dX1_member_0 rfl 1 rfl ?_
  refine g_callSn F (As := [.int v]) (st := []) (kX1_isMember l D cI cZ cQ v) (va_cwS 1 F.2.2.2.2.1 gX1_member_X1_isMember rfl rfl rfl (by decide +kernel) ⟨Nat.le_of_ble_eq_true rfl, Nat.le_of_ble_eq_true rfl⟩) rfl rfl (Nat.le_of_ble_eq_true rfl) ⟨Nat.zero_le _, Nat.zero_le _⟩ dX1_member_1 ?_
  refine g_bne F 9 dX1_member_4 (by decide) (fun c1 => ?_) (fun c1 => ?_)
  · exact absurd c1 (by rw [hb]; decide)
  · refine g_iconst F (v := (-1)) dX1_member_7 (by decide) ?_
    exact g_endI (hR _ _ dX1_member_8) rfl rfl
theorem zX1_member_f10 : Cond.fieldLink RX1 10 (TX1 0).1 (TX1 0).2.1 (TX1 0).2.2.1 ∈ wsX1_member := by decide +kernel
theorem zX1_member_f105 : Cond.fieldLink RX1 105 (TX0 9).1 (TX0 9).2.1 (TX0 9).2.2.1 ∈ wsX1_member := by decide +kernel
theorem zX1_member_f108 : Cond.fieldLink RX1 108 (TX0 10).1 (TX0 10).2.1 (TX0 10).2.2.1 ∈ wsX1_member := by decide +kernel
theorem zX1_member_f111 : Cond.fieldLink RX1 111 (TX0 11).1 (TX0 11).2.1 (TX0 11).2.2.1 ∈ wsX1_member := by decide +kernel
theorem zX1_member_f96 : Cond.fieldLink RX1 96 (TX0 7).1 (TX0 7).2.1 (TX0 7).2.2.1 ∈ wsX1_member := by decide +kernel
theorem zX1_member_f99 : Cond.fieldLink RX1 99 (TX0 8).1 (TX0 8).2.1 (TX0 8).2.2.1 ∈ wsX1_member := by decide +kernel
theorem zX1_member_inX0 : ∀ w ∈ u_ws RX0 TX0 14, w ∈ wsX1_member := by decide +kernel
theorem zX1_member_inX1 : ∀ w ∈ u_ws RX1 TX1 13, w ∈ wsX1_member := by decide +kernel
set_option maxHeartbeats 1000000 in
set_option maxRecDepth 100000 in
theorem kX1_member_ok (l : Launch) (D : va_G) (cI cZ cQ : ClassId) (x bn bt : Nat → Nat) (pa sl : Nat → Option Nat) (ac : Nat) (kb : Int32) (tx : Row) (ln : Nat) (s1 s2 : Row) (se : Nat) (sd : Int64) (sb f g : Row) (Z : va_W) (k : Nat) (u : Int32) (hk : k < 6) (hK : Kn f) : Ct l D (gTy cI cZ cQ) yX1_member wsX1_member ({ frames := 3, cells := 0, slots := 0, locals := 70 }) [.ref (x 0), .int (nI k), .int u] (XW cI cQ x bn bt pa sl ac kb tx ln s1 s2 se sd sb f g Z) (some (.int (S_member f k u))) (XW cI cQ x bn bt pa sl ac kb tx ln s1 s2 se sd sb f g Z) := by
  refine ct_ofI (cc := cX1_member) (nL := 3) (own := RX1) (by decide) rfl rfl ⟨rfl, rfl⟩ (Nat.le_of_ble_eq_true rfl) XW_same (fun p e s m below meth c A Q F hR => ?_)
  refine g_aw ([(x 0, .inr (1, [.ref (bn 0), .ref (bt 0), .ref (x 1), .int (nI ac), .ref (x 2), .int kb, .ref (x 3), .int (nI ln), .ref (x 4), .ref (x 5), .int (nI se), .long sd, .ref (x 6)])), (x 1, .inl (cQ, 14, .inr (.inr (.inr (.inr pa))))), (x 2, .inl (cQ, 2, .inr (.inr (.inr (.inr sl))))), (x 3, .inl (cI, 60, .inl tx)), (x 4, .inl (cI, 6, .inl s1)), (x 5, .inl (cI, 6, .inl s2)), (x 6, .inl (cI, 64, .inl sb))] ++ (CR cI bn f ++ (CR cI bt g ++ (Z)))) rfl ?_
  refine g_iload_n F dX1_member_0 rfl 1 rfl ?_
  refine g_callSn F (As := [.int (nI k)]) (st := []) (kX1_isMember l D cI cZ cQ (nI k)) (va_cwS 1 F.2.2.2.2.1 gX1_member_X1_isMember rfl rfl rfl (by decide +kernel) ⟨Nat.le_of_ble_eq_true rfl, Nat.le_of_ble_eq_true rfl⟩) rfl rfl (Nat.le_of_ble_eq_true rfl) ⟨Nat.zero_le _, Nat.zero_le _⟩ dX1_member_1 ?_
  refine g_bne F 9 dX1_member_4 (by decide) (fun c1 => ?_) (fun c1 => ?_)
  · refine g_iload_n F dX1_member_9 rfl 2 rfl ?_
    rcases tb_cases u 0 6 (by decide) with c2 | ⟨n_c2, hn_c2, c2⟩
    · refine g_tableOut F 107 dX1_member_10 (by omega) (by decide) ?_
      refine g_bipush F (v := (-2)) dX1_member_107 (by decide) ?_
      exact g_endI (hR _ _ dX1_member_109) (by unfold S_member; rw [if_neg (show ¬ u = 0 from tb_ne (n := 0) c2 (by decide) (by decide)), if_neg (show ¬ u = 1 from tb_ne (n := 1) c2 (by decide) (by decide)), if_neg (show ¬ u = 2 from tb_ne (n := 2) c2 (by decide) (by decide)), if_neg (show ¬ u = 3 from tb_ne (n := 3) c2 (by decide) (by decide)), if_neg (show ¬ u = 4 from tb_ne (n := 4) c2 (by decide) (by decide)), if_neg (show ¬ u = 5 from tb_ne (n := 5) c2 (by decide) (by decide))]) rfl
    · match n_c2, hn_c2, c2 with
      | 0, _, c2 =>
        have hw_c2 : u = nI 0 := tb_eq (by decide) c2
        refine g_tableIn F 48 dX1_member_10 (by rw [c2]; decide) (by rw [c2]; decide) (by rw [c2]; rfl) (by decide) ?_
        refine g_aload_n F dX1_member_48 rfl 0 rfl ?_
        refine g_get F (.ref (bn 0)) zX1_member_inX1 0 rfl rfl 0 (by decide) rfl zX1_member_f10 dX1_member_49 ?_
        refine g_get F (.ref (bn 1)) zX1_member_inX0 7 rfl rfl 7 (by decide) rfl zX1_member_f96 dX1_member_52 ?_
        refine g_iload_n F dX1_member_55 rfl 1 rfl ?_
        refine g_iald F (j := k) 8 0 rfl rfl (by omega) (by decide) dX1_member_56 ?_
        refine g_as (f (k)) rfl ?_
        exact g_endI (hR _ _ dX1_member_57) (by rw [hw_c2]; rfl) rfl
      | 1, _, c2 =>
        have hw_c2 : u = nI 1 := tb_eq (by decide) c2
        refine g_tableIn F 58 dX1_member_10 (by rw [c2]; decide) (by rw [c2]; decide) (by rw [c2]; rfl) (by decide) ?_
        refine g_aload_n F dX1_member_58 rfl 0 rfl ?_
        refine g_get F (.ref (bn 0)) zX1_member_inX1 0 rfl rfl 0 (by decide) rfl zX1_member_f10 dX1_member_59 ?_
        refine g_get F (.ref (bn 2)) zX1_member_inX0 7 rfl rfl 8 (by decide) rfl zX1_member_f99 dX1_member_62 ?_
        refine g_iload_n F dX1_member_65 rfl 1 rfl ?_
        refine g_iald F (j := k) 9 0 rfl rfl (by omega) (by decide) dX1_member_66 ?_
        refine g_as (f (6 + k)) rfl ?_
        exact g_endI (hR _ _ dX1_member_67) (by rw [hw_c2]; rfl) rfl
      | 2, _, c2 =>
        have hw_c2 : u = nI 2 := tb_eq (by decide) c2
        refine g_tableIn F 68 dX1_member_10 (by rw [c2]; decide) (by rw [c2]; decide) (by rw [c2]; rfl) (by decide) ?_
        refine g_aload_n F dX1_member_68 rfl 0 rfl ?_
        refine g_get F (.ref (bn 0)) zX1_member_inX1 0 rfl rfl 0 (by decide) rfl zX1_member_f10 dX1_member_69 ?_
        refine g_iload_n F dX1_member_72 rfl 1 rfl ?_
        refine g_segV F (As := [.int (nI k)]) (st := []) ([(x 0, .inr (1, [.ref (bn 0), .ref (bt 0), .ref (x 1), .int (nI ac), .ref (x 2), .int kb, .ref (x 3), .int (nI ln), .ref (x 4), .ref (x 5), .int (nI se), .long sd, .ref (x 6)])), (x 1, .inl (cQ, 14, .inr (.inr (.inr (.inr pa))))), (x 2, .inl (cQ, 2, .inr (.inr (.inr (.inr sl))))), (x 3, .inl (cI, 60, .inl tx)), (x 4, .inl (cI, 6, .inl s1)), (x 5, .inl (cI, 6, .inl s2)), (x 6, .inl (cI, 64, .inl sb))]) (CR cI bt g ++ (Z)) ([(x 0, .inr (1, [.ref (bn 0), .ref (bt 0), .ref (x 1), .int (nI ac), .ref (x 2), .int kb, .ref (x 3), .int (nI ln), .ref (x 4), .ref (x 5), .int (nI se), .long sd, .ref (x 6)])), (x 1, .inl (cQ, 14, .inr (.inr (.inr (.inr pa))))), (x 2, .inl (cQ, 2, .inr (.inr (.inr (.inr sl))))), (x 3, .inl (cI, 60, .inl tx)), (x 4, .inl (cI, 6, .inl s1)), (x 5, .inl (cI, 6, .inl s2)), (x 6, .inl (cI, 64, .inl sb))] ++ (CR cI bn f ++ (CR cI bt g ++ (Z)))) (kX0_countTold l D cI cZ cQ bn f k (by omega) hK) 0 rfl rfl (cwV 1 F.2.2.2.2.1 gX1_member_X0_countTold rfl rfl rfl (by decide +kernel) ⟨Nat.le_of_ble_eq_true rfl, Nat.le_of_ble_eq_true rfl⟩) rfl rfl rfl rfl (Nat.le_of_ble_eq_true rfl) ⟨Nat.zero_le _, Nat.zero_le _⟩ dX1_member_73 ?_
        exact g_endI (hR _ _ dX1_member_76) (by rw [hw_c2]; rfl) rfl
      | 3, _, c2 =>
        have hw_c2 : u = nI 3 := tb_eq (by decide) c2
        refine g_tableIn F 77 dX1_member_10 (by rw [c2]; decide) (by rw [c2]; decide) (by rw [c2]; rfl) (by decide) ?_
        refine g_aload_n F dX1_member_77 rfl 0 rfl ?_
        refine g_get F (.ref (bn 0)) zX1_member_inX1 0 rfl rfl 0 (by decide) rfl zX1_member_f10 dX1_member_78 ?_
        refine g_get F (.ref (bn 3)) zX1_member_inX0 7 rfl rfl 9 (by decide) rfl zX1_member_f105 dX1_member_81 ?_
        refine g_iload_n F dX1_member_84 rfl 1 rfl ?_
        refine g_iald F (j := k) 10 0 rfl rfl (by omega) (by decide) dX1_member_85 ?_
        refine g_as (f (48 + k)) rfl ?_
        exact g_endI (hR _ _ dX1_member_86) (by rw [hw_c2]; rfl) rfl
      | 4, _, c2 =>
        have hw_c2 : u = nI 4 := tb_eq (by decide) c2
        refine g_tableIn F 87 dX1_member_10 (by rw [c2]; decide) (by rw [c2]; decide) (by rw [c2]; rfl) (by decide) ?_
        refine g_aload_n F dX1_member_87 rfl 0 rfl ?_
        refine g_get F (.ref (bn 0)) zX1_member_inX1 0 rfl rfl 0 (by decide) rfl zX1_member_f10 dX1_member_88 ?_
        refine g_get F (.ref (bn 4)) zX1_member_inX0 7 rfl rfl 10 (by decide) rfl zX1_member_f108 dX1_member_91 ?_
        refine g_iload_n F dX1_member_94 rfl 1 rfl ?_
        refine g_iald F (j := k) 11 0 rfl rfl (by omega) (by decide) dX1_member_95 ?_
        refine g_as (f (54 + k)) rfl ?_
        exact g_endI (hR _ _ dX1_member_96) (by rw [hw_c2]; rfl) rfl
      | 5, _, c2 =>
        have hw_c2 : u = nI 5 := tb_eq (by decide) c2
        refine g_tableIn F 97 dX1_member_10 (by rw [c2]; decide) (by rw [c2]; decide) (by rw [c2]; rfl) (by decide) ?_
        refine g_aload_n F dX1_member_97 rfl 0 rfl ?_
        refine g_get F (.ref (bn 0)) zX1_member_inX1 0 rfl rfl 0 (by decide) rfl zX1_member_f10 dX1_member_98 ?_
        refine g_get F (.ref (bn 5)) zX1_member_inX0 7 rfl rfl 11 (by decide) rfl zX1_member_f111 dX1_member_101 ?_
        refine g_iload_n F dX1_member_104 rfl 1 rfl ?_
        refine g_iald F (j := k) 12 0 rfl rfl (by omega) (by decide) dX1_member_105 ?_
        refine g_as (f (60 + k)) rfl ?_
        exact g_endI (hR _ _ dX1_member_106) (by rw [hw_c2]; rfl) rfl
      | n + 6, hn, _ => exact absurd hn (by omega)
  · exact absurd c1 (by rw [mem_nI hk]; decide)
set_option maxHeartbeats 1000000 in
set_option maxRecDepth 100000 in
theorem kX1_heard_bad (l : Launch) (D : va_G) (cI cZ cQ : ClassId) (x bn bt : Nat → Nat) (pa sl : Nat → Option Nat) (ac : Nat) (kb : Int32) (tx : Row) (ln : Nat) (s1 s2 : Row) (se : Nat) (sd : Int64) (sb f g : Row) (Z : va_W) (v u : Int32) (hb : S_mem v = false ∨ S_mem u = false) : Ct l D (gTy cI cZ cQ) yX1_heard wsX1_heard ({ frames := 3, cells := 0, slots := 0, locals := 70 }) [.ref (x 0), .int v, .int u] (XW cI cQ x bn bt pa sl ac kb tx ln s1 s2 se sd sb f g Z) (some (.int (-1))) (XW cI cQ x bn bt pa sl ac kb tx ln s1 s2 se sd sb f g Z) := by
  refine ct_ofI (cc := cX1_heard) (nL := 3) (own := RX1) (by decide) rfl rfl ⟨rfl, rfl⟩ (Nat.le_of_ble_eq_true rfl) XW_same (fun p e s m below meth c A Q F hR => ?_)
  refine g_aw ([(x 0, .inr (1, [.ref (bn 0), .ref (bt 0), .ref (x 1), .int (nI ac), .ref (x 2), .int kb, .ref (x 3), .int (nI ln), .ref (x 4), .ref (x 5), .int (nI se), .long sd, .ref (x 6)])), (x 1, .inl (cQ, 14, .inr (.inr (.inr (.inr pa))))), (x 2, .inl (cQ, 2, .inr (.inr (.inr (.inr sl))))), (x 3, .inl (cI, 60, .inl tx)), (x 4, .inl (cI, 6, .inl s1)), (x 5, .inl (cI, 6, .inl s2)), (x 6, .inl (cI, 64, .inl sb))] ++ (CR cI bn f ++ (CR cI bt g ++ (Z)))) rfl ?_
  refine g_iload_n F dX1_heard_0 rfl 1 rfl ?_
  refine g_callSn F (As := [.int v]) (st := []) (kX1_isMember l D cI cZ cQ v) (va_cwS 1 F.2.2.2.2.1 gX1_heard_X1_isMember rfl rfl rfl (by decide +kernel) ⟨Nat.le_of_ble_eq_true rfl, Nat.le_of_ble_eq_true rfl⟩) rfl rfl (Nat.le_of_ble_eq_true rfl) ⟨Nat.zero_le _, Nat.zero_le _⟩ dX1_heard_1 ?_
  refine g_beq F 14 dX1_heard_4 (by decide) (fun c1 => ?_) (fun c1 => ?_)
  · refine g_iconst F (v := (-1)) dX1_heard_14 (by decide) ?_
    exact g_endI (hR _ _ dX1_heard_15) rfl rfl
  · refine g_iload_n F dX1_heard_7 rfl 2 rfl ?_
    refine g_callSn F (As := [.int u]) (st := []) (kX1_isMember l D cI cZ cQ u) (va_cwS 1 F.2.2.2.2.1 gX1_heard_X1_isMember rfl rfl rfl (by decide +kernel) ⟨Nat.le_of_ble_eq_true rfl, Nat.le_of_ble_eq_true rfl⟩) rfl rfl (Nat.le_of_ble_eq_true rfl) ⟨Nat.zero_le _, Nat.zero_le _⟩ dX1_heard_8 ?_
    refine g_bne F 16 dX1_heard_11 (by decide) (fun c2 => ?_) (fun c2 => ?_)
    · exact absurd hb (by rw [c1, c2]; decide)
    · refine g_iconst F (v := (-1)) dX1_heard_14 (by decide) ?_
      exact g_endI (hR _ _ dX1_heard_15) rfl rfl
theorem zX1_heard_f10 : Cond.fieldLink RX1 10 (TX1 0).1 (TX1 0).2.1 (TX1 0).2.2.1 ∈ wsX1_heard := by decide +kernel
theorem zX1_heard_f118 : Cond.fieldLink RX1 118 (TX0 13).1 (TX0 13).2.1 (TX0 13).2.2.1 ∈ wsX1_heard := by decide +kernel
theorem zX1_heard_inX0 : ∀ w ∈ u_ws RX0 TX0 14, w ∈ wsX1_heard := by decide +kernel
theorem zX1_heard_inX1 : ∀ w ∈ u_ws RX1 TX1 13, w ∈ wsX1_heard := by decide +kernel
set_option maxHeartbeats 1000000 in
set_option maxRecDepth 100000 in
theorem kX1_heard_ok (l : Launch) (D : va_G) (cI cZ cQ : ClassId) (x bn bt : Nat → Nat) (pa sl : Nat → Option Nat) (ac : Nat) (kb : Int32) (tx : Row) (ln : Nat) (s1 s2 : Row) (se : Nat) (sd : Int64) (sb f g : Row) (Z : va_W) (k o : Nat) (hk : k < 6) (ho : o < 6) : Ct l D (gTy cI cZ cQ) yX1_heard wsX1_heard ({ frames := 3, cells := 0, slots := 0, locals := 70 }) [.ref (x 0), .int (nI k), .int (nI o)] (XW cI cQ x bn bt pa sl ac kb tx ln s1 s2 se sd sb f g Z) (some (.int (S_heard f k o))) (XW cI cQ x bn bt pa sl ac kb tx ln s1 s2 se sd sb f g Z) := by
  refine ct_ofI (cc := cX1_heard) (nL := 3) (own := RX1) (by decide) rfl rfl ⟨rfl, rfl⟩ (Nat.le_of_ble_eq_true rfl) XW_same (fun p e s m below meth c A Q F hR => ?_)
  refine g_aw ([(x 0, .inr (1, [.ref (bn 0), .ref (bt 0), .ref (x 1), .int (nI ac), .ref (x 2), .int kb, .ref (x 3), .int (nI ln), .ref (x 4), .ref (x 5), .int (nI se), .long sd, .ref (x 6)])), (x 1, .inl (cQ, 14, .inr (.inr (.inr (.inr pa))))), (x 2, .inl (cQ, 2, .inr (.inr (.inr (.inr sl))))), (x 3, .inl (cI, 60, .inl tx)), (x 4, .inl (cI, 6, .inl s1)), (x 5, .inl (cI, 6, .inl s2)), (x 6, .inl (cI, 64, .inl sb))] ++ (CR cI bn f ++ (CR cI bt g ++ (Z)))) rfl ?_
  refine g_iload_n F dX1_heard_0 rfl 1 rfl ?_
  refine g_callSn F (As := [.int (nI k)]) (st := []) (kX1_isMember l D cI cZ cQ (nI k)) (va_cwS 1 F.2.2.2.2.1 gX1_heard_X1_isMember rfl rfl rfl (by decide +kernel) ⟨Nat.le_of_ble_eq_true rfl, Nat.le_of_ble_eq_true rfl⟩) rfl rfl (Nat.le_of_ble_eq_true rfl) ⟨Nat.zero_le _, Nat.zero_le _⟩ dX1_heard_1 ?_
  refine g_beq F 14 dX1_heard_4 (by decide) (fun c1 => ?_) (fun c1 => ?_)
  · exact absurd c1 (by rw [mem_nI hk]; decide)
  · refine g_iload_n F dX1_heard_7 rfl 2 rfl ?_
    refine g_callSn F (As := [.int (nI o)]) (st := []) (kX1_isMember l D cI cZ cQ (nI o)) (va_cwS 1 F.2.2.2.2.1 gX1_heard_X1_isMember rfl rfl rfl (by decide +kernel) ⟨Nat.le_of_ble_eq_true rfl, Nat.le_of_ble_eq_true rfl⟩) rfl rfl (Nat.le_of_ble_eq_true rfl) ⟨Nat.zero_le _, Nat.zero_le _⟩ dX1_heard_8 ?_
    refine g_bne F 16 dX1_heard_11 (by decide) (fun c2 => ?_) (fun c2 => ?_)
    · refine g_aload_n F dX1_heard_16 rfl 0 rfl ?_
      refine g_get F (.ref (bn 0)) zX1_heard_inX1 0 rfl rfl 0 (by decide) rfl zX1_heard_f10 dX1_heard_17 ?_
      refine g_iload_n F dX1_heard_20 rfl 1 rfl ?_
      refine g_iload_n F dX1_heard_21 rfl 2 rfl ?_
      refine g_segV F (As := [.int (nI k), .int (nI o)]) (st := []) ([(x 0, .inr (1, [.ref (bn 0), .ref (bt 0), .ref (x 1), .int (nI ac), .ref (x 2), .int kb, .ref (x 3), .int (nI ln), .ref (x 4), .ref (x 5), .int (nI se), .long sd, .ref (x 6)])), (x 1, .inl (cQ, 14, .inr (.inr (.inr (.inr pa))))), (x 2, .inl (cQ, 2, .inr (.inr (.inr (.inr sl))))), (x 3, .inl (cI, 60, .inl tx)), (x 4, .inl (cI, 6, .inl s1)), (x 5, .inl (cI, 6, .inl s2)), (x 6, .inl (cI, 64, .inl sb))]) (CR cI bt g ++ (Z)) ([(x 0, .inr (1, [.ref (bn 0), .ref (bt 0), .ref (x 1), .int (nI ac), .ref (x 2), .int kb, .ref (x 3), .int (nI ln), .ref (x 4), .ref (x 5), .int (nI se), .long sd, .ref (x 6)])), (x 1, .inl (cQ, 14, .inr (.inr (.inr (.inr pa))))), (x 2, .inl (cQ, 2, .inr (.inr (.inr (.inr sl))))), (x 3, .inl (cI, 60, .inl tx)), (x 4, .inl (cI, 6, .inl s1)), (x 5, .inl (cI, 6, .inl s2)), (x 6, .inl (cI, 64, .inl sb))] ++ (CR cI bn f ++ (CR cI bt g ++ (Z)))) (kX0_knows l D cI cZ cQ bn f k o (by omega) (by omega)) 0 rfl rfl (cwV 2 F.2.2.2.2.1 gX1_heard_X0_knows rfl rfl rfl (by decide +kernel) ⟨Nat.le_of_ble_eq_true rfl, Nat.le_of_ble_eq_true rfl⟩) rfl rfl rfl rfl (Nat.le_of_ble_eq_true rfl) ⟨Nat.zero_le _, Nat.zero_le _⟩ dX1_heard_22 ?_
      refine g_beq F 45 dX1_heard_25 (by decide) (fun c3 => ?_) (fun c3 => ?_)
      · refine g_bipush F (v := (-9)) dX1_heard_45 (by decide) ?_
        exact g_endI (hR _ _ dX1_heard_47) (by first | (simp only [S_heard, c1, c2, c3, Bool.false_eq_true, ↓reduceIte]; done) | (with_reducible rfl) | (simp [S_heard, c1, c2, c3, Bool.false_eq_true, ↓reduceIte]; done)) rfl
      · refine g_aload_n F dX1_heard_28 rfl 0 rfl ?_
        refine g_get F (.ref (bn 0)) zX1_heard_inX1 0 rfl rfl 0 (by decide) rfl zX1_heard_f10 dX1_heard_29 ?_
        refine g_get F (.ref (bn 7)) zX1_heard_inX0 7 rfl rfl 13 (by decide) rfl zX1_heard_f118 dX1_heard_32 ?_
        refine g_iload_n F dX1_heard_35 rfl 1 rfl ?_
        refine g_bipush F (v := 6) dX1_heard_36 (by decide) ?_
        refine g_imul F dX1_heard_38 ?_
        refine g_as (nI (k * 6)) (pk_mul k 6) ?_
        refine g_iload_n F dX1_heard_39 rfl 2 rfl ?_
        refine g_iadd F dX1_heard_40 ?_
        refine g_as (nI (k * 6 + o)) (nI_add (k * 6) o) ?_
        refine g_iald F (j := k * 6 + o) 14 0 rfl rfl (by omega) (by decide) dX1_heard_41 ?_
        refine g_as (f (12 + (k * 6 + o))) rfl ?_
        refine g_as (f (12 + 6 * k + o)) heard_eq ?_
        refine g_goto F 47 dX1_heard_42 (by decide) ?_
        exact g_endI (hR _ _ dX1_heard_47) (by first | (simp only [S_heard, c1, c2, c3, Bool.false_eq_true, ↓reduceIte]; done) | (with_reducible rfl) | (simp [S_heard, c1, c2, c3, Bool.false_eq_true, ↓reduceIte]; done)) rfl
    · exact absurd c2 (by rw [mem_nI ho]; decide)
set_option maxHeartbeats 1000000 in
set_option maxRecDepth 100000 in
theorem kX1_way_bad (l : Launch) (D : va_G) (cI cZ cQ : ClassId) (x bn bt : Nat → Nat) (pa sl : Nat → Option Nat) (ac : Nat) (kb : Int32) (tx : Row) (ln : Nat) (s1 s2 : Row) (se : Nat) (sd : Int64) (sb f g : Row) (Z : va_W) (v u : Int32) (hb : S_mem v = false ∨ S_mem u = false) : Ct l D (gTy cI cZ cQ) yX1_way wsX1_way ({ frames := 3, cells := 0, slots := 0, locals := 70 }) [.ref (x 0), .int v, .int u] (XW cI cQ x bn bt pa sl ac kb tx ln s1 s2 se sd sb f g Z) (some (.int (-1))) (XW cI cQ x bn bt pa sl ac kb tx ln s1 s2 se sd sb f g Z) := by
  refine ct_ofI (cc := cX1_way) (nL := 3) (own := RX1) (by decide) rfl rfl ⟨rfl, rfl⟩ (Nat.le_of_ble_eq_true rfl) XW_same (fun p e s m below meth c A Q F hR => ?_)
  refine g_aw ([(x 0, .inr (1, [.ref (bn 0), .ref (bt 0), .ref (x 1), .int (nI ac), .ref (x 2), .int kb, .ref (x 3), .int (nI ln), .ref (x 4), .ref (x 5), .int (nI se), .long sd, .ref (x 6)])), (x 1, .inl (cQ, 14, .inr (.inr (.inr (.inr pa))))), (x 2, .inl (cQ, 2, .inr (.inr (.inr (.inr sl))))), (x 3, .inl (cI, 60, .inl tx)), (x 4, .inl (cI, 6, .inl s1)), (x 5, .inl (cI, 6, .inl s2)), (x 6, .inl (cI, 64, .inl sb))] ++ (CR cI bn f ++ (CR cI bt g ++ (Z)))) rfl ?_
  refine g_iload_n F dX1_way_0 rfl 1 rfl ?_
  refine g_callSn F (As := [.int v]) (st := []) (kX1_isMember l D cI cZ cQ v) (va_cwS 1 F.2.2.2.2.1 gX1_way_X1_isMember rfl rfl rfl (by decide +kernel) ⟨Nat.le_of_ble_eq_true rfl, Nat.le_of_ble_eq_true rfl⟩) rfl rfl (Nat.le_of_ble_eq_true rfl) ⟨Nat.zero_le _, Nat.zero_le _⟩ dX1_way_1 ?_
  refine g_beq F 14 dX1_way_4 (by decide) (fun c1 => ?_) (fun c1 => ?_)
  · refine g_iconst F (v := (-1)) dX1_way_14 (by decide) ?_
    exact g_endI (hR _ _ dX1_way_15) rfl rfl
  · refine g_iload_n F dX1_way_7 rfl 2 rfl ?_
    refine g_callSn F (As := [.int u]) (st := []) (kX1_isMember l D cI cZ cQ u) (va_cwS 1 F.2.2.2.2.1 gX1_way_X1_isMember rfl rfl rfl (by decide +kernel) ⟨Nat.le_of_ble_eq_true rfl, Nat.le_of_ble_eq_true rfl⟩) rfl rfl (Nat.le_of_ble_eq_true rfl) ⟨Nat.zero_le _, Nat.zero_le _⟩ dX1_way_8 ?_
    refine g_bne F 16 dX1_way_11 (by decide) (fun c2 => ?_) (fun c2 => ?_)
    · exact absurd hb (by rw [c1, c2]; decide)
    · refine g_iconst F (v := (-1)) dX1_way_14 (by decide) ?_
      exact g_endI (hR _ _ dX1_way_15) rfl rfl
set_option maxHeartbeats 1000000 in
set_option maxRecDepth 100000 in
theorem kX1_way_same (l : Launch) (D : va_G) (cI cZ cQ : ClassId) (x bn bt : Nat → Nat) (pa sl : Nat → Option Nat) (ac : Nat) (kb : Int32) (tx : Row) (ln : Nat) (s1 s2 : Row) (se : Nat) (sd : Int64) (sb f g : Row) (Z : va_W) (k : Nat) (hk : k < 6) : Ct l D (gTy cI cZ cQ) yX1_way wsX1_way ({ frames := 3, cells := 0, slots := 0, locals := 70 }) [.ref (x 0), .int (nI k), .int (nI k)] (XW cI cQ x bn bt pa sl ac kb tx ln s1 s2 se sd sb f g Z) (some (.int (-2))) (XW cI cQ x bn bt pa sl ac kb tx ln s1 s2 se sd sb f g Z) := by
  refine ct_ofI (cc := cX1_way) (nL := 3) (own := RX1) (by decide) rfl rfl ⟨rfl, rfl⟩ (Nat.le_of_ble_eq_true rfl) XW_same (fun p e s m below meth c A Q F hR => ?_)
  refine g_aw ([(x 0, .inr (1, [.ref (bn 0), .ref (bt 0), .ref (x 1), .int (nI ac), .ref (x 2), .int kb, .ref (x 3), .int (nI ln), .ref (x 4), .ref (x 5), .int (nI se), .long sd, .ref (x 6)])), (x 1, .inl (cQ, 14, .inr (.inr (.inr (.inr pa))))), (x 2, .inl (cQ, 2, .inr (.inr (.inr (.inr sl))))), (x 3, .inl (cI, 60, .inl tx)), (x 4, .inl (cI, 6, .inl s1)), (x 5, .inl (cI, 6, .inl s2)), (x 6, .inl (cI, 64, .inl sb))] ++ (CR cI bn f ++ (CR cI bt g ++ (Z)))) rfl ?_
  refine g_iload_n F dX1_way_0 rfl 1 rfl ?_
  refine g_callSn F (As := [.int (nI k)]) (st := []) (kX1_isMember l D cI cZ cQ (nI k)) (va_cwS 1 F.2.2.2.2.1 gX1_way_X1_isMember rfl rfl rfl (by decide +kernel) ⟨Nat.le_of_ble_eq_true rfl, Nat.le_of_ble_eq_true rfl⟩) rfl rfl (Nat.le_of_ble_eq_true rfl) ⟨Nat.zero_le _, Nat.zero_le _⟩ dX1_way_1 ?_
  refine g_beq F 14 dX1_way_4 (by decide) (fun c1 => ?_) (fun c1 => ?_)
  · exact absurd c1 (by rw [mem_nI hk]; decide)
  · refine g_iload_n F dX1_way_7 rfl 2 rfl ?_
    refine g_callSn F (As := [.int (nI k)]) (st := []) (kX1_isMember l D cI cZ cQ (nI k)) (va_cwS 1 F.2.2.2.2.1 gX1_way_X1_isMember rfl rfl rfl (by decide +kernel) ⟨Nat.le_of_ble_eq_true rfl, Nat.le_of_ble_eq_true rfl⟩) rfl rfl (Nat.le_of_ble_eq_true rfl) ⟨Nat.zero_le _, Nat.zero_le _⟩ dX1_way_8 ?_
    refine g_bne F 16 dX1_way_11 (by decide) (fun c2 => ?_) (fun c2 => ?_)
    · refine g_iload_n F dX1_way_16 rfl 1 rfl ?_
      refine g_iload_n F dX1_way_17 rfl 2 rfl ?_
      refine g_icmp_ne F 24 dX1_way_18 (by decide) (fun c3 => ?_) (fun c3 => ?_)
      · exact absurd rfl c3
      · refine g_bipush F (v := (-2)) dX1_way_21 (by decide) ?_
        exact g_endI (hR _ _ dX1_way_23) rfl rfl
    · exact absurd c2 (by rw [mem_nI hk]; decide)
theorem zX1_way_f10 : Cond.fieldLink RX1 10 (TX1 0).1 (TX1 0).2.1 (TX1 0).2.2.1 ∈ wsX1_way := by decide +kernel
theorem zX1_way_inX1 : ∀ w ∈ u_ws RX1 TX1 13, w ∈ wsX1_way := by decide +kernel
set_option maxHeartbeats 1000000 in
set_option maxRecDepth 100000 in
theorem kX1_way_ok (l : Launch) (D : va_G) (cI cZ cQ : ClassId) (x bn bt : Nat → Nat) (pa sl : Nat → Option Nat) (ac : Nat) (kb : Int32) (tx : Row) (ln : Nat) (s1 s2 : Row) (se : Nat) (sd : Int64) (sb f g : Row) (Z : va_W) (k o : Nat) (hk : k < 6) (ho : o < 6) (hko : ¬ k = o) : Ct l D (gTy cI cZ cQ) yX1_way wsX1_way ({ frames := 3, cells := 0, slots := 0, locals := 70 }) [.ref (x 0), .int (nI k), .int (nI o)] (XW cI cQ x bn bt pa sl ac kb tx ln s1 s2 se sd sb f g Z) (some (.int (S_way f k o))) (XW cI cQ x bn bt pa sl ac kb tx ln s1 s2 se sd sb f g Z) := by
  refine ct_ofI (cc := cX1_way) (nL := 3) (own := RX1) (by decide) rfl rfl ⟨rfl, rfl⟩ (Nat.le_of_ble_eq_true rfl) XW_same (fun p e s m below meth c A Q F hR => ?_)
  refine g_aw ([(x 0, .inr (1, [.ref (bn 0), .ref (bt 0), .ref (x 1), .int (nI ac), .ref (x 2), .int kb, .ref (x 3), .int (nI ln), .ref (x 4), .ref (x 5), .int (nI se), .long sd, .ref (x 6)])), (x 1, .inl (cQ, 14, .inr (.inr (.inr (.inr pa))))), (x 2, .inl (cQ, 2, .inr (.inr (.inr (.inr sl))))), (x 3, .inl (cI, 60, .inl tx)), (x 4, .inl (cI, 6, .inl s1)), (x 5, .inl (cI, 6, .inl s2)), (x 6, .inl (cI, 64, .inl sb))] ++ (CR cI bn f ++ (CR cI bt g ++ (Z)))) rfl ?_
  refine g_iload_n F dX1_way_0 rfl 1 rfl ?_
  refine g_callSn F (As := [.int (nI k)]) (st := []) (kX1_isMember l D cI cZ cQ (nI k)) (va_cwS 1 F.2.2.2.2.1 gX1_way_X1_isMember rfl rfl rfl (by decide +kernel) ⟨Nat.le_of_ble_eq_true rfl, Nat.le_of_ble_eq_true rfl⟩) rfl rfl (Nat.le_of_ble_eq_true rfl) ⟨Nat.zero_le _, Nat.zero_le _⟩ dX1_way_1 ?_
  refine g_beq F 14 dX1_way_4 (by decide) (fun c1 => ?_) (fun c1 => ?_)
  · exact absurd c1 (by rw [mem_nI hk]; decide)
  · refine g_iload_n F dX1_way_7 rfl 2 rfl ?_
    refine g_callSn F (As := [.int (nI o)]) (st := []) (kX1_isMember l D cI cZ cQ (nI o)) (va_cwS 1 F.2.2.2.2.1 gX1_way_X1_isMember rfl rfl rfl (by decide +kernel) ⟨Nat.le_of_ble_eq_true rfl, Nat.le_of_ble_eq_true rfl⟩) rfl rfl (Nat.le_of_ble_eq_true rfl) ⟨Nat.zero_le _, Nat.zero_le _⟩ dX1_way_8 ?_
    refine g_bne F 16 dX1_way_11 (by decide) (fun c2 => ?_) (fun c2 => ?_)
    · refine g_iload_n F dX1_way_16 rfl 1 rfl ?_
      refine g_iload_n F dX1_way_17 rfl 2 rfl ?_
      refine g_icmp_ne F 24 dX1_way_18 (by decide) (fun c3 => ?_) (fun c3 => ?_)
      · refine g_aload_n F dX1_way_24 rfl 0 rfl ?_
        refine g_get F (.ref (bn 0)) zX1_way_inX1 0 rfl rfl 0 (by decide) rfl zX1_way_f10 dX1_way_25 ?_
        refine g_iload_n F dX1_way_28 rfl 1 rfl ?_
        refine g_iload_n F dX1_way_29 rfl 2 rfl ?_
        refine g_segV F (As := [.int (nI k), .int (nI o)]) (st := []) ([(x 0, .inr (1, [.ref (bn 0), .ref (bt 0), .ref (x 1), .int (nI ac), .ref (x 2), .int kb, .ref (x 3), .int (nI ln), .ref (x 4), .ref (x 5), .int (nI se), .long sd, .ref (x 6)])), (x 1, .inl (cQ, 14, .inr (.inr (.inr (.inr pa))))), (x 2, .inl (cQ, 2, .inr (.inr (.inr (.inr sl))))), (x 3, .inl (cI, 60, .inl tx)), (x 4, .inl (cI, 6, .inl s1)), (x 5, .inl (cI, 6, .inl s2)), (x 6, .inl (cI, 64, .inl sb))]) (CR cI bt g ++ (Z)) ([(x 0, .inr (1, [.ref (bn 0), .ref (bt 0), .ref (x 1), .int (nI ac), .ref (x 2), .int kb, .ref (x 3), .int (nI ln), .ref (x 4), .ref (x 5), .int (nI se), .long sd, .ref (x 6)])), (x 1, .inl (cQ, 14, .inr (.inr (.inr (.inr pa))))), (x 2, .inl (cQ, 2, .inr (.inr (.inr (.inr sl))))), (x 3, .inl (cI, 60, .inl tx)), (x 4, .inl (cI, 6, .inl s1)), (x 5, .inl (cI, 6, .inl s2)), (x 6, .inl (cI, 64, .inl sb))] ++ (CR cI bn f ++ (CR cI bt g ++ (Z)))) (kX0_isOpen l D cI cZ cQ bn f k o (by omega) (by omega)) 0 rfl rfl (cwV 2 F.2.2.2.2.1 gX1_way_X0_isOpen rfl rfl rfl (by decide +kernel) ⟨Nat.le_of_ble_eq_true rfl, Nat.le_of_ble_eq_true rfl⟩) rfl rfl rfl rfl (Nat.le_of_ble_eq_true rfl) ⟨Nat.zero_le _, Nat.zero_le _⟩ dX1_way_30 ?_
        refine g_beq F 40 dX1_way_33 (by decide) (fun c4 => ?_) (fun c4 => ?_)
        · refine g_iconst F (v := 0) dX1_way_40 (by decide) ?_
          exact g_endI (hR _ _ dX1_way_41) (by unfold S_way; simp_all) rfl
        · refine g_iconst F (v := 1) dX1_way_36 (by decide) ?_
          refine g_goto F 41 dX1_way_37 (by decide) ?_
          exact g_endI (hR _ _ dX1_way_41) (by unfold S_way; simp_all) rfl
      · exact absurd ((nI_eq (by omega) (by omega)).mp c3) hko
    · exact absurd c2 (by rw [mem_nI ho]; decide)
