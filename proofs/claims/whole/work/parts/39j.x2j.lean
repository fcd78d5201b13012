theorem zX2_judged_c147 : Cond.constantLong RX2 147 (30) ∈ wsX2_judged := by decide +kernel
theorem zX2_judged_f16 : Cond.fieldLink RX2 16 (TX2 3).1 (TX2 3).2.1 (TX2 3).2.2.1 ∈ wsX2_judged := by decide +kernel
theorem zX2_judged_inX2 : ∀ w ∈ u_ws RX2 TX2 15, w ∈ wsX2_judged := by decide +kernel
set_option maxHeartbeats 1000000 in
set_option maxRecDepth 100000 in
theorem kX2_judged (l : Launch) (D : va_G) (cI cZ cQ : ClassId) (a : Nat → Nat) (tx : Row) (ln : Nat) (nw tr di : Row) (ac nx : Nat) (ke ik s1 s2 : Row) (se : Nat) (sd : Int64) (wo re : Row) (h x y : Nat) (hh : h < 100) (hx : x < 100) (hy : y < 100) (hzt : Z67 tr) : Ct l D (gTy cI cZ cQ) yX2_judged wsX2_judged ({ frames := 6, cells := 0, slots := 0, locals := 190 }) [.ref (a 0), .int (nI h), .int (nI x), .int (nI y)] (MW cI cZ a tx ln nw tr di ac nx ke ik s1 s2 se sd wo re) (some (.int (bI ((S_jd tr h x y).1)))) (MW cI cZ a tx ln nw ((S_jd tr h x y).2) di ac nx ke ik s1 s2 se sd wo re) := by
  refine ct_ofZ (cc := cX2_judged) (nL := 6) (own := RX2) (by decide) rfl rfl ⟨rfl, rfl⟩ (Nat.le_of_ble_eq_true rfl) MW_same (by first | rfl | exact bI_nar _) (fun p e s m below meth c A Q F hR => ?_)
  refine g_aw ([(a 0, .inr (2, [.ref (a 1), .int (nI ln), .ref (a 2), .ref (a 3), .ref (a 4), .int (nI ac), .int (nI nx), .ref (a 5), .ref (a 6), .ref (a 7), .ref (a 8), .int (nI se), .long sd, .ref (a 9), .ref (a 10)])), (a 1, .inl (cI, 60, .inl tx)), (a 2, .inl (cI, 79, .inl nw)), (a 3, .inl (cI, 79, .inl tr)), (a 4, .inl (cI, 1106, .inl di)), (a 5, .inl (cI, 158, .inl ke)), (a 6, .inl (cZ, 2, .inl ik)), (a 7, .inl (cI, 6, .inl s1)), (a 8, .inl (cI, 6, .inl s2)), (a 9, .inl (cI, 64, .inl wo)), (a 10, .inl (cI, 79, .inl re))]) rfl ?_
  refine g_iload_n F dX2_judged_0 rfl 2 rfl ?_
  have hJ2 : Go p l e ({ frames := 6, cells := 0, slots := 0, locals := 190 }) s m (List.toArray [.ref (a 0), .int (nI h), .int (nI x), .int (nI y)]) below meth c Q D A 6 0 0 ([(a 0, .inr (2, [.ref (a 1), .int (nI ln), .ref (a 2), .ref (a 3), .ref (a 4), .int (nI ac), .int (nI nx), .ref (a 5), .ref (a 6), .ref (a 7), .ref (a 8), .int (nI se), .long sd, .ref (a 9), .ref (a 10)])), (a 1, .inl (cI, 60, .inl tx)), (a 2, .inl (cI, 79, .inl nw)), (a 3, .inl (cI, 79, .inl tr)), (a 4, .inl (cI, 1106, .inl di)), (a 5, .inl (cI, 158, .inl ke)), (a 6, .inl (cZ, 2, .inl ik)), (a 7, .inl (cI, 6, .inl s1)), (a 8, .inl (cI, 6, .inl s2)), (a 9, .inl (cI, 64, .inl wo)), (a 10, .inl (cI, 79, .inl re))]) 16 [(0, .ref (a 0)), (1, .int (nI h)), (2, .int (nI x)), (3, .int (nI y))] [.int (bI (S_plain x y))] := by
    refine g_istore F (lv' := [(0, .ref (a 0)), (1, .int (nI h)), (2, .int (nI x)), (3, .int (nI y)), (4, .int (bI (S_plain x y)))]) dX2_judged_16 (by decide) [1, 2, 3, 4, 0] rfl ?_
    refine g_iload_n F dX2_judged_18 rfl 2 rfl ?_
    refine g_callSn F (As := [.int (nI x)]) (st := []) (kX2_isMember l D cI cZ cQ (nI x)) (va_cwS 1 F.2.2.2.2.1 gX2_judged_X2_isMember rfl rfl rfl (by decide +kernel) ⟨Nat.le_of_ble_eq_true rfl, Nat.le_of_ble_eq_true rfl⟩) rfl rfl (Nat.le_of_ble_eq_true rfl) ⟨Nat.zero_le _, Nat.zero_le _⟩ dX2_judged_19 ?_
    have hJ4 : Go p l e ({ frames := 6, cells := 0, slots := 0, locals := 190 }) s m (List.toArray [.ref (a 0), .int (nI h), .int (nI x), .int (nI y)]) below meth c Q D A 6 0 0 ([(a 0, .inr (2, [.ref (a 1), .int (nI ln), .ref (a 2), .ref (a 3), .ref (a 4), .int (nI ac), .int (nI nx), .ref (a 5), .ref (a 6), .ref (a 7), .ref (a 8), .int (nI se), .long sd, .ref (a 9), .ref (a 10)])), (a 1, .inl (cI, 60, .inl tx)), (a 2, .inl (cI, 79, .inl nw)), (a 3, .inl (cI, 79, .inl tr)), (a 4, .inl (cI, 1106, .inl di)), (a 5, .inl (cI, 158, .inl ke)), (a 6, .inl (cZ, 2, .inl ik)), (a 7, .inl (cI, 6, .inl s1)), (a 8, .inl (cI, 6, .inl s2)), (a 9, .inl (cI, 64, .inl wo)), (a 10, .inl (cI, 79, .inl re))]) 42 [(0, .ref (a 0)), (1, .int (nI h)), (2, .int (nI x)), (3, .int (nI y)), (4, .int (bI (S_plain x y)))] [.int (bI (S_two x y))] := by
      refine g_istore F (lv' := [(0, .ref (a 0)), (1, .int (nI h)), (2, .int (nI x)), (3, .int (nI y)), (4, .int (bI (S_plain x y))), (5, .int (bI (S_two x y)))]) dX2_judged_42 (by decide) [1, 2, 3, 4, 5, 0] rfl ?_
      refine g_iload_n F dX2_judged_44 rfl 1 rfl ?_
      rcases tb_cases (nI h) 1 7 (by decide) with c5 | ⟨n_c5, hn_c5, c5⟩
      · refine g_tableOut F 280 dX2_judged_45 (by omega) (by decide) ?_
        refine g_iconst F (v := 0) dX2_judged_280 (by decide) ?_
        exact g_endI (hR _ _ dX2_judged_281) (by rw [jd_o (by omega) c5]; rfl) (by rw [jd_o (by omega) c5]; rfl)
      · match n_c5, hn_c5, c5 with
        | 0, _, c5 =>
          have hh_c5 : h = 1 := jd_h (by omega) c5
          refine g_tableIn F 88 dX2_judged_45 (by rw [c5]; decide) (by rw [c5]; decide) (by rw [c5]; rfl) (by decide) ?_
          refine g_iload F dX2_judged_88 4 rfl ?_
          refine g_beq F 102 dX2_judged_90 (by decide) (fun c6 => ?_) (fun c6 => ?_)
          · refine g_iconst F (v := 0) dX2_judged_102 (by decide) ?_
            exact g_endI (hR _ _ dX2_judged_103) (by unfold S_jd; subst hh_c5; rw [if_pos rfl, if_neg (by rw [c6]; decide)]; rfl) (by unfold S_jd; subst hh_c5; rw [if_pos rfl, if_neg (by rw [c6]; decide)]; rfl)
          · have hy6 := plain_lt (by omega) c6
            refine g_aload_n F dX2_judged_93 rfl 0 rfl ?_
            refine g_get F (.ref (a 3)) zX2_judged_inX2 0 rfl rfl 3 (by decide) rfl zX2_judged_f16 dX2_judged_94 ?_
            refine g_iload_n F dX2_judged_97 rfl 3 rfl ?_
            refine g_iald F (j := y) 3 0 rfl rfl (by omega) (by decide) dX2_judged_98 ?_
            refine g_if_eq F 104 dX2_judged_99 (by decide) (fun c7 => ?_) (fun c7 => ?_)
            · refine g_aload_n F dX2_judged_104 rfl 0 rfl ?_
              refine g_get F (.ref (a 3)) zX2_judged_inX2 0 rfl rfl 3 (by decide) rfl zX2_judged_f16 dX2_judged_105 ?_
              refine g_iload_n F dX2_judged_108 rfl 3 rfl ?_
              refine g_callS F (As := [.ref (a 3), .int (nI y)]) (st := []) ([(a 0, .inr (2, [.ref (a 1), .int (nI ln), .ref (a 2), .ref (a 3), .ref (a 4), .int (nI ac), .int (nI nx), .ref (a 5), .ref (a 6), .ref (a 7), .ref (a 8), .int (nI se), .long sd, .ref (a 9), .ref (a 10)])), (a 1, .inl (cI, 60, .inl tx)), (a 2, .inl (cI, 79, .inl nw)), (a 4, .inl (cI, 1106, .inl di)), (a 5, .inl (cI, 158, .inl ke)), (a 6, .inl (cZ, 2, .inl ik)), (a 7, .inl (cI, 6, .inl s1)), (a 8, .inl (cI, 6, .inl s2)), (a 9, .inl (cI, 64, .inl wo)), (a 10, .inl (cI, 79, .inl re))]) ([(a 0, .inr (2, [.ref (a 1), .int (nI ln), .ref (a 2), .ref (a 3), .ref (a 4), .int (nI ac), .int (nI nx), .ref (a 5), .ref (a 6), .ref (a 7), .ref (a 8), .int (nI se), .long sd, .ref (a 9), .ref (a 10)])), (a 1, .inl (cI, 60, .inl tx)), (a 2, .inl (cI, 79, .inl nw)), (a 3, .inl (cI, 79, .inl (S_joins tr y))), (a 4, .inl (cI, 1106, .inl di)), (a 5, .inl (cI, 158, .inl ke)), (a 6, .inl (cZ, 2, .inl ik)), (a 7, .inl (cI, 6, .inl s1)), (a 8, .inl (cI, 6, .inl s2)), (a 9, .inl (cI, 64, .inl wo)), (a 10, .inl (cI, 79, .inl re))]) [3] [0, 1, 2, 4, 5, 6, 7, 8, 9, 10] [0, 1, 2, 10, 3, 4, 5, 6, 7, 8, 9] (kX2_joins l D cI cZ cQ (a 3) tr y (by omega) hzt) (va_cwS 2 F.2.2.2.2.1 gX2_judged_X2_joins rfl rfl rfl (by decide +kernel) ⟨Nat.le_of_ble_eq_true rfl, Nat.le_of_ble_eq_true rfl⟩) rfl rfl rfl rfl (by decide) (by decide) (by decide) rfl (by decide) (Nat.le_of_ble_eq_true rfl) ⟨Nat.zero_le _, Nat.zero_le _⟩ dX2_judged_109 ?_
              refine g_iconst F (v := 1) dX2_judged_112 (by decide) ?_
              exact g_endI (hR _ _ dX2_judged_113) (by unfold S_jd; subst hh_c5; rw [if_pos rfl, if_pos c6, if_pos c7]; rfl) (by unfold S_jd; subst hh_c5; rw [if_pos rfl, if_pos c6, if_pos c7]; rfl)
            · refine g_iconst F (v := 0) dX2_judged_102 (by decide) ?_
              exact g_endI (hR _ _ dX2_judged_103) (by unfold S_jd; subst hh_c5; rw [if_pos rfl, if_pos c6, if_neg c7]; rfl) (by unfold S_jd; subst hh_c5; rw [if_pos rfl, if_pos c6, if_neg c7]; rfl)
        | 1, _, c5 =>
          have hh_c5 : h = 2 := jd_h (by omega) c5
          refine g_tableIn F 114 dX2_judged_45 (by rw [c5]; decide) (by rw [c5]; decide) (by rw [c5]; rfl) (by decide) ?_
          refine g_iload F dX2_judged_114 4 rfl ?_
          refine g_beq F 129 dX2_judged_116 (by decide) (fun c8 => ?_) (fun c8 => ?_)
          · refine g_iconst F (v := 0) dX2_judged_129 (by decide) ?_
            exact g_endI (hR _ _ dX2_judged_130) (by unfold S_jd; subst hh_c5; rw [if_neg (by decide), if_pos rfl, if_neg (by rw [c8]; decide)]; rfl) (by unfold S_jd; subst hh_c5; rw [if_neg (by decide), if_pos rfl, if_neg (by rw [c8]; decide)]; rfl)
          · have hy6 := plain_lt (by omega) c8
            refine g_aload_n F dX2_judged_119 rfl 0 rfl ?_
            refine g_get F (.ref (a 3)) zX2_judged_inX2 0 rfl rfl 3 (by decide) rfl zX2_judged_f16 dX2_judged_120 ?_
            refine g_iload_n F dX2_judged_123 rfl 3 rfl ?_
            refine g_iald F (j := y) 3 0 rfl rfl (by omega) (by decide) dX2_judged_124 ?_
            refine g_iconst F (v := 1) dX2_judged_125 (by decide) ?_
            refine g_icmp_eq F 131 dX2_judged_126 (by decide) (fun c9 => ?_) (fun c9 => ?_)
            · refine g_aload_n F dX2_judged_131 rfl 0 rfl ?_
              refine g_get F (.ref (a 3)) zX2_judged_inX2 0 rfl rfl 3 (by decide) rfl zX2_judged_f16 dX2_judged_132 ?_
              refine g_iload_n F dX2_judged_135 rfl 3 rfl ?_
              refine g_callS F (As := [.ref (a 3), .int (nI y)]) (st := []) ([(a 0, .inr (2, [.ref (a 1), .int (nI ln), .ref (a 2), .ref (a 3), .ref (a 4), .int (nI ac), .int (nI nx), .ref (a 5), .ref (a 6), .ref (a 7), .ref (a 8), .int (nI se), .long sd, .ref (a 9), .ref (a 10)])), (a 1, .inl (cI, 60, .inl tx)), (a 2, .inl (cI, 79, .inl nw)), (a 4, .inl (cI, 1106, .inl di)), (a 5, .inl (cI, 158, .inl ke)), (a 6, .inl (cZ, 2, .inl ik)), (a 7, .inl (cI, 6, .inl s1)), (a 8, .inl (cI, 6, .inl s2)), (a 9, .inl (cI, 64, .inl wo)), (a 10, .inl (cI, 79, .inl re))]) ([(a 0, .inr (2, [.ref (a 1), .int (nI ln), .ref (a 2), .ref (a 3), .ref (a 4), .int (nI ac), .int (nI nx), .ref (a 5), .ref (a 6), .ref (a 7), .ref (a 8), .int (nI se), .long sd, .ref (a 9), .ref (a 10)])), (a 1, .inl (cI, 60, .inl tx)), (a 2, .inl (cI, 79, .inl nw)), (a 3, .inl (cI, 79, .inl (S_leaves tr y))), (a 4, .inl (cI, 1106, .inl di)), (a 5, .inl (cI, 158, .inl ke)), (a 6, .inl (cZ, 2, .inl ik)), (a 7, .inl (cI, 6, .inl s1)), (a 8, .inl (cI, 6, .inl s2)), (a 9, .inl (cI, 64, .inl wo)), (a 10, .inl (cI, 79, .inl re))]) [3] [0, 1, 2, 4, 5, 6, 7, 8, 9, 10] [0, 1, 2, 10, 3, 4, 5, 6, 7, 8, 9] (kX2_leaves l D cI cZ cQ (a 3) tr y (by omega) hzt) (va_cwS 2 F.2.2.2.2.1 gX2_judged_X2_leaves rfl rfl rfl (by decide +kernel) ⟨Nat.le_of_ble_eq_true rfl, Nat.le_of_ble_eq_true rfl⟩) rfl rfl rfl rfl (by decide) (by decide) (by decide) rfl (by decide) (Nat.le_of_ble_eq_true rfl) ⟨Nat.zero_le _, Nat.zero_le _⟩ dX2_judged_136 ?_
              refine g_iconst F (v := 1) dX2_judged_139 (by decide) ?_
              exact g_endI (hR _ _ dX2_judged_140) (by unfold S_jd; subst hh_c5; rw [if_neg (by decide), if_pos rfl, if_pos c8, if_pos c9]; rfl) (by unfold S_jd; subst hh_c5; rw [if_neg (by decide), if_pos rfl, if_pos c8, if_pos c9]; rfl)
            · refine g_iconst F (v := 0) dX2_judged_129 (by decide) ?_
              exact g_endI (hR _ _ dX2_judged_130) (by unfold S_jd; subst hh_c5; rw [if_neg (by decide), if_pos rfl, if_pos c8, if_neg c9]; rfl) (by unfold S_jd; subst hh_c5; rw [if_neg (by decide), if_pos rfl, if_pos c8, if_neg c9]; rfl)
        | 2, _, c5 =>
          have hh_c5 : h = 3 := jd_h (by omega) c5
          refine g_tableIn F 141 dX2_judged_45 (by rw [c5]; decide) (by rw [c5]; decide) (by rw [c5]; rfl) (by decide) ?_
          refine g_bipush F (v := 10) dX2_judged_141 (by decide) ?_
          refine g_iload_n F dX2_judged_143 rfl 2 rfl ?_
          refine g_imul F dX2_judged_144 ?_
          refine g_as (nI (10 * x)) (pk_mul 10 x) ?_
          refine g_iload_n F dX2_judged_145 rfl 3 rfl ?_
          refine g_iadd F dX2_judged_146 ?_
          refine g_as (nI (10 * x + y)) (nI_add (10 * x) y) ?_
          refine g_i2l F dX2_judged_147 ?_
          refine g_lconst F (v := 1) dX2_judged_148 (by decide) ?_
          refine g_ldc2 F zX2_judged_c147 dX2_judged_149 ?_
          refine g_callSn F (As := [.long (Int32.toInt64 (nI (10 * x + y))), .long 1, .long 30]) (st := []) (kX2_in l D cI cZ cQ (Int32.toInt64 (nI (10 * x + y))) 1 30) (va_cwS 3 F.2.2.2.2.1 gX2_judged_X2_in rfl rfl rfl (by decide +kernel) ⟨Nat.le_of_ble_eq_true rfl, Nat.le_of_ble_eq_true rfl⟩) rfl rfl (Nat.le_of_ble_eq_true rfl) ⟨Nat.zero_le _, Nat.zero_le _⟩ dX2_judged_152 ?_
          refine g_bne F 160 dX2_judged_155 (by decide) (fun c10 => ?_) (fun c10 => ?_)
          · refine g_aload_n F dX2_judged_160 rfl 0 rfl ?_
            refine g_get F (.ref (a 3)) zX2_judged_inX2 0 rfl rfl 3 (by decide) rfl zX2_judged_f16 dX2_judged_161 ?_
            refine g_bipush F (v := 10) dX2_judged_164 (by decide) ?_
            refine g_iload_n F dX2_judged_166 rfl 2 rfl ?_
            refine g_imul F dX2_judged_167 ?_
            refine g_as (nI (10 * x)) (pk_mul 10 x) ?_
            refine g_iload_n F dX2_judged_168 rfl 3 rfl ?_
            refine g_iadd F dX2_judged_169 ?_
            refine g_as (nI (10 * x + y)) (nI_add (10 * x) y) ?_
            refine g_callS F (As := [.ref (a 3), .int (nI (10 * x + y))]) (st := []) ([(a 0, .inr (2, [.ref (a 1), .int (nI ln), .ref (a 2), .ref (a 3), .ref (a 4), .int (nI ac), .int (nI nx), .ref (a 5), .ref (a 6), .ref (a 7), .ref (a 8), .int (nI se), .long sd, .ref (a 9), .ref (a 10)])), (a 1, .inl (cI, 60, .inl tx)), (a 2, .inl (cI, 79, .inl nw)), (a 4, .inl (cI, 1106, .inl di)), (a 5, .inl (cI, 158, .inl ke)), (a 6, .inl (cZ, 2, .inl ik)), (a 7, .inl (cI, 6, .inl s1)), (a 8, .inl (cI, 6, .inl s2)), (a 9, .inl (cI, 64, .inl wo)), (a 10, .inl (cI, 79, .inl re))]) ([(a 0, .inr (2, [.ref (a 1), .int (nI ln), .ref (a 2), .ref (a 3), .ref (a 4), .int (nI ac), .int (nI nx), .ref (a 5), .ref (a 6), .ref (a 7), .ref (a 8), .int (nI se), .long sd, .ref (a 9), .ref (a 10)])), (a 1, .inl (cI, 60, .inl tx)), (a 2, .inl (cI, 79, .inl nw)), (a 3, .inl (cI, 79, .inl (S_ticks tr (10 * x + y)))), (a 4, .inl (cI, 1106, .inl di)), (a 5, .inl (cI, 158, .inl ke)), (a 6, .inl (cZ, 2, .inl ik)), (a 7, .inl (cI, 6, .inl s1)), (a 8, .inl (cI, 6, .inl s2)), (a 9, .inl (cI, 64, .inl wo)), (a 10, .inl (cI, 79, .inl re))]) [3] [0, 1, 2, 4, 5, 6, 7, 8, 9, 10] [0, 1, 2, 10, 3, 4, 5, 6, 7, 8, 9] (kX2_passOn l D cI cZ cQ (a 3) tr (10 * x + y) (by omega) hzt) (va_cwS 2 F.2.2.2.2.1 gX2_judged_X2_passOn rfl rfl rfl (by decide +kernel) ⟨Nat.le_of_ble_eq_true rfl, Nat.le_of_ble_eq_true rfl⟩) rfl rfl rfl rfl (by decide) (by decide) (by decide) rfl (by decide) (Nat.le_of_ble_eq_true rfl) ⟨Nat.zero_le _, Nat.zero_le _⟩ dX2_judged_170 ?_
            refine g_if_lt F 180 dX2_judged_173 (by decide) (fun c11 => ?_) (fun c11 => ?_)
            · refine g_iconst F (v := 0) dX2_judged_180 (by decide) ?_
              exact g_endI (hR _ _ dX2_judged_181) (by unfold S_jd; subst hh_c5; rw [if_neg (by decide), if_neg (by decide), if_pos rfl, if_pos c10, if_pos c11]; rfl) (by unfold S_jd; subst hh_c5; rw [if_neg (by decide), if_neg (by decide), if_pos rfl, if_pos c10, if_pos c11]; rfl)
            · refine g_iconst F (v := 1) dX2_judged_176 (by decide) ?_
              refine g_goto F 181 dX2_judged_177 (by decide) ?_
              exact g_endI (hR _ _ dX2_judged_181) (by unfold S_jd; subst hh_c5; rw [if_neg (by decide), if_neg (by decide), if_pos rfl, if_pos c10, if_neg c11]; rfl) (by unfold S_jd; subst hh_c5; rw [if_neg (by decide), if_neg (by decide), if_pos rfl, if_pos c10, if_neg c11]; rfl)
          · refine g_iconst F (v := 0) dX2_judged_158 (by decide) ?_
            exact g_endI (hR _ _ dX2_judged_159) (by unfold S_jd; subst hh_c5; rw [if_neg (by decide), if_neg (by decide), if_pos rfl, if_neg (by rw [c10]; decide)]; rfl) (by unfold S_jd; subst hh_c5; rw [if_neg (by decide), if_neg (by decide), if_pos rfl, if_neg (by rw [c10]; decide)]; rfl)
        | 3, _, c5 =>
          have hh_c5 : h = 4 := jd_h (by omega) c5
          refine g_tableIn F 182 dX2_judged_45 (by rw [c5]; decide) (by rw [c5]; decide) (by rw [c5]; rfl) (by decide) ?_
          refine g_iload_n F dX2_judged_182 rfl 2 rfl ?_
          refine g_callSn F (As := [.int (nI x)]) (st := []) (kX2_isMember l D cI cZ cQ (nI x)) (va_cwS 1 F.2.2.2.2.1 gX2_judged_X2_isMember rfl rfl rfl (by decide +kernel) ⟨Nat.le_of_ble_eq_true rfl, Nat.le_of_ble_eq_true rfl⟩) rfl rfl (Nat.le_of_ble_eq_true rfl) ⟨Nat.zero_le _, Nat.zero_le _⟩ dX2_judged_183 ?_
          refine g_beq F 203 dX2_judged_186 (by decide) (fun c12 => ?_) (fun c12 => ?_)
          · refine g_iconst F (v := 0) dX2_judged_203 (by decide) ?_
            exact g_endI (hR _ _ dX2_judged_204) (by unfold S_jd; subst hh_c5; rw [if_neg (by decide), if_neg (by decide), if_neg (by decide), if_pos rfl, if_neg (by rw [c12]; decide)]; rfl) (by unfold S_jd; subst hh_c5; rw [if_neg (by decide), if_neg (by decide), if_neg (by decide), if_pos rfl, if_neg (by rw [c12]; decide)]; rfl)
          · have hx6 := isM_lt (by omega) c12
            refine g_aload_n F dX2_judged_189 rfl 0 rfl ?_
            refine g_get F (.ref (a 3)) zX2_judged_inX2 0 rfl rfl 3 (by decide) rfl zX2_judged_f16 dX2_judged_190 ?_
            refine g_iload_n F dX2_judged_193 rfl 2 rfl ?_
            refine g_iald F (j := x) 3 0 rfl rfl (by omega) (by decide) dX2_judged_194 ?_
            refine g_iload_n F dX2_judged_195 rfl 3 rfl ?_
            refine g_icmp_ne F 203 dX2_judged_196 (by decide) (fun c13 => ?_) (fun c13 => ?_)
            · refine g_iconst F (v := 0) dX2_judged_203 (by decide) ?_
              exact g_endI (hR _ _ dX2_judged_204) (by unfold S_jd; subst hh_c5; rw [if_neg (by decide), if_neg (by decide), if_neg (by decide), if_pos rfl, if_pos c12, if_neg c13]; rfl) (by unfold S_jd; subst hh_c5; rw [if_neg (by decide), if_neg (by decide), if_neg (by decide), if_pos rfl, if_pos c12, if_neg c13]; rfl)
            · refine g_iconst F (v := 1) dX2_judged_199 (by decide) ?_
              refine g_goto F 204 dX2_judged_200 (by decide) ?_
              exact g_endI (hR _ _ dX2_judged_204) (by unfold S_jd; subst hh_c5; rw [if_neg (by decide), if_neg (by decide), if_neg (by decide), if_pos rfl, if_pos c12, if_pos c13]; rfl) (by unfold S_jd; subst hh_c5; rw [if_neg (by decide), if_neg (by decide), if_neg (by decide), if_pos rfl, if_pos c12, if_pos c13]; rfl)
        | 4, _, c5 =>
          have hh_c5 : h = 5 := jd_h (by omega) c5
          refine g_tableIn F 205 dX2_judged_45 (by rw [c5]; decide) (by rw [c5]; decide) (by rw [c5]; rfl) (by decide) ?_
          refine g_iload F dX2_judged_205 5 rfl ?_
          refine g_beq F 230 dX2_judged_207 (by decide) (fun c14 => ?_) (fun c14 => ?_)
          · refine g_iconst F (v := 0) dX2_judged_230 (by decide) ?_
            exact g_endI (hR _ _ dX2_judged_231) (by unfold S_jd; subst hh_c5; rw [if_neg (by decide), if_neg (by decide), if_neg (by decide), if_neg (by decide), if_pos rfl, if_neg (by rw [c14]; decide)]; rfl) (by unfold S_jd; subst hh_c5; rw [if_neg (by decide), if_neg (by decide), if_neg (by decide), if_neg (by decide), if_pos rfl, if_neg (by rw [c14]; decide)]; rfl)
          · obtain ⟨hx6, hy6, hxy⟩ := two_lt (by omega) (by omega) c14
            refine g_aload_n F dX2_judged_210 rfl 0 rfl ?_
            refine g_get F (.ref (a 3)) zX2_judged_inX2 0 rfl rfl 3 (by decide) rfl zX2_judged_f16 dX2_judged_211 ?_
            refine g_bipush F (v := 6) dX2_judged_214 (by decide) ?_
            refine g_iload_n F dX2_judged_216 rfl 2 rfl ?_
            refine g_iadd F dX2_judged_217 ?_
            refine g_as (nI (6 + x)) (nI_add 6 x) ?_
            refine g_iald F (j := 6 + x) 3 0 rfl rfl (by omega) (by decide) dX2_judged_218 ?_
            refine g_iload_n F dX2_judged_219 rfl 3 rfl ?_
            refine g_callSn F (As := [.int (tr (6 + x)), .int (nI y)]) (st := []) (kX2_has l D cI cZ cQ (tr (6 + x)) (nI y)) (va_cwS 2 F.2.2.2.2.1 gX2_judged_X2_has rfl rfl rfl (by decide +kernel) ⟨Nat.le_of_ble_eq_true rfl, Nat.le_of_ble_eq_true rfl⟩) rfl rfl (Nat.le_of_ble_eq_true rfl) ⟨Nat.zero_le _, Nat.zero_le _⟩ dX2_judged_220 ?_
            refine g_beq F 230 dX2_judged_223 (by decide) (fun c15 => ?_) (fun c15 => ?_)
            · refine g_iconst F (v := 0) dX2_judged_230 (by decide) ?_
              exact g_endI (hR _ _ dX2_judged_231) (by unfold S_jd; subst hh_c5; rw [if_neg (by decide), if_neg (by decide), if_neg (by decide), if_neg (by decide), if_pos rfl, if_pos c14, if_neg (by rw [c15]; decide)]; rfl) (by unfold S_jd; subst hh_c5; rw [if_neg (by decide), if_neg (by decide), if_neg (by decide), if_neg (by decide), if_pos rfl, if_pos c14, if_neg (by rw [c15]; decide)]; rfl)
            · refine g_iconst F (v := 1) dX2_judged_226 (by decide) ?_
              refine g_goto F 231 dX2_judged_227 (by decide) ?_
              exact g_endI (hR _ _ dX2_judged_231) (by unfold S_jd; subst hh_c5; rw [if_neg (by decide), if_neg (by decide), if_neg (by decide), if_neg (by decide), if_pos rfl, if_pos c14, if_pos c15]; rfl) (by unfold S_jd; subst hh_c5; rw [if_neg (by decide), if_neg (by decide), if_neg (by decide), if_neg (by decide), if_pos rfl, if_pos c14, if_pos c15]; rfl)
        | 5, _, c5 =>
          have hh_c5 : h = 6 := jd_h (by omega) c5
          refine g_tableIn F 232 dX2_judged_45 (by rw [c5]; decide) (by rw [c5]; decide) (by rw [c5]; rfl) (by decide) ?_
          refine g_iload_n F dX2_judged_232 rfl 2 rfl ?_
          refine g_callSn F (As := [.int (nI x)]) (st := []) (kX2_isMember l D cI cZ cQ (nI x)) (va_cwS 1 F.2.2.2.2.1 gX2_judged_X2_isMember rfl rfl rfl (by decide +kernel) ⟨Nat.le_of_ble_eq_true rfl, Nat.le_of_ble_eq_true rfl⟩) rfl rfl (Nat.le_of_ble_eq_true rfl) ⟨Nat.zero_le _, Nat.zero_le _⟩ dX2_judged_233 ?_
          refine g_beq F 255 dX2_judged_236 (by decide) (fun c16 => ?_) (fun c16 => ?_)
          · refine g_iconst F (v := 0) dX2_judged_255 (by decide) ?_
            exact g_endI (hR _ _ dX2_judged_256) (by unfold S_jd; subst hh_c5; rw [if_neg (by decide), if_neg (by decide), if_neg (by decide), if_neg (by decide), if_neg (by decide), if_pos rfl, if_neg (by rw [c16]; decide)]; rfl) (by unfold S_jd; subst hh_c5; rw [if_neg (by decide), if_neg (by decide), if_neg (by decide), if_neg (by decide), if_neg (by decide), if_pos rfl, if_neg (by rw [c16]; decide)]; rfl)
          · have hx6 := isM_lt (by omega) c16
            refine g_aload_n F dX2_judged_239 rfl 0 rfl ?_
            refine g_get F (.ref (a 3)) zX2_judged_inX2 0 rfl rfl 3 (by decide) rfl zX2_judged_f16 dX2_judged_240 ?_
            refine g_iload_n F dX2_judged_243 rfl 2 rfl ?_
            refine g_callS F (As := [.ref (a 3), .int (nI x)]) (st := []) ([(a 0, .inr (2, [.ref (a 1), .int (nI ln), .ref (a 2), .ref (a 3), .ref (a 4), .int (nI ac), .int (nI nx), .ref (a 5), .ref (a 6), .ref (a 7), .ref (a 8), .int (nI se), .long sd, .ref (a 9), .ref (a 10)])), (a 1, .inl (cI, 60, .inl tx)), (a 2, .inl (cI, 79, .inl nw)), (a 4, .inl (cI, 1106, .inl di)), (a 5, .inl (cI, 158, .inl ke)), (a 6, .inl (cZ, 2, .inl ik)), (a 7, .inl (cI, 6, .inl s1)), (a 8, .inl (cI, 6, .inl s2)), (a 9, .inl (cI, 64, .inl wo)), (a 10, .inl (cI, 79, .inl re))]) ([(a 0, .inr (2, [.ref (a 1), .int (nI ln), .ref (a 2), .ref (a 3), .ref (a 4), .int (nI ac), .int (nI nx), .ref (a 5), .ref (a 6), .ref (a 7), .ref (a 8), .int (nI se), .long sd, .ref (a 9), .ref (a 10)])), (a 1, .inl (cI, 60, .inl tx)), (a 2, .inl (cI, 79, .inl nw)), (a 3, .inl (cI, 79, .inl tr)), (a 4, .inl (cI, 1106, .inl di)), (a 5, .inl (cI, 158, .inl ke)), (a 6, .inl (cZ, 2, .inl ik)), (a 7, .inl (cI, 6, .inl s1)), (a 8, .inl (cI, 6, .inl s2)), (a 9, .inl (cI, 64, .inl wo)), (a 10, .inl (cI, 79, .inl re))]) [3] [0, 1, 2, 4, 5, 6, 7, 8, 9, 10] [0, 1, 2, 10, 3, 4, 5, 6, 7, 8, 9] (kX2_countOf l D cI cZ cQ (a 3) tr x (by omega)) (va_cwS 2 F.2.2.2.2.1 gX2_judged_X2_countOf rfl rfl rfl (by decide +kernel) ⟨Nat.le_of_ble_eq_true rfl, Nat.le_of_ble_eq_true rfl⟩) rfl rfl rfl rfl (by decide) (by decide) (by decide) rfl (by decide) (Nat.le_of_ble_eq_true rfl) ⟨Nat.zero_le _, Nat.zero_le _⟩ dX2_judged_244 ?_
            refine g_iload_n F dX2_judged_247 rfl 3 rfl ?_
            refine g_icmp_ne F 255 dX2_judged_248 (by decide) (fun c17 => ?_) (fun c17 => ?_)
            · refine g_iconst F (v := 0) dX2_judged_255 (by decide) ?_
              exact g_endI (hR _ _ dX2_judged_256) (by unfold S_jd; subst hh_c5; rw [if_neg (by decide), if_neg (by decide), if_neg (by decide), if_neg (by decide), if_neg (by decide), if_pos rfl, if_pos c16, if_neg c17]; rfl) (by unfold S_jd; subst hh_c5; rw [if_neg (by decide), if_neg (by decide), if_neg (by decide), if_neg (by decide), if_neg (by decide), if_pos rfl, if_pos c16, if_neg c17]; rfl)
            · refine g_iconst F (v := 1) dX2_judged_251 (by decide) ?_
              refine g_goto F 256 dX2_judged_252 (by decide) ?_
              exact g_endI (hR _ _ dX2_judged_256) (by unfold S_jd; subst hh_c5; rw [if_neg (by decide), if_neg (by decide), if_neg (by decide), if_neg (by decide), if_neg (by decide), if_pos rfl, if_pos c16, if_pos c17]; rfl) (by unfold S_jd; subst hh_c5; rw [if_neg (by decide), if_neg (by decide), if_neg (by decide), if_neg (by decide), if_neg (by decide), if_pos rfl, if_pos c16, if_pos c17]; rfl)
        | 6, _, c5 =>
          have hh_c5 : h = 7 := jd_h (by omega) c5
          refine g_tableIn F 257 dX2_judged_45 (by rw [c5]; decide) (by rw [c5]; decide) (by rw [c5]; rfl) (by decide) ?_
          refine g_iload F dX2_judged_257 5 rfl ?_
          refine g_beq F 277 dX2_judged_259 (by decide) (fun c18 => ?_) (fun c18 => ?_)
          · refine g_iload F dX2_judged_277 5 rfl ?_
            exact g_endI (hR _ _ dX2_judged_279) (by unfold S_jd; subst hh_c5; rw [if_neg (by decide), if_neg (by decide), if_neg (by decide), if_neg (by decide), if_neg (by decide), if_neg (by decide), if_pos rfl, if_neg (by rw [c18]; decide)]; rw [c18]; try rfl) (by unfold S_jd; subst hh_c5; rw [if_neg (by decide), if_neg (by decide), if_neg (by decide), if_neg (by decide), if_neg (by decide), if_neg (by decide), if_pos rfl, if_neg (by rw [c18]; decide)]; rfl)
          · obtain ⟨hx6, hy6, hxy⟩ := two_lt (by omega) (by omega) c18
            refine g_aload_n F dX2_judged_262 rfl 0 rfl ?_
            refine g_get F (.ref (a 3)) zX2_judged_inX2 0 rfl rfl 3 (by decide) rfl zX2_judged_f16 dX2_judged_263 ?_
            refine g_bipush F (v := 73) dX2_judged_266 (by decide) ?_
            refine g_iload_n F dX2_judged_268 rfl 2 rfl ?_
            refine g_iadd F dX2_judged_269 ?_
            refine g_as (nI (73 + x)) (nI_add 73 x) ?_
            refine g_dup2 F dX2_judged_270 rfl rfl ?_
            refine g_iald F (j := 73 + x) 3 0 rfl rfl (by omega) (by decide) dX2_judged_271 ?_
            refine g_iconst F (v := 1) dX2_judged_272 (by decide) ?_
            refine g_iload_n F dX2_judged_273 rfl 3 rfl ?_
            refine g_ishl F dX2_judged_274 ?_
            refine g_ixor F dX2_judged_275 ?_
            refine g_iast F (j := 73 + x) ([(a 0, .inr (2, [.ref (a 1), .int (nI ln), .ref (a 2), .ref (a 3), .ref (a 4), .int (nI ac), .int (nI nx), .ref (a 5), .ref (a 6), .ref (a 7), .ref (a 8), .int (nI se), .long sd, .ref (a 9), .ref (a 10)])), (a 1, .inl (cI, 60, .inl tx)), (a 2, .inl (cI, 79, .inl nw)), (a 3, .inl (cI, 79, .inl (upd tr (73 + x) ((tr (73 + x)) ^^^ (1 <<< ((nI y) &&& 31)))))), (a 4, .inl (cI, 1106, .inl di)), (a 5, .inl (cI, 158, .inl ke)), (a 6, .inl (cZ, 2, .inl ik)), (a 7, .inl (cI, 6, .inl s1)), (a 8, .inl (cI, 6, .inl s2)), (a 9, .inl (cI, 64, .inl wo)), (a 10, .inl (cI, 79, .inl re))]) 3 0 rfl rfl (by omega) (by decide) dX2_judged_276 rfl ?_
            refine g_iload F dX2_judged_277 5 rfl ?_
            exact g_endI (hR _ _ dX2_judged_279) (by unfold S_jd; subst hh_c5; rw [if_neg (by decide), if_neg (by decide), if_neg (by decide), if_neg (by decide), if_neg (by decide), if_neg (by decide), if_pos rfl, if_pos c18]; rw [c18]; try rfl) (by unfold S_jd; subst hh_c5; rw [if_neg (by decide), if_neg (by decide), if_neg (by decide), if_neg (by decide), if_neg (by decide), if_neg (by decide), if_pos rfl, if_pos c18]; rfl)
        | n + 7, hn, _ => exact absurd hn (by omega)
    refine g_beq F 41 dX2_judged_22 (by decide) (fun c3 => ?_) (fun c3 => ?_)
    · refine g_iconst F (v := 0) dX2_judged_41 (by decide) ?_
      refine g_as (bI (S_two x y)) (by first | (simp only [S_two, bI, c3, Bool.false_eq_true, ↓reduceIte]; done) | (with_reducible rfl) | (simp [S_two, bI, c3, Bool.false_eq_true, ↓reduceIte]; done)) ?_
      exact hJ4
    · refine g_iload_n F dX2_judged_25 rfl 3 rfl ?_
      refine g_callSn F (As := [.int (nI y)]) (st := []) (kX2_isMember l D cI cZ cQ (nI y)) (va_cwS 1 F.2.2.2.2.1 gX2_judged_X2_isMember rfl rfl rfl (by decide +kernel) ⟨Nat.le_of_ble_eq_true rfl, Nat.le_of_ble_eq_true rfl⟩) rfl rfl (Nat.le_of_ble_eq_true rfl) ⟨Nat.zero_le _, Nat.zero_le _⟩ dX2_judged_26 ?_
      refine g_beq F 41 dX2_judged_29 (by decide) (fun c19 => ?_) (fun c19 => ?_)
      · refine g_iconst F (v := 0) dX2_judged_41 (by decide) ?_
        refine g_as (bI (S_two x y)) (by first | (simp only [S_two, bI, c3, c19, Bool.false_eq_true, ↓reduceIte]; done) | (with_reducible rfl) | (simp [S_two, bI, c3, c19, Bool.false_eq_true, ↓reduceIte]; done)) ?_
        exact hJ4
      · refine g_iload_n F dX2_judged_32 rfl 2 rfl ?_
        refine g_iload_n F dX2_judged_33 rfl 3 rfl ?_
        refine g_icmp_eq F 41 dX2_judged_34 (by decide) (fun c20 => ?_) (fun c20 => ?_)
        · refine g_iconst F (v := 0) dX2_judged_41 (by decide) ?_
          refine g_as (bI (S_two x y)) (by first | (simp only [S_two, bI, c3, c19, c20, Bool.false_eq_true, ↓reduceIte]; done) | (with_reducible rfl) | (simp [S_two, bI, c3, c19, c20, Bool.false_eq_true, ↓reduceIte]; done)) ?_
          exact hJ4
        · refine g_iconst F (v := 1) dX2_judged_37 (by decide) ?_
          refine g_goto F 42 dX2_judged_38 (by decide) ?_
          refine g_as (bI (S_two x y)) (by first | (simp only [S_two, bI, c3, c19, c20, Bool.false_eq_true, ↓reduceIte]; done) | (with_reducible rfl) | (simp [S_two, bI, c3, c19, c20, Bool.false_eq_true, ↓reduceIte]; done)) ?_
          exact hJ4
  refine g_if_ne F 15 dX2_judged_1 (by decide) (fun c1 => ?_) (fun c1 => ?_)
  · refine g_iconst F (v := 0) dX2_judged_15 (by decide) ?_
    refine g_as (bI (S_plain x y)) (by first | (simp only [S_plain, bI, c1, Bool.false_eq_true, ↓reduceIte]; done) | (with_reducible rfl) | (simp [S_plain, bI, c1, Bool.false_eq_true, ↓reduceIte]; done)) ?_
    exact hJ2
  · refine g_iload_n F dX2_judged_4 rfl 3 rfl ?_
    refine g_callSn F (As := [.int (nI y)]) (st := []) (kX2_isMember l D cI cZ cQ (nI y)) (va_cwS 1 F.2.2.2.2.1 gX2_judged_X2_isMember rfl rfl rfl (by decide +kernel) ⟨Nat.le_of_ble_eq_true rfl, Nat.le_of_ble_eq_true rfl⟩) rfl rfl (Nat.le_of_ble_eq_true rfl) ⟨Nat.zero_le _, Nat.zero_le _⟩ dX2_judged_5 ?_
    refine g_beq F 15 dX2_judged_8 (by decide) (fun c21 => ?_) (fun c21 => ?_)
    · refine g_iconst F (v := 0) dX2_judged_15 (by decide) ?_
      refine g_as (bI (S_plain x y)) (by first | (simp only [S_plain, bI, c1, c21, Bool.false_eq_true, ↓reduceIte]; done) | (with_reducible rfl) | (simp [S_plain, bI, c1, c21, Bool.false_eq_true, ↓reduceIte]; done)) ?_
      exact hJ2
    · refine g_iconst F (v := 1) dX2_judged_11 (by decide) ?_
      refine g_goto F 16 dX2_judged_12 (by decide) ?_
      refine g_as (bI (S_plain x y)) (by first | (simp only [S_plain, bI, c1, c21, Bool.false_eq_true, ↓reduceIte]; done) | (with_reducible rfl) | (simp [S_plain, bI, c1, c21, Bool.false_eq_true, ↓reduceIte]; done)) ?_
      exact hJ2
