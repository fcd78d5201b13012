theorem zX2_which_f13 : Cond.fieldLink RX2 13 (TX2 2).1 (TX2 2).2.1 (TX2 2).2.2.1 ∈ wsX2_which := by decide +kernel
theorem zX2_which_f138 : Cond.fieldLink RX2 138 (TX2 11).1 (TX2 11).2.1 (TX2 11).2.2.1 ∈ wsX2_which := by decide +kernel
theorem zX2_which_f16 : Cond.fieldLink RX2 16 (TX2 3).1 (TX2 3).2.1 (TX2 3).2.2.1 ∈ wsX2_which := by decide +kernel
theorem zX2_which_f29 : Cond.fieldLink RX2 29 (TX2 9).1 (TX2 9).2.1 (TX2 9).2.2.1 ∈ wsX2_which := by decide +kernel
theorem zX2_which_f32 : Cond.fieldLink RX2 32 (TX2 10).1 (TX2 10).2.1 (TX2 10).2.2.1 ∈ wsX2_which := by decide +kernel
theorem zX2_which_inX2 : ∀ w ∈ u_ws RX2 TX2 15, w ∈ wsX2_which := by decide +kernel
set_option maxHeartbeats 1000000 in
set_option maxRecDepth 100000 in
theorem kX2_which (l : Launch) (D : va_G) (cI cZ cQ : ClassId) (a : Nat → Nat) (tx : Row) (ln : Nat) (nw tr di : Row) (ac nx : Nat) (ke ik s1 s2 : Row) (se : Nat) (sd : Int64) (wo re : Row) (hse : se ≤ 6) (hs : ∀ j, j < se → s1 j = nI (s1 j).toNatClampNeg ∧ (s1 j).toNatClampNeg ≤ 60) : Ct l D (gTy cI cZ cQ) yX2_which wsX2_which ({ frames := 6, cells := 0, slots := 0, locals := 190 }) [.ref (a 0)] (MW cI cZ a tx ln nw tr di ac nx ke ik s1 s2 se sd wo re) (some (.int (S_whS nw s1 s2 se 9))) (MW cI cZ a tx ln nw (S_whTo nw s1 s2 se tr 9) di ac nx ke ik s1 s2 se sd wo re) := by
  refine ct_ofI (cc := cX2_which) (nL := 5) (own := RX2) (by decide) rfl rfl ⟨rfl, rfl⟩ (Nat.le_of_ble_eq_true rfl) MW_same (fun p e s m below meth c A Q F hR => ?_)
  refine g_aw ([(a 0, .inr (2, [.ref (a 1), .int (nI ln), .ref (a 2), .ref (a 3), .ref (a 4), .int (nI ac), .int (nI nx), .ref (a 5), .ref (a 6), .ref (a 7), .ref (a 8), .int (nI se), .long sd, .ref (a 9), .ref (a 10)])), (a 1, .inl (cI, 60, .inl tx)), (a 2, .inl (cI, 79, .inl nw)), (a 3, .inl (cI, 79, .inl tr)), (a 4, .inl (cI, 1106, .inl di)), (a 5, .inl (cI, 158, .inl ke)), (a 6, .inl (cZ, 2, .inl ik)), (a 7, .inl (cI, 6, .inl s1)), (a 8, .inl (cI, 6, .inl s2)), (a 9, .inl (cI, 64, .inl wo)), (a 10, .inl (cI, 79, .inl re))]) rfl ?_
  refine g_iconst F (v := 0) dX2_which_0 (by decide) ?_
  refine g_istore_n F (lv' := [(0, .ref (a 0)), (1, .int 0)]) dX2_which_1 rfl (by decide) [1, 0] rfl ?_
  refine g_iconst F (v := 1) dX2_which_2 (by decide) ?_
  refine g_istore_n F (lv' := [(0, .ref (a 0)), (1, .int 0), (2, .int 1)]) dX2_which_3 rfl (by decide) [1, 2, 0] rfl ?_
  refine g_all (w0 := [(a 0, .inr (2, [.ref (a 1), .int (nI ln), .ref (a 2), .ref (a 3), .ref (a 4), .int (nI ac), .int (nI nx), .ref (a 5), .ref (a 6), .ref (a 7), .ref (a 8), .int (nI se), .long sd, .ref (a 9), .ref (a 10)])), (a 1, .inl (cI, 60, .inl tx)), (a 2, .inl (cI, 79, .inl nw)), (a 3, .inl (cI, 79, .inl (S_whTo nw s1 s2 se tr 0))), (a 4, .inl (cI, 1106, .inl di)), (a 5, .inl (cI, 158, .inl ke)), (a 6, .inl (cZ, 2, .inl ik)), (a 7, .inl (cI, 6, .inl s1)), (a 8, .inl (cI, 6, .inl s2)), (a 9, .inl (cI, 64, .inl wo)), (a 10, .inl (cI, 79, .inl re))]) (lv0 := [(0, .ref (a 0)), (1, .int (S_whS nw s1 s2 se 0)), (2, .int (nI (0 + 1)))]) (st0 := []) rfl rfl rfl ?_
  refine g_for 9 (fun i => True) (fun i => [(a 0, .inr (2, [.ref (a 1), .int (nI ln), .ref (a 2), .ref (a 3), .ref (a 4), .int (nI ac), .int (nI nx), .ref (a 5), .ref (a 6), .ref (a 7), .ref (a 8), .int (nI se), .long sd, .ref (a 9), .ref (a 10)])), (a 1, .inl (cI, 60, .inl tx)), (a 2, .inl (cI, 79, .inl nw)), (a 3, .inl (cI, 79, .inl (S_whTo nw s1 s2 se tr i))), (a 4, .inl (cI, 1106, .inl di)), (a 5, .inl (cI, 158, .inl ke)), (a 6, .inl (cZ, 2, .inl ik)), (a 7, .inl (cI, 6, .inl s1)), (a 8, .inl (cI, 6, .inl s2)), (a 9, .inl (cI, 64, .inl wo)), (a 10, .inl (cI, 79, .inl re))]) (fun i => [(0, .ref (a 0)), (1, .int (S_whS nw s1 s2 se i)), (2, .int (nI (i + 1)))]) (fun i hi hIi ihi => ?_) 0 (Nat.zero_le _) trivial
  refine g_iload_n F dX2_which_4 rfl 2 rfl ?_
  refine g_bipush F (v := 10) dX2_which_5 (by decide) ?_
  refine g_icmp_ge F 103 dX2_which_7 (by decide) (fun c1 => ?_) (fun c1 => ?_)
  · have hx_c1 : 9 = i := by have := (nI_leI (a := 10) (b := i + 1) (by decide) (by omega)).mp c1; omega
    subst hx_c1
    refine g_iload_n F dX2_which_103 rfl 1 rfl ?_
    exact g_endI (hR _ _ dX2_which_104) rfl rfl
  · have hlti : i < 9 := by have := nlt_of (a := i + 1) (b := 10) (by omega) (by decide) c1; omega
    refine g_iconst F (v := 1) dX2_which_10 (by decide) ?_
    refine g_istore_n F (lv' := [(0, .ref (a 0)), (1, .int (S_whS nw s1 s2 se i)), (2, .int (nI (i + 1))), (3, .int 1)]) dX2_which_11 rfl (by decide) [1, 2, 3, 0] rfl ?_
    refine g_iconst F (v := 0) dX2_which_12 (by decide) ?_
    refine g_istore F (lv' := [(0, .ref (a 0)), (1, .int (S_whS nw s1 s2 se i)), (2, .int (nI (i + 1))), (3, .int 1), (4, .int 0)]) dX2_which_13 (by decide) [1, 2, 3, 4, 0] rfl ?_
    refine g_all (w0 := [(a 0, .inr (2, [.ref (a 1), .int (nI ln), .ref (a 2), .ref (a 3), .ref (a 4), .int (nI ac), .int (nI nx), .ref (a 5), .ref (a 6), .ref (a 7), .ref (a 8), .int (nI se), .long sd, .ref (a 9), .ref (a 10)])), (a 1, .inl (cI, 60, .inl tx)), (a 2, .inl (cI, 79, .inl nw)), (a 3, .inl (cI, 79, .inl (S_whTi nw s1 s2 (i + 1) (S_whTo nw s1 s2 se tr i) 0))), (a 4, .inl (cI, 1106, .inl di)), (a 5, .inl (cI, 158, .inl ke)), (a 6, .inl (cZ, 2, .inl ik)), (a 7, .inl (cI, 6, .inl s1)), (a 8, .inl (cI, 6, .inl s2)), (a 9, .inl (cI, 64, .inl wo)), (a 10, .inl (cI, 79, .inl re))]) (lv0 := [(0, .ref (a 0)), (1, .int (S_whS nw s1 s2 se i)), (2, .int (nI (i + 1))), (3, .int (bI (S_mayN nw s1 s2 (i + 1) 0))), (4, .int (nI 0))]) (st0 := []) rfl rfl rfl ?_
    refine g_for se (fun j => True) (fun j => [(a 0, .inr (2, [.ref (a 1), .int (nI ln), .ref (a 2), .ref (a 3), .ref (a 4), .int (nI ac), .int (nI nx), .ref (a 5), .ref (a 6), .ref (a 7), .ref (a 8), .int (nI se), .long sd, .ref (a 9), .ref (a 10)])), (a 1, .inl (cI, 60, .inl tx)), (a 2, .inl (cI, 79, .inl nw)), (a 3, .inl (cI, 79, .inl (S_whTi nw s1 s2 (i + 1) (S_whTo nw s1 s2 se tr i) j))), (a 4, .inl (cI, 1106, .inl di)), (a 5, .inl (cI, 158, .inl ke)), (a 6, .inl (cZ, 2, .inl ik)), (a 7, .inl (cI, 6, .inl s1)), (a 8, .inl (cI, 6, .inl s2)), (a 9, .inl (cI, 64, .inl wo)), (a 10, .inl (cI, 79, .inl re))]) (fun j => [(0, .ref (a 0)), (1, .int (S_whS nw s1 s2 se i)), (2, .int (nI (i + 1))), (3, .int (bI (S_mayN nw s1 s2 (i + 1) j))), (4, .int (nI j))]) (fun j hj hIj ihj => ?_) 0 (Nat.zero_le _) trivial
    refine g_iload F dX2_which_15 4 rfl ?_
    refine g_aload_n F dX2_which_17 rfl 0 rfl ?_
    refine g_get F (.int (nI se)) zX2_which_inX2 0 rfl rfl 11 (by decide) rfl zX2_which_f138 dX2_which_18 ?_
    refine g_icmp_ge F 83 dX2_which_21 (by decide) (fun c2 => ?_) (fun c2 => ?_)
    · have hx_c2 : se = j := lp_ge hj (by omega) c2
      subst hx_c2
      refine g_iload_n F dX2_which_83 rfl 1 rfl ?_
      refine g_iload_n F dX2_which_84 rfl 3 rfl ?_
      have hJ4 : Go p l e ({ frames := 6, cells := 0, slots := 0, locals := 190 }) s m (List.toArray [.ref (a 0)]) below meth c Q D A 5 0 0 ([(a 0, .inr (2, [.ref (a 1), .int (nI ln), .ref (a 2), .ref (a 3), .ref (a 4), .int (nI ac), .int (nI nx), .ref (a 5), .ref (a 6), .ref (a 7), .ref (a 8), .int (nI se), .long sd, .ref (a 9), .ref (a 10)])), (a 1, .inl (cI, 60, .inl tx)), (a 2, .inl (cI, 79, .inl nw)), (a 3, .inl (cI, 79, .inl (S_whTi nw s1 s2 (i + 1) (S_whTo nw s1 s2 se tr i) se))), (a 4, .inl (cI, 1106, .inl di)), (a 5, .inl (cI, 158, .inl ke)), (a 6, .inl (cZ, 2, .inl ik)), (a 7, .inl (cI, 6, .inl s1)), (a 8, .inl (cI, 6, .inl s2)), (a 9, .inl (cI, 64, .inl wo)), (a 10, .inl (cI, 79, .inl re))]) 95 [(0, .ref (a 0)), (1, .int (S_whS nw s1 s2 se i)), (2, .int (nI (i + 1))), (3, .int (bI (S_mayN nw s1 s2 (i + 1) se))), (4, .int (nI se))] [.int (if S_mayN nw s1 s2 (i + 1) se then 1 <<< (nI (i + 1) &&& 31) else 0), .int (S_whS nw s1 s2 se i)] := by
        refine g_ior F dX2_which_95 ?_
        refine g_istore_n F (lv' := [(0, .ref (a 0)), (1, .int ((S_whS nw s1 s2 se i) ||| (if S_mayN nw s1 s2 (i + 1) se then 1 <<< (nI (i + 1) &&& 31) else 0))), (2, .int (nI (i + 1))), (3, .int (bI (S_mayN nw s1 s2 (i + 1) se))), (4, .int (nI se))]) dX2_which_96 rfl (by decide) [1, 0, 2, 3, 4] rfl ?_
        refine g_iinc F (lv' := [(0, .ref (a 0)), (1, .int ((S_whS nw s1 s2 se i) ||| (if S_mayN nw s1 s2 (i + 1) se then 1 <<< (nI (i + 1) &&& 31) else 0))), (2, .int (nI (i + 1 + 1))), (3, .int (bI (S_mayN nw s1 s2 (i + 1) se))), (4, .int (nI se))]) (nI (i + 1 + 1)) dX2_which_97 2 rfl (nI_add (i + 1) 1) (by decide) [1, 2, 0, 3, 4] rfl ?_
        refine g_goto F 4 dX2_which_100 (by decide) ?_
        refine g_lvs (lv' := [(0, .ref (a 0)), (1, .int ((S_whS nw s1 s2 se i) ||| (if S_mayN nw s1 s2 (i + 1) se then 1 <<< (nI (i + 1) &&& 31) else 0))), (2, .int (nI (i + 1 + 1)))]) [0, 1, 2] rfl ?_
        refine g_all (w0 := [(a 0, .inr (2, [.ref (a 1), .int (nI ln), .ref (a 2), .ref (a 3), .ref (a 4), .int (nI ac), .int (nI nx), .ref (a 5), .ref (a 6), .ref (a 7), .ref (a 8), .int (nI se), .long sd, .ref (a 9), .ref (a 10)])), (a 1, .inl (cI, 60, .inl tx)), (a 2, .inl (cI, 79, .inl nw)), (a 3, .inl (cI, 79, .inl (S_whTo nw s1 s2 se tr (i + 1)))), (a 4, .inl (cI, 1106, .inl di)), (a 5, .inl (cI, 158, .inl ke)), (a 6, .inl (cZ, 2, .inl ik)), (a 7, .inl (cI, 6, .inl s1)), (a 8, .inl (cI, 6, .inl s2)), (a 9, .inl (cI, 64, .inl wo)), (a 10, .inl (cI, 79, .inl re))]) (lv0 := [(0, .ref (a 0)), (1, .int (S_whS nw s1 s2 se (i + 1))), (2, .int (nI (i + 1 + 1)))]) (st0 := []) rfl rfl rfl ?_
        exact ihi hlti trivial
      refine g_beq F 94 dX2_which_85 (by decide) (fun c3 => ?_) (fun c3 => ?_)
      · refine g_iconst F (v := 0) dX2_which_94 (by decide) ?_
        refine g_as (if S_mayN nw s1 s2 (i + 1) se then 1 <<< (nI (i + 1) &&& 31) else 0) (by first | (simp only [c3, Bool.false_eq_true, ↓reduceIte]; done) | (with_reducible rfl) | (simp [c3, Bool.false_eq_true, ↓reduceIte]; done)) ?_
        exact hJ4
      · refine g_iconst F (v := 1) dX2_which_88 (by decide) ?_
        refine g_iload_n F dX2_which_89 rfl 2 rfl ?_
        refine g_ishl F dX2_which_90 ?_
        refine g_goto F 95 dX2_which_91 (by decide) ?_
        refine g_as (if S_mayN nw s1 s2 (i + 1) se then 1 <<< (nI (i + 1) &&& 31) else 0) (by first | (simp only [c3, Bool.false_eq_true, ↓reduceIte]; done) | (with_reducible rfl) | (simp [c3, Bool.false_eq_true, ↓reduceIte]; done)) ?_
        exact hJ4
    · have hltj : j < se := lp_lt hj (by omega) c2
      refine g_aload_n F dX2_which_24 rfl 0 rfl ?_
      refine g_get F (.ref (a 2)) zX2_which_inX2 0 rfl rfl 2 (by decide) rfl zX2_which_f13 dX2_which_25 ?_
      refine g_aload_n F dX2_which_28 rfl 0 rfl ?_
      refine g_get F (.ref (a 3)) zX2_which_inX2 0 rfl rfl 3 (by decide) rfl zX2_which_f16 dX2_which_29 ?_
      refine g_callS F (As := [.ref (a 2), .ref (a 3)]) (st := []) ([(a 0, .inr (2, [.ref (a 1), .int (nI ln), .ref (a 2), .ref (a 3), .ref (a 4), .int (nI ac), .int (nI nx), .ref (a 5), .ref (a 6), .ref (a 7), .ref (a 8), .int (nI se), .long sd, .ref (a 9), .ref (a 10)])), (a 1, .inl (cI, 60, .inl tx)), (a 4, .inl (cI, 1106, .inl di)), (a 5, .inl (cI, 158, .inl ke)), (a 6, .inl (cZ, 2, .inl ik)), (a 7, .inl (cI, 6, .inl s1)), (a 8, .inl (cI, 6, .inl s2)), (a 9, .inl (cI, 64, .inl wo)), (a 10, .inl (cI, 79, .inl re))]) ([(a 0, .inr (2, [.ref (a 1), .int (nI ln), .ref (a 2), .ref (a 3), .ref (a 4), .int (nI ac), .int (nI nx), .ref (a 5), .ref (a 6), .ref (a 7), .ref (a 8), .int (nI se), .long sd, .ref (a 9), .ref (a 10)])), (a 1, .inl (cI, 60, .inl tx)), (a 2, .inl (cI, 79, .inl nw)), (a 3, .inl (cI, 79, .inl nw)), (a 4, .inl (cI, 1106, .inl di)), (a 5, .inl (cI, 158, .inl ke)), (a 6, .inl (cZ, 2, .inl ik)), (a 7, .inl (cI, 6, .inl s1)), (a 8, .inl (cI, 6, .inl s2)), (a 9, .inl (cI, 64, .inl wo)), (a 10, .inl (cI, 79, .inl re))]) [2, 3] [0, 1, 4, 5, 6, 7, 8, 9, 10] [0, 1, 9, 10, 2, 3, 4, 5, 6, 7, 8] (kX2_copy l D cI cZ cQ (a 2) (a 3) nw (S_whTi nw s1 s2 (i + 1) (S_whTo nw s1 s2 se tr i) j)) (va_cwS 2 F.2.2.2.2.1 gX2_which_X2_copy rfl rfl rfl (by decide +kernel) ⟨Nat.le_of_ble_eq_true rfl, Nat.le_of_ble_eq_true rfl⟩) rfl rfl rfl rfl (by decide) (by decide) (by decide) rfl (by decide) (Nat.le_of_ble_eq_true rfl) ⟨Nat.zero_le _, Nat.zero_le _⟩ dX2_which_32 ?_
      refine g_aload_n F dX2_which_35 rfl 0 rfl ?_
      refine g_get F (.ref (a 3)) zX2_which_inX2 0 rfl rfl 3 (by decide) rfl zX2_which_f16 dX2_which_36 ?_
      refine g_bipush F (v := 67) dX2_which_39 (by decide) ?_
      refine g_iload_n F dX2_which_41 rfl 2 rfl ?_
      refine g_as2 (nI 67) rfl ?_
      refine g_iast F (j := 67) ([(a 0, .inr (2, [.ref (a 1), .int (nI ln), .ref (a 2), .ref (a 3), .ref (a 4), .int (nI ac), .int (nI nx), .ref (a 5), .ref (a 6), .ref (a 7), .ref (a 8), .int (nI se), .long sd, .ref (a 9), .ref (a 10)])), (a 1, .inl (cI, 60, .inl tx)), (a 2, .inl (cI, 79, .inl nw)), (a 3, .inl (cI, 79, .inl (upd nw 67 (nI (i + 1))))), (a 4, .inl (cI, 1106, .inl di)), (a 5, .inl (cI, 158, .inl ke)), (a 6, .inl (cZ, 2, .inl ik)), (a 7, .inl (cI, 6, .inl s1)), (a 8, .inl (cI, 6, .inl s2)), (a 9, .inl (cI, 64, .inl wo)), (a 10, .inl (cI, 79, .inl re))]) 3 0 rfl rfl (by omega) (by decide) dX2_which_42 rfl ?_
      refine g_iload_n F dX2_which_43 rfl 3 rfl ?_
      refine g_beq F 75 dX2_which_44 (by decide) (fun c5 => ?_) (fun c5 => ?_)
      · refine g_iconst F (v := 0) dX2_which_75 (by decide) ?_
        refine g_istore_n F (lv' := [(0, .ref (a 0)), (1, .int (S_whS nw s1 s2 se i)), (2, .int (nI (i + 1))), (3, .int 0), (4, .int (nI j))]) dX2_which_76 rfl (by decide) [1, 2, 3, 0, 4] rfl ?_
        refine g_iinc F (lv' := [(0, .ref (a 0)), (1, .int (S_whS nw s1 s2 se i)), (2, .int (nI (i + 1))), (3, .int 0), (4, .int (nI (j + 1)))]) (nI (j + 1)) dX2_which_77 4 rfl (nI_add j 1) (by decide) [1, 2, 3, 4, 0] rfl ?_
        refine g_goto F 15 dX2_which_80 (by decide) ?_
        refine g_all (w0 := [(a 0, .inr (2, [.ref (a 1), .int (nI ln), .ref (a 2), .ref (a 3), .ref (a 4), .int (nI ac), .int (nI nx), .ref (a 5), .ref (a 6), .ref (a 7), .ref (a 8), .int (nI se), .long sd, .ref (a 9), .ref (a 10)])), (a 1, .inl (cI, 60, .inl tx)), (a 2, .inl (cI, 79, .inl nw)), (a 3, .inl (cI, 79, .inl (S_whTi nw s1 s2 (i + 1) (S_whTo nw s1 s2 se tr i) (j + 1)))), (a 4, .inl (cI, 1106, .inl di)), (a 5, .inl (cI, 158, .inl ke)), (a 6, .inl (cZ, 2, .inl ik)), (a 7, .inl (cI, 6, .inl s1)), (a 8, .inl (cI, 6, .inl s2)), (a 9, .inl (cI, 64, .inl wo)), (a 10, .inl (cI, 79, .inl re))]) (lv0 := [(0, .ref (a 0)), (1, .int (S_whS nw s1 s2 se i)), (2, .int (nI (i + 1))), (3, .int (bI (S_mayN nw s1 s2 (i + 1) (j + 1)))), (4, .int (nI (j + 1)))]) (st0 := []) (by first | (simp only [S_whTi, c5, Bool.false_eq_true, ↓reduceIte]; done) | (with_reducible rfl) | (simp [S_whTi, c5, Bool.false_eq_true, ↓reduceIte]; done)) (by first | (simp only [S_mayN, bI, c5, Bool.false_eq_true, ↓reduceIte]; done) | (with_reducible rfl) | (simp [S_mayN, bI, c5, Bool.false_eq_true, ↓reduceIte]; done)) rfl ?_
        exact ihj hltj trivial
      · refine g_aload_n F dX2_which_47 rfl 0 rfl ?_
        refine g_get F (.ref (a 3)) zX2_which_inX2 0 rfl rfl 3 (by decide) rfl zX2_which_f16 dX2_which_48 ?_
        refine g_aload_n F dX2_which_51 rfl 0 rfl ?_
        refine g_get F (.ref (a 7)) zX2_which_inX2 0 rfl rfl 9 (by decide) rfl zX2_which_f29 dX2_which_52 ?_
        refine g_iload F dX2_which_55 4 rfl ?_
        refine g_iald F (j := j) 7 0 rfl rfl (by omega) (by decide) dX2_which_57 ?_
        have hsj := hs j hltj
        refine g_as (nI (s1 j).toNatClampNeg) hsj.1 ?_
        refine g_callS F (As := [.ref (a 3), .int (nI ((s1 j).toNatClampNeg))]) (st := []) ([(a 0, .inr (2, [.ref (a 1), .int (nI ln), .ref (a 2), .ref (a 3), .ref (a 4), .int (nI ac), .int (nI nx), .ref (a 5), .ref (a 6), .ref (a 7), .ref (a 8), .int (nI se), .long sd, .ref (a 9), .ref (a 10)])), (a 1, .inl (cI, 60, .inl tx)), (a 2, .inl (cI, 79, .inl nw)), (a 4, .inl (cI, 1106, .inl di)), (a 5, .inl (cI, 158, .inl ke)), (a 6, .inl (cZ, 2, .inl ik)), (a 7, .inl (cI, 6, .inl s1)), (a 8, .inl (cI, 6, .inl s2)), (a 9, .inl (cI, 64, .inl wo)), (a 10, .inl (cI, 79, .inl re))]) ([(a 0, .inr (2, [.ref (a 1), .int (nI ln), .ref (a 2), .ref (a 3), .ref (a 4), .int (nI ac), .int (nI nx), .ref (a 5), .ref (a 6), .ref (a 7), .ref (a 8), .int (nI se), .long sd, .ref (a 9), .ref (a 10)])), (a 1, .inl (cI, 60, .inl tx)), (a 2, .inl (cI, 79, .inl nw)), (a 3, .inl (cI, 79, .inl (S_ticks (upd nw 67 (nI (i + 1))) ((s1 j).toNatClampNeg)))), (a 4, .inl (cI, 1106, .inl di)), (a 5, .inl (cI, 158, .inl ke)), (a 6, .inl (cZ, 2, .inl ik)), (a 7, .inl (cI, 6, .inl s1)), (a 8, .inl (cI, 6, .inl s2)), (a 9, .inl (cI, 64, .inl wo)), (a 10, .inl (cI, 79, .inl re))]) [3] [0, 1, 2, 4, 5, 6, 7, 8, 9, 10] [0, 1, 2, 10, 3, 4, 5, 6, 7, 8, 9] (kX2_passOn l D cI cZ cQ (a 3) (upd nw 67 (nI (i + 1))) ((s1 j).toNatClampNeg) (by omega) (Z_67 (by omega) (by omega))) (va_cwS 2 F.2.2.2.2.1 gX2_which_X2_passOn rfl rfl rfl (by decide +kernel) ⟨Nat.le_of_ble_eq_true rfl, Nat.le_of_ble_eq_true rfl⟩) rfl rfl rfl rfl (by decide) (by decide) (by decide) rfl (by decide) (Nat.le_of_ble_eq_true rfl) ⟨Nat.zero_le _, Nat.zero_le _⟩ dX2_which_58 ?_
        refine g_aload_n F dX2_which_61 rfl 0 rfl ?_
        refine g_get F (.ref (a 8)) zX2_which_inX2 0 rfl rfl 10 (by decide) rfl zX2_which_f32 dX2_which_62 ?_
        refine g_iload F dX2_which_65 4 rfl ?_
        refine g_iald F (j := j) 8 0 rfl rfl (by omega) (by decide) dX2_which_67 ?_
        refine g_icmp_ne F 75 dX2_which_68 (by decide) (fun c6 => ?_) (fun c6 => ?_)
        · refine g_iconst F (v := 0) dX2_which_75 (by decide) ?_
          refine g_istore_n F (lv' := [(0, .ref (a 0)), (1, .int (S_whS nw s1 s2 se i)), (2, .int (nI (i + 1))), (3, .int 0), (4, .int (nI j))]) dX2_which_76 rfl (by decide) [1, 2, 3, 0, 4] rfl ?_
          refine g_iinc F (lv' := [(0, .ref (a 0)), (1, .int (S_whS nw s1 s2 se i)), (2, .int (nI (i + 1))), (3, .int 0), (4, .int (nI (j + 1)))]) (nI (j + 1)) dX2_which_77 4 rfl (nI_add j 1) (by decide) [1, 2, 3, 4, 0] rfl ?_
          refine g_goto F 15 dX2_which_80 (by decide) ?_
          refine g_all (w0 := [(a 0, .inr (2, [.ref (a 1), .int (nI ln), .ref (a 2), .ref (a 3), .ref (a 4), .int (nI ac), .int (nI nx), .ref (a 5), .ref (a 6), .ref (a 7), .ref (a 8), .int (nI se), .long sd, .ref (a 9), .ref (a 10)])), (a 1, .inl (cI, 60, .inl tx)), (a 2, .inl (cI, 79, .inl nw)), (a 3, .inl (cI, 79, .inl (S_whTi nw s1 s2 (i + 1) (S_whTo nw s1 s2 se tr i) (j + 1)))), (a 4, .inl (cI, 1106, .inl di)), (a 5, .inl (cI, 158, .inl ke)), (a 6, .inl (cZ, 2, .inl ik)), (a 7, .inl (cI, 6, .inl s1)), (a 8, .inl (cI, 6, .inl s2)), (a 9, .inl (cI, 64, .inl wo)), (a 10, .inl (cI, 79, .inl re))]) (lv0 := [(0, .ref (a 0)), (1, .int (S_whS nw s1 s2 se i)), (2, .int (nI (i + 1))), (3, .int (bI (S_mayN nw s1 s2 (i + 1) (j + 1)))), (4, .int (nI (j + 1)))]) (st0 := []) (by first | (simp only [S_whTi, c5, c6, Bool.false_eq_true, ↓reduceIte]; done) | (with_reducible rfl) | (simp [S_whTi, c5, c6, Bool.false_eq_true, ↓reduceIte]; done)) (by first | (simp only [S_mayN, bI, c5, c6, Bool.false_eq_true, ↓reduceIte]; done) | (with_reducible rfl) | (simp [S_mayN, bI, c5, c6, Bool.false_eq_true, ↓reduceIte]; done)) rfl ?_
          exact ihj hltj trivial
        · refine g_iconst F (v := 1) dX2_which_71 (by decide) ?_
          refine g_goto F 76 dX2_which_72 (by decide) ?_
          refine g_istore_n F (lv' := [(0, .ref (a 0)), (1, .int (S_whS nw s1 s2 se i)), (2, .int (nI (i + 1))), (3, .int 1), (4, .int (nI j))]) dX2_which_76 rfl (by decide) [1, 2, 3, 0, 4] rfl ?_
          refine g_iinc F (lv' := [(0, .ref (a 0)), (1, .int (S_whS nw s1 s2 se i)), (2, .int (nI (i + 1))), (3, .int 1), (4, .int (nI (j + 1)))]) (nI (j + 1)) dX2_which_77 4 rfl (nI_add j 1) (by decide) [1, 2, 3, 4, 0] rfl ?_
          refine g_goto F 15 dX2_which_80 (by decide) ?_
          refine g_all (w0 := [(a 0, .inr (2, [.ref (a 1), .int (nI ln), .ref (a 2), .ref (a 3), .ref (a 4), .int (nI ac), .int (nI nx), .ref (a 5), .ref (a 6), .ref (a 7), .ref (a 8), .int (nI se), .long sd, .ref (a 9), .ref (a 10)])), (a 1, .inl (cI, 60, .inl tx)), (a 2, .inl (cI, 79, .inl nw)), (a 3, .inl (cI, 79, .inl (S_whTi nw s1 s2 (i + 1) (S_whTo nw s1 s2 se tr i) (j + 1)))), (a 4, .inl (cI, 1106, .inl di)), (a 5, .inl (cI, 158, .inl ke)), (a 6, .inl (cZ, 2, .inl ik)), (a 7, .inl (cI, 6, .inl s1)), (a 8, .inl (cI, 6, .inl s2)), (a 9, .inl (cI, 64, .inl wo)), (a 10, .inl (cI, 79, .inl re))]) (lv0 := [(0, .ref (a 0)), (1, .int (S_whS nw s1 s2 se i)), (2, .int (nI (i + 1))), (3, .int (bI (S_mayN nw s1 s2 (i + 1) (j + 1)))), (4, .int (nI (j + 1)))]) (st0 := []) (by first | (simp only [S_whTi, c5, c6, Bool.false_eq_true, ↓reduceIte]; done) | (with_reducible rfl) | (simp [S_whTi, c5, c6, Bool.false_eq_true, ↓reduceIte]; done)) (by first | (simp only [S_mayN, bI, c5, c6, Bool.false_eq_true, ↓reduceIte]; done) | (with_reducible rfl) | (simp [S_mayN, bI, c5, c6, Bool.false_eq_true, ↓reduceIte]; done)) rfl ?_
          exact ihj hltj trivial
set_option maxHeartbeats 1000000 in
set_option maxRecDepth 100000 in
theorem kX2_share_bad (l : Launch) (D : va_G) (cI cZ cQ : ClassId) (a : Nat → Nat) (tx : Row) (ln : Nat) (nw tr di : Row) (ac nx : Nat) (ke ik s1 s2 : Row) (se : Nat) (sd : Int64) (wo re : Row) (v up : Int32) (hb : S_isM v = false) : Ct l D (gTy cI cZ cQ) yX2_share wsX2_share ({ frames := 8, cells := 0, slots := 0, locals := 230 }) [.ref (a 0), .int v, .int up] (MW cI cZ a tx ln nw tr di ac nx ke ik s1 s2 se sd wo re) (some (.int (-1))) (MW cI cZ a tx ln nw tr di ac nx ke ik s1 s2 se sd wo re) := by
  refine ct_ofI (cc := cX2_share) (nL := 6) (own := RX2) (by decide) rfl rfl ⟨rfl, rfl⟩ (Nat.le_of_ble_eq_true rfl) MW_same (fun p e s m below meth c A Q F hR => ?_)
  refine g_aw ([(a 0, .inr (2, [.ref (a 1), .int (nI ln), .ref (a 2), .ref (a 3), .ref (a 4), .int (nI ac), .int (nI nx), .ref (a 5), .ref (a 6), .ref (a 7), .ref (a 8), .int (nI se), .long sd, .ref (a 9), .ref (a 10)])), (a 1, .inl (cI, 60, .inl tx)), (a 2, .inl (cI, 79, .inl nw)), (a 3, .inl (cI, 79, .inl tr)), (a 4, .inl (cI, 1106, .inl di)), (a 5, .inl (cI, 158, .inl ke)), (a 6, .inl (cZ, 2, .inl ik)), (a 7, .inl (cI, 6, .inl s1)), (a 8, .inl (cI, 6, .inl s2)), (a 9, .inl (cI, 64, .inl wo)), (a 10, .inl (cI, 79, .inl re))]) rfl ?_
  refine g_iload_n F dX2_share_0 rfl 1 rfl ?_
  refine g_callSn F (As := [.int v]) (st := []) (kX2_isMember l D cI cZ cQ v) (va_cwS 1 F.2.2.2.2.1 gX2_share_X2_isMember rfl rfl rfl (by decide +kernel) ⟨Nat.le_of_ble_eq_true rfl, Nat.le_of_ble_eq_true rfl⟩) rfl rfl (Nat.le_of_ble_eq_true rfl) ⟨Nat.zero_le _, Nat.zero_le _⟩ dX2_share_1 ?_
  refine g_bne F 9 dX2_share_4 (by decide) (fun c1 => ?_) (fun c1 => ?_)
  · exact absurd c1 (by rw [hb]; decide)
  · refine g_iconst F (v := (-1)) dX2_share_7 (by decide) ?_
    exact g_endI (hR _ _ dX2_share_8) rfl rfl
theorem zX2_share_f35 : Cond.fieldLink RX2 35 (TX2 13).1 (TX2 13).2.1 (TX2 13).2.2.1 ∈ wsX2_share := by decide +kernel
theorem zX2_share_inX2 : ∀ w ∈ u_ws RX2 TX2 15, w ∈ wsX2_share := by decide +kernel
set_option maxHeartbeats 1000000 in
set_option maxRecDepth 100000 in
theorem kX2_share_ok (l : Launch) (D : va_G) (cI cZ cQ : ClassId) (a : Nat → Nat) (tx : Row) (ln : Nat) (nw tr di : Row) (ac nx : Nat) (ke ik s1 s2 : Row) (se : Nat) (sd : Int64) (wo re : Row) (k : Nat) (up : Int32) (hk : k < 6) (hz : Z67 nw) (X : Nat) (hX : S_abs (S_more nw k 64) = nI X) (hX1 : X < 2 ^ 31) : Ct l D (gTy cI cZ cQ) yX2_share wsX2_share ({ frames := 8, cells := 0, slots := 0, locals := 230 }) [.ref (a 0), .int (nI k), .int up] (MW cI cZ a tx ln nw tr di ac nx ke ik s1 s2 se sd wo re) (some (.int (S_frac (S_more nw k 64) (Nat.gcd X 720) 720 up))) (MW cI cZ a tx ln nw (S_shT nw tr 30 64) di ac nx ke ik s1 s2 se sd (S_put wo (S_shF nw 30) 0 64) re) := by
  refine ct_ofI (cc := cX2_share) (nL := 6) (own := RX2) (by decide) rfl rfl ⟨rfl, rfl⟩ (Nat.le_of_ble_eq_true rfl) MW_same (fun p e s m below meth c A Q F hR => ?_)
  refine g_aw ([(a 0, .inr (2, [.ref (a 1), .int (nI ln), .ref (a 2), .ref (a 3), .ref (a 4), .int (nI ac), .int (nI nx), .ref (a 5), .ref (a 6), .ref (a 7), .ref (a 8), .int (nI se), .long sd, .ref (a 9), .ref (a 10)])), (a 1, .inl (cI, 60, .inl tx)), (a 2, .inl (cI, 79, .inl nw)), (a 3, .inl (cI, 79, .inl tr)), (a 4, .inl (cI, 1106, .inl di)), (a 5, .inl (cI, 158, .inl ke)), (a 6, .inl (cZ, 2, .inl ik)), (a 7, .inl (cI, 6, .inl s1)), (a 8, .inl (cI, 6, .inl s2)), (a 9, .inl (cI, 64, .inl wo)), (a 10, .inl (cI, 79, .inl re))]) rfl ?_
  refine g_iload_n F dX2_share_0 rfl 1 rfl ?_
  refine g_callSn F (As := [.int (nI k)]) (st := []) (kX2_isMember l D cI cZ cQ (nI k)) (va_cwS 1 F.2.2.2.2.1 gX2_share_X2_isMember rfl rfl rfl (by decide +kernel) ⟨Nat.le_of_ble_eq_true rfl, Nat.le_of_ble_eq_true rfl⟩) rfl rfl (Nat.le_of_ble_eq_true rfl) ⟨Nat.zero_le _, Nat.zero_le _⟩ dX2_share_1 ?_
  refine g_bne F 9 dX2_share_4 (by decide) (fun c1 => ?_) (fun c1 => ?_)
  · refine g_iconst F (v := 0) dX2_share_9 (by decide) ?_
    refine g_istore_n F (lv' := [(0, .ref (a 0)), (1, .int (nI k)), (2, .int up), (3, .int 0)]) dX2_share_10 rfl (by decide) [1, 2, 3, 0] rfl ?_
    refine g_all (w0 := [(a 0, .inr (2, [.ref (a 1), .int (nI ln), .ref (a 2), .ref (a 3), .ref (a 4), .int (nI ac), .int (nI nx), .ref (a 5), .ref (a 6), .ref (a 7), .ref (a 8), .int (nI se), .long sd, .ref (a 9), .ref (a 10)])), (a 1, .inl (cI, 60, .inl tx)), (a 2, .inl (cI, 79, .inl nw)), (a 3, .inl (cI, 79, .inl (S_shT nw tr 30 0))), (a 4, .inl (cI, 1106, .inl di)), (a 5, .inl (cI, 158, .inl ke)), (a 6, .inl (cZ, 2, .inl ik)), (a 7, .inl (cI, 6, .inl s1)), (a 8, .inl (cI, 6, .inl s2)), (a 9, .inl (cI, 64, .inl (S_put wo (S_shF nw 30) 0 0))), (a 10, .inl (cI, 79, .inl re))]) (lv0 := [(0, .ref (a 0)), (1, .int (nI k)), (2, .int up), (3, .int (nI 0))]) (st0 := []) rfl rfl rfl ?_
    refine g_for 64 (fun i => True) (fun i => [(a 0, .inr (2, [.ref (a 1), .int (nI ln), .ref (a 2), .ref (a 3), .ref (a 4), .int (nI ac), .int (nI nx), .ref (a 5), .ref (a 6), .ref (a 7), .ref (a 8), .int (nI se), .long sd, .ref (a 9), .ref (a 10)])), (a 1, .inl (cI, 60, .inl tx)), (a 2, .inl (cI, 79, .inl nw)), (a 3, .inl (cI, 79, .inl (S_shT nw tr 30 i))), (a 4, .inl (cI, 1106, .inl di)), (a 5, .inl (cI, 158, .inl ke)), (a 6, .inl (cZ, 2, .inl ik)), (a 7, .inl (cI, 6, .inl s1)), (a 8, .inl (cI, 6, .inl s2)), (a 9, .inl (cI, 64, .inl (S_put wo (S_shF nw 30) 0 i))), (a 10, .inl (cI, 79, .inl re))]) (fun i => [(0, .ref (a 0)), (1, .int (nI k)), (2, .int up), (3, .int (nI i))]) (fun i hi hIi ihi => ?_) 0 (Nat.zero_le _) trivial
    refine g_iload_n F dX2_share_11 rfl 3 rfl ?_
    refine g_bipush F (v := 64) dX2_share_12 (by decide) ?_
    refine g_icmp_ge F 36 dX2_share_14 (by decide) (fun c2 => ?_) (fun c2 => ?_)
    · have hx_c2 : 64 = i := lp_ge hi (by decide) c2
      subst hx_c2
      refine g_iconst F (v := 0) dX2_share_36 (by decide) ?_
      refine g_istore_n F (lv' := [(0, .ref (a 0)), (1, .int (nI k)), (2, .int up), (3, .int 0)]) dX2_share_37 rfl (by decide) [1, 2, 3, 0] rfl ?_
      refine g_iconst F (v := 0) dX2_share_38 (by decide) ?_
      refine g_istore F (lv' := [(0, .ref (a 0)), (1, .int (nI k)), (2, .int up), (3, .int 0), (4, .int 0)]) dX2_share_39 (by decide) [1, 2, 3, 4, 0] rfl ?_
      refine g_all (w0 := [(a 0, .inr (2, [.ref (a 1), .int (nI ln), .ref (a 2), .ref (a 3), .ref (a 4), .int (nI ac), .int (nI nx), .ref (a 5), .ref (a 6), .ref (a 7), .ref (a 8), .int (nI se), .long sd, .ref (a 9), .ref (a 10)])), (a 1, .inl (cI, 60, .inl tx)), (a 2, .inl (cI, 79, .inl nw)), (a 3, .inl (cI, 79, .inl (S_shT nw tr 30 64))), (a 4, .inl (cI, 1106, .inl di)), (a 5, .inl (cI, 158, .inl ke)), (a 6, .inl (cZ, 2, .inl ik)), (a 7, .inl (cI, 6, .inl s1)), (a 8, .inl (cI, 6, .inl s2)), (a 9, .inl (cI, 64, .inl (S_put wo (S_shF nw 30) 0 64))), (a 10, .inl (cI, 79, .inl re))]) (lv0 := [(0, .ref (a 0)), (1, .int (nI k)), (2, .int up), (3, .int (S_more nw k 0)), (4, .int (nI 0))]) (st0 := []) rfl rfl rfl ?_
      refine g_for 64 (fun i => True) (fun i => [(a 0, .inr (2, [.ref (a 1), .int (nI ln), .ref (a 2), .ref (a 3), .ref (a 4), .int (nI ac), .int (nI nx), .ref (a 5), .ref (a 6), .ref (a 7), .ref (a 8), .int (nI se), .long sd, .ref (a 9), .ref (a 10)])), (a 1, .inl (cI, 60, .inl tx)), (a 2, .inl (cI, 79, .inl nw)), (a 3, .inl (cI, 79, .inl (S_shT nw tr 30 64))), (a 4, .inl (cI, 1106, .inl di)), (a 5, .inl (cI, 158, .inl ke)), (a 6, .inl (cZ, 2, .inl ik)), (a 7, .inl (cI, 6, .inl s1)), (a 8, .inl (cI, 6, .inl s2)), (a 9, .inl (cI, 64, .inl (S_put wo (S_shF nw 30) 0 64))), (a 10, .inl (cI, 79, .inl re))]) (fun i => [(0, .ref (a 0)), (1, .int (nI k)), (2, .int up), (3, .int (S_more nw k i)), (4, .int (nI i))]) (fun i hi hIi ihi => ?_) 0 (Nat.zero_le _) trivial
      refine g_iload F dX2_share_41 4 rfl ?_
      refine g_bipush F (v := 64) dX2_share_43 (by decide) ?_
      refine g_icmp_ge F 106 dX2_share_45 (by decide) (fun c3 => ?_) (fun c3 => ?_)
      · have hx_c3 : 64 = i := lp_ge hi (by decide) c3
        subst hx_c3
        refine g_iload_n F dX2_share_106 rfl 3 rfl ?_
        refine g_bipush F (v := 6) dX2_share_107 (by decide) ?_
        refine g_callSn F (As := [.int 6]) (st := [.int (S_more nw k 64)]) (kX2_factorial l D cI cZ cQ 6 (by omega)) (va_cwS 1 F.2.2.2.2.1 gX2_share_X2_factorial rfl rfl rfl (by decide +kernel) ⟨Nat.le_of_ble_eq_true rfl, Nat.le_of_ble_eq_true rfl⟩) rfl rfl (Nat.le_of_ble_eq_true rfl) ⟨Nat.zero_le _, Nat.zero_le _⟩ dX2_share_109 ?_
        refine g_as (nI 720) (by decide) ?_
        refine g_iload_n F dX2_share_112 rfl 2 rfl ?_
        refine g_callSn F (As := [.int (S_more nw k 64), .int (nI 720), .int up]) (st := []) (kX2_fraction l D cI cZ cQ (S_more nw k 64) up X 720 hX hX1 (by decide) (by decide)) (va_cwS 3 F.2.2.2.2.1 gX2_share_X2_fraction rfl rfl rfl (by decide +kernel) ⟨Nat.le_of_ble_eq_true rfl, Nat.le_of_ble_eq_true rfl⟩) rfl rfl (Nat.le_of_ble_eq_true rfl) ⟨Nat.zero_le _, Nat.zero_le _⟩ dX2_share_113 ?_
        exact g_endI (hR _ _ dX2_share_116) rfl rfl
      · have hlti : i < 64 := lp_lt hi (by decide) c3
        refine g_iload F dX2_share_48 4 rfl ?_
        refine g_iload_n F dX2_share_50 rfl 1 rfl ?_
        refine g_callSn F (As := [.int (nI i), .int (nI k)]) (st := []) (kX2_has l D cI cZ cQ (nI i) (nI k)) (va_cwS 2 F.2.2.2.2.1 gX2_share_X2_has rfl rfl rfl (by decide +kernel) ⟨Nat.le_of_ble_eq_true rfl, Nat.le_of_ble_eq_true rfl⟩) rfl rfl (Nat.le_of_ble_eq_true rfl) ⟨Nat.zero_le _, Nat.zero_le _⟩ dX2_share_51 ?_
        refine g_bne F 100 dX2_share_54 (by decide) (fun c4 => ?_) (fun c4 => ?_)
        · refine g_iinc F (lv' := [(0, .ref (a 0)), (1, .int (nI k)), (2, .int up), (3, .int (S_more nw k i)), (4, .int (nI (i + 1)))]) (nI (i + 1)) dX2_share_100 4 rfl (nI_add i 1) (by decide) [1, 2, 3, 4, 0] rfl ?_
          refine g_goto F 41 dX2_share_103 (by decide) ?_
          refine g_all (w0 := [(a 0, .inr (2, [.ref (a 1), .int (nI ln), .ref (a 2), .ref (a 3), .ref (a 4), .int (nI ac), .int (nI nx), .ref (a 5), .ref (a 6), .ref (a 7), .ref (a 8), .int (nI se), .long sd, .ref (a 9), .ref (a 10)])), (a 1, .inl (cI, 60, .inl tx)), (a 2, .inl (cI, 79, .inl nw)), (a 3, .inl (cI, 79, .inl (S_shT nw tr 30 64))), (a 4, .inl (cI, 1106, .inl di)), (a 5, .inl (cI, 158, .inl ke)), (a 6, .inl (cZ, 2, .inl ik)), (a 7, .inl (cI, 6, .inl s1)), (a 8, .inl (cI, 6, .inl s2)), (a 9, .inl (cI, 64, .inl (S_put wo (S_shF nw 30) 0 64))), (a 10, .inl (cI, 79, .inl re))]) (lv0 := [(0, .ref (a 0)), (1, .int (nI k)), (2, .int up), (3, .int (S_more nw k (i + 1))), (4, .int (nI (i + 1)))]) (st0 := []) rfl (by first | (simp only [S_more, c1, c4, Bool.false_eq_true, ↓reduceIte]; done) | (with_reducible rfl) | (simp [S_more, c1, c4, Bool.false_eq_true, ↓reduceIte]; done)) rfl ?_
          exact ihi hlti trivial
        · have hp5 := pc_5 k hk i hlti c4
          have hpo := pc_ok i hlti
          have hor := orb_ok k hk i hlti
          refine g_iload F dX2_share_57 4 rfl ?_
          refine g_callSn F (As := [.int (nI i)]) (st := []) (kX2_ones l D cI cZ cQ (nI i)) (va_cwS 1 F.2.2.2.2.1 gX2_share_X2_ones rfl rfl rfl (by decide +kernel) ⟨Nat.le_of_ble_eq_true rfl, Nat.le_of_ble_eq_true rfl⟩) rfl rfl (Nat.le_of_ble_eq_true rfl) ⟨Nat.zero_le _, Nat.zero_le _⟩ dX2_share_59 ?_
          refine g_as (nI (S_pc i)) hpo.1 ?_
          refine g_istore F (lv' := [(0, .ref (a 0)), (1, .int (nI k)), (2, .int up), (3, .int (S_more nw k i)), (4, .int (nI i)), (5, .int (nI (S_pc i)))]) dX2_share_62 (by decide) [1, 2, 3, 4, 5, 0] rfl ?_
          refine g_iload_n F dX2_share_64 rfl 3 rfl ?_
          refine g_iload F dX2_share_65 5 rfl ?_
          refine g_callSn F (As := [.int (nI (S_pc i))]) (st := [.int (S_more nw k i)]) (kX2_factorial l D cI cZ cQ (S_pc i) (by omega)) (va_cwS 1 F.2.2.2.2.1 gX2_share_X2_factorial rfl rfl rfl (by decide +kernel) ⟨Nat.le_of_ble_eq_true rfl, Nat.le_of_ble_eq_true rfl⟩) rfl rfl (Nat.le_of_ble_eq_true rfl) ⟨Nat.zero_le _, Nat.zero_le _⟩ dX2_share_67 ?_
          refine g_iconst F (v := 5) dX2_share_70 (by decide) ?_
          refine g_iload F dX2_share_71 5 rfl ?_
          refine g_isub F dX2_share_73 ?_
          refine g_as (nI (5 - S_pc i)) (pk_sub (a := 5) (by omega)) ?_
          refine g_callSn F (As := [.int (nI (5 - S_pc i))]) (st := [.int (S_facP (S_pc i - 1)), .int (S_more nw k i)]) (kX2_factorial l D cI cZ cQ (5 - S_pc i) (by omega)) (va_cwS 1 F.2.2.2.2.1 gX2_share_X2_factorial rfl rfl rfl (by decide +kernel) ⟨Nat.le_of_ble_eq_true rfl, Nat.le_of_ble_eq_true rfl⟩) rfl rfl (Nat.le_of_ble_eq_true rfl) ⟨Nat.zero_le _, Nat.zero_le _⟩ dX2_share_74 ?_
          refine g_imul F dX2_share_77 ?_
          refine g_aload_n F dX2_share_78 rfl 0 rfl ?_
          refine g_get F (.ref (a 9)) zX2_share_inX2 0 rfl rfl 13 (by decide) rfl zX2_share_f35 dX2_share_79 ?_
          refine g_iload F dX2_share_82 4 rfl ?_
          refine g_iconst F (v := 1) dX2_share_84 (by decide) ?_
          refine g_iload_n F dX2_share_85 rfl 1 rfl ?_
          refine g_ishl F dX2_share_86 ?_
          refine g_ior F dX2_share_87 ?_
          refine g_as (nI (S_orb i k)) hor.1 ?_
          refine g_iald F (j := S_orb i k) 9 0 rfl rfl (by omega) (by decide) dX2_share_88 ?_
          refine g_as (S_shF nw 30 (S_orb i k)) (S_put_0 wo (S_shF nw 30) 64 _ (by omega)) ?_
          refine g_aload_n F dX2_share_89 rfl 0 rfl ?_
          refine g_get F (.ref (a 9)) zX2_share_inX2 0 rfl rfl 13 (by decide) rfl zX2_share_f35 dX2_share_90 ?_
          refine g_iload F dX2_share_93 4 rfl ?_
          refine g_iald F (j := i) 9 0 rfl rfl (by omega) (by decide) dX2_share_95 ?_
          refine g_as (S_shF nw 30 i) (S_put_0 wo (S_shF nw 30) 64 _ (by omega)) ?_
          refine g_isub F dX2_share_96 ?_
          refine g_imul F dX2_share_97 ?_
          refine g_iadd F dX2_share_98 ?_
          refine g_istore_n F (lv' := [(0, .ref (a 0)), (1, .int (nI k)), (2, .int up), (3, .int ((S_more nw k i) + (((S_facP (S_pc i - 1)) * (S_facP (5 - S_pc i - 1))) * ((S_shF nw 30 (S_orb i k)) - (S_shF nw 30 i))))), (4, .int (nI i)), (5, .int (nI (S_pc i)))]) dX2_share_99 rfl (by decide) [1, 2, 3, 0, 4, 5] rfl ?_
          refine g_iinc F (lv' := [(0, .ref (a 0)), (1, .int (nI k)), (2, .int up), (3, .int ((S_more nw k i) + (((S_facP (S_pc i - 1)) * (S_facP (5 - S_pc i - 1))) * ((S_shF nw 30 (S_orb i k)) - (S_shF nw 30 i))))), (4, .int (nI (i + 1))), (5, .int (nI (S_pc i)))]) (nI (i + 1)) dX2_share_100 4 rfl (nI_add i 1) (by decide) [1, 2, 3, 4, 0, 5] rfl ?_
          refine g_goto F 41 dX2_share_103 (by decide) ?_
          refine g_lvs (lv' := [(0, .ref (a 0)), (1, .int (nI k)), (2, .int up), (3, .int ((S_more nw k i) + (((S_facP (S_pc i - 1)) * (S_facP (5 - S_pc i - 1))) * ((S_shF nw 30 (S_orb i k)) - (S_shF nw 30 i))))), (4, .int (nI (i + 1)))]) [0, 1, 2, 3, 4] rfl ?_
          refine g_all (w0 := [(a 0, .inr (2, [.ref (a 1), .int (nI ln), .ref (a 2), .ref (a 3), .ref (a 4), .int (nI ac), .int (nI nx), .ref (a 5), .ref (a 6), .ref (a 7), .ref (a 8), .int (nI se), .long sd, .ref (a 9), .ref (a 10)])), (a 1, .inl (cI, 60, .inl tx)), (a 2, .inl (cI, 79, .inl nw)), (a 3, .inl (cI, 79, .inl (S_shT nw tr 30 64))), (a 4, .inl (cI, 1106, .inl di)), (a 5, .inl (cI, 158, .inl ke)), (a 6, .inl (cZ, 2, .inl ik)), (a 7, .inl (cI, 6, .inl s1)), (a 8, .inl (cI, 6, .inl s2)), (a 9, .inl (cI, 64, .inl (S_put wo (S_shF nw 30) 0 64))), (a 10, .inl (cI, 79, .inl re))]) (lv0 := [(0, .ref (a 0)), (1, .int (nI k)), (2, .int up), (3, .int (S_more nw k (i + 1))), (4, .int (nI (i + 1)))]) (st0 := []) rfl (by first | (simp only [S_more, c1, c4, Bool.false_eq_true, ↓reduceIte]; done) | (with_reducible rfl) | (simp [S_more, c1, c4, Bool.false_eq_true, ↓reduceIte]; done)) rfl ?_
          exact ihi hlti trivial
    · have hlti : i < 64 := lp_lt hi (by decide) c2
      refine g_aload_n F dX2_share_17 rfl 0 rfl ?_
      refine g_get F (.ref (a 9)) zX2_share_inX2 0 rfl rfl 13 (by decide) rfl zX2_share_f35 dX2_share_18 ?_
      refine g_iload_n F dX2_share_21 rfl 3 rfl ?_
      refine g_aload_n F dX2_share_22 rfl 0 rfl ?_
      refine g_iload_n F dX2_share_23 rfl 3 rfl ?_
      refine g_bipush F (v := 30) dX2_share_24 (by decide) ?_
      refine g_callVs F (As := [.int (nI i), .int 30]) (st := [.int (nI i), .ref (a 9)]) (kX2_lettersBy l D cI cZ cQ a tx ln nw (S_shT nw tr 30 i) di ac nx ke ik s1 s2 se sd (S_put wo (S_shF nw 30) 0 i) re (nI i) 30 (by decide) hz) 0 rfl rfl (cwV 2 F.2.2.2.2.1 gX2_share_X2_lettersBy rfl rfl rfl (by decide +kernel) ⟨Nat.le_of_ble_eq_true rfl, Nat.le_of_ble_eq_true rfl⟩) rfl rfl (Nat.le_of_ble_eq_true rfl) ⟨Nat.zero_le _, Nat.zero_le _⟩ dX2_share_26 ?_
      refine g_iast F (j := i) ([(a 0, .inr (2, [.ref (a 1), .int (nI ln), .ref (a 2), .ref (a 3), .ref (a 4), .int (nI ac), .int (nI nx), .ref (a 5), .ref (a 6), .ref (a 7), .ref (a 8), .int (nI se), .long sd, .ref (a 9), .ref (a 10)])), (a 1, .inl (cI, 60, .inl tx)), (a 2, .inl (cI, 79, .inl nw)), (a 3, .inl (cI, 79, .inl (S_ticks (S_only nw (nI i)) 30))), (a 4, .inl (cI, 1106, .inl di)), (a 5, .inl (cI, 158, .inl ke)), (a 6, .inl (cZ, 2, .inl ik)), (a 7, .inl (cI, 6, .inl s1)), (a 8, .inl (cI, 6, .inl s2)), (a 9, .inl (cI, 64, .inl (upd (S_put wo (S_shF nw 30) 0 i) i (S_pass (S_only nw (nI i)) 30)))), (a 10, .inl (cI, 79, .inl re))]) 9 0 rfl rfl (by omega) (by decide) dX2_share_29 rfl ?_
      refine g_iinc F (lv' := [(0, .ref (a 0)), (1, .int (nI k)), (2, .int up), (3, .int (nI (i + 1)))]) (nI (i + 1)) dX2_share_30 3 rfl (nI_add i 1) (by decide) [1, 2, 3, 0] rfl ?_
      refine g_goto F 11 dX2_share_33 (by decide) ?_
      refine g_all (w0 := [(a 0, .inr (2, [.ref (a 1), .int (nI ln), .ref (a 2), .ref (a 3), .ref (a 4), .int (nI ac), .int (nI nx), .ref (a 5), .ref (a 6), .ref (a 7), .ref (a 8), .int (nI se), .long sd, .ref (a 9), .ref (a 10)])), (a 1, .inl (cI, 60, .inl tx)), (a 2, .inl (cI, 79, .inl nw)), (a 3, .inl (cI, 79, .inl (S_shT nw tr 30 (i + 1)))), (a 4, .inl (cI, 1106, .inl di)), (a 5, .inl (cI, 158, .inl ke)), (a 6, .inl (cZ, 2, .inl ik)), (a 7, .inl (cI, 6, .inl s1)), (a 8, .inl (cI, 6, .inl s2)), (a 9, .inl (cI, 64, .inl (S_put wo (S_shF nw 30) 0 (i + 1)))), (a 10, .inl (cI, 79, .inl re))]) (lv0 := [(0, .ref (a 0)), (1, .int (nI k)), (2, .int up), (3, .int (nI (i + 1)))]) (st0 := []) (by rw [S_put_s, Nat.zero_add]; rfl) rfl rfl ?_
      exact ihi hlti trivial
  · exact absurd c1 (by rw [isM_nI hk]; decide)
theorem zX2_chance_c151 : Cond.constantLong RX2 151 (99) ∈ wsX2_chance := by decide +kernel
theorem zX2_chance_c186 : Cond.constantLong RX2 186 (10) ∈ wsX2_chance := by decide +kernel
set_option maxHeartbeats 1000000 in
set_option maxRecDepth 100000 in
theorem kX2_chance_bad (l : Launch) (D : va_G) (cI cZ cQ : ClassId) (a : Nat → Nat) (tx : Row) (ln : Nat) (nw tr di : Row) (ac nx : Nat) (ke ik s1 s2 : Row) (se : Nat) (sd : Int64) (wo re : Row) (v u up : Int32) (hb : S_in (Int32.toInt64 v) 0 99 = false ∨ S_in (Int32.toInt64 u) 0 10 = false) : Ct l D (gTy cI cZ cQ) yX2_chance wsX2_chance ({ frames := 8, cells := 0, slots := 0, locals := 230 }) [.ref (a 0), .int v, .int u, .int up] (MW cI cZ a tx ln nw tr di ac nx ke ik s1 s2 se sd wo re) (some (.int (-2))) (MW cI cZ a tx ln nw tr di ac nx ke ik s1 s2 se sd wo re) := by
  refine ct_ofI (cc := cX2_chance) (nL := 7) (own := RX2) (by decide) rfl rfl ⟨rfl, rfl⟩ (Nat.le_of_ble_eq_true rfl) MW_same (fun p e s m below meth c A Q F hR => ?_)
  refine g_aw ([(a 0, .inr (2, [.ref (a 1), .int (nI ln), .ref (a 2), .ref (a 3), .ref (a 4), .int (nI ac), .int (nI nx), .ref (a 5), .ref (a 6), .ref (a 7), .ref (a 8), .int (nI se), .long sd, .ref (a 9), .ref (a 10)])), (a 1, .inl (cI, 60, .inl tx)), (a 2, .inl (cI, 79, .inl nw)), (a 3, .inl (cI, 79, .inl tr)), (a 4, .inl (cI, 1106, .inl di)), (a 5, .inl (cI, 158, .inl ke)), (a 6, .inl (cZ, 2, .inl ik)), (a 7, .inl (cI, 6, .inl s1)), (a 8, .inl (cI, 6, .inl s2)), (a 9, .inl (cI, 64, .inl wo)), (a 10, .inl (cI, 79, .inl re))]) rfl ?_
  refine g_iload_n F dX2_chance_0 rfl 1 rfl ?_
  refine g_i2l F dX2_chance_1 ?_
  refine g_lconst F (v := 0) dX2_chance_2 (by decide) ?_
  refine g_ldc2 F zX2_chance_c151 dX2_chance_3 ?_
  refine g_callSn F (As := [.long (Int32.toInt64 v), .long 0, .long 99]) (st := []) (kX2_in l D cI cZ cQ (Int32.toInt64 v) 0 99) (va_cwS 3 F.2.2.2.2.1 gX2_chance_X2_in rfl rfl rfl (by decide +kernel) ⟨Nat.le_of_ble_eq_true rfl, Nat.le_of_ble_eq_true rfl⟩) rfl rfl (Nat.le_of_ble_eq_true rfl) ⟨Nat.zero_le _, Nat.zero_le _⟩ dX2_chance_6 ?_
  refine g_beq F 24 dX2_chance_9 (by decide) (fun c1 => ?_) (fun c1 => ?_)
  · refine g_bipush F (v := (-2)) dX2_chance_24 (by decide) ?_
    exact g_endI (hR _ _ dX2_chance_26) rfl rfl
  · refine g_iload_n F dX2_chance_12 rfl 2 rfl ?_
    refine g_i2l F dX2_chance_13 ?_
    refine g_lconst F (v := 0) dX2_chance_14 (by decide) ?_
    refine g_ldc2 F zX2_chance_c186 dX2_chance_15 ?_
    refine g_callSn F (As := [.long (Int32.toInt64 u), .long 0, .long 10]) (st := []) (kX2_in l D cI cZ cQ (Int32.toInt64 u) 0 10) (va_cwS 3 F.2.2.2.2.1 gX2_chance_X2_in rfl rfl rfl (by decide +kernel) ⟨Nat.le_of_ble_eq_true rfl, Nat.le_of_ble_eq_true rfl⟩) rfl rfl (Nat.le_of_ble_eq_true rfl) ⟨Nat.zero_le _, Nat.zero_le _⟩ dX2_chance_18 ?_
    refine g_bne F 27 dX2_chance_21 (by decide) (fun c2 => ?_) (fun c2 => ?_)
    · exact absurd hb (by rw [c1, c2]; decide)
    · refine g_bipush F (v := (-2)) dX2_chance_24 (by decide) ?_
      exact g_endI (hR _ _ dX2_chance_26) rfl rfl
set_option maxHeartbeats 1000000 in
set_option maxRecDepth 100000 in
theorem kX2_chance_ok (l : Launch) (D : va_G) (cI cZ cQ : ClassId) (a : Nat → Nat) (tx : Row) (ln : Nat) (nw tr di : Row) (ac nx : Nat) (ke ik s1 s2 : Row) (se : Nat) (sd : Int64) (wo re : Row) (v : Int32) (q : Nat) (up : Int32) (hv : S_in (Int32.toInt64 v) 0 99 = true) (hu : S_in (Int32.toInt64 (nI q)) 0 10 = true) (hz : Z67 nw) (X : Nat) (hX : S_abs (S_chN nw v q 64) = nI X) (hX1 : X < 2 ^ 31) : Ct l D (gTy cI cZ cQ) yX2_chance wsX2_chance ({ frames := 8, cells := 0, slots := 0, locals := 230 }) [.ref (a 0), .int v, .int (nI q), .int up] (MW cI cZ a tx ln nw tr di ac nx ke ik s1 s2 se sd wo re) (some (.int (S_frac (S_chN nw v q 64) (Nat.gcd X 1000000) 1000000 up))) (MW cI cZ a tx ln nw (S_shT nw tr 20 64) di ac nx ke ik s1 s2 se sd wo re) := by
  refine ct_ofI (cc := cX2_chance) (nL := 7) (own := RX2) (by decide) rfl rfl ⟨rfl, rfl⟩ (Nat.le_of_ble_eq_true rfl) MW_same (fun p e s m below meth c A Q F hR => ?_)
  refine g_aw ([(a 0, .inr (2, [.ref (a 1), .int (nI ln), .ref (a 2), .ref (a 3), .ref (a 4), .int (nI ac), .int (nI nx), .ref (a 5), .ref (a 6), .ref (a 7), .ref (a 8), .int (nI se), .long sd, .ref (a 9), .ref (a 10)])), (a 1, .inl (cI, 60, .inl tx)), (a 2, .inl (cI, 79, .inl nw)), (a 3, .inl (cI, 79, .inl tr)), (a 4, .inl (cI, 1106, .inl di)), (a 5, .inl (cI, 158, .inl ke)), (a 6, .inl (cZ, 2, .inl ik)), (a 7, .inl (cI, 6, .inl s1)), (a 8, .inl (cI, 6, .inl s2)), (a 9, .inl (cI, 64, .inl wo)), (a 10, .inl (cI, 79, .inl re))]) rfl ?_
  refine g_iload_n F dX2_chance_0 rfl 1 rfl ?_
  refine g_i2l F dX2_chance_1 ?_
  refine g_lconst F (v := 0) dX2_chance_2 (by decide) ?_
  refine g_ldc2 F zX2_chance_c151 dX2_chance_3 ?_
  refine g_callSn F (As := [.long (Int32.toInt64 v), .long 0, .long 99]) (st := []) (kX2_in l D cI cZ cQ (Int32.toInt64 v) 0 99) (va_cwS 3 F.2.2.2.2.1 gX2_chance_X2_in rfl rfl rfl (by decide +kernel) ⟨Nat.le_of_ble_eq_true rfl, Nat.le_of_ble_eq_true rfl⟩) rfl rfl (Nat.le_of_ble_eq_true rfl) ⟨Nat.zero_le _, Nat.zero_le _⟩ dX2_chance_6 ?_
  refine g_beq F 24 dX2_chance_9 (by decide) (fun c1 => ?_) (fun c1 => ?_)
  · exact absurd c1 (by rw [hv]; decide)
  · refine g_iload_n F dX2_chance_12 rfl 2 rfl ?_
    refine g_i2l F dX2_chance_13 ?_
    refine g_lconst F (v := 0) dX2_chance_14 (by decide) ?_
    refine g_ldc2 F zX2_chance_c186 dX2_chance_15 ?_
    refine g_callSn F (As := [.long (Int32.toInt64 (nI q)), .long 0, .long 10]) (st := []) (kX2_in l D cI cZ cQ (Int32.toInt64 (nI q)) 0 10) (va_cwS 3 F.2.2.2.2.1 gX2_chance_X2_in rfl rfl rfl (by decide +kernel) ⟨Nat.le_of_ble_eq_true rfl, Nat.le_of_ble_eq_true rfl⟩) rfl rfl (Nat.le_of_ble_eq_true rfl) ⟨Nat.zero_le _, Nat.zero_le _⟩ dX2_chance_18 ?_
    refine g_bne F 27 dX2_chance_21 (by decide) (fun c2 => ?_) (fun c2 => ?_)
    · refine g_iconst F (v := 0) dX2_chance_27 (by decide) ?_
      refine g_istore F (lv' := [(0, .ref (a 0)), (1, .int v), (2, .int (nI q)), (3, .int up), (4, .int 0)]) dX2_chance_28 (by decide) [1, 2, 3, 4, 0] rfl ?_
      refine g_iconst F (v := 0) dX2_chance_30 (by decide) ?_
      refine g_istore F (lv' := [(0, .ref (a 0)), (1, .int v), (2, .int (nI q)), (3, .int up), (4, .int 0), (5, .int 0)]) dX2_chance_31 (by decide) [1, 2, 3, 4, 5, 0] rfl ?_
      refine g_all (w0 := [(a 0, .inr (2, [.ref (a 1), .int (nI ln), .ref (a 2), .ref (a 3), .ref (a 4), .int (nI ac), .int (nI nx), .ref (a 5), .ref (a 6), .ref (a 7), .ref (a 8), .int (nI se), .long sd, .ref (a 9), .ref (a 10)])), (a 1, .inl (cI, 60, .inl tx)), (a 2, .inl (cI, 79, .inl nw)), (a 3, .inl (cI, 79, .inl (S_shT nw tr 20 0))), (a 4, .inl (cI, 1106, .inl di)), (a 5, .inl (cI, 158, .inl ke)), (a 6, .inl (cZ, 2, .inl ik)), (a 7, .inl (cI, 6, .inl s1)), (a 8, .inl (cI, 6, .inl s2)), (a 9, .inl (cI, 64, .inl wo)), (a 10, .inl (cI, 79, .inl re))]) (lv0 := [(0, .ref (a 0)), (1, .int v), (2, .int (nI q)), (3, .int up), (4, .int (S_chN nw v q 0)), (5, .int (nI 0))]) (st0 := []) rfl rfl rfl ?_
      refine g_for 64 (fun i => True) (fun i => [(a 0, .inr (2, [.ref (a 1), .int (nI ln), .ref (a 2), .ref (a 3), .ref (a 4), .int (nI ac), .int (nI nx), .ref (a 5), .ref (a 6), .ref (a 7), .ref (a 8), .int (nI se), .long sd, .ref (a 9), .ref (a 10)])), (a 1, .inl (cI, 60, .inl tx)), (a 2, .inl (cI, 79, .inl nw)), (a 3, .inl (cI, 79, .inl (S_shT nw tr 20 i))), (a 4, .inl (cI, 1106, .inl di)), (a 5, .inl (cI, 158, .inl ke)), (a 6, .inl (cZ, 2, .inl ik)), (a 7, .inl (cI, 6, .inl s1)), (a 8, .inl (cI, 6, .inl s2)), (a 9, .inl (cI, 64, .inl wo)), (a 10, .inl (cI, 79, .inl re))]) (fun i => [(0, .ref (a 0)), (1, .int v), (2, .int (nI q)), (3, .int up), (4, .int (S_chN nw v q i)), (5, .int (nI i))]) (fun i hi hIi ihi => ?_) 0 (Nat.zero_le _) trivial
      refine g_iload F dX2_chance_33 5 rfl ?_
      refine g_bipush F (v := 64) dX2_chance_35 (by decide) ?_
      refine g_icmp_ge F 93 dX2_chance_37 (by decide) (fun c3 => ?_) (fun c3 => ?_)
      · have hx_c3 : 64 = i := lp_ge hi (by decide) c3
        subst hx_c3
        refine g_iload F dX2_chance_93 4 rfl ?_
        refine g_bipush F (v := 10) dX2_chance_95 (by decide) ?_
        refine g_bipush F (v := 6) dX2_chance_97 (by decide) ?_
        refine g_callSn F (As := [.int 10, .int 6]) (st := [.int (S_chN nw v q 64)]) (kX2_power l D cI cZ cQ 10 6 (by omega)) (va_cwS 2 F.2.2.2.2.1 gX2_chance_X2_power rfl rfl rfl (by decide +kernel) ⟨Nat.le_of_ble_eq_true rfl, Nat.le_of_ble_eq_true rfl⟩) rfl rfl (Nat.le_of_ble_eq_true rfl) ⟨Nat.zero_le _, Nat.zero_le _⟩ dX2_chance_99 ?_
        refine g_as (nI 1000000) (by decide) ?_
        refine g_iload_n F dX2_chance_102 rfl 3 rfl ?_
        refine g_callSn F (As := [.int (S_chN nw v q 64), .int (nI 1000000), .int up]) (st := []) (kX2_fraction l D cI cZ cQ (S_chN nw v q 64) up X 1000000 hX hX1 (by decide) (by decide)) (va_cwS 3 F.2.2.2.2.1 gX2_chance_X2_fraction rfl rfl rfl (by decide +kernel) ⟨Nat.le_of_ble_eq_true rfl, Nat.le_of_ble_eq_true rfl⟩) rfl rfl (Nat.le_of_ble_eq_true rfl) ⟨Nat.zero_le _, Nat.zero_le _⟩ dX2_chance_103 ?_
        exact g_endI (hR _ _ dX2_chance_106) rfl rfl
      · have hlti : i < 64 := lp_lt hi (by decide) c3
        refine g_iload F dX2_chance_40 5 rfl ?_
        refine g_callSn F (As := [.int (nI i)]) (st := []) (kX2_ones l D cI cZ cQ (nI i)) (va_cwS 1 F.2.2.2.2.1 gX2_chance_X2_ones rfl rfl rfl (by decide +kernel) ⟨Nat.le_of_ble_eq_true rfl, Nat.le_of_ble_eq_true rfl⟩) rfl rfl (Nat.le_of_ble_eq_true rfl) ⟨Nat.zero_le _, Nat.zero_le _⟩ dX2_chance_42 ?_
        have hpo := pc_ok i hlti
        refine g_as (nI (S_pc i)) hpo.1 ?_
        refine g_istore F (lv' := [(0, .ref (a 0)), (1, .int v), (2, .int (nI q)), (3, .int up), (4, .int (S_chN nw v q i)), (5, .int (nI i)), (6, .int (nI (S_pc i)))]) dX2_chance_45 (by decide) [1, 2, 3, 4, 5, 6, 0] rfl ?_
        refine g_iload F dX2_chance_47 4 rfl ?_
        refine g_aload_n F dX2_chance_49 rfl 0 rfl ?_
        refine g_iload F dX2_chance_50 5 rfl ?_
        refine g_bipush F (v := 20) dX2_chance_52 (by decide) ?_
        refine g_callVs F (As := [.int (nI i), .int 20]) (st := [.int (S_chN nw v q i)]) (kX2_lettersBy l D cI cZ cQ a tx ln nw (S_shT nw tr 20 i) di ac nx ke ik s1 s2 se sd wo re (nI i) 20 (by decide) hz) 0 rfl rfl (cwV 2 F.2.2.2.2.1 gX2_chance_X2_lettersBy rfl rfl rfl (by decide +kernel) ⟨Nat.le_of_ble_eq_true rfl, Nat.le_of_ble_eq_true rfl⟩) rfl rfl (Nat.le_of_ble_eq_true rfl) ⟨Nat.zero_le _, Nat.zero_le _⟩ dX2_chance_54 ?_
        refine g_iload_n F dX2_chance_57 rfl 1 rfl ?_
        have hJ5 : Go p l e ({ frames := 8, cells := 0, slots := 0, locals := 230 }) s m (List.toArray [.ref (a 0), .int v, .int (nI q), .int up]) below meth c Q D A 7 0 0 ([(a 0, .inr (2, [.ref (a 1), .int (nI ln), .ref (a 2), .ref (a 3), .ref (a 4), .int (nI ac), .int (nI nx), .ref (a 5), .ref (a 6), .ref (a 7), .ref (a 8), .int (nI se), .long sd, .ref (a 9), .ref (a 10)])), (a 1, .inl (cI, 60, .inl tx)), (a 2, .inl (cI, 79, .inl nw)), (a 3, .inl (cI, 79, .inl (S_ticks (S_only nw (nI i)) 20))), (a 4, .inl (cI, 1106, .inl di)), (a 5, .inl (cI, 158, .inl ke)), (a 6, .inl (cZ, 2, .inl ik)), (a 7, .inl (cI, 6, .inl s1)), (a 8, .inl (cI, 6, .inl s2)), (a 9, .inl (cI, 64, .inl wo)), (a 10, .inl (cI, 79, .inl re))]) 84 [(0, .ref (a 0)), (1, .int v), (2, .int (nI q)), (3, .int up), (4, .int (S_chN nw v q i)), (5, .int (nI i)), (6, .int (nI (S_pc i)))] [.int (S_chc nw v q i), .int (S_chN nw v q i)] := by
          refine g_iadd F dX2_chance_84 ?_
          refine g_istore F (lv' := [(0, .ref (a 0)), (1, .int v), (2, .int (nI q)), (3, .int up), (4, .int ((S_chN nw v q i) + (S_chc nw v q i))), (5, .int (nI i)), (6, .int (nI (S_pc i)))]) dX2_chance_85 (by decide) [1, 2, 3, 4, 0, 5, 6] rfl ?_
          refine g_iinc F (lv' := [(0, .ref (a 0)), (1, .int v), (2, .int (nI q)), (3, .int up), (4, .int ((S_chN nw v q i) + (S_chc nw v q i))), (5, .int (nI (i + 1))), (6, .int (nI (S_pc i)))]) (nI (i + 1)) dX2_chance_87 5 rfl (nI_add i 1) (by decide) [1, 2, 3, 4, 5, 0, 6] rfl ?_
          refine g_goto F 33 dX2_chance_90 (by decide) ?_
          refine g_lvs (lv' := [(0, .ref (a 0)), (1, .int v), (2, .int (nI q)), (3, .int up), (4, .int ((S_chN nw v q i) + (S_chc nw v q i))), (5, .int (nI (i + 1)))]) [0, 1, 2, 3, 4, 5] rfl ?_
          refine g_all (w0 := [(a 0, .inr (2, [.ref (a 1), .int (nI ln), .ref (a 2), .ref (a 3), .ref (a 4), .int (nI ac), .int (nI nx), .ref (a 5), .ref (a 6), .ref (a 7), .ref (a 8), .int (nI se), .long sd, .ref (a 9), .ref (a 10)])), (a 1, .inl (cI, 60, .inl tx)), (a 2, .inl (cI, 79, .inl nw)), (a 3, .inl (cI, 79, .inl (S_shT nw tr 20 (i + 1)))), (a 4, .inl (cI, 1106, .inl di)), (a 5, .inl (cI, 158, .inl ke)), (a 6, .inl (cZ, 2, .inl ik)), (a 7, .inl (cI, 6, .inl s1)), (a 8, .inl (cI, 6, .inl s2)), (a 9, .inl (cI, 64, .inl wo)), (a 10, .inl (cI, 79, .inl re))]) (lv0 := [(0, .ref (a 0)), (1, .int v), (2, .int (nI q)), (3, .int up), (4, .int (S_chN nw v q (i + 1))), (5, .int (nI (i + 1)))]) (st0 := []) rfl rfl rfl ?_
          exact ihi hlti trivial
        refine g_icmp_lt F 83 dX2_chance_58 (by decide) (fun c4 => ?_) (fun c4 => ?_)
        · refine g_iconst F (v := 0) dX2_chance_83 (by decide) ?_
          refine g_as (S_chc nw v q i) (by unfold S_chc; rw [if_pos (show S_shF nw 20 i < v from c4)]) ?_
          exact hJ5
        · refine g_bipush F (v := 10) dX2_chance_61 (by decide) ?_
          refine g_iload_n F dX2_chance_63 rfl 2 rfl ?_
          refine g_isub F dX2_chance_64 ?_
          refine g_iload F dX2_chance_65 6 rfl ?_
          refine g_callSn F (As := [.int (10 - (nI q)), .int (nI (S_pc i))]) (st := [.int (S_chN nw v q i)]) (kX2_power l D cI cZ cQ (10 - (nI q)) (S_pc i) (by omega)) (va_cwS 2 F.2.2.2.2.1 gX2_chance_X2_power rfl rfl rfl (by decide +kernel) ⟨Nat.le_of_ble_eq_true rfl, Nat.le_of_ble_eq_true rfl⟩) rfl rfl (Nat.le_of_ble_eq_true rfl) ⟨Nat.zero_le _, Nat.zero_le _⟩ dX2_chance_67 ?_
          refine g_iload_n F dX2_chance_70 rfl 2 rfl ?_
          refine g_bipush F (v := 6) dX2_chance_71 (by decide) ?_
          refine g_iload F dX2_chance_73 6 rfl ?_
          refine g_isub F dX2_chance_75 ?_
          refine g_as (nI (6 - S_pc i)) (pk_sub (a := 6) (by omega)) ?_
          refine g_callSn F (As := [.int (nI q), .int (nI (6 - S_pc i))]) (st := [.int (S_pow (10 - (nI q)) (S_pc i)), .int (S_chN nw v q i)]) (kX2_power l D cI cZ cQ (nI q) (6 - S_pc i) (by omega)) (va_cwS 2 F.2.2.2.2.1 gX2_chance_X2_power rfl rfl rfl (by decide +kernel) ⟨Nat.le_of_ble_eq_true rfl, Nat.le_of_ble_eq_true rfl⟩) rfl rfl (Nat.le_of_ble_eq_true rfl) ⟨Nat.zero_le _, Nat.zero_le _⟩ dX2_chance_76 ?_
          refine g_imul F dX2_chance_79 ?_
          refine g_goto F 84 dX2_chance_80 (by decide) ?_
          refine g_as (S_chc nw v q i) (by unfold S_chc; rw [if_neg (show ¬ S_shF nw 20 i < v from c4)]) ?_
          exact hJ5
    · exact absurd c2 (by rw [hu]; decide)
