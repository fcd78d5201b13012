theorem zX2_rest_f13 : Cond.fieldLink RX2 13 (TX2 2).1 (TX2 2).2.1 (TX2 2).2.2.1 ∈ wsX2_rest := by decide +kernel
theorem zX2_rest_f16 : Cond.fieldLink RX2 16 (TX2 3).1 (TX2 3).2.1 (TX2 3).2.2.1 ∈ wsX2_rest := by decide +kernel
theorem zX2_rest_inX2 : ∀ w ∈ u_ws RX2 TX2 15, w ∈ wsX2_rest := by decide +kernel
set_option maxHeartbeats 1000000 in
set_option maxRecDepth 100000 in
theorem kX2_rest (l : Launch) (D : va_G) (cI cZ cQ : ClassId) (a : Nat → Nat) (tx : Row) (ln : Nat) (nw tr di : Row) (ac nx : Nat) (ke ik s1 s2 : Row) (se : Nat) (sd : Int64) (wo re : Row) (hz : Z67 nw) : Ct l D (gTy cI cZ cQ) yX2_rest wsX2_rest ({ frames := 6, cells := 0, slots := 0, locals := 180 }) [.ref (a 0)] (MW cI cZ a tx ln nw tr di ac nx ke ik s1 s2 se sd wo re) (some (.int (S_rest (fun f => S_isN f 6) nw 0 100))) (MW cI cZ a tx ln nw (S_restT (fun f => S_isN f 6) nw 0 100) di ac nx ke ik s1 s2 se sd wo re) := by
  refine ct_ofI (cc := cX2_rest) (nL := 5) (own := RX2) (by decide) rfl rfl ⟨rfl, rfl⟩ (Nat.le_of_ble_eq_true rfl) MW_same (fun p e s m below meth c A Q F hR => ?_)
  refine g_aw ([(a 0, .inr (2, [.ref (a 1), .int (nI ln), .ref (a 2), .ref (a 3), .ref (a 4), .int (nI ac), .int (nI nx), .ref (a 5), .ref (a 6), .ref (a 7), .ref (a 8), .int (nI se), .long sd, .ref (a 9), .ref (a 10)])), (a 1, .inl (cI, 60, .inl tx)), (a 2, .inl (cI, 79, .inl nw)), (a 3, .inl (cI, 79, .inl tr)), (a 4, .inl (cI, 1106, .inl di)), (a 5, .inl (cI, 158, .inl ke)), (a 6, .inl (cZ, 2, .inl ik)), (a 7, .inl (cI, 6, .inl s1)), (a 8, .inl (cI, 6, .inl s2)), (a 9, .inl (cI, 64, .inl wo)), (a 10, .inl (cI, 79, .inl re))]) rfl ?_
  refine g_aload_n F dX2_rest_0 rfl 0 rfl ?_
  refine g_get F (.ref (a 2)) zX2_rest_inX2 0 rfl rfl 2 (by decide) rfl zX2_rest_f13 dX2_rest_1 ?_
  refine g_aload_n F dX2_rest_4 rfl 0 rfl ?_
  refine g_get F (.ref (a 3)) zX2_rest_inX2 0 rfl rfl 3 (by decide) rfl zX2_rest_f16 dX2_rest_5 ?_
  refine g_callS F (As := [.ref (a 2), .ref (a 3)]) (st := []) ([(a 0, .inr (2, [.ref (a 1), .int (nI ln), .ref (a 2), .ref (a 3), .ref (a 4), .int (nI ac), .int (nI nx), .ref (a 5), .ref (a 6), .ref (a 7), .ref (a 8), .int (nI se), .long sd, .ref (a 9), .ref (a 10)])), (a 1, .inl (cI, 60, .inl tx)), (a 4, .inl (cI, 1106, .inl di)), (a 5, .inl (cI, 158, .inl ke)), (a 6, .inl (cZ, 2, .inl ik)), (a 7, .inl (cI, 6, .inl s1)), (a 8, .inl (cI, 6, .inl s2)), (a 9, .inl (cI, 64, .inl wo)), (a 10, .inl (cI, 79, .inl re))]) ([(a 0, .inr (2, [.ref (a 1), .int (nI ln), .ref (a 2), .ref (a 3), .ref (a 4), .int (nI ac), .int (nI nx), .ref (a 5), .ref (a 6), .ref (a 7), .ref (a 8), .int (nI se), .long sd, .ref (a 9), .ref (a 10)])), (a 1, .inl (cI, 60, .inl tx)), (a 2, .inl (cI, 79, .inl nw)), (a 3, .inl (cI, 79, .inl nw)), (a 4, .inl (cI, 1106, .inl di)), (a 5, .inl (cI, 158, .inl ke)), (a 6, .inl (cZ, 2, .inl ik)), (a 7, .inl (cI, 6, .inl s1)), (a 8, .inl (cI, 6, .inl s2)), (a 9, .inl (cI, 64, .inl wo)), (a 10, .inl (cI, 79, .inl re))]) [2, 3] [0, 1, 4, 5, 6, 7, 8, 9, 10] [0, 1, 9, 10, 2, 3, 4, 5, 6, 7, 8] (kX2_copy l D cI cZ cQ (a 2) (a 3) nw tr) (va_cwS 2 F.2.2.2.2.1 gX2_rest_X2_copy rfl rfl rfl (by decide +kernel) ⟨Nat.le_of_ble_eq_true rfl, Nat.le_of_ble_eq_true rfl⟩) rfl rfl rfl rfl (by decide) (by decide) (by decide) rfl (by decide) (Nat.le_of_ble_eq_true rfl) ⟨Nat.zero_le _, Nat.zero_le _⟩ dX2_rest_8 ?_
  refine g_iconst F (v := 0) dX2_rest_11 (by decide) ?_
  refine g_istore_n F (lv' := [(0, .ref (a 0)), (1, .int 0)]) dX2_rest_12 rfl (by decide) [1, 0] rfl ?_
  refine g_all (w0 := [(a 0, .inr (2, [.ref (a 1), .int (nI ln), .ref (a 2), .ref (a 3), .ref (a 4), .int (nI ac), .int (nI nx), .ref (a 5), .ref (a 6), .ref (a 7), .ref (a 8), .int (nI se), .long sd, .ref (a 9), .ref (a 10)])), (a 1, .inl (cI, 60, .inl tx)), (a 2, .inl (cI, 79, .inl nw)), (a 3, .inl (cI, 79, .inl (S_ticks nw 0))), (a 4, .inl (cI, 1106, .inl di)), (a 5, .inl (cI, 158, .inl ke)), (a 6, .inl (cZ, 2, .inl ik)), (a 7, .inl (cI, 6, .inl s1)), (a 8, .inl (cI, 6, .inl s2)), (a 9, .inl (cI, 64, .inl wo)), (a 10, .inl (cI, 79, .inl re))]) (lv0 := [(0, .ref (a 0)), (1, .int (nI 0))]) (st0 := []) rfl rfl rfl ?_
  refine g_for 100 (fun i => S_rest (fun f => S_isN f 6) nw 0 100 = S_rest (fun f => S_isN f 6) nw i (100 - i) ∧ S_restT (fun f => S_isN f 6) nw 0 100 = S_restT (fun f => S_isN f 6) nw i (100 - i)) (fun i => [(a 0, .inr (2, [.ref (a 1), .int (nI ln), .ref (a 2), .ref (a 3), .ref (a 4), .int (nI ac), .int (nI nx), .ref (a 5), .ref (a 6), .ref (a 7), .ref (a 8), .int (nI se), .long sd, .ref (a 9), .ref (a 10)])), (a 1, .inl (cI, 60, .inl tx)), (a 2, .inl (cI, 79, .inl nw)), (a 3, .inl (cI, 79, .inl (S_ticks nw i))), (a 4, .inl (cI, 1106, .inl di)), (a 5, .inl (cI, 158, .inl ke)), (a 6, .inl (cZ, 2, .inl ik)), (a 7, .inl (cI, 6, .inl s1)), (a 8, .inl (cI, 6, .inl s2)), (a 9, .inl (cI, 64, .inl wo)), (a 10, .inl (cI, 79, .inl re))]) (fun i => [(0, .ref (a 0)), (1, .int (nI i))]) (fun i hi hIi ihi => ?_) 0 (Nat.zero_le _) ⟨rfl, rfl⟩
  refine g_iload_n F dX2_rest_13 rfl 1 rfl ?_
  refine g_bipush F (v := 100) dX2_rest_14 (by decide) ?_
  refine g_icmp_ge F 122 dX2_rest_16 (by decide) (fun c1 => ?_) (fun c1 => ?_)
  · have hx_c1 : 100 = i := lp_ge hi (by decide) c1
    subst hx_c1
    have hI100 := hIi
    refine g_bipush F (v := (-9)) dX2_rest_122 (by decide) ?_
    exact g_endI (hR _ _ dX2_rest_124) (show (-9 : Int32) = S_rest (fun f => S_isN f 6) nw 0 100 from by rw [hI100.1]; rfl) (by rw [hI100.2]; rfl)
  · have hlti : i < 100 := lp_lt hi (by decide) c1
    refine g_aload_n F dX2_rest_19 rfl 0 rfl ?_
    refine g_get F (.ref (a 3)) zX2_rest_inX2 0 rfl rfl 3 (by decide) rfl zX2_rest_f16 dX2_rest_20 ?_
    refine g_iconst F (v := 1) dX2_rest_23 (by decide) ?_
    refine g_callS F (As := [.ref (a 3), .int 1]) (st := []) ([(a 0, .inr (2, [.ref (a 1), .int (nI ln), .ref (a 2), .ref (a 3), .ref (a 4), .int (nI ac), .int (nI nx), .ref (a 5), .ref (a 6), .ref (a 7), .ref (a 8), .int (nI se), .long sd, .ref (a 9), .ref (a 10)])), (a 1, .inl (cI, 60, .inl tx)), (a 2, .inl (cI, 79, .inl nw)), (a 4, .inl (cI, 1106, .inl di)), (a 5, .inl (cI, 158, .inl ke)), (a 6, .inl (cZ, 2, .inl ik)), (a 7, .inl (cI, 6, .inl s1)), (a 8, .inl (cI, 6, .inl s2)), (a 9, .inl (cI, 64, .inl wo)), (a 10, .inl (cI, 79, .inl re))]) ([(a 0, .inr (2, [.ref (a 1), .int (nI ln), .ref (a 2), .ref (a 3), .ref (a 4), .int (nI ac), .int (nI nx), .ref (a 5), .ref (a 6), .ref (a 7), .ref (a 8), .int (nI se), .long sd, .ref (a 9), .ref (a 10)])), (a 1, .inl (cI, 60, .inl tx)), (a 2, .inl (cI, 79, .inl nw)), (a 3, .inl (cI, 79, .inl (S_ticks nw i))), (a 4, .inl (cI, 1106, .inl di)), (a 5, .inl (cI, 158, .inl ke)), (a 6, .inl (cZ, 2, .inl ik)), (a 7, .inl (cI, 6, .inl s1)), (a 8, .inl (cI, 6, .inl s2)), (a 9, .inl (cI, 64, .inl wo)), (a 10, .inl (cI, 79, .inl re))]) [3] [0, 1, 2, 4, 5, 6, 7, 8, 9, 10] [0, 1, 2, 10, 3, 4, 5, 6, 7, 8, 9] (kX2_those l D cI cZ cQ (a 3) (S_ticks nw i) 1 ) (va_cwS 2 F.2.2.2.2.1 gX2_rest_X2_those rfl rfl rfl (by decide +kernel) ⟨Nat.le_of_ble_eq_true rfl, Nat.le_of_ble_eq_true rfl⟩) rfl rfl rfl rfl (by decide) (by decide) (by decide) rfl (by decide) (Nat.le_of_ble_eq_true rfl) ⟨Nat.zero_le _, Nat.zero_le _⟩ dX2_rest_24 ?_
    refine g_istore_n F (lv' := [(0, .ref (a 0)), (1, .int (nI i)), (2, .int (S_those (S_ticks nw i) 1))]) dX2_rest_27 rfl (by decide) [1, 2, 0] rfl ?_
    refine g_aload_n F dX2_rest_28 rfl 0 rfl ?_
    refine g_get F (.ref (a 3)) zX2_rest_inX2 0 rfl rfl 3 (by decide) rfl zX2_rest_f16 dX2_rest_29 ?_
    refine g_iconst F (v := 2) dX2_rest_32 (by decide) ?_
    refine g_callS F (As := [.ref (a 3), .int 2]) (st := []) ([(a 0, .inr (2, [.ref (a 1), .int (nI ln), .ref (a 2), .ref (a 3), .ref (a 4), .int (nI ac), .int (nI nx), .ref (a 5), .ref (a 6), .ref (a 7), .ref (a 8), .int (nI se), .long sd, .ref (a 9), .ref (a 10)])), (a 1, .inl (cI, 60, .inl tx)), (a 2, .inl (cI, 79, .inl nw)), (a 4, .inl (cI, 1106, .inl di)), (a 5, .inl (cI, 158, .inl ke)), (a 6, .inl (cZ, 2, .inl ik)), (a 7, .inl (cI, 6, .inl s1)), (a 8, .inl (cI, 6, .inl s2)), (a 9, .inl (cI, 64, .inl wo)), (a 10, .inl (cI, 79, .inl re))]) ([(a 0, .inr (2, [.ref (a 1), .int (nI ln), .ref (a 2), .ref (a 3), .ref (a 4), .int (nI ac), .int (nI nx), .ref (a 5), .ref (a 6), .ref (a 7), .ref (a 8), .int (nI se), .long sd, .ref (a 9), .ref (a 10)])), (a 1, .inl (cI, 60, .inl tx)), (a 2, .inl (cI, 79, .inl nw)), (a 3, .inl (cI, 79, .inl (S_ticks nw i))), (a 4, .inl (cI, 1106, .inl di)), (a 5, .inl (cI, 158, .inl ke)), (a 6, .inl (cZ, 2, .inl ik)), (a 7, .inl (cI, 6, .inl s1)), (a 8, .inl (cI, 6, .inl s2)), (a 9, .inl (cI, 64, .inl wo)), (a 10, .inl (cI, 79, .inl re))]) [3] [0, 1, 2, 4, 5, 6, 7, 8, 9, 10] [0, 1, 2, 10, 3, 4, 5, 6, 7, 8, 9] (kX2_those l D cI cZ cQ (a 3) (S_ticks nw i) 2 ) (va_cwS 2 F.2.2.2.2.1 gX2_rest_X2_those rfl rfl rfl (by decide +kernel) ⟨Nat.le_of_ble_eq_true rfl, Nat.le_of_ble_eq_true rfl⟩) rfl rfl rfl rfl (by decide) (by decide) (by decide) rfl (by decide) (Nat.le_of_ble_eq_true rfl) ⟨Nat.zero_le _, Nat.zero_le _⟩ dX2_rest_33 ?_
    have hJ3 : Go p l e ({ frames := 6, cells := 0, slots := 0, locals := 180 }) s m (List.toArray [.ref (a 0)]) below meth c Q D A 5 0 0 ([(a 0, .inr (2, [.ref (a 1), .int (nI ln), .ref (a 2), .ref (a 3), .ref (a 4), .int (nI ac), .int (nI nx), .ref (a 5), .ref (a 6), .ref (a 7), .ref (a 8), .int (nI se), .long sd, .ref (a 9), .ref (a 10)])), (a 1, .inl (cI, 60, .inl tx)), (a 2, .inl (cI, 79, .inl nw)), (a 3, .inl (cI, 79, .inl (S_ticks nw i))), (a 4, .inl (cI, 1106, .inl di)), (a 5, .inl (cI, 158, .inl ke)), (a 6, .inl (cZ, 2, .inl ik)), (a 7, .inl (cI, 6, .inl s1)), (a 8, .inl (cI, 6, .inl s2)), (a 9, .inl (cI, 64, .inl wo)), (a 10, .inl (cI, 79, .inl re))]) 44 [(0, .ref (a 0)), (1, .int (nI i)), (2, .int (S_those (S_ticks nw i) 1))] [.int (bI (S_isN (S_ticks nw i) 0))] := by
      refine g_istore_n F (lv' := [(0, .ref (a 0)), (1, .int (nI i)), (2, .int (S_those (S_ticks nw i) 1)), (3, .int (bI (S_isN (S_ticks nw i) 0)))]) dX2_rest_44 rfl (by decide) [1, 2, 3, 0] rfl ?_
      refine g_iconst F (v := 0) dX2_rest_45 (by decide) ?_
      refine g_istore F (lv' := [(0, .ref (a 0)), (1, .int (nI i)), (2, .int (S_those (S_ticks nw i) 1)), (3, .int (bI (S_isN (S_ticks nw i) 0))), (4, .int 0)]) dX2_rest_46 (by decide) [1, 2, 3, 4, 0] rfl ?_
      refine g_all (w0 := [(a 0, .inr (2, [.ref (a 1), .int (nI ln), .ref (a 2), .ref (a 3), .ref (a 4), .int (nI ac), .int (nI nx), .ref (a 5), .ref (a 6), .ref (a 7), .ref (a 8), .int (nI se), .long sd, .ref (a 9), .ref (a 10)])), (a 1, .inl (cI, 60, .inl tx)), (a 2, .inl (cI, 79, .inl nw)), (a 3, .inl (cI, 79, .inl (S_ticks nw i))), (a 4, .inl (cI, 1106, .inl di)), (a 5, .inl (cI, 158, .inl ke)), (a 6, .inl (cZ, 2, .inl ik)), (a 7, .inl (cI, 6, .inl s1)), (a 8, .inl (cI, 6, .inl s2)), (a 9, .inl (cI, 64, .inl wo)), (a 10, .inl (cI, 79, .inl re))]) (lv0 := [(0, .ref (a 0)), (1, .int (nI i)), (2, .int (S_those (S_ticks nw i) 1)), (3, .int (bI (S_isN (S_ticks nw i) 0))), (4, .int (nI 0))]) (st0 := []) rfl rfl rfl ?_
      refine g_for 6 (fun j => True) (fun j => [(a 0, .inr (2, [.ref (a 1), .int (nI ln), .ref (a 2), .ref (a 3), .ref (a 4), .int (nI ac), .int (nI nx), .ref (a 5), .ref (a 6), .ref (a 7), .ref (a 8), .int (nI se), .long sd, .ref (a 9), .ref (a 10)])), (a 1, .inl (cI, 60, .inl tx)), (a 2, .inl (cI, 79, .inl nw)), (a 3, .inl (cI, 79, .inl (S_ticks nw i))), (a 4, .inl (cI, 1106, .inl di)), (a 5, .inl (cI, 158, .inl ke)), (a 6, .inl (cZ, 2, .inl ik)), (a 7, .inl (cI, 6, .inl s1)), (a 8, .inl (cI, 6, .inl s2)), (a 9, .inl (cI, 64, .inl wo)), (a 10, .inl (cI, 79, .inl re))]) (fun j => [(0, .ref (a 0)), (1, .int (nI i)), (2, .int (S_those (S_ticks nw i) 1)), (3, .int (bI (S_isN (S_ticks nw i) j))), (4, .int (nI j))]) (fun j hj hIj ihj => ?_) 0 (Nat.zero_le _) trivial
      refine g_iload F dX2_rest_48 4 rfl ?_
      refine g_bipush F (v := 6) dX2_rest_50 (by decide) ?_
      refine g_icmp_ge F 103 dX2_rest_52 (by decide) (fun c4 => ?_) (fun c4 => ?_)
      · have hx_c4 : 6 = j := lp_ge hj (by decide) c4
        subst hx_c4
        refine g_iload_n F dX2_rest_103 rfl 3 rfl ?_
        refine g_beq F 109 dX2_rest_104 (by decide) (fun c5 => ?_) (fun c5 => ?_)
        · refine g_aload_n F dX2_rest_109 rfl 0 rfl ?_
          refine g_get F (.ref (a 3)) zX2_rest_inX2 0 rfl rfl 3 (by decide) rfl zX2_rest_f16 dX2_rest_110 ?_
          refine g_callS F (As := [.ref (a 3)]) (st := []) ([(a 0, .inr (2, [.ref (a 1), .int (nI ln), .ref (a 2), .ref (a 3), .ref (a 4), .int (nI ac), .int (nI nx), .ref (a 5), .ref (a 6), .ref (a 7), .ref (a 8), .int (nI se), .long sd, .ref (a 9), .ref (a 10)])), (a 1, .inl (cI, 60, .inl tx)), (a 2, .inl (cI, 79, .inl nw)), (a 4, .inl (cI, 1106, .inl di)), (a 5, .inl (cI, 158, .inl ke)), (a 6, .inl (cZ, 2, .inl ik)), (a 7, .inl (cI, 6, .inl s1)), (a 8, .inl (cI, 6, .inl s2)), (a 9, .inl (cI, 64, .inl wo)), (a 10, .inl (cI, 79, .inl re))]) ([(a 0, .inr (2, [.ref (a 1), .int (nI ln), .ref (a 2), .ref (a 3), .ref (a 4), .int (nI ac), .int (nI nx), .ref (a 5), .ref (a 6), .ref (a 7), .ref (a 8), .int (nI se), .long sd, .ref (a 9), .ref (a 10)])), (a 1, .inl (cI, 60, .inl tx)), (a 2, .inl (cI, 79, .inl nw)), (a 3, .inl (cI, 79, .inl (S_tick (S_ticks nw i)))), (a 4, .inl (cI, 1106, .inl di)), (a 5, .inl (cI, 158, .inl ke)), (a 6, .inl (cZ, 2, .inl ik)), (a 7, .inl (cI, 6, .inl s1)), (a 8, .inl (cI, 6, .inl s2)), (a 9, .inl (cI, 64, .inl wo)), (a 10, .inl (cI, 79, .inl re))]) [3] [0, 1, 2, 4, 5, 6, 7, 8, 9, 10] [0, 1, 2, 10, 3, 4, 5, 6, 7, 8, 9] (kX2_tick l D cI cZ cQ (a 3) (S_ticks nw i)  (Z_ticks hz _)) (va_cwS 1 F.2.2.2.2.1 gX2_rest_X2_tick rfl rfl rfl (by decide +kernel) ⟨Nat.le_of_ble_eq_true rfl, Nat.le_of_ble_eq_true rfl⟩) rfl rfl rfl rfl (by decide) (by decide) (by decide) rfl (by decide) (Nat.le_of_ble_eq_true rfl) ⟨Nat.zero_le _, Nat.zero_le _⟩ dX2_rest_113 ?_
          refine g_iinc F (lv' := [(0, .ref (a 0)), (1, .int (nI (i + 1))), (2, .int (S_those (S_ticks nw i) 1)), (3, .int (bI (S_isN (S_ticks nw i) 6))), (4, .int (nI 6))]) (nI (i + 1)) dX2_rest_116 1 rfl (nI_add i 1) (by decide) [1, 0, 2, 3, 4] rfl ?_
          refine g_goto F 13 dX2_rest_119 (by decide) ?_
          refine g_lvs (lv' := [(0, .ref (a 0)), (1, .int (nI (i + 1)))]) [0, 1] rfl ?_
          refine g_all (w0 := [(a 0, .inr (2, [.ref (a 1), .int (nI ln), .ref (a 2), .ref (a 3), .ref (a 4), .int (nI ac), .int (nI nx), .ref (a 5), .ref (a 6), .ref (a 7), .ref (a 8), .int (nI se), .long sd, .ref (a 9), .ref (a 10)])), (a 1, .inl (cI, 60, .inl tx)), (a 2, .inl (cI, 79, .inl nw)), (a 3, .inl (cI, 79, .inl (S_ticks nw (i + 1)))), (a 4, .inl (cI, 1106, .inl di)), (a 5, .inl (cI, 158, .inl ke)), (a 6, .inl (cZ, 2, .inl ik)), (a 7, .inl (cI, 6, .inl s1)), (a 8, .inl (cI, 6, .inl s2)), (a 9, .inl (cI, 64, .inl wo)), (a 10, .inl (cI, 79, .inl re))]) (lv0 := [(0, .ref (a 0)), (1, .int (nI (i + 1)))]) (st0 := []) (by rw [S_ticks_s]) rfl rfl ?_
          exact ihi hlti ⟨hIi.1.trans (rest_miss hlti c5).1, hIi.2.trans (rest_miss hlti c5).2⟩
        · refine g_iload_n F dX2_rest_107 rfl 1 rfl ?_
          exact g_endI (hR _ _ dX2_rest_108) (show nI i = S_rest (fun f => S_isN f 6) nw 0 100 from by rw [hIi.1]; exact (rest_hit hlti c5).1.symm) (by rw [show S_restT (fun f => S_isN f 6) nw 0 100 = S_ticks nw i from hIi.2.trans (rest_hit hlti c5).2]; rfl)
      · have hltj : j < 6 := lp_lt hj (by decide) c4
        refine g_iload_n F dX2_rest_55 rfl 3 rfl ?_
        refine g_beq F 95 dX2_rest_56 (by decide) (fun c6 => ?_) (fun c6 => ?_)
        · refine g_iconst F (v := 0) dX2_rest_95 (by decide) ?_
          refine g_istore_n F (lv' := [(0, .ref (a 0)), (1, .int (nI i)), (2, .int (S_those (S_ticks nw i) 1)), (3, .int 0), (4, .int (nI j))]) dX2_rest_96 rfl (by decide) [1, 2, 3, 0, 4] rfl ?_
          refine g_iinc F (lv' := [(0, .ref (a 0)), (1, .int (nI i)), (2, .int (S_those (S_ticks nw i) 1)), (3, .int 0), (4, .int (nI (j + 1)))]) (nI (j + 1)) dX2_rest_97 4 rfl (nI_add j 1) (by decide) [1, 2, 3, 4, 0] rfl ?_
          refine g_goto F 48 dX2_rest_100 (by decide) ?_
          refine g_all (w0 := [(a 0, .inr (2, [.ref (a 1), .int (nI ln), .ref (a 2), .ref (a 3), .ref (a 4), .int (nI ac), .int (nI nx), .ref (a 5), .ref (a 6), .ref (a 7), .ref (a 8), .int (nI se), .long sd, .ref (a 9), .ref (a 10)])), (a 1, .inl (cI, 60, .inl tx)), (a 2, .inl (cI, 79, .inl nw)), (a 3, .inl (cI, 79, .inl (S_ticks nw i))), (a 4, .inl (cI, 1106, .inl di)), (a 5, .inl (cI, 158, .inl ke)), (a 6, .inl (cZ, 2, .inl ik)), (a 7, .inl (cI, 6, .inl s1)), (a 8, .inl (cI, 6, .inl s2)), (a 9, .inl (cI, 64, .inl wo)), (a 10, .inl (cI, 79, .inl re))]) (lv0 := [(0, .ref (a 0)), (1, .int (nI i)), (2, .int (S_those (S_ticks nw i) 1)), (3, .int (bI (S_isN (S_ticks nw i) (j + 1)))), (4, .int (nI (j + 1)))]) (st0 := []) rfl (by first | (simp only [S_isN, S_isOk, bI, Bool.and_true, Bool.true_and, Bool.and_false, Bool.false_and, c6, Bool.false_eq_true, ↓reduceIte]; done) | (with_reducible rfl) | (simp [S_isN, S_isOk, bI, Bool.and_true, Bool.true_and, Bool.and_false, Bool.false_and, c6, Bool.false_eq_true, ↓reduceIte]; done)) rfl ?_
          exact ihj hltj trivial
        · refine g_aload_n F dX2_rest_59 rfl 0 rfl ?_
          refine g_get F (.ref (a 3)) zX2_rest_inX2 0 rfl rfl 3 (by decide) rfl zX2_rest_f16 dX2_rest_60 ?_
          refine g_iload F dX2_rest_63 4 rfl ?_
          refine g_iald F (j := j) 3 0 rfl rfl (by omega) (by decide) dX2_rest_65 ?_
          refine g_iconst F (v := 1) dX2_rest_66 (by decide) ?_
          refine g_icmp_ne F 91 dX2_rest_67 (by decide) (fun c7 => ?_) (fun c7 => ?_)
          · refine g_iconst F (v := 1) dX2_rest_91 (by decide) ?_
            refine g_goto F 96 dX2_rest_92 (by decide) ?_
            refine g_istore_n F (lv' := [(0, .ref (a 0)), (1, .int (nI i)), (2, .int (S_those (S_ticks nw i) 1)), (3, .int 1), (4, .int (nI j))]) dX2_rest_96 rfl (by decide) [1, 2, 3, 0, 4] rfl ?_
            refine g_iinc F (lv' := [(0, .ref (a 0)), (1, .int (nI i)), (2, .int (S_those (S_ticks nw i) 1)), (3, .int 1), (4, .int (nI (j + 1)))]) (nI (j + 1)) dX2_rest_97 4 rfl (nI_add j 1) (by decide) [1, 2, 3, 4, 0] rfl ?_
            refine g_goto F 48 dX2_rest_100 (by decide) ?_
            refine g_all (w0 := [(a 0, .inr (2, [.ref (a 1), .int (nI ln), .ref (a 2), .ref (a 3), .ref (a 4), .int (nI ac), .int (nI nx), .ref (a 5), .ref (a 6), .ref (a 7), .ref (a 8), .int (nI se), .long sd, .ref (a 9), .ref (a 10)])), (a 1, .inl (cI, 60, .inl tx)), (a 2, .inl (cI, 79, .inl nw)), (a 3, .inl (cI, 79, .inl (S_ticks nw i))), (a 4, .inl (cI, 1106, .inl di)), (a 5, .inl (cI, 158, .inl ke)), (a 6, .inl (cZ, 2, .inl ik)), (a 7, .inl (cI, 6, .inl s1)), (a 8, .inl (cI, 6, .inl s2)), (a 9, .inl (cI, 64, .inl wo)), (a 10, .inl (cI, 79, .inl re))]) (lv0 := [(0, .ref (a 0)), (1, .int (nI i)), (2, .int (S_those (S_ticks nw i) 1)), (3, .int (bI (S_isN (S_ticks nw i) (j + 1)))), (4, .int (nI (j + 1)))]) (st0 := []) rfl (by first | (simp only [S_isN, S_isOk, bI, Bool.and_true, Bool.true_and, Bool.and_false, Bool.false_and, c6, c7, Bool.false_eq_true, ↓reduceIte]; done) | (with_reducible rfl) | (simp [S_isN, S_isOk, bI, Bool.and_true, Bool.true_and, Bool.and_false, Bool.false_and, c6, c7, Bool.false_eq_true, ↓reduceIte]; done)) rfl ?_
            exact ihj hltj trivial
          · refine g_aload_n F dX2_rest_70 rfl 0 rfl ?_
            refine g_get F (.ref (a 3)) zX2_rest_inX2 0 rfl rfl 3 (by decide) rfl zX2_rest_f16 dX2_rest_71 ?_
            refine g_bipush F (v := 6) dX2_rest_74 (by decide) ?_
            refine g_iload F dX2_rest_76 4 rfl ?_
            refine g_iadd F dX2_rest_78 ?_
            refine g_as (nI (6 + j)) (nI_add 6 j) ?_
            refine g_iald F (j := 6 + j) 3 0 rfl rfl (by omega) (by decide) dX2_rest_79 ?_
            refine g_iload_n F dX2_rest_80 rfl 2 rfl ?_
            refine g_iconst F (v := 1) dX2_rest_81 (by decide) ?_
            refine g_iload F dX2_rest_82 4 rfl ?_
            refine g_ishl F dX2_rest_84 ?_
            refine g_iconst F (v := (-1)) dX2_rest_85 (by decide) ?_
            refine g_ixor F dX2_rest_86 ?_
            refine g_iand F dX2_rest_87 ?_
            refine g_icmp_ne F 95 dX2_rest_88 (by decide) (fun c8 => ?_) (fun c8 => ?_)
            · refine g_iconst F (v := 0) dX2_rest_95 (by decide) ?_
              refine g_istore_n F (lv' := [(0, .ref (a 0)), (1, .int (nI i)), (2, .int (S_those (S_ticks nw i) 1)), (3, .int 0), (4, .int (nI j))]) dX2_rest_96 rfl (by decide) [1, 2, 3, 0, 4] rfl ?_
              refine g_iinc F (lv' := [(0, .ref (a 0)), (1, .int (nI i)), (2, .int (S_those (S_ticks nw i) 1)), (3, .int 0), (4, .int (nI (j + 1)))]) (nI (j + 1)) dX2_rest_97 4 rfl (nI_add j 1) (by decide) [1, 2, 3, 4, 0] rfl ?_
              refine g_goto F 48 dX2_rest_100 (by decide) ?_
              refine g_all (w0 := [(a 0, .inr (2, [.ref (a 1), .int (nI ln), .ref (a 2), .ref (a 3), .ref (a 4), .int (nI ac), .int (nI nx), .ref (a 5), .ref (a 6), .ref (a 7), .ref (a 8), .int (nI se), .long sd, .ref (a 9), .ref (a 10)])), (a 1, .inl (cI, 60, .inl tx)), (a 2, .inl (cI, 79, .inl nw)), (a 3, .inl (cI, 79, .inl (S_ticks nw i))), (a 4, .inl (cI, 1106, .inl di)), (a 5, .inl (cI, 158, .inl ke)), (a 6, .inl (cZ, 2, .inl ik)), (a 7, .inl (cI, 6, .inl s1)), (a 8, .inl (cI, 6, .inl s2)), (a 9, .inl (cI, 64, .inl wo)), (a 10, .inl (cI, 79, .inl re))]) (lv0 := [(0, .ref (a 0)), (1, .int (nI i)), (2, .int (S_those (S_ticks nw i) 1)), (3, .int (bI (S_isN (S_ticks nw i) (j + 1)))), (4, .int (nI (j + 1)))]) (st0 := []) rfl (by first | (simp only [S_isN, S_isOk, bI, Bool.and_true, Bool.true_and, Bool.and_false, Bool.false_and, c6, c7, c8, Bool.false_eq_true, ↓reduceIte]; done) | (with_reducible rfl) | (simp [S_isN, S_isOk, bI, Bool.and_true, Bool.true_and, Bool.and_false, Bool.false_and, c6, c7, c8, Bool.false_eq_true, ↓reduceIte]; done)) rfl ?_
              exact ihj hltj trivial
            · refine g_iconst F (v := 1) dX2_rest_91 (by decide) ?_
              refine g_goto F 96 dX2_rest_92 (by decide) ?_
              refine g_istore_n F (lv' := [(0, .ref (a 0)), (1, .int (nI i)), (2, .int (S_those (S_ticks nw i) 1)), (3, .int 1), (4, .int (nI j))]) dX2_rest_96 rfl (by decide) [1, 2, 3, 0, 4] rfl ?_
              refine g_iinc F (lv' := [(0, .ref (a 0)), (1, .int (nI i)), (2, .int (S_those (S_ticks nw i) 1)), (3, .int 1), (4, .int (nI (j + 1)))]) (nI (j + 1)) dX2_rest_97 4 rfl (nI_add j 1) (by decide) [1, 2, 3, 4, 0] rfl ?_
              refine g_goto F 48 dX2_rest_100 (by decide) ?_
              refine g_all (w0 := [(a 0, .inr (2, [.ref (a 1), .int (nI ln), .ref (a 2), .ref (a 3), .ref (a 4), .int (nI ac), .int (nI nx), .ref (a 5), .ref (a 6), .ref (a 7), .ref (a 8), .int (nI se), .long sd, .ref (a 9), .ref (a 10)])), (a 1, .inl (cI, 60, .inl tx)), (a 2, .inl (cI, 79, .inl nw)), (a 3, .inl (cI, 79, .inl (S_ticks nw i))), (a 4, .inl (cI, 1106, .inl di)), (a 5, .inl (cI, 158, .inl ke)), (a 6, .inl (cZ, 2, .inl ik)), (a 7, .inl (cI, 6, .inl s1)), (a 8, .inl (cI, 6, .inl s2)), (a 9, .inl (cI, 64, .inl wo)), (a 10, .inl (cI, 79, .inl re))]) (lv0 := [(0, .ref (a 0)), (1, .int (nI i)), (2, .int (S_those (S_ticks nw i) 1)), (3, .int (bI (S_isN (S_ticks nw i) (j + 1)))), (4, .int (nI (j + 1)))]) (st0 := []) rfl (by first | (simp only [S_isN, S_isOk, bI, Bool.and_true, Bool.true_and, Bool.and_false, Bool.false_and, c6, c7, c8, Bool.false_eq_true, ↓reduceIte]; done) | (with_reducible rfl) | (simp [S_isN, S_isOk, bI, Bool.and_true, Bool.true_and, Bool.and_false, Bool.false_and, c6, c7, c8, Bool.false_eq_true, ↓reduceIte]; done)) rfl ?_
              exact ihj hltj trivial
    refine g_if_ne F 43 dX2_rest_36 (by decide) (fun c2 => ?_) (fun c2 => ?_)
    · refine g_iconst F (v := 0) dX2_rest_43 (by decide) ?_
      refine g_as (bI (S_isN (S_ticks nw i) 0)) (by first | (simp only [S_isN, bI, c2, Bool.false_eq_true, ↓reduceIte]; done) | (with_reducible rfl) | (simp [S_isN, bI, c2, Bool.false_eq_true, ↓reduceIte]; done)) ?_
      exact hJ3
    · refine g_iconst F (v := 1) dX2_rest_39 (by decide) ?_
      refine g_goto F 44 dX2_rest_40 (by decide) ?_
      refine g_as (bI (S_isN (S_ticks nw i) 0)) (by first | (simp only [S_isN, bI, c2, Bool.false_eq_true, ↓reduceIte]; done) | (with_reducible rfl) | (simp [S_isN, bI, c2, Bool.false_eq_true, ↓reduceIte]; done)) ?_
      exact hJ3
theorem zX2_about_f102 : Cond.fieldLink RX2 102 (TX2 1).1 (TX2 1).2.1 (TX2 1).2.2.1 ∈ wsX2_about := by decide +kernel
theorem zX2_about_f13 : Cond.fieldLink RX2 13 (TX2 2).1 (TX2 2).2.1 (TX2 2).2.2.1 ∈ wsX2_about := by decide +kernel
theorem zX2_about_f132 : Cond.fieldLink RX2 132 (TX2 5).1 (TX2 5).2.1 (TX2 5).2.2.1 ∈ wsX2_about := by decide +kernel
theorem zX2_about_f138 : Cond.fieldLink RX2 138 (TX2 11).1 (TX2 11).2.1 (TX2 11).2.2.1 ∈ wsX2_about := by decide +kernel
theorem zX2_about_inX2 : ∀ w ∈ u_ws RX2 TX2 15, w ∈ wsX2_about := by decide +kernel
set_option maxHeartbeats 1000000 in
set_option maxRecDepth 100000 in
theorem kX2_about_o (l : Launch) (D : va_G) (cI cZ cQ : ClassId) (a : Nat → Nat) (tx : Row) (ln : Nat) (nw tr di : Row) (ac nx : Nat) (ke ik s1 s2 : Row) (se : Nat) (sd : Int64) (wo re : Row) (u : Int32) (h9 : ¬ u = 9) : Ct l D (gTy cI cZ cQ) yX2_about wsX2_about ({ frames := 7, cells := 0, slots := 0, locals := 200 }) [.ref (a 0), .int u] (MW cI cZ a tx ln nw tr di ac nx ke ik s1 s2 se sd wo re) (some (.int (S_about nw ac se ln u))) (MW cI cZ a tx ln nw tr di ac nx ke ik s1 s2 se sd wo re) := by
  refine ct_ofI (cc := cX2_about) (nL := 2) (own := RX2) (by decide) rfl rfl ⟨rfl, rfl⟩ (Nat.le_of_ble_eq_true rfl) MW_same (fun p e s m below meth c A Q F hR => ?_)
  refine g_aw ([(a 0, .inr (2, [.ref (a 1), .int (nI ln), .ref (a 2), .ref (a 3), .ref (a 4), .int (nI ac), .int (nI nx), .ref (a 5), .ref (a 6), .ref (a 7), .ref (a 8), .int (nI se), .long sd, .ref (a 9), .ref (a 10)])), (a 1, .inl (cI, 60, .inl tx)), (a 2, .inl (cI, 79, .inl nw)), (a 3, .inl (cI, 79, .inl tr)), (a 4, .inl (cI, 1106, .inl di)), (a 5, .inl (cI, 158, .inl ke)), (a 6, .inl (cZ, 2, .inl ik)), (a 7, .inl (cI, 6, .inl s1)), (a 8, .inl (cI, 6, .inl s2)), (a 9, .inl (cI, 64, .inl wo)), (a 10, .inl (cI, 79, .inl re))]) rfl ?_
  refine g_iload_n F dX2_about_0 rfl 1 rfl ?_
  rcases tb_cases u 0 13 (by decide) with c1 | ⟨n_c1, hn_c1, c1⟩
  · refine g_tableOut F 162 dX2_about_1 (by omega) (by decide) ?_
    refine g_bipush F (v := (-2)) dX2_about_162 (by decide) ?_
    exact g_endI (hR _ _ dX2_about_164) (by unfold S_about; rw [if_neg (show ¬ u = 0 from tb_ne (n := 0) c1 (by decide) (by decide)), if_neg (show ¬ u = 1 from tb_ne (n := 1) c1 (by decide) (by decide)), if_neg (show ¬ u = 2 from tb_ne (n := 2) c1 (by decide) (by decide)), if_neg (show ¬ u = 3 from tb_ne (n := 3) c1 (by decide) (by decide)), if_neg (show ¬ u = 4 from tb_ne (n := 4) c1 (by decide) (by decide)), if_neg (show ¬ u = 5 from tb_ne (n := 5) c1 (by decide) (by decide)), if_neg (show ¬ u = 6 from tb_ne (n := 6) c1 (by decide) (by decide)), if_neg (show ¬ u = 7 from tb_ne (n := 7) c1 (by decide) (by decide)), if_neg (show ¬ u = 8 from tb_ne (n := 8) c1 (by decide) (by decide)), if_neg (show ¬ u = 10 from tb_ne (n := 10) c1 (by decide) (by decide)), if_neg (show ¬ u = 11 from tb_ne (n := 11) c1 (by decide) (by decide)), if_neg (show ¬ u = 12 from tb_ne (n := 12) c1 (by decide) (by decide))]) rfl
  · match n_c1, hn_c1, c1 with
    | 0, _, c1 =>
      have hw_c1 : u = nI 0 := tb_eq (by decide) c1
      refine g_tableIn F 68 dX2_about_1 (by rw [c1]; decide) (by rw [c1]; decide) (by rw [c1]; rfl) (by decide) ?_
      refine g_aload_n F dX2_about_68 rfl 0 rfl ?_
      refine g_get F (.ref (a 2)) zX2_about_inX2 0 rfl rfl 2 (by decide) rfl zX2_about_f13 dX2_about_69 ?_
      refine g_bipush F (v := 66) dX2_about_72 (by decide) ?_
      refine g_as (nI 66) rfl ?_
      refine g_iald F (j := 66) 2 0 rfl rfl (by omega) (by decide) dX2_about_74 ?_
      exact g_endI (hR _ _ dX2_about_75) (by rw [hw_c1]; rfl) rfl
    | 1, _, c1 =>
      have hw_c1 : u = nI 1 := tb_eq (by decide) c1
      refine g_tableIn F 76 dX2_about_1 (by rw [c1]; decide) (by rw [c1]; decide) (by rw [c1]; rfl) (by decide) ?_
      refine g_aload_n F dX2_about_76 rfl 0 rfl ?_
      refine g_get F (.ref (a 2)) zX2_about_inX2 0 rfl rfl 2 (by decide) rfl zX2_about_f13 dX2_about_77 ?_
      refine g_bipush F (v := 67) dX2_about_80 (by decide) ?_
      refine g_as (nI 67) rfl ?_
      refine g_iald F (j := 67) 2 0 rfl rfl (by omega) (by decide) dX2_about_82 ?_
      exact g_endI (hR _ _ dX2_about_83) (by rw [hw_c1]; rfl) rfl
    | 2, _, c1 =>
      have hw_c1 : u = nI 2 := tb_eq (by decide) c1
      refine g_tableIn F 84 dX2_about_1 (by rw [c1]; decide) (by rw [c1]; decide) (by rw [c1]; rfl) (by decide) ?_
      refine g_aload_n F dX2_about_84 rfl 0 rfl ?_
      refine g_get F (.ref (a 2)) zX2_about_inX2 0 rfl rfl 2 (by decide) rfl zX2_about_f13 dX2_about_85 ?_
      refine g_bipush F (v := 68) dX2_about_88 (by decide) ?_
      refine g_as (nI 68) rfl ?_
      refine g_iald F (j := 68) 2 0 rfl rfl (by omega) (by decide) dX2_about_90 ?_
      exact g_endI (hR _ _ dX2_about_91) (by rw [hw_c1]; rfl) rfl
    | 3, _, c1 =>
      have hw_c1 : u = nI 3 := tb_eq (by decide) c1
      refine g_tableIn F 92 dX2_about_1 (by rw [c1]; decide) (by rw [c1]; decide) (by rw [c1]; rfl) (by decide) ?_
      refine g_aload_n F dX2_about_92 rfl 0 rfl ?_
      refine g_get F (.ref (a 2)) zX2_about_inX2 0 rfl rfl 2 (by decide) rfl zX2_about_f13 dX2_about_93 ?_
      refine g_bipush F (v := 70) dX2_about_96 (by decide) ?_
      refine g_as (nI 70) rfl ?_
      refine g_iald F (j := 70) 2 0 rfl rfl (by omega) (by decide) dX2_about_98 ?_
      exact g_endI (hR _ _ dX2_about_99) (by rw [hw_c1]; rfl) rfl
    | 4, _, c1 =>
      have hw_c1 : u = nI 4 := tb_eq (by decide) c1
      refine g_tableIn F 100 dX2_about_1 (by rw [c1]; decide) (by rw [c1]; decide) (by rw [c1]; rfl) (by decide) ?_
      refine g_aload_n F dX2_about_100 rfl 0 rfl ?_
      refine g_get F (.ref (a 2)) zX2_about_inX2 0 rfl rfl 2 (by decide) rfl zX2_about_f13 dX2_about_101 ?_
      refine g_bipush F (v := 69) dX2_about_104 (by decide) ?_
      refine g_as (nI 69) rfl ?_
      refine g_iald F (j := 69) 2 0 rfl rfl (by omega) (by decide) dX2_about_106 ?_
      exact g_endI (hR _ _ dX2_about_107) (by rw [hw_c1]; rfl) rfl
    | 5, _, c1 =>
      have hw_c1 : u = nI 5 := tb_eq (by decide) c1
      refine g_tableIn F 108 dX2_about_1 (by rw [c1]; decide) (by rw [c1]; decide) (by rw [c1]; rfl) (by decide) ?_
      refine g_aload_n F dX2_about_108 rfl 0 rfl ?_
      refine g_get F (.ref (a 2)) zX2_about_inX2 0 rfl rfl 2 (by decide) rfl zX2_about_f13 dX2_about_109 ?_
      refine g_bipush F (v := 71) dX2_about_112 (by decide) ?_
      refine g_as (nI 71) rfl ?_
      refine g_iald F (j := 71) 2 0 rfl rfl (by omega) (by decide) dX2_about_114 ?_
      exact g_endI (hR _ _ dX2_about_115) (by rw [hw_c1]; rfl) rfl
    | 6, _, c1 =>
      have hw_c1 : u = nI 6 := tb_eq (by decide) c1
      refine g_tableIn F 116 dX2_about_1 (by rw [c1]; decide) (by rw [c1]; decide) (by rw [c1]; rfl) (by decide) ?_
      refine g_aload_n F dX2_about_116 rfl 0 rfl ?_
      refine g_get F (.ref (a 2)) zX2_about_inX2 0 rfl rfl 2 (by decide) rfl zX2_about_f13 dX2_about_117 ?_
      refine g_bipush F (v := 72) dX2_about_120 (by decide) ?_
      refine g_as (nI 72) rfl ?_
      refine g_iald F (j := 72) 2 0 rfl rfl (by omega) (by decide) dX2_about_122 ?_
      exact g_endI (hR _ _ dX2_about_123) (by rw [hw_c1]; rfl) rfl
    | 7, _, c1 =>
      have hw_c1 : u = nI 7 := tb_eq (by decide) c1
      refine g_tableIn F 124 dX2_about_1 (by rw [c1]; decide) (by rw [c1]; decide) (by rw [c1]; rfl) (by decide) ?_
      refine g_aload_n F dX2_about_124 rfl 0 rfl ?_
      refine g_get F (.ref (a 2)) zX2_about_inX2 0 rfl rfl 2 (by decide) rfl zX2_about_f13 dX2_about_125 ?_
      refine g_iconst F (v := 1) dX2_about_128 (by decide) ?_
      refine g_callS F (As := [.ref (a 2), .int 1]) (st := []) ([(a 0, .inr (2, [.ref (a 1), .int (nI ln), .ref (a 2), .ref (a 3), .ref (a 4), .int (nI ac), .int (nI nx), .ref (a 5), .ref (a 6), .ref (a 7), .ref (a 8), .int (nI se), .long sd, .ref (a 9), .ref (a 10)])), (a 1, .inl (cI, 60, .inl tx)), (a 3, .inl (cI, 79, .inl tr)), (a 4, .inl (cI, 1106, .inl di)), (a 5, .inl (cI, 158, .inl ke)), (a 6, .inl (cZ, 2, .inl ik)), (a 7, .inl (cI, 6, .inl s1)), (a 8, .inl (cI, 6, .inl s2)), (a 9, .inl (cI, 64, .inl wo)), (a 10, .inl (cI, 79, .inl re))]) ([(a 0, .inr (2, [.ref (a 1), .int (nI ln), .ref (a 2), .ref (a 3), .ref (a 4), .int (nI ac), .int (nI nx), .ref (a 5), .ref (a 6), .ref (a 7), .ref (a 8), .int (nI se), .long sd, .ref (a 9), .ref (a 10)])), (a 1, .inl (cI, 60, .inl tx)), (a 2, .inl (cI, 79, .inl nw)), (a 3, .inl (cI, 79, .inl tr)), (a 4, .inl (cI, 1106, .inl di)), (a 5, .inl (cI, 158, .inl ke)), (a 6, .inl (cZ, 2, .inl ik)), (a 7, .inl (cI, 6, .inl s1)), (a 8, .inl (cI, 6, .inl s2)), (a 9, .inl (cI, 64, .inl wo)), (a 10, .inl (cI, 79, .inl re))]) [2] [0, 1, 3, 4, 5, 6, 7, 8, 9, 10] [0, 1, 10, 2, 3, 4, 5, 6, 7, 8, 9] (kX2_those l D cI cZ cQ (a 2) nw 1 ) (va_cwS 2 F.2.2.2.2.1 gX2_about_X2_those rfl rfl rfl (by decide +kernel) ⟨Nat.le_of_ble_eq_true rfl, Nat.le_of_ble_eq_true rfl⟩) rfl rfl rfl rfl (by decide) (by decide) (by decide) rfl (by decide) (Nat.le_of_ble_eq_true rfl) ⟨Nat.zero_le _, Nat.zero_le _⟩ dX2_about_129 ?_
      exact g_endI (hR _ _ dX2_about_132) (by rw [hw_c1]; rfl) rfl
    | 8, _, c1 =>
      have hw_c1 : u = nI 8 := tb_eq (by decide) c1
      refine g_tableIn F 133 dX2_about_1 (by rw [c1]; decide) (by rw [c1]; decide) (by rw [c1]; rfl) (by decide) ?_
      refine g_aload_n F dX2_about_133 rfl 0 rfl ?_
      refine g_get F (.ref (a 2)) zX2_about_inX2 0 rfl rfl 2 (by decide) rfl zX2_about_f13 dX2_about_134 ?_
      refine g_iconst F (v := 2) dX2_about_137 (by decide) ?_
      refine g_callS F (As := [.ref (a 2), .int 2]) (st := []) ([(a 0, .inr (2, [.ref (a 1), .int (nI ln), .ref (a 2), .ref (a 3), .ref (a 4), .int (nI ac), .int (nI nx), .ref (a 5), .ref (a 6), .ref (a 7), .ref (a 8), .int (nI se), .long sd, .ref (a 9), .ref (a 10)])), (a 1, .inl (cI, 60, .inl tx)), (a 3, .inl (cI, 79, .inl tr)), (a 4, .inl (cI, 1106, .inl di)), (a 5, .inl (cI, 158, .inl ke)), (a 6, .inl (cZ, 2, .inl ik)), (a 7, .inl (cI, 6, .inl s1)), (a 8, .inl (cI, 6, .inl s2)), (a 9, .inl (cI, 64, .inl wo)), (a 10, .inl (cI, 79, .inl re))]) ([(a 0, .inr (2, [.ref (a 1), .int (nI ln), .ref (a 2), .ref (a 3), .ref (a 4), .int (nI ac), .int (nI nx), .ref (a 5), .ref (a 6), .ref (a 7), .ref (a 8), .int (nI se), .long sd, .ref (a 9), .ref (a 10)])), (a 1, .inl (cI, 60, .inl tx)), (a 2, .inl (cI, 79, .inl nw)), (a 3, .inl (cI, 79, .inl tr)), (a 4, .inl (cI, 1106, .inl di)), (a 5, .inl (cI, 158, .inl ke)), (a 6, .inl (cZ, 2, .inl ik)), (a 7, .inl (cI, 6, .inl s1)), (a 8, .inl (cI, 6, .inl s2)), (a 9, .inl (cI, 64, .inl wo)), (a 10, .inl (cI, 79, .inl re))]) [2] [0, 1, 3, 4, 5, 6, 7, 8, 9, 10] [0, 1, 10, 2, 3, 4, 5, 6, 7, 8, 9] (kX2_those l D cI cZ cQ (a 2) nw 2 ) (va_cwS 2 F.2.2.2.2.1 gX2_about_X2_those rfl rfl rfl (by decide +kernel) ⟨Nat.le_of_ble_eq_true rfl, Nat.le_of_ble_eq_true rfl⟩) rfl rfl rfl rfl (by decide) (by decide) (by decide) rfl (by decide) (Nat.le_of_ble_eq_true rfl) ⟨Nat.zero_le _, Nat.zero_le _⟩ dX2_about_138 ?_
      exact g_endI (hR _ _ dX2_about_141) (by rw [hw_c1]; rfl) rfl
    | 9, _, c1 =>
      have hw_c1 : u = nI 9 := tb_eq (by decide) c1
      exact absurd hw_c1 h9
    | 10, _, c1 =>
      have hw_c1 : u = nI 10 := tb_eq (by decide) c1
      refine g_tableIn F 147 dX2_about_1 (by rw [c1]; decide) (by rw [c1]; decide) (by rw [c1]; rfl) (by decide) ?_
      refine g_aload_n F dX2_about_147 rfl 0 rfl ?_
      refine g_get F (.int (nI ac)) zX2_about_inX2 0 rfl rfl 5 (by decide) rfl zX2_about_f132 dX2_about_148 ?_
      exact g_endI (hR _ _ dX2_about_151) (by rw [hw_c1]; rfl) rfl
    | 11, _, c1 =>
      have hw_c1 : u = nI 11 := tb_eq (by decide) c1
      refine g_tableIn F 152 dX2_about_1 (by rw [c1]; decide) (by rw [c1]; decide) (by rw [c1]; rfl) (by decide) ?_
      refine g_aload_n F dX2_about_152 rfl 0 rfl ?_
      refine g_get F (.int (nI se)) zX2_about_inX2 0 rfl rfl 11 (by decide) rfl zX2_about_f138 dX2_about_153 ?_
      exact g_endI (hR _ _ dX2_about_156) (by rw [hw_c1]; rfl) rfl
    | 12, _, c1 =>
      have hw_c1 : u = nI 12 := tb_eq (by decide) c1
      refine g_tableIn F 157 dX2_about_1 (by rw [c1]; decide) (by rw [c1]; decide) (by rw [c1]; rfl) (by decide) ?_
      refine g_aload_n F dX2_about_157 rfl 0 rfl ?_
      refine g_get F (.int (nI ln)) zX2_about_inX2 0 rfl rfl 1 (by decide) rfl zX2_about_f102 dX2_about_158 ?_
      exact g_endI (hR _ _ dX2_about_161) (by rw [hw_c1]; rfl) rfl
    | n + 13, hn, _ => exact absurd hn (by omega)
theorem zX2_round_c163 : Cond.constantLong RX2 163 (9999) ∈ wsX2_round := by decide +kernel
set_option maxHeartbeats 1000000 in
set_option maxRecDepth 100000 in
theorem kX2_round_bad (l : Launch) (D : va_G) (cI cZ cQ : ClassId) (a : Nat → Nat) (tx : Row) (ln : Nat) (nw tr di : Row) (ac nx : Nat) (ke ik s1 s2 : Row) (se : Nat) (sd : Int64) (wo re : Row) (x y z : Int32) (hb : S_in (Int32.toInt64 x) 0 9999 = false ∨ S_in (Int32.toInt64 y) 0 9999 = false ∨ S_in (Int32.toInt64 z) 0 9999 = false) : Ct l D (gTy cI cZ cQ) yX2_round wsX2_round ({ frames := 1, cells := 0, slots := 0, locals := 25 }) [.ref (a 0), .int x, .int y, .int z] (MW cI cZ a tx ln nw tr di ac nx ke ik s1 s2 se sd wo re) (some (.int (-2))) (MW cI cZ a tx ln nw tr di ac nx ke ik s1 s2 se sd wo re) := by
  refine ct_ofI (cc := cX2_round) (nL := 5) (own := RX2) (by decide) rfl rfl ⟨rfl, rfl⟩ (Nat.le_of_ble_eq_true rfl) MW_same (fun p e s m below meth c A Q F hR => ?_)
  refine g_aw ([(a 0, .inr (2, [.ref (a 1), .int (nI ln), .ref (a 2), .ref (a 3), .ref (a 4), .int (nI ac), .int (nI nx), .ref (a 5), .ref (a 6), .ref (a 7), .ref (a 8), .int (nI se), .long sd, .ref (a 9), .ref (a 10)])), (a 1, .inl (cI, 60, .inl tx)), (a 2, .inl (cI, 79, .inl nw)), (a 3, .inl (cI, 79, .inl tr)), (a 4, .inl (cI, 1106, .inl di)), (a 5, .inl (cI, 158, .inl ke)), (a 6, .inl (cZ, 2, .inl ik)), (a 7, .inl (cI, 6, .inl s1)), (a 8, .inl (cI, 6, .inl s2)), (a 9, .inl (cI, 64, .inl wo)), (a 10, .inl (cI, 79, .inl re))]) rfl ?_
  refine g_iload_n F dX2_round_0 rfl 1 rfl ?_
  refine g_i2l F dX2_round_1 ?_
  refine g_lconst F (v := 0) dX2_round_2 (by decide) ?_
  refine g_ldc2 F zX2_round_c163 dX2_round_3 ?_
  refine g_callSn F (As := [.long (Int32.toInt64 x), .long 0, .long 9999]) (st := []) (kX2_in l D cI cZ cQ (Int32.toInt64 x) 0 9999) (va_cwS 3 F.2.2.2.2.1 gX2_round_X2_in rfl rfl rfl (by decide +kernel) ⟨Nat.le_of_ble_eq_true rfl, Nat.le_of_ble_eq_true rfl⟩) rfl rfl (Nat.le_of_ble_eq_true rfl) ⟨Nat.zero_le _, Nat.zero_le _⟩ dX2_round_6 ?_
  refine g_beq F 36 dX2_round_9 (by decide) (fun c1 => ?_) (fun c1 => ?_)
  · refine g_bipush F (v := (-2)) dX2_round_36 (by decide) ?_
    exact g_endI (hR _ _ dX2_round_38) rfl rfl
  · refine g_iload_n F dX2_round_12 rfl 2 rfl ?_
    refine g_i2l F dX2_round_13 ?_
    refine g_lconst F (v := 0) dX2_round_14 (by decide) ?_
    refine g_ldc2 F zX2_round_c163 dX2_round_15 ?_
    refine g_callSn F (As := [.long (Int32.toInt64 y), .long 0, .long 9999]) (st := []) (kX2_in l D cI cZ cQ (Int32.toInt64 y) 0 9999) (va_cwS 3 F.2.2.2.2.1 gX2_round_X2_in rfl rfl rfl (by decide +kernel) ⟨Nat.le_of_ble_eq_true rfl, Nat.le_of_ble_eq_true rfl⟩) rfl rfl (Nat.le_of_ble_eq_true rfl) ⟨Nat.zero_le _, Nat.zero_le _⟩ dX2_round_18 ?_
    refine g_beq F 36 dX2_round_21 (by decide) (fun c2 => ?_) (fun c2 => ?_)
    · refine g_bipush F (v := (-2)) dX2_round_36 (by decide) ?_
      exact g_endI (hR _ _ dX2_round_38) rfl rfl
    · refine g_iload_n F dX2_round_24 rfl 3 rfl ?_
      refine g_i2l F dX2_round_25 ?_
      refine g_lconst F (v := 0) dX2_round_26 (by decide) ?_
      refine g_ldc2 F zX2_round_c163 dX2_round_27 ?_
      refine g_callSn F (As := [.long (Int32.toInt64 z), .long 0, .long 9999]) (st := []) (kX2_in l D cI cZ cQ (Int32.toInt64 z) 0 9999) (va_cwS 3 F.2.2.2.2.1 gX2_round_X2_in rfl rfl rfl (by decide +kernel) ⟨Nat.le_of_ble_eq_true rfl, Nat.le_of_ble_eq_true rfl⟩) rfl rfl (Nat.le_of_ble_eq_true rfl) ⟨Nat.zero_le _, Nat.zero_le _⟩ dX2_round_30 ?_
      refine g_bne F 39 dX2_round_33 (by decide) (fun c3 => ?_) (fun c3 => ?_)
      · exact absurd hb (by rw [c1, c2, c3]; decide)
      · refine g_bipush F (v := (-2)) dX2_round_36 (by decide) ?_
        exact g_endI (hR _ _ dX2_round_38) rfl rfl
set_option maxHeartbeats 1000000 in
set_option maxRecDepth 100000 in
theorem kX2_round_ok (l : Launch) (D : va_G) (cI cZ cQ : ClassId) (a : Nat → Nat) (tx : Row) (ln : Nat) (nw tr di : Row) (ac nx : Nat) (ke ik s1 s2 : Row) (se : Nat) (sd : Int64) (wo re : Row) (x y z : Int32) (hx : S_in (Int32.toInt64 x) 0 9999 = true) (hy : S_in (Int32.toInt64 y) 0 9999 = true) (hz : S_in (Int32.toInt64 z) 0 9999 = true) : Ct l D (gTy cI cZ cQ) yX2_round wsX2_round ({ frames := 1, cells := 0, slots := 0, locals := 25 }) [.ref (a 0), .int x, .int y, .int z] (MW cI cZ a tx ln nw tr di ac nx ke ik s1 s2 se sd wo re) (some (.int (S_round x y z))) (MW cI cZ a tx ln nw tr di ac nx ke ik s1 s2 se sd wo re) := by
  refine ct_ofI (cc := cX2_round) (nL := 5) (own := RX2) (by decide) rfl rfl ⟨rfl, rfl⟩ (Nat.le_of_ble_eq_true rfl) MW_same (fun p e s m below meth c A Q F hR => ?_)
  refine g_aw ([(a 0, .inr (2, [.ref (a 1), .int (nI ln), .ref (a 2), .ref (a 3), .ref (a 4), .int (nI ac), .int (nI nx), .ref (a 5), .ref (a 6), .ref (a 7), .ref (a 8), .int (nI se), .long sd, .ref (a 9), .ref (a 10)])), (a 1, .inl (cI, 60, .inl tx)), (a 2, .inl (cI, 79, .inl nw)), (a 3, .inl (cI, 79, .inl tr)), (a 4, .inl (cI, 1106, .inl di)), (a 5, .inl (cI, 158, .inl ke)), (a 6, .inl (cZ, 2, .inl ik)), (a 7, .inl (cI, 6, .inl s1)), (a 8, .inl (cI, 6, .inl s2)), (a 9, .inl (cI, 64, .inl wo)), (a 10, .inl (cI, 79, .inl re))]) rfl ?_
  refine g_iload_n F dX2_round_0 rfl 1 rfl ?_
  refine g_i2l F dX2_round_1 ?_
  refine g_lconst F (v := 0) dX2_round_2 (by decide) ?_
  refine g_ldc2 F zX2_round_c163 dX2_round_3 ?_
  refine g_callSn F (As := [.long (Int32.toInt64 x), .long 0, .long 9999]) (st := []) (kX2_in l D cI cZ cQ (Int32.toInt64 x) 0 9999) (va_cwS 3 F.2.2.2.2.1 gX2_round_X2_in rfl rfl rfl (by decide +kernel) ⟨Nat.le_of_ble_eq_true rfl, Nat.le_of_ble_eq_true rfl⟩) rfl rfl (Nat.le_of_ble_eq_true rfl) ⟨Nat.zero_le _, Nat.zero_le _⟩ dX2_round_6 ?_
  refine g_beq F 36 dX2_round_9 (by decide) (fun c1 => ?_) (fun c1 => ?_)
  · exact absurd c1 (by rw [hx]; decide)
  · refine g_iload_n F dX2_round_12 rfl 2 rfl ?_
    refine g_i2l F dX2_round_13 ?_
    refine g_lconst F (v := 0) dX2_round_14 (by decide) ?_
    refine g_ldc2 F zX2_round_c163 dX2_round_15 ?_
    refine g_callSn F (As := [.long (Int32.toInt64 y), .long 0, .long 9999]) (st := []) (kX2_in l D cI cZ cQ (Int32.toInt64 y) 0 9999) (va_cwS 3 F.2.2.2.2.1 gX2_round_X2_in rfl rfl rfl (by decide +kernel) ⟨Nat.le_of_ble_eq_true rfl, Nat.le_of_ble_eq_true rfl⟩) rfl rfl (Nat.le_of_ble_eq_true rfl) ⟨Nat.zero_le _, Nat.zero_le _⟩ dX2_round_18 ?_
    refine g_beq F 36 dX2_round_21 (by decide) (fun c2 => ?_) (fun c2 => ?_)
    · exact absurd c2 (by rw [hy]; decide)
    · refine g_iload_n F dX2_round_24 rfl 3 rfl ?_
      refine g_i2l F dX2_round_25 ?_
      refine g_lconst F (v := 0) dX2_round_26 (by decide) ?_
      refine g_ldc2 F zX2_round_c163 dX2_round_27 ?_
      refine g_callSn F (As := [.long (Int32.toInt64 z), .long 0, .long 9999]) (st := []) (kX2_in l D cI cZ cQ (Int32.toInt64 z) 0 9999) (va_cwS 3 F.2.2.2.2.1 gX2_round_X2_in rfl rfl rfl (by decide +kernel) ⟨Nat.le_of_ble_eq_true rfl, Nat.le_of_ble_eq_true rfl⟩) rfl rfl (Nat.le_of_ble_eq_true rfl) ⟨Nat.zero_le _, Nat.zero_le _⟩ dX2_round_30 ?_
      refine g_bne F 39 dX2_round_33 (by decide) (fun c3 => ?_) (fun c3 => ?_)
      · refine g_iload_n F dX2_round_39 rfl 1 rfl ?_
        refine g_iload_n F dX2_round_40 rfl 2 rfl ?_
        refine g_isub F dX2_round_41 ?_
        refine g_iload_n F dX2_round_42 rfl 3 rfl ?_
        refine g_isub F dX2_round_43 ?_
        refine g_istore F (lv' := [(0, .ref (a 0)), (1, .int x), (2, .int y), (3, .int z), (4, .int ((x - y) - z))]) dX2_round_44 (by decide) [1, 2, 3, 4, 0] rfl ?_
        refine g_iload F dX2_round_46 4 rfl ?_
        refine g_if_ge F 56 dX2_round_48 (by decide) (fun c4 => ?_) (fun c4 => ?_)
        · refine g_iload F dX2_round_56 4 rfl ?_
          exact g_endI (hR _ _ dX2_round_58) (by first | (simp only [S_round, c1, c2, c3, c4, Bool.false_eq_true, ↓reduceIte]; done) | (with_reducible rfl) | (simp [S_round, c1, c2, c3, c4, Bool.false_eq_true, ↓reduceIte]; done)) rfl
        · refine g_bipush F (v := (-3)) dX2_round_51 (by decide) ?_
          refine g_goto F 58 dX2_round_53 (by decide) ?_
          exact g_endI (hR _ _ dX2_round_58) (by first | (simp only [S_round, c1, c2, c3, c4, Bool.false_eq_true, ↓reduceIte]; done) | (with_reducible rfl) | (simp [S_round, c1, c2, c3, c4, Bool.false_eq_true, ↓reduceIte]; done)) rfl
      · exact absurd c3 (by rw [hz]; decide)
