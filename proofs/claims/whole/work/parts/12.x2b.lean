set_option maxHeartbeats 1000000 in
set_option maxRecDepth 100000 in
theorem kX2_bye (l : Launch) (D : va_G) (cI cZ cQ : ClassId) (a : Nat) (f : Row) (k : Nat) (hk : k < 6) : Ct l D (gTy cI cZ cQ) yX2_bye wsX2_bye ({ frames := 2, cells := 0, slots := 0, locals := 43 }) [.ref a, .int (nI k)] ([(a, .inl (cI, 79, .inl f))]) none ([(a, .inl (cI, 79, .inl (S_bye f k)))]) := by
  refine ct_ofV (cc := cX2_bye) (nL := 7) (own := RX2) (by decide) rfl rfl ⟨rfl, rfl⟩ (Nat.le_of_ble_eq_true rfl) (by simp only [List.map]) (fun p e s m below meth c A Q F hR => ?_)
  refine g_aload_n F dX2_bye_0 rfl 0 rfl ?_
  refine g_bipush F (v := 72) dX2_bye_1 (by decide) ?_
  refine g_as (nI 72) rfl ?_
  refine g_dup2 F dX2_bye_3 rfl rfl ?_
  refine g_iald F (j := 72) 0 0 rfl rfl (by omega) (by decide) dX2_bye_4 ?_
  refine g_iconst F (v := 1) dX2_bye_5 (by decide) ?_
  refine g_iadd F dX2_bye_6 ?_
  refine g_iast F (j := 72) ([(a, .inl (cI, 79, .inl (upd f 72 ((f 72) + 1))))]) 0 0 rfl rfl (by omega) (by decide) dX2_bye_7 rfl ?_
  refine g_aload_n F dX2_bye_8 rfl 0 rfl ?_
  refine g_iload_n F dX2_bye_9 rfl 1 rfl ?_
  refine g_callSs F (As := [.ref a, .int (nI k)]) (st := []) (kX2_goAway l D cI cZ cQ a (upd f 72 ((f 72) + 1)) k (by omega)) (va_cwS 2 F.2.2.2.2.1 gX2_bye_X2_goAway rfl rfl rfl (by decide +kernel) ⟨Nat.le_of_ble_eq_true rfl, Nat.le_of_ble_eq_true rfl⟩) rfl rfl (Nat.le_of_ble_eq_true rfl) ⟨Nat.zero_le _, Nat.zero_le _⟩ dX2_bye_10 ?_
  refine g_iconst F (v := 0) dX2_bye_13 (by decide) ?_
  refine g_istore_n F (lv' := [(0, .ref a), (1, .int (nI k)), (2, .int 0)]) dX2_bye_14 rfl (by decide) [1, 2, 0] rfl ?_
  refine g_all (w0 := [(a, .inl (cI, 79, .inl (it (S_byeStep k) 0 (S_bye0 f k))))]) (lv0 := [(0, .ref a), (1, .int (nI k)), (2, .int (nI 0))]) (st0 := []) rfl rfl rfl ?_
  refine g_for 6 (fun i => True) (fun i => [(a, .inl (cI, 79, .inl (it (S_byeStep k) i (S_bye0 f k))))]) (fun i => [(0, .ref a), (1, .int (nI k)), (2, .int (nI i))]) (fun i hi hIi ihi => ?_) 0 (Nat.zero_le _) trivial
  dsimp only [it_s] at ihi ⊢
  generalize hg_g : it (S_byeStep k) i (S_bye0 f k) = g at ihi ⊢
  refine g_iload_n F dX2_bye_15 rfl 2 rfl ?_
  refine g_bipush F (v := 6) dX2_bye_16 (by decide) ?_
  refine g_icmp_ge F 177 dX2_bye_18 (by decide) (fun c1 => ?_) (fun c1 => ?_)
  · have hx_c1 : 6 = i := lp_ge hi (by decide) c1
    subst hx_c1
    subst hg_g
    exact g_endV (hR _ _ dX2_bye_177) rfl
  · have hlti : i < 6 := lp_lt hi (by decide) c1
    refine g_aload_n F dX2_bye_21 rfl 0 rfl ?_
    refine g_iload_n F dX2_bye_22 rfl 1 rfl ?_
    refine g_iload_n F dX2_bye_23 rfl 2 rfl ?_
    refine g_callSs F (As := [.ref a, .int (nI k), .int (nI i)]) (st := []) (kX2_reaches l D cI cZ cQ a g k i (by omega) (by omega)) (va_cwS 3 F.2.2.2.2.1 gX2_bye_X2_reaches rfl rfl rfl (by decide +kernel) ⟨Nat.le_of_ble_eq_true rfl, Nat.le_of_ble_eq_true rfl⟩) rfl rfl (Nat.le_of_ble_eq_true rfl) ⟨Nat.zero_le _, Nat.zero_le _⟩ dX2_bye_24 ?_
    refine g_beq F 171 dX2_bye_27 (by decide) (fun c2 => ?_) (fun c2 => ?_)
    · refine g_iinc F (lv' := [(0, .ref a), (1, .int (nI k)), (2, .int (nI (i + 1)))]) (nI (i + 1)) dX2_bye_171 2 rfl (nI_add i 1) (by decide) [1, 2, 0] rfl ?_
      refine g_goto F 15 dX2_bye_174 (by decide) ?_
      refine g_all (w0 := [(a, .inl (cI, 79, .inl (S_byeStep k i g)))]) (lv0 := [(0, .ref a), (1, .int (nI k)), (2, .int (nI (i + 1)))]) (st0 := []) (by rw [S_byeStep_a c2]) rfl rfl ?_
      exact ihi hlti trivial
    · refine g_aload_n F dX2_bye_30 rfl 0 rfl ?_
      refine g_bipush F (v := 60) dX2_bye_31 (by decide) ?_
      refine g_iload_n F dX2_bye_33 rfl 2 rfl ?_
      refine g_iadd F dX2_bye_34 ?_
      refine g_as (nI (60 + i)) (nI_add 60 i) ?_
      refine g_dup2 F dX2_bye_35 rfl rfl ?_
      refine g_iald F (j := 60 + i) 0 0 rfl rfl (by omega) (by decide) dX2_bye_36 ?_
      refine g_aload_n F dX2_bye_37 rfl 0 rfl ?_
      refine g_iload_n F dX2_bye_38 rfl 2 rfl ?_
      refine g_iald F (j := i) 0 0 rfl rfl (by omega) (by decide) dX2_bye_39 ?_
      refine g_iconst F (v := 2) dX2_bye_40 (by decide) ?_
      have hJ4 : Go p l e ({ frames := 2, cells := 0, slots := 0, locals := 43 }) s m (List.toArray [.ref a, .int (nI k)]) below meth c Q D A 7 0 0 ([(a, .inl (cI, 79, .inl g))]) 49 [(0, .ref a), (1, .int (nI k)), (2, .int (nI i))] [.int (if g i = 2 then (1 : Int32) else 0), .int (g (60 + i)), .int (nI (60 + i)), .ref a] := by
        refine g_iadd F dX2_bye_49 ?_
        refine g_iast F (j := 60 + i) ([(a, .inl (cI, 79, .inl (upd g (60 + i) ((g (60 + i)) + (if g i = 2 then (1 : Int32) else 0)))))]) 0 0 rfl rfl (by omega) (by decide) dX2_bye_50 rfl ?_
        refine g_aload_n F dX2_bye_51 rfl 0 rfl ?_
        refine g_bipush F (v := 6) dX2_bye_52 (by decide) ?_
        refine g_iload_n F dX2_bye_54 rfl 2 rfl ?_
        refine g_iadd F dX2_bye_55 ?_
        refine g_as (nI (6 + i)) (nI_add 6 i) ?_
        refine g_iald F (j := 6 + i) 0 0 rfl rfl (by omega) (by decide) dX2_bye_56 ?_
        refine g_iload_n F dX2_bye_57 rfl 1 rfl ?_
        refine g_callSn F (As := [.int ((upd g (60 + i) ((g (60 + i)) + (if g i = 2 then (1 : Int32) else 0))) (6 + i)), .int (nI k)]) (st := []) (kX2_has l D cI cZ cQ ((upd g (60 + i) ((g (60 + i)) + (if g i = 2 then (1 : Int32) else 0))) (6 + i)) (nI k)) (va_cwS 2 F.2.2.2.2.1 gX2_bye_X2_has rfl rfl rfl (by decide +kernel) ⟨Nat.le_of_ble_eq_true rfl, Nat.le_of_ble_eq_true rfl⟩) rfl rfl (Nat.le_of_ble_eq_true rfl) ⟨Nat.zero_le _, Nat.zero_le _⟩ dX2_bye_58 ?_
        refine g_istore_n F (lv' := [(0, .ref a), (1, .int (nI k)), (2, .int (nI i)), (3, .int (bI (S_has ((upd g (60 + i) ((g (60 + i)) + (if g i = 2 then (1 : Int32) else 0))) (6 + i)) (nI k))))]) dX2_bye_61 rfl (by decide) [1, 2, 3, 0] rfl ?_
        refine g_aload_n F dX2_bye_62 rfl 0 rfl ?_
        refine g_iload_n F dX2_bye_63 rfl 2 rfl ?_
        refine g_callSs F (As := [.ref a, .int (nI i)]) (st := []) (kX2_countOf l D cI cZ cQ a (upd g (60 + i) ((g (60 + i)) + (if g i = 2 then (1 : Int32) else 0))) i (by omega)) (va_cwS 2 F.2.2.2.2.1 gX2_bye_X2_countOf rfl rfl rfl (by decide +kernel) ⟨Nat.le_of_ble_eq_true rfl, Nat.le_of_ble_eq_true rfl⟩) rfl rfl (Nat.le_of_ble_eq_true rfl) ⟨Nat.zero_le _, Nat.zero_le _⟩ dX2_bye_64 ?_
        refine g_istore F (lv' := [(0, .ref a), (1, .int (nI k)), (2, .int (nI i)), (3, .int (bI (S_has ((upd g (60 + i) ((g (60 + i)) + (if g i = 2 then (1 : Int32) else 0))) (6 + i)) (nI k)))), (4, .int (S_count (upd g (60 + i) ((g (60 + i)) + (if g i = 2 then (1 : Int32) else 0))) i))]) dX2_bye_67 (by decide) [1, 2, 3, 4, 0] rfl ?_
        refine g_aload_n F dX2_bye_69 rfl 0 rfl ?_
        refine g_bipush F (v := 6) dX2_bye_70 (by decide) ?_
        refine g_iload_n F dX2_bye_72 rfl 2 rfl ?_
        refine g_iadd F dX2_bye_73 ?_
        refine g_as (nI (6 + i)) (nI_add 6 i) ?_
        refine g_dup2 F dX2_bye_74 rfl rfl ?_
        refine g_iald F (j := 6 + i) 0 0 rfl rfl (by omega) (by decide) dX2_bye_75 ?_
        refine g_iconst F (v := 1) dX2_bye_76 (by decide) ?_
        refine g_iload_n F dX2_bye_77 rfl 1 rfl ?_
        refine g_ishl F dX2_bye_78 ?_
        refine g_iconst F (v := (-1)) dX2_bye_79 (by decide) ?_
        refine g_ixor F dX2_bye_80 ?_
        refine g_iand F dX2_bye_81 ?_
        refine g_iast F (j := 6 + i) ([(a, .inl (cI, 79, .inl (upd (upd g (60 + i) ((g (60 + i)) + (if g i = 2 then (1 : Int32) else 0))) (6 + i) (((upd g (60 + i) ((g (60 + i)) + (if g i = 2 then (1 : Int32) else 0))) (6 + i)) &&& ((1 <<< ((nI k) &&& 31)) ^^^ (-1))))))]) 0 0 rfl rfl (by omega) (by decide) dX2_bye_82 rfl ?_
        refine g_iload_n F dX2_bye_83 rfl 3 rfl ?_
        refine g_beq F 171 dX2_bye_84 (by decide) (fun c5 => ?_) (fun c5 => ?_)
        · refine g_iinc F (lv' := [(0, .ref a), (1, .int (nI k)), (2, .int (nI (i + 1))), (3, .int (bI (S_has ((upd g (60 + i) ((g (60 + i)) + (if g i = 2 then (1 : Int32) else 0))) (6 + i)) (nI k)))), (4, .int (S_count (upd g (60 + i) ((g (60 + i)) + (if g i = 2 then (1 : Int32) else 0))) i))]) (nI (i + 1)) dX2_bye_171 2 rfl (nI_add i 1) (by decide) [1, 2, 0, 3, 4] rfl ?_
          refine g_goto F 15 dX2_bye_174 (by decide) ?_
          refine g_lvs [0, 1, 2] rfl ?_
          refine g_all (w0 := [(a, .inl (cI, 79, .inl (S_byeStep k i g)))]) (lv0 := [(0, .ref a), (1, .int (nI k)), (2, .int (nI (i + 1)))]) (st0 := []) (by rw [S_byeStep_b c2 c5]; rfl) rfl rfl ?_
          exact ihi hlti trivial
        · refine g_aload_n F dX2_bye_87 rfl 0 rfl ?_
          refine g_iload_n F dX2_bye_88 rfl 2 rfl ?_
          refine g_iald F (j := i) 0 0 rfl rfl (by omega) (by decide) dX2_bye_89 ?_
          refine g_iconst F (v := 1) dX2_bye_90 (by decide) ?_
          refine g_icmp_ne F 171 dX2_bye_91 (by decide) (fun c6 => ?_) (fun c6 => ?_)
          · refine g_iinc F (lv' := [(0, .ref a), (1, .int (nI k)), (2, .int (nI (i + 1))), (3, .int (bI (S_has ((upd g (60 + i) ((g (60 + i)) + (if g i = 2 then (1 : Int32) else 0))) (6 + i)) (nI k)))), (4, .int (S_count (upd g (60 + i) ((g (60 + i)) + (if g i = 2 then (1 : Int32) else 0))) i))]) (nI (i + 1)) dX2_bye_171 2 rfl (nI_add i 1) (by decide) [1, 2, 0, 3, 4] rfl ?_
            refine g_goto F 15 dX2_bye_174 (by decide) ?_
            refine g_lvs [0, 1, 2] rfl ?_
            refine g_all (w0 := [(a, .inl (cI, 79, .inl (S_byeStep k i g)))]) (lv0 := [(0, .ref a), (1, .int (nI k)), (2, .int (nI (i + 1)))]) (st0 := []) (by rw [S_byeStep_c c2 c5 c6]; rfl) rfl rfl ?_
            exact ihi hlti trivial
          · refine g_aload_n F dX2_bye_94 rfl 0 rfl ?_
            refine g_bipush F (v := 70) dX2_bye_95 (by decide) ?_
            refine g_as (nI 70) rfl ?_
            refine g_iald F (j := 70) 0 0 rfl rfl (by omega) (by decide) dX2_bye_97 ?_
            refine g_istore F (lv' := [(0, .ref a), (1, .int (nI k)), (2, .int (nI i)), (3, .int (bI (S_has ((upd g (60 + i) ((g (60 + i)) + (if g i = 2 then (1 : Int32) else 0))) (6 + i)) (nI k)))), (4, .int (S_count (upd g (60 + i) ((g (60 + i)) + (if g i = 2 then (1 : Int32) else 0))) i)), (5, .int ((upd (upd g (60 + i) ((g (60 + i)) + (if g i = 2 then (1 : Int32) else 0))) (6 + i) (((upd g (60 + i) ((g (60 + i)) + (if g i = 2 then (1 : Int32) else 0))) (6 + i)) &&& ((1 <<< ((nI k) &&& 31)) ^^^ (-1)))) 70))]) dX2_bye_98 (by decide) [1, 2, 3, 4, 5, 0] rfl ?_
            refine g_aload_n F dX2_bye_100 rfl 0 rfl ?_
            refine g_bipush F (v := 54) dX2_bye_101 (by decide) ?_
            refine g_iload_n F dX2_bye_103 rfl 2 rfl ?_
            refine g_iadd F dX2_bye_104 ?_
            refine g_as (nI (54 + i)) (nI_add 54 i) ?_
            refine g_iald F (j := 54 + i) 0 0 rfl rfl (by omega) (by decide) dX2_bye_105 ?_
            refine g_iload F dX2_bye_106 5 rfl ?_
            have hJ8 : Go p l e ({ frames := 2, cells := 0, slots := 0, locals := 43 }) s m (List.toArray [.ref a, .int (nI k)]) below meth c Q D A 7 0 0 ([(a, .inl (cI, 79, .inl (upd (upd g (60 + i) ((g (60 + i)) + (if g i = 2 then (1 : Int32) else 0))) (6 + i) (((upd g (60 + i) ((g (60 + i)) + (if g i = 2 then (1 : Int32) else 0))) (6 + i)) &&& ((1 <<< ((nI k) &&& 31)) ^^^ (-1))))))]) 124 [(0, .ref a), (1, .int (nI k)), (2, .int (nI i)), (3, .int (bI (S_has ((upd g (60 + i) ((g (60 + i)) + (if g i = 2 then (1 : Int32) else 0))) (6 + i)) (nI k)))), (4, .int (S_count (upd g (60 + i) ((g (60 + i)) + (if g i = 2 then (1 : Int32) else 0))) i)), (5, .int ((upd (upd g (60 + i) ((g (60 + i)) + (if g i = 2 then (1 : Int32) else 0))) (6 + i) (((upd g (60 + i) ((g (60 + i)) + (if g i = 2 then (1 : Int32) else 0))) (6 + i)) &&& ((1 <<< ((nI k) &&& 31)) ^^^ (-1)))) 70))] [.int (if (upd (upd g (60 + i) ((g (60 + i)) + (if g i = 2 then (1 : Int32) else 0))) (6 + i) (((upd g (60 + i) ((g (60 + i)) + (if g i = 2 then (1 : Int32) else 0))) (6 + i)) &&& ((1 <<< ((nI k) &&& 31)) ^^^ (-1)))) (54 + i) ≤ (upd (upd g (60 + i) ((g (60 + i)) + (if g i = 2 then (1 : Int32) else 0))) (6 + i) (((upd g (60 + i) ((g (60 + i)) + (if g i = 2 then (1 : Int32) else 0))) (6 + i)) &&& ((1 <<< ((nI k) &&& 31)) ^^^ (-1)))) 70 then (0 : Int32) else (upd (upd g (60 + i) ((g (60 + i)) + (if g i = 2 then (1 : Int32) else 0))) (6 + i) (((upd g (60 + i) ((g (60 + i)) + (if g i = 2 then (1 : Int32) else 0))) (6 + i)) &&& ((1 <<< ((nI k) &&& 31)) ^^^ (-1)))) (54 + i) - (upd (upd g (60 + i) ((g (60 + i)) + (if g i = 2 then (1 : Int32) else 0))) (6 + i) (((upd g (60 + i) ((g (60 + i)) + (if g i = 2 then (1 : Int32) else 0))) (6 + i)) &&& ((1 <<< ((nI k) &&& 31)) ^^^ (-1)))) 70)] := by
              refine g_istore F (lv' := [(0, .ref a), (1, .int (nI k)), (2, .int (nI i)), (3, .int (bI (S_has ((upd g (60 + i) ((g (60 + i)) + (if g i = 2 then (1 : Int32) else 0))) (6 + i)) (nI k)))), (4, .int (S_count (upd g (60 + i) ((g (60 + i)) + (if g i = 2 then (1 : Int32) else 0))) i)), (5, .int ((upd (upd g (60 + i) ((g (60 + i)) + (if g i = 2 then (1 : Int32) else 0))) (6 + i) (((upd g (60 + i) ((g (60 + i)) + (if g i = 2 then (1 : Int32) else 0))) (6 + i)) &&& ((1 <<< ((nI k) &&& 31)) ^^^ (-1)))) 70)), (6, .int (if (upd (upd g (60 + i) ((g (60 + i)) + (if g i = 2 then (1 : Int32) else 0))) (6 + i) (((upd g (60 + i) ((g (60 + i)) + (if g i = 2 then (1 : Int32) else 0))) (6 + i)) &&& ((1 <<< ((nI k) &&& 31)) ^^^ (-1)))) (54 + i) ≤ (upd (upd g (60 + i) ((g (60 + i)) + (if g i = 2 then (1 : Int32) else 0))) (6 + i) (((upd g (60 + i) ((g (60 + i)) + (if g i = 2 then (1 : Int32) else 0))) (6 + i)) &&& ((1 <<< ((nI k) &&& 31)) ^^^ (-1)))) 70 then (0 : Int32) else (upd (upd g (60 + i) ((g (60 + i)) + (if g i = 2 then (1 : Int32) else 0))) (6 + i) (((upd g (60 + i) ((g (60 + i)) + (if g i = 2 then (1 : Int32) else 0))) (6 + i)) &&& ((1 <<< ((nI k) &&& 31)) ^^^ (-1)))) (54 + i) - (upd (upd g (60 + i) ((g (60 + i)) + (if g i = 2 then (1 : Int32) else 0))) (6 + i) (((upd g (60 + i) ((g (60 + i)) + (if g i = 2 then (1 : Int32) else 0))) (6 + i)) &&& ((1 <<< ((nI k) &&& 31)) ^^^ (-1)))) 70))]) dX2_bye_124 (by decide) [1, 2, 3, 4, 5, 6, 0] rfl ?_
              refine g_aload_n F dX2_bye_126 rfl 0 rfl ?_
              refine g_bipush F (v := 54) dX2_bye_127 (by decide) ?_
              refine g_iload_n F dX2_bye_129 rfl 2 rfl ?_
              refine g_iadd F dX2_bye_130 ?_
              refine g_as (nI (54 + i)) (nI_add 54 i) ?_
              refine g_iload F dX2_bye_131 5 rfl ?_
              refine g_iload F dX2_bye_133 6 rfl ?_
              refine g_iload F dX2_bye_135 4 rfl ?_
              refine g_iconst F (v := 1) dX2_bye_137 (by decide) ?_
              refine g_isub F dX2_bye_138 ?_
              refine g_imul F dX2_bye_139 ?_
              refine g_iload F dX2_bye_140 4 rfl ?_
              refine g_idiv F dX2_bye_142 (S_bye_nz (by assumption) hlti) ?_
              refine g_iadd F dX2_bye_143 ?_
              refine g_iast F (j := 54 + i) ([(a, .inl (cI, 79, .inl (upd (upd (upd g (60 + i) ((g (60 + i)) + (if g i = 2 then (1 : Int32) else 0))) (6 + i) (((upd g (60 + i) ((g (60 + i)) + (if g i = 2 then (1 : Int32) else 0))) (6 + i)) &&& ((1 <<< ((nI k) &&& 31)) ^^^ (-1)))) (54 + i) (((upd (upd g (60 + i) ((g (60 + i)) + (if g i = 2 then (1 : Int32) else 0))) (6 + i) (((upd g (60 + i) ((g (60 + i)) + (if g i = 2 then (1 : Int32) else 0))) (6 + i)) &&& ((1 <<< ((nI k) &&& 31)) ^^^ (-1)))) 70) + (((if (upd (upd g (60 + i) ((g (60 + i)) + (if g i = 2 then (1 : Int32) else 0))) (6 + i) (((upd g (60 + i) ((g (60 + i)) + (if g i = 2 then (1 : Int32) else 0))) (6 + i)) &&& ((1 <<< ((nI k) &&& 31)) ^^^ (-1)))) (54 + i) ≤ (upd (upd g (60 + i) ((g (60 + i)) + (if g i = 2 then (1 : Int32) else 0))) (6 + i) (((upd g (60 + i) ((g (60 + i)) + (if g i = 2 then (1 : Int32) else 0))) (6 + i)) &&& ((1 <<< ((nI k) &&& 31)) ^^^ (-1)))) 70 then (0 : Int32) else (upd (upd g (60 + i) ((g (60 + i)) + (if g i = 2 then (1 : Int32) else 0))) (6 + i) (((upd g (60 + i) ((g (60 + i)) + (if g i = 2 then (1 : Int32) else 0))) (6 + i)) &&& ((1 <<< ((nI k) &&& 31)) ^^^ (-1)))) (54 + i) - (upd (upd g (60 + i) ((g (60 + i)) + (if g i = 2 then (1 : Int32) else 0))) (6 + i) (((upd g (60 + i) ((g (60 + i)) + (if g i = 2 then (1 : Int32) else 0))) (6 + i)) &&& ((1 <<< ((nI k) &&& 31)) ^^^ (-1)))) 70) * ((S_count (upd g (60 + i) ((g (60 + i)) + (if g i = 2 then (1 : Int32) else 0))) i) - 1)) / (S_count (upd g (60 + i) ((g (60 + i)) + (if g i = 2 then (1 : Int32) else 0))) i))))))]) 0 0 rfl rfl (by omega) (by decide) dX2_bye_144 rfl ?_
              refine g_aload_n F dX2_bye_145 rfl 0 rfl ?_
              refine g_bipush F (v := 48) dX2_bye_146 (by decide) ?_
              refine g_iload_n F dX2_bye_148 rfl 2 rfl ?_
              refine g_iadd F dX2_bye_149 ?_
              refine g_as (nI (48 + i)) (nI_add 48 i) ?_
              refine g_iload F dX2_bye_150 5 rfl ?_
              refine g_iload F dX2_bye_152 5 rfl ?_
              refine g_aload_n F dX2_bye_154 rfl 0 rfl ?_
              refine g_bipush F (v := 48) dX2_bye_155 (by decide) ?_
              refine g_iload_n F dX2_bye_157 rfl 2 rfl ?_
              refine g_iadd F dX2_bye_158 ?_
              refine g_as (nI (48 + i)) (nI_add 48 i) ?_
              refine g_iald F (j := 48 + i) 0 0 rfl rfl (by omega) (by decide) dX2_bye_159 ?_
              refine g_isub F dX2_bye_160 ?_
              refine g_iload F dX2_bye_161 4 rfl ?_
              refine g_iconst F (v := 1) dX2_bye_163 (by decide) ?_
              refine g_isub F dX2_bye_164 ?_
              refine g_imul F dX2_bye_165 ?_
              refine g_iload F dX2_bye_166 4 rfl ?_
              refine g_idiv F dX2_bye_168 (S_bye_nz (by assumption) hlti) ?_
              refine g_isub F dX2_bye_169 ?_
              refine g_iast F (j := 48 + i) ([(a, .inl (cI, 79, .inl (upd (upd (upd (upd g (60 + i) ((g (60 + i)) + (if g i = 2 then (1 : Int32) else 0))) (6 + i) (((upd g (60 + i) ((g (60 + i)) + (if g i = 2 then (1 : Int32) else 0))) (6 + i)) &&& ((1 <<< ((nI k) &&& 31)) ^^^ (-1)))) (54 + i) (((upd (upd g (60 + i) ((g (60 + i)) + (if g i = 2 then (1 : Int32) else 0))) (6 + i) (((upd g (60 + i) ((g (60 + i)) + (if g i = 2 then (1 : Int32) else 0))) (6 + i)) &&& ((1 <<< ((nI k) &&& 31)) ^^^ (-1)))) 70) + (((if (upd (upd g (60 + i) ((g (60 + i)) + (if g i = 2 then (1 : Int32) else 0))) (6 + i) (((upd g (60 + i) ((g (60 + i)) + (if g i = 2 then (1 : Int32) else 0))) (6 + i)) &&& ((1 <<< ((nI k) &&& 31)) ^^^ (-1)))) (54 + i) ≤ (upd (upd g (60 + i) ((g (60 + i)) + (if g i = 2 then (1 : Int32) else 0))) (6 + i) (((upd g (60 + i) ((g (60 + i)) + (if g i = 2 then (1 : Int32) else 0))) (6 + i)) &&& ((1 <<< ((nI k) &&& 31)) ^^^ (-1)))) 70 then (0 : Int32) else (upd (upd g (60 + i) ((g (60 + i)) + (if g i = 2 then (1 : Int32) else 0))) (6 + i) (((upd g (60 + i) ((g (60 + i)) + (if g i = 2 then (1 : Int32) else 0))) (6 + i)) &&& ((1 <<< ((nI k) &&& 31)) ^^^ (-1)))) (54 + i) - (upd (upd g (60 + i) ((g (60 + i)) + (if g i = 2 then (1 : Int32) else 0))) (6 + i) (((upd g (60 + i) ((g (60 + i)) + (if g i = 2 then (1 : Int32) else 0))) (6 + i)) &&& ((1 <<< ((nI k) &&& 31)) ^^^ (-1)))) 70) * ((S_count (upd g (60 + i) ((g (60 + i)) + (if g i = 2 then (1 : Int32) else 0))) i) - 1)) / (S_count (upd g (60 + i) ((g (60 + i)) + (if g i = 2 then (1 : Int32) else 0))) i)))) (48 + i) (((upd (upd g (60 + i) ((g (60 + i)) + (if g i = 2 then (1 : Int32) else 0))) (6 + i) (((upd g (60 + i) ((g (60 + i)) + (if g i = 2 then (1 : Int32) else 0))) (6 + i)) &&& ((1 <<< ((nI k) &&& 31)) ^^^ (-1)))) 70) - (((((upd (upd g (60 + i) ((g (60 + i)) + (if g i = 2 then (1 : Int32) else 0))) (6 + i) (((upd g (60 + i) ((g (60 + i)) + (if g i = 2 then (1 : Int32) else 0))) (6 + i)) &&& ((1 <<< ((nI k) &&& 31)) ^^^ (-1)))) 70) - ((upd (upd (upd g (60 + i) ((g (60 + i)) + (if g i = 2 then (1 : Int32) else 0))) (6 + i) (((upd g (60 + i) ((g (60 + i)) + (if g i = 2 then (1 : Int32) else 0))) (6 + i)) &&& ((1 <<< ((nI k) &&& 31)) ^^^ (-1)))) (54 + i) (((upd (upd g (60 + i) ((g (60 + i)) + (if g i = 2 then (1 : Int32) else 0))) (6 + i) (((upd g (60 + i) ((g (60 + i)) + (if g i = 2 then (1 : Int32) else 0))) (6 + i)) &&& ((1 <<< ((nI k) &&& 31)) ^^^ (-1)))) 70) + (((if (upd (upd g (60 + i) ((g (60 + i)) + (if g i = 2 then (1 : Int32) else 0))) (6 + i) (((upd g (60 + i) ((g (60 + i)) + (if g i = 2 then (1 : Int32) else 0))) (6 + i)) &&& ((1 <<< ((nI k) &&& 31)) ^^^ (-1)))) (54 + i) ≤ (upd (upd g (60 + i) ((g (60 + i)) + (if g i = 2 then (1 : Int32) else 0))) (6 + i) (((upd g (60 + i) ((g (60 + i)) + (if g i = 2 then (1 : Int32) else 0))) (6 + i)) &&& ((1 <<< ((nI k) &&& 31)) ^^^ (-1)))) 70 then (0 : Int32) else (upd (upd g (60 + i) ((g (60 + i)) + (if g i = 2 then (1 : Int32) else 0))) (6 + i) (((upd g (60 + i) ((g (60 + i)) + (if g i = 2 then (1 : Int32) else 0))) (6 + i)) &&& ((1 <<< ((nI k) &&& 31)) ^^^ (-1)))) (54 + i) - (upd (upd g (60 + i) ((g (60 + i)) + (if g i = 2 then (1 : Int32) else 0))) (6 + i) (((upd g (60 + i) ((g (60 + i)) + (if g i = 2 then (1 : Int32) else 0))) (6 + i)) &&& ((1 <<< ((nI k) &&& 31)) ^^^ (-1)))) 70) * ((S_count (upd g (60 + i) ((g (60 + i)) + (if g i = 2 then (1 : Int32) else 0))) i) - 1)) / (S_count (upd g (60 + i) ((g (60 + i)) + (if g i = 2 then (1 : Int32) else 0))) i)))) (48 + i))) * ((S_count (upd g (60 + i) ((g (60 + i)) + (if g i = 2 then (1 : Int32) else 0))) i) - 1)) / (S_count (upd g (60 + i) ((g (60 + i)) + (if g i = 2 then (1 : Int32) else 0))) i))))))]) 0 0 rfl rfl (by omega) (by decide) dX2_bye_170 rfl ?_
              refine g_iinc F (lv' := [(0, .ref a), (1, .int (nI k)), (2, .int (nI (i + 1))), (3, .int (bI (S_has ((upd g (60 + i) ((g (60 + i)) + (if g i = 2 then (1 : Int32) else 0))) (6 + i)) (nI k)))), (4, .int (S_count (upd g (60 + i) ((g (60 + i)) + (if g i = 2 then (1 : Int32) else 0))) i)), (5, .int ((upd (upd g (60 + i) ((g (60 + i)) + (if g i = 2 then (1 : Int32) else 0))) (6 + i) (((upd g (60 + i) ((g (60 + i)) + (if g i = 2 then (1 : Int32) else 0))) (6 + i)) &&& ((1 <<< ((nI k) &&& 31)) ^^^ (-1)))) 70)), (6, .int (if (upd (upd g (60 + i) ((g (60 + i)) + (if g i = 2 then (1 : Int32) else 0))) (6 + i) (((upd g (60 + i) ((g (60 + i)) + (if g i = 2 then (1 : Int32) else 0))) (6 + i)) &&& ((1 <<< ((nI k) &&& 31)) ^^^ (-1)))) (54 + i) ≤ (upd (upd g (60 + i) ((g (60 + i)) + (if g i = 2 then (1 : Int32) else 0))) (6 + i) (((upd g (60 + i) ((g (60 + i)) + (if g i = 2 then (1 : Int32) else 0))) (6 + i)) &&& ((1 <<< ((nI k) &&& 31)) ^^^ (-1)))) 70 then (0 : Int32) else (upd (upd g (60 + i) ((g (60 + i)) + (if g i = 2 then (1 : Int32) else 0))) (6 + i) (((upd g (60 + i) ((g (60 + i)) + (if g i = 2 then (1 : Int32) else 0))) (6 + i)) &&& ((1 <<< ((nI k) &&& 31)) ^^^ (-1)))) (54 + i) - (upd (upd g (60 + i) ((g (60 + i)) + (if g i = 2 then (1 : Int32) else 0))) (6 + i) (((upd g (60 + i) ((g (60 + i)) + (if g i = 2 then (1 : Int32) else 0))) (6 + i)) &&& ((1 <<< ((nI k) &&& 31)) ^^^ (-1)))) 70))]) (nI (i + 1)) dX2_bye_171 2 rfl (nI_add i 1) (by decide) [1, 2, 0, 3, 4, 5, 6] rfl ?_
              refine g_goto F 15 dX2_bye_174 (by decide) ?_
              refine g_lvs [0, 1, 2] rfl ?_
              refine g_all (w0 := [(a, .inl (cI, 79, .inl (S_byeStep k i g)))]) (lv0 := [(0, .ref a), (1, .int (nI k)), (2, .int (nI (i + 1)))]) (st0 := []) (by rw [S_byeStep_d c2 c5 c6]; rfl) rfl rfl ?_
              exact ihi hlti trivial
            refine g_icmp_le F 123 dX2_bye_108 (by decide) (fun c7 => ?_) (fun c7 => ?_)
            · refine g_iconst F (v := 0) dX2_bye_123 (by decide) ?_
              refine g_as (if (upd (upd g (60 + i) ((g (60 + i)) + (if g i = 2 then (1 : Int32) else 0))) (6 + i) (((upd g (60 + i) ((g (60 + i)) + (if g i = 2 then (1 : Int32) else 0))) (6 + i)) &&& ((1 <<< ((nI k) &&& 31)) ^^^ (-1)))) (54 + i) ≤ (upd (upd g (60 + i) ((g (60 + i)) + (if g i = 2 then (1 : Int32) else 0))) (6 + i) (((upd g (60 + i) ((g (60 + i)) + (if g i = 2 then (1 : Int32) else 0))) (6 + i)) &&& ((1 <<< ((nI k) &&& 31)) ^^^ (-1)))) 70 then (0 : Int32) else (upd (upd g (60 + i) ((g (60 + i)) + (if g i = 2 then (1 : Int32) else 0))) (6 + i) (((upd g (60 + i) ((g (60 + i)) + (if g i = 2 then (1 : Int32) else 0))) (6 + i)) &&& ((1 <<< ((nI k) &&& 31)) ^^^ (-1)))) (54 + i) - (upd (upd g (60 + i) ((g (60 + i)) + (if g i = 2 then (1 : Int32) else 0))) (6 + i) (((upd g (60 + i) ((g (60 + i)) + (if g i = 2 then (1 : Int32) else 0))) (6 + i)) &&& ((1 <<< ((nI k) &&& 31)) ^^^ (-1)))) 70) (by first | (simp only [c2, c5, c6, c7, Bool.false_eq_true, ↓reduceIte]; done) | (with_reducible rfl) | (simp [c2, c5, c6, c7, Bool.false_eq_true, ↓reduceIte]; done)) ?_
              exact hJ8
            · refine g_aload_n F dX2_bye_111 rfl 0 rfl ?_
              refine g_bipush F (v := 54) dX2_bye_112 (by decide) ?_
              refine g_iload_n F dX2_bye_114 rfl 2 rfl ?_
              refine g_iadd F dX2_bye_115 ?_
              refine g_as (nI (54 + i)) (nI_add 54 i) ?_
              refine g_iald F (j := 54 + i) 0 0 rfl rfl (by omega) (by decide) dX2_bye_116 ?_
              refine g_iload F dX2_bye_117 5 rfl ?_
              refine g_isub F dX2_bye_119 ?_
              refine g_goto F 124 dX2_bye_120 (by decide) ?_
              refine g_as (if (upd (upd g (60 + i) ((g (60 + i)) + (if g i = 2 then (1 : Int32) else 0))) (6 + i) (((upd g (60 + i) ((g (60 + i)) + (if g i = 2 then (1 : Int32) else 0))) (6 + i)) &&& ((1 <<< ((nI k) &&& 31)) ^^^ (-1)))) (54 + i) ≤ (upd (upd g (60 + i) ((g (60 + i)) + (if g i = 2 then (1 : Int32) else 0))) (6 + i) (((upd g (60 + i) ((g (60 + i)) + (if g i = 2 then (1 : Int32) else 0))) (6 + i)) &&& ((1 <<< ((nI k) &&& 31)) ^^^ (-1)))) 70 then (0 : Int32) else (upd (upd g (60 + i) ((g (60 + i)) + (if g i = 2 then (1 : Int32) else 0))) (6 + i) (((upd g (60 + i) ((g (60 + i)) + (if g i = 2 then (1 : Int32) else 0))) (6 + i)) &&& ((1 <<< ((nI k) &&& 31)) ^^^ (-1)))) (54 + i) - (upd (upd g (60 + i) ((g (60 + i)) + (if g i = 2 then (1 : Int32) else 0))) (6 + i) (((upd g (60 + i) ((g (60 + i)) + (if g i = 2 then (1 : Int32) else 0))) (6 + i)) &&& ((1 <<< ((nI k) &&& 31)) ^^^ (-1)))) 70) (by first | (simp only [c2, c5, c6, c7, Bool.false_eq_true, ↓reduceIte]; done) | (with_reducible rfl) | (simp [c2, c5, c6, c7, Bool.false_eq_true, ↓reduceIte]; done)) ?_
              exact hJ8
      refine g_icmp_ne F 48 dX2_bye_41 (by decide) (fun c3 => ?_) (fun c3 => ?_)
      · refine g_iconst F (v := 0) dX2_bye_48 (by decide) ?_
        refine g_as (if g i = 2 then (1 : Int32) else 0) (by first | (simp only [c2, c3, Bool.false_eq_true, ↓reduceIte]; done) | (with_reducible rfl) | (simp [c2, c3, Bool.false_eq_true, ↓reduceIte]; done)) ?_
        exact hJ4
      · refine g_iconst F (v := 1) dX2_bye_44 (by decide) ?_
        refine g_goto F 49 dX2_bye_45 (by decide) ?_
        refine g_as (if g i = 2 then (1 : Int32) else 0) (by first | (simp only [c2, c3, Bool.false_eq_true, ↓reduceIte]; done) | (with_reducible rfl) | (simp [c2, c3, Bool.false_eq_true, ↓reduceIte]; done)) ?_
        exact hJ4
set_option maxHeartbeats 1000000 in
set_option maxRecDepth 100000 in
theorem kX2_joins (l : Launch) (D : va_G) (cI cZ cQ : ClassId) (a : Nat) (f : Row) (k : Nat) (hk : k < 6) (hz : Z67 f) : Ct l D (gTy cI cZ cQ) yX2_joins wsX2_joins ({ frames := 2, cells := 0, slots := 0, locals := 45 }) [.ref a, .int (nI k)] ([(a, .inl (cI, 79, .inl f))]) none ([(a, .inl (cI, 79, .inl (S_joins f k)))]) := by
  refine ct_ofV (cc := cX2_joins) (nL := 2) (own := RX2) (by decide) rfl rfl ⟨rfl, rfl⟩ (Nat.le_of_ble_eq_true rfl) (by simp only [List.map]) (fun p e s m below meth c A Q F hR => ?_)
  refine g_aload_n F dX2_joins_0 rfl 0 rfl ?_
  refine g_iload_n F dX2_joins_1 rfl 1 rfl ?_
  refine g_iconst F (v := 1) dX2_joins_2 (by decide) ?_
  refine g_iast F (j := k) ([(a, .inl (cI, 79, .inl (upd f k 1)))]) 0 0 rfl rfl (by omega) (by decide) dX2_joins_3 rfl ?_
  refine g_aload_n F dX2_joins_4 rfl 0 rfl ?_
  refine g_bipush F (v := 6) dX2_joins_5 (by decide) ?_
  refine g_iload_n F dX2_joins_7 rfl 1 rfl ?_
  refine g_iadd F dX2_joins_8 ?_
  refine g_as (nI (6 + k)) (nI_add 6 k) ?_
  refine g_iconst F (v := 0) dX2_joins_9 (by decide) ?_
  refine g_iast F (j := 6 + k) ([(a, .inl (cI, 79, .inl (upd (upd f k 1) (6 + k) 0)))]) 0 0 rfl rfl (by omega) (by decide) dX2_joins_10 rfl ?_
  refine g_aload_n F dX2_joins_11 rfl 0 rfl ?_
  refine g_bipush F (v := 60) dX2_joins_12 (by decide) ?_
  refine g_iload_n F dX2_joins_14 rfl 1 rfl ?_
  refine g_iadd F dX2_joins_15 ?_
  refine g_as (nI (60 + k)) (nI_add 60 k) ?_
  refine g_iconst F (v := 0) dX2_joins_16 (by decide) ?_
  refine g_iast F (j := 60 + k) ([(a, .inl (cI, 79, .inl (upd (upd (upd f k 1) (6 + k) 0) (60 + k) 0)))]) 0 0 rfl rfl (by omega) (by decide) dX2_joins_17 rfl ?_
  refine g_aload_n F dX2_joins_18 rfl 0 rfl ?_
  refine g_bipush F (v := 48) dX2_joins_19 (by decide) ?_
  refine g_iload_n F dX2_joins_21 rfl 1 rfl ?_
  refine g_iadd F dX2_joins_22 ?_
  refine g_as (nI (48 + k)) (nI_add 48 k) ?_
  refine g_aload_n F dX2_joins_23 rfl 0 rfl ?_
  refine g_bipush F (v := 70) dX2_joins_24 (by decide) ?_
  refine g_as (nI 70) rfl ?_
  refine g_iald F (j := 70) 0 0 rfl rfl (by omega) (by decide) dX2_joins_26 ?_
  refine g_iast F (j := 48 + k) ([(a, .inl (cI, 79, .inl (upd (upd (upd (upd f k 1) (6 + k) 0) (60 + k) 0) (48 + k) ((upd (upd (upd f k 1) (6 + k) 0) (60 + k) 0) 70))))]) 0 0 rfl rfl (by omega) (by decide) dX2_joins_27 rfl ?_
  refine g_aload_n F dX2_joins_28 rfl 0 rfl ?_
  refine g_bipush F (v := 54) dX2_joins_29 (by decide) ?_
  refine g_iload_n F dX2_joins_31 rfl 1 rfl ?_
  refine g_iadd F dX2_joins_32 ?_
  refine g_as (nI (54 + k)) (nI_add 54 k) ?_
  refine g_aload_n F dX2_joins_33 rfl 0 rfl ?_
  refine g_bipush F (v := 70) dX2_joins_34 (by decide) ?_
  refine g_as (nI 70) rfl ?_
  refine g_iald F (j := 70) 0 0 rfl rfl (by omega) (by decide) dX2_joins_36 ?_
  refine g_aload_n F dX2_joins_37 rfl 0 rfl ?_
  refine g_iconst F (v := 1) dX2_joins_38 (by decide) ?_
  refine g_callSs F (As := [.ref a, .int 1]) (st := [.int ((upd (upd (upd (upd f k 1) (6 + k) 0) (60 + k) 0) (48 + k) ((upd (upd (upd f k 1) (6 + k) 0) (60 + k) 0) 70)) 70), .int (nI (54 + k)), .ref a]) (kX2_waitOf l D cI cZ cQ a (upd (upd (upd (upd f k 1) (6 + k) 0) (60 + k) 0) (48 + k) ((upd (upd (upd f k 1) (6 + k) 0) (60 + k) 0) 70)) 1 (Z_upd (Z_upd (Z_upd (Z_upd hz (by omega)) (by omega)) (by omega)) (by omega))) (va_cwS 2 F.2.2.2.2.1 gX2_joins_X2_waitOf rfl rfl rfl (by decide +kernel) ⟨Nat.le_of_ble_eq_true rfl, Nat.le_of_ble_eq_true rfl⟩) rfl rfl (Nat.le_of_ble_eq_true rfl) ⟨Nat.zero_le _, Nat.zero_le _⟩ dX2_joins_39 ?_
  refine g_iadd F dX2_joins_42 ?_
  refine g_iast F (j := 54 + k) ([(a, .inl (cI, 79, .inl (upd (S_draw (upd (upd (upd (upd f k 1) (6 + k) 0) (60 + k) 0) (48 + k) ((upd (upd (upd f k 1) (6 + k) 0) (60 + k) 0) 70))) (54 + k) (((upd (upd (upd (upd f k 1) (6 + k) 0) (60 + k) 0) (48 + k) ((upd (upd (upd f k 1) (6 + k) 0) (60 + k) 0) 70)) 70) + (S_waitV (upd (upd (upd (upd f k 1) (6 + k) 0) (60 + k) 0) (48 + k) ((upd (upd (upd f k 1) (6 + k) 0) (60 + k) 0) 70)) 1)))))]) 0 0 rfl rfl (by omega) (by decide) dX2_joins_43 rfl ?_
  exact g_endV (hR _ _ dX2_joins_44) rfl
set_option maxHeartbeats 1000000 in
set_option maxRecDepth 100000 in
theorem kX2_leaves (l : Launch) (D : va_G) (cI cZ cQ : ClassId) (a : Nat) (f : Row) (k : Nat) (hk : k < 6) (hz : Z67 f) : Ct l D (gTy cI cZ cQ) yX2_leaves wsX2_leaves ({ frames := 3, cells := 0, slots := 0, locals := 69 }) [.ref a, .int (nI k)] ([(a, .inl (cI, 79, .inl f))]) none ([(a, .inl (cI, 79, .inl (S_leaves f k)))]) := by
  refine ct_ofV (cc := cX2_leaves) (nL := 2) (own := RX2) (by decide) rfl rfl ⟨rfl, rfl⟩ (Nat.le_of_ble_eq_true rfl) (by simp only [List.map]) (fun p e s m below meth c A Q F hR => ?_)
  refine g_aload_n F dX2_leaves_0 rfl 0 rfl ?_
  refine g_iload_n F dX2_leaves_1 rfl 1 rfl ?_
  refine g_callSs F (As := [.ref a, .int (nI k)]) (st := []) (kX2_countOf l D cI cZ cQ a f k (by omega)) (va_cwS 2 F.2.2.2.2.1 gX2_leaves_X2_countOf rfl rfl rfl (by decide +kernel) ⟨Nat.le_of_ble_eq_true rfl, Nat.le_of_ble_eq_true rfl⟩) rfl rfl (Nat.le_of_ble_eq_true rfl) ⟨Nat.zero_le _, Nat.zero_le _⟩ dX2_leaves_2 ?_
  refine g_iconst F (v := 3) dX2_leaves_5 (by decide) ?_
  refine g_icmp_gt F 15 dX2_leaves_6 (by decide) (fun c1 => ?_) (fun c1 => ?_)
  · refine g_aload_n F dX2_leaves_15 rfl 0 rfl ?_
    refine g_iload_n F dX2_leaves_16 rfl 1 rfl ?_
    refine g_iconst F (v := 2) dX2_leaves_17 (by decide) ?_
    refine g_iast F (j := k) ([(a, .inl (cI, 79, .inl (upd f k 2)))]) 0 0 rfl rfl (by omega) (by decide) dX2_leaves_18 rfl ?_
    refine g_aload_n F dX2_leaves_19 rfl 0 rfl ?_
    refine g_bipush F (v := 60) dX2_leaves_20 (by decide) ?_
    refine g_iload_n F dX2_leaves_22 rfl 1 rfl ?_
    refine g_iadd F dX2_leaves_23 ?_
    refine g_as (nI (60 + k)) (nI_add 60 k) ?_
    refine g_iconst F (v := 1) dX2_leaves_24 (by decide) ?_
    refine g_iast F (j := 60 + k) ([(a, .inl (cI, 79, .inl (upd (upd f k 2) (60 + k) 1)))]) 0 0 rfl rfl (by omega) (by decide) dX2_leaves_25 rfl ?_
    refine g_aload_n F dX2_leaves_26 rfl 0 rfl ?_
    refine g_bipush F (v := 48) dX2_leaves_27 (by decide) ?_
    refine g_iload_n F dX2_leaves_29 rfl 1 rfl ?_
    refine g_iadd F dX2_leaves_30 ?_
    refine g_as (nI (48 + k)) (nI_add 48 k) ?_
    refine g_aload_n F dX2_leaves_31 rfl 0 rfl ?_
    refine g_bipush F (v := 70) dX2_leaves_32 (by decide) ?_
    refine g_as (nI 70) rfl ?_
    refine g_iald F (j := 70) 0 0 rfl rfl (by omega) (by decide) dX2_leaves_34 ?_
    refine g_iast F (j := 48 + k) ([(a, .inl (cI, 79, .inl (upd (upd (upd f k 2) (60 + k) 1) (48 + k) ((upd (upd f k 2) (60 + k) 1) 70))))]) 0 0 rfl rfl (by omega) (by decide) dX2_leaves_35 rfl ?_
    refine g_aload_n F dX2_leaves_36 rfl 0 rfl ?_
    refine g_bipush F (v := 54) dX2_leaves_37 (by decide) ?_
    refine g_iload_n F dX2_leaves_39 rfl 1 rfl ?_
    refine g_iadd F dX2_leaves_40 ?_
    refine g_as (nI (54 + k)) (nI_add 54 k) ?_
    refine g_aload_n F dX2_leaves_41 rfl 0 rfl ?_
    refine g_bipush F (v := 70) dX2_leaves_42 (by decide) ?_
    refine g_as (nI 70) rfl ?_
    refine g_iald F (j := 70) 0 0 rfl rfl (by omega) (by decide) dX2_leaves_44 ?_
    refine g_aload_n F dX2_leaves_45 rfl 0 rfl ?_
    refine g_iconst F (v := 1) dX2_leaves_46 (by decide) ?_
    refine g_callSs F (As := [.ref a, .int 1]) (st := [.int ((upd (upd (upd f k 2) (60 + k) 1) (48 + k) ((upd (upd f k 2) (60 + k) 1) 70)) 70), .int (nI (54 + k)), .ref a]) (kX2_waitOf l D cI cZ cQ a (upd (upd (upd f k 2) (60 + k) 1) (48 + k) ((upd (upd f k 2) (60 + k) 1) 70)) 1 (Z_upd (Z_upd (Z_upd hz (by omega)) (by omega)) (by omega))) (va_cwS 2 F.2.2.2.2.1 gX2_leaves_X2_waitOf rfl rfl rfl (by decide +kernel) ⟨Nat.le_of_ble_eq_true rfl, Nat.le_of_ble_eq_true rfl⟩) rfl rfl (Nat.le_of_ble_eq_true rfl) ⟨Nat.zero_le _, Nat.zero_le _⟩ dX2_leaves_47 ?_
    refine g_iadd F dX2_leaves_50 ?_
    refine g_iast F (j := 54 + k) ([(a, .inl (cI, 79, .inl (upd (S_draw (upd (upd (upd f k 2) (60 + k) 1) (48 + k) ((upd (upd f k 2) (60 + k) 1) 70))) (54 + k) (((upd (upd (upd f k 2) (60 + k) 1) (48 + k) ((upd (upd f k 2) (60 + k) 1) 70)) 70) + (S_waitV (upd (upd (upd f k 2) (60 + k) 1) (48 + k) ((upd (upd f k 2) (60 + k) 1) 70)) 1)))))]) 0 0 rfl rfl (by omega) (by decide) dX2_leaves_51 rfl ?_
    exact g_endV (hR _ _ dX2_leaves_52) (by first | (simp only [S_leaves, S_leaves1, S_leaves0, c1, Bool.false_eq_true, ↓reduceIte]; done) | (with_reducible rfl) | (simp [S_leaves, S_leaves1, S_leaves0, c1, Bool.false_eq_true, ↓reduceIte]; done))
  · refine g_aload_n F dX2_leaves_9 rfl 0 rfl ?_
    refine g_iload_n F dX2_leaves_10 rfl 1 rfl ?_
    refine g_callSs F (As := [.ref a, .int (nI k)]) (st := []) (kX2_bye l D cI cZ cQ a f k (by omega)) (va_cwS 2 F.2.2.2.2.1 gX2_leaves_X2_bye rfl rfl rfl (by decide +kernel) ⟨Nat.le_of_ble_eq_true rfl, Nat.le_of_ble_eq_true rfl⟩) rfl rfl (Nat.le_of_ble_eq_true rfl) ⟨Nat.zero_le _, Nat.zero_le _⟩ dX2_leaves_11 ?_
    exact g_endV (hR _ _ dX2_leaves_14) (by first | (simp only [S_leaves, S_leaves1, S_leaves0, c1, Bool.false_eq_true, ↓reduceIte]; done) | (with_reducible rfl) | (simp [S_leaves, S_leaves1, S_leaves0, c1, Bool.false_eq_true, ↓reduceIte]; done))
set_option maxHeartbeats 1000000 in
set_option maxRecDepth 100000 in
theorem kX2_look (l : Launch) (D : va_G) (cI cZ cQ : ClassId) (a : Nat) (f : Row) (k : Nat) (hk : k < 6) (hz : Z67 f) : Ct l D (gTy cI cZ cQ) yX2_look wsX2_look ({ frames := 3, cells := 0, slots := 0, locals := 69 }) [.ref a, .int (nI k)] ([(a, .inl (cI, 79, .inl f))]) none ([(a, .inl (cI, 79, .inl (S_look f k)))]) := by
  refine ct_ofV (cc := cX2_look) (nL := 4) (own := RX2) (by decide) rfl rfl ⟨rfl, rfl⟩ (Nat.le_of_ble_eq_true rfl) (by simp only [List.map]) (fun p e s m below meth c A Q F hR => ?_)
  refine g_aload_n F dX2_look_0 rfl 0 rfl ?_
  refine g_iload_n F dX2_look_1 rfl 1 rfl ?_
  refine g_iald F (j := k) 0 0 rfl rfl (by omega) (by decide) dX2_look_2 ?_
  refine g_iconst F (v := 1) dX2_look_3 (by decide) ?_
  refine g_icmp_ne F 11 dX2_look_4 (by decide) (fun c1 => ?_) (fun c1 => ?_)
  · refine g_iconst F (v := 0) dX2_look_11 (by decide) ?_
    refine g_istore_n F (lv' := [(0, .ref a), (1, .int (nI k)), (2, .int 0)]) dX2_look_12 rfl (by decide) [1, 2, 0] rfl ?_
    refine g_aload_n F dX2_look_13 rfl 0 rfl ?_
    refine g_iload_n F dX2_look_14 rfl 2 rfl ?_
    refine g_if_eq F 26 dX2_look_15 (by decide) (fun c2 => ?_) (fun c2 => ?_)
    · refine g_aload_n F dX2_look_26 rfl 0 rfl ?_
      refine g_bipush F (v := 60) dX2_look_27 (by decide) ?_
      refine g_iload_n F dX2_look_29 rfl 1 rfl ?_
      refine g_iadd F dX2_look_30 ?_
      refine g_as (nI (60 + k)) (nI_add 60 k) ?_
      refine g_iald F (j := 60 + k) 0 0 rfl rfl (by omega) (by decide) dX2_look_31 ?_
      refine g_callSs F (As := [.ref a, .int (f (60 + k))]) (st := []) (kX2_waitOf l D cI cZ cQ a f (f (60 + k)) hz) (va_cwS 2 F.2.2.2.2.1 gX2_look_X2_waitOf rfl rfl rfl (by decide +kernel) ⟨Nat.le_of_ble_eq_true rfl, Nat.le_of_ble_eq_true rfl⟩) rfl rfl (Nat.le_of_ble_eq_true rfl) ⟨Nat.zero_le _, Nat.zero_le _⟩ dX2_look_32 ?_
      refine g_istore_n F (lv' := [(0, .ref a), (1, .int (nI k)), (2, .int 0), (3, .int (S_waitV f (f (60 + k))))]) dX2_look_35 rfl (by decide) [1, 2, 3, 0] rfl ?_
      refine g_aload_n F dX2_look_36 rfl 0 rfl ?_
      refine g_bipush F (v := 48) dX2_look_37 (by decide) ?_
      refine g_iload_n F dX2_look_39 rfl 1 rfl ?_
      refine g_iadd F dX2_look_40 ?_
      refine g_as (nI (48 + k)) (nI_add 48 k) ?_
      refine g_iald F (j := 48 + k) 0 0 rfl rfl (by omega) (by decide) dX2_look_41 ?_
      refine g_iload_n F dX2_look_42 rfl 3 rfl ?_
      refine g_iadd F dX2_look_43 ?_
      refine g_aload_n F dX2_look_44 rfl 0 rfl ?_
      refine g_bipush F (v := 70) dX2_look_45 (by decide) ?_
      refine g_as (nI 70) rfl ?_
      refine g_iald F (j := 70) 0 0 rfl rfl (by omega) (by decide) dX2_look_47 ?_
      refine g_icmp_le F 68 dX2_look_48 (by decide) (fun c3 => ?_) (fun c3 => ?_)
      · refine g_iload_n F dX2_look_68 rfl 2 rfl ?_
        refine g_if_eq F 110 dX2_look_69 (by decide) (fun c4 => ?_) (fun c4 => ?_)
        · refine g_aload_n F dX2_look_110 rfl 0 rfl ?_
          refine g_iload_n F dX2_look_111 rfl 1 rfl ?_
          refine g_callSs F (As := [.ref a, .int (nI k)]) (st := []) (kX2_bye l D cI cZ cQ a (S_draw f) k (by omega)) (va_cwS 2 F.2.2.2.2.1 gX2_look_X2_bye rfl rfl rfl (by decide +kernel) ⟨Nat.le_of_ble_eq_true rfl, Nat.le_of_ble_eq_true rfl⟩) rfl rfl (Nat.le_of_ble_eq_true rfl) ⟨Nat.zero_le _, Nat.zero_le _⟩ dX2_look_112 ?_
          exact g_endV (hR _ _ dX2_look_115) (by first | (simp only [S_look, S_lw, S_lrep, c1, c2, c3, c4, Bool.false_eq_true, ↓reduceIte]; done) | (with_reducible rfl) | (simp [S_look, S_lw, S_lrep, c1, c2, c3, c4, Bool.false_eq_true, ↓reduceIte]; done))
        · exact absurd c4 (by decide)
      · refine g_aload_n F dX2_look_51 rfl 0 rfl ?_
        refine g_bipush F (v := 54) dX2_look_52 (by decide) ?_
        refine g_iload_n F dX2_look_54 rfl 1 rfl ?_
        refine g_iadd F dX2_look_55 ?_
        refine g_as (nI (54 + k)) (nI_add 54 k) ?_
        refine g_aload_n F dX2_look_56 rfl 0 rfl ?_
        refine g_bipush F (v := 48) dX2_look_57 (by decide) ?_
        refine g_iload_n F dX2_look_59 rfl 1 rfl ?_
        refine g_iadd F dX2_look_60 ?_
        refine g_as (nI (48 + k)) (nI_add 48 k) ?_
        refine g_iald F (j := 48 + k) 0 0 rfl rfl (by omega) (by decide) dX2_look_61 ?_
        refine g_iload_n F dX2_look_62 rfl 3 rfl ?_
        refine g_iadd F dX2_look_63 ?_
        refine g_iast F (j := 54 + k) ([(a, .inl (cI, 79, .inl (upd (S_draw f) (54 + k) (((S_draw f) (48 + k)) + (S_waitV f (f (60 + k)))))))]) 0 0 rfl rfl (by omega) (by decide) dX2_look_64 rfl ?_
        refine g_goto F 115 dX2_look_65 (by decide) ?_
        exact g_endV (hR _ _ dX2_look_115) (by first | (simp only [S_look, S_lw, S_lrep, c1, c2, c3, Bool.false_eq_true, ↓reduceIte]; done) | (with_reducible rfl) | (simp [S_look, S_lw, S_lrep, c1, c2, c3, Bool.false_eq_true, ↓reduceIte]; done))
    · exact absurd c2 (by decide)
  · refine g_iconst F (v := 1) dX2_look_7 (by decide) ?_
    refine g_goto F 12 dX2_look_8 (by decide) ?_
    refine g_istore_n F (lv' := [(0, .ref a), (1, .int (nI k)), (2, .int 1)]) dX2_look_12 rfl (by decide) [1, 2, 0] rfl ?_
    refine g_aload_n F dX2_look_13 rfl 0 rfl ?_
    refine g_iload_n F dX2_look_14 rfl 2 rfl ?_
    refine g_if_eq F 26 dX2_look_15 (by decide) (fun c5 => ?_) (fun c5 => ?_)
    · exact absurd c5 (by decide)
    · refine g_aload_n F dX2_look_18 rfl 0 rfl ?_
      refine g_iload_n F dX2_look_19 rfl 1 rfl ?_
      refine g_callSs F (As := [.ref a, .int (nI k)]) (st := [.ref a]) (kX2_countOf l D cI cZ cQ a f k (by omega)) (va_cwS 2 F.2.2.2.2.1 gX2_look_X2_countOf rfl rfl rfl (by decide +kernel) ⟨Nat.le_of_ble_eq_true rfl, Nat.le_of_ble_eq_true rfl⟩) rfl rfl (Nat.le_of_ble_eq_true rfl) ⟨Nat.zero_le _, Nat.zero_le _⟩ dX2_look_20 ?_
      refine g_goto F 32 dX2_look_23 (by decide) ?_
      refine g_callSs F (As := [.ref a, .int (S_count f k)]) (st := []) (kX2_waitOf l D cI cZ cQ a f (S_count f k) hz) (va_cwS 2 F.2.2.2.2.1 gX2_look_X2_waitOf rfl rfl rfl (by decide +kernel) ⟨Nat.le_of_ble_eq_true rfl, Nat.le_of_ble_eq_true rfl⟩) rfl rfl (Nat.le_of_ble_eq_true rfl) ⟨Nat.zero_le _, Nat.zero_le _⟩ dX2_look_32 ?_
      refine g_istore_n F (lv' := [(0, .ref a), (1, .int (nI k)), (2, .int 1), (3, .int (S_waitV f (S_count f k)))]) dX2_look_35 rfl (by decide) [1, 2, 3, 0] rfl ?_
      refine g_aload_n F dX2_look_36 rfl 0 rfl ?_
      refine g_bipush F (v := 48) dX2_look_37 (by decide) ?_
      refine g_iload_n F dX2_look_39 rfl 1 rfl ?_
      refine g_iadd F dX2_look_40 ?_
      refine g_as (nI (48 + k)) (nI_add 48 k) ?_
      refine g_iald F (j := 48 + k) 0 0 rfl rfl (by omega) (by decide) dX2_look_41 ?_
      refine g_iload_n F dX2_look_42 rfl 3 rfl ?_
      refine g_iadd F dX2_look_43 ?_
      refine g_aload_n F dX2_look_44 rfl 0 rfl ?_
      refine g_bipush F (v := 70) dX2_look_45 (by decide) ?_
      refine g_as (nI 70) rfl ?_
      refine g_iald F (j := 70) 0 0 rfl rfl (by omega) (by decide) dX2_look_47 ?_
      refine g_icmp_le F 68 dX2_look_48 (by decide) (fun c6 => ?_) (fun c6 => ?_)
      · refine g_iload_n F dX2_look_68 rfl 2 rfl ?_
        refine g_if_eq F 110 dX2_look_69 (by decide) (fun c7 => ?_) (fun c7 => ?_)
        · exact absurd c7 (by decide)
        · refine g_aload_n F dX2_look_72 rfl 0 rfl ?_
          refine g_iload_n F dX2_look_73 rfl 1 rfl ?_
          refine g_callSs F (As := [.ref a, .int (nI k)]) (st := []) (kX2_report l D cI cZ cQ a (S_draw f) k (by omega)) (va_cwS 2 F.2.2.2.2.1 gX2_look_X2_report rfl rfl rfl (by decide +kernel) ⟨Nat.le_of_ble_eq_true rfl, Nat.le_of_ble_eq_true rfl⟩) rfl rfl (Nat.le_of_ble_eq_true rfl) ⟨Nat.zero_le _, Nat.zero_le _⟩ dX2_look_74 ?_
          refine g_aload_n F dX2_look_77 rfl 0 rfl ?_
          refine g_bipush F (v := 48) dX2_look_78 (by decide) ?_
          refine g_iload_n F dX2_look_80 rfl 1 rfl ?_
          refine g_iadd F dX2_look_81 ?_
          refine g_as (nI (48 + k)) (nI_add 48 k) ?_
          refine g_aload_n F dX2_look_82 rfl 0 rfl ?_
          refine g_bipush F (v := 70) dX2_look_83 (by decide) ?_
          refine g_as (nI 70) rfl ?_
          refine g_iald F (j := 70) 0 0 rfl rfl (by omega) (by decide) dX2_look_85 ?_
          refine g_iast F (j := 48 + k) ([(a, .inl (cI, 79, .inl (upd (S_report (S_draw f) k) (48 + k) ((S_report (S_draw f) k) 70))))]) 0 0 rfl rfl (by omega) (by decide) dX2_look_86 rfl ?_
          refine g_aload_n F dX2_look_87 rfl 0 rfl ?_
          refine g_bipush F (v := 54) dX2_look_88 (by decide) ?_
          refine g_iload_n F dX2_look_90 rfl 1 rfl ?_
          refine g_iadd F dX2_look_91 ?_
          refine g_as (nI (54 + k)) (nI_add 54 k) ?_
          refine g_aload_n F dX2_look_92 rfl 0 rfl ?_
          refine g_bipush F (v := 70) dX2_look_93 (by decide) ?_
          refine g_as (nI 70) rfl ?_
          refine g_iald F (j := 70) 0 0 rfl rfl (by omega) (by decide) dX2_look_95 ?_
          refine g_aload_n F dX2_look_96 rfl 0 rfl ?_
          refine g_aload_n F dX2_look_97 rfl 0 rfl ?_
          refine g_iload_n F dX2_look_98 rfl 1 rfl ?_
          refine g_callSs F (As := [.ref a, .int (nI k)]) (st := [.ref a, .int ((upd (S_report (S_draw f) k) (48 + k) ((S_report (S_draw f) k) 70)) 70), .int (nI (54 + k)), .ref a]) (kX2_countOf l D cI cZ cQ a (upd (S_report (S_draw f) k) (48 + k) ((S_report (S_draw f) k) 70)) k (by omega)) (va_cwS 2 F.2.2.2.2.1 gX2_look_X2_countOf rfl rfl rfl (by decide +kernel) ⟨Nat.le_of_ble_eq_true rfl, Nat.le_of_ble_eq_true rfl⟩) rfl rfl (Nat.le_of_ble_eq_true rfl) ⟨Nat.zero_le _, Nat.zero_le _⟩ dX2_look_99 ?_
          refine g_callSs F (As := [.ref a, .int (S_count (upd (S_report (S_draw f) k) (48 + k) ((S_report (S_draw f) k) 70)) k)]) (st := [.int ((upd (S_report (S_draw f) k) (48 + k) ((S_report (S_draw f) k) 70)) 70), .int (nI (54 + k)), .ref a]) (kX2_waitOf l D cI cZ cQ a (upd (S_report (S_draw f) k) (48 + k) ((S_report (S_draw f) k) 70)) (S_count (upd (S_report (S_draw f) k) (48 + k) ((S_report (S_draw f) k) 70)) k) (Z_upd (Z_report (Z_draw hz) (by omega)) (by omega))) (va_cwS 2 F.2.2.2.2.1 gX2_look_X2_waitOf rfl rfl rfl (by decide +kernel) ⟨Nat.le_of_ble_eq_true rfl, Nat.le_of_ble_eq_true rfl⟩) rfl rfl (Nat.le_of_ble_eq_true rfl) ⟨Nat.zero_le _, Nat.zero_le _⟩ dX2_look_102 ?_
          refine g_iadd F dX2_look_105 ?_
          refine g_iast F (j := 54 + k) ([(a, .inl (cI, 79, .inl (upd (S_draw (upd (S_report (S_draw f) k) (48 + k) ((S_report (S_draw f) k) 70))) (54 + k) (((upd (S_report (S_draw f) k) (48 + k) ((S_report (S_draw f) k) 70)) 70) + (S_waitV (upd (S_report (S_draw f) k) (48 + k) ((S_report (S_draw f) k) 70)) (S_count (upd (S_report (S_draw f) k) (48 + k) ((S_report (S_draw f) k) 70)) k))))))]) 0 0 rfl rfl (by omega) (by decide) dX2_look_106 rfl ?_
          refine g_goto F 115 dX2_look_107 (by decide) ?_
          exact g_endV (hR _ _ dX2_look_115) (by first | (simp only [S_look, S_lw, S_lrep, c1, c5, c6, c7, Bool.false_eq_true, ↓reduceIte]; done) | (with_reducible rfl) | (simp [S_look, S_lw, S_lrep, c1, c5, c6, c7, Bool.false_eq_true, ↓reduceIte]; done))
      · refine g_aload_n F dX2_look_51 rfl 0 rfl ?_
        refine g_bipush F (v := 54) dX2_look_52 (by decide) ?_
        refine g_iload_n F dX2_look_54 rfl 1 rfl ?_
        refine g_iadd F dX2_look_55 ?_
        refine g_as (nI (54 + k)) (nI_add 54 k) ?_
        refine g_aload_n F dX2_look_56 rfl 0 rfl ?_
        refine g_bipush F (v := 48) dX2_look_57 (by decide) ?_
        refine g_iload_n F dX2_look_59 rfl 1 rfl ?_
        refine g_iadd F dX2_look_60 ?_
        refine g_as (nI (48 + k)) (nI_add 48 k) ?_
        refine g_iald F (j := 48 + k) 0 0 rfl rfl (by omega) (by decide) dX2_look_61 ?_
        refine g_iload_n F dX2_look_62 rfl 3 rfl ?_
        refine g_iadd F dX2_look_63 ?_
        refine g_iast F (j := 54 + k) ([(a, .inl (cI, 79, .inl (upd (S_draw f) (54 + k) (((S_draw f) (48 + k)) + (S_waitV f (S_count f k))))))]) 0 0 rfl rfl (by omega) (by decide) dX2_look_64 rfl ?_
        refine g_goto F 115 dX2_look_65 (by decide) ?_
        exact g_endV (hR _ _ dX2_look_115) (by first | (simp only [S_look, S_lw, S_lrep, c1, c5, c6, Bool.false_eq_true, ↓reduceIte]; done) | (with_reducible rfl) | (simp [S_look, S_lw, S_lrep, c1, c5, c6, Bool.false_eq_true, ↓reduceIte]; done))
set_option maxHeartbeats 1000000 in
set_option maxRecDepth 100000 in
theorem kX2_forget (l : Launch) (D : va_G) (cI cZ cQ : ClassId) (a : Nat) (f : Row) (k : Nat) (hk : k < 6) (hz : Z67 f) : Ct l D (gTy cI cZ cQ) yX2_forget wsX2_forget ({ frames := 2, cells := 0, slots := 0, locals := 43 }) [.ref a, .int (nI k)] ([(a, .inl (cI, 79, .inl f))]) none ([(a, .inl (cI, 79, .inl (S_forget f k)))]) := by
  refine ct_ofV (cc := cX2_forget) (nL := 5) (own := RX2) (by decide) rfl rfl ⟨rfl, rfl⟩ (Nat.le_of_ble_eq_true rfl) (by simp only [List.map]) (fun p e s m below meth c A Q F hR => ?_)
  refine g_iconst F (v := 5) dX2_forget_0 (by decide) ?_
  refine g_aload_n F dX2_forget_1 rfl 0 rfl ?_
  refine g_aload_n F dX2_forget_2 rfl 0 rfl ?_
  refine g_iload_n F dX2_forget_3 rfl 1 rfl ?_
  refine g_callSs F (As := [.ref a, .int (nI k)]) (st := [.ref a, .int 5]) (kX2_countOf l D cI cZ cQ a f k (by omega)) (va_cwS 2 F.2.2.2.2.1 gX2_forget_X2_countOf rfl rfl rfl (by decide +kernel) ⟨Nat.le_of_ble_eq_true rfl, Nat.le_of_ble_eq_true rfl⟩) rfl rfl (Nat.le_of_ble_eq_true rfl) ⟨Nat.zero_le _, Nat.zero_le _⟩ dX2_forget_4 ?_
  refine g_callSs F (As := [.ref a, .int (S_count f k)]) (st := [.int 5]) (kX2_spanOf l D cI cZ cQ a f (S_count f k) hz) (va_cwS 2 F.2.2.2.2.1 gX2_forget_X2_spanOf rfl rfl rfl (by decide +kernel) ⟨Nat.le_of_ble_eq_true rfl, Nat.le_of_ble_eq_true rfl⟩) rfl rfl (Nat.le_of_ble_eq_true rfl) ⟨Nat.zero_le _, Nat.zero_le _⟩ dX2_forget_7 ?_
  refine g_imul F dX2_forget_10 ?_
  refine g_istore_n F (lv' := [(0, .ref a), (1, .int (nI k)), (2, .int (5 * (S_span f (S_count f k))))]) dX2_forget_11 rfl (by decide) [1, 2, 0] rfl ?_
  refine g_iconst F (v := 0) dX2_forget_12 (by decide) ?_
  refine g_istore_n F (lv' := [(0, .ref a), (1, .int (nI k)), (2, .int (5 * (S_span f (S_count f k)))), (3, .int 0)]) dX2_forget_13 rfl (by decide) [1, 2, 3, 0] rfl ?_
  refine g_all (w0 := [(a, .inl (cI, 79, .inl (it (S_forStep k (S_most f k)) 0 f)))]) (lv0 := [(0, .ref a), (1, .int (nI k)), (2, .int (S_most f k)), (3, .int (nI 0))]) (st0 := []) rfl rfl rfl ?_
  refine g_for 6 (fun i => True) (fun i => [(a, .inl (cI, 79, .inl (it (S_forStep k (S_most f k)) i f)))]) (fun i => [(0, .ref a), (1, .int (nI k)), (2, .int (S_most f k)), (3, .int (nI i))]) (fun i hi hIi ihi => ?_) 0 (Nat.zero_le _) trivial
  dsimp only [it_s] at ihi ⊢
  generalize hg_g : it (S_forStep k (S_most f k)) i f = g at ihi ⊢
  refine g_iload_n F dX2_forget_14 rfl 3 rfl ?_
  refine g_bipush F (v := 6) dX2_forget_15 (by decide) ?_
  refine g_icmp_ge F 89 dX2_forget_17 (by decide) (fun c1 => ?_) (fun c1 => ?_)
  · have hx_c1 : 6 = i := lp_ge hi (by decide) c1
    subst hx_c1
    subst hg_g
    exact g_endV (hR _ _ dX2_forget_89) rfl
  · have hlti : i < 6 := lp_lt hi (by decide) c1
    refine g_aload_n F dX2_forget_20 rfl 0 rfl ?_
    refine g_bipush F (v := 6) dX2_forget_21 (by decide) ?_
    refine g_iload_n F dX2_forget_23 rfl 1 rfl ?_
    refine g_iadd F dX2_forget_24 ?_
    refine g_as (nI (6 + k)) (nI_add 6 k) ?_
    refine g_iald F (j := 6 + k) 0 0 rfl rfl (by omega) (by decide) dX2_forget_25 ?_
    refine g_iload_n F dX2_forget_26 rfl 3 rfl ?_
    refine g_callSn F (As := [.int (g (6 + k)), .int (nI i)]) (st := []) (kX2_has l D cI cZ cQ (g (6 + k)) (nI i)) (va_cwS 2 F.2.2.2.2.1 gX2_forget_X2_has rfl rfl rfl (by decide +kernel) ⟨Nat.le_of_ble_eq_true rfl, Nat.le_of_ble_eq_true rfl⟩) rfl rfl (Nat.le_of_ble_eq_true rfl) ⟨Nat.zero_le _, Nat.zero_le _⟩ dX2_forget_27 ?_
    refine g_beq F 57 dX2_forget_30 (by decide) (fun c2 => ?_) (fun c2 => ?_)
    · refine g_iconst F (v := 0) dX2_forget_57 (by decide) ?_
      refine g_istore F (lv' := [(0, .ref a), (1, .int (nI k)), (2, .int (S_most f k)), (3, .int (nI i)), (4, .int 0)]) dX2_forget_58 (by decide) [1, 2, 3, 4, 0] rfl ?_
      refine g_aload_n F dX2_forget_60 rfl 0 rfl ?_
      refine g_bipush F (v := 6) dX2_forget_61 (by decide) ?_
      refine g_iload_n F dX2_forget_63 rfl 1 rfl ?_
      refine g_iadd F dX2_forget_64 ?_
      refine g_as (nI (6 + k)) (nI_add 6 k) ?_
      refine g_dup2 F dX2_forget_65 rfl rfl ?_
      refine g_iald F (j := 6 + k) 0 0 rfl rfl (by omega) (by decide) dX2_forget_66 ?_
      refine g_iload F dX2_forget_67 4 rfl ?_
      refine g_if_eq F 80 dX2_forget_69 (by decide) (fun c3 => ?_) (fun c3 => ?_)
      · refine g_iconst F (v := (-1)) dX2_forget_80 (by decide) ?_
        refine g_iand F dX2_forget_81 ?_
        refine g_iast F (j := 6 + k) ([(a, .inl (cI, 79, .inl (upd g (6 + k) ((g (6 + k)) &&& (-1)))))]) 0 0 rfl rfl (by omega) (by decide) dX2_forget_82 rfl ?_
        refine g_iinc F (lv' := [(0, .ref a), (1, .int (nI k)), (2, .int (S_most f k)), (3, .int (nI (i + 1))), (4, .int 0)]) (nI (i + 1)) dX2_forget_83 3 rfl (nI_add i 1) (by decide) [1, 2, 3, 0, 4] rfl ?_
        refine g_goto F 14 dX2_forget_86 (by decide) ?_
        refine g_lvs [0, 1, 2, 3] rfl ?_
        refine g_all (w0 := [(a, .inl (cI, 79, .inl (S_forStep k (S_most f k) i g)))]) (lv0 := [(0, .ref a), (1, .int (nI k)), (2, .int (S_most f k)), (3, .int (nI (i + 1)))]) (st0 := []) (by first | (simp only [S_forStep, S_old, c2, c3, Bool.false_eq_true, ↓reduceIte]; done) | (with_reducible rfl) | (simp [S_forStep, S_old, c2, c3, Bool.false_eq_true, ↓reduceIte]; done)) rfl rfl ?_
        exact ihi hlti trivial
      · exact absurd c3 (by decide)
    · refine g_aload_n F dX2_forget_33 rfl 0 rfl ?_
      refine g_bipush F (v := 70) dX2_forget_34 (by decide) ?_
      refine g_as (nI 70) rfl ?_
      refine g_iald F (j := 70) 0 0 rfl rfl (by omega) (by decide) dX2_forget_36 ?_
      refine g_aload_n F dX2_forget_37 rfl 0 rfl ?_
      refine g_bipush F (v := 12) dX2_forget_38 (by decide) ?_
      refine g_bipush F (v := 6) dX2_forget_40 (by decide) ?_
      refine g_iload_n F dX2_forget_42 rfl 1 rfl ?_
      refine g_imul F dX2_forget_43 ?_
      refine g_as (nI (6 * k)) (pk_mul 6 k) ?_
      refine g_iadd F dX2_forget_44 ?_
      refine g_as (nI (12 + 6 * k)) (nI_add 12 (6 * k)) ?_
      refine g_iload_n F dX2_forget_45 rfl 3 rfl ?_
      refine g_iadd F dX2_forget_46 ?_
      refine g_as (nI (12 + 6 * k + i)) (nI_add (12 + 6 * k) i) ?_
      refine g_iald F (j := 12 + 6 * k + i) 0 0 rfl rfl (by omega) (by decide) dX2_forget_47 ?_
      refine g_isub F dX2_forget_48 ?_
      refine g_iload_n F dX2_forget_49 rfl 2 rfl ?_
      refine g_icmp_le F 57 dX2_forget_50 (by decide) (fun c4 => ?_) (fun c4 => ?_)
      · refine g_iconst F (v := 0) dX2_forget_57 (by decide) ?_
        refine g_istore F (lv' := [(0, .ref a), (1, .int (nI k)), (2, .int (S_most f k)), (3, .int (nI i)), (4, .int 0)]) dX2_forget_58 (by decide) [1, 2, 3, 4, 0] rfl ?_
        refine g_aload_n F dX2_forget_60 rfl 0 rfl ?_
        refine g_bipush F (v := 6) dX2_forget_61 (by decide) ?_
        refine g_iload_n F dX2_forget_63 rfl 1 rfl ?_
        refine g_iadd F dX2_forget_64 ?_
        refine g_as (nI (6 + k)) (nI_add 6 k) ?_
        refine g_dup2 F dX2_forget_65 rfl rfl ?_
        refine g_iald F (j := 6 + k) 0 0 rfl rfl (by omega) (by decide) dX2_forget_66 ?_
        refine g_iload F dX2_forget_67 4 rfl ?_
        refine g_if_eq F 80 dX2_forget_69 (by decide) (fun c5 => ?_) (fun c5 => ?_)
        · refine g_iconst F (v := (-1)) dX2_forget_80 (by decide) ?_
          refine g_iand F dX2_forget_81 ?_
          refine g_iast F (j := 6 + k) ([(a, .inl (cI, 79, .inl (upd g (6 + k) ((g (6 + k)) &&& (-1)))))]) 0 0 rfl rfl (by omega) (by decide) dX2_forget_82 rfl ?_
          refine g_iinc F (lv' := [(0, .ref a), (1, .int (nI k)), (2, .int (S_most f k)), (3, .int (nI (i + 1))), (4, .int 0)]) (nI (i + 1)) dX2_forget_83 3 rfl (nI_add i 1) (by decide) [1, 2, 3, 0, 4] rfl ?_
          refine g_goto F 14 dX2_forget_86 (by decide) ?_
          refine g_lvs [0, 1, 2, 3] rfl ?_
          refine g_all (w0 := [(a, .inl (cI, 79, .inl (S_forStep k (S_most f k) i g)))]) (lv0 := [(0, .ref a), (1, .int (nI k)), (2, .int (S_most f k)), (3, .int (nI (i + 1)))]) (st0 := []) (by first | (simp only [S_forStep, S_old, c2, c4, c5, Bool.false_eq_true, ↓reduceIte]; done) | (with_reducible rfl) | (simp [S_forStep, S_old, c2, c4, c5, Bool.false_eq_true, ↓reduceIte]; done)) rfl rfl ?_
          exact ihi hlti trivial
        · exact absurd c5 (by decide)
      · refine g_iconst F (v := 1) dX2_forget_53 (by decide) ?_
        refine g_goto F 58 dX2_forget_54 (by decide) ?_
        refine g_istore F (lv' := [(0, .ref a), (1, .int (nI k)), (2, .int (S_most f k)), (3, .int (nI i)), (4, .int 1)]) dX2_forget_58 (by decide) [1, 2, 3, 4, 0] rfl ?_
        refine g_aload_n F dX2_forget_60 rfl 0 rfl ?_
        refine g_bipush F (v := 6) dX2_forget_61 (by decide) ?_
        refine g_iload_n F dX2_forget_63 rfl 1 rfl ?_
        refine g_iadd F dX2_forget_64 ?_
        refine g_as (nI (6 + k)) (nI_add 6 k) ?_
        refine g_dup2 F dX2_forget_65 rfl rfl ?_
        refine g_iald F (j := 6 + k) 0 0 rfl rfl (by omega) (by decide) dX2_forget_66 ?_
        refine g_iload F dX2_forget_67 4 rfl ?_
        refine g_if_eq F 80 dX2_forget_69 (by decide) (fun c6 => ?_) (fun c6 => ?_)
        · exact absurd c6 (by decide)
        · refine g_iconst F (v := 1) dX2_forget_72 (by decide) ?_
          refine g_iload_n F dX2_forget_73 rfl 3 rfl ?_
          refine g_ishl F dX2_forget_74 ?_
          refine g_iconst F (v := (-1)) dX2_forget_75 (by decide) ?_
          refine g_ixor F dX2_forget_76 ?_
          refine g_goto F 81 dX2_forget_77 (by decide) ?_
          refine g_iand F dX2_forget_81 ?_
          refine g_iast F (j := 6 + k) ([(a, .inl (cI, 79, .inl (upd g (6 + k) ((g (6 + k)) &&& ((1 <<< ((nI i) &&& 31)) ^^^ (-1))))))]) 0 0 rfl rfl (by omega) (by decide) dX2_forget_82 rfl ?_
          refine g_iinc F (lv' := [(0, .ref a), (1, .int (nI k)), (2, .int (S_most f k)), (3, .int (nI (i + 1))), (4, .int 1)]) (nI (i + 1)) dX2_forget_83 3 rfl (nI_add i 1) (by decide) [1, 2, 3, 0, 4] rfl ?_
          refine g_goto F 14 dX2_forget_86 (by decide) ?_
          refine g_lvs [0, 1, 2, 3] rfl ?_
          refine g_all (w0 := [(a, .inl (cI, 79, .inl (S_forStep k (S_most f k) i g)))]) (lv0 := [(0, .ref a), (1, .int (nI k)), (2, .int (S_most f k)), (3, .int (nI (i + 1)))]) (st0 := []) (by first | (simp only [S_forStep, S_old, c2, c4, c6, Bool.false_eq_true, ↓reduceIte]; done) | (with_reducible rfl) | (simp [S_forStep, S_old, c2, c4, c6, Bool.false_eq_true, ↓reduceIte]; done)) rfl rfl ?_
          exact ihi hlti trivial
set_option maxHeartbeats 1000000 in
set_option maxRecDepth 100000 in
theorem kX2_tick (l : Launch) (D : va_G) (cI cZ cQ : ClassId) (a : Nat) (f : Row) (hz : Z67 f) : Ct l D (gTy cI cZ cQ) yX2_tick wsX2_tick ({ frames := 4, cells := 0, slots := 0, locals := 92 }) [.ref a] ([(a, .inl (cI, 79, .inl f))]) none ([(a, .inl (cI, 79, .inl (S_tick f)))]) := by
  refine ct_ofV (cc := cX2_tick) (nL := 2) (own := RX2) (by decide) rfl rfl ⟨rfl, rfl⟩ (Nat.le_of_ble_eq_true rfl) (by simp only [List.map]) (fun p e s m below meth c A Q F hR => ?_)
  refine g_aload_n F dX2_tick_0 rfl 0 rfl ?_
  refine g_bipush F (v := 70) dX2_tick_1 (by decide) ?_
  refine g_as (nI 70) rfl ?_
  refine g_dup2 F dX2_tick_3 rfl rfl ?_
  refine g_iald F (j := 70) 0 0 rfl rfl (by omega) (by decide) dX2_tick_4 ?_
  refine g_iconst F (v := 1) dX2_tick_5 (by decide) ?_
  refine g_iadd F dX2_tick_6 ?_
  refine g_iast F (j := 70) ([(a, .inl (cI, 79, .inl (upd f 70 ((f 70) + 1))))]) 0 0 rfl rfl (by omega) (by decide) dX2_tick_7 rfl ?_
  refine g_iconst F (v := 0) dX2_tick_8 (by decide) ?_
  refine g_istore_n F (lv' := [(0, .ref a), (1, .int 0)]) dX2_tick_9 rfl (by decide) [1, 0] rfl ?_
  refine g_all (w0 := [(a, .inl (cI, 79, .inl (it S_dueStep 0 (S_tick0 f))))]) (lv0 := [(0, .ref a), (1, .int (nI 0))]) (st0 := []) rfl rfl rfl ?_
  refine g_for 6 (fun i => True) (fun i => [(a, .inl (cI, 79, .inl (it S_dueStep i (S_tick0 f))))]) (fun i => [(0, .ref a), (1, .int (nI i))]) (fun i hi hIi ihi => ?_) 0 (Nat.zero_le _) trivial
  dsimp only [it_s] at ihi ⊢
  have hzg : Z67 (it S_dueStep i (S_tick0 f)) := Z_dues hz i hi
  generalize hg_g : it S_dueStep i (S_tick0 f) = g at ihi hzg ⊢
  refine g_iload_n F dX2_tick_10 rfl 1 rfl ?_
  refine g_bipush F (v := 6) dX2_tick_11 (by decide) ?_
  refine g_icmp_ge F 46 dX2_tick_13 (by decide) (fun c1 => ?_) (fun c1 => ?_)
  · have hx_c1 : 6 = i := lp_ge hi (by decide) c1
    subst hx_c1
    subst hg_g
    refine g_iconst F (v := 0) dX2_tick_46 (by decide) ?_
    refine g_istore_n F (lv' := [(0, .ref a), (1, .int 0)]) dX2_tick_47 rfl (by decide) [1, 0] rfl ?_
    refine g_all (w0 := [(a, .inl (cI, 79, .inl (it S_fgStep 0 (S_tick1 f))))]) (lv0 := [(0, .ref a), (1, .int (nI 0))]) (st0 := []) (by rw [it_0, S_tick1]) rfl rfl ?_
    refine g_for 6 (fun j => True) (fun j => [(a, .inl (cI, 79, .inl (it S_fgStep j (S_tick1 f))))]) (fun j => [(0, .ref a), (1, .int (nI j))]) (fun j hj hIj ihj => ?_) 0 (Nat.zero_le _) trivial
    dsimp only [it_s] at ihj ⊢
    have hzg : Z67 (it S_fgStep j (S_tick1 f)) := Z_fgs hz j hj
    generalize hg_g : it S_fgStep j (S_tick1 f) = g at ihj hzg ⊢
    refine g_iload_n F dX2_tick_48 rfl 1 rfl ?_
    refine g_bipush F (v := 6) dX2_tick_49 (by decide) ?_
    refine g_icmp_ge F 72 dX2_tick_51 (by decide) (fun c2 => ?_) (fun c2 => ?_)
    · have hx_c2 : 6 = j := lp_ge hj (by decide) c2
      subst hx_c2
      subst hg_g
      exact g_endV (hR _ _ dX2_tick_72) (by rw [S_tick])
    · have hltj : j < 6 := lp_lt hj (by decide) c2
      refine g_aload_n F dX2_tick_54 rfl 0 rfl ?_
      refine g_iload_n F dX2_tick_55 rfl 1 rfl ?_
      refine g_iald F (j := j) 0 0 rfl rfl (by omega) (by decide) dX2_tick_56 ?_
      refine g_iconst F (v := 1) dX2_tick_57 (by decide) ?_
      refine g_icmp_ne F 66 dX2_tick_58 (by decide) (fun c3 => ?_) (fun c3 => ?_)
      · refine g_iinc F (lv' := [(0, .ref a), (1, .int (nI (j + 1)))]) (nI (j + 1)) dX2_tick_66 1 rfl (nI_add j 1) (by decide) [1, 0] rfl ?_
        refine g_goto F 48 dX2_tick_69 (by decide) ?_
        refine g_all (w0 := [(a, .inl (cI, 79, .inl (S_fgStep j g)))]) (lv0 := [(0, .ref a), (1, .int (nI (j + 1)))]) (st0 := []) (by first | (simp only [S_fgStep, c3, Bool.false_eq_true, ↓reduceIte]; done) | (with_reducible rfl) | (simp [S_fgStep, c3, Bool.false_eq_true, ↓reduceIte]; done)) rfl rfl ?_
        exact ihj hltj trivial
      · refine g_aload_n F dX2_tick_61 rfl 0 rfl ?_
        refine g_iload_n F dX2_tick_62 rfl 1 rfl ?_
        refine g_callSs F (As := [.ref a, .int (nI j)]) (st := []) (kX2_forget l D cI cZ cQ a g j (by omega) hzg) (va_cwS 2 F.2.2.2.2.1 gX2_tick_X2_forget rfl rfl rfl (by decide +kernel) ⟨Nat.le_of_ble_eq_true rfl, Nat.le_of_ble_eq_true rfl⟩) rfl rfl (Nat.le_of_ble_eq_true rfl) ⟨Nat.zero_le _, Nat.zero_le _⟩ dX2_tick_63 ?_
        refine g_iinc F (lv' := [(0, .ref a), (1, .int (nI (j + 1)))]) (nI (j + 1)) dX2_tick_66 1 rfl (nI_add j 1) (by decide) [1, 0] rfl ?_
        refine g_goto F 48 dX2_tick_69 (by decide) ?_
        refine g_all (w0 := [(a, .inl (cI, 79, .inl (S_fgStep j g)))]) (lv0 := [(0, .ref a), (1, .int (nI (j + 1)))]) (st0 := []) (by first | (simp only [S_fgStep, c3, Bool.false_eq_true, ↓reduceIte]; done) | (with_reducible rfl) | (simp [S_fgStep, c3, Bool.false_eq_true, ↓reduceIte]; done)) rfl rfl ?_
        exact ihj hltj trivial
  · have hlti : i < 6 := lp_lt hi (by decide) c1
    refine g_aload_n F dX2_tick_16 rfl 0 rfl ?_
    refine g_iload_n F dX2_tick_17 rfl 1 rfl ?_
    refine g_iald F (j := i) 0 0 rfl rfl (by omega) (by decide) dX2_tick_18 ?_
    refine g_if_eq F 40 dX2_tick_19 (by decide) (fun c4 => ?_) (fun c4 => ?_)
    · refine g_iinc F (lv' := [(0, .ref a), (1, .int (nI (i + 1)))]) (nI (i + 1)) dX2_tick_40 1 rfl (nI_add i 1) (by decide) [1, 0] rfl ?_
      refine g_goto F 10 dX2_tick_43 (by decide) ?_
      refine g_all (w0 := [(a, .inl (cI, 79, .inl (S_dueStep i g)))]) (lv0 := [(0, .ref a), (1, .int (nI (i + 1)))]) (st0 := []) (by first | (simp only [S_dueStep, c4, Bool.false_eq_true, ↓reduceIte]; done) | (with_reducible rfl) | (simp [S_dueStep, c4, Bool.false_eq_true, ↓reduceIte]; done)) rfl rfl ?_
      exact ihi hlti trivial
    · refine g_aload_n F dX2_tick_22 rfl 0 rfl ?_
      refine g_bipush F (v := 54) dX2_tick_23 (by decide) ?_
      refine g_iload_n F dX2_tick_25 rfl 1 rfl ?_
      refine g_iadd F dX2_tick_26 ?_
      refine g_as (nI (54 + i)) (nI_add 54 i) ?_
      refine g_iald F (j := 54 + i) 0 0 rfl rfl (by omega) (by decide) dX2_tick_27 ?_
      refine g_aload_n F dX2_tick_28 rfl 0 rfl ?_
      refine g_bipush F (v := 70) dX2_tick_29 (by decide) ?_
      refine g_as (nI 70) rfl ?_
      refine g_iald F (j := 70) 0 0 rfl rfl (by omega) (by decide) dX2_tick_31 ?_
      refine g_icmp_gt F 40 dX2_tick_32 (by decide) (fun c5 => ?_) (fun c5 => ?_)
      · refine g_iinc F (lv' := [(0, .ref a), (1, .int (nI (i + 1)))]) (nI (i + 1)) dX2_tick_40 1 rfl (nI_add i 1) (by decide) [1, 0] rfl ?_
        refine g_goto F 10 dX2_tick_43 (by decide) ?_
        refine g_all (w0 := [(a, .inl (cI, 79, .inl (S_dueStep i g)))]) (lv0 := [(0, .ref a), (1, .int (nI (i + 1)))]) (st0 := []) (by first | (simp only [S_dueStep, c4, c5, Bool.false_eq_true, ↓reduceIte]; done) | (with_reducible rfl) | (simp [S_dueStep, c4, c5, Bool.false_eq_true, ↓reduceIte]; done)) rfl rfl ?_
        exact ihi hlti trivial
      · refine g_aload_n F dX2_tick_35 rfl 0 rfl ?_
        refine g_iload_n F dX2_tick_36 rfl 1 rfl ?_
        refine g_callSs F (As := [.ref a, .int (nI i)]) (st := []) (kX2_look l D cI cZ cQ a g i (by omega) hzg) (va_cwS 2 F.2.2.2.2.1 gX2_tick_X2_look rfl rfl rfl (by decide +kernel) ⟨Nat.le_of_ble_eq_true rfl, Nat.le_of_ble_eq_true rfl⟩) rfl rfl (Nat.le_of_ble_eq_true rfl) ⟨Nat.zero_le _, Nat.zero_le _⟩ dX2_tick_37 ?_
        refine g_iinc F (lv' := [(0, .ref a), (1, .int (nI (i + 1)))]) (nI (i + 1)) dX2_tick_40 1 rfl (nI_add i 1) (by decide) [1, 0] rfl ?_
        refine g_goto F 10 dX2_tick_43 (by decide) ?_
        refine g_all (w0 := [(a, .inl (cI, 79, .inl (S_dueStep i g)))]) (lv0 := [(0, .ref a), (1, .int (nI (i + 1)))]) (st0 := []) (by first | (simp only [S_dueStep, c4, c5, Bool.false_eq_true, ↓reduceIte]; done) | (with_reducible rfl) | (simp [S_dueStep, c4, c5, Bool.false_eq_true, ↓reduceIte]; done)) rfl rfl ?_
        exact ihi hlti trivial
set_option maxHeartbeats 1000000 in
set_option maxRecDepth 100000 in
theorem kX2_passOn (l : Launch) (D : va_G) (cI cZ cQ : ClassId) (a : Nat) (f : Row) (n : Nat) (hn : n < 2 ^ 31) (hz : Z67 f) : Ct l D (gTy cI cZ cQ) yX2_passOn wsX2_passOn ({ frames := 5, cells := 0, slots := 0, locals := 113 }) [.ref a, .int (nI n)] ([(a, .inl (cI, 79, .inl f))]) (some (.int (S_pass f n))) ([(a, .inl (cI, 79, .inl (S_ticks f n)))]) := by
  refine ct_ofI (cc := cX2_passOn) (nL := 4) (own := RX2) (by decide) rfl rfl ⟨rfl, rfl⟩ (Nat.le_of_ble_eq_true rfl) (by simp only [List.map]) (fun p e s m below meth c A Q F hR => ?_)
  refine g_aload_n F dX2_passOn_0 rfl 0 rfl ?_
  refine g_callSs F (As := [.ref a]) (st := []) (kX2_lettersOf l D cI cZ cQ a f  ) (va_cwS 1 F.2.2.2.2.1 gX2_passOn_X2_lettersOf rfl rfl rfl (by decide +kernel) ⟨Nat.le_of_ble_eq_true rfl, Nat.le_of_ble_eq_true rfl⟩) rfl rfl (Nat.le_of_ble_eq_true rfl) ⟨Nat.zero_le _, Nat.zero_le _⟩ dX2_passOn_1 ?_
  refine g_istore_n F (lv' := [(0, .ref a), (1, .int (nI n)), (2, .int (S_letters f))]) dX2_passOn_4 rfl (by decide) [1, 2, 0] rfl ?_
  refine g_iconst F (v := 0) dX2_passOn_5 (by decide) ?_
  refine g_istore_n F (lv' := [(0, .ref a), (1, .int (nI n)), (2, .int (S_letters f)), (3, .int 0)]) dX2_passOn_6 rfl (by decide) [1, 2, 3, 0] rfl ?_
  refine g_all (w0 := [(a, .inl (cI, 79, .inl (S_ticks f 0)))]) (lv0 := [(0, .ref a), (1, .int (nI n)), (2, .int (S_letters f)), (3, .int (nI 0))]) (st0 := []) rfl rfl rfl ?_
  refine g_for n (fun i => True) (fun i => [(a, .inl (cI, 79, .inl (S_ticks f i)))]) (fun i => [(0, .ref a), (1, .int (nI n)), (2, .int (S_letters f)), (3, .int (nI i))]) (fun i hi hIi ihi => ?_) 0 (Nat.zero_le _) trivial
  refine g_iload_n F dX2_passOn_7 rfl 3 rfl ?_
  refine g_iload_n F dX2_passOn_8 rfl 1 rfl ?_
  refine g_icmp_ge F 22 dX2_passOn_9 (by decide) (fun c1 => ?_) (fun c1 => ?_)
  · have hx_c1 : n = i := lp_ge hi hn c1
    subst hx_c1
    refine g_aload_n F dX2_passOn_22 rfl 0 rfl ?_
    refine g_callSs F (As := [.ref a]) (st := []) (kX2_lettersOf l D cI cZ cQ a (S_ticks f n)  ) (va_cwS 1 F.2.2.2.2.1 gX2_passOn_X2_lettersOf rfl rfl rfl (by decide +kernel) ⟨Nat.le_of_ble_eq_true rfl, Nat.le_of_ble_eq_true rfl⟩) rfl rfl (Nat.le_of_ble_eq_true rfl) ⟨Nat.zero_le _, Nat.zero_le _⟩ dX2_passOn_23 ?_
    refine g_iload_n F dX2_passOn_26 rfl 2 rfl ?_
    refine g_isub F dX2_passOn_27 ?_
    exact g_endI (hR _ _ dX2_passOn_28) rfl rfl
  · have hlti : i < n := lp_lt hi hn c1
    refine g_aload_n F dX2_passOn_12 rfl 0 rfl ?_
    refine g_callSs F (As := [.ref a]) (st := []) (kX2_tick l D cI cZ cQ a (S_ticks f i)  (Z_ticks hz _)) (va_cwS 1 F.2.2.2.2.1 gX2_passOn_X2_tick rfl rfl rfl (by decide +kernel) ⟨Nat.le_of_ble_eq_true rfl, Nat.le_of_ble_eq_true rfl⟩) rfl rfl (Nat.le_of_ble_eq_true rfl) ⟨Nat.zero_le _, Nat.zero_le _⟩ dX2_passOn_13 ?_
    refine g_iinc F (lv' := [(0, .ref a), (1, .int (nI n)), (2, .int (S_letters f)), (3, .int (nI (i + 1)))]) (nI (i + 1)) dX2_passOn_16 3 rfl (nI_add i 1) (by decide) [1, 2, 3, 0] rfl ?_
    refine g_goto F 7 dX2_passOn_19 (by decide) ?_
    refine g_all (w0 := [(a, .inl (cI, 79, .inl (S_ticks f (i + 1))))]) (lv0 := [(0, .ref a), (1, .int (nI n)), (2, .int (S_letters f)), (3, .int (nI (i + 1)))]) (st0 := []) (by rw [S_ticks_s]) rfl rfl ?_
    exact ihi hlti trivial
set_option maxHeartbeats 1000000 in
set_option maxRecDepth 100000 in
theorem kX2_those (l : Launch) (D : va_G) (cI cZ cQ : ClassId) (a : Nat) (f : Row) (v : Int32) : Ct l D (gTy cI cZ cQ) yX2_those wsX2_those ({ frames := 0, cells := 0, slots := 0, locals := 0 }) [.ref a, .int v] ([(a, .inl (cI, 79, .inl f))]) (some (.int (S_those f v))) ([(a, .inl (cI, 79, .inl f))]) := by
  refine ct_ofI (cc := cX2_those) (nL := 4) (own := RX2) (by decide) rfl rfl ⟨rfl, rfl⟩ (Nat.le_of_ble_eq_true rfl) (by simp only [List.map]) (fun p e s m below meth c A Q F hR => ?_)
  refine g_iconst F (v := 0) dX2_those_0 (by decide) ?_
  refine g_istore_n F (lv' := [(0, .ref a), (1, .int v), (2, .int 0)]) dX2_those_1 rfl (by decide) [1, 2, 0] rfl ?_
  refine g_iconst F (v := 0) dX2_those_2 (by decide) ?_
  refine g_istore_n F (lv' := [(0, .ref a), (1, .int v), (2, .int 0), (3, .int 0)]) dX2_those_3 rfl (by decide) [1, 2, 3, 0] rfl ?_
  refine g_all (w0 := [(a, .inl (cI, 79, .inl f))]) (lv0 := [(0, .ref a), (1, .int v), (2, .int (it (S_thoseStep f v) 0 0)), (3, .int (nI 0))]) (st0 := []) rfl rfl rfl ?_
  refine g_for 6 (fun i => True) (fun i => [(a, .inl (cI, 79, .inl f))]) (fun i => [(0, .ref a), (1, .int v), (2, .int (it (S_thoseStep f v) i 0)), (3, .int (nI i))]) (fun i hi hIi ihi => ?_) 0 (Nat.zero_le _) trivial
  refine g_iload_n F dX2_those_4 rfl 3 rfl ?_
  refine g_bipush F (v := 6) dX2_those_5 (by decide) ?_
  refine g_icmp_ge F 33 dX2_those_7 (by decide) (fun c1 => ?_) (fun c1 => ?_)
  · have hx_c1 : 6 = i := lp_ge hi (by decide) c1
    subst hx_c1
    refine g_iload_n F dX2_those_33 rfl 2 rfl ?_
    exact g_endI (hR _ _ dX2_those_34) rfl rfl
  · have hlti : i < 6 := lp_lt hi (by decide) c1
    refine g_iload_n F dX2_those_10 rfl 2 rfl ?_
    refine g_aload_n F dX2_those_11 rfl 0 rfl ?_
    refine g_iload_n F dX2_those_12 rfl 3 rfl ?_
    refine g_iald F (j := i) 0 0 rfl rfl (by omega) (by decide) dX2_those_13 ?_
    refine g_iload_n F dX2_those_14 rfl 1 rfl ?_
    refine g_icmp_ne F 24 dX2_those_15 (by decide) (fun c2 => ?_) (fun c2 => ?_)
    · refine g_iconst F (v := 0) dX2_those_24 (by decide) ?_
      refine g_ior F dX2_those_25 ?_
      refine g_istore_n F (lv' := [(0, .ref a), (1, .int v), (2, .int ((it (S_thoseStep f v) i 0) ||| 0)), (3, .int (nI i))]) dX2_those_26 rfl (by decide) [1, 2, 0, 3] rfl ?_
      refine g_iinc F (lv' := [(0, .ref a), (1, .int v), (2, .int ((it (S_thoseStep f v) i 0) ||| 0)), (3, .int (nI (i + 1)))]) (nI (i + 1)) dX2_those_27 3 rfl (nI_add i 1) (by decide) [1, 2, 3, 0] rfl ?_
      refine g_goto F 4 dX2_those_30 (by decide) ?_
      refine g_all (w0 := [(a, .inl (cI, 79, .inl f))]) (lv0 := [(0, .ref a), (1, .int v), (2, .int (it (S_thoseStep f v) (i + 1) 0)), (3, .int (nI (i + 1)))]) (st0 := []) rfl (by first | (simp only [it_s, S_thoseStep, c2, Bool.false_eq_true, ↓reduceIte]; done) | (with_reducible rfl) | (simp [it_s, S_thoseStep, c2, Bool.false_eq_true, ↓reduceIte]; done)) rfl ?_
      exact ihi hlti trivial
    · refine g_iconst F (v := 1) dX2_those_18 (by decide) ?_
      refine g_iload_n F dX2_those_19 rfl 3 rfl ?_
      refine g_ishl F dX2_those_20 ?_
      refine g_goto F 25 dX2_those_21 (by decide) ?_
      refine g_ior F dX2_those_25 ?_
      refine g_istore_n F (lv' := [(0, .ref a), (1, .int v), (2, .int ((it (S_thoseStep f v) i 0) ||| (1 <<< ((nI i) &&& 31)))), (3, .int (nI i))]) dX2_those_26 rfl (by decide) [1, 2, 0, 3] rfl ?_
      refine g_iinc F (lv' := [(0, .ref a), (1, .int v), (2, .int ((it (S_thoseStep f v) i 0) ||| (1 <<< ((nI i) &&& 31)))), (3, .int (nI (i + 1)))]) (nI (i + 1)) dX2_those_27 3 rfl (nI_add i 1) (by decide) [1, 2, 3, 0] rfl ?_
      refine g_goto F 4 dX2_those_30 (by decide) ?_
      refine g_all (w0 := [(a, .inl (cI, 79, .inl f))]) (lv0 := [(0, .ref a), (1, .int v), (2, .int (it (S_thoseStep f v) (i + 1) 0)), (3, .int (nI (i + 1)))]) (st0 := []) rfl (by first | (simp only [it_s, S_thoseStep, c2, Bool.false_eq_true, ↓reduceIte]; done) | (with_reducible rfl) | (simp [it_s, S_thoseStep, c2, Bool.false_eq_true, ↓reduceIte]; done)) rfl ?_
      exact ihi hlti trivial
