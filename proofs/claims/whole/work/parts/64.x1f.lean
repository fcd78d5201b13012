set_option maxHeartbeats 1000000 in
set_option maxRecDepth 100000 in
theorem kX1_share_bad (l : Launch) (D : va_G) (cI cZ cQ : ClassId) (x bn bt : Nat → Nat) (pa sl : Nat → Option Nat) (ac : Nat) (kb : Int32) (tx : Row) (ln : Nat) (s1 s2 : Row) (se : Nat) (sd : Int64) (sb f g : Row) (Z : va_W) (v up : Int32) (hb : S_mem v = false) : Ct l D (gTy cI cZ cQ) yX1_share wsX1_share ({ frames := 9, cells := 0, slots := 0, locals := 340 }) [.ref (x 0), .int v, .int up] (XW cI cQ x bn bt pa sl ac kb tx ln s1 s2 se sd sb f g Z) (some (.int (-1))) (XW cI cQ x bn bt pa sl ac kb tx ln s1 s2 se sd sb f g Z) := by
  refine ct_ofI (cc := cX1_share) (nL := 6) (own := RX1) (by decide) rfl rfl ⟨rfl, rfl⟩ (Nat.le_of_ble_eq_true rfl) XW_same (fun p e s m below meth c A Q F hR => ?_)
  refine g_aw ([(x 0, .inr (1, [.ref (bn 0), .ref (bt 0), .ref (x 1), .int (nI ac), .ref (x 2), .int kb, .ref (x 3), .int (nI ln), .ref (x 4), .ref (x 5), .int (nI se), .long sd, .ref (x 6)])), (x 1, .inl (cQ, 14, .inr (.inr (.inr (.inr pa))))), (x 2, .inl (cQ, 2, .inr (.inr (.inr (.inr sl))))), (x 3, .inl (cI, 60, .inl tx)), (x 4, .inl (cI, 6, .inl s1)), (x 5, .inl (cI, 6, .inl s2)), (x 6, .inl (cI, 64, .inl sb))] ++ (CR cI bn f ++ (CR cI bt g ++ (Z)))) rfl ?_
  refine g_iload_n F dX1_share_0 rfl 1 rfl ?_
  refine g_callSn F (As := [.int v]) (st := []) (kX1_isMember l D cI cZ cQ v) (va_cwS 1 F.2.2.2.2.1 gX1_share_X1_isMember rfl rfl rfl (by decide +kernel) ⟨Nat.le_of_ble_eq_true rfl, Nat.le_of_ble_eq_true rfl⟩) rfl rfl (Nat.le_of_ble_eq_true rfl) ⟨Nat.zero_le _, Nat.zero_le _⟩ dX1_share_1 ?_
  refine g_bne F 9 dX1_share_4 (by decide) (fun c1 => ?_) (fun c1 => ?_)
  · exact absurd c1 (by rw [hb]; decide)
  · refine g_iconst F (v := (-1)) dX1_share_7 (by decide) ?_
    exact g_endI (hR _ _ dX1_share_8) rfl rfl
theorem zX1_share_f172 : Cond.fieldLink RX1 172 "CrowdReports" "ORDERS" "[I" ∈ wsX1_share := by decide +kernel
theorem zX1_share_f53 : Cond.fieldLink RX1 53 (TX1 12).1 (TX1 12).2.1 (TX1 12).2.2.1 ∈ wsX1_share := by decide +kernel
theorem zX1_share_inX1 : ∀ w ∈ u_ws RX1 TX1 13, w ∈ wsX1_share := by decide +kernel
set_option maxHeartbeats 1000000 in
set_option maxRecDepth 100000 in
theorem kX1_share_ok (l : Launch) (D : va_G) (cI cZ cQ : ClassId) (x bn bt : Nat → Nat) (pa sl : Nat → Option Nat) (ac : Nat) (kb : Int32) (tx : Row) (ln : Nat) (s1 s2 : Row) (se : Nat) (sd : Int64) (sb f g : Row) (Z : va_W) (k : Nat) (up : Int32) (hk : k < 6) (E : Nat) (hE : E < 64) (eE : S_felt f = nI E) (X : Nat) (hX : S_abs (S_shS (S_sub f 30 E) k 64) = nI X) (hX1 : X < 2 ^ 31) (n G : Nat) (hI : Inv n G f) (hn0 : n ≤ 1040000) (hG0 : G ≤ 1000000) : CtE l D (gTy cI cZ cQ) yX1_share wsX1_share ({ frames := 9, cells := 0, slots := 0, locals := 340 }) [.ref (x 0), .int (nI k), .int up] (XW cI cQ x bn bt pa sl ac kb tx ln s1 s2 se sd sb f g Z) (ordE (XW cI cQ x bn bt pa sl ac kb tx ln s1 s2 se sd sb f g Z)) (some (.int (S_frac (S_shS (S_sub f 30 E) k 64) (Nat.gcd X 720) 720 up))) 0 0 (fun (_ : Unit) => True) (fun _ => XW cI cQ x bn bt pa sl ac kb tx ln s1 s2 se sd (S_put sb (S_sub f 30 E) 0 64) f (S_subT f g 30 E 64) Z) := by
  refine ctE_ofI (cc := cX1_share) (nL := 6) (own := RX1) (by decide) rfl rfl ⟨rfl, rfl⟩ (Nat.le_of_ble_eq_true rfl) (fun p e s m below meth c A Q F hEo hA hR => ?_)
  obtain ⟨tO, hZ, hT⟩ := hEo
  rw [← hA] at hZ hT
  refine g_aw ([(x 0, .inr (1, [.ref (bn 0), .ref (bt 0), .ref (x 1), .int (nI ac), .ref (x 2), .int kb, .ref (x 3), .int (nI ln), .ref (x 4), .ref (x 5), .int (nI se), .long sd, .ref (x 6)])), (x 1, .inl (cQ, 14, .inr (.inr (.inr (.inr pa))))), (x 2, .inl (cQ, 2, .inr (.inr (.inr (.inr sl))))), (x 3, .inl (cI, 60, .inl tx)), (x 4, .inl (cI, 6, .inl s1)), (x 5, .inl (cI, 6, .inl s2)), (x 6, .inl (cI, 64, .inl sb))] ++ (CR cI bn f ++ (CR cI bt g ++ (Z)))) rfl ?_
  refine g_iload_n F dX1_share_0 rfl 1 rfl ?_
  refine g_callSn F (As := [.int (nI k)]) (st := []) (kX1_isMember l D cI cZ cQ (nI k)) (va_cwS 1 F.2.2.2.2.1 gX1_share_X1_isMember rfl rfl rfl (by decide +kernel) ⟨Nat.le_of_ble_eq_true rfl, Nat.le_of_ble_eq_true rfl⟩) rfl rfl (Nat.le_of_ble_eq_true rfl) ⟨Nat.zero_le _, Nat.zero_le _⟩ dX1_share_1 ?_
  refine g_bne F 9 dX1_share_4 (by decide) (fun c1 => ?_) (fun c1 => ?_)
  · refine g_aload_n F dX1_share_9 rfl 0 rfl ?_
    refine g_bipush F (v := 30) dX1_share_10 (by decide) ?_
    refine g_callVs F (As := [.int 30]) (st := []) (kX1_runSubsets l D cI cZ cQ x bn bt pa sl ac kb tx ln s1 s2 se sd sb f g Z 30 E (by decide) hE eE n G hI hn0 hG0) 0 rfl rfl (cwV 1 F.2.2.2.2.1 gX1_share_X1_runSubsets rfl rfl rfl (by decide +kernel) ⟨Nat.le_of_ble_eq_true rfl, Nat.le_of_ble_eq_true rfl⟩) rfl rfl (Nat.le_of_ble_eq_true rfl) ⟨Nat.zero_le _, Nat.zero_le _⟩ dX1_share_12 ?_
    refine g_iconst F (v := 0) dX1_share_15 (by decide) ?_
    refine g_istore_n F (lv' := [(0, .ref (x 0)), (1, .int (nI k)), (2, .int up), (3, .int 0)]) dX1_share_16 rfl (by decide) [1, 2, 3, 0] rfl ?_
    refine g_iconst F (v := 0) dX1_share_17 (by decide) ?_
    refine g_istore F (lv' := [(0, .ref (x 0)), (1, .int (nI k)), (2, .int up), (3, .int 0), (4, .int 0)]) dX1_share_18 (by decide) [1, 2, 3, 4, 0] rfl ?_
    refine g_all (w0 := [(x 0, .inr (1, [.ref (bn 0), .ref (bt 0), .ref (x 1), .int (nI ac), .ref (x 2), .int kb, .ref (x 3), .int (nI ln), .ref (x 4), .ref (x 5), .int (nI se), .long sd, .ref (x 6)])), (x 1, .inl (cQ, 14, .inr (.inr (.inr (.inr pa))))), (x 2, .inl (cQ, 2, .inr (.inr (.inr (.inr sl))))), (x 3, .inl (cI, 60, .inl tx)), (x 4, .inl (cI, 6, .inl s1)), (x 5, .inl (cI, 6, .inl s2)), (x 6, .inl (cI, 64, .inl (S_put sb (S_sub f 30 E) 0 64)))] ++ (CR cI bn f ++ (CR cI bt (S_subT f g 30 E 64) ++ (Z)))) (lv0 := [(0, .ref (x 0)), (1, .int (nI k)), (2, .int up), (3, .int (S_shS (S_sub f 30 E) k 0)), (4, .int (nI 0))]) (st0 := []) rfl rfl rfl ?_
    refine g_for 64 (fun i => True) (fun i => [(x 0, .inr (1, [.ref (bn 0), .ref (bt 0), .ref (x 1), .int (nI ac), .ref (x 2), .int kb, .ref (x 3), .int (nI ln), .ref (x 4), .ref (x 5), .int (nI se), .long sd, .ref (x 6)])), (x 1, .inl (cQ, 14, .inr (.inr (.inr (.inr pa))))), (x 2, .inl (cQ, 2, .inr (.inr (.inr (.inr sl))))), (x 3, .inl (cI, 60, .inl tx)), (x 4, .inl (cI, 6, .inl s1)), (x 5, .inl (cI, 6, .inl s2)), (x 6, .inl (cI, 64, .inl (S_put sb (S_sub f 30 E) 0 64)))] ++ (CR cI bn f ++ (CR cI bt (S_subT f g 30 E 64) ++ (Z)))) (fun i => [(0, .ref (x 0)), (1, .int (nI k)), (2, .int up), (3, .int (S_shS (S_sub f 30 E) k i)), (4, .int (nI i))]) (fun i hi hIi ihi => ?_) 0 (Nat.zero_le _) trivial
    refine g_iload F dX1_share_20 4 rfl ?_
    refine g_bipush F (v := 64) dX1_share_22 (by decide) ?_
    refine g_icmp_ge F 78 dX1_share_24 (by decide) (fun c2 => ?_) (fun c2 => ?_)
    · have hx_c2 : 64 = i := lp_ge hi (by decide) c2
      subst hx_c2
      refine g_iload_n F dX1_share_78 rfl 3 rfl ?_
      refine g_sipush F (v := 720) dX1_share_79 (by decide) ?_
      refine g_iload_n F dX1_share_82 rfl 2 rfl ?_
      refine g_callSn F (As := [.int (S_shS (S_sub f 30 E) k 64), .int 720, .int up]) (st := []) (kX1_fraction l D cI cZ cQ (S_shS (S_sub f 30 E) k 64) up X 720 hX hX1 (by decide) (by decide)) (va_cwS 3 F.2.2.2.2.1 gX1_share_X1_fraction rfl rfl rfl (by decide +kernel) ⟨Nat.le_of_ble_eq_true rfl, Nat.le_of_ble_eq_true rfl⟩) rfl rfl (Nat.le_of_ble_eq_true rfl) ⟨Nat.zero_le _, Nat.zero_le _⟩ dX1_share_83 ?_
      exact g_endI (hR _ _ () trivial dX1_share_86) rfl rfl
    · have hlti : i < 64 := lp_lt hi (by decide) c2
      refine g_iload F dX1_share_27 4 rfl ?_
      refine g_iload_n F dX1_share_29 rfl 1 rfl ?_
      refine g_ishr F dX1_share_30 ?_
      refine g_iconst F (v := 1) dX1_share_31 (by decide) ?_
      refine g_iand F dX1_share_32 ?_
      refine g_if_ne F 72 dX1_share_33 (by decide) (fun c3 => ?_) (fun c3 => ?_)
      · have hhas : S_has (nI i) (nI k) = true := has_01.mp c3
        refine g_iinc F (lv' := [(0, .ref (x 0)), (1, .int (nI k)), (2, .int up), (3, .int (S_shS (S_sub f 30 E) k i)), (4, .int (nI (i + 1)))]) (nI (i + 1)) dX1_share_72 4 rfl (nI_add i 1) (by decide) [1, 2, 3, 4, 0] rfl ?_
        refine g_goto F 20 dX1_share_75 (by decide) ?_
        refine g_all (w0 := [(x 0, .inr (1, [.ref (bn 0), .ref (bt 0), .ref (x 1), .int (nI ac), .ref (x 2), .int kb, .ref (x 3), .int (nI ln), .ref (x 4), .ref (x 5), .int (nI se), .long sd, .ref (x 6)])), (x 1, .inl (cQ, 14, .inr (.inr (.inr (.inr pa))))), (x 2, .inl (cQ, 2, .inr (.inr (.inr (.inr sl))))), (x 3, .inl (cI, 60, .inl tx)), (x 4, .inl (cI, 6, .inl s1)), (x 5, .inl (cI, 6, .inl s2)), (x 6, .inl (cI, 64, .inl (S_put sb (S_sub f 30 E) 0 64)))] ++ (CR cI bn f ++ (CR cI bt (S_subT f g 30 E 64) ++ (Z)))) (lv0 := [(0, .ref (x 0)), (1, .int (nI k)), (2, .int up), (3, .int (S_shS (S_sub f 30 E) k (i + 1))), (4, .int (nI (i + 1)))]) (st0 := []) rfl (by rw [S_shS_t hhas]) rfl ?_
        exact ihi hlti trivial
      · have hhas : S_has (nI i) (nI k) = false := has_00.mp c3
        have hp5 := pc_5 k hk i hlti hhas
        have hpo := pc_ok i hlti
        have hor := orb_ok k hk i hlti
        refine g_aload_n F dX1_share_36 rfl 0 rfl ?_
        refine g_get F (.ref (x 6)) zX1_share_inX1 0 rfl rfl 12 (by decide) rfl zX1_share_f53 dX1_share_37 ?_
        refine g_iload F dX1_share_40 4 rfl ?_
        refine g_iconst F (v := 1) dX1_share_42 (by decide) ?_
        refine g_iload_n F dX1_share_43 rfl 1 rfl ?_
        refine g_ishl F dX1_share_44 ?_
        refine g_ior F dX1_share_45 ?_
        refine g_as (nI (S_orb i k)) hor.1 ?_
        refine g_iald F (j := S_orb i k) 6 0 rfl rfl (by omega) (by decide) dX1_share_46 ?_
        refine g_as (S_sub f 30 E (S_orb i k)) (S_put_0 sb (S_sub f 30 E) 64 _ (by omega)) ?_
        refine g_aload_n F dX1_share_47 rfl 0 rfl ?_
        refine g_get F (.ref (x 6)) zX1_share_inX1 0 rfl rfl 12 (by decide) rfl zX1_share_f53 dX1_share_48 ?_
        refine g_iload F dX1_share_51 4 rfl ?_
        refine g_iald F (j := i) 6 0 rfl rfl (by omega) (by decide) dX1_share_53 ?_
        refine g_as (S_sub f 30 E i) (S_put_0 sb (S_sub f 30 E) 64 _ (by omega)) ?_
        refine g_isub F dX1_share_54 ?_
        refine g_istore F (lv' := [(0, .ref (x 0)), (1, .int (nI k)), (2, .int up), (3, .int (S_shS (S_sub f 30 E) k i)), (4, .int (nI i)), (5, .int ((S_sub f 30 E (S_orb i k)) - (S_sub f 30 E i)))]) dX1_share_55 (by decide) [1, 2, 3, 4, 5, 0] rfl ?_
        refine g_iload_n F dX1_share_57 rfl 3 rfl ?_
        refine g_iload F dX1_share_58 5 rfl ?_
        refine g_gets F hZ zX1_share_f172 dX1_share_60 ?_
        refine g_iload F dX1_share_63 4 rfl ?_
        refine g_callSn F (As := [.int (nI i)]) (st := [.ref tO, .int ((S_sub f 30 E (S_orb i k)) - (S_sub f 30 E i)), .int (S_shS (S_sub f 30 E) k i)]) (kJ6_bitCount_0f7a4 l D cI cZ cQ i hlti) (va_cwS 1 F.2.2.2.2.1 gX1_share_J6_bitCount_0f7a4 rfl rfl rfl (by decide +kernel) ⟨Nat.le_of_ble_eq_true rfl, Nat.le_of_ble_eq_true rfl⟩) rfl rfl (Nat.le_of_ble_eq_true rfl) ⟨Nat.zero_le _, Nat.zero_le _⟩ dX1_share_65 ?_
        refine g_as (nI (S_pc i)) hpo.1 ?_
        refine g_ti F (j := S_pc i) hT (Nat.lt_succ_of_le hp5) (by decide) rfl dX1_share_68 ?_
        refine g_imul F dX1_share_69 ?_
        refine g_iadd F dX1_share_70 ?_
        refine g_istore_n F (lv' := [(0, .ref (x 0)), (1, .int (nI k)), (2, .int up), (3, .int ((S_shS (S_sub f 30 E) k i) + (((S_sub f 30 E (S_orb i k)) - (S_sub f 30 E i)) * (S_ord (S_pc i))))), (4, .int (nI i)), (5, .int ((S_sub f 30 E (S_orb i k)) - (S_sub f 30 E i)))]) dX1_share_71 rfl (by decide) [1, 2, 3, 0, 4, 5] rfl ?_
        refine g_iinc F (lv' := [(0, .ref (x 0)), (1, .int (nI k)), (2, .int up), (3, .int ((S_shS (S_sub f 30 E) k i) + (((S_sub f 30 E (S_orb i k)) - (S_sub f 30 E i)) * (S_ord (S_pc i))))), (4, .int (nI (i + 1))), (5, .int ((S_sub f 30 E (S_orb i k)) - (S_sub f 30 E i)))]) (nI (i + 1)) dX1_share_72 4 rfl (nI_add i 1) (by decide) [1, 2, 3, 4, 0, 5] rfl ?_
        refine g_goto F 20 dX1_share_75 (by decide) ?_
        refine g_lvs (lv' := [(0, .ref (x 0)), (1, .int (nI k)), (2, .int up), (3, .int ((S_shS (S_sub f 30 E) k i) + (((S_sub f 30 E (S_orb i k)) - (S_sub f 30 E i)) * (S_ord (S_pc i))))), (4, .int (nI (i + 1)))]) [0, 1, 2, 3, 4] rfl ?_
        refine g_all (w0 := [(x 0, .inr (1, [.ref (bn 0), .ref (bt 0), .ref (x 1), .int (nI ac), .ref (x 2), .int kb, .ref (x 3), .int (nI ln), .ref (x 4), .ref (x 5), .int (nI se), .long sd, .ref (x 6)])), (x 1, .inl (cQ, 14, .inr (.inr (.inr (.inr pa))))), (x 2, .inl (cQ, 2, .inr (.inr (.inr (.inr sl))))), (x 3, .inl (cI, 60, .inl tx)), (x 4, .inl (cI, 6, .inl s1)), (x 5, .inl (cI, 6, .inl s2)), (x 6, .inl (cI, 64, .inl (S_put sb (S_sub f 30 E) 0 64)))] ++ (CR cI bn f ++ (CR cI bt (S_subT f g 30 E 64) ++ (Z)))) (lv0 := [(0, .ref (x 0)), (1, .int (nI k)), (2, .int up), (3, .int (S_shS (S_sub f 30 E) k (i + 1))), (4, .int (nI (i + 1)))]) (st0 := []) rfl (by rw [S_shS_f hhas]) rfl ?_
        exact ihi hlti trivial
  · exact absurd c1 (by rw [mem_nI hk]; decide)
