theorem dvX1 : ∀ j, j < 13 → defaultValue (tyX1 j) = vp_V [.null, .null, .null, .int 0, .null, .int 0, .null, .int 0, .null, .null, .int 0, .long 0, .null] j := by
  intro j hj
  match j, hj with
  | 0, _ => rfl
  | 1, _ => rfl
  | 2, _ => rfl
  | 3, _ => rfl
  | 4, _ => rfl
  | 5, _ => rfl
  | 6, _ => rfl
  | 7, _ => rfl
  | 8, _ => rfl
  | 9, _ => rfl
  | 10, _ => rfl
  | 11, _ => rfl
  | 12, _ => rfl
  | n + 13, h => exact absurd h (by omega)
theorem dvX2 : ∀ j, j < 15 → defaultValue (tyX2 j) = vp_V [.null, .int 0, .null, .null, .null, .int 0, .int 0, .null, .null, .null, .null, .int 0, .long 0, .null, .null] j := by
  intro j hj
  match j, hj with
  | 0, _ => rfl
  | 1, _ => rfl
  | 2, _ => rfl
  | 3, _ => rfl
  | 4, _ => rfl
  | 5, _ => rfl
  | 6, _ => rfl
  | 7, _ => rfl
  | 8, _ => rfl
  | 9, _ => rfl
  | 10, _ => rfl
  | 11, _ => rfl
  | 12, _ => rfl
  | 13, _ => rfl
  | 14, _ => rfl
  | n + 15, h => exact absurd h (by omega)
theorem head_f {L i : Nat} (hL : L ≤ 2048) (hi : i ≤ 4096) (h : ¬ nI L - 4 < nI i) : i + 4 ≤ L := by
  have e : nI L - 4 = Int32.ofInt ((L : Int) - 4) := by rw [Int32.ofInt_sub]; rfl
  rw [Int32.lt_iff_toInt_lt, e, Int32.toInt_ofInt_of_le (by omega) (by omega), nI_toInt (by omega)] at h
  omega
theorem Inv_init : Inv 600 20000 S_init := by
  have z : ∀ j, j < 66 ∨ 69 ≤ j → S_init j = 0 := fun j hj => (init_z hj).symm
  refine Inv_iff.mpr ⟨⟨⟨1, by decide, by decide, rfl⟩, ⟨1, by decide, by decide, rfl⟩, ⟨1, by decide, by decide, rfl⟩, 0, by decide, z 69 (by omega)⟩, 0, by omega, z 70 (by omega), fun k hk => ?_⟩
  rw [z k (by omega), z (6 + k) (by omega), z (48 + k) (by omega), z (54 + k) (by omega), z (60 + k) (by omega)]
  exact ⟨Or.inl ⟨rfl, rfl, rfl, rfl, rfl⟩, ⟨0, by decide, rfl⟩, (by decide : ∀ k, k < 6 → S_has 0 (nI k) = false) k hk, ⟨0, by omega, rfl⟩, ⟨0, by omega, rfl⟩, 0, by omega, rfl⟩
theorem rel_init {cI cZ cQ : ClassId} {h0 : Nat} {z : XA} {a : Nat → Nat} (hz : XG h0 z) : RelW cI cZ cQ (a 0) (z.1 0) 600 20000 (MW cI cZ a (fun _ => 0) 0 S_init (fun _ => 0) (fun _ => 0) 0 0 (fun _ => 0) (fun _ => 0) (fun _ => 0) (fun _ => 0) 0 0 (fun _ => 0) (fun _ => 0)) (XI cI cQ z) := by
  have hf : ∀ k, k < 2 → S_has (nI 0) (nI k) = false := fun k hk => (by decide : ∀ k, k < 6 → S_has 0 (nI k) = false) k (by omega)
  have hE : EK S_init S_init := ⟨⟨fun _ _ => rfl, fun _ _ _ _ _ => rfl⟩, Inv_init.kn⟩
  unfold XI
  exact RelW_mk (kb := 0) (ix := fun i => i) ⟨Nat.zero_le _, Nat.zero_le _, fun j hj => absurd hj (by omega), Nat.zero_le _, by decide, fun i hi => ⟨hi, hz.2.1 i hi⟩, fun i j _ _ h => h, hz.2.2, hE, Inv_init, fun i hi => absurd hi (by omega), by decide, fun k hk => ⟨⟨fun q => absurd q (by rw [hf k hk]; decide), fun q => absurd rfl q⟩, fun q => absurd q (by rw [hf k hk]; decide)⟩, by decide⟩
theorem RelP_up {n G n' G' : Nat} {pa sl : Nat → Option Nat} {ac kb ln : Nat} {s1 : Row} {se : Nat} {f : Row} {pb qb : Nat → Nat → Nat} {pr qr : Nat → Row} {ix : Nat → Nat} {nw di : Row} {nx : Nat} {ke ik : Row} (h : RelP n G pa sl ac kb ln s1 se f pb qb pr qr ix nw di nx ke ik) (hn : n ≤ n') (hG : G ≤ G') : RelP n' G' pa sl ac kb ln s1 se f pb qb pr qr ix nw di nx ke ik := by
  obtain ⟨hln, hse, hs, hac, hnx, hpa, hinj, hsl, hE, hI, hpast, hkb, hslot, hG1⟩ := h
  exact ⟨hln, hse, hs, hac, hnx, hpa, hinj, hsl, hE, hI.mono hn hG, fun i hi => ⟨(hpast i hi).1, (hpast i hi).2.mono hn hG⟩, hkb, fun k hk => ⟨(hslot k hk).1, fun q => ⟨((hslot k hk).2 q).1, ((hslot k hk).2 q).2.mono hn hG⟩⟩, by omega⟩
theorem RelW_up {cI cZ cQ : ClassId} {a0 x0 n G n' G' : Nat} {wM wX : va_W} (h : RelW cI cZ cQ a0 x0 n G wM wX) (hn : n ≤ n') (hG : G ≤ G') : RelW cI cZ cQ a0 x0 n' G' wM wX := by
  obtain ⟨x, bn, bt, pa, sl, ac, kb, tx, ln, s1, s2, se, sd, sb, f, g, pb, qb, pr, qr, ix, a, nw, tr, di, nx, ke, ik, wo, re, rfl, rfl, rfl, rfl, hP⟩ := h
  exact RelW_mk (RelP_up hP hn hG)
set_option maxHeartbeats 4000000 in
set_option maxRecDepth 100000 in
theorem law_loop {p : Program} {l : Launch} {e : Env} {s : State} {m : MethodId} {below : List Frame} {meth : Method} {c : Code} {D : va_G} {cI cZ cQ : ClassId} {b : Nat} {L : Nat} {xs : Nat → Int32} {x0 a0 : Nat} (F : gFx p m c code 4 s #[Value.ref b] wsL_law RL D (gTy cI cZ cQ) (fun z => s.heap.size ≤ z)) (hO : ordS s) (hX : va_X b L xs s s.heap) (hbl : b < s.heap.size) (hL : L ≤ 2048) (hr : meth.sig.returnType = ret) (hlk : meth.locks = false) : ∀ (k q : Nat) (wM wX : va_W), 513 ≤ q + k → 4 * q ≤ L → RelW cI cZ cQ a0 x0 (600 + 40 * q) (20000 + 1500 * q) wM wX → Go p l e room_1 s m #[Value.ref b] below meth c (lw_Z below #[Value.ref b] s) D (fun z => s.heap.size ≤ z) 4 162 3367 (wM ++ wX) 18 [(0, .ref b), (1, .ref x0), (2, .ref a0), (3, .int (nI (4 * q)))] [] := by
  intro k
  induction k with
  | zero => intro q wM wX h1 h2; exact absurd h1 (by omega)
  | succ k ih =>
    intro q wM wX hk hqL hR
    refine g_iload_n F dL_law_18 rfl 3 rfl ?_
    refine g_aload_n F dL_law_19 rfl 0 rfl ?_
    refine g_slen F hX hbl dL_law_20 ?_
    refine g_iconst F (v := 4) dL_law_21 (by decide) ?_
    refine g_isub F dL_law_22 ?_
    refine g_icmp_gt F 1013 dL_law_23 (by decide) (fun c1 => ?_) (fun c1 => ?_)
    · refine g_iconst F (v := 1) dL_law_1013 (by decide) ?_
      exact fun H locs ls hP hD hS hl => va_forget (fun z hz => hS.2.2 z hz) (W.widen (k := 600000) (n := 7302250) (Nat.le_of_ble_eq_true rfl) (Nat.le_of_ble_eq_true rfl) (lw_ret F.1 F.2.1 hr hlk dL_law_1014))
    · have hq4 : 4 * q + 4 ≤ L := head_f hL (by omega) c1
      have hback : ∀ wM2 wX2, RelW cI cZ cQ a0 x0 (600 + 40 * q + 40) (20000 + 1500 * q + 1500) wM2 wX2 → Go p l e room_1 s m #[Value.ref b] below meth c (lw_Z below #[Value.ref b] s) D (fun z => s.heap.size ≤ z) 4 162 3367 (wM2 ++ wX2) 1007 [(0, .ref b), (1, .ref x0), (2, .ref a0), (3, .int (nI (4 * q)))] [] := by
        intro wM2 wX2 hR2
        refine g_iinc F (lv' := [(0, .ref b), (1, .ref x0), (2, .ref a0), (3, .int (nI (4 * (q + 1))))]) (nI (4 * (q + 1))) dL_law_1007 3 rfl (nI_add (4 * q) 4) (by decide) [1, 2, 3, 0] rfl ?_
        refine g_goto F 18 dL_law_1010 (by decide) ?_
        exact ih (q + 1) wM2 wX2 (by omega) (by omega) hR2
      have hR1 : RelW cI cZ cQ a0 x0 (600 + 40 * q + 40) (20000 + 1500 * q + 1500) wM wX := RelW_up hR (by omega) (by omega)
      refine g_aload_n F dL_law_26 rfl 0 rfl ?_
      refine g_iload_n F dL_law_27 rfl 3 rfl ?_
      refine g_sld F hX hbl (by omega) (by omega) dL_law_28 ?_
      refine g_bipush F (v := 31) dL_law_29 (by decide) ?_
      refine g_iand F dL_law_31 ?_
      obtain ⟨j, hj, ej⟩ := pk_andE (xs (4 * q)) (m := 31) 5 (by decide)
      match j, hj, ej with
      | 0, _, ej =>
        rw [ej]
        exact g_tableIn F 160 dL_law_32 (by decide) (by decide) rfl (by decide) (law_0 F hO hX hbl hL hq4 hR (by omega) (by omega) (by omega) (by omega) hback)
      | 1, _, ej =>
        rw [ej]
        exact g_tableIn F 183 dL_law_32 (by decide) (by decide) rfl (by decide) (law_1 F hO hX hbl hL hq4 hR (by omega) (by omega) (by omega) (by omega) hback)
      | 2, _, ej =>
        rw [ej]
        exact g_tableIn F 196 dL_law_32 (by decide) (by decide) rfl (by decide) (law_2 F hO hX hbl hL hq4 hR (by omega) (by omega) (by omega) (by omega) hback)
      | 3, _, ej =>
        rw [ej]
        exact g_tableIn F 209 dL_law_32 (by decide) (by decide) rfl (by decide) (law_3 F hO hX hbl hL hq4 hR (by omega) (by omega) (by omega) (by omega) hback)
      | 4, _, ej =>
        rw [ej]
        exact g_tableIn F 222 dL_law_32 (by decide) (by decide) rfl (by decide) (law_4 F hO hX hbl hL hq4 hR (by omega) (by omega) (by omega) (by omega) hback)
      | 5, _, ej =>
        rw [ej]
        exact g_tableIn F 245 dL_law_32 (by decide) (by decide) rfl (by decide) (law_5 F hO hX hbl hL hq4 hR (by omega) (by omega) (by omega) (by omega) hback)
      | 6, _, ej =>
        rw [ej]
        exact g_tableIn F 278 dL_law_32 (by decide) (by decide) rfl (by decide) (law_6 F hO hX hbl hL hq4 hR (by omega) (by omega) (by omega) (by omega) hback)
      | 7, _, ej =>
        rw [ej]
        exact g_tableIn F 311 dL_law_32 (by decide) (by decide) rfl (by decide) (law_7 F hO hX hbl hL hq4 hR (by omega) (by omega) (by omega) (by omega) hback)
      | 8, _, ej =>
        rw [ej]
        exact g_tableIn F 344 dL_law_32 (by decide) (by decide) rfl (by decide) (law_8 F hO hX hbl hL hq4 hR (by omega) (by omega) (by omega) (by omega) hback)
      | 9, _, ej =>
        rw [ej]
        exact g_tableIn F 367 dL_law_32 (by decide) (by decide) rfl (by decide) (law_9 F hO hX hbl hL hq4 hR (by omega) (by omega) (by omega) (by omega) hback)
      | 10, _, ej =>
        rw [ej]
        exact g_tableIn F 390 dL_law_32 (by decide) (by decide) rfl (by decide) (law_10 F hO hX hbl hL hq4 hR (by omega) (by omega) (by omega) (by omega) hback)
      | 11, _, ej =>
        rw [ej]
        exact g_tableIn F 413 dL_law_32 (by decide) (by decide) rfl (by decide) (law_11 F hO hX hbl hL hq4 hR (by omega) (by omega) (by omega) (by omega) hback)
      | 12, _, ej =>
        rw [ej]
        exact g_tableIn F 446 dL_law_32 (by decide) (by decide) rfl (by decide) (law_12 F hO hX hbl hL hq4 hR (by omega) (by omega) (by omega) (by omega) hback)
      | 13, _, ej =>
        rw [ej]
        exact g_tableIn F 479 dL_law_32 (by decide) (by decide) rfl (by decide) (law_13 F hO hX hbl hL hq4 hR (by omega) (by omega) (by omega) (by omega) hback)
      | 14, _, ej =>
        rw [ej]
        exact g_tableIn F 492 dL_law_32 (by decide) (by decide) rfl (by decide) (law_14 F hO hX hbl hL hq4 hR (by omega) (by omega) (by omega) (by omega) hback)
      | 15, _, ej =>
        rw [ej]
        exact g_tableIn F 525 dL_law_32 (by decide) (by decide) rfl (by decide) (law_15 F hO hX hbl hL hq4 hR (by omega) (by omega) (by omega) (by omega) hback)
      | 16, _, ej =>
        rw [ej]
        exact g_tableIn F 548 dL_law_32 (by decide) (by decide) rfl (by decide) (law_16 F hO hX hbl hL hq4 hR (by omega) (by omega) (by omega) (by omega) hback)
      | 17, _, ej =>
        rw [ej]
        exact g_tableIn F 611 dL_law_32 (by decide) (by decide) rfl (by decide) (law_17 F hO hX hbl hL hq4 hR (by omega) (by omega) (by omega) (by omega) hback)
      | 18, _, ej =>
        rw [ej]
        exact g_tableIn F 654 dL_law_32 (by decide) (by decide) rfl (by decide) (law_18 F hO hX hbl hL hq4 hR (by omega) (by omega) (by omega) (by omega) hback)
      | 19, _, ej =>
        rw [ej]
        exact g_tableIn F 717 dL_law_32 (by decide) (by decide) rfl (by decide) (law_19 F hO hX hbl hL hq4 hR (by omega) (by omega) (by omega) (by omega) hback)
      | 20, _, ej =>
        rw [ej]
        exact g_tableIn F 750 dL_law_32 (by decide) (by decide) rfl (by decide) (law_20 F hO hX hbl hL hq4 hR (by omega) (by omega) (by omega) (by omega) hback)
      | 21, _, ej =>
        rw [ej]
        exact g_tableIn F 763 dL_law_32 (by decide) (by decide) rfl (by decide) (law_21 F hO hX hbl hL hq4 hR (by omega) (by omega) (by omega) (by omega) hback)
      | 22, _, ej =>
        rw [ej]
        exact g_tableIn F 776 dL_law_32 (by decide) (by decide) rfl (by decide) (law_22 F hO hX hbl hL hq4 hR (by omega) (by omega) (by omega) (by omega) hback)
      | 23, _, ej =>
        rw [ej]
        exact g_tableIn F 825 dL_law_32 (by decide) (by decide) rfl (by decide) (law_23 F hO hX hbl hL hq4 hR (by omega) (by omega) (by omega) (by omega) hback)
      | 24, _, ej =>
        rw [ej]
        exact g_tableIn F 884 dL_law_32 (by decide) (by decide) rfl (by decide) (law_24 F hO hX hbl hL hq4 hR (by omega) (by omega) (by omega) (by omega) hback)
      | 25, _, ej =>
        rw [ej]
        exact g_tableIn F 938 dL_law_32 (by decide) (by decide) rfl (by decide) (law_25 F hO hX hbl hL hq4 hR (by omega) (by omega) (by omega) (by omega) hback)
      | 26, _, ej =>
        rw [ej]
        exact g_tableIn F 961 dL_law_32 (by decide) (by decide) rfl (by decide) (law_26 F hO hX hbl hL hq4 hR (by omega) (by omega) (by omega) (by omega) hback)
      | 27, _, ej =>
        rw [ej]
        exact g_tableIn F 984 dL_law_32 (by decide) (by decide) rfl (by decide) (law_27 F hO hX hbl hL hq4 hR (by omega) (by omega) (by omega) (by omega) hback)
      | 28, _, ej =>
        rw [ej]
        exact g_tableOut F 1007 dL_law_32 (by decide) (by decide) (hback wM wX hR1)
      | 29, _, ej =>
        rw [ej]
        exact g_tableOut F 1007 dL_law_32 (by decide) (by decide) (hback wM wX hR1)
      | 30, _, ej =>
        rw [ej]
        exact g_tableOut F 1007 dL_law_32 (by decide) (by decide) (hback wM wX hR1)
      | 31, _, ej =>
        rw [ej]
        exact g_tableOut F 1007 dL_law_32 (by decide) (by decide) (hback wM wX hR1)
      | j + 32, h, _ => exact absurd h (by omega)
set_option maxHeartbeats 4000000 in
set_option maxRecDepth 100000 in
theorem whole_start {p : Program} {e : Env} {s : State} {m : MethodId} {below : List Frame} {meth : Method} {c : Code} (l : Launch) (hflags : l.flags = flags0) {b L : Nat} {xs : Nat → Int32} (hL : L ≤ 2048) (C0 : lw_At p s m meth c b L xs) : W p l e room_1 s m #[Value.ref b] below meth c s.heap [] 0 0 (lw_Z below #[Value.ref b] s) (entryFrame m ([Value.ref b] : List Value).toArray 4) := by
  obtain ⟨hx, hb, hr, hml, hown, hts, hX, hbl, hlocks, hgv⟩ := id C0
  obtain ⟨c0, iS0, hKn0⟩ := u_known (C := RX0) (T := TX0) (N := 14) (n := 14) hts in_uX0 (hts _ (wsL_in _ zL_law_iaX0))
  obtain ⟨c1, iS1, hKn1⟩ := u_known (C := RX1) (T := TX1) (N := 13) (n := 13) hts in_uX1 (hts _ (wsL_in _ zL_law_iaX1))
  obtain ⟨c2, iS2, hKn2⟩ := u_known (C := RX2) (T := TX2) (N := 15) (n := 15) hts in_uX2 (hts _ (wsL_in _ zL_law_iaX2))
  obtain ⟨D, hKc⟩ : ∃ D : va_G, ∀ (k : Nat) (q : vw_C), vwCl[k]? = some q → u_Kn s q.1 q.2.1 q.2.2 (D.1 k) (D.2 k) := by
    refine ⟨(fun k => if k = 0 then c0 else if k = 1 then c1 else c2, fun k => if k = 0 then iS0 else if k = 1 then iS1 else iS2), ?_⟩
    intro k q hq
    match k, hq with
    | 0, hq => cases hq; exact hKn0
    | 1, hq => cases hq; exact hKn1
    | 2, hq => cases hq; exact hKn2
    | k + 3, hq => simp [vwCl] at hq
  have hAO : va_AO RX0 s := va_AO.of (hts _ in_over)
  obtain ⟨cI, kI, coI, fI1, fI2, fI3⟩ := Cond.arrayClass_spec (hts _ (wsL_in _ zL_law_acint))
  obtain ⟨cZ, kZ, coZ, fZ1, fZ2, fZ3⟩ := Cond.arrayClass_spec (hts _ (wsL_in _ zL_law_acboolean))
  obtain ⟨coQ, cQ, kQ, fQ1, fQ2, fQ3, fQ4, fQ5⟩ := Cond.arrayOver_spec (va_AO.use (A := #[]) hAO)
  have hK : va_K D vwCl (gTy cI cZ cQ) s := by
    refine ⟨hKc, fun k q hq => ?_⟩
    match k, hq with
    | 0, hq => cases hq; exact ⟨fun n z => ⟨fun k h => (by cases h), kI, fI2, coI, fI3⟩, fI1⟩
    | 1, hq => cases hq; exact ⟨fun n z => ⟨fun k h => (by cases h), kZ, fZ2, coZ, fZ3⟩, fZ1⟩
    | 2, hq => cases hq; exact ⟨fun n z => ⟨fun k h => (by cases h), kQ, fQ3, coQ, fQ4⟩, kQ, coQ, fQ3, fQ4, fQ1, fQ5⟩
    | k + 3, hq => simp [gTy] at hq
  have hO : ordS s := by
    have hs := flat_of_before _ hgv
    have hA : ∀ a : Nat, a < s.heap.size → ¬ (fun z => s.heap.size ≤ z) a := fun a h => Nat.not_le.mpr h
    have hel : ∀ j : Nat, j < 6 → (Term.elem (.static "CrowdReports" "ORDERS" "[I") (.int (Int32.ofNat j))).eval #[Value.ref b] s none [] s = some (.int (S_ord j)) := by
      intro j hj
      match j, hj with
      | 0, _ => exact va_eqt (hs _ (by decide +kernel))
      | 1, _ => exact va_eqt (hs _ (by decide +kernel))
      | 2, _ => exact va_eqt (hs _ (by decide +kernel))
      | 3, _ => exact va_eqt (hs _ (by decide +kernel))
      | 4, _ => exact va_eqt (hs _ (by decide +kernel))
      | 5, _ => exact va_eqt (hs _ (by decide +kernel))
      | j + 6, h => exact absurd h (by omega)
    obtain ⟨t, ht, hT⟩ := va_Tof (N := 6) (f := fun j => .int (S_ord j)) (A := fun z => s.heap.size ≤ z) (tm := .static "CrowdReports" "ORDERS" "[I") (ty := .int) (args := #[Value.ref b]) (s := s) (by decide) (hs _ (by decide +kernel)) (va_eqt (hs _ (by decide +kernel))) hel hA
    exact ⟨t, va_Zof (hts _ in_lays) (hts _ (wsL_in _ zL_law_iX1)) ht hA, hT⟩
  have F : gFx p m c code 4 s #[Value.ref b] wsL_law RL D (gTy cI cZ cQ) (fun z => s.heap.size ≤ z) := ⟨hx, hb, hml, hown, fun w h => hts w (wsL_in w h), ⟨hK, va_Nw.of rfl (hts _ in_nest0), va_Nw.of rfl (hts _ in_nest1)⟩, fun _ h => h⟩
  have key : Go p l e room_1 s m #[Value.ref b] below meth c (lw_Z below #[Value.ref b] s) D (fun z => s.heap.size ≤ z) 4 0 0 [] 0 [(0, .ref b)] [] := by
    refine g_new F (ci := 1) (fs := [.null, .null, .null, .int 0, .null, .int 0, .null, .int 0, .null, .null, .int 0, .long 0, .null]) zL_law_inX1 tyX1 tyX1_ok zL_law_cl7 zL_law_iaX1 zL_law_iX1 rfl dvX1 (Nat.le_of_ble_eq_true rfl) (Nat.le_of_ble_eq_true rfl) dL_law_0 (fun q1 => ?_)
    refine g_dup F dL_law_3 rfl ?_
    refine g_callI F (st := [.ref q1]) [] [(q1, .inr (1, [.null, .null, .null, .int 0, .null, .int 0, .null, .int 0, .null, .null, .int 0, .long 0, .null]))] (kX1_init l D cI cZ cQ q1) (cwI 0 F.2.2.2.2.1 gL_law_X1_init rfl rfl rfl (F.2.2.2.2.1 _ zL_law_iX1) (F.2.2.2.2.1 _ zL_law_l9) (F.2.2.2.2.1 _ zL_law_im1) rfl (by decide +kernel) ⟨Nat.le_of_ble_eq_true rfl, Nat.le_of_ble_eq_true rfl⟩) rfl (fun _ U g mk a h => va_AO.moved (u := U) (U := U.calling g mk a) (Vm.Alike.refl U.vm) h) (fun _ U hW => va_AO.moved hW.alike hAO) rfl (Nat.le_of_ble_eq_true rfl) ⟨Nat.le_of_ble_eq_true rfl, Nat.le_of_ble_eq_true rfl⟩ dL_law_4 (fun z hz => ?_)
    refine g_astore_n F (lv' := [(0, .ref b), (1, .ref q1)]) dL_law_7 rfl (by decide) [1, 0] rfl ?_
    refine g_new F (ci := 2) (fs := [.null, .int 0, .null, .null, .null, .int 0, .int 0, .null, .null, .null, .null, .int 0, .long 0, .null, .null]) zL_law_inX2 tyX2 tyX2_ok zL_law_cl10 zL_law_iaX2 zL_law_iX2 rfl dvX2 (Nat.le_of_ble_eq_true rfl) (Nat.le_of_ble_eq_true rfl) dL_law_8 (fun q2 => ?_)
    refine g_dup F dL_law_11 rfl ?_
    refine g_callI F (st := [.ref q2]) ([] ++ XI cI cQ z) [(q2, .inr (2, [.null, .int 0, .null, .null, .null, .int 0, .int 0, .null, .null, .null, .null, .int 0, .long 0, .null, .null]))] (kX2_init l D cI cZ cQ q2) (cwI 0 F.2.2.2.2.1 gL_law_X2_init rfl rfl rfl (F.2.2.2.2.1 _ zL_law_iX2) (F.2.2.2.2.1 _ zL_law_l12) (F.2.2.2.2.1 _ zL_law_im2) rfl (by decide +kernel) ⟨Nat.le_of_ble_eq_true rfl, Nat.le_of_ble_eq_true rfl⟩) rfl (fun _ _ _ _ _ h => h) (fun _ _ _ => trivial) rfl (Nat.le_of_ble_eq_true rfl) ⟨Nat.le_of_ble_eq_true rfl, Nat.le_of_ble_eq_true rfl⟩ dL_law_12 (fun a ha => ?_)
    refine g_astore_n F (lv' := [(0, .ref b), (1, .ref q1), (2, .ref q2)]) dL_law_15 rfl (by decide) [1, 2, 0] rfl ?_
    refine g_iconst F (v := 0) dL_law_16 (by decide) ?_
    refine g_istore_n F (lv' := [(0, .ref b), (1, .ref q1), (2, .ref q2), (3, .int (nI (4 * 0)))]) dL_law_17 rfl (by decide) [1, 2, 3, 0] rfl ?_
    refine g_perm (List.perm_append_comm) ?_
    have hRi := rel_init (cI := cI) (cZ := cZ) (cQ := cQ) (a := a) hz
    have ha' : a 0 = q2 := ha
    rw [hz.1, ha'] at hRi
    exact law_loop F hO hX hbl hL hr hlocks 513 0 _ _ (by omega) (by omega) hRi
  have hl := lv_entry ([.ref b] : List Value) (n := 4) (Nat.le_of_ble_eq_true rfl)
  rw [lg_entry_eq]
  exact key s.heap [] _ (fun k q h => by simp at h) ⟨fun i j p q h => by simp at h, fun k q h => by simp at h⟩ va_S.rf hl
