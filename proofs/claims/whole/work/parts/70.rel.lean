def RelP (n G : Nat) (pa sl : Nat → Option Nat) (ac kb ln : Nat) (s1 : Row) (se : Nat) (f : Row) (pb qb : Nat → Nat → Nat) (pr qr : Nat → Row) (ix : Nat → Nat) (nw di : Row) (nx : Nat) (ke ik : Row) : Prop :=
  ln ≤ 60 ∧ se ≤ 6 ∧ (∀ j, j < se → s1 j = nI (s1 j).toNatClampNeg ∧ (s1 j).toNatClampNeg ≤ 60) ∧ ac ≤ 14 ∧ nx < 14 ∧ (∀ i, i < 14 → ix i < 14 ∧ pa i = some (pb (ix i) 0)) ∧ (∀ i j, i < 14 → j < 14 → ix i = ix j → i = j) ∧ (∀ i, i < 2 → sl i = some (qb i 0)) ∧ EK f nw ∧ Inv n G f ∧ (∀ i, i < ac → EK (pr (ix i)) (fun j => di (79 * ((nx + 14 - ac + i) % 14) + j)) ∧ Inv n G (pr (ix i))) ∧ kb < 4 ∧ (∀ k, k < 2 → (S_has (nI kb) (nI k) = true ↔ ¬ ik k = 0) ∧ (S_has (nI kb) (nI k) = true → EK (qr k) (fun j => ke (79 * k + j)) ∧ Inv n G (qr k))) ∧ 1 ≤ G
def RelW (cI cZ cQ : ClassId) (a0 x0 n G : Nat) (wM wX : va_W) : Prop := ∃ (x bn bt : Nat → Nat) (pa sl : Nat → Option Nat) (ac kb : Nat) (tx : Row) (ln : Nat) (s1 s2 : Row) (se : Nat) (sd : Int64) (sb f g : Row) (pb qb : Nat → Nat → Nat) (pr qr : Nat → Row) (ix a : Nat → Nat) (nw tr di : Row) (nx : Nat) (ke ik wo re : Row), wX = XW cI cQ x bn bt pa sl ac (nI kb) tx ln s1 s2 se sd sb f g (ZW cI pb pr qb qr) ∧ wM = MW cI cZ a tx ln nw tr di ac nx ke ik s1 s2 se sd wo re ∧ x 0 = x0 ∧ a 0 = a0 ∧ RelP n G pa sl ac kb ln s1 se f pb qb pr qr ix nw di nx ke ik
theorem RelW_mk {cI cZ cQ : ClassId} {n G : Nat} {x bn bt : Nat → Nat} {pa sl : Nat → Option Nat} {ac kb : Nat} {tx : Row} {ln : Nat} {s1 s2 : Row} {se : Nat} {sd : Int64} {sb f g : Row} {pb qb : Nat → Nat → Nat} {pr qr : Nat → Row} {ix a : Nat → Nat} {nw tr di : Row} {nx : Nat} {ke ik wo re : Row} (h : RelP n G pa sl ac kb ln s1 se f pb qb pr qr ix nw di nx ke ik) : RelW cI cZ cQ (a 0) (x 0) n G (MW cI cZ a tx ln nw tr di ac nx ke ik s1 s2 se sd wo re) (XW cI cQ x bn bt pa sl ac (nI kb) tx ln s1 s2 se sd sb f g (ZW cI pb pr qb qr)) := ⟨x, bn, bt, pa, sl, ac, kb, tx, ln, s1, s2, se, sd, sb, f, g, pb, qb, pr, qr, ix, a, nw, tr, di, nx, ke, ik, wo, re, rfl, rfl, rfl, rfl, h⟩
def Cl (l : Launch) (D : va_G) (tys : List (ClassId × FieldType)) (y : MethodName) (ws : List Cond) (av : List Value) (w : va_W) (rv : Option Value) (w' : va_W) : Prop := ∃ rm : Room, rm.frames ≤ 9 ∧ rm.locals ≤ 340 ∧ Ct l D tys y ws rm av w rv w'
theorem Cl_of {l : Launch} {D : va_G} {tys : List (ClassId × FieldType)} {y : MethodName} {ws : List Cond} {rm : Room} {av : List Value} {w : va_W} {rv : Option Value} {w' : va_W} (h : Ct l D tys y ws rm av w rv w') (h1 : rm.frames ≤ 9 := by decide) (h2 : rm.locals ≤ 340 := by decide) : Cl l D tys y ws av w rv w' := ⟨rm, h1, h2, h⟩
def SimR (l : Launch) (D : va_G) (cI cZ cQ : ClassId) (a0 x0 n G : Nat) (wM wX : va_W) (y1 : MethodName) (ws1 : List Cond) (y2 : MethodName) (ws2 : List Cond) (av : List Value) : Prop := ∃ (wM' wX' : va_W) (r : Int32), RelW cI cZ cQ a0 x0 (n + 40) (G + 1500) wM' wX' ∧ Cl l D (gTy cI cZ cQ) y1 ws1 (.ref x0 :: av) wX (some (.int r)) wX' ∧ Cl l D (gTy cI cZ cQ) y2 ws2 (.ref a0 :: av) wM (some (.int r)) wM'
theorem sim_mk {l : Launch} {D : va_G} {cI cZ cQ : ClassId} {a0 x0 n G : Nat} {wM wX wM' wX' : va_W} {y1 : MethodName} {ws1 : List Cond} {y2 : MethodName} {ws2 : List Cond} {av : List Value} {r r2 : Int32} (c1 : Cl l D (gTy cI cZ cQ) y1 ws1 (.ref x0 :: av) wX (some (.int r)) wX') (c2 : Cl l D (gTy cI cZ cQ) y2 ws2 (.ref a0 :: av) wM (some (.int r2)) wM') (e : r = r2) (h : RelW cI cZ cQ a0 x0 (n + 40) (G + 1500) wM' wX') : SimR l D cI cZ cQ a0 x0 n G wM wX y1 ws1 y2 ws2 av := ⟨wM', wX', r, h, c1, by rw [e]; exact c2⟩
def SimL (l : Launch) (D : va_G) (cI cZ cQ : ClassId) (a0 x0 n G : Nat) (wM wX : va_W) (y1 : MethodName) (ws1 : List Cond) (y2 : MethodName) (ws2 : List Cond) (av : List Value) : Prop := ∃ (wM' wX' : va_W) (r : Int64), RelW cI cZ cQ a0 x0 (n + 40) (G + 1500) wM' wX' ∧ Cl l D (gTy cI cZ cQ) y1 ws1 (.ref x0 :: av) wX (some (.long r)) wX' ∧ Cl l D (gTy cI cZ cQ) y2 ws2 (.ref a0 :: av) wM (some (.long r)) wM'
def S_rix (ix : Nat → Nat) (ac : Nat) : Nat → Nat := if ac < 14 then ix else fun i => if i < 13 then ix (i + 1) else if i = 13 then ix 0 else ix i
theorem ring_a {nx ac i : Nat} (h1 : nx < 14) (h2 : ac < 14) (h3 : i < ac) : ((nx + 1) % 14 + 14 - (ac + 1) + i) % 14 = (nx + 14 - ac + i) % 14 ∧ ¬ (nx + 14 - ac + i) % 14 = nx := by omega
theorem ring_b {nx ac : Nat} (h1 : nx < 14) (h2 : ac < 14) : ((nx + 1) % 14 + 14 - (ac + 1) + ac) % 14 = nx := by omega
theorem ring_c {nx i : Nat} (h1 : nx < 14) (h3 : i < 13) : ((nx + 1) % 14 + 14 - 14 + i) % 14 = (nx + 14 - 14 + (i + 1)) % 14 ∧ ¬ (nx + 14 - 14 + (i + 1)) % 14 = nx := by omega
theorem ring_d {nx : Nat} (h1 : nx < 14) : ((nx + 1) % 14 + 14 - 14 + 13) % 14 = nx := by omega
theorem ring_e {nx ac i : Nat} (h1 : nx < 14) (h0 : 0 < ac) (h2 : ac ≤ 14) (h3 : i < ac - 1) : ((nx + 13) % 14 + 14 - (ac - 1) + i) % 14 = (nx + 14 - ac + i) % 14 := by omega
theorem ring_f {nx ac : Nat} (h1 : nx < 14) (h0 : 0 < ac) (h2 : ac ≤ 14) : (nx + 14 - ac + (ac - 1)) % 14 = (nx + 13) % 14 := by omega
theorem row_other {di nw : Row} {p q j : Nat} (h : ¬ p = q) (hj : j < 79) : di (79 * p + j) = S_put di nw (79 * q) 79 (79 * p + j) := (S_put_out di nw (79 * q) 79 _ (by omega)).symm
theorem row_this {di nw : Row} {q j : Nat} (hj : j < 79) : nw j = S_put di nw (79 * q) 79 (79 * q + j) := (S_put_in di nw (79 * q) 79 j hj).symm
/-- an act is noted on both sides -/
theorem rel_note {n G n' G' : Nat} {pa sl : Nat → Option Nat} {ac kb ln : Nat} {s1 : Row} {se : Nat} {f : Row} {pb qb : Nat → Nat → Nat} {pr qr : Nat → Row} {ix : Nat → Nat} {nw di : Row} {nx : Nat} {ke ik : Row} (h : RelP n G pa sl ac kb ln s1 se f pb qb pr qr ix nw di nx ke ik) (hn : n ≤ n') (hG : G ≤ G') {f' nw' : Row} (hE : EK f' nw') (hI : Inv n' G' f') : RelP n' G' (S_rpa pa ac) sl (S_inc14 ac) kb ln s1 se f' pb qb (updR pr (S_rk ix ac) f) qr (S_rix ix ac) nw' (S_put di nw (79 * nx) 79) ((nx + 1) % 14) ke ik := by
  obtain ⟨hln, hse, hs, hac, hnx, hpa, hinj, hsl, hE0, hI0, hpast, hkb, hslot, hG1⟩ := h
  have hslotU : ∀ k, k < 2 → (S_has (nI kb) (nI k) = true ↔ ¬ ik k = 0) ∧ (S_has (nI kb) (nI k) = true → EK (qr k) (fun j => ke (79 * k + j)) ∧ Inv n' G' (qr k)) := fun k hk => ⟨(hslot k hk).1, fun q => ⟨((hslot k hk).2 q).1, ((hslot k hk).2 q).2.mono hn hG⟩⟩
  by_cases ha : ac < 14
  · unfold S_rpa S_inc14 S_rk S_rix
    rw [if_pos ha, if_pos ha, if_pos ha, if_pos ha]
    refine ⟨hln, hse, hs, by omega, Nat.mod_lt _ (by decide), hpa, hinj, hsl, hE, hI, fun i hi => ?_, hkb, hslotU, by omega⟩
    by_cases q : i = ac
    · subst q
      rw [updR_s, ring_b hnx ha]
      exact ⟨EK_congr hE0 (fun j hj => row_this hj), hI0.mono hn hG⟩
    · have hi2 : i < ac := by omega
      obtain ⟨r1, r2⟩ := ring_a hnx ha hi2
      rw [updR_n (fun z => q (hinj i ac (by omega) ha z)), r1]
      exact ⟨EK_congr (hpast i hi2).1 (fun j hj => row_other r2 hj), (hpast i hi2).2.mono hn hG⟩
  · have h14 : ac = 14 := by omega
    subst h14
    unfold S_rpa S_inc14 S_rk S_rix
    rw [if_neg ha, if_neg ha, if_neg ha, if_neg ha]
    refine ⟨hln, hse, hs, by omega, Nat.mod_lt _ (by decide), fun i hi => ?_, fun i j hi hj e => ?_, hsl, hE, hI, fun i hi => ?_, hkb, hslotU, by omega⟩
    · unfold rotF
      dsimp only
      by_cases q : i < 13
      · rw [if_pos q, if_pos q]; exact hpa (i + 1) (by omega)
      · rw [if_neg q, if_neg q, if_pos (by omega), if_pos (by omega)]; exact hpa 0 (by omega)
    · dsimp only at e
      by_cases q : i < 13
      · rw [if_pos q] at e
        by_cases z : j < 13
        · rw [if_pos z] at e
          have := hinj (i + 1) (j + 1) (by omega) (by omega) e
          omega
        · rw [if_neg z, if_pos (by omega)] at e
          have := hinj (i + 1) 0 (by omega) (by omega) e
          omega
      · rw [if_neg q, if_pos (by omega)] at e
        by_cases z : j < 13
        · rw [if_pos z] at e
          have := hinj 0 (j + 1) (by omega) (by omega) e
          omega
        · omega
    · dsimp only
      by_cases q : i < 13
      · obtain ⟨r1, r2⟩ := ring_c hnx q
        rw [if_pos q, updR_n (fun z => absurd (hinj (i + 1) 0 (by omega) (by omega) z) (by omega)), r1]
        exact ⟨EK_congr (hpast (i + 1) (by omega)).1 (fun j hj => row_other r2 hj), (hpast (i + 1) (by omega)).2.mono hn hG⟩
      · have hi13 : i = 13 := by omega
        subst hi13
        rw [if_neg q, if_pos rfl, updR_s, ring_d hnx]
        exact ⟨EK_congr hE0 (fun j hj => row_this hj), hI0.mono hn hG⟩
theorem Inv_sz {n G : Nat} {f : Row} {j z : Nat} (h : Inv n G f) (hj : j = 66 ∨ j = 67 ∨ j = 68) (h1 : 1 ≤ z) (h2 : z ≤ 9) : Inv n G (upd f j (nI z)) := by
  obtain ⟨hs, q, hq, e, hm⟩ := Inv_iff.mp h
  refine Inv_iff.mpr ⟨?_, q, hq, by rw [pk_un (by omega)]; exact e, fun k hk => ?_⟩
  · have hz : S19 (nI z) := ⟨z, h1, h2, rfl⟩
    unfold Sz
    rcases hj with rfl | rfl | rfl
    · rw [pk_us, pk_un (by decide), pk_un (by decide), pk_un (by decide)]; exact ⟨hz, hs.2⟩
    · rw [pk_us, pk_un (by decide), pk_un (by decide), pk_un (by decide)]; exact ⟨hs.1, hz, hs.2.2⟩
    · rw [pk_us, pk_un (by decide), pk_un (by decide), pk_un (by decide)]; exact ⟨hs.1, hs.2.1, hz, hs.2.2.2⟩
  · rw [pk_un (by omega), pk_un (by omega), pk_un (by omega), pk_un (by omega), pk_un (by omega)]
    exact hm k hk
theorem kb_or : ∀ kb, kb < 4 → ∀ k, k < 2 → nI kb ||| (1 <<< (nI k &&& 31)) = nI (kb ||| 2 ^ k) ∧ kb ||| 2 ^ k < 4 ∧ ∀ j, j < 2 → S_has (nI (kb ||| 2 ^ k)) (nI j) = (S_has (nI kb) (nI j) || decide (j = k)) := by decide +kernel
theorem lt_2 {v : Int32} : v < 2 ↔ v ≤ nI 1 := by
  rw [Int32.lt_iff_toInt_lt, Int32.le_iff_toInt_le, nI_toInt (by decide), show ((2 : Int32)).toInt = 2 from by decide]
  omega
theorem sim_write {l : Launch} {D : va_G} {cI cZ cQ : ClassId} {a0 x0 n G : Nat} {wM wX : va_W} (hR : RelW cI cZ cQ a0 x0 n G wM wX) (hn1 : 600 ≤ n) (hn2 : n ≤ 30000) (hG1 : 20000 ≤ G) (hG2 : G ≤ 900000) (v : Int32) : SimR l D cI cZ cQ a0 x0 n G wM wX yX1_write wsX1_write yX2_write wsX2_write [.int v] := by
  obtain ⟨x, bn, bt, pa, sl, ac, kb, tx, ln, s1, s2, se, sd, sb, f, g, pb, qb, pr, qr, ix, a, nw, tr, di, nx, ke, ik, wo, re, rfl, rfl, rfl, rfl, hP⟩ := hR
  obtain ⟨hln, hse, hs, hac, hnx, hpa, hinj, hsl, hE, hI, hpast, hkb, hslot, hG⟩ := id hP
  have hIU : Inv (n + 40) (G + 1500) f := hI.mono (by omega) (by omega)
  have hpastU : ∀ i, i < ac → EK (pr (ix i)) (fun j => di (79 * ((nx + 14 - ac + i) % 14) + j)) ∧ Inv (n + 40) (G + 1500) (pr (ix i)) := fun i hi => ⟨(hpast i hi).1, (hpast i hi).2.mono (by omega) (by omega)⟩
  have hslotU : ∀ k, k < 2 → (S_has (nI kb) (nI k) = true ↔ ¬ ik k = 0) ∧ (S_has (nI kb) (nI k) = true → EK (qr k) (fun j => ke (79 * k + j)) ∧ Inv (n + 40) (G + 1500) (qr k)) := fun k hk => ⟨(hslot k hk).1, fun q => ⟨((hslot k hk).2 q).1, ((hslot k hk).2 q).2.mono (by omega) (by omega)⟩⟩
  have hz : Z67 nw := by
    have h := hI.z
    unfold Z67 at h ⊢
    rw [← hE.lo (j := 67) (by omega)]
    exact h
  by_cases hb : ¬ v < 0 ∧ v ≤ 255
  · by_cases hl : ln < 60
    exact sim_mk (Cl_of (kX1_write_ok _ _ _ _ _ _ _ _ _ _ _ _ _ _ _ _ _ _ _ _ _ _ v hb hl)) (Cl_of (kX2_write_ok _ _ _ _ _ _ _ _ _ _ _ _ _ _ _ _ _ _ _ _ _ v ((in_t (lo := 0) (hi := 255) (by decide) (by decide)).mpr hb) hl)) rfl (RelW_mk ⟨by omega, hse, hs, hac, hnx, hpa, hinj, hsl, hE, hIU, hpastU, hkb, hslotU, by omega⟩)
    · have hl6 : ln = 60 := by omega
      exact sim_mk (Cl_of (kX1_write_full _ _ _ _ _ _ _ _ _ _ _ _ _ _ _ _ _ _ _ _ _ _ v hb hl6)) (Cl_of (kX2_write_full _ _ _ _ _ _ _ _ _ _ _ _ _ _ _ _ _ _ _ _ _ v ((in_t (lo := 0) (hi := 255) (by decide) (by decide)).mpr hb) hl6)) rfl (RelW_mk ⟨hln, hse, hs, hac, hnx, hpa, hinj, hsl, hE, hIU, hpastU, hkb, hslotU, by omega⟩)
  · exact sim_mk (Cl_of (kX1_write_bad _ _ _ _ _ _ _ _ _ _ _ _ _ _ _ _ _ _ _ _ _ _ v hb)) (Cl_of (kX2_write_bad _ _ _ _ _ _ _ _ _ _ _ _ _ _ _ _ _ _ _ _ _ v ((in_f (lo := 0) (hi := 255) (by decide) (by decide)).mpr hb))) rfl (RelW_mk ⟨hln, hse, hs, hac, hnx, hpa, hinj, hsl, hE, hIU, hpastU, hkb, hslotU, by omega⟩)

theorem sim_wipe {l : Launch} {D : va_G} {cI cZ cQ : ClassId} {a0 x0 n G : Nat} {wM wX : va_W} (hR : RelW cI cZ cQ a0 x0 n G wM wX) (hn1 : 600 ≤ n) (hn2 : n ≤ 30000) (hG1 : 20000 ≤ G) (hG2 : G ≤ 900000)  : SimR l D cI cZ cQ a0 x0 n G wM wX yX1_wipe wsX1_wipe yX2_wipe wsX2_wipe [] := by
  obtain ⟨x, bn, bt, pa, sl, ac, kb, tx, ln, s1, s2, se, sd, sb, f, g, pb, qb, pr, qr, ix, a, nw, tr, di, nx, ke, ik, wo, re, rfl, rfl, rfl, rfl, hP⟩ := hR
  obtain ⟨hln, hse, hs, hac, hnx, hpa, hinj, hsl, hE, hI, hpast, hkb, hslot, hG⟩ := id hP
  have hIU : Inv (n + 40) (G + 1500) f := hI.mono (by omega) (by omega)
  have hpastU : ∀ i, i < ac → EK (pr (ix i)) (fun j => di (79 * ((nx + 14 - ac + i) % 14) + j)) ∧ Inv (n + 40) (G + 1500) (pr (ix i)) := fun i hi => ⟨(hpast i hi).1, (hpast i hi).2.mono (by omega) (by omega)⟩
  have hslotU : ∀ k, k < 2 → (S_has (nI kb) (nI k) = true ↔ ¬ ik k = 0) ∧ (S_has (nI kb) (nI k) = true → EK (qr k) (fun j => ke (79 * k + j)) ∧ Inv (n + 40) (G + 1500) (qr k)) := fun k hk => ⟨(hslot k hk).1, fun q => ⟨((hslot k hk).2 q).1, ((hslot k hk).2 q).2.mono (by omega) (by omega)⟩⟩
  have hz : Z67 nw := by
    have h := hI.z
    unfold Z67 at h ⊢
    rw [← hE.lo (j := 67) (by omega)]
    exact h
  exact sim_mk (Cl_of (kX1_wipe _ _ _ _ _ _ _ _ _ _ _ _ _ _ _ _ _ _ _ _ _ _ )) (Cl_of (kX2_wipe _ _ _ _ _ _ _ _ _ _ _ _ _ _ _ _ _ _ _ _ _ )) rfl (RelW_mk ⟨by omega, hse, hs, hac, hnx, hpa, hinj, hsl, hE, hIU, hpastU, hkb, hslotU, by omega⟩)

theorem sim_unsee {l : Launch} {D : va_G} {cI cZ cQ : ClassId} {a0 x0 n G : Nat} {wM wX : va_W} (hR : RelW cI cZ cQ a0 x0 n G wM wX) (hn1 : 600 ≤ n) (hn2 : n ≤ 30000) (hG1 : 20000 ≤ G) (hG2 : G ≤ 900000)  : SimR l D cI cZ cQ a0 x0 n G wM wX yX1_unsee wsX1_unsee yX2_unsee wsX2_unsee [] := by
  obtain ⟨x, bn, bt, pa, sl, ac, kb, tx, ln, s1, s2, se, sd, sb, f, g, pb, qb, pr, qr, ix, a, nw, tr, di, nx, ke, ik, wo, re, rfl, rfl, rfl, rfl, hP⟩ := hR
  obtain ⟨hln, hse, hs, hac, hnx, hpa, hinj, hsl, hE, hI, hpast, hkb, hslot, hG⟩ := id hP
  have hIU : Inv (n + 40) (G + 1500) f := hI.mono (by omega) (by omega)
  have hpastU : ∀ i, i < ac → EK (pr (ix i)) (fun j => di (79 * ((nx + 14 - ac + i) % 14) + j)) ∧ Inv (n + 40) (G + 1500) (pr (ix i)) := fun i hi => ⟨(hpast i hi).1, (hpast i hi).2.mono (by omega) (by omega)⟩
  have hslotU : ∀ k, k < 2 → (S_has (nI kb) (nI k) = true ↔ ¬ ik k = 0) ∧ (S_has (nI kb) (nI k) = true → EK (qr k) (fun j => ke (79 * k + j)) ∧ Inv (n + 40) (G + 1500) (qr k)) := fun k hk => ⟨(hslot k hk).1, fun q => ⟨((hslot k hk).2 q).1, ((hslot k hk).2 q).2.mono (by omega) (by omega)⟩⟩
  have hz : Z67 nw := by
    have h := hI.z
    unfold Z67 at h ⊢
    rw [← hE.lo (j := 67) (by omega)]
    exact h
  exact sim_mk (Cl_of (kX1_unsee _ _ _ _ _ _ _ _ _ _ _ _ _ _ _ _ _ _ _ _ _ _ )) (Cl_of (kX2_unsee _ _ _ _ _ _ _ _ _ _ _ _ _ _ _ _ _ _ _ _ _ )) rfl (RelW_mk ⟨hln, by omega, fun j hj => absurd hj (by omega), hac, hnx, hpa, hinj, hsl, hE, hIU, hpastU, hkb, hslotU, by omega⟩)

theorem sim_seed {l : Launch} {D : va_G} {cI cZ cQ : ClassId} {a0 x0 n G : Nat} {wM wX : va_W} (hR : RelW cI cZ cQ a0 x0 n G wM wX) (hn1 : 600 ≤ n) (hn2 : n ≤ 30000) (hG1 : 20000 ≤ G) (hG2 : G ≤ 900000) (v : Int64) : SimL l D cI cZ cQ a0 x0 n G wM wX yX1_seed wsX1_seed yX2_seed wsX2_seed [.long v] := by
  obtain ⟨x, bn, bt, pa, sl, ac, kb, tx, ln, s1, s2, se, sd, sb, f, g, pb, qb, pr, qr, ix, a, nw, tr, di, nx, ke, ik, wo, re, rfl, rfl, rfl, rfl, hP⟩ := hR
  obtain ⟨hln, hse, hs, hac, hnx, hpa, hinj, hsl, hE, hI, hpast, hkb, hslot, hG⟩ := id hP
  have hIU : Inv (n + 40) (G + 1500) f := hI.mono (by omega) (by omega)
  have hpastU : ∀ i, i < ac → EK (pr (ix i)) (fun j => di (79 * ((nx + 14 - ac + i) % 14) + j)) ∧ Inv (n + 40) (G + 1500) (pr (ix i)) := fun i hi => ⟨(hpast i hi).1, (hpast i hi).2.mono (by omega) (by omega)⟩
  have hslotU : ∀ k, k < 2 → (S_has (nI kb) (nI k) = true ↔ ¬ ik k = 0) ∧ (S_has (nI kb) (nI k) = true → EK (qr k) (fun j => ke (79 * k + j)) ∧ Inv (n + 40) (G + 1500) (qr k)) := fun k hk => ⟨(hslot k hk).1, fun q => ⟨((hslot k hk).2 q).1, ((hslot k hk).2 q).2.mono (by omega) (by omega)⟩⟩
  have hz : Z67 nw := by
    have h := hI.z
    unfold Z67 at h ⊢
    rw [← hE.lo (j := 67) (by omega)]
    exact h
  exact ⟨_, _, _, RelW_mk ⟨hln, hse, hs, hac, hnx, hpa, hinj, hsl, hE, hIU, hpastU, hkb, hslotU, by omega⟩, Cl_of (kX1_seed _ _ _ _ _ _ _ _ _ _ _ _ _ _ _ _ _ _ _ _ _ _ v), Cl_of (kX2_seed _ _ _ _ _ _ _ _ _ _ _ _ _ _ _ _ _ _ _ _ _ v)⟩
theorem sim_fault {l : Launch} {D : va_G} {cI cZ cQ : ClassId} {a0 x0 n G : Nat} {wM wX : va_W} (hR : RelW cI cZ cQ a0 x0 n G wM wX) (hn1 : 600 ≤ n) (hn2 : n ≤ 30000) (hG1 : 20000 ≤ G) (hG2 : G ≤ 900000)  : SimR l D cI cZ cQ a0 x0 n G wM wX yX1_fault wsX1_fault yX2_fault wsX2_fault [] := by
  obtain ⟨x, bn, bt, pa, sl, ac, kb, tx, ln, s1, s2, se, sd, sb, f, g, pb, qb, pr, qr, ix, a, nw, tr, di, nx, ke, ik, wo, re, rfl, rfl, rfl, rfl, hP⟩ := hR
  obtain ⟨hln, hse, hs, hac, hnx, hpa, hinj, hsl, hE, hI, hpast, hkb, hslot, hG⟩ := id hP
  have hIU : Inv (n + 40) (G + 1500) f := hI.mono (by omega) (by omega)
  have hpastU : ∀ i, i < ac → EK (pr (ix i)) (fun j => di (79 * ((nx + 14 - ac + i) % 14) + j)) ∧ Inv (n + 40) (G + 1500) (pr (ix i)) := fun i hi => ⟨(hpast i hi).1, (hpast i hi).2.mono (by omega) (by omega)⟩
  have hslotU : ∀ k, k < 2 → (S_has (nI kb) (nI k) = true ↔ ¬ ik k = 0) ∧ (S_has (nI kb) (nI k) = true → EK (qr k) (fun j => ke (79 * k + j)) ∧ Inv (n + 40) (G + 1500) (qr k)) := fun k hk => ⟨(hslot k hk).1, fun q => ⟨((hslot k hk).2 q).1, ((hslot k hk).2 q).2.mono (by omega) (by omega)⟩⟩
  have hz : Z67 nw := by
    have h := hI.z
    unfold Z67 at h ⊢
    rw [← hE.lo (j := 67) (by omega)]
    exact h
  exact sim_mk (Cl_of (kX1_fault _ _ _ _ _ _ _ _ _ _ _ _ _ _ _ _ _ _ _ _ _ _ hln)) (Cl_of (kX2_fault _ _ _ _ _ _ _ _ _ _ _ _ _ _ _ _ _ _ _ _ _ hln)) (by first | (rw [(read_eq (g := g) hln).1]; done) | (rw [(read_eq (g := g) hln).1]; rfl)) (RelW_mk ⟨hln, hse, hs, hac, hnx, hpa, hinj, hsl, hE, hIU, hpastU, hkb, hslotU, by omega⟩)

theorem sim_meeting {l : Launch} {D : va_G} {cI cZ cQ : ClassId} {a0 x0 n G : Nat} {wM wX : va_W} (hR : RelW cI cZ cQ a0 x0 n G wM wX) (hn1 : 600 ≤ n) (hn2 : n ≤ 30000) (hG1 : 20000 ≤ G) (hG2 : G ≤ 900000)  : SimR l D cI cZ cQ a0 x0 n G wM wX yX1_meeting wsX1_meeting yX2_meeting wsX2_meeting [] := by
  obtain ⟨x, bn, bt, pa, sl, ac, kb, tx, ln, s1, s2, se, sd, sb, f, g, pb, qb, pr, qr, ix, a, nw, tr, di, nx, ke, ik, wo, re, rfl, rfl, rfl, rfl, hP⟩ := hR
  obtain ⟨hln, hse, hs, hac, hnx, hpa, hinj, hsl, hE, hI, hpast, hkb, hslot, hG⟩ := id hP
  have hIU : Inv (n + 40) (G + 1500) f := hI.mono (by omega) (by omega)
  have hpastU : ∀ i, i < ac → EK (pr (ix i)) (fun j => di (79 * ((nx + 14 - ac + i) % 14) + j)) ∧ Inv (n + 40) (G + 1500) (pr (ix i)) := fun i hi => ⟨(hpast i hi).1, (hpast i hi).2.mono (by omega) (by omega)⟩
  have hslotU : ∀ k, k < 2 → (S_has (nI kb) (nI k) = true ↔ ¬ ik k = 0) ∧ (S_has (nI kb) (nI k) = true → EK (qr k) (fun j => ke (79 * k + j)) ∧ Inv (n + 40) (G + 1500) (qr k)) := fun k hk => ⟨(hslot k hk).1, fun q => ⟨((hslot k hk).2 q).1, ((hslot k hk).2 q).2.mono (by omega) (by omega)⟩⟩
  have hz : Z67 nw := by
    have h := hI.z
    unfold Z67 at h ⊢
    rw [← hE.lo (j := 67) (by omega)]
    exact h
  obtain ⟨e1, e2⟩ := read_eq (tx := tx) (g := g) hln
  by_cases h : (S_readC tx ln g).1 = -9
  · obtain ⟨hE2, hI2⟩ := e2 h
    have h2 : (S_read tx ln).1 = -9 := by rw [← e1]; exact h
    refine sim_mk (Cl_of (kX1_meeting_ok _ _ _ _ _ _ _ _ _ _ _ _ _ _ _ _ _ _ _ _ _ _ hln h)) (Cl_of (kX2_meeting_ok _ _ _ _ _ _ _ _ _ _ _ _ _ _ _ _ _ _ _ _ _ hln h2)) (by rw [hE2.lo (j := 70) (by omega)]) (RelW_mk (kb := 0) ⟨hln, hse, hs, Nat.zero_le _, hnx, hpa, hinj, hsl, hE2, hI2.mono (by omega) (by omega), fun i hi => absurd hi (by omega), by omega, fun k hk => ?_, by omega⟩)
    have hf : S_has (nI 0) (nI k) = false := (by decide : ∀ k, k < 6 → S_has 0 (nI k) = false) k (by omega)
    have h0 : upd (upd ik 0 0) 1 0 k = 0 := by
      rcases (show k = 0 ∨ k = 1 by omega) with rfl | rfl
      · rw [pk_un (by decide), pk_us]
      · rw [pk_us]
    rw [hf]
    exact ⟨⟨fun q => absurd q Bool.false_ne_true, fun q => absurd h0 q⟩, fun q => absurd q Bool.false_ne_true⟩
  · have h2 : ¬ (S_read tx ln).1 = -9 := by rw [← e1]; exact h
    exact sim_mk (Cl_of (kX1_meeting_late _ _ _ _ _ _ _ _ _ _ _ _ _ _ _ _ _ _ _ _ _ _ hln h)) (Cl_of (kX2_meeting_late _ _ _ _ _ _ _ _ _ _ _ _ _ _ _ _ _ _ _ _ _ hln h2)) rfl (RelW_mk ⟨hln, hse, hs, hac, hnx, hpa, hinj, hsl, hE, hIU, hpastU, hkb, hslotU, by omega⟩)

theorem sim_about {l : Launch} {D : va_G} {cI cZ cQ : ClassId} {a0 x0 n G : Nat} {wM wX : va_W} (hR : RelW cI cZ cQ a0 x0 n G wM wX) (hn1 : 600 ≤ n) (hn2 : n ≤ 30000) (hG1 : 20000 ≤ G) (hG2 : G ≤ 900000) (u : Int32) : SimR l D cI cZ cQ a0 x0 n G wM wX yX1_about wsX1_about yX2_about wsX2_about [.int u] := by
  obtain ⟨x, bn, bt, pa, sl, ac, kb, tx, ln, s1, s2, se, sd, sb, f, g, pb, qb, pr, qr, ix, a, nw, tr, di, nx, ke, ik, wo, re, rfl, rfl, rfl, rfl, hP⟩ := hR
  obtain ⟨hln, hse, hs, hac, hnx, hpa, hinj, hsl, hE, hI, hpast, hkb, hslot, hG⟩ := id hP
  have hIU : Inv (n + 40) (G + 1500) f := hI.mono (by omega) (by omega)
  have hpastU : ∀ i, i < ac → EK (pr (ix i)) (fun j => di (79 * ((nx + 14 - ac + i) % 14) + j)) ∧ Inv (n + 40) (G + 1500) (pr (ix i)) := fun i hi => ⟨(hpast i hi).1, (hpast i hi).2.mono (by omega) (by omega)⟩
  have hslotU : ∀ k, k < 2 → (S_has (nI kb) (nI k) = true ↔ ¬ ik k = 0) ∧ (S_has (nI kb) (nI k) = true → EK (qr k) (fun j => ke (79 * k + j)) ∧ Inv (n + 40) (G + 1500) (qr k)) := fun k hk => ⟨(hslot k hk).1, fun q => ⟨((hslot k hk).2 q).1, ((hslot k hk).2 q).2.mono (by omega) (by omega)⟩⟩
  have hz : Z67 nw := by
    have h := hI.z
    unfold Z67 at h ⊢
    rw [← hE.lo (j := 67) (by omega)]
    exact h
  by_cases h9 : u = 9
  · subst h9
    exact sim_mk (Cl_of (kX1_about_9 _ _ _ _ _ _ _ _ _ _ _ _ _ _ _ _ _ _ _ _ _ _ n G hI (by omega) (by omega))) (Cl_of (kX2_about_9 _ _ _ _ _ _ _ _ _ _ _ _ _ _ _ _ _ _ _ _ _ hz)) (by first | (rw [e_rest hE 100 0]; done) | (rw [e_rest hE 100 0]; rfl)) (RelW_mk ⟨hln, hse, hs, hac, hnx, hpa, hinj, hsl, hE, hIU, hpastU, hkb, hslotU, by omega⟩)
  · exact sim_mk (Cl_of (kX1_about_o _ _ _ _ _ _ _ _ _ _ _ _ _ _ _ _ _ _ _ _ _ _ u h9)) (Cl_of (kX2_about_o _ _ _ _ _ _ _ _ _ _ _ _ _ _ _ _ _ _ _ _ _ u h9)) (by first | (rw [e_about hE]; done) | (rw [e_about hE]; rfl)) (RelW_mk ⟨hln, hse, hs, hac, hnx, hpa, hinj, hsl, hE, hIU, hpastU, hkb, hslotU, by omega⟩)

theorem sim_member {l : Launch} {D : va_G} {cI cZ cQ : ClassId} {a0 x0 n G : Nat} {wM wX : va_W} (hR : RelW cI cZ cQ a0 x0 n G wM wX) (hn1 : 600 ≤ n) (hn2 : n ≤ 30000) (hG1 : 20000 ≤ G) (hG2 : G ≤ 900000) (v u : Int32) : SimR l D cI cZ cQ a0 x0 n G wM wX yX1_member wsX1_member yX2_member wsX2_member [.int v, .int u] := by
  obtain ⟨x, bn, bt, pa, sl, ac, kb, tx, ln, s1, s2, se, sd, sb, f, g, pb, qb, pr, qr, ix, a, nw, tr, di, nx, ke, ik, wo, re, rfl, rfl, rfl, rfl, hP⟩ := hR
  obtain ⟨hln, hse, hs, hac, hnx, hpa, hinj, hsl, hE, hI, hpast, hkb, hslot, hG⟩ := id hP
  have hIU : Inv (n + 40) (G + 1500) f := hI.mono (by omega) (by omega)
  have hpastU : ∀ i, i < ac → EK (pr (ix i)) (fun j => di (79 * ((nx + 14 - ac + i) % 14) + j)) ∧ Inv (n + 40) (G + 1500) (pr (ix i)) := fun i hi => ⟨(hpast i hi).1, (hpast i hi).2.mono (by omega) (by omega)⟩
  have hslotU : ∀ k, k < 2 → (S_has (nI kb) (nI k) = true ↔ ¬ ik k = 0) ∧ (S_has (nI kb) (nI k) = true → EK (qr k) (fun j => ke (79 * k + j)) ∧ Inv (n + 40) (G + 1500) (qr k)) := fun k hk => ⟨(hslot k hk).1, fun q => ⟨((hslot k hk).2 q).1, ((hslot k hk).2 q).2.mono (by omega) (by omega)⟩⟩
  have hz : Z67 nw := by
    have h := hI.z
    unfold Z67 at h ⊢
    rw [← hE.lo (j := 67) (by omega)]
    exact h
  cases hm : S_mem v with
  | false =>
    exact sim_mk (Cl_of (kX1_member_bad _ _ _ _ _ _ _ _ _ _ _ _ _ _ _ _ _ _ _ _ _ _ v u hm)) (Cl_of (kX2_member_bad _ _ _ _ _ _ _ _ _ _ _ _ _ _ _ _ _ _ _ _ _ v u (isM_mem.trans hm))) rfl (RelW_mk ⟨hln, hse, hs, hac, hnx, hpa, hinj, hsl, hE, hIU, hpastU, hkb, hslotU, by omega⟩)
  | true =>
    obtain ⟨k, hk, e⟩ := mem_ex hm
    subst e
    exact sim_mk (Cl_of (kX1_member_ok _ _ _ _ _ _ _ _ _ _ _ _ _ _ _ _ _ _ _ _ _ _ k u hk hI.kn)) (Cl_of (kX2_member_ok _ _ _ _ _ _ _ _ _ _ _ _ _ _ _ _ _ _ _ _ _ k u hk)) (by first | (rw [e_member hE hk]; done) | (rw [e_member hE hk]; rfl)) (RelW_mk ⟨hln, hse, hs, hac, hnx, hpa, hinj, hsl, hE, hIU, hpastU, hkb, hslotU, by omega⟩)

theorem sim_heard {l : Launch} {D : va_G} {cI cZ cQ : ClassId} {a0 x0 n G : Nat} {wM wX : va_W} (hR : RelW cI cZ cQ a0 x0 n G wM wX) (hn1 : 600 ≤ n) (hn2 : n ≤ 30000) (hG1 : 20000 ≤ G) (hG2 : G ≤ 900000) (v u : Int32) : SimR l D cI cZ cQ a0 x0 n G wM wX yX1_heard wsX1_heard yX2_heard wsX2_heard [.int v, .int u] := by
  obtain ⟨x, bn, bt, pa, sl, ac, kb, tx, ln, s1, s2, se, sd, sb, f, g, pb, qb, pr, qr, ix, a, nw, tr, di, nx, ke, ik, wo, re, rfl, rfl, rfl, rfl, hP⟩ := hR
  obtain ⟨hln, hse, hs, hac, hnx, hpa, hinj, hsl, hE, hI, hpast, hkb, hslot, hG⟩ := id hP
  have hIU : Inv (n + 40) (G + 1500) f := hI.mono (by omega) (by omega)
  have hpastU : ∀ i, i < ac → EK (pr (ix i)) (fun j => di (79 * ((nx + 14 - ac + i) % 14) + j)) ∧ Inv (n + 40) (G + 1500) (pr (ix i)) := fun i hi => ⟨(hpast i hi).1, (hpast i hi).2.mono (by omega) (by omega)⟩
  have hslotU : ∀ k, k < 2 → (S_has (nI kb) (nI k) = true ↔ ¬ ik k = 0) ∧ (S_has (nI kb) (nI k) = true → EK (qr k) (fun j => ke (79 * k + j)) ∧ Inv (n + 40) (G + 1500) (qr k)) := fun k hk => ⟨(hslot k hk).1, fun q => ⟨((hslot k hk).2 q).1, ((hslot k hk).2 q).2.mono (by omega) (by omega)⟩⟩
  have hz : Z67 nw := by
    have h := hI.z
    unfold Z67 at h ⊢
    rw [← hE.lo (j := 67) (by omega)]
    exact h
  cases hm : S_mem v with
  | false =>
    exact sim_mk (Cl_of (kX1_heard_bad _ _ _ _ _ _ _ _ _ _ _ _ _ _ _ _ _ _ _ _ _ _ v u (Or.inl hm))) (Cl_of (kX2_heard_bad _ _ _ _ _ _ _ _ _ _ _ _ _ _ _ _ _ _ _ _ _ v u (Or.inl (isM_mem.trans hm)))) rfl (RelW_mk ⟨hln, hse, hs, hac, hnx, hpa, hinj, hsl, hE, hIU, hpastU, hkb, hslotU, by omega⟩)
  | true =>
    cases hm2 : S_mem u with
    | false =>
      exact sim_mk (Cl_of (kX1_heard_bad _ _ _ _ _ _ _ _ _ _ _ _ _ _ _ _ _ _ _ _ _ _ v u (Or.inr hm2))) (Cl_of (kX2_heard_bad _ _ _ _ _ _ _ _ _ _ _ _ _ _ _ _ _ _ _ _ _ v u (Or.inr (isM_mem.trans hm2)))) rfl (RelW_mk ⟨hln, hse, hs, hac, hnx, hpa, hinj, hsl, hE, hIU, hpastU, hkb, hslotU, by omega⟩)
    | true =>
      obtain ⟨k, hk, e⟩ := mem_ex hm
      obtain ⟨j, hj, e2⟩ := mem_ex hm2
      subst e e2
      exact sim_mk (Cl_of (kX1_heard_ok _ _ _ _ _ _ _ _ _ _ _ _ _ _ _ _ _ _ _ _ _ _ k j hk hj)) (Cl_of (kX2_heard_ok _ _ _ _ _ _ _ _ _ _ _ _ _ _ _ _ _ _ _ _ _ k j hk hj)) (by first | (rw [e_heard hE hk hj]; done) | (rw [e_heard hE hk hj]; rfl)) (RelW_mk ⟨hln, hse, hs, hac, hnx, hpa, hinj, hsl, hE, hIU, hpastU, hkb, hslotU, by omega⟩)

theorem sim_way {l : Launch} {D : va_G} {cI cZ cQ : ClassId} {a0 x0 n G : Nat} {wM wX : va_W} (hR : RelW cI cZ cQ a0 x0 n G wM wX) (hn1 : 600 ≤ n) (hn2 : n ≤ 30000) (hG1 : 20000 ≤ G) (hG2 : G ≤ 900000) (v u : Int32) : SimR l D cI cZ cQ a0 x0 n G wM wX yX1_way wsX1_way yX2_way wsX2_way [.int v, .int u] := by
  obtain ⟨x, bn, bt, pa, sl, ac, kb, tx, ln, s1, s2, se, sd, sb, f, g, pb, qb, pr, qr, ix, a, nw, tr, di, nx, ke, ik, wo, re, rfl, rfl, rfl, rfl, hP⟩ := hR
  obtain ⟨hln, hse, hs, hac, hnx, hpa, hinj, hsl, hE, hI, hpast, hkb, hslot, hG⟩ := id hP
  have hIU : Inv (n + 40) (G + 1500) f := hI.mono (by omega) (by omega)
  have hpastU : ∀ i, i < ac → EK (pr (ix i)) (fun j => di (79 * ((nx + 14 - ac + i) % 14) + j)) ∧ Inv (n + 40) (G + 1500) (pr (ix i)) := fun i hi => ⟨(hpast i hi).1, (hpast i hi).2.mono (by omega) (by omega)⟩
  have hslotU : ∀ k, k < 2 → (S_has (nI kb) (nI k) = true ↔ ¬ ik k = 0) ∧ (S_has (nI kb) (nI k) = true → EK (qr k) (fun j => ke (79 * k + j)) ∧ Inv (n + 40) (G + 1500) (qr k)) := fun k hk => ⟨(hslot k hk).1, fun q => ⟨((hslot k hk).2 q).1, ((hslot k hk).2 q).2.mono (by omega) (by omega)⟩⟩
  have hz : Z67 nw := by
    have h := hI.z
    unfold Z67 at h ⊢
    rw [← hE.lo (j := 67) (by omega)]
    exact h
  cases hm : S_mem v with
  | false =>
    exact sim_mk (Cl_of (kX1_way_bad _ _ _ _ _ _ _ _ _ _ _ _ _ _ _ _ _ _ _ _ _ _ v u (Or.inl hm))) (Cl_of (kX2_way_bad _ _ _ _ _ _ _ _ _ _ _ _ _ _ _ _ _ _ _ _ _ v u (Or.inl (isM_mem.trans hm)))) rfl (RelW_mk ⟨hln, hse, hs, hac, hnx, hpa, hinj, hsl, hE, hIU, hpastU, hkb, hslotU, by omega⟩)
  | true =>
    cases hm2 : S_mem u with
    | false =>
      exact sim_mk (Cl_of (kX1_way_bad _ _ _ _ _ _ _ _ _ _ _ _ _ _ _ _ _ _ _ _ _ _ v u (Or.inr hm2))) (Cl_of (kX2_way_bad _ _ _ _ _ _ _ _ _ _ _ _ _ _ _ _ _ _ _ _ _ v u (Or.inr (isM_mem.trans hm2)))) rfl (RelW_mk ⟨hln, hse, hs, hac, hnx, hpa, hinj, hsl, hE, hIU, hpastU, hkb, hslotU, by omega⟩)
    | true =>
      obtain ⟨k, hk, e⟩ := mem_ex hm
      obtain ⟨j, hj, e2⟩ := mem_ex hm2
      subst e e2
      by_cases hkj : k = j
      · subst hkj
        exact sim_mk (Cl_of (kX1_way_same _ _ _ _ _ _ _ _ _ _ _ _ _ _ _ _ _ _ _ _ _ _ k hk)) (Cl_of (kX2_way_same _ _ _ _ _ _ _ _ _ _ _ _ _ _ _ _ _ _ _ _ _ k hk)) rfl (RelW_mk ⟨hln, hse, hs, hac, hnx, hpa, hinj, hsl, hE, hIU, hpastU, hkb, hslotU, by omega⟩)
      · exact sim_mk (Cl_of (kX1_way_ok _ _ _ _ _ _ _ _ _ _ _ _ _ _ _ _ _ _ _ _ _ _ k j hk hj hkj)) (Cl_of (kX2_way_ok _ _ _ _ _ _ _ _ _ _ _ _ _ _ _ _ _ _ _ _ _ k j hk hj hkj)) (by first | (rw [e_way hE hk]; done) | (rw [e_way hE hk]; rfl)) (RelW_mk ⟨hln, hse, hs, hac, hnx, hpa, hinj, hsl, hE, hIU, hpastU, hkb, hslotU, by omega⟩)

theorem sim_join {l : Launch} {D : va_G} {cI cZ cQ : ClassId} {a0 x0 n G : Nat} {wM wX : va_W} (hR : RelW cI cZ cQ a0 x0 n G wM wX) (hn1 : 600 ≤ n) (hn2 : n ≤ 30000) (hG1 : 20000 ≤ G) (hG2 : G ≤ 900000) (v : Int32) : SimR l D cI cZ cQ a0 x0 n G wM wX yX1_join wsX1_join yX2_join wsX2_join [.int v] := by
  obtain ⟨x, bn, bt, pa, sl, ac, kb, tx, ln, s1, s2, se, sd, sb, f, g, pb, qb, pr, qr, ix, a, nw, tr, di, nx, ke, ik, wo, re, rfl, rfl, rfl, rfl, hP⟩ := hR
  obtain ⟨hln, hse, hs, hac, hnx, hpa, hinj, hsl, hE, hI, hpast, hkb, hslot, hG⟩ := id hP
  have hIU : Inv (n + 40) (G + 1500) f := hI.mono (by omega) (by omega)
  have hpastU : ∀ i, i < ac → EK (pr (ix i)) (fun j => di (79 * ((nx + 14 - ac + i) % 14) + j)) ∧ Inv (n + 40) (G + 1500) (pr (ix i)) := fun i hi => ⟨(hpast i hi).1, (hpast i hi).2.mono (by omega) (by omega)⟩
  have hslotU : ∀ k, k < 2 → (S_has (nI kb) (nI k) = true ↔ ¬ ik k = 0) ∧ (S_has (nI kb) (nI k) = true → EK (qr k) (fun j => ke (79 * k + j)) ∧ Inv (n + 40) (G + 1500) (qr k)) := fun k hk => ⟨(hslot k hk).1, fun q => ⟨((hslot k hk).2 q).1, ((hslot k hk).2 q).2.mono (by omega) (by omega)⟩⟩
  have hz : Z67 nw := by
    have h := hI.z
    unfold Z67 at h ⊢
    rw [← hE.lo (j := 67) (by omega)]
    exact h
  cases hm : S_mem v with
  | false =>
    exact sim_mk (Cl_of (kX1_join_bad _ _ _ _ _ _ _ _ _ _ _ _ _ _ _ _ _ _ _ _ _ _ v hm)) (Cl_of (kX2_join_bad _ _ _ _ _ _ _ _ _ _ _ _ _ _ _ _ _ _ _ _ _ v (isM_mem.trans hm))) rfl (RelW_mk ⟨hln, hse, hs, hac, hnx, hpa, hinj, hsl, hE, hIU, hpastU, hkb, hslotU, by omega⟩)
  | true =>
    obtain ⟨k, hk, e⟩ := mem_ex hm
    subst e
    have ek := hE.lo (j := k) (by omega)
    by_cases h0 : f k = 0
    · have h0' : nw k = 0 := by rw [← ek]; exact h0
      have hE2 := EK_joins hE hk
      exact sim_mk (Cl_of (kX1_join_ok _ _ _ _ _ _ _ _ _ _ _ _ _ _ _ _ _ _ _ _ _ [] k hk h0 pb qb pr qr ix hpa hac n G hI (by omega) (by omega))) (Cl_of (kX2_join_ok _ _ _ _ _ _ _ _ _ _ _ _ _ _ _ _ _ _ _ _ _ k hk h0' hz hnx hac)) (by first | (rw [hE2.lo (j := 54 + k) (by omega)]; done) | (rw [hE2.lo (j := 54 + k) (by omega)]; rfl)) (RelW_mk (rel_note hP (by omega) (by omega) hE2 ((Inv_joins hI hk h0).mono (by omega) (by omega))))
    · have h0' : ¬ nw k = 0 := by rw [← ek]; exact h0
      exact sim_mk (Cl_of (kX1_join_late _ _ _ _ _ _ _ _ _ _ _ _ _ _ _ _ _ _ _ _ _ _ k hk h0)) (Cl_of (kX2_join_late _ _ _ _ _ _ _ _ _ _ _ _ _ _ _ _ _ _ _ _ _ k hk h0')) rfl (RelW_mk ⟨hln, hse, hs, hac, hnx, hpa, hinj, hsl, hE, hIU, hpastU, hkb, hslotU, by omega⟩)

theorem sim_leave {l : Launch} {D : va_G} {cI cZ cQ : ClassId} {a0 x0 n G : Nat} {wM wX : va_W} (hR : RelW cI cZ cQ a0 x0 n G wM wX) (hn1 : 600 ≤ n) (hn2 : n ≤ 30000) (hG1 : 20000 ≤ G) (hG2 : G ≤ 900000) (v : Int32) : SimR l D cI cZ cQ a0 x0 n G wM wX yX1_leave wsX1_leave yX2_leave wsX2_leave [.int v] := by
  obtain ⟨x, bn, bt, pa, sl, ac, kb, tx, ln, s1, s2, se, sd, sb, f, g, pb, qb, pr, qr, ix, a, nw, tr, di, nx, ke, ik, wo, re, rfl, rfl, rfl, rfl, hP⟩ := hR
  obtain ⟨hln, hse, hs, hac, hnx, hpa, hinj, hsl, hE, hI, hpast, hkb, hslot, hG⟩ := id hP
  have hIU : Inv (n + 40) (G + 1500) f := hI.mono (by omega) (by omega)
  have hpastU : ∀ i, i < ac → EK (pr (ix i)) (fun j => di (79 * ((nx + 14 - ac + i) % 14) + j)) ∧ Inv (n + 40) (G + 1500) (pr (ix i)) := fun i hi => ⟨(hpast i hi).1, (hpast i hi).2.mono (by omega) (by omega)⟩
  have hslotU : ∀ k, k < 2 → (S_has (nI kb) (nI k) = true ↔ ¬ ik k = 0) ∧ (S_has (nI kb) (nI k) = true → EK (qr k) (fun j => ke (79 * k + j)) ∧ Inv (n + 40) (G + 1500) (qr k)) := fun k hk => ⟨(hslot k hk).1, fun q => ⟨((hslot k hk).2 q).1, ((hslot k hk).2 q).2.mono (by omega) (by omega)⟩⟩
  have hz : Z67 nw := by
    have h := hI.z
    unfold Z67 at h ⊢
    rw [← hE.lo (j := 67) (by omega)]
    exact h
  cases hm : S_mem v with
  | false =>
    exact sim_mk (Cl_of (kX1_leave_bad _ _ _ _ _ _ _ _ _ _ _ _ _ _ _ _ _ _ _ _ _ _ v hm)) (Cl_of (kX2_leave_bad _ _ _ _ _ _ _ _ _ _ _ _ _ _ _ _ _ _ _ _ _ v (isM_mem.trans hm))) rfl (RelW_mk ⟨hln, hse, hs, hac, hnx, hpa, hinj, hsl, hE, hIU, hpastU, hkb, hslotU, by omega⟩)
  | true =>
    obtain ⟨k, hk, e⟩ := mem_ex hm
    subst e
    have ek := hE.lo (j := k) (by omega)
    by_cases h0 : f k = 1
    · have h0' : nw k = 1 := by rw [← ek]; exact h0
      have hE2 := EK_leaves hE hk
      exact sim_mk (Cl_of (kX1_leave_ok _ _ _ _ _ _ _ _ _ _ _ _ _ _ _ _ _ _ _ _ _ [] k hk h0 pb qb pr qr ix hpa hac n G hI (by omega) (by omega))) (Cl_of (kX2_leave_ok _ _ _ _ _ _ _ _ _ _ _ _ _ _ _ _ _ _ _ _ _ k hk h0' hz hnx hac)) (by first | (rw [hE2.lo (j := 54 + k) (by omega)]; done) | (rw [hE2.lo (j := 54 + k) (by omega)]; rfl)) (RelW_mk (rel_note hP (by omega) (by omega) hE2 ((Inv_leaves hI hk h0 (by omega) hG).mono (by omega) (by omega))))
    · have h0' : ¬ nw k = 1 := by rw [← ek]; exact h0
      exact sim_mk (Cl_of (kX1_leave_late _ _ _ _ _ _ _ _ _ _ _ _ _ _ _ _ _ _ _ _ _ _ k hk h0)) (Cl_of (kX2_leave_late _ _ _ _ _ _ _ _ _ _ _ _ _ _ _ _ _ _ _ _ _ k hk h0')) rfl (RelW_mk ⟨hln, hse, hs, hac, hnx, hpa, hinj, hsl, hE, hIU, hpastU, hkb, hslotU, by omega⟩)

theorem sim_pass {l : Launch} {D : va_G} {cI cZ cQ : ClassId} {a0 x0 n G : Nat} {wM wX : va_W} (hR : RelW cI cZ cQ a0 x0 n G wM wX) (hn1 : 600 ≤ n) (hn2 : n ≤ 30000) (hG1 : 20000 ≤ G) (hG2 : G ≤ 900000) (v : Int32) : SimR l D cI cZ cQ a0 x0 n G wM wX yX1_pass wsX1_pass yX2_pass wsX2_pass [.int v] := by
  obtain ⟨x, bn, bt, pa, sl, ac, kb, tx, ln, s1, s2, se, sd, sb, f, g, pb, qb, pr, qr, ix, a, nw, tr, di, nx, ke, ik, wo, re, rfl, rfl, rfl, rfl, hP⟩ := hR
  obtain ⟨hln, hse, hs, hac, hnx, hpa, hinj, hsl, hE, hI, hpast, hkb, hslot, hG⟩ := id hP
  have hIU : Inv (n + 40) (G + 1500) f := hI.mono (by omega) (by omega)
  have hpastU : ∀ i, i < ac → EK (pr (ix i)) (fun j => di (79 * ((nx + 14 - ac + i) % 14) + j)) ∧ Inv (n + 40) (G + 1500) (pr (ix i)) := fun i hi => ⟨(hpast i hi).1, (hpast i hi).2.mono (by omega) (by omega)⟩
  have hslotU : ∀ k, k < 2 → (S_has (nI kb) (nI k) = true ↔ ¬ ik k = 0) ∧ (S_has (nI kb) (nI k) = true → EK (qr k) (fun j => ke (79 * k + j)) ∧ Inv (n + 40) (G + 1500) (qr k)) := fun k hk => ⟨(hslot k hk).1, fun q => ⟨((hslot k hk).2 q).1, ((hslot k hk).2 q).2.mono (by omega) (by omega)⟩⟩
  have hz : Z67 nw := by
    have h := hI.z
    unfold Z67 at h ⊢
    rw [← hE.lo (j := 67) (by omega)]
    exact h
  by_cases hb : ¬ v < 1 ∧ v ≤ 30
  · have hin := ((in_t (lo := 1) (hi := 30) (by decide) (by decide)).mpr hb)
    obtain ⟨k, hk1, hk2, e⟩ := rng_nat (lo := 1) (hi := 30) (by decide) (by decide) hb
    subst e
    exact sim_mk (Cl_of (kX1_pass_ok _ _ _ _ _ _ _ _ _ _ _ _ _ _ _ _ _ _ _ _ _ [] k hk1 hk2 pb qb pr qr ix hpa hac n G hI (by omega) (by omega))) (Cl_of (kX2_pass_ok _ _ _ _ _ _ _ _ _ _ _ _ _ _ _ _ _ _ _ _ _ k hin (by omega) hz hnx hac)) (by first | (rw [e_pass hE k]; done) | (rw [e_pass hE k]; rfl)) (RelW_mk (rel_note hP (by omega) (by omega) (EK_ticks hE k) ((Inv_ticks hI 30 (by omega) (by omega) k hk2).mono (by omega) (by omega))))
  · exact sim_mk (Cl_of (kX1_pass_bad _ _ _ _ _ _ _ _ _ _ _ _ _ _ _ _ _ _ _ _ _ _ v hb)) (Cl_of (kX2_pass_bad _ _ _ _ _ _ _ _ _ _ _ _ _ _ _ _ _ _ _ _ _ v ((in_f (lo := 1) (hi := 30) (by decide) (by decide)).mpr hb))) rfl (RelW_mk ⟨hln, hse, hs, hac, hnx, hpa, hinj, hsl, hE, hIU, hpastU, hkb, hslotU, by omega⟩)

theorem sim_turn {l : Launch} {D : va_G} {cI cZ cQ : ClassId} {a0 x0 n G : Nat} {wM wX : va_W} (hR : RelW cI cZ cQ a0 x0 n G wM wX) (hn1 : 600 ≤ n) (hn2 : n ≤ 30000) (hG1 : 20000 ≤ G) (hG2 : G ≤ 900000) (v u : Int32) : SimR l D cI cZ cQ a0 x0 n G wM wX yX1_turn wsX1_turn yX2_turn wsX2_turn [.int v, .int u] := by
  obtain ⟨x, bn, bt, pa, sl, ac, kb, tx, ln, s1, s2, se, sd, sb, f, g, pb, qb, pr, qr, ix, a, nw, tr, di, nx, ke, ik, wo, re, rfl, rfl, rfl, rfl, hP⟩ := hR
  obtain ⟨hln, hse, hs, hac, hnx, hpa, hinj, hsl, hE, hI, hpast, hkb, hslot, hG⟩ := id hP
  have hIU : Inv (n + 40) (G + 1500) f := hI.mono (by omega) (by omega)
  have hpastU : ∀ i, i < ac → EK (pr (ix i)) (fun j => di (79 * ((nx + 14 - ac + i) % 14) + j)) ∧ Inv (n + 40) (G + 1500) (pr (ix i)) := fun i hi => ⟨(hpast i hi).1, (hpast i hi).2.mono (by omega) (by omega)⟩
  have hslotU : ∀ k, k < 2 → (S_has (nI kb) (nI k) = true ↔ ¬ ik k = 0) ∧ (S_has (nI kb) (nI k) = true → EK (qr k) (fun j => ke (79 * k + j)) ∧ Inv (n + 40) (G + 1500) (qr k)) := fun k hk => ⟨(hslot k hk).1, fun q => ⟨((hslot k hk).2 q).1, ((hslot k hk).2 q).2.mono (by omega) (by omega)⟩⟩
  have hz : Z67 nw := by
    have h := hI.z
    unfold Z67 at h ⊢
    rw [← hE.lo (j := 67) (by omega)]
    exact h
  cases hm : S_mem v with
  | false =>
    exact sim_mk (Cl_of (kX1_turn_bad _ _ _ _ _ _ _ _ _ _ _ _ _ _ _ _ _ _ _ _ _ _ v u (Or.inl hm))) (Cl_of (kX2_turn_bad _ _ _ _ _ _ _ _ _ _ _ _ _ _ _ _ _ _ _ _ _ v u (Or.inl (isM_mem.trans hm)))) rfl (RelW_mk ⟨hln, hse, hs, hac, hnx, hpa, hinj, hsl, hE, hIU, hpastU, hkb, hslotU, by omega⟩)
  | true =>
    cases hm2 : S_mem u with
    | false =>
      exact sim_mk (Cl_of (kX1_turn_bad _ _ _ _ _ _ _ _ _ _ _ _ _ _ _ _ _ _ _ _ _ _ v u (Or.inr hm2))) (Cl_of (kX2_turn_bad _ _ _ _ _ _ _ _ _ _ _ _ _ _ _ _ _ _ _ _ _ v u (Or.inr (isM_mem.trans hm2)))) rfl (RelW_mk ⟨hln, hse, hs, hac, hnx, hpa, hinj, hsl, hE, hIU, hpastU, hkb, hslotU, by omega⟩)
    | true =>
      obtain ⟨k, hk, e⟩ := mem_ex hm
      obtain ⟨j, hj, e2⟩ := mem_ex hm2
      subst e e2
      by_cases hkj : k = j
      · subst hkj
        exact sim_mk (Cl_of (kX1_turn_same _ _ _ _ _ _ _ _ _ _ _ _ _ _ _ _ _ _ _ _ _ _ k hk)) (Cl_of (kX2_turn_same _ _ _ _ _ _ _ _ _ _ _ _ _ _ _ _ _ _ _ _ _ k hk)) rfl (RelW_mk ⟨hln, hse, hs, hac, hnx, hpa, hinj, hsl, hE, hIU, hpastU, hkb, hslotU, by omega⟩)
      · have hE2 := EK_turn (o := j) hE hk
        exact sim_mk (Cl_of (kX1_turn_ok _ _ _ _ _ _ _ _ _ _ _ _ _ _ _ _ _ _ _ _ _ [] k j hk hj hkj pb qb pr qr ix hpa hac)) (Cl_of (kX2_turn_ok _ _ _ _ _ _ _ _ _ _ _ _ _ _ _ _ _ _ _ _ _ k j hk hj hkj hnx hac)) (by first | (rw [e_way hE2 hk]; done) | (rw [e_way hE2 hk]; rfl)) (RelW_mk (rel_note hP (by omega) (by omega) hE2 ((Inv_turn hI).mono (by omega) (by omega))))

theorem sim_set {l : Launch} {D : va_G} {cI cZ cQ : ClassId} {a0 x0 n G : Nat} {wM wX : va_W} (hR : RelW cI cZ cQ a0 x0 n G wM wX) (hn1 : 600 ≤ n) (hn2 : n ≤ 30000) (hG1 : 20000 ≤ G) (hG2 : G ≤ 900000) (v u : Int32) : SimR l D cI cZ cQ a0 x0 n G wM wX yX1_set wsX1_set yX2_set wsX2_set [.int v, .int u] := by
  obtain ⟨x, bn, bt, pa, sl, ac, kb, tx, ln, s1, s2, se, sd, sb, f, g, pb, qb, pr, qr, ix, a, nw, tr, di, nx, ke, ik, wo, re, rfl, rfl, rfl, rfl, hP⟩ := hR
  obtain ⟨hln, hse, hs, hac, hnx, hpa, hinj, hsl, hE, hI, hpast, hkb, hslot, hG⟩ := id hP
  have hIU : Inv (n + 40) (G + 1500) f := hI.mono (by omega) (by omega)
  have hpastU : ∀ i, i < ac → EK (pr (ix i)) (fun j => di (79 * ((nx + 14 - ac + i) % 14) + j)) ∧ Inv (n + 40) (G + 1500) (pr (ix i)) := fun i hi => ⟨(hpast i hi).1, (hpast i hi).2.mono (by omega) (by omega)⟩
  have hslotU : ∀ k, k < 2 → (S_has (nI kb) (nI k) = true ↔ ¬ ik k = 0) ∧ (S_has (nI kb) (nI k) = true → EK (qr k) (fun j => ke (79 * k + j)) ∧ Inv (n + 40) (G + 1500) (qr k)) := fun k hk => ⟨(hslot k hk).1, fun q => ⟨((hslot k hk).2 q).1, ((hslot k hk).2 q).2.mono (by omega) (by omega)⟩⟩
  have hz : Z67 nw := by
    have h := hI.z
    unfold Z67 at h ⊢
    rw [← hE.lo (j := 67) (by omega)]
    exact h
  by_cases hb : ¬ v < 0 ∧ v ≤ 2 ∧ ¬ u < 1 ∧ u ≤ 9
  · have hin := ((in_t (lo := 0) (hi := 2) (by decide) (by decide)).mpr ⟨hb.1, hb.2.1⟩)
    have hu := hb.2.2
    have hinu := ((in_t (lo := 1) (hi := 9) (by decide) (by decide)).mpr hu)
    obtain ⟨k, hk1, hk2, e⟩ := rng_nat (lo := 0) (hi := 2) (by decide) (by decide) ⟨hb.1, hb.2.1⟩
    obtain ⟨z, hz1, hz2, e2⟩ := rng_nat (lo := 1) (hi := 9) (by decide) (by decide) hu
    subst e e2
    have hk3 : k < 3 := by omega
    clear hb hk1 hk2
    match k, hk3, hin with
    | 0, _, hin =>
      have hE2 : EK (upd f 66 (nI z)) (upd nw 66 (nI z)) := EK_set hE (by decide)
      exact sim_mk (Cl_of (kX1_set_ok0 _ _ _ _ _ _ _ _ _ _ _ _ _ _ _ _ _ _ _ _ _ [] (nI z) hu pb qb pr qr ix hpa hac)) (Cl_of (kX2_set_ok _ _ _ _ _ _ _ _ _ _ _ _ _ _ _ _ _ _ _ _ _ 0 (nI z) (by decide) hin hinu hnx hac)) (by first | (rw [hE.lo (j := 66) (by decide)]; done) | (rw [hE.lo (j := 66) (by decide)]; rfl)) (RelW_mk (rel_note hP (by omega) (by omega) hE2 ((Inv_sz hI (by decide) hz1 hz2).mono (by omega) (by omega))))
    | 1, _, hin =>
      have hE2 : EK (upd f 67 (nI z)) (upd nw 67 (nI z)) := EK_set hE (by decide)
      exact sim_mk (Cl_of (kX1_set_ok1 _ _ _ _ _ _ _ _ _ _ _ _ _ _ _ _ _ _ _ _ _ [] (nI z) hu pb qb pr qr ix hpa hac)) (Cl_of (kX2_set_ok _ _ _ _ _ _ _ _ _ _ _ _ _ _ _ _ _ _ _ _ _ 1 (nI z) (by decide) hin hinu hnx hac)) (by first | (rw [hE.lo (j := 67) (by decide)]; done) | (rw [hE.lo (j := 67) (by decide)]; rfl)) (RelW_mk (rel_note hP (by omega) (by omega) hE2 ((Inv_sz hI (by decide) hz1 hz2).mono (by omega) (by omega))))
    | 2, _, hin =>
      have hE2 : EK (upd f 68 (nI z)) (upd nw 68 (nI z)) := EK_set hE (by decide)
      exact sim_mk (Cl_of (kX1_set_ok2 _ _ _ _ _ _ _ _ _ _ _ _ _ _ _ _ _ _ _ _ _ [] (nI z) hu pb qb pr qr ix hpa hac)) (Cl_of (kX2_set_ok _ _ _ _ _ _ _ _ _ _ _ _ _ _ _ _ _ _ _ _ _ 2 (nI z) (by decide) hin hinu hnx hac)) (by first | (rw [hE.lo (j := 68) (by decide)]; done) | (rw [hE.lo (j := 68) (by decide)]; rfl)) (RelW_mk (rel_note hP (by omega) (by omega) hE2 ((Inv_sz hI (by decide) hz1 hz2).mono (by omega) (by omega))))
    | k + 3, h, _ => exact absurd h (by omega)
  · have hb2 : S_in (Int32.toInt64 v) 0 2 = false ∨ S_in (Int32.toInt64 u) 1 9 = false := by
      by_cases h1 : ¬ v < 0 ∧ v ≤ 2
      · exact Or.inr ((in_f (lo := 1) (hi := 9) (by decide) (by decide)).mpr (fun q => hb ⟨h1.1, h1.2, q.1, q.2⟩))
      · exact Or.inl ((in_f (lo := 0) (hi := 2) (by decide) (by decide)).mpr h1)
    exact sim_mk (Cl_of (kX1_set_bad _ _ _ _ _ _ _ _ _ _ _ _ _ _ _ _ _ _ _ _ _ _ v u hb)) (Cl_of (kX2_set_bad _ _ _ _ _ _ _ _ _ _ _ _ _ _ _ _ _ _ _ _ _ v u hb2)) rfl (RelW_mk ⟨hln, hse, hs, hac, hnx, hpa, hinj, hsl, hE, hIU, hpastU, hkb, hslotU, by omega⟩)

theorem sim_undo {l : Launch} {D : va_G} {cI cZ cQ : ClassId} {a0 x0 n G : Nat} {wM wX : va_W} (hR : RelW cI cZ cQ a0 x0 n G wM wX) (hn1 : 600 ≤ n) (hn2 : n ≤ 30000) (hG1 : 20000 ≤ G) (hG2 : G ≤ 900000)  : SimR l D cI cZ cQ a0 x0 n G wM wX yX1_undo wsX1_undo yX2_undo wsX2_undo [] := by
  obtain ⟨x, bn, bt, pa, sl, ac, kb, tx, ln, s1, s2, se, sd, sb, f, g, pb, qb, pr, qr, ix, a, nw, tr, di, nx, ke, ik, wo, re, rfl, rfl, rfl, rfl, hP⟩ := hR
  obtain ⟨hln, hse, hs, hac, hnx, hpa, hinj, hsl, hE, hI, hpast, hkb, hslot, hG⟩ := id hP
  have hIU : Inv (n + 40) (G + 1500) f := hI.mono (by omega) (by omega)
  have hpastU : ∀ i, i < ac → EK (pr (ix i)) (fun j => di (79 * ((nx + 14 - ac + i) % 14) + j)) ∧ Inv (n + 40) (G + 1500) (pr (ix i)) := fun i hi => ⟨(hpast i hi).1, (hpast i hi).2.mono (by omega) (by omega)⟩
  have hslotU : ∀ k, k < 2 → (S_has (nI kb) (nI k) = true ↔ ¬ ik k = 0) ∧ (S_has (nI kb) (nI k) = true → EK (qr k) (fun j => ke (79 * k + j)) ∧ Inv (n + 40) (G + 1500) (qr k)) := fun k hk => ⟨(hslot k hk).1, fun q => ⟨((hslot k hk).2 q).1, ((hslot k hk).2 q).2.mono (by omega) (by omega)⟩⟩
  have hz : Z67 nw := by
    have h := hI.z
    unfold Z67 at h ⊢
    rw [← hE.lo (j := 67) (by omega)]
    exact h
  by_cases h0 : ac = 0
  · exact sim_mk (Cl_of (kX1_undo_late _ _ _ _ _ _ _ _ _ _ _ _ _ _ _ _ _ _ _ _ _ _ h0)) (Cl_of (kX2_undo_late _ _ _ _ _ _ _ _ _ _ _ _ _ _ _ _ _ _ _ _ _ h0)) rfl (RelW_mk ⟨hln, hse, hs, hac, hnx, hpa, hinj, hsl, hE, hIU, hpastU, hkb, hslotU, by omega⟩)
  · have h1 : 0 < ac := by omega
    obtain ⟨hE2, hI2⟩ := hpastU (ac - 1) (by omega)
    rw [ring_f hnx h1 hac] at hE2
    exact sim_mk (Cl_of (kX1_undo_ok _ _ _ _ _ _ _ _ _ _ _ _ _ _ _ _ _ _ _ _ _ [] pb qb pr qr ix hpa h1 hac)) (Cl_of (kX2_undo_ok _ _ _ _ _ _ _ _ _ _ _ _ _ _ _ _ _ _ _ _ _ h1 hac hnx)) rfl (RelW_mk ⟨hln, hse, hs, by omega, Nat.mod_lt _ (by decide), hpa, hinj, hsl, hE2, hI2, fun i hi => (by rw [ring_e hnx h1 hac hi]; exact hpastU i (by omega)), hkb, hslotU, by omega⟩)

theorem sim_ahead {l : Launch} {D : va_G} {cI cZ cQ : ClassId} {a0 x0 n G : Nat} {wM wX : va_W} (hR : RelW cI cZ cQ a0 x0 n G wM wX) (hn1 : 600 ≤ n) (hn2 : n ≤ 30000) (hG1 : 20000 ≤ G) (hG2 : G ≤ 900000) (v u : Int32) : SimR l D cI cZ cQ a0 x0 n G wM wX yX1_ahead wsX1_ahead yX2_ahead wsX2_ahead [.int v, .int u] := by
  obtain ⟨x, bn, bt, pa, sl, ac, kb, tx, ln, s1, s2, se, sd, sb, f, g, pb, qb, pr, qr, ix, a, nw, tr, di, nx, ke, ik, wo, re, rfl, rfl, rfl, rfl, hP⟩ := hR
  obtain ⟨hln, hse, hs, hac, hnx, hpa, hinj, hsl, hE, hI, hpast, hkb, hslot, hG⟩ := id hP
  have hIU : Inv (n + 40) (G + 1500) f := hI.mono (by omega) (by omega)
  have hpastU : ∀ i, i < ac → EK (pr (ix i)) (fun j => di (79 * ((nx + 14 - ac + i) % 14) + j)) ∧ Inv (n + 40) (G + 1500) (pr (ix i)) := fun i hi => ⟨(hpast i hi).1, (hpast i hi).2.mono (by omega) (by omega)⟩
  have hslotU : ∀ k, k < 2 → (S_has (nI kb) (nI k) = true ↔ ¬ ik k = 0) ∧ (S_has (nI kb) (nI k) = true → EK (qr k) (fun j => ke (79 * k + j)) ∧ Inv (n + 40) (G + 1500) (qr k)) := fun k hk => ⟨(hslot k hk).1, fun q => ⟨((hslot k hk).2 q).1, ((hslot k hk).2 q).2.mono (by omega) (by omega)⟩⟩
  have hz : Z67 nw := by
    have h := hI.z
    unfold Z67 at h ⊢
    rw [← hE.lo (j := 67) (by omega)]
    exact h
  by_cases hb : ¬ v < 0 ∧ v ≤ 99 ∧ ¬ u < 0 ∧ u ≤ 3
  · have hin := ((in_t (lo := 0) (hi := 99) (by decide) (by decide)).mpr ⟨hb.1, hb.2.1⟩)
    have hinu := ((in_t (lo := 0) (hi := 3) (by decide) (by decide)).mpr hb.2.2)
    obtain ⟨k, hk1, hk2, e⟩ := rng_nat (lo := 0) (hi := 99) (by decide) (by decide) ⟨hb.1, hb.2.1⟩
    subst e
    exact sim_mk (Cl_of (kX1_ahead_ok _ _ _ _ _ _ _ _ _ _ _ _ _ _ _ _ _ _ _ _ _ _ k u hk2 hb.2.2 n G hI (by omega) (by omega))) (Cl_of (kX2_ahead_ok _ _ _ _ _ _ _ _ _ _ _ _ _ _ _ _ _ _ _ _ _ k u (by omega) hin hinu hz)) (by first | (rw [e_ahead (EK_ticks hE k)]; done) | (rw [e_ahead (EK_ticks hE k)]; rfl)) (RelW_mk ⟨hln, hse, hs, hac, hnx, hpa, hinj, hsl, hE, hIU, hpastU, hkb, hslotU, by omega⟩)
  · have hb2 : S_in (Int32.toInt64 v) 0 99 = false ∨ S_in (Int32.toInt64 u) 0 3 = false := by
      by_cases h1 : ¬ v < 0 ∧ v ≤ 99
      · exact Or.inr ((in_f (lo := 0) (hi := 3) (by decide) (by decide)).mpr (fun q => hb ⟨h1.1, h1.2, q.1, q.2⟩))
      · exact Or.inl ((in_f (lo := 0) (hi := 99) (by decide) (by decide)).mpr h1)
    exact sim_mk (Cl_of (kX1_ahead_bad _ _ _ _ _ _ _ _ _ _ _ _ _ _ _ _ _ _ _ _ _ _ v u hb)) (Cl_of (kX2_ahead_bad _ _ _ _ _ _ _ _ _ _ _ _ _ _ _ _ _ _ _ _ _ v u hb2)) rfl (RelW_mk ⟨hln, hse, hs, hac, hnx, hpa, hinj, hsl, hE, hIU, hpastU, hkb, hslotU, by omega⟩)

theorem sim_crowd {l : Launch} {D : va_G} {cI cZ cQ : ClassId} {a0 x0 n G : Nat} {wM wX : va_W} (hR : RelW cI cZ cQ a0 x0 n G wM wX) (hn1 : 600 ≤ n) (hn2 : n ≤ 30000) (hG1 : 20000 ≤ G) (hG2 : G ≤ 900000) (v : Int32) : SimR l D cI cZ cQ a0 x0 n G wM wX yX1_crowd wsX1_crowd yX2_crowd wsX2_crowd [.int v] := by
  obtain ⟨x, bn, bt, pa, sl, ac, kb, tx, ln, s1, s2, se, sd, sb, f, g, pb, qb, pr, qr, ix, a, nw, tr, di, nx, ke, ik, wo, re, rfl, rfl, rfl, rfl, hP⟩ := hR
  obtain ⟨hln, hse, hs, hac, hnx, hpa, hinj, hsl, hE, hI, hpast, hkb, hslot, hG⟩ := id hP
  have hIU : Inv (n + 40) (G + 1500) f := hI.mono (by omega) (by omega)
  have hpastU : ∀ i, i < ac → EK (pr (ix i)) (fun j => di (79 * ((nx + 14 - ac + i) % 14) + j)) ∧ Inv (n + 40) (G + 1500) (pr (ix i)) := fun i hi => ⟨(hpast i hi).1, (hpast i hi).2.mono (by omega) (by omega)⟩
  have hslotU : ∀ k, k < 2 → (S_has (nI kb) (nI k) = true ↔ ¬ ik k = 0) ∧ (S_has (nI kb) (nI k) = true → EK (qr k) (fun j => ke (79 * k + j)) ∧ Inv (n + 40) (G + 1500) (qr k)) := fun k hk => ⟨(hslot k hk).1, fun q => ⟨((hslot k hk).2 q).1, ((hslot k hk).2 q).2.mono (by omega) (by omega)⟩⟩
  have hz : Z67 nw := by
    have h := hI.z
    unfold Z67 at h ⊢
    rw [← hE.lo (j := 67) (by omega)]
    exact h
  by_cases hb : ¬ v < 1 ∧ v ≤ 99
  · have hin := ((in_t (lo := 1) (hi := 99) (by decide) (by decide)).mpr hb)
    obtain ⟨k, hk1, hk2, e⟩ := rng_nat (lo := 1) (hi := 99) (by decide) (by decide) hb
    subst e
    exact sim_mk (Cl_of (kX1_crowd_ok _ _ _ _ _ _ _ _ _ _ _ _ _ _ _ _ _ _ _ _ _ _ k hk1 hk2 n G hI (by omega) (by omega))) (Cl_of (kX2_crowd_ok _ _ _ _ _ _ _ _ _ _ _ _ _ _ _ _ _ _ _ _ _ k (by omega) hin hz)) (by first | (rw [e_crowd hE k]; done) | (rw [e_crowd hE k]; rfl)) (RelW_mk ⟨hln, hse, hs, hac, hnx, hpa, hinj, hsl, hE, hIU, hpastU, hkb, hslotU, by omega⟩)
  · exact sim_mk (Cl_of (kX1_crowd_bad _ _ _ _ _ _ _ _ _ _ _ _ _ _ _ _ _ _ _ _ _ _ v hb)) (Cl_of (kX2_crowd_bad _ _ _ _ _ _ _ _ _ _ _ _ _ _ _ _ _ _ _ _ _ v ((in_f (lo := 1) (hi := 99) (by decide) (by decide)).mpr hb))) rfl (RelW_mk ⟨hln, hse, hs, hac, hnx, hpa, hinj, hsl, hE, hIU, hpastU, hkb, hslotU, by omega⟩)

theorem sim_jitter {l : Launch} {D : va_G} {cI cZ cQ : ClassId} {a0 x0 n G : Nat} {wM wX : va_W} (hR : RelW cI cZ cQ a0 x0 n G wM wX) (hn1 : 600 ≤ n) (hn2 : n ≤ 30000) (hG1 : 20000 ≤ G) (hG2 : G ≤ 900000) (v : Int32) (y : Int64) : SimR l D cI cZ cQ a0 x0 n G wM wX yX1_jitter wsX1_jitter yX2_jitter wsX2_jitter [.int v, .long y] := by
  obtain ⟨x, bn, bt, pa, sl, ac, kb, tx, ln, s1, s2, se, sd, sb, f, g, pb, qb, pr, qr, ix, a, nw, tr, di, nx, ke, ik, wo, re, rfl, rfl, rfl, rfl, hP⟩ := hR
  obtain ⟨hln, hse, hs, hac, hnx, hpa, hinj, hsl, hE, hI, hpast, hkb, hslot, hG⟩ := id hP
  have hIU : Inv (n + 40) (G + 1500) f := hI.mono (by omega) (by omega)
  have hpastU : ∀ i, i < ac → EK (pr (ix i)) (fun j => di (79 * ((nx + 14 - ac + i) % 14) + j)) ∧ Inv (n + 40) (G + 1500) (pr (ix i)) := fun i hi => ⟨(hpast i hi).1, (hpast i hi).2.mono (by omega) (by omega)⟩
  have hslotU : ∀ k, k < 2 → (S_has (nI kb) (nI k) = true ↔ ¬ ik k = 0) ∧ (S_has (nI kb) (nI k) = true → EK (qr k) (fun j => ke (79 * k + j)) ∧ Inv (n + 40) (G + 1500) (qr k)) := fun k hk => ⟨(hslot k hk).1, fun q => ⟨((hslot k hk).2 q).1, ((hslot k hk).2 q).2.mono (by omega) (by omega)⟩⟩
  have hz : Z67 nw := by
    have h := hI.z
    unfold Z67 at h ⊢
    rw [← hE.lo (j := 67) (by omega)]
    exact h
  by_cases hb : ¬ v < 1 ∧ v ≤ 6
  · have hin := ((in_t (lo := 1) (hi := 6) (by decide) (by decide)).mpr hb)
    obtain ⟨m_, hm1, hm2, e⟩ := rng_nat (lo := 1) (hi := 6) (by decide) (by decide) hb
    subst e
    have hp := in_p (y := y) (p100 m_ (by omega))
    by_cases hy : ¬ y < 0 ∧ y < S_ten (2 * m_)
    · have hc := hp.mpr hy
      obtain ⟨X, hX, eX⟩ := long_nat hy.1
      subst eX
      exact sim_mk (Cl_of (kX1_jitter_ok _ _ _ _ _ _ _ _ _ _ _ _ _ _ _ _ _ _ _ _ _ _ m_ X hm1 hm2 hX hy.1 hy.2)) (Cl_of (kX2_jitter_ok _ _ _ _ _ _ _ _ _ _ _ _ _ _ _ _ _ _ _ _ _ m_ (lN X) hm2 hin hc)) rfl (RelW_mk ⟨hln, hse, hs, hac, hnx, hpa, hinj, hsl, hE, hIU, hpastU, hkb, hslotU, by omega⟩)
    · have hc : S_in y 0 (S_lpow 100 m_ - 1) = false := by
        cases hq : S_in y 0 (S_lpow 100 m_ - 1) with
        | false => rfl
        | true => exact absurd (hp.mp hq) hy
      exact sim_mk (Cl_of (kX1_jitter_bad2 _ _ _ _ _ _ _ _ _ _ _ _ _ _ _ _ _ _ _ _ _ _ m_ y hm1 hm2 hy)) (Cl_of (kX2_jitter_bad2 _ _ _ _ _ _ _ _ _ _ _ _ _ _ _ _ _ _ _ _ _ m_ y (by omega) hin hc)) rfl (RelW_mk ⟨hln, hse, hs, hac, hnx, hpa, hinj, hsl, hE, hIU, hpastU, hkb, hslotU, by omega⟩)
  · exact sim_mk (Cl_of (kX1_jitter_bad _ _ _ _ _ _ _ _ _ _ _ _ _ _ _ _ _ _ _ _ _ _ v y hb)) (Cl_of (kX2_jitter_bad _ _ _ _ _ _ _ _ _ _ _ _ _ _ _ _ _ _ _ _ _ v y ((in_f (lo := 1) (hi := 6) (by decide) (by decide)).mpr hb))) rfl (RelW_mk ⟨hln, hse, hs, hac, hnx, hpa, hinj, hsl, hE, hIU, hpastU, hkb, hslotU, by omega⟩)

theorem sim_judge {l : Launch} {D : va_G} {cI cZ cQ : ClassId} {a0 x0 n G : Nat} {wM wX : va_W} (hR : RelW cI cZ cQ a0 x0 n G wM wX) (hn1 : 600 ≤ n) (hn2 : n ≤ 30000) (hG1 : 20000 ≤ G) (hG2 : G ≤ 900000) (v : Int32) (y : Int64) : SimR l D cI cZ cQ a0 x0 n G wM wX yX1_judge wsX1_judge yX2_judge wsX2_judge [.int v, .long y] := by
  obtain ⟨x, bn, bt, pa, sl, ac, kb, tx, ln, s1, s2, se, sd, sb, f, g, pb, qb, pr, qr, ix, a, nw, tr, di, nx, ke, ik, wo, re, rfl, rfl, rfl, rfl, hP⟩ := hR
  obtain ⟨hln, hse, hs, hac, hnx, hpa, hinj, hsl, hE, hI, hpast, hkb, hslot, hG⟩ := id hP
  have hIU : Inv (n + 40) (G + 1500) f := hI.mono (by omega) (by omega)
  have hpastU : ∀ i, i < ac → EK (pr (ix i)) (fun j => di (79 * ((nx + 14 - ac + i) % 14) + j)) ∧ Inv (n + 40) (G + 1500) (pr (ix i)) := fun i hi => ⟨(hpast i hi).1, (hpast i hi).2.mono (by omega) (by omega)⟩
  have hslotU : ∀ k, k < 2 → (S_has (nI kb) (nI k) = true ↔ ¬ ik k = 0) ∧ (S_has (nI kb) (nI k) = true → EK (qr k) (fun j => ke (79 * k + j)) ∧ Inv (n + 40) (G + 1500) (qr k)) := fun k hk => ⟨(hslot k hk).1, fun q => ⟨((hslot k hk).2 q).1, ((hslot k hk).2 q).2.mono (by omega) (by omega)⟩⟩
  have hz : Z67 nw := by
    have h := hI.z
    unfold Z67 at h ⊢
    rw [← hE.lo (j := 67) (by omega)]
    exact h
  by_cases hb : ¬ v < 1 ∧ v ≤ 4
  · have hin := ((in_t (lo := 1) (hi := 4) (by decide) (by decide)).mpr hb)
    obtain ⟨m_, hm1, hm2, e⟩ := rng_nat (lo := 1) (hi := 4) (by decide) (by decide) hb
    subst e
    have hp := in_p (y := y) (p1000 m_ (by omega))
    by_cases hy : ¬ y < 0 ∧ y < S_ten (3 * m_)
    · have hc := hp.mpr hy
      obtain ⟨X, hX, eX⟩ := long_nat hy.1
      subst eX
      exact sim_mk (Cl_of (kX1_judge_ok _ _ _ _ _ _ _ _ _ _ _ _ _ _ _ _ _ _ _ _ _ _ m_ X hm1 hm2 hX hy.1 hy.2 n G hG hI (by omega) (by omega))) (Cl_of (kX2_judge_ok _ _ _ _ _ _ _ _ _ _ _ _ _ _ _ _ _ _ _ _ _ m_ X hm2 hX hin hc hz)) (by first | (rw [e_judge hE m_ 0]; done) | (rw [e_judge hE m_ 0]; rfl)) (RelW_mk ⟨hln, hse, hs, hac, hnx, hpa, hinj, hsl, hE, hIU, hpastU, hkb, hslotU, by omega⟩)
    · have hc : S_in y 0 (S_lpow 1000 m_ - 1) = false := by
        cases hq : S_in y 0 (S_lpow 1000 m_ - 1) with
        | false => rfl
        | true => exact absurd (hp.mp hq) hy
      exact sim_mk (Cl_of (kX1_judge_bad2 _ _ _ _ _ _ _ _ _ _ _ _ _ _ _ _ _ _ _ _ _ _ m_ y hm1 hm2 hy)) (Cl_of (kX2_judge_bad2 _ _ _ _ _ _ _ _ _ _ _ _ _ _ _ _ _ _ _ _ _ m_ y (by omega) hin hc)) rfl (RelW_mk ⟨hln, hse, hs, hac, hnx, hpa, hinj, hsl, hE, hIU, hpastU, hkb, hslotU, by omega⟩)
  · exact sim_mk (Cl_of (kX1_judge_bad _ _ _ _ _ _ _ _ _ _ _ _ _ _ _ _ _ _ _ _ _ _ v y hb)) (Cl_of (kX2_judge_bad _ _ _ _ _ _ _ _ _ _ _ _ _ _ _ _ _ _ _ _ _ v y ((in_f (lo := 1) (hi := 4) (by decide) (by decide)).mpr hb))) rfl (RelW_mk ⟨hln, hse, hs, hac, hnx, hpa, hinj, hsl, hE, hIU, hpastU, hkb, hslotU, by omega⟩)

theorem sim_round {l : Launch} {D : va_G} {cI cZ cQ : ClassId} {a0 x0 n G : Nat} {wM wX : va_W} (hR : RelW cI cZ cQ a0 x0 n G wM wX) (hn1 : 600 ≤ n) (hn2 : n ≤ 30000) (hG1 : 20000 ≤ G) (hG2 : G ≤ 900000) (v u z : Int32) : SimR l D cI cZ cQ a0 x0 n G wM wX yX1_round wsX1_round yX2_round wsX2_round [.int v, .int u, .int z] := by
  obtain ⟨x, bn, bt, pa, sl, ac, kb, tx, ln, s1, s2, se, sd, sb, f, g, pb, qb, pr, qr, ix, a, nw, tr, di, nx, ke, ik, wo, re, rfl, rfl, rfl, rfl, hP⟩ := hR
  obtain ⟨hln, hse, hs, hac, hnx, hpa, hinj, hsl, hE, hI, hpast, hkb, hslot, hG⟩ := id hP
  have hIU : Inv (n + 40) (G + 1500) f := hI.mono (by omega) (by omega)
  have hpastU : ∀ i, i < ac → EK (pr (ix i)) (fun j => di (79 * ((nx + 14 - ac + i) % 14) + j)) ∧ Inv (n + 40) (G + 1500) (pr (ix i)) := fun i hi => ⟨(hpast i hi).1, (hpast i hi).2.mono (by omega) (by omega)⟩
  have hslotU : ∀ k, k < 2 → (S_has (nI kb) (nI k) = true ↔ ¬ ik k = 0) ∧ (S_has (nI kb) (nI k) = true → EK (qr k) (fun j => ke (79 * k + j)) ∧ Inv (n + 40) (G + 1500) (qr k)) := fun k hk => ⟨(hslot k hk).1, fun q => ⟨((hslot k hk).2 q).1, ((hslot k hk).2 q).2.mono (by omega) (by omega)⟩⟩
  have hz : Z67 nw := by
    have h := hI.z
    unfold Z67 at h ⊢
    rw [← hE.lo (j := 67) (by omega)]
    exact h
  by_cases hb : S_time v = true ∧ S_time u = true ∧ S_time z = true
  · exact sim_mk (Cl_of (kX1_round_ok _ _ _ _ _ _ _ _ _ _ _ _ _ _ _ _ _ _ _ _ _ _ v u z hb)) (Cl_of (kX2_round_ok _ _ _ _ _ _ _ _ _ _ _ _ _ _ _ _ _ _ _ _ _ v u z (time_in.symm.trans hb.1) (time_in.symm.trans hb.2.1) (time_in.symm.trans hb.2.2))) rfl (RelW_mk ⟨hln, hse, hs, hac, hnx, hpa, hinj, hsl, hE, hIU, hpastU, hkb, hslotU, by omega⟩)
  · have hb2 : S_in (Int32.toInt64 v) 0 9999 = false ∨ S_in (Int32.toInt64 u) 0 9999 = false ∨ S_in (Int32.toInt64 z) 0 9999 = false := by
      rw [← time_in, ← time_in, ← time_in]
      cases h1 : S_time v with
      | false => exact Or.inl rfl
      | true =>
        cases h2 : S_time u with
        | false => exact Or.inr (Or.inl rfl)
        | true =>
          cases h3 : S_time z with
          | false => exact Or.inr (Or.inr rfl)
          | true => exact absurd ⟨h1, h2, h3⟩ hb
    exact sim_mk (Cl_of (kX1_round_bad _ _ _ _ _ _ _ _ _ _ _ _ _ _ _ _ _ _ _ _ _ _ v u z hb)) (Cl_of (kX2_round_bad _ _ _ _ _ _ _ _ _ _ _ _ _ _ _ _ _ _ _ _ _ v u z hb2)) rfl (RelW_mk ⟨hln, hse, hs, hac, hnx, hpa, hinj, hsl, hE, hIU, hpastU, hkb, hslotU, by omega⟩)

theorem sim_see {l : Launch} {D : va_G} {cI cZ cQ : ClassId} {a0 x0 n G : Nat} {wM wX : va_W} (hR : RelW cI cZ cQ a0 x0 n G wM wX) (hn1 : 600 ≤ n) (hn2 : n ≤ 30000) (hG1 : 20000 ≤ G) (hG2 : G ≤ 900000) (v u : Int32) : SimR l D cI cZ cQ a0 x0 n G wM wX yX1_see wsX1_see yX2_see wsX2_see [.int v, .int u] := by
  obtain ⟨x, bn, bt, pa, sl, ac, kb, tx, ln, s1, s2, se, sd, sb, f, g, pb, qb, pr, qr, ix, a, nw, tr, di, nx, ke, ik, wo, re, rfl, rfl, rfl, rfl, hP⟩ := hR
  obtain ⟨hln, hse, hs, hac, hnx, hpa, hinj, hsl, hE, hI, hpast, hkb, hslot, hG⟩ := id hP
  have hIU : Inv (n + 40) (G + 1500) f := hI.mono (by omega) (by omega)
  have hpastU : ∀ i, i < ac → EK (pr (ix i)) (fun j => di (79 * ((nx + 14 - ac + i) % 14) + j)) ∧ Inv (n + 40) (G + 1500) (pr (ix i)) := fun i hi => ⟨(hpast i hi).1, (hpast i hi).2.mono (by omega) (by omega)⟩
  have hslotU : ∀ k, k < 2 → (S_has (nI kb) (nI k) = true ↔ ¬ ik k = 0) ∧ (S_has (nI kb) (nI k) = true → EK (qr k) (fun j => ke (79 * k + j)) ∧ Inv (n + 40) (G + 1500) (qr k)) := fun k hk => ⟨(hslot k hk).1, fun q => ⟨((hslot k hk).2 q).1, ((hslot k hk).2 q).2.mono (by omega) (by omega)⟩⟩
  have hz : Z67 nw := by
    have h := hI.z
    unfold Z67 at h ⊢
    rw [← hE.lo (j := 67) (by omega)]
    exact h
  by_cases hb : ¬ v < 0 ∧ v ≤ 60 ∧ ¬ u < 0 ∧ u ≤ 99
  · have hin := ((in_t (lo := 0) (hi := 60) (by decide) (by decide)).mpr ⟨hb.1, hb.2.1⟩)
    have hinu := ((in_t (lo := 0) (hi := 99) (by decide) (by decide)).mpr hb.2.2)
    by_cases hl : se < 6
    · obtain ⟨k, hk1, hk2, e⟩ := rng_nat (lo := 0) (hi := 60) (by decide) (by decide) ⟨hb.1, hb.2.1⟩
      have hs2 : ∀ j, j < se + 1 → upd s1 se v j = nI (upd s1 se v j).toNatClampNeg ∧ (upd s1 se v j).toNatClampNeg ≤ 60 := by
        intro j hj
        by_cases q : j = se
        · subst q
          rw [pk_us, e, nI_clamp (by omega)]
          exact ⟨rfl, hk2⟩
        · rw [pk_un q]
          exact hs j (by omega)
      exact sim_mk (Cl_of (kX1_see_ok _ _ _ _ _ _ _ _ _ _ _ _ _ _ _ _ _ _ _ _ _ _ v u hb hl)) (Cl_of (kX2_see_ok _ _ _ _ _ _ _ _ _ _ _ _ _ _ _ _ _ _ _ _ _ v u hin hinu hl)) rfl (RelW_mk ⟨hln, by omega, hs2, hac, hnx, hpa, hinj, hsl, hE, hIU, hpastU, hkb, hslotU, by omega⟩)
    · have hl6 : se = 6 := by omega
      exact sim_mk (Cl_of (kX1_see_full _ _ _ _ _ _ _ _ _ _ _ _ _ _ _ _ _ _ _ _ _ _ v u hb hl6)) (Cl_of (kX2_see_full _ _ _ _ _ _ _ _ _ _ _ _ _ _ _ _ _ _ _ _ _ v u hin hinu hl6)) rfl (RelW_mk ⟨hln, hse, hs, hac, hnx, hpa, hinj, hsl, hE, hIU, hpastU, hkb, hslotU, by omega⟩)
  · by_cases h1 : ¬ v < 0 ∧ v ≤ 60
    · exact sim_mk (Cl_of (kX1_see_bad _ _ _ _ _ _ _ _ _ _ _ _ _ _ _ _ _ _ _ _ _ _ v u hb)) (Cl_of (kX2_see_bad2 _ _ _ _ _ _ _ _ _ _ _ _ _ _ _ _ _ _ _ _ _ v u ((in_t (lo := 0) (hi := 60) (by decide) (by decide)).mpr h1) ((in_f (lo := 0) (hi := 99) (by decide) (by decide)).mpr (fun q => hb ⟨h1.1, h1.2, q.1, q.2⟩)))) rfl (RelW_mk ⟨hln, hse, hs, hac, hnx, hpa, hinj, hsl, hE, hIU, hpastU, hkb, hslotU, by omega⟩)
    · exact sim_mk (Cl_of (kX1_see_bad _ _ _ _ _ _ _ _ _ _ _ _ _ _ _ _ _ _ _ _ _ _ v u hb)) (Cl_of (kX2_see_bad1 _ _ _ _ _ _ _ _ _ _ _ _ _ _ _ _ _ _ _ _ _ v u ((in_f (lo := 0) (hi := 60) (by decide) (by decide)).mpr h1))) rfl (RelW_mk ⟨hln, hse, hs, hac, hnx, hpa, hinj, hsl, hE, hIU, hpastU, hkb, hslotU, by omega⟩)

theorem sim_which {l : Launch} {D : va_G} {cI cZ cQ : ClassId} {a0 x0 n G : Nat} {wM wX : va_W} (hR : RelW cI cZ cQ a0 x0 n G wM wX) (hn1 : 600 ≤ n) (hn2 : n ≤ 30000) (hG1 : 20000 ≤ G) (hG2 : G ≤ 900000)  : SimR l D cI cZ cQ a0 x0 n G wM wX yX1_which wsX1_which yX2_which wsX2_which [] := by
  obtain ⟨x, bn, bt, pa, sl, ac, kb, tx, ln, s1, s2, se, sd, sb, f, g, pb, qb, pr, qr, ix, a, nw, tr, di, nx, ke, ik, wo, re, rfl, rfl, rfl, rfl, hP⟩ := hR
  obtain ⟨hln, hse, hs, hac, hnx, hpa, hinj, hsl, hE, hI, hpast, hkb, hslot, hG⟩ := id hP
  have hIU : Inv (n + 40) (G + 1500) f := hI.mono (by omega) (by omega)
  have hpastU : ∀ i, i < ac → EK (pr (ix i)) (fun j => di (79 * ((nx + 14 - ac + i) % 14) + j)) ∧ Inv (n + 40) (G + 1500) (pr (ix i)) := fun i hi => ⟨(hpast i hi).1, (hpast i hi).2.mono (by omega) (by omega)⟩
  have hslotU : ∀ k, k < 2 → (S_has (nI kb) (nI k) = true ↔ ¬ ik k = 0) ∧ (S_has (nI kb) (nI k) = true → EK (qr k) (fun j => ke (79 * k + j)) ∧ Inv (n + 40) (G + 1500) (qr k)) := fun k hk => ⟨(hslot k hk).1, fun q => ⟨((hslot k hk).2 q).1, ((hslot k hk).2 q).2.mono (by omega) (by omega)⟩⟩
  have hz : Z67 nw := by
    have h := hI.z
    unfold Z67 at h ⊢
    rw [← hE.lo (j := 67) (by omega)]
    exact h
  exact sim_mk (Cl_of (kX1_which _ _ _ _ _ _ _ _ _ _ _ _ _ _ _ _ _ _ _ _ _ _ hse n G hI (by omega) (by omega))) (Cl_of (kX2_which _ _ _ _ _ _ _ _ _ _ _ _ _ _ _ _ _ _ _ _ _ hse hs)) (by first | (rw [e_which hE hs 9]; done) | (rw [e_which hE hs 9]; rfl)) (RelW_mk ⟨hln, hse, hs, hac, hnx, hpa, hinj, hsl, hE, hIU, hpastU, hkb, hslotU, by omega⟩)

theorem sim_drawn {l : Launch} {D : va_G} {cI cZ cQ : ClassId} {a0 x0 n G : Nat} {wM wX : va_W} (hR : RelW cI cZ cQ a0 x0 n G wM wX) (hn1 : 600 ≤ n) (hn2 : n ≤ 30000) (hG1 : 20000 ≤ G) (hG2 : G ≤ 900000) (v : Int32) : SimR l D cI cZ cQ a0 x0 n G wM wX yX1_drawn wsX1_drawn yX2_drawn wsX2_drawn [.int v] := by
  obtain ⟨x, bn, bt, pa, sl, ac, kb, tx, ln, s1, s2, se, sd, sb, f, g, pb, qb, pr, qr, ix, a, nw, tr, di, nx, ke, ik, wo, re, rfl, rfl, rfl, rfl, hP⟩ := hR
  obtain ⟨hln, hse, hs, hac, hnx, hpa, hinj, hsl, hE, hI, hpast, hkb, hslot, hG⟩ := id hP
  have hIU : Inv (n + 40) (G + 1500) f := hI.mono (by omega) (by omega)
  have hpastU : ∀ i, i < ac → EK (pr (ix i)) (fun j => di (79 * ((nx + 14 - ac + i) % 14) + j)) ∧ Inv (n + 40) (G + 1500) (pr (ix i)) := fun i hi => ⟨(hpast i hi).1, (hpast i hi).2.mono (by omega) (by omega)⟩
  have hslotU : ∀ k, k < 2 → (S_has (nI kb) (nI k) = true ↔ ¬ ik k = 0) ∧ (S_has (nI kb) (nI k) = true → EK (qr k) (fun j => ke (79 * k + j)) ∧ Inv (n + 40) (G + 1500) (qr k)) := fun k hk => ⟨(hslot k hk).1, fun q => ⟨((hslot k hk).2 q).1, ((hslot k hk).2 q).2.mono (by omega) (by omega)⟩⟩
  have hz : Z67 nw := by
    have h := hI.z
    unfold Z67 at h ⊢
    rw [← hE.lo (j := 67) (by omega)]
    exact h
  by_cases hb : ¬ v < 1 ∧ v ≤ 40
  · have hin := ((in_t (lo := 1) (hi := 40) (by decide) (by decide)).mpr hb)
    obtain ⟨k, hk1, hk2, e⟩ := rng_nat (lo := 1) (hi := 40) (by decide) (by decide) hb
    subst e
    exact sim_mk (Cl_of (kX1_drawn_ok _ _ _ _ _ _ _ _ _ _ _ _ _ _ _ _ _ _ _ _ _ _ k hk1 hk2 n G hG hI (by omega) (by omega))) (Cl_of (kX2_drawn_ok _ _ _ _ _ _ _ _ _ _ _ _ _ _ _ _ _ _ _ _ _ k (by omega) hin hz)) (by first | (rw [e_letters (EK_drT hE k), e_letters hE]; done) | (rw [e_letters (EK_drT hE k), e_letters hE]; rfl)) (RelW_mk ⟨hln, hse, hs, hac, hnx, hpa, hinj, hsl, hE, hIU, hpastU, hkb, hslotU, by omega⟩)
  · exact sim_mk (Cl_of (kX1_drawn_bad _ _ _ _ _ _ _ _ _ _ _ _ _ _ _ _ _ _ _ _ _ _ v hb)) (Cl_of (kX2_drawn_bad _ _ _ _ _ _ _ _ _ _ _ _ _ _ _ _ _ _ _ _ _ v ((in_f (lo := 1) (hi := 40) (by decide) (by decide)).mpr hb))) rfl (RelW_mk ⟨hln, hse, hs, hac, hnx, hpa, hinj, hsl, hE, hIU, hpastU, hkb, hslotU, by omega⟩)

theorem sim_chance {l : Launch} {D : va_G} {cI cZ cQ : ClassId} {a0 x0 n G : Nat} {wM wX : va_W} (hR : RelW cI cZ cQ a0 x0 n G wM wX) (hn1 : 600 ≤ n) (hn2 : n ≤ 30000) (hG1 : 20000 ≤ G) (hG2 : G ≤ 900000) (v u up : Int32) : SimR l D cI cZ cQ a0 x0 n G wM wX yX1_chance wsX1_chance yX2_chance wsX2_chance [.int v, .int u, .int up] := by
  obtain ⟨x, bn, bt, pa, sl, ac, kb, tx, ln, s1, s2, se, sd, sb, f, g, pb, qb, pr, qr, ix, a, nw, tr, di, nx, ke, ik, wo, re, rfl, rfl, rfl, rfl, hP⟩ := hR
  obtain ⟨hln, hse, hs, hac, hnx, hpa, hinj, hsl, hE, hI, hpast, hkb, hslot, hG⟩ := id hP
  have hIU : Inv (n + 40) (G + 1500) f := hI.mono (by omega) (by omega)
  have hpastU : ∀ i, i < ac → EK (pr (ix i)) (fun j => di (79 * ((nx + 14 - ac + i) % 14) + j)) ∧ Inv (n + 40) (G + 1500) (pr (ix i)) := fun i hi => ⟨(hpast i hi).1, (hpast i hi).2.mono (by omega) (by omega)⟩
  have hslotU : ∀ k, k < 2 → (S_has (nI kb) (nI k) = true ↔ ¬ ik k = 0) ∧ (S_has (nI kb) (nI k) = true → EK (qr k) (fun j => ke (79 * k + j)) ∧ Inv (n + 40) (G + 1500) (qr k)) := fun k hk => ⟨(hslot k hk).1, fun q => ⟨((hslot k hk).2 q).1, ((hslot k hk).2 q).2.mono (by omega) (by omega)⟩⟩
  have hz : Z67 nw := by
    have h := hI.z
    unfold Z67 at h ⊢
    rw [← hE.lo (j := 67) (by omega)]
    exact h
  by_cases hb : ¬ v < 0 ∧ v ≤ 99 ∧ ¬ u < 0 ∧ u ≤ 10
  · have hin := ((in_t (lo := 0) (hi := 99) (by decide) (by decide)).mpr ⟨hb.1, hb.2.1⟩)
    have hinu := ((in_t (lo := 0) (hi := 10) (by decide) (by decide)).mpr hb.2.2)
    obtain ⟨q, hq1, hq2, e⟩ := rng_nat (lo := 0) (hi := 10) (by decide) (by decide) hb.2.2
    subst e
    obtain ⟨E, hEl, eE⟩ := felt_nat hI.kn
    obtain ⟨X, hX, hX1⟩ := ch_abs (nw := nw) (v := v) hq2
    have es : S_chS (S_sub f 20 E) v q 64 = S_chN nw v q 64 := chS_chN hq2 (fun j hj => e_sub hE hI eE hEl hj) 64 (Nat.le_refl _)
    have hX' : S_abs (S_chS (S_sub f 20 E) v q 64) = nI X := by rw [es]; exact hX
    exact sim_mk (Cl_of (kX1_chance_ok _ _ _ _ _ _ _ _ _ _ _ _ _ _ _ _ _ _ _ _ _ _ v q up ⟨hb.1, hb.2.1⟩ hq2 E hEl eE X hX' hX1 n G hI (by omega) (by omega))) (Cl_of (kX2_chance_ok _ _ _ _ _ _ _ _ _ _ _ _ _ _ _ _ _ _ _ _ _ v q up hin hinu hz X hX hX1)) (by first | (rw [es]; done) | (rw [es]; rfl)) (RelW_mk ⟨hln, hse, hs, hac, hnx, hpa, hinj, hsl, hE, hIU, hpastU, hkb, hslotU, by omega⟩)
  · have hb2 : S_in (Int32.toInt64 v) 0 99 = false ∨ S_in (Int32.toInt64 u) 0 10 = false := by
      by_cases h1 : ¬ v < 0 ∧ v ≤ 99
      · exact Or.inr ((in_f (lo := 0) (hi := 10) (by decide) (by decide)).mpr (fun q => hb ⟨h1.1, h1.2, q.1, q.2⟩))
      · exact Or.inl ((in_f (lo := 0) (hi := 99) (by decide) (by decide)).mpr h1)
    exact sim_mk (Cl_of (kX1_chance_bad _ _ _ _ _ _ _ _ _ _ _ _ _ _ _ _ _ _ _ _ _ _ v u up hb)) (Cl_of (kX2_chance_bad _ _ _ _ _ _ _ _ _ _ _ _ _ _ _ _ _ _ _ _ _ v u up hb2)) rfl (RelW_mk ⟨hln, hse, hs, hac, hnx, hpa, hinj, hsl, hE, hIU, hpastU, hkb, hslotU, by omega⟩)

theorem sim_keep {l : Launch} {D : va_G} {cI cZ cQ : ClassId} {a0 x0 n G : Nat} {wM wX : va_W} (hR : RelW cI cZ cQ a0 x0 n G wM wX) (hn1 : 600 ≤ n) (hn2 : n ≤ 30000) (hG1 : 20000 ≤ G) (hG2 : G ≤ 900000) (v : Int32) : SimR l D cI cZ cQ a0 x0 n G wM wX yX1_keep wsX1_keep yX2_keep wsX2_keep [.int v] := by
  obtain ⟨x, bn, bt, pa, sl, ac, kb, tx, ln, s1, s2, se, sd, sb, f, g, pb, qb, pr, qr, ix, a, nw, tr, di, nx, ke, ik, wo, re, rfl, rfl, rfl, rfl, hP⟩ := hR
  obtain ⟨hln, hse, hs, hac, hnx, hpa, hinj, hsl, hE, hI, hpast, hkb, hslot, hG⟩ := id hP
  have hIU : Inv (n + 40) (G + 1500) f := hI.mono (by omega) (by omega)
  have hpastU : ∀ i, i < ac → EK (pr (ix i)) (fun j => di (79 * ((nx + 14 - ac + i) % 14) + j)) ∧ Inv (n + 40) (G + 1500) (pr (ix i)) := fun i hi => ⟨(hpast i hi).1, (hpast i hi).2.mono (by omega) (by omega)⟩
  have hslotU : ∀ k, k < 2 → (S_has (nI kb) (nI k) = true ↔ ¬ ik k = 0) ∧ (S_has (nI kb) (nI k) = true → EK (qr k) (fun j => ke (79 * k + j)) ∧ Inv (n + 40) (G + 1500) (qr k)) := fun k hk => ⟨(hslot k hk).1, fun q => ⟨((hslot k hk).2 q).1, ((hslot k hk).2 q).2.mono (by omega) (by omega)⟩⟩
  have hz : Z67 nw := by
    have h := hI.z
    unfold Z67 at h ⊢
    rw [← hE.lo (j := 67) (by omega)]
    exact h
  by_cases hb : ¬ v < 0 ∧ v ≤ nI 1
  · have hin := ((in_t (lo := 0) (hi := 1) (by decide) (by decide)).mpr hb)
    obtain ⟨k, hk1, hk2, e⟩ := rng_nat (lo := 0) (hi := 1) (by decide) (by decide) hb
    subst e
    have hk : k < 2 := by omega
    obtain ⟨ek, hk4, hbit⟩ := kb_or kb hkb k hk
    refine sim_mk (Cl_of (kX1_keep_ok _ _ _ _ _ _ _ _ _ _ _ _ _ _ _ _ _ _ _ _ _ [] k hk pb qb pr qr hsl)) (Cl_of (kX2_keep_ok _ _ _ _ _ _ _ _ _ _ _ _ _ _ _ _ _ _ _ _ _ k hk hin)) (by rw [hE.lo (j := 70) (by omega)]) ?_
    rw [ek]
    refine RelW_mk ⟨hln, hse, hs, hac, hnx, hpa, hinj, hsl, hE, hIU, hpastU, hk4, fun j hj => ?_, by omega⟩
    rw [hbit j hj]
    by_cases q : j = k
    · subst q
      rw [pk_us, decide_eq_true rfl, Bool.or_true, updR_s]
      exact ⟨⟨fun _ => by decide, fun _ => rfl⟩, fun _ => ⟨EK_congr hE (fun i hi => row_this hi), hIU⟩⟩
    · rw [pk_un q, decide_eq_false q, Bool.or_false, updR_n q]
      exact ⟨(hslotU j hj).1, fun z => ⟨EK_congr ((hslotU j hj).2 z).1 (fun i hi => row_other q hi), ((hslotU j hj).2 z).2⟩⟩
  · have hb1 : ¬ (¬ v < 0 ∧ v < 2) := fun q => hb ⟨q.1, lt_2.mp q.2⟩
    exact sim_mk (Cl_of (kX1_keep_bad _ _ _ _ _ _ _ _ _ _ _ _ _ _ _ _ _ _ _ _ _ _ v hb1)) (Cl_of (kX2_keep_bad _ _ _ _ _ _ _ _ _ _ _ _ _ _ _ _ _ _ _ _ _ v ((in_f (lo := 0) (hi := 1) (by decide) (by decide)).mpr hb))) rfl (RelW_mk ⟨hln, hse, hs, hac, hnx, hpa, hinj, hsl, hE, hIU, hpastU, hkb, hslotU, by omega⟩)

theorem sim_again {l : Launch} {D : va_G} {cI cZ cQ : ClassId} {a0 x0 n G : Nat} {wM wX : va_W} (hR : RelW cI cZ cQ a0 x0 n G wM wX) (hn1 : 600 ≤ n) (hn2 : n ≤ 30000) (hG1 : 20000 ≤ G) (hG2 : G ≤ 900000) (v : Int32) : SimR l D cI cZ cQ a0 x0 n G wM wX yX1_again wsX1_again yX2_again wsX2_again [.int v] := by
  obtain ⟨x, bn, bt, pa, sl, ac, kb, tx, ln, s1, s2, se, sd, sb, f, g, pb, qb, pr, qr, ix, a, nw, tr, di, nx, ke, ik, wo, re, rfl, rfl, rfl, rfl, hP⟩ := hR
  obtain ⟨hln, hse, hs, hac, hnx, hpa, hinj, hsl, hE, hI, hpast, hkb, hslot, hG⟩ := id hP
  have hIU : Inv (n + 40) (G + 1500) f := hI.mono (by omega) (by omega)
  have hpastU : ∀ i, i < ac → EK (pr (ix i)) (fun j => di (79 * ((nx + 14 - ac + i) % 14) + j)) ∧ Inv (n + 40) (G + 1500) (pr (ix i)) := fun i hi => ⟨(hpast i hi).1, (hpast i hi).2.mono (by omega) (by omega)⟩
  have hslotU : ∀ k, k < 2 → (S_has (nI kb) (nI k) = true ↔ ¬ ik k = 0) ∧ (S_has (nI kb) (nI k) = true → EK (qr k) (fun j => ke (79 * k + j)) ∧ Inv (n + 40) (G + 1500) (qr k)) := fun k hk => ⟨(hslot k hk).1, fun q => ⟨((hslot k hk).2 q).1, ((hslot k hk).2 q).2.mono (by omega) (by omega)⟩⟩
  have hz : Z67 nw := by
    have h := hI.z
    unfold Z67 at h ⊢
    rw [← hE.lo (j := 67) (by omega)]
    exact h
  by_cases hb : ¬ v < 0 ∧ v ≤ nI 1
  · have hin := ((in_t (lo := 0) (hi := 1) (by decide) (by decide)).mpr hb)
    obtain ⟨k, hk1, hk2, e⟩ := rng_nat (lo := 0) (hi := 1) (by decide) (by decide) hb
    subst e
    have hk : k < 2 := by omega
    cases hh : S_has (nI kb) (nI k) with
    | false =>
      have h0 : ik k = 0 := by
        by_cases q : ik k = 0
        · exact q
        · rw [(hslot k hk).1.mpr q] at hh; cases hh
      exact sim_mk (Cl_of (kX1_again_late _ _ _ _ _ _ _ _ _ _ _ _ _ _ _ _ _ _ _ _ _ _ k hk hh)) (Cl_of (kX2_again_late _ _ _ _ _ _ _ _ _ _ _ _ _ _ _ _ _ _ _ _ _ k hk hin h0)) rfl (RelW_mk ⟨hln, hse, hs, hac, hnx, hpa, hinj, hsl, hE, hIU, hpastU, hkb, hslotU, by omega⟩)
    | true =>
      obtain ⟨hE2, hI2⟩ := (hslotU k hk).2 hh
      exact sim_mk (Cl_of (kX1_again_ok _ _ _ _ _ _ _ _ _ _ _ _ _ _ _ _ _ _ _ _ _ [] k hk hh pb qb pr qr hsl)) (Cl_of (kX2_again_ok _ _ _ _ _ _ _ _ _ _ _ _ _ _ _ _ _ _ _ _ _ k hk hin ((hslot k hk).1.mp hh))) (by first | (rw [hE2.lo (j := 70) (by omega)]; done) | (rw [hE2.lo (j := 70) (by omega)]; rfl)) (RelW_mk ⟨hln, hse, hs, Nat.zero_le _, hnx, hpa, hinj, hsl, hE2, hI2, fun i hi => absurd hi (by omega), hkb, hslotU, by omega⟩)
  · have hb1 : ¬ (¬ v < 0 ∧ v < 2) := fun q => hb ⟨q.1, lt_2.mp q.2⟩
    exact sim_mk (Cl_of (kX1_again_bad _ _ _ _ _ _ _ _ _ _ _ _ _ _ _ _ _ _ _ _ _ _ v hb1)) (Cl_of (kX2_again_bad _ _ _ _ _ _ _ _ _ _ _ _ _ _ _ _ _ _ _ _ _ v ((in_f (lo := 0) (hi := 1) (by decide) (by decide)).mpr hb))) rfl (RelW_mk ⟨hln, hse, hs, hac, hnx, hpa, hinj, hsl, hE, hIU, hpastU, hkb, hslotU, by omega⟩)

def ClE (l : Launch) (D : va_G) (tys : List (ClassId × FieldType)) (y : MethodName) (ws : List Cond) (av : List Value) (w : va_W) (rv : Option Value) (w' : va_W) : Prop := ∃ rm : Room, rm.frames ≤ 9 ∧ rm.locals ≤ 340 ∧ CtE l D tys y ws rm av w (ordE w) rv 0 0 (fun (_ : Unit) => True) (fun _ => w')
theorem ClE_of {l : Launch} {D : va_G} {tys : List (ClassId × FieldType)} {y : MethodName} {ws : List Cond} {rm : Room} {av : List Value} {w : va_W} {rv : Option Value} {w' : va_W} (h : CtE l D tys y ws rm av w (ordE w) rv 0 0 (fun (_ : Unit) => True) (fun _ => w')) (h1 : rm.frames ≤ 9 := by decide) (h2 : rm.locals ≤ 340 := by decide) : ClE l D tys y ws av w rv w' := ⟨rm, h1, h2, h⟩
def SimE (l : Launch) (D : va_G) (cI cZ cQ : ClassId) (a0 x0 n G : Nat) (wM wX : va_W) (y1 : MethodName) (ws1 : List Cond) (y2 : MethodName) (ws2 : List Cond) (av : List Value) : Prop := ∃ (wM' wX' : va_W) (r : Int32), RelW cI cZ cQ a0 x0 (n + 40) (G + 1500) wM' wX' ∧ ClE l D (gTy cI cZ cQ) y1 ws1 (.ref x0 :: av) wX (some (.int r)) wX' ∧ Cl l D (gTy cI cZ cQ) y2 ws2 (.ref a0 :: av) wM (some (.int r)) wM'
theorem simE_mk {l : Launch} {D : va_G} {cI cZ cQ : ClassId} {a0 x0 n G : Nat} {wM wX wM' wX' : va_W} {y1 : MethodName} {ws1 : List Cond} {y2 : MethodName} {ws2 : List Cond} {av : List Value} {r r2 : Int32} (c1 : ClE l D (gTy cI cZ cQ) y1 ws1 (.ref x0 :: av) wX (some (.int r)) wX') (c2 : Cl l D (gTy cI cZ cQ) y2 ws2 (.ref a0 :: av) wM (some (.int r2)) wM') (e : r = r2) (h : RelW cI cZ cQ a0 x0 (n + 40) (G + 1500) wM' wX') : SimE l D cI cZ cQ a0 x0 n G wM wX y1 ws1 y2 ws2 av := ⟨wM', wX', r, h, c1, by rw [e]; exact c2⟩
theorem sim_share {l : Launch} {D : va_G} {cI cZ cQ : ClassId} {a0 x0 n G : Nat} {wM wX : va_W} (hR : RelW cI cZ cQ a0 x0 n G wM wX) (hn1 : 600 ≤ n) (hn2 : n ≤ 30000) (hG1 : 20000 ≤ G) (hG2 : G ≤ 900000) (v up : Int32) : SimR l D cI cZ cQ a0 x0 n G wM wX yX1_share wsX1_share yX2_share wsX2_share [.int v, .int up] ∨ SimE l D cI cZ cQ a0 x0 n G wM wX yX1_share wsX1_share yX2_share wsX2_share [.int v, .int up] := by
  obtain ⟨x, bn, bt, pa, sl, ac, kb, tx, ln, s1, s2, se, sd, sb, f, g, pb, qb, pr, qr, ix, a, nw, tr, di, nx, ke, ik, wo, re, rfl, rfl, rfl, rfl, hP⟩ := hR
  obtain ⟨hln, hse, hs, hac, hnx, hpa, hinj, hsl, hE, hI, hpast, hkb, hslot, hG⟩ := id hP
  have hIU : Inv (n + 40) (G + 1500) f := hI.mono (by omega) (by omega)
  have hpastU : ∀ i, i < ac → EK (pr (ix i)) (fun j => di (79 * ((nx + 14 - ac + i) % 14) + j)) ∧ Inv (n + 40) (G + 1500) (pr (ix i)) := fun i hi => ⟨(hpast i hi).1, (hpast i hi).2.mono (by omega) (by omega)⟩
  have hslotU : ∀ k, k < 2 → (S_has (nI kb) (nI k) = true ↔ ¬ ik k = 0) ∧ (S_has (nI kb) (nI k) = true → EK (qr k) (fun j => ke (79 * k + j)) ∧ Inv (n + 40) (G + 1500) (qr k)) := fun k hk => ⟨(hslot k hk).1, fun q => ⟨((hslot k hk).2 q).1, ((hslot k hk).2 q).2.mono (by omega) (by omega)⟩⟩
  have hz : Z67 nw := by
    have h := hI.z
    unfold Z67 at h ⊢
    rw [← hE.lo (j := 67) (by omega)]
    exact h
  cases hm : S_mem v with
  | false =>
    refine Or.inl ?_
    exact sim_mk (Cl_of (kX1_share_bad _ _ _ _ _ _ _ _ _ _ _ _ _ _ _ _ _ _ _ _ _ _ v up hm)) (Cl_of (kX2_share_bad _ _ _ _ _ _ _ _ _ _ _ _ _ _ _ _ _ _ _ _ _ v up (isM_mem.trans hm))) rfl (RelW_mk ⟨hln, hse, hs, hac, hnx, hpa, hinj, hsl, hE, hIU, hpastU, hkb, hslotU, by omega⟩)
  | true =>
    refine Or.inr ?_
    obtain ⟨k, hk, e⟩ := mem_ex hm
    subst e
    obtain ⟨E, hEl, eE⟩ := felt_nat hI.kn
    obtain ⟨X, hX, hX1⟩ := more_abs (nw := nw) hk
    have es : S_shS (S_sub f 30 E) k 64 = S_more nw k 64 := shS_more hk (fun j hj => e_sub hE hI eE hEl hj) 64 (Nat.le_refl _)
    have hX' : S_abs (S_shS (S_sub f 30 E) k 64) = nI X := by rw [es]; exact hX
    exact simE_mk (ClE_of (kX1_share_ok _ _ _ _ _ _ _ _ _ _ _ _ _ _ _ _ _ _ _ _ _ _ k up hk E hEl eE X hX' hX1 n G hI (by omega) (by omega))) (Cl_of (kX2_share_ok _ _ _ _ _ _ _ _ _ _ _ _ _ _ _ _ _ _ _ _ _ k up hk hz X hX hX1)) (by rw [es]) (RelW_mk ⟨hln, hse, hs, hac, hnx, hpa, hinj, hsl, hE, hIU, hpastU, hkb, hslotU, by omega⟩)
theorem RelW_x {cI cZ cQ : ClassId} {a0 x0 n G : Nat} {wM wX : va_W} (h : RelW cI cZ cQ a0 x0 n G wM wX) : (∃ fs, wX[0]? = some (x0, .inr (1, fs))) ∧ ∃ fs, wM[0]? = some (a0, .inr (2, fs)) := by
  obtain ⟨x, bn, bt, pa, sl, ac, kb, tx, ln, s1, s2, se, sd, sb, f, g, pb, qb, pr, qr, ix, a, nw, tr, di, nx, ke, ik, wo, re, rfl, rfl, rfl, rfl, hP⟩ := h
  exact ⟨⟨_, rfl⟩, ⟨_, rfl⟩⟩
