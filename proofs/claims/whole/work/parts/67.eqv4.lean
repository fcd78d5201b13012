/-! reading: class and reference -/
theorem EK_ev {f g : Row} {x v : Int32} (h : EK f g) (hv : S_isM v = true) : EK (S_ev f x v) (S_ev g x v) := by
  obtain ⟨k, hk, e⟩ := isM_ex hv
  unfold S_ev
  rw [e, nI_clamp (by omega)]
  split
  · exact EK_joins h hk
  · exact EK_leaves h hk
theorem e_may {f g : Row} {x : Int32} (h : EK f g) : S_may f x = S_may g x := by
  unfold S_may
  rw [e_those h, e_those h]
theorem e_mok {f g : Row} {x v : Int32} (h : EK f g) : S_mok f x v = S_mok g x v := by
  unfold S_mok
  rw [e_may h]
theorem EK_rd {tx : Row} {ln : Nat} : ∀ (n k : Nat) (f g : Row), EK f g → (S_rd tx ln n k f).1 = (S_rd tx ln n k g).1 ∧ EK (S_rd tx ln n k f).2 (S_rd tx ln n k g).2
  | 0, _, _, _, h => ⟨rfl, h⟩
  | n + 1, k, f, g, h => by
    rw [S_rd, S_rd]
    by_cases hk : ln ≤ k
    · rw [if_pos hk, if_pos hk]; exact ⟨rfl, h⟩
    · rw [if_neg hk, if_neg hk]
      by_cases hf : S_in (Int32.toInt64 (tx k - 48)) 1 9 = true
      · rw [if_pos hf, if_pos hf]
        exact EK_rd n (k + 1) _ _ (EK_ticks h _)
      · rw [if_neg hf, if_neg hf, e_may h, e_mok h]
        by_cases hm : S_may g (tx k) = 0
        · rw [if_pos hm, if_pos hm]; exact ⟨rfl, h⟩
        · rw [if_neg hm, if_neg hm]
          by_cases ho : S_mok g (tx k) (S_let tx ln (k + 1)) = true
          · rw [if_pos ho, if_pos ho]
            exact EK_rd n (k + 2) _ _ (EK_ev h (mok_isM ho))
          · rw [if_neg ho, if_neg ho]; exact ⟨rfl, h⟩
theorem Inv_ev {n G : Nat} {g : Row} {x v : Int32} (h : Inv n G g) (hx : x = 106 ∨ x = 108) (hm : S_mok g x v = true) (hn : n ≤ 1048576) (hG : 1 ≤ G) : Inv n (G + 6) (S_ev g x v) := by
  rcases hx with rfl | rfl
  · rw [mok_ent] at hm
    rw [ev_ent hm]
    exact (Inv_ent h).mono (Nat.le_refl _) (by omega)
  · rw [mok_dep] at hm
    rw [ev_dep hm]
    exact Inv_dep h hn hG
theorem Inv_rd {tx : Row} {ln : Nat} : ∀ (n k a b : Nat) (g : Row), Inv a b g → 1 ≤ b → a + 9 * n ≤ 100000 → b + 324 * n ≤ 100000 → Inv (a + 9 * n) (b + 324 * n) (S_rd tx ln n k g).2
  | 0, _, _, _, _, h, _, _, _ => h
  | n + 1, k, a, b, g, h, h1, h2, h3 => by
    have hm : Inv (a + 9 * (n + 1)) (b + 324 * (n + 1)) g := h.mono (by omega) (by omega)
    rw [S_rd]
    by_cases hk : ln ≤ k
    · rw [if_pos hk]; exact hm
    · rw [if_neg hk]
      by_cases hf : S_in (Int32.toInt64 (tx k - 48)) 1 9 = true
      · rw [if_pos hf]
        obtain ⟨d, hd1, hd2, ed⟩ := in_nat (lo := 1) (hi := 9) (by decide) (by decide) hf
        rw [ed, nI_clamp (by omega)]
        have hb8 : b ≤ 100000 := Nat.le_trans (Nat.le_add_right b _) h3
        have ha8 : a ≤ 100000 := Nat.le_trans (Nat.le_add_right a _) h2
        have h5 : Inv (a + 9) (b + 324) (S_ticks g d) := by
          clear h2 h3 hm Inv_rd
          exact (Inv_ticks h 9 (by omega) (by omega) d hd2).mono (by omega) (by omega)
        have h6 := Inv_rd (tx := tx) (ln := ln) n (k + 1) (a + 9) (b + 324) (S_ticks g d) h5 (by omega) (by omega) (by omega)
        exact h6.mono (by omega) (by omega)
      · rw [if_neg hf]
        by_cases hm2 : S_may g (tx k) = 0
        · rw [if_pos hm2]; exact hm
        · rw [if_neg hm2]
          by_cases ho : S_mok g (tx k) (S_let tx ln (k + 1)) = true
          · rw [if_pos ho]
            have hx : tx k = 106 ∨ tx k = 108 := may_is (g := g) (cb_may.1.mpr hm2)
            have h5 : Inv (a + 9) (b + 324) (S_ev g (tx k) (S_let tx ln (k + 1))) := (Inv_ev h hx ho (by omega) h1).mono (by omega) (by omega)
            have h6 := Inv_rd (tx := tx) (ln := ln) n (k + 2) (a + 9) (b + 324) _ h5 (by omega) (by omega) (by omega)
            exact h6.mono (by omega) (by omega)
          · rw [if_neg ho]; exact hm
theorem fst_hd {tx : Row} {ln : Nat} : ∀ n k, 0 < k → k + n ≤ 7 → S_fst tx ln k n = S_hd tx ln k n
  | 0, _, _, _ => rfl
  | n + 1, k, h0, h7 => by
    rw [S_fst, S_hd, ok_hok h0 (by omega), fst_hd n (k + 1) (by omega) (by omega)]
theorem hdR_lo {tx g : Row} : ∀ n j, n ≤ 6 → (j < 66 ∨ 70 ≤ j) → S_hdR tx g n j = g j
  | 0, _, _, _ => rfl
  | n + 1, j, hn, hj => by
    show S_hdS tx (n + 1) (S_hdR tx g n) j = g j
    unfold S_hdS
    split
    · rw [pk_un (by omega)]; exact hdR_lo n j (by omega) hj
    · rw [pk_un (by omega)]; exact hdR_lo n j (by omega) hj
theorem hdR_sz {tx g : Row} : S_hdR tx g 6 66 = tx 1 - 48 ∧ S_hdR tx g 6 67 = tx 2 - 48 ∧ S_hdR tx g 6 68 = tx 3 - 48 ∧ S_hdR tx g 6 69 = 10 * (10 * (10 * g 69 + (tx 4 - 48)) + (tx 5 - 48)) + (tx 6 - 48) := by
  have e : S_hdR tx g 6 = S_hdS tx 6 (S_hdS tx 5 (S_hdS tx 4 (S_hdS tx 3 (S_hdS tx 2 (S_hdS tx 1 g))))) := rfl
  have e1 : S_hdS tx 1 g = upd g 66 (tx 1 - 48) := rfl
  have e2 : ∀ h, S_hdS tx 2 h = upd h 67 (tx 2 - 48) := fun _ => rfl
  have e3 : ∀ h, S_hdS tx 3 h = upd h 68 (tx 3 - 48) := fun _ => rfl
  have e4 : ∀ h, S_hdS tx 4 h = upd h 69 (10 * h 69 + (tx 4 - 48)) := fun _ => rfl
  have e5 : ∀ h, S_hdS tx 5 h = upd h 69 (10 * h 69 + (tx 5 - 48)) := fun _ => rfl
  have e6 : ∀ h, S_hdS tx 6 h = upd h 69 (10 * h 69 + (tx 6 - 48)) := fun _ => rfl
  rw [e, e6, e5, e4, e3, e2, e1]
  refine ⟨?_, ?_, ?_, ?_⟩
  · rw [pk_un (by decide), pk_un (by decide), pk_un (by decide), pk_un (by decide), pk_un (by decide), pk_us]
  · rw [pk_un (by decide), pk_un (by decide), pk_un (by decide), pk_un (by decide), pk_us]
  · rw [pk_un (by decide), pk_un (by decide), pk_un (by decide), pk_us]
  · rw [pk_us, pk_us, pk_us, pk_un (by decide), pk_un (by decide), pk_un (by decide)]
theorem EK_head {tx g : Row} {ln : Nat} (hall : ∀ j, j < 7 → S_ok tx ln j = true) : EK (S_rh tx g) (S_hdR tx S_init 6) := by
  have hz : ∀ k, k < 6 → S_rh tx g (6 + k) = 0 := fun k hk => (rh_mem hk).2.1
  refine ⟨⟨fun j hj => ?_, fun k o hk ho hs => ?_⟩, fun k hk => ⟨0, by decide, hz k hk⟩⟩
  · obtain ⟨s1, s2, s3, s4⟩ := rh_sz (tx := tx) (g := g)
    obtain ⟨t1, t2, t3, t4⟩ := hdR_sz (tx := tx) (g := S_init)
    by_cases h6 : 66 ≤ j ∧ j < 70
    · rcases (show j = 66 ∨ j = 67 ∨ j = 68 ∨ j = 69 by omega) with rfl | rfl | rfl | rfl
      · rw [s1, t1]
      · rw [s2, t2]
      · rw [s3, t3]
      · rw [s4, t4]
        obtain ⟨a, ha, ea⟩ := ok_09 (by decide) (by decide) (hall 4 (by decide))
        obtain ⟨b, hb, eb⟩ := ok_09 (by decide) (by decide) (hall 5 (by decide))
        obtain ⟨c, hc, ec⟩ := ok_09 (by decide) (by decide) (hall 6 (by decide))
        have e0 : S_init 69 = nI 0 := by unfold S_init; rw [if_neg (by decide)]; rfl
        rw [ea, eb, ec, e0, show (100 : Int32) = nI 100 from rfl, show (10 : Int32) = nI 10 from rfl, pk_mul, pk_mul, nI_add, nI_add, pk_mul, nI_add, pk_mul, nI_add, pk_mul, nI_add]
        congr 1
        omega
    · rw [hdR_lo 6 j (Nat.le_refl 6) (by omega), ← init_z (by omega)]
      rcases (show j < 6 ∨ (6 ≤ j ∧ j < 12) ∨ (48 ≤ j ∧ j < 54) ∨ (54 ≤ j ∧ j < 60) ∨ (60 ≤ j ∧ j < 66) ∨ j = 70 ∨ j = 71 ∨ j = 72 ∨ (73 ≤ j ∧ j < 79) by omega) with q | q | q | q | q | q | q | q | q
      · exact (rh_mem q).1
      · have := (rh_mem (tx := tx) (g := g) (k := j - 6) (by omega)).2.1
        rwa [show 6 + (j - 6) = j by omega] at this
      · have := (rh_mem (tx := tx) (g := g) (k := j - 48) (by omega)).2.2.1
        rwa [show 48 + (j - 48) = j by omega] at this
      · have := (rh_mem (tx := tx) (g := g) (k := j - 54) (by omega)).2.2.2.1
        rwa [show 54 + (j - 54) = j by omega] at this
      · have := (rh_mem (tx := tx) (g := g) (k := j - 60) (by omega)).2.2.2.2.1
        rwa [show 60 + (j - 60) = j by omega] at this
      · rw [q]; exact rh_70.1
      · rw [q]; exact rh_70.2.1
      · rw [q]; exact rh_70.2.2
      · have := (rh_mem (tx := tx) (g := g) (k := j - 73) (by omega)).2.2.2.2.2
        rwa [show 73 + (j - 73) = j by omega] at this
  · rw [hz k hk, (by decide : ∀ k, k < 6 → S_has 0 (nI k) = false) o ho] at hs
    cases hs
theorem nI_n9 : ∀ k, k ≤ 60 → ¬ nI k = -9 := by decide
/-- both read alike -/
theorem read_eq {tx g : Row} {ln : Nat} (hln : ln ≤ 60) : (S_readC tx ln g).1 = (S_read tx ln).1 ∧ ((S_readC tx ln g).1 = -9 → EK (S_readC tx ln g).2 (S_read tx ln).2 ∧ Inv 600 20000 (S_readC tx ln g).2) := by
  unfold S_readC S_read
  by_cases h0 : ln = 0
  · subst h0
    have e : S_fst tx 0 0 7 = some 0 := by rw [S_fst, ok_no (Nat.le_refl 0), if_neg Bool.false_ne_true]
    rw [e, if_pos rfl]
    exact ⟨rfl, fun q => absurd q (nI_n9 0 (by decide))⟩
  · rw [if_neg h0]
    by_cases h7 : tx 0 = 77
    · have hk : S_ok tx ln 0 = true := by
        rw [ok_hk (by omega)]
        unfold S_hk
        rw [if_pos (show nI 0 = 0 from rfl), if_pos h7]
      have e : S_fst tx ln 0 7 = S_hd tx ln 1 6 := by rw [S_fst, if_pos hk]; exact fst_hd 6 1 (by decide) (by decide)
      rw [if_pos h7, e]
      cases hh : S_hd tx ln 1 6 with
      | some k =>
        have := hd_some hh
        exact ⟨rfl, fun q => absurd q (nI_n9 k (by omega))⟩
      | none =>
        have hall : ∀ j, j < 7 → S_ok tx ln j = true := by
          intro j hj
          by_cases q : j = 0
          · subst q; exact hk
          · rw [ok_hok (by omega) hj]; exact hd_none hh j (by omega) (by omega)
        have hE := EK_rd (tx := tx) (ln := ln) (ln + 1) 7 _ _ (EK_head (g := g) hall)
        exact ⟨hE.1, fun _ => ⟨hE.2, (Inv_rd (tx := tx) (ln := ln) (ln + 1) 7 (9 * 0) (1 + 324 * 0) _ (Inv_rh hall) (by decide) (by omega) (by omega)).mono (by omega) (by omega)⟩⟩
    · have hk : S_ok tx ln 0 = false := by
        rw [ok_hk (by omega)]
        unfold S_hk
        rw [if_pos (show nI 0 = 0 from rfl), if_neg h7]
      have e : S_fst tx ln 0 7 = some 0 := by rw [S_fst, hk, if_neg Bool.false_ne_true]
      rw [if_neg h7, e]
      exact ⟨rfl, fun q => absurd q (nI_n9 0 (by decide))⟩
/-! refusals: the same on both sides -/
theorem in_t {v : Int32} {lo hi : Nat} (hl : lo < 2 ^ 31) (hh : hi < 2 ^ 31) : S_in (Int32.toInt64 v) (lN lo) (lN hi) = true ↔ (¬ v < nI lo ∧ v ≤ nI hi) := by
  unfold S_in
  have e1 : Int32.toInt64 v < lN lo ↔ v < nI lo := by rw [Int64.lt_iff_toInt_lt, Int32.toInt_toInt64, lN_toInt hl, Int32.lt_iff_toInt_lt, nI_toInt hl]
  have e2 : lN hi < Int32.toInt64 v ↔ ¬ v ≤ nI hi := by rw [Int64.lt_iff_toInt_lt, Int32.toInt_toInt64, lN_toInt hh, Int32.not_le, Int32.lt_iff_toInt_lt, nI_toInt hh]
  by_cases h1 : v < nI lo
  · rw [if_pos (e1.mpr h1)]
    exact ⟨fun q => (by cases q), fun q => absurd h1 q.1⟩
  · rw [if_neg (fun q => h1 (e1.mp q))]
    by_cases h2 : v ≤ nI hi
    · rw [if_neg (fun q => (e2.mp q) h2)]
      exact ⟨fun _ => ⟨h1, h2⟩, fun _ => rfl⟩
    · rw [if_pos (e2.mpr h2)]
      exact ⟨fun q => (by cases q), fun q => absurd q.2 h2⟩
theorem in_f {v : Int32} {lo hi : Nat} (hl : lo < 2 ^ 31) (hh : hi < 2 ^ 31) : S_in (Int32.toInt64 v) (lN lo) (lN hi) = false ↔ ¬ (¬ v < nI lo ∧ v ≤ nI hi) := by
  rw [← in_t hl hh]
  cases S_in (Int32.toInt64 v) (lN lo) (lN hi) <;> simp
theorem rng_nat {v : Int32} {lo hi : Nat} (hl : lo < 2 ^ 31) (hh : hi < 2 ^ 31) (h : ¬ v < nI lo ∧ v ≤ nI hi) : ∃ d : Nat, lo ≤ d ∧ d ≤ hi ∧ v = nI d := in_nat hl hh ((in_t hl hh).mpr h)
theorem long_nat {y : Int64} (h : ¬ y < 0) : ∃ X : Nat, X < 2 ^ 63 ∧ y = lN X := by
  have e0 : ((0 : Int64)).toInt = 0 := by decide
  rw [Int64.lt_iff_toInt_lt, e0] at h
  have h2 := y.toInt_lt
  refine ⟨y.toInt.toNat, by omega, Int64.toInt_inj.mp ?_⟩
  unfold lN
  rw [Int64.toInt_ofNat_of_lt (by omega)]
  omega
theorem in_p {y : Int64} {p q : Int64} (e : p.toInt = q.toInt + 1) : S_in y 0 q = true ↔ (¬ y < 0 ∧ y < p) := by
  unfold S_in
  by_cases h1 : y < 0
  · rw [if_pos h1]
    exact ⟨fun q => (by cases q), fun q => absurd h1 q.1⟩
  · rw [if_neg h1]
    by_cases h2 : q < y
    · rw [if_pos h2]
      refine ⟨fun q => (by cases q), fun z => ?_⟩
      have h3 := z.2
      rw [Int64.lt_iff_toInt_lt] at h2 h3
      omega
    · rw [if_neg h2]
      refine ⟨fun _ => ⟨h1, ?_⟩, fun _ => rfl⟩
      rw [Int64.lt_iff_toInt_lt] at h2 ⊢
      omega
theorem p100 : ∀ m, m < 7 → (S_ten (2 * m)).toInt = (S_lpow 100 m - 1).toInt + 1 := by decide +kernel
theorem p1000 : ∀ m, m < 5 → (S_ten (3 * m)).toInt = (S_lpow 1000 m - 1).toInt + 1 := by decide +kernel
theorem time_in {v : Int32} : S_time v = S_in (Int32.toInt64 v) 0 9999 := by
  have h := in_t (v := v) (lo := 0) (hi := 9999) (by decide) (by decide)
  have h' : S_time v = true ↔ (¬ v < nI 0 ∧ v ≤ nI 9999) := by
    unfold S_time
    by_cases h1 : v < 0
    · rw [if_pos h1]; exact ⟨fun q => (by cases q), fun q => absurd h1 q.1⟩
    · rw [if_neg h1]
      by_cases h2 : 9999 < v
      · rw [if_pos h2]; exact ⟨fun q => (by cases q), fun q => absurd q.2 (Int32.not_le.mpr h2)⟩
      · rw [if_neg h2]; exact ⟨fun _ => ⟨h1, Int32.not_lt.mp h2⟩, fun _ => rfl⟩
  have h3 := h'.trans h.symm
  cases a : S_time v with
  | true => exact (h3.mp a).symm
  | false =>
    cases b : S_in (Int32.toInt64 v) 0 9999 with
    | false => rfl
    | true => rw [h3.mpr b] at a; cases a
