/-! the whole reading, as the class does it -/
def S_fst (tx : Row) (ln : Nat) : Nat → Nat → Option Nat
  | _, 0 => none
  | k, n + 1 => if S_ok tx ln k then S_fst tx ln (k + 1) n else some k
theorem fst_some {tx : Row} {ln : Nat} : ∀ {n k0 k : Nat}, S_fst tx ln k0 n = some k → k0 ≤ k ∧ k < k0 + n ∧ (∀ j, k0 ≤ j → j < k → S_ok tx ln j = true) ∧ S_ok tx ln k = false
  | 0, _, _, h => by unfold S_fst at h; cases h
  | n + 1, k0, k, h => by
    unfold S_fst at h
    split at h
    · next q =>
      obtain ⟨h1, h2, h3, h4⟩ := fst_some h
      refine ⟨by omega, by omega, fun j hj hk => ?_, h4⟩
      by_cases e : j = k0
      · subst e; exact q
      · exact h3 j (by omega) hk
    · next q =>
      cases h
      exact ⟨Nat.le_refl _, by omega, fun j hj hk => absurd hk (by omega), by cases e : S_ok tx ln k0 with | true => exact absurd e q | false => rfl⟩
theorem fst_none {tx : Row} {ln : Nat} : ∀ {n k0 : Nat}, S_fst tx ln k0 n = none → ∀ j, k0 ≤ j → j < k0 + n → S_ok tx ln j = true
  | 0, _, _, j, hj, hk => absurd hk (by omega)
  | n + 1, k0, h, j, hj, hk => by
    unfold S_fst at h
    split at h
    · next q =>
      by_cases e : j = k0
      · subst e; exact q
      · exact fst_none h j (by omega) (by omega)
    · cases h
def S_readC (tx : Row) (ln : Nat) (g : Row) : Int32 × Row := match S_fst tx ln 0 7 with | some k => (nI k, g) | none => S_rd tx ln (ln + 1) 7 (S_rh tx g)
/-! what restart and the head leave -/
theorem rs_it {f : Row} : ∀ n, n ≤ 6 → (∀ j, j < n → it S_rsStep n (S_rs0 f) j = 0 ∧ it S_rsStep n (S_rs0 f) (6 + j) = 0 ∧ it S_rsStep n (S_rs0 f) (48 + j) = 0 ∧ it S_rsStep n (S_rs0 f) (54 + j) = 0 ∧ it S_rsStep n (S_rs0 f) (60 + j) = 0 ∧ it S_rsStep n (S_rs0 f) (73 + j) = 0) ∧ it S_rsStep n (S_rs0 f) 70 = 0 ∧ it S_rsStep n (S_rs0 f) 71 = 0 ∧ it S_rsStep n (S_rs0 f) 72 = 0
  | 0, _ => by
    refine ⟨fun j hj => absurd hj (by omega), ?_, ?_, ?_⟩ <;> rw [it_0] <;> unfold S_rs0
    · rw [pk_un (by decide), pk_un (by decide), pk_us]
    · rw [pk_un (by decide), pk_us]
    · rw [pk_us]
  | n + 1, h => by
    obtain ⟨h1, h2, h3, h4⟩ := rs_it (f := f) n (by omega)
    obtain ⟨e0, e1, e2, e3, e4⟩ := ga_0 (f := it S_rsStep n (S_rs0 f)) (k := n) (by omega)
    rw [it_s]
    unfold S_rsStep
    refine ⟨fun j hj => ?_, ?_, ?_, ?_⟩
    · by_cases q : j = n
      · subst q
        refine ⟨?_, ?_, ?_, ?_, ?_, pk_us⟩
        · rw [pk_un (by omega)]; exact e0
        · rw [pk_un (by omega)]; exact e1
        · rw [pk_un (by omega)]; exact e2
        · rw [pk_un (by omega)]; exact e3
        · rw [pk_un (by omega)]; exact e4
      · obtain ⟨a0, a1, a2, a3, a4, a5⟩ := h1 j (by omega)
        refine ⟨?_, ?_, ?_, ?_, ?_, ?_⟩
        · rw [pk_un (by omega), ga_ne (by omega) (by omega) (by omega) (by omega) (by omega)]; exact a0
        · rw [pk_un (by omega), ga_ne (by omega) (by omega) (by omega) (by omega) (by omega)]; exact a1
        · rw [pk_un (by omega), ga_ne (by omega) (by omega) (by omega) (by omega) (by omega)]; exact a2
        · rw [pk_un (by omega), ga_ne (by omega) (by omega) (by omega) (by omega) (by omega)]; exact a3
        · rw [pk_un (by omega), ga_ne (by omega) (by omega) (by omega) (by omega) (by omega)]; exact a4
        · rw [pk_un (by omega), ga_ne (by omega) (by omega) (by omega) (by omega) (by omega)]; exact a5
    · rw [pk_un (by omega), ga_ne (by omega) (by omega) (by omega) (by omega) (by omega)]; exact h2
    · rw [pk_un (by omega), ga_ne (by omega) (by omega) (by omega) (by omega) (by omega)]; exact h3
    · rw [pk_un (by omega), ga_ne (by omega) (by omega) (by omega) (by omega) (by omega)]; exact h4
theorem rh_lo {tx g : Row} {j : Nat} (h : j < 66 ∨ 70 ≤ j) : S_rh tx g j = S_restart g j := by
  unfold S_rh
  rw [pk_un (by omega), pk_un (by omega), pk_un (by omega), pk_un (by omega)]
theorem rh_mem {tx g : Row} {k : Nat} (hk : k < 6) : S_rh tx g k = 0 ∧ S_rh tx g (6 + k) = 0 ∧ S_rh tx g (48 + k) = 0 ∧ S_rh tx g (54 + k) = 0 ∧ S_rh tx g (60 + k) = 0 ∧ S_rh tx g (73 + k) = 0 := by
  obtain ⟨a0, a1, a2, a3, a4, a5⟩ := (rs_it (f := g) 6 (Nat.le_refl 6)).1 k hk
  refine ⟨?_, ?_, ?_, ?_, ?_, ?_⟩
  · rw [rh_lo (by omega)]; exact a0
  · rw [rh_lo (by omega)]; exact a1
  · rw [rh_lo (by omega)]; exact a2
  · rw [rh_lo (by omega)]; exact a3
  · rw [rh_lo (by omega)]; exact a4
  · rw [rh_lo (by omega)]; exact a5
theorem rh_70 {tx g : Row} : S_rh tx g 70 = 0 ∧ S_rh tx g 71 = 0 ∧ S_rh tx g 72 = 0 := by
  obtain ⟨-, a, b, c⟩ := rs_it (f := g) 6 (Nat.le_refl 6)
  refine ⟨?_, ?_, ?_⟩
  · rw [rh_lo (by omega)]; exact a
  · rw [rh_lo (by omega)]; exact b
  · rw [rh_lo (by omega)]; exact c
theorem rh_sz {tx g : Row} : S_rh tx g 66 = tx 1 - 48 ∧ S_rh tx g 67 = tx 2 - 48 ∧ S_rh tx g 68 = tx 3 - 48 ∧ S_rh tx g 69 = (tx 4 - 48) * 100 + (tx 5 - 48) * 10 + (tx 6 - 48) := by
  unfold S_rh
  refine ⟨?_, ?_, ?_, ?_⟩
  · rw [pk_un (by decide), pk_un (by decide), pk_un (by decide), pk_us]
  · rw [pk_un (by decide), pk_un (by decide), pk_us]
  · rw [pk_un (by decide), pk_us]
  · rw [pk_us]
theorem ok_19 {tx : Row} {ln k : Nat} (h0 : 0 < k) (h4 : k < 4) (h : S_ok tx ln k = true) : S19 (tx k - 48) := by
  rw [ok_hok h0 (by omega)] at h
  have h2 := (hok_ge h).2
  rw [if_pos h4] at h2
  obtain ⟨d, h3, h5, e⟩ := in_nat (lo := 1) (hi := 9) (by decide) (by decide) h2
  exact ⟨d, h3, h5, e⟩
theorem ok_09 {tx : Row} {ln k : Nat} (h4 : 4 ≤ k) (h7 : k < 7) (h : S_ok tx ln k = true) : ∃ d : Nat, d ≤ 9 ∧ tx k - 48 = nI d := by
  rw [ok_hok (by omega) h7] at h
  have h2 := (hok_ge h).2
  rw [if_neg (by omega)] at h2
  obtain ⟨d, h3, h5, e⟩ := in_nat (lo := 0) (hi := 9) (by decide) (by decide) h2
  exact ⟨d, h5, e⟩
theorem lot_nat {tx : Row} {ln : Nat} (hall : ∀ j, j < 7 → S_ok tx ln j = true) : ∃ z : Nat, z < 65536 ∧ (tx 4 - 48) * 100 + (tx 5 - 48) * 10 + (tx 6 - 48) = nI z := by
  obtain ⟨a, ha, ea⟩ := ok_09 (by decide) (by decide) (hall 4 (by decide))
  obtain ⟨b, hb, eb⟩ := ok_09 (by decide) (by decide) (hall 5 (by decide))
  obtain ⟨c, hc, ec⟩ := ok_09 (by decide) (by decide) (hall 6 (by decide))
  refine ⟨a * 100 + b * 10 + c, by omega, ?_⟩
  rw [ea, eb, ec, show (100 : Int32) = nI 100 from rfl, show (10 : Int32) = nI 10 from rfl, pk_mul, pk_mul, nI_add, nI_add]
theorem Inv_rh {tx g : Row} {ln : Nat} (hall : ∀ j, j < 7 → S_ok tx ln j = true) : Inv (9 * 0) (1 + 324 * 0) (S_rh tx g) := by
  obtain ⟨s1, s2, s3, s4⟩ := rh_sz (tx := tx) (g := g)
  refine Inv_iff.mpr ⟨⟨?_, ?_, ?_, ?_⟩, 0, Nat.le_refl _, rh_70.1, fun k hk => ?_⟩
  · rw [s1]; exact ok_19 (by decide) (by decide) (hall 1 (by decide))
  · rw [s2]; exact ok_19 (by decide) (by decide) (hall 2 (by decide))
  · rw [s3]; exact ok_19 (by decide) (by decide) (hall 3 (by decide))
  · rw [s4]; exact lot_nat hall
  · obtain ⟨a0, a1, a2, a3, a4, a5⟩ := rh_mem (tx := tx) (g := g) hk
    rw [a0, a1, a2, a3, a4]
    exact ⟨Or.inl ⟨rfl, rfl, rfl, rfl, rfl⟩, ⟨0, by decide, rfl⟩, (by decide : ∀ k, k < 6 → S_has 0 (nI k) = false) k hk, ⟨0, by omega, rfl⟩, ⟨0, by omega, rfl⟩, 0, by omega, rfl⟩
