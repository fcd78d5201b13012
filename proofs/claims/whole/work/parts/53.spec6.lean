/-! the class's own words for whole calls -/
theorem gt_x {i N : Nat} (hi : i ≤ N + 1) (hN : N < 2 ^ 30) (h : nI N < nI i) : N + 1 = i := by
  have := (nI_ltI (a := N) (b := i) (by omega) (by omega)).mp h
  omega
theorem gt_c {i N : Nat} (hi : i ≤ N + 1) (hN : N < 2 ^ 30) (h : ¬ nI N < nI i) : i < N + 1 := by
  rcases Nat.lt_or_ge i (N + 1) with q | q
  · exact q
  · exact absurd (nI_lt (a := N) (b := i) (by omega) (by omega)) h
def S_cb (g : Row) (v : Int32) : Bool := if S_may g v = 0 then false else true
theorem S_max_c {x y : Int32} : (if y < x then x else y) = S_max x y := by
  unfold S_max
  by_cases q : x ≤ y
  · rw [if_neg (Int32.not_lt.mpr q), if_pos q]
  · rw [if_pos (Int32.not_le.mp q), if_neg q]
/-! powers of ten -/
def S_ten : Nat → Int64
  | 0 => 1
  | n + 1 => S_ten n * 10
theorem S_ten_s (n : Nat) : S_ten (n + 1) = S_ten n * 10 := rfl
theorem ten_nat : ∀ j, j ≤ 18 → S_ten j = lN (10 ^ j) := by decide
def S_part (X b c : Nat) : Nat := X / 10 ^ (b * c) % 10 ^ c
theorem part_ok {X b c : Nat} (hX : X < 2 ^ 63) (hb : b * c ≤ 18) (hc : c ≤ 8) : Int64.toInt32 (lN X / S_ten (b * c) - lN X / S_ten (b * c) / S_ten c * S_ten c) = nI (S_part X b c) := by
  have h1 : 10 ^ (b * c) < 2 ^ 63 := Nat.lt_of_le_of_lt (Nat.pow_le_pow_right (by decide) hb) (by decide)
  have h2 : 10 ^ c < 2 ^ 63 := Nat.lt_of_le_of_lt (Nat.pow_le_pow_right (by decide) (show c ≤ 18 by omega)) (by decide)
  have h3 : 0 < 10 ^ (b * c) := Nat.pow_pos (by decide)
  have h4 : 0 < 10 ^ c := Nat.pow_pos (by decide)
  rw [ten_nat _ hb, ten_nat _ (by omega), pk_lDiv hX h3 h1, pk_lRem (Nat.lt_of_le_of_lt (Nat.div_le_self _ _) hX) h4 h2, lN_i]
  rfl
theorem ten_nz {j : Nat} (h : j ≤ 18) : ¬ S_ten j = 0 := by
  have : ∀ j, j ≤ 18 → ¬ S_ten j = 0 := by decide
  exact this j h
theorem part_2 {X b : Nat} : S_part X b 2 = X / 100 ^ b % 100 := by
  unfold S_part
  rw [Nat.mul_comm, Nat.pow_mul]
theorem part_3 {X b : Nat} : S_part X b 3 = X / 1000 ^ b % 1000 := by
  unfold S_part
  rw [Nat.mul_comm, Nat.pow_mul]
/-! jitter -/
theorem tm_nat {X n i : Nat} (hX : X < 2 ^ 63) (hn : n ≤ 6) : S_tm (lN X) n i = nI (S_part X (n - 1 - i) 2) := by
  have hp : 100 ^ (n - 1 - i) < 2 ^ 63 := Nat.lt_of_le_of_lt (Nat.pow_le_pow_right (by decide) (show n - 1 - i ≤ 6 by omega)) (by decide)
  have hp0 : 0 < 100 ^ (n - 1 - i) := Nat.pow_pos (by decide)
  unfold S_tm
  rw [lpow_nat2 _ (by omega), pk_lDiv hX hp0 hp, show (100 : Int64) = lN 100 from rfl, pk_lRem (Nat.lt_of_le_of_lt (Nat.div_le_self _ _) hX) (by decide) (by decide), lN_i, part_2]
theorem apart_c {a b : Nat} (ha : a < 1000) (hb : b < 1000) : (if 0 ≤ nI a - nI b then nI a - nI b else 0 - (nI a - nI b)) = S_apart (nI a) (nI b) := by
  unfold S_apart
  rcases Nat.lt_or_ge b a with h | h
  · rw [pk_sub (by omega), if_pos (nI_pos' (by omega)), if_neg (by rw [nI_leI (by omega) (by omega)]; omega)]
  · rw [if_pos (nI_le h (by omega))]
    rcases Nat.lt_or_ge a b with h3 | h3
    · rw [if_neg (Int32.not_le.mpr (pk_sneg (by omega) h3)), Int32.zero_sub, Int32.neg_sub]
    · have : a = b := by omega
      subst this
      rw [Int32.sub_self]
      rfl
theorem jit_c {x y z : Int32} : x + (y - z) = x + y - z := by rw [Int32.sub_eq_add_neg, Int32.sub_eq_add_neg, Int32.add_assoc]
theorem jv_c {X n i : Nat} (hX : X < 2 ^ 63) (hn : n ≤ 6) (hi : 1 ≤ i) (hin : i < n) : S_jv (lN X) n i + ((if 0 ≤ nI (S_part X (n - 1 - i) 2) - nI (S_part X (n - i) 2) then nI (S_part X (n - 1 - i) 2) - nI (S_part X (n - i) 2) else 0 - (nI (S_part X (n - 1 - i) 2) - nI (S_part X (n - i) 2))) - (S_jv (lN X) n i + 8) / 16) = S_jv (lN X) n (i + 1) := by
  have h1 : S_part X (n - 1 - i) 2 < 1000 := Nat.lt_trans (by rw [part_2]; exact Nat.mod_lt _ (by decide)) (show 100 < 1000 by decide)
  have h2 : S_part X (n - i) 2 < 1000 := Nat.lt_trans (by rw [part_2]; exact Nat.mod_lt _ (by decide)) (show 100 < 1000 by decide)
  rw [apart_c h1 h2, jit_c, jv_s (by omega), tm_nat hX hn]
  obtain ⟨j, rfl⟩ : ∃ j, i = j + 1 := ⟨i - 1, by omega⟩
  rw [jw_s, tm_nat hX hn, show n - 1 - j = n - (j + 1) by omega]
/-! the greatest divisor in 64 steps -/
theorem gcd_half {a b N : Nat} (hb : 0 < b) (hab : b < a) (h : a * b ≤ N) : 2 * (b * (a % b)) ≤ N := by
  have h1 : a % b < b := Nat.mod_lt _ hb
  have h2 : a = b * (a / b) + a % b := (Nat.div_add_mod a b).symm
  have h3 : 1 ≤ a / b := (Nat.le_div_iff_mul_le hb).mpr (by omega)
  have h4 : b ≤ b * (a / b) := Nat.le_mul_of_pos_right b h3
  have h5 : 2 * (a % b) ≤ a := by omega
  have h6 : b * (2 * (a % b)) ≤ b * a := Nat.mul_le_mul_left b h5
  have h7 : 2 * (b * (a % b)) = b * (2 * (a % b)) := by rw [Nat.mul_left_comm]
  rw [h7]
  exact Nat.le_trans h6 (by rw [Nat.mul_comm]; exact h)
def GdI (X B i : Nat) (z : Nat × Nat) : Prop := Nat.gcd z.1 z.2 = Nat.gcd X B ∧ z.1 < 2 ^ 31 ∧ z.2 ≤ B ∧ (0 < z.1 ∨ 0 < z.2) ∧ (i = 0 ∧ z = (X, B) ∨ 0 < i ∧ z.2 < z.1 ∧ z.1 * z.2 * 2 ^ (i - 1) ≤ B * B)
theorem GdI_0 {X B : Nat} (hX : X < 2 ^ 31) (hB : 0 < B) : GdI X B 0 (X, B) := ⟨rfl, hX, Nat.le_refl _, Or.inr hB, Or.inl ⟨rfl, rfl⟩⟩
theorem GdI_s {X B i : Nat} {z : Nat × Nat} (hB : B < 2 ^ 31) (h : GdI X B i z) (hz : 0 < z.2) : GdI X B (i + 1) (z.2, z.1 % z.2) := by
  obtain ⟨h1, h2, h3, h4, h5⟩ := h
  have hm : z.1 % z.2 < z.2 := Nat.mod_lt _ hz
  refine ⟨by rw [← h1]; exact gcd_step, by show z.2 < 2 ^ 31; omega, by show z.1 % z.2 ≤ B; omega, Or.inl hz, Or.inr ⟨by omega, hm, ?_⟩⟩
  show z.2 * (z.1 % z.2) * 2 ^ (i + 1 - 1) ≤ B * B
  rcases h5 with ⟨rfl, rfl⟩ | ⟨hi, hlt, hp⟩
  · show B * (X % B) * 2 ^ 0 ≤ B * B
    rw [Nat.pow_zero, Nat.mul_one]
    exact Nat.mul_le_mul_left B (Nat.le_of_lt hm)
  · obtain ⟨j, rfl⟩ : ∃ j, i = j + 1 := ⟨i - 1, by omega⟩
    show z.2 * (z.1 % z.2) * 2 ^ (j + 1) ≤ B * B
    have h6 := gcd_half (N := z.1 * z.2) hz hlt (Nat.le_refl _)
    have h7 : z.2 * (z.1 % z.2) * 2 ^ (j + 1) = 2 * (z.2 * (z.1 % z.2)) * 2 ^ j := by rw [Nat.pow_succ, Nat.mul_comm (2 ^ j) 2, ← Nat.mul_assoc, Nat.mul_comm (z.2 * (z.1 % z.2)) 2]
    rw [h7]
    exact Nat.le_trans (Nat.mul_le_mul_right _ h6) hp
theorem GdI_64 {X B : Nat} {z : Nat × Nat} (hB : B ≤ 1048576) (h : GdI X B 64 z) : z.2 = 0 := by
  obtain ⟨h1, h2, h3, h4, h5⟩ := h
  rcases h5 with ⟨h6, -⟩ | ⟨-, hlt, hp⟩
  · exact absurd h6 (by decide)
  · rcases Nat.eq_zero_or_pos z.2 with q | q
    · exact q
    · exfalso
      have h8 : 1 ≤ z.1 * z.2 := Nat.mul_pos (by omega) q
      have h9 : 1 * 2 ^ 63 ≤ z.1 * z.2 * 2 ^ (64 - 1) := Nat.mul_le_mul_right _ h8
      have h10 : B * B ≤ 1048576 * 1048576 := Nat.mul_le_mul hB hB
      omega
theorem GdI_end {X B i : Nat} {z : Nat × Nat} (h : GdI X B i z) (hz : z.2 = 0) : z.1 = Nat.gcd X B ∧ 0 < z.1 := by
  obtain ⟨h1, h2, h3, h4, h5⟩ := h
  refine ⟨?_, by omega⟩
  rw [hz, Nat.gcd_zero_right] at h1
  exact h1
theorem mx_g {g : Nat} (h0 : 0 < g) (h : g < 2 ^ 31) : (if (1 : Int32) < nI g then nI g else 1) = nI g := by
  by_cases q : (1 : Int32) < nI g
  · rw [if_pos q]
  · rw [if_neg q]
    have : g = 1 := by
      rcases Nat.lt_or_ge 1 g with z | z
      · exact absurd (nI_lt (a := 1) z h) q
      · omega
    subst this
    rfl
theorem abs_c {x : Int32} : (if 0 ≤ x then x else 0 - x) = S_abs x := by
  unfold S_abs
  rw [Int32.zero_sub]
/-! likelihood -/
def S_likStep (v x : Int32) (k : Nat) (a : Int32) : Int32 := a * (if S_has v (nI k) then 10 - x else x)
def S_lik (v x : Int32) : Int32 := it (S_likStep v x) 6 1
theorem lik_ok : ∀ i, i < 64 → ∀ q, q < 11 → S_lik (nI i) (nI q) = S_pow (10 - nI q) (S_pc i) * S_pow (nI q) (6 - S_pc i) := by decide +kernel
/-! subsets -/
theorem and_nat : ∀ i, i < 64 → ∀ v, v < 64 → nI i &&& nI v = nI (i &&& v) ∧ i &&& v < 64 ∧ i &&& v ≤ i ∧ (i &&& v) &&& v = i &&& v := by decide +kernel
def S_sub (f : Row) (t F i : Nat) : Int32 := S_pass (S_only f (nI (i &&& F))) t
def S_subT (f g : Row) (t F : Nat) : Nat → Row
  | 0 => g
  | i + 1 => if i &&& F = i then S_ticks (S_only f (nI i)) t else S_subT f g t F i
theorem S_subT_t {f g : Row} {t F i : Nat} (h : i &&& F = i) : S_subT f g t F (i + 1) = S_ticks (S_only f (nI i)) t := by rw [S_subT, if_pos h]
theorem S_subT_f {f g : Row} {t F i : Nat} (h : ¬ i &&& F = i) : S_subT f g t F (i + 1) = S_subT f g t F i := by rw [S_subT, if_neg h]
theorem or_nat : ∀ v, v < 64 → ∀ u, u < 64 → nI v ||| nI u = nI (v ||| u) ∧ v ||| u < 64 := by decide +kernel
theorem felt_nat {f : Row} (h : Kn f) : ∃ F : Nat, F < 64 ∧ S_felt f = nI F := by
  unfold S_felt
  refine it_ind (P := fun x => ∃ F : Nat, F < 64 ∧ x = nI F) (N := 6) ⟨0, by decide, rfl⟩ (fun i x hi hx => ?_) 6 (Nat.le_refl 6)
  obtain ⟨v, hv, e⟩ := hx
  obtain ⟨u, hu, eu⟩ := h i hi
  subst e
  unfold S_feltStep
  rw [eu]
  obtain ⟨eo, ho⟩ := or_nat v hv u hu
  rw [eo]
  split
  · exact ⟨_, ho, rfl⟩
  · exact bit_or i hi _ ho
theorem bit_and6 : ∀ k, k < 6 → ∀ v, v < 64 → ∀ u, u < 64 → S_has (nI v) (nI k) = false → S_has (nI v &&& nI u) (nI k) = false := by decide +kernel
theorem Inv_only {n G : Nat} {f : Row} {u : Nat} (h : Inv n G f) (hu : u < 64) : Inv n G (S_only f (nI u)) := by
  unfold S_only
  refine it_ind (P := Inv n G) (N := 6) h (fun k g hk hg => ?_) 6 (Nat.le_refl 6)
  obtain ⟨v, hv, ev⟩ := hg.kn k hk
  have hw := hg.ow k hk
  have h1 : Inv n G (upd g (6 + k) (g (6 + k) &&& nI u)) := by
    by_cases h0 : g k = 0
    · have e0 : g (6 + k) = 0 := by
        rcases hg.aw k hk with q | q | q
        · exact q.2.1
        · rw [h0] at q; exact absurd q.1 (by decide)
        · rw [h0] at q; exact absurd q (by decide)
      rw [up_same (by rw [e0]; exact (Int32.zero_and ..).symm)]
      exact hg
    · rw [ev] at hw ⊢
      refine Inv_kn hg hk h0 ⟨v &&& u, (and_nat v hv u hu).2.1, (and_nat v hv u hu).1⟩ (bit_and6 k hk v hv u hu hw)
  unfold S_onlyStep
  split
  · exact h1
  · exact Inv_goAway h1 hk
/-! which -/
def S_fitI (h s1 s2 : Row) (t : Nat) : Nat → Bool
  | 0 => true
  | i + 1 => S_fitI h s1 s2 t i && (if s1 i = nI t then (if s2 i = S_pass h t then true else false) else true)
def S_fit (h s1 s2 : Row) (se : Nat) : Nat → Nat → Bool
  | _, 0 => true
  | t, n + 1 => if S_fitI h s1 s2 t se then S_fit h s1 s2 se (t + 1) n else false
def S_fitT (h s1 s2 : Row) (se : Nat) : Nat → Nat → Row
  | t, 0 => S_ticks h t
  | t, n + 1 => if S_fitI h s1 s2 t se then S_fitT h s1 s2 se (t + 1) n else S_ticks h t
theorem fit_t {h s1 s2 : Row} {se t : Nat} (ht : t < 61) (hI : S_fitI h s1 s2 t se = true) : S_fit h s1 s2 se t (61 - t) = S_fit h s1 s2 se (t + 1) (61 - (t + 1)) ∧ S_fitT h s1 s2 se t (61 - t) = S_fitT h s1 s2 se (t + 1) (61 - (t + 1)) := by
  rw [show 61 - t = (61 - (t + 1)) + 1 by omega, S_fit, S_fitT, if_pos hI, if_pos hI]
  exact ⟨rfl, rfl⟩
theorem fit_f {h s1 s2 : Row} {se t : Nat} (ht : t < 61) (hI : S_fitI h s1 s2 t se = false) : S_fit h s1 s2 se t (61 - t) = false ∧ S_fitT h s1 s2 se t (61 - t) = S_ticks h t := by
  rw [show 61 - t = (61 - (t + 1)) + 1 by omega, S_fit, S_fitT, hI]
  exact ⟨rfl, rfl⟩
theorem fitI_f {h s1 s2 : Row} {t i : Nat} (h1 : s1 i = nI t) (h2 : ¬ s2 i = S_pass h t) : ∀ n, i < n → S_fitI h s1 s2 t n = false
  | 0, q => absurd q (by omega)
  | n + 1, q => by
    unfold S_fitI
    by_cases e : i = n
    · subst e; rw [if_pos h1, if_neg h2, Bool.and_false]
    · rw [fitI_f h1 h2 n (by omega), Bool.false_and]
theorem pass_s {h : Row} {t : Nat} : S_pass h t + S_pass (S_ticks h t) 1 = S_pass h (t + 1) := by
  unfold S_pass
  rw [S_ticks_1, S_ticks_s, Int32.add_comm, jit_c, Int32.sub_add_cancel]
def S_whC (f s1 s2 : Row) (se : Nat) : Nat → Int32
  | 0 => 0
  | i + 1 => if S_fit (upd f 67 (nI (i + 1))) s1 s2 se 0 61 then S_whC f s1 s2 se i ||| (1 <<< (nI (i + 1) &&& 31)) else S_whC f s1 s2 se i
def S_whG (f g s1 s2 : Row) (se : Nat) : Nat → Row
  | 0 => g
  | i + 1 => S_fitT (upd f 67 (nI (i + 1))) s1 s2 se 0 61
theorem Inv_67 {n G : Nat} {f : Row} {r : Nat} (h : Inv n G f) (h1 : 1 ≤ r) (h2 : r ≤ 9) : Inv n G (upd f 67 (nI r)) := by
  obtain ⟨hs, q, hq, e, hm⟩ := Inv_iff.mp h
  refine Inv_iff.mpr ⟨?_, q, hq, by rw [pk_un (by decide)]; exact e, fun k hk => ?_⟩
  · unfold Sz
    rw [pk_us, pk_un (by decide), pk_un (by decide), pk_un (by decide)]
    exact ⟨hs.1, ⟨r, h1, h2, rfl⟩, hs.2.2⟩
  · rw [pk_un (by omega), pk_un (by omega), pk_un (by omega), pk_un (by omega), pk_un (by omega)]
    exact hm k hk
/-! drawn -/
theorem Inv_eod {n G : Nat} {f : Row} {k : Nat} (h : Inv n G f) (hk : k < 6) (hn : n ≤ 1048576) (hG : 1 ≤ G) : Inv n (G + 6) (S_eod f k) := by
  unfold S_eod
  split
  · next q => exact (Inv_joins h hk q).mono (Nat.le_refl _) (by omega)
  · split
    · next q => exact Inv_leaves h hk q hn hG
    · exact h.mono (Nat.le_refl _) (by omega)
theorem Inv_drE {n G : Nat} {x : Int64} {g : Row} (h : Inv n G g) (hn : n ≤ 1048576) (hG : 1 ≤ G) : Inv n (G + 6) (S_drE x g) := by
  unfold S_drE
  split
  · exact Inv_eod h (Nat.mod_lt _ (by decide)) hn hG
  · exact h.mono (Nat.le_refl _) (by omega)
theorem Inv_drT {n G : Nat} {f : Row} {sd : Int64} (h : Inv n G f) (hn : n + 100 ≤ 1048576) (hG0 : 1 ≤ G) (hG : G + 4200 ≤ 1048576) : ∀ i, i ≤ 100 → Inv (n + i) (G + 42 * i) (S_drT f sd i)
  | 0, _ => h
  | i + 1, hi => by
    rw [S_drT_s]
    have h1 := Inv_drT (sd := sd) h hn hG0 hG i (by omega)
    have h2 := Inv_drE (x := S_sdN sd (i + 1)) h1 (by omega) (by omega)
    exact (Inv_tick h2 (by omega) (by omega)).mono (by omega) (by omega)
