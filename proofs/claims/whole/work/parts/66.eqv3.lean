/-! how many letters there can be; the sums' bounds -/
def LE1 (f g : Row) (b : Nat) : Prop := ∃ e : Nat, e ≤ b ∧ S_letters g = S_letters f + nI e
theorem LE1.refl {f : Row} : LE1 f f 0 := ⟨0, Nat.le_refl _, (Int32.add_zero _).symm⟩
theorem LE1.trans {f g h : Row} {a b : Nat} (h1 : LE1 f g a) (h2 : LE1 g h b) : LE1 f h (a + b) := by
  obtain ⟨x, hx, ex⟩ := h1
  obtain ⟨y, hy, ey⟩ := h2
  exact ⟨x + y, by omega, by rw [ey, ex, Int32.add_assoc, nI_add]⟩
theorem LE1.mono {f g : Row} {a b : Nat} (h : LE1 f g a) (hb : a ≤ b) : LE1 f g b := by
  obtain ⟨x, hx, ex⟩ := h
  exact ⟨x, by omega, ex⟩
theorem LE1.same {f g : Row} (h1 : g 71 = f 71) (h2 : g 72 = f 72) : LE1 f g 0 := ⟨0, Nat.le_refl _, by unfold S_letters; rw [h1, h2]; exact (Int32.add_zero _).symm⟩
theorem lt_upd {f : Row} {j : Nat} {x : Int32} (h1 : ¬ j = 71) (h2 : ¬ j = 72) : LE1 f (upd f j x) 0 := LE1.same (pk_un (fun q => h1 q.symm)) (pk_un (fun q => h2 q.symm))
theorem lt_draw {f : Row} : LE1 f (S_draw f) 0 := lt_upd (by decide) (by decide)
theorem it_LE {b : Nat → Row → Row} {a : Row} (hs : ∀ i x, i < 6 → LE1 x (b i x) 0) : ∀ n, n ≤ 6 → LE1 a (it b n a) 0
  | 0, _ => LE1.refl
  | n + 1, h => (it_LE hs n (by omega)).trans (hs n _ (by omega))
theorem it_LE1 {b : Nat → Row → Row} {a : Row} (hs : ∀ i x, i < 6 → LE1 x (b i x) 1) : ∀ n, n ≤ 6 → LE1 a (it b n a) n
  | 0, _ => LE1.refl
  | n + 1, h => (it_LE1 hs n (by omega)).trans (hs n _ (by omega))
theorem lt_report {f : Row} {k : Nat} (hk : k < 6) : LE1 f (S_report f k) 1 := by
  have h0 : LE1 f (S_rep0 f) 1 := ⟨1, Nat.le_refl _, by
    unfold S_letters S_rep0
    rw [pk_us, pk_un (by decide), Int32.add_assoc, Int32.add_comm 1, ← Int32.add_assoc]
    rfl⟩
  have h1 : LE1 (S_rep0 f) (S_report f k) 0 := by
    unfold S_report
    refine it_LE (fun i x hi => ?_) 6 (Nat.le_refl 6)
    unfold S_repStep S_kn
    split
    · exact (lt_upd (by omega) (by omega)).trans (lt_upd (by omega) (by omega))
    · exact LE1.refl
  exact h0.trans h1
theorem lt_goAway {f : Row} {k : Nat} (hk : k < 6) : LE1 f (S_goAway f k) 0 := LE1.same (ga_ne (by omega) (by omega) (by omega) (by omega) (by omega)) (ga_ne (by omega) (by omega) (by omega) (by omega) (by omega))
theorem lt_bye {f : Row} {k : Nat} (hk : k < 6) : LE1 f (S_bye f k) 1 := by
  have h0 : LE1 f (upd f 72 (f 72 + 1)) 1 := ⟨1, Nat.le_refl _, by
    unfold S_letters
    rw [pk_us, pk_un (by decide), ← Int32.add_assoc]
    rfl⟩
  have h1 : LE1 (S_bye0 f k) (S_bye f k) 0 := by
    unfold S_bye
    refine it_LE (fun i x hi => ?_) 6 (Nat.le_refl 6)
    have hb : LE1 x (S_bk x k i) 0 := LE1.same (bk_hi (by omega) (by omega)) (bk_hi (by omega) (by omega))
    unfold S_byeStep
    split
    · split
      · split
        · exact (hb.trans (lt_upd (by omega) (by omega))).trans (lt_upd (by omega) (by omega))
        · exact hb
      · exact hb
    · exact LE1.refl
  exact (h0.trans (lt_goAway hk)).trans h1
theorem lt_look {f : Row} {k : Nat} (hk : k < 6) : LE1 f (S_look f k) 1 := by
  unfold S_look
  split
  · split
    · have h1 : LE1 (S_draw f) (S_lrep (S_draw f) k) 1 := (lt_report hk).trans (lt_upd (by omega) (by omega))
      exact ((lt_draw.trans h1).trans lt_draw).trans (lt_upd (by omega) (by omega))
    · exact lt_draw.trans (lt_bye hk)
  · exact (lt_draw.trans (lt_upd (by omega) (by omega))).mono (by decide)
theorem lt_tick {f : Row} : LE1 f (S_tick f) 6 := by
  have h0 : LE1 f (S_tick0 f) 0 := lt_upd (by decide) (by decide)
  have h1 : LE1 (S_tick0 f) (S_tick1 f) 6 := by
    unfold S_tick1
    refine it_LE1 (fun i x hi => ?_) 6 (Nat.le_refl 6)
    unfold S_dueStep
    split
    · exact LE1.refl.mono (by decide)
    · split
      · exact LE1.refl.mono (by decide)
      · exact lt_look hi
  have h2 : LE1 (S_tick1 f) (S_tick f) 0 := by
    unfold S_tick
    refine it_LE (fun i x hi => ?_) 6 (Nat.le_refl 6)
    unfold S_fgStep
    split
    · unfold S_forget
      refine it_LE (fun o y ho => ?_) 6 (Nat.le_refl 6)
      unfold S_forStep
      exact lt_upd (by omega) (by omega)
    · exact LE1.refl
  exact (h0.trans h1).trans h2
theorem lt_ticks {f : Row} : ∀ n, LE1 f (S_ticks f n) (6 * n)
  | 0 => LE1.refl
  | n + 1 => by
    rw [S_ticks_s]
    exact ((lt_ticks n).trans lt_tick).mono (by omega)
theorem pass_nat {f : Row} (n : Nat) : ∃ e : Nat, e ≤ 6 * n ∧ S_pass f n = nI e := by
  obtain ⟨e, he, q⟩ := lt_ticks (f := f) n
  refine ⟨e, he, ?_⟩
  unfold S_pass
  rw [q, Int32.add_comm, Int32.add_sub_cancel]
theorem nI_ofInt (n : Nat) : nI n = Int32.ofInt (n : Int) := rfl
theorem abs_ex {x : Int32} {z : Int} (e : x = Int32.ofInt z) (h : -2000000000 ≤ z ∧ z ≤ 2000000000) : ∃ X : Nat, S_abs x = nI X ∧ X < 2 ^ 31 := by
  have hz : x.toInt = z := by
    rw [e]
    exact Int32.toInt_ofInt_of_le (by omega) (by omega)
  unfold S_abs
  have e0 : ((0 : Int32)).toInt = 0 := by decide
  by_cases q : 0 ≤ x
  · rw [if_pos q]
    rw [Int32.le_iff_toInt_le, e0, hz] at q
    refine ⟨z.toNat, Int32.toInt_inj.mp ?_, by omega⟩
    rw [hz, nI_toInt (by omega)]
    omega
  · rw [if_neg q]
    rw [Int32.le_iff_toInt_le, e0, hz] at q
    refine ⟨(-z).toNat, ?_, by omega⟩
    rw [e, ← Int32.ofInt_neg, nI_ofInt]
    congr 1
    omega
theorem ord_ok : ∀ i, i < 64 → S_ord (S_pc i) = S_facP (S_pc i - 1) * S_facP (5 - S_pc i - 1) ∨ S_pc i = 6 := by decide +kernel
theorem ord_nat : ∀ i, i < 64 → ∃ w : Nat, w ≤ 120 ∧ S_ord (S_pc i) = nI w := by decide +kernel
theorem shS_more {W : Nat → Int32} {nw : Row} {k : Nat} (hk : k < 6) (hW : ∀ j, j < 64 → W j = S_shF nw 30 j) : ∀ n, n ≤ 64 → S_shS W k n = S_more nw k n
  | 0, _ => rfl
  | n + 1, hn => by
    rw [S_shS, S_more, shS_more hk hW n (by omega)]
    cases h : S_has (nI n) (nI k) with
    | true => rw [if_pos rfl, if_pos rfl]
    | false =>
      rw [if_neg Bool.false_ne_true, if_neg Bool.false_ne_true, hW n (by omega), hW _ (orb_ok k hk n (by omega)).2]
      rcases ord_ok n (by omega) with q | q
      · rw [q, Int32.mul_comm]
      · exact absurd (pc_5 k hk n (by omega) h) (by omega)
theorem more_ex {nw : Row} {k : Nat} (hk : k < 6) : ∀ n, n ≤ 64 → ∃ z : Int, S_more nw k n = Int32.ofInt z ∧ -(43200 * (n : Int)) ≤ z ∧ z ≤ 43200 * (n : Int)
  | 0, _ => ⟨0, rfl, by omega, by omega⟩
  | n + 1, hn => by
    obtain ⟨z, ez, h1, h2⟩ := more_ex (nw := nw) hk n (by omega)
    rw [S_more]
    cases h : S_has (nI n) (nI k) with
    | true => exact ⟨z, by rw [if_pos rfl]; exact ez, by omega, by omega⟩
    | false =>
      rw [if_neg Bool.false_ne_true]
      obtain ⟨w, hw, ew⟩ := ord_nat n (by omega)
      have eo : S_facP (S_pc n - 1) * S_facP (5 - S_pc n - 1) = nI w := by
        rcases ord_ok n (by omega) with q | q
        · rw [← q]; exact ew
        · exact absurd (pc_5 k hk n (by omega) h) (by omega)
      obtain ⟨a, ha, ea⟩ := pass_nat (f := S_only nw (nI (S_orb n k))) 30
      obtain ⟨b, hb, eb⟩ := pass_nat (f := S_only nw (nI n)) 30
      have ea' : S_shF nw 30 (S_orb n k) = nI a := ea
      have eb' : S_shF nw 30 n = nI b := eb
      refine ⟨z + (w : Int) * ((a : Int) - (b : Int)), ?_, ?_, ?_⟩
      · rw [ez, eo, ea', eb', nI_ofInt, nI_ofInt, nI_ofInt, ← Int32.ofInt_sub, ← Int32.ofInt_mul, ← Int32.ofInt_add]
      · have h3 : (w : Int) * ((a : Int) - (b : Int)) ≥ -(120 * 180) := by
          have : (w : Int) * ((b : Int) - (a : Int)) ≤ 120 * 180 := by
            rcases Int.le_total 0 ((b : Int) - (a : Int)) with q | q
            · exact Int.le_trans (Int.mul_le_mul_of_nonneg_right (show (w : Int) ≤ 120 by omega) q) (Int.mul_le_mul_of_nonneg_left (show (b : Int) - (a : Int) ≤ 180 by omega) (by decide))
            · exact Int.le_trans (Int.mul_nonpos_of_nonneg_of_nonpos (show (0 : Int) ≤ (w : Int) by omega) q) (by decide)
          have e3 : (w : Int) * ((a : Int) - (b : Int)) = -((w : Int) * ((b : Int) - (a : Int))) := by rw [← Int.mul_neg, Int.neg_sub]
          omega
        omega
      · have h3 : (w : Int) * ((a : Int) - (b : Int)) ≤ 120 * 180 := by
          rcases Int.le_total 0 ((a : Int) - (b : Int)) with q | q
          · exact Int.le_trans (Int.mul_le_mul_of_nonneg_right (show (w : Int) ≤ 120 by omega) q) (Int.mul_le_mul_of_nonneg_left (show (a : Int) - (b : Int) ≤ 180 by omega) (by decide))
          · exact Int.le_trans (Int.mul_nonpos_of_nonneg_of_nonpos (show (0 : Int) ≤ (w : Int) by omega) q) (by decide)
        omega
theorem more_abs {nw : Row} {k : Nat} (hk : k < 6) : ∃ X : Nat, S_abs (S_more nw k 64) = nI X ∧ X < 2 ^ 31 := by
  obtain ⟨z, ez, h1, h2⟩ := more_ex (nw := nw) hk 64 (Nat.le_refl _)
  exact abs_ex ez (by omega)
theorem chS_chN {W : Nat → Int32} {nw : Row} {v : Int32} {q : Nat} (hq : q ≤ 10) (hW : ∀ j, j < 64 → W j = S_shF nw 20 j) : ∀ n, n ≤ 64 → S_chS W v q n = S_chN nw v q n
  | 0, _ => rfl
  | n + 1, hn => by
    rw [S_chS, S_chN, chS_chN hq hW n (by omega), hW n (by omega)]
    unfold S_chc
    split
    · exact (Int32.add_zero _).symm
    · rw [lik_ok n (by omega) q (by omega)]
theorem chc_nat : ∀ i, i < 64 → ∀ q, q < 11 → ∃ e : Nat, e ≤ 1000000 ∧ S_pow (10 - nI q) (S_pc i) * S_pow (nI q) (6 - S_pc i) = nI e := by
  have h : ∀ p, p < 7 → ∀ q, q < 11 → S_pow (10 - nI q) p * S_pow (nI q) (6 - p) = nI ((10 - q) ^ p * q ^ (6 - p)) ∧ (10 - q) ^ p * q ^ (6 - p) ≤ 1000000 := by decide +kernel
  intro i hi q hq
  obtain ⟨a, b⟩ := h (S_pc i) (by have := (pc_ok i hi).2; omega) q hq
  exact ⟨_, b, a⟩
theorem ch_ex {nw : Row} {v : Int32} {q : Nat} (hq : q ≤ 10) : ∀ n, n ≤ 64 → ∃ e : Nat, e ≤ 1000000 * n ∧ S_chN nw v q n = nI e
  | 0, _ => ⟨0, by omega, rfl⟩
  | n + 1, hn => by
    obtain ⟨e, he, ee⟩ := ch_ex (nw := nw) (v := v) hq n (by omega)
    rw [S_chN, ee]
    unfold S_chc
    split
    · exact ⟨e, by omega, Int32.add_zero _⟩
    · obtain ⟨a, ha, ea⟩ := chc_nat n (by omega) q (by omega)
      exact ⟨e + a, by omega, by rw [ea, nI_add]⟩
theorem ch_abs {nw : Row} {v : Int32} {q : Nat} (hq : q ≤ 10) : ∃ X : Nat, S_abs (S_chN nw v q 64) = nI X ∧ X < 2 ^ 31 := by
  obtain ⟨e, he, ee⟩ := ch_ex (nw := nw) (v := v) hq 64 (Nat.le_refl _)
  exact ⟨e, by unfold S_abs; rw [ee, if_pos (nI_pos' (by omega))], by omega⟩
