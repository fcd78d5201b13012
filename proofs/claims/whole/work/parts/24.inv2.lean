/-! the steps keep it -/
theorem Inv_draw {n G : Nat} {f : Row} (h : Inv n G f) : Inv n G (S_draw f) := sorry
theorem Inv_lrep {n G : Nat} {f : Row} {k : Nat} (h : Inv n G f) (hk : k < 6) (h0 : ¬ f k = 0) : Inv n G (S_lrep f k) := sorry
theorem Inv_bye0 {n G : Nat} {f : Row} {k : Nat} (h : Inv n G f) (hk : k < 6) : Inv n G (S_bye0 f k) := sorry
theorem Inv_byeStep {n G : Nat} {g : Row} {k o : Nat} (h : Inv n G g) (hk : k < 6) (ho : o < 6) (hn : n ≤ 1048576) : Inv n (G + 1) (S_byeStep k o g) := sorry
theorem Inv_byes {n G : Nat} {f : Row} {k : Nat} (h : Inv n G f) (hk : k < 6) (hn : n ≤ 1048576) : ∀ i, i ≤ 6 → Inv n (G + i) (it (S_byeStep k) i (S_bye0 f k)) := by
  intro i
  induction i with
  | zero => intro _; exact Inv_bye0 h hk
  | succ i ih =>
    intro hi
    rw [it_s]
    exact (Inv_byeStep (n := n) (G := G + i) (ih (by omega)) hk (by omega) hn).mono (Nat.le_refl _) (by omega)
theorem Inv_bye {n G : Nat} {f : Row} {k : Nat} (h : Inv n G f) (hk : k < 6) (hn : n ≤ 1048576) : Inv n (G + 6) (S_bye f k) := by
  unfold S_bye
  exact Inv_byes h hk hn 6 (Nat.le_refl 6)
theorem Inv_look {n G : Nat} {f : Row} {k : Nat} (h : Inv n G f) (hk : k < 6) (h0 : ¬ f k = 0) (hn : n ≤ 1048576) (hG : G ≤ 1048576) : Inv n (G + 6) (S_look f k) := sorry
theorem Inv_forget {n G : Nat} {f : Row} {k : Nat} (h : Inv n G f) (hk : k < 6) (h0 : ¬ f k = 0) : Inv n G (S_forget f k) := sorry
theorem Inv_tick0 {n G : Nat} {f : Row} (h : Inv n G f) : Inv (n + 1) G (S_tick0 f) := sorry
theorem Inv_dueStep {n G : Nat} {g : Row} {k : Nat} (h : Inv n G g) (hk : k < 6) (hn : n ≤ 1048576) (hG : G ≤ 1048576) : Inv n (G + 6) (S_dueStep k g) := by
  unfold S_dueStep
  split
  · exact h.mono (Nat.le_refl _) (by omega)
  · next h0 =>
    split
    · exact h.mono (Nat.le_refl _) (by omega)
    · exact Inv_look h hk h0 hn hG
theorem Inv_dues {n G : Nat} {f : Row} (h : Inv n G f) (hn : n + 1 ≤ 1048576) (hG : G + 36 ≤ 1048576) : ∀ i, i ≤ 6 → Inv (n + 1) (G + 6 * i) (it S_dueStep i (S_tick0 f)) := by
  intro i
  induction i with
  | zero => intro _; exact Inv_tick0 h
  | succ i ih =>
    intro hi
    rw [it_s]
    exact (Inv_dueStep (n := n + 1) (G := G + 6 * i) (ih (by omega)) (by omega) hn (by omega)).mono (Nat.le_refl _) (by omega)
theorem Inv_fgStep {n G : Nat} {g : Row} {k : Nat} (h : Inv n G g) (hk : k < 6) : Inv n G (S_fgStep k g) := by
  unfold S_fgStep
  split
  · next h1 => exact Inv_forget h hk (by rw [h1]; decide)
  · exact h
theorem Inv_fgs {n G : Nat} {f : Row} (h : Inv n G f) (hn : n + 1 ≤ 1048576) (hG : G + 36 ≤ 1048576) : ∀ i, i ≤ 6 → Inv (n + 1) (G + 36) (it S_fgStep i (S_tick1 f)) := by
  intro i
  induction i with
  | zero => intro _; rw [it_0]; unfold S_tick1; exact (Inv_dues h hn hG 6 (Nat.le_refl 6)).mono (Nat.le_refl _) (by omega)
  | succ i ih =>
    intro hi
    rw [it_s]
    exact Inv_fgStep (ih (by omega)) (by omega)
theorem Inv_tick {n G : Nat} {f : Row} (h : Inv n G f) (hn : n + 1 ≤ 1048576) (hG : G + 36 ≤ 1048576) : Inv (n + 1) (G + 36) (S_tick f) := by
  unfold S_tick
  exact Inv_fgs h hn hG 6 (Nat.le_refl 6)
theorem Inv_ticks {n G : Nat} {f : Row} (h : Inv n G f) (m : Nat) (hn : n + m ≤ 1048576) (hG : G + 36 * m ≤ 1048576) : ∀ i, i ≤ m → Inv (n + i) (G + 36 * i) (S_ticks f i) := by
  intro i
  induction i with
  | zero => intro _; exact h
  | succ i ih =>
    intro hi
    rw [S_ticks_s]
    exact (Inv_tick (n := n + i) (G := G + 36 * i) (ih (by omega)) (by omega) (by omega)).mono (by omega) (by omega)
theorem Inv_joins {n G : Nat} {f : Row} {k : Nat} (h : Inv n G f) (hk : k < 6) (h0 : f k = 0) : Inv n G (S_joins f k) := sorry
theorem Inv_leaves {n G : Nat} {f : Row} {k : Nat} (h : Inv n G f) (hk : k < 6) (h1 : f k = 1) (hn : n ≤ 1048576) (hG : 1 ≤ G) : Inv n (G + 6) (S_leaves f k) := sorry
