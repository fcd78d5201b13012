/-! the steps keep it -/
def MemV (q G k : Nat) (a kn b d g : Int32) : Prop := ((a = 0 ∧ kn = 0 ∧ b = 0 ∧ d = 0 ∧ g = 0) ∨ (a = 1 ∧ g = 0) ∨ a = 2) ∧ (∃ v : Nat, v < 64 ∧ kn = nI v) ∧ S_has kn (nI k) = false ∧ (∃ x : Nat, x ≤ q ∧ b = nI x) ∧ (∃ y : Nat, y ≤ q + 16777216 ∧ d = nI y) ∧ ∃ z : Nat, z ≤ G ∧ g = nI z
theorem Inv_iff {n G : Nat} {f : Row} : Inv n G f ↔ Sz f ∧ ∃ q : Nat, q ≤ n ∧ f 70 = nI q ∧ ∀ k, k < 6 → MemV q G k (f k) (f (6 + k)) (f (48 + k)) (f (54 + k)) (f (60 + k)) := by
  constructor
  · rintro ⟨ha, hk, ho, hs, q, hq, e, ht⟩
    exact ⟨hs, q, hq, e, fun k h => ⟨ha k h, hk k h, ho k h, (ht k h).1, (ht k h).2.1, (ht k h).2.2⟩⟩
  · rintro ⟨hs, q, hq, e, hm⟩
    exact ⟨fun k h => (hm k h).1, fun k h => (hm k h).2.1, fun k h => (hm k h).2.2.1, hs, q, hq, e, fun k h => (hm k h).2.2.2⟩
theorem MemV.mono {q q' G G' k : Nat} {a kn b d g : Int32} (h : MemV q G k a kn b d g) (h1 : q ≤ q') (h2 : G ≤ G') : MemV q' G' k a kn b d g := by
  obtain ⟨h3, h4, h5, ⟨x, hx, ex⟩, ⟨y, hy, ey⟩, z, hz, ez⟩ := h
  exact ⟨h3, h4, h5, ⟨x, by omega, ex⟩, ⟨y, by omega, ey⟩, z, by omega, ez⟩
theorem Sz_upd {f : Row} {j : Nat} {x : Int32} (h : Sz f) (h6 : ¬ j = 66) (h7 : ¬ j = 67) (h8 : ¬ j = 68) (h9 : ¬ j = 69) : Sz (upd f j x) := by
  unfold Sz
  rw [pk_un (fun q => h6 q.symm), pk_un (fun q => h7 q.symm), pk_un (fun q => h8 q.symm), pk_un (fun q => h9 q.symm)]
  exact h
/-- a place that is none of a member's, nor a size, nor the clock -/
theorem Inv_free {n G : Nat} {f : Row} {j : Nat} {x : Int32} (h : Inv n G f) (hj : (12 ≤ j ∧ j < 48) ∨ 71 ≤ j) : Inv n G (upd f j x) := by
  obtain ⟨hs, q, hq, e, hm⟩ := Inv_iff.mp h
  refine Inv_iff.mpr ⟨Sz_upd hs (by omega) (by omega) (by omega) (by omega), q, hq, by rw [pk_un (by omega)]; exact e, fun k hk => ?_⟩
  rw [pk_un (by omega), pk_un (by omega), pk_un (by omega), pk_un (by omega), pk_un (by omega)]
  exact hm k hk
/-- the row changes at one member alone -/
theorem Inv_mem {n G G' : Nat} {f f' : Row} {k : Nat} (h : Inv n G f) (hG : G ≤ G') (hk : k < 6) (hs : Sz f') (h70 : f' 70 = f 70) (hne : ∀ j, j < 6 → ¬ j = k → f' j = f j ∧ f' (6 + j) = f (6 + j) ∧ f' (48 + j) = f (48 + j) ∧ f' (54 + j) = f (54 + j) ∧ f' (60 + j) = f (60 + j))
    (hm : ∀ q, q ≤ n → f 70 = nI q → MemV q G k (f k) (f (6 + k)) (f (48 + k)) (f (54 + k)) (f (60 + k)) → MemV q G' k (f' k) (f' (6 + k)) (f' (48 + k)) (f' (54 + k)) (f' (60 + k))) : Inv n G' f' := by
  obtain ⟨-, q, hq, e, hm0⟩ := Inv_iff.mp h
  refine Inv_iff.mpr ⟨hs, q, hq, by rw [h70]; exact e, fun j hj => ?_⟩
  by_cases c : j = k
  · subst c; exact hm q hq e (hm0 j hj)
  · obtain ⟨a, b, c1, d, g⟩ := hne j hj c
    rw [a, b, c1, d, g]
    exact (hm0 j hj).mono (Nat.le_refl _) hG
theorem draw_nat {f : Row} (h : Sz f) : ∃ z : Nat, z < 65536 ∧ S_draw f 69 = nI z := by
  obtain ⟨-, -, -, z, hz, e⟩ := h
  refine ⟨(25173 * z + 13849) % 65536, Nat.mod_lt _ (by decide), ?_⟩
  unfold S_draw jrem
  rw [pk_us, e, show (25173 : Int32) = nI 25173 from rfl, show (13849 : Int32) = nI 13849 from rfl, show (65536 : Int32) = nI 65536 from rfl, pk_mul, nI_add]
  exact pk_rem (by omega) (by decide) (by decide)
theorem Sz_draw {f : Row} (h : Sz f) : Sz (S_draw f) := by
  refine ⟨?_, ?_, ?_, draw_nat h⟩
  · unfold S_draw; rw [pk_un (by decide)]; exact h.1
  · unfold S_draw; rw [pk_un (by decide)]; exact h.2.1
  · unfold S_draw; rw [pk_un (by decide)]; exact h.2.2.1
theorem draw_ne {f : Row} {j : Nat} (h : ¬ j = 69) : S_draw f j = f j := by unfold S_draw; exact pk_un h
theorem Inv_draw {n G : Nat} {f : Row} (h : Inv n G f) : Inv n G (S_draw f) := by
  obtain ⟨hs, q, hq, e, hm⟩ := Inv_iff.mp h
  refine Inv_iff.mpr ⟨Sz_draw hs, q, hq, by rw [draw_ne (by decide)]; exact e, fun k hk => ?_⟩
  rw [draw_ne (by omega), draw_ne (by omega), draw_ne (by omega), draw_ne (by omega), draw_ne (by omega)]
  exact hm k hk
theorem drawV_nat {f : Row} (h : Sz f) : ∃ d : Nat, d < 5 ∧ S_drawV f = nI d := by
  obtain ⟨z, hz, e⟩ := draw_nat h
  refine ⟨z / 16 % 5, Nat.mod_lt _ (by decide), ?_⟩
  unfold S_drawV jrem
  rw [e, show (16 : Int32) = nI 16 from rfl, show (5 : Int32) = nI 5 from rfl, pk_div (by omega) (by decide) (by decide)]
  exact pk_rem (by omega) (by decide) (by decide)
theorem span_nat {f : Row} {j : Nat} (h : Sz f) (hj : j ≤ 1048576) : ∃ t : Nat, t ≤ 9437193 ∧ S_span f (nI j) = nI t := by
  obtain ⟨⟨a, a1, a2, ea⟩, ⟨b, b1, b2, eb⟩, ⟨c, c1, c2, ec⟩, -⟩ := h
  have hja : j * a ≤ 1048576 * 9 := Nat.mul_le_mul hj a2
  have e : S_up f (nI j) = nI ((j * a + b - 1) / b) := by
    unfold S_up
    rw [ea, eb, pk_mul, nI_add, show (1 : Int32) = nI 1 from rfl, pk_sub (by omega), pk_div (by omega) (by omega) (by omega)]
  have hd : (j * a + b - 1) / b ≤ j * a + b - 1 := Nat.div_le_self _ _
  unfold S_span
  rw [e, ec]
  split
  · exact ⟨c, by omega, rfl⟩
  · exact ⟨_, by omega, rfl⟩
theorem wait_nat {f : Row} {j : Nat} (h : Sz f) (hj : j ≤ 1048576) : ∃ w : Nat, w ≤ 16777216 ∧ S_waitV f (nI j) = nI w := by
  obtain ⟨t, ht, et⟩ := span_nat h hj
  obtain ⟨d, hd, ed⟩ := drawV_nat h
  have htd : t * (2 + d) ≤ 9437193 * 6 := Nat.mul_le_mul ht (by omega)
  have e : S_wait0 f (nI j) = nI (t * (2 + d) / 4) := by
    unfold S_wait0
    rw [et, ed, show (2 : Int32) = nI 2 from rfl, nI_add, pk_mul, show (4 : Int32) = nI 4 from rfl, pk_div (by omega) (by decide) (by decide)]
  unfold S_waitV
  rw [e]
  split
  · exact ⟨1, by decide, rfl⟩
  · exact ⟨_, by omega, rfl⟩
theorem count_nat (f : Row) (k : Nat) : ∃ c : Nat, c ≤ 7 ∧ S_count f k = nI c ∧ (¬ f k = 0 → 1 ≤ c) := by
  unfold S_count
  split
  · next q => exact ⟨0, by decide, rfl, fun z => absurd q z⟩
  · obtain ⟨j, hj, e⟩ := S_ones_n (f (6 + k)) 6
    refine ⟨1 + j, by omega, ?_, fun _ => by omega⟩
    unfold S_ones
    rw [e, show (1 : Int32) = nI 1 from rfl, nI_add]
theorem bit_or_has : ∀ k, k < 6 → ∀ o, o < 6 → ¬ o = k → ∀ v, v < 64 → S_has (nI v) (nI o) = false → S_has (nI v ||| (1 <<< (nI k &&& 31))) (nI o) = false := by decide +kernel
theorem bit_and_has : ∀ k, k < 6 → ∀ o, o < 6 → ∀ v, v < 64 → S_has (nI v) (nI o) = false → S_has (nI v &&& ((1 <<< (nI k &&& 31)) ^^^ (-1))) (nI o) = false := by decide +kernel
/-- only whom it knows, of one that is not away -/
theorem MemV_kn {q G k : Nat} {a kn b d g kn' : Int32} (h : MemV q G k a kn b d g) (ha : ¬ a = 0) (h1 : ∃ v : Nat, v < 64 ∧ kn' = nI v) (h2 : S_has kn' (nI k) = false) : MemV q G k a kn' b d g :=
  ⟨h.1.elim (fun z => absurd z.1 ha) Or.inr, h1, h2, h.2.2.2⟩
theorem Inv_kn {n G : Nat} {f : Row} {k : Nat} {x : Int32} (h : Inv n G f) (hk : k < 6) (ha : ¬ f k = 0) (h1 : ∃ v : Nat, v < 64 ∧ x = nI v) (h2 : S_has x (nI k) = false) : Inv n G (upd f (6 + k) x) := by
  refine Inv_mem (k := k) h (Nat.le_refl _) hk (Sz_upd h.sz (by omega) (by omega) (by omega) (by omega)) (pk_un (by omega)) (fun j hj hne => ⟨pk_un (by omega), pk_un (by omega), pk_un (by omega), pk_un (by omega), pk_un (by omega)⟩) (fun q hq e hm => ?_)
  rw [pk_us, pk_un (by omega), pk_un (by omega), pk_un (by omega), pk_un (by omega)]
  exact MemV_kn hm ha h1 h2
theorem Inv_due {n G : Nat} {f : Row} {k : Nat} {x : Int32} (h : Inv n G f) (hk : k < 6) (ha : ¬ f k = 0) (h1 : ∀ q, q ≤ n → f 70 = nI q → ∃ y : Nat, y ≤ q + 16777216 ∧ x = nI y) : Inv n G (upd f (54 + k) x) := by
  refine Inv_mem (k := k) h (Nat.le_refl _) hk (Sz_upd h.sz (by omega) (by omega) (by omega) (by omega)) (pk_un (by omega)) (fun j hj hne => ⟨pk_un (by omega), pk_un (by omega), pk_un (by omega), pk_un (by omega), pk_un (by omega)⟩) (fun q hq e hm => ?_)
  rw [pk_us, pk_un (by omega), pk_un (by omega), pk_un (by omega), pk_un (by omega)]
  exact ⟨hm.1.elim (fun z => absurd z.1 ha) Or.inr, hm.2.1, hm.2.2.1, hm.2.2.2.1, h1 q hq e, hm.2.2.2.2.2⟩
theorem Inv_beg {n G : Nat} {f : Row} {k : Nat} {x : Int32} (h : Inv n G f) (hk : k < 6) (ha : ¬ f k = 0) (h1 : ∀ q, q ≤ n → f 70 = nI q → ∃ y : Nat, y ≤ q ∧ x = nI y) : Inv n G (upd f (48 + k) x) := by
  refine Inv_mem (k := k) h (Nat.le_refl _) hk (Sz_upd h.sz (by omega) (by omega) (by omega) (by omega)) (pk_un (by omega)) (fun j hj hne => ⟨pk_un (by omega), pk_un (by omega), pk_un (by omega), pk_un (by omega), pk_un (by omega)⟩) (fun q hq e hm => ?_)
  rw [pk_us, pk_un (by omega), pk_un (by omega), pk_un (by omega), pk_un (by omega)]
  exact ⟨hm.1.elim (fun z => absurd z.1 ha) Or.inr, hm.2.1, hm.2.2.1, h1 q hq e, hm.2.2.2.2⟩
theorem Inv_report {n G : Nat} {f : Row} {k : Nat} (h : Inv n G f) (hk : k < 6) : Inv n G (S_report f k) := by
  unfold S_report
  refine it_ind (P := Inv n G) (N := 6) (Inv_free h (by omega)) (fun o g ho hg => ?_) 6 (Nat.le_refl 6)
  unfold S_repStep
  split
  · next hr =>
    refine Inv_free ?_ (by omega)
    obtain ⟨v, hv, ev⟩ := hg.kn o ho
    have hok : ¬ o = k := by
      intro q
      unfold S_reaches at hr
      rw [q, if_pos rfl] at hr
      cases hr
    refine Inv_kn hg ho (S_reaches_o hr) (by rw [ev]; exact bit_or k hk v hv) ?_
    have := hg.ow o ho
    rw [ev] at this ⊢
    exact bit_or_has k hk o ho hok v hv this
  · exact hg
theorem report_70 {f : Row} {k : Nat} (hk : k < 6) : S_report f k 70 = f 70 := by
  unfold S_report
  exact it_ind (P := fun (g : Row) => g 70 = f 70) (N := 6) (by unfold S_rep0; exact pk_un (by decide)) (fun i x hi hx => by
    unfold S_repStep
    split
    · rw [pk_un (by omega)]; unfold S_kn; rw [pk_un (by omega)]; exact hx
    · exact hx) 6 (Nat.le_refl 6)
theorem Inv_lrep {n G : Nat} {f : Row} {k : Nat} (h : Inv n G f) (hk : k < 6) (h0 : ¬ f k = 0) : Inv n G (S_lrep f k) :=
  Inv_beg (Inv_report h hk) hk (by rw [report_lo hk]; exact h0) (fun q hq e => ⟨q, Nat.le_refl _, e⟩)
theorem Inv_tick0 {n G : Nat} {f : Row} (h : Inv n G f) : Inv (n + 1) G (S_tick0 f) := by
  obtain ⟨hs, q, hq, e, hm⟩ := Inv_iff.mp h
  unfold S_tick0
  refine Inv_iff.mpr ⟨Sz_upd hs (by decide) (by decide) (by decide) (by decide), q + 1, by omega, by rw [pk_us, e, nI_1], fun k hk => ?_⟩
  rw [pk_un (by omega), pk_un (by omega), pk_un (by omega), pk_un (by omega), pk_un (by omega)]
  exact (hm k hk).mono (by omega) (Nat.le_refl _)
theorem Inv_forget {n G : Nat} {f : Row} {k : Nat} (h : Inv n G f) (hk : k < 6) (h0 : ¬ f k = 0) : Inv n G (S_forget f k) := by
  unfold S_forget
  refine (it_ind (P := fun g => Inv n G g ∧ g k = f k) (N := 6) ⟨h, rfl⟩ (fun o g ho hg => ?_) 6 (Nat.le_refl 6)).1
  unfold S_forStep
  refine ⟨?_, by rw [pk_un (by omega)]; exact hg.2⟩
  obtain ⟨v, hv, ev⟩ := hg.1.kn k hk
  have hw := hg.1.ow k hk
  rw [ev] at hw ⊢
  split
  · exact Inv_kn hg.1 hk (by rw [hg.2]; exact h0) (bit_and o ho v hv) (bit_and_has o ho k hk v hv hw)
  · exact Inv_kn hg.1 hk (by rw [hg.2]; exact h0) ⟨v, hv, and_m1 _⟩ (by rw [and_m1]; exact hw)
theorem ga_ne {f : Row} {k j : Nat} (h1 : ¬ j = k) (h2 : ¬ j = 6 + k) (h3 : ¬ j = 48 + k) (h4 : ¬ j = 54 + k) (h5 : ¬ j = 60 + k) : S_goAway f k j = f j := by
  unfold S_goAway
  rw [pk_un h5, pk_un h4, pk_un h3, pk_un h2, pk_un h1]
theorem ga_0 {f : Row} {k : Nat} (hk : k < 6) : S_goAway f k k = 0 ∧ S_goAway f k (6 + k) = 0 ∧ S_goAway f k (48 + k) = 0 ∧ S_goAway f k (54 + k) = 0 ∧ S_goAway f k (60 + k) = 0 := by
  unfold S_goAway
  refine ⟨?_, ?_, ?_, ?_, ?_⟩
  · rw [pk_un (by omega), pk_un (by omega), pk_un (by omega), pk_un (by omega), pk_us]
  · rw [pk_un (by omega), pk_un (by omega), pk_un (by omega), pk_us]
  · rw [pk_un (by omega), pk_un (by omega), pk_us]
  · rw [pk_un (by omega), pk_us]
  · rw [pk_us]
theorem Inv_goAway {n G : Nat} {f : Row} {k : Nat} (h : Inv n G f) (hk : k < 6) : Inv n G (S_goAway f k) := by
  obtain ⟨e0, e1, e2, e3, e4⟩ := ga_0 (f := f) hk
  refine Inv_mem (k := k) h (Nat.le_refl _) hk ?_ (ga_ne (by omega) (by omega) (by omega) (by omega) (by omega)) (fun j hj hne => ⟨ga_ne (by omega) (by omega) (by omega) (by omega) (by omega), ga_ne (by omega) (by omega) (by omega) (by omega) (by omega), ga_ne (by omega) (by omega) (by omega) (by omega) (by omega), ga_ne (by omega) (by omega) (by omega) (by omega) (by omega), ga_ne (by omega) (by omega) (by omega) (by omega) (by omega)⟩) (fun q hq e hm => ?_)
  · unfold Sz
    rw [ga_ne (by omega) (by omega) (by omega) (by omega) (by omega), ga_ne (by omega) (by omega) (by omega) (by omega) (by omega), ga_ne (by omega) (by omega) (by omega) (by omega) (by omega), ga_ne (by omega) (by omega) (by omega) (by omega) (by omega)]
    exact h.sz
  · rw [e0, e1, e2, e3, e4]
    exact ⟨Or.inl ⟨rfl, rfl, rfl, rfl, rfl⟩, ⟨0, by decide, rfl⟩, (by decide : ∀ k, k < 6 → S_has 0 (nI k) = false) k hk, ⟨0, by omega, rfl⟩, ⟨0, by omega, rfl⟩, 0, by omega, rfl⟩
theorem Inv_bye0 {n G : Nat} {f : Row} {k : Nat} (h : Inv n G f) (hk : k < 6) : Inv n G (S_bye0 f k) := Inv_goAway (Inv_free h (by omega)) hk
theorem Inv_bg {n G : Nat} {g : Row} {o : Nat} (h : Inv n G g) (ho : o < 6) (h0 : ¬ g o = 0) : Inv n (G + 1) (S_bg g o) := by
  by_cases h2 : g o = 2
  · rw [bg_t h2]
    refine Inv_mem (k := o) h (by omega) ho (Sz_upd h.sz (by omega) (by omega) (by omega) (by omega)) (pk_un (by omega)) (fun j hj hne => ⟨pk_un (by omega), pk_un (by omega), pk_un (by omega), pk_un (by omega), pk_un (by omega)⟩) (fun q hq e hm => ?_)
    rw [pk_us, pk_un (by omega), pk_un (by omega), pk_un (by omega), pk_un (by omega)]
    obtain ⟨-, m2, m3, m4, m5, z, hz, ez⟩ := hm
    exact ⟨Or.inr (Or.inr h2), m2, m3, m4, m5, z + 1, by omega, by rw [ez, nI_1]⟩
  · rw [bg_f h2]
    exact h.mono (Nat.le_refl _) (by omega)
theorem Inv_bk {n G : Nat} {g : Row} {k o : Nat} (h : Inv n G g) (hk : k < 6) (ho : o < 6) (h0 : ¬ g o = 0) : Inv n (G + 1) (S_bk g k o) := by
  have hb := Inv_bg h ho h0
  obtain ⟨v, hv, ev⟩ := hb.kn o ho
  have hw := hb.ow o ho
  unfold S_bk
  refine Inv_kn hb ho (by rw [bg_6 (by omega)]; exact h0) ?_ ?_
  · rw [ev]; exact bit_and k hk v hv
  · rw [ev] at hw ⊢; exact bit_and_has k hk o ho v hv hw
theorem part_le (L w : Nat) : L * (w - 1) / w ≤ L := by
  rcases Nat.eq_zero_or_pos w with q | q
  · subst q; simp
  · exact Nat.div_le_of_le_mul (by rw [Nat.mul_comm]; exact Nat.mul_le_mul_right L (by omega))
theorem bleft_nat {h : Row} {o q d : Nat} (e : h 70 = nI q) (ed : h (54 + o) = nI d) (hq : q ≤ 1048576) (hd : d ≤ q + 16777216) : ∃ L : Nat, L ≤ 16777216 ∧ S_bleft h o = nI L := by
  unfold S_bleft
  rw [e, ed]
  split
  · exact ⟨0, by omega, rfl⟩
  · next c =>
    rw [nI_leI (by omega) (by omega)] at c
    exact ⟨d - q, by omega, pk_sub (by omega)⟩
theorem Inv_hear {n G : Nat} {g : Row} {k o : Nat} (h : Inv n G g) (hk : k < 6) (ho : o < 6) (h0 : ¬ g o = 0) (hn : n ≤ 1048576) : Inv n (G + 1) (S_hear k o g) := by
  have hb := Inv_bk h hk ho h0
  unfold S_hear
  split
  · split
    · next h1 =>
      obtain ⟨w, hw, ew, hw1⟩ := count_nat (S_bg g o) o
      have hw1 := hw1 (by rw [bg_6 (by omega)]; exact h0)
      have hne : ¬ S_bk g k o o = 0 := by rw [h1]; decide
      have hd : Inv n (G + 1) (S_bdue (S_bk g k o) o (S_count (S_bg g o) o)) := by
        unfold S_bdue
        refine Inv_due hb ho hne (fun q hq e => ?_)
        obtain ⟨-, q2, hq2, e2, hm⟩ := Inv_iff.mp hb
        obtain ⟨-, -, -, -, ⟨d, hd, ed⟩, -⟩ := hm o ho
        have : q2 = q := (nI_eq (by omega) (by omega)).mp (e2.symm.trans e)
        subst this
        obtain ⟨L, hL, eL⟩ := bleft_nat e ed (by omega) hd
        have hLw : L * (w - 1) ≤ 16777216 * 6 := Nat.mul_le_mul hL (by omega)
        refine ⟨q2 + L * (w - 1) / w, by have := part_le L w; omega, ?_⟩
        rw [e, eL, ew, show (1 : Int32) = nI 1 from rfl, pk_sub hw1, pk_mul, pk_div (by omega) (by omega) (by omega), nI_add]
      unfold S_bbeg
      refine Inv_beg hd ho (by unfold S_bdue; rw [pk_un (by omega)]; exact hne) (fun q hq e => ?_)
      obtain ⟨-, q2, hq2, e2, hm⟩ := Inv_iff.mp hd
      obtain ⟨-, -, -, ⟨b, hb2, eb⟩, -⟩ := hm o ho
      have : q2 = q := (nI_eq (by omega) (by omega)).mp (e2.symm.trans e)
      subst this
      have e70 : S_bk g k o 70 = nI q2 := by rw [← e]; unfold S_bdue; rw [pk_un (by omega)]
      have hLw : (q2 - b) * (w - 1) ≤ 1048576 * 6 := Nat.mul_le_mul (by omega) (by omega)
      have hp := part_le (q2 - b) w
      refine ⟨q2 - (q2 - b) * (w - 1) / w, Nat.sub_le _ _, ?_⟩
      rw [e70, eb, ew, show (1 : Int32) = nI 1 from rfl, pk_sub hw1, pk_sub hb2, pk_mul, pk_div (by omega) (by omega) (by omega), pk_sub (by omega)]
    · exact hb
  · exact hb
theorem Inv_byeStep {n G : Nat} {g : Row} {k o : Nat} (h : Inv n G g) (hk : k < 6) (ho : o < 6) (hn : n ≤ 1048576) : Inv n (G + 1) (S_byeStep k o g) := by
  cases hr : S_reaches g k o with
  | false => rw [S_byeStep_a hr]; exact h.mono (Nat.le_refl _) (by omega)
  | true => rw [S_byeStep_t hr]; exact Inv_hear h hk ho (S_reaches_o hr) hn
theorem Inv_byes {n G : Nat} {f : Row} {k : Nat} (h : Inv n G f) (hk : k < 6) (hn : n ≤ 1048576) : ∀ i, i ≤ 6 → Inv n (G + i) (it (S_byeStep k) i (S_bye0 f k)) := by
  intro i
  induction i with
  | zero => intro _; exact Inv_bye0 h hk
  | succ i ih =>
    intro hi
    rw [it_s]
    exact (Inv_byeStep (n := n) (G := G + i) (ih (by omega)) hk (by omega) hn).mono (Nat.le_refl _) (by omega)
theorem Inv_bye {n G : Nat} {f : Row} {k : Nat} (h : Inv n G f) (hk : k < 6) (hn : n ≤ 1048576) : Inv n (G + 6) (S_bye f k) := by
  unfold S_bye
  exact Inv_byes h hk hn 6 (Nat.le_refl 6)
theorem lw_nat {n G : Nat} {f : Row} {k : Nat} (h : Inv n G f) (hk : k < 6) (hG : G ≤ 1048576) : ∃ w : Nat, w ≤ 16777216 ∧ S_lw f k = nI w := by
  unfold S_lw
  split
  · obtain ⟨c, hc, ec, -⟩ := count_nat f k
    rw [ec]
    exact wait_nat h.sz (by omega)
  · obtain ⟨-, q, -, -, hm⟩ := Inv_iff.mp h
    obtain ⟨-, -, -, -, -, z, hz, ez⟩ := hm k hk
    rw [ez]
    exact wait_nat h.sz (by omega)
theorem Inv_look {n G : Nat} {f : Row} {k : Nat} (h : Inv n G f) (hk : k < 6) (h0 : ¬ f k = 0) (hn : n ≤ 1048576) (hG : G ≤ 1048576) : Inv n (G + 6) (S_look f k) := by
  have hd := Inv_draw h
  have hk0 : ¬ S_draw f k = 0 := by rw [draw_ne (by omega)]; exact h0
  obtain ⟨w, hw, ew⟩ := lw_nat h hk hG
  unfold S_look
  split
  · split
    · have hl := Inv_lrep hd hk hk0
      have hld := Inv_draw hl
      refine (Inv_due hld hk (by rw [draw_ne (by omega), lrep_k hk]; exact hk0) (fun q hq e => ?_)).mono (Nat.le_refl _) (by omega)
      obtain ⟨c, hc, ec, -⟩ := count_nat (S_lrep (S_draw f) k) k
      obtain ⟨w2, hw2, ew2⟩ := wait_nat (j := c) hl.sz (by omega)
      refine ⟨q + w2, by omega, ?_⟩
      rw [draw_ne (by decide)] at e
      rw [ec, e, ew2, nI_add]
    · exact Inv_bye hd hk hn
  · refine (Inv_due hd hk hk0 (fun q hq e => ?_)).mono (Nat.le_refl _) (by omega)
    obtain ⟨-, q2, hq2, e2, hm⟩ := Inv_iff.mp hd
    obtain ⟨-, -, -, ⟨b, hb, eb⟩, -⟩ := hm k hk
    have : q2 = q := (nI_eq (by omega) (by omega)).mp (e2.symm.trans e)
    subst this
    exact ⟨b + w, by omega, by rw [eb, ew, nI_add]⟩
theorem Inv_dueStep {n G : Nat} {g : Row} {k : Nat} (h : Inv n G g) (hk : k < 6) (hn : n ≤ 1048576) (hG : G ≤ 1048576) : Inv n (G + 6) (S_dueStep k g) := by
  unfold S_dueStep
  split
  · exact h.mono (Nat.le_refl _) (by omega)
  · next h0 =>
    split
    · exact h.mono (Nat.le_refl _) (by omega)
    · exact Inv_look h hk h0 hn hG
theorem Inv_dues {n G : Nat} {f : Row} (h : Inv n G f) (hn : n + 1 ≤ 1048576) (hG : G + 36 ≤ 1048576) : ∀ i, i ≤ 6 → Inv (n + 1) (G + 6 * i) (it S_dueStep i (S_tick0 f)) := by
  intro i
  induction i with
  | zero => intro _; exact Inv_tick0 h
  | succ i ih =>
    intro hi
    rw [it_s]
    exact (Inv_dueStep (n := n + 1) (G := G + 6 * i) (ih (by omega)) (by omega) hn (by omega)).mono (Nat.le_refl _) (by omega)
theorem Inv_fgStep {n G : Nat} {g : Row} {k : Nat} (h : Inv n G g) (hk : k < 6) : Inv n G (S_fgStep k g) := by
  unfold S_fgStep
  split
  · next h1 => exact Inv_forget h hk (by rw [h1]; decide)
  · exact h
theorem Inv_fgs {n G : Nat} {f : Row} (h : Inv n G f) (hn : n + 1 ≤ 1048576) (hG : G + 36 ≤ 1048576) : ∀ i, i ≤ 6 → Inv (n + 1) (G + 36) (it S_fgStep i (S_tick1 f)) := by
  intro i
  induction i with
  | zero => intro _; rw [it_0]; unfold S_tick1; exact (Inv_dues h hn hG 6 (Nat.le_refl 6)).mono (Nat.le_refl _) (by omega)
  | succ i ih =>
    intro hi
    rw [it_s]
    exact Inv_fgStep (ih (by omega)) (by omega)
theorem Inv_tick {n G : Nat} {f : Row} (h : Inv n G f) (hn : n + 1 ≤ 1048576) (hG : G + 36 ≤ 1048576) : Inv (n + 1) (G + 36) (S_tick f) := by
  unfold S_tick
  exact Inv_fgs h hn hG 6 (Nat.le_refl 6)
theorem Inv_ticks {n G : Nat} {f : Row} (h : Inv n G f) (m : Nat) (hn : n + m ≤ 1048576) (hG : G + 36 * m ≤ 1048576) : ∀ i, i ≤ m → Inv (n + i) (G + 36 * i) (S_ticks f i) := by
  intro i
  induction i with
  | zero => intro _; exact h
  | succ i ih =>
    intro hi
    rw [S_ticks_s]
    exact (Inv_tick (n := n + i) (G := G + 36 * i) (ih (by omega)) (by omega) (by omega)).mono (by omega) (by omega)
theorem Inv_joins {n G : Nat} {f : Row} {k : Nat} (h : Inv n G f) (hk : k < 6) (h0 : f k = 0) : Inv n G (S_joins f k) := by
  have e70 : S_joins0 f k 70 = f 70 := by unfold S_joins0; rw [pk_un (by omega), pk_un (by omega), pk_un (by omega), pk_un (by omega)]
  have ek : S_joins0 f k k = 1 := by unfold S_joins0; rw [pk_un (by omega), pk_un (by omega), pk_un (by omega), pk_us]
  have h1 : Inv n G (S_joins0 f k) := by
    refine Inv_mem (k := k) h (Nat.le_refl _) hk ?_ e70 (fun j hj hne => ?_) (fun q hq e hm => ?_)
    · unfold S_joins0
      exact Sz_upd (Sz_upd (Sz_upd (Sz_upd h.sz (by omega) (by omega) (by omega) (by omega)) (by omega) (by omega) (by omega) (by omega)) (by omega) (by omega) (by omega) (by omega)) (by omega) (by omega) (by omega) (by omega)
    · unfold S_joins0
      refine ⟨?_, ?_, ?_, ?_, ?_⟩ <;> rw [pk_un (by omega), pk_un (by omega), pk_un (by omega), pk_un (by omega)]
    · obtain ⟨-, -, -, -, m5, -⟩ := hm
      have a6 : S_joins0 f k (6 + k) = 0 := by unfold S_joins0; rw [pk_un (by omega), pk_un (by omega), pk_us]
      have a48 : S_joins0 f k (48 + k) = nI q := by unfold S_joins0; rw [pk_us, pk_un (by omega), pk_un (by omega), pk_un (by omega)]; exact e
      have a54 : S_joins0 f k (54 + k) = f (54 + k) := by unfold S_joins0; rw [pk_un (by omega), pk_un (by omega), pk_un (by omega), pk_un (by omega)]
      have a60 : S_joins0 f k (60 + k) = 0 := by unfold S_joins0; rw [pk_un (by omega), pk_us]
      rw [ek, a6, a48, a54, a60]
      exact ⟨Or.inr (Or.inl ⟨rfl, rfl⟩), ⟨0, by decide, rfl⟩, (by decide : ∀ k, k < 6 → S_has 0 (nI k) = false) k hk, ⟨q, Nat.le_refl _, rfl⟩, m5, 0, by omega, rfl⟩
  unfold S_joins
  refine Inv_due (Inv_draw h1) hk (by rw [draw_ne (by omega), ek]; decide) (fun q hq e => ?_)
  obtain ⟨w, hw, ew⟩ := wait_nat (j := 1) h1.sz (by decide)
  rw [draw_ne (by decide)] at e
  exact ⟨q + w, by omega, by rw [e, show (1 : Int32) = nI 1 from rfl, ew, nI_add]⟩
theorem Inv_leaves {n G : Nat} {f : Row} {k : Nat} (h : Inv n G f) (hk : k < 6) (h1 : f k = 1) (hn : n ≤ 1048576) (hG : 1 ≤ G) : Inv n (G + 6) (S_leaves f k) := by
  unfold S_leaves
  split
  · have e70 : S_leaves0 f k 70 = f 70 := by unfold S_leaves0; rw [pk_un (by omega), pk_un (by omega), pk_un (by omega)]
    have ek : S_leaves0 f k k = 2 := by unfold S_leaves0; rw [pk_un (by omega), pk_un (by omega), pk_us]
    have h2 : Inv n G (S_leaves0 f k) := by
      refine Inv_mem (k := k) h (Nat.le_refl _) hk ?_ e70 (fun j hj hne => ?_) (fun q hq e hm => ?_)
      · unfold S_leaves0
        exact Sz_upd (Sz_upd (Sz_upd h.sz (by omega) (by omega) (by omega) (by omega)) (by omega) (by omega) (by omega) (by omega)) (by omega) (by omega) (by omega) (by omega)
      · unfold S_leaves0
        refine ⟨?_, ?_, ?_, ?_, ?_⟩ <;> rw [pk_un (by omega), pk_un (by omega), pk_un (by omega)]
      · obtain ⟨-, m2, m3, -, m5, -⟩ := hm
        have a6 : S_leaves0 f k (6 + k) = f (6 + k) := by unfold S_leaves0; rw [pk_un (by omega), pk_un (by omega), pk_un (by omega)]
        have a48 : S_leaves0 f k (48 + k) = nI q := by unfold S_leaves0; rw [pk_us, pk_un (by omega), pk_un (by omega)]; exact e
        have a54 : S_leaves0 f k (54 + k) = f (54 + k) := by unfold S_leaves0; rw [pk_un (by omega), pk_un (by omega), pk_un (by omega)]
        have a60 : S_leaves0 f k (60 + k) = 1 := by unfold S_leaves0; rw [pk_un (by omega), pk_us]
        rw [ek, a6, a48, a54, a60]
        exact ⟨Or.inr (Or.inr rfl), m2, m3, ⟨q, Nat.le_refl _, rfl⟩, m5, 1, hG, rfl⟩
    unfold S_leaves1
    refine (Inv_due (Inv_draw h2) hk (by rw [draw_ne (by omega), ek]; decide) (fun q hq e => ?_)).mono (Nat.le_refl _) (by omega)
    obtain ⟨w, hw, ew⟩ := wait_nat (j := 1) h2.sz (by decide)
    rw [draw_ne (by decide)] at e
    exact ⟨q + w, by omega, by rw [e, show (1 : Int32) = nI 1 from rfl, ew, nI_add]⟩
  · exact Inv_bye h hk hn
