/-! what holds of a row in every run: kinds, whom it knows, times; n bounds the clock, G the goers -/
def S19 (x : Int32) : Prop := ∃ z : Nat, 1 ≤ z ∧ z ≤ 9 ∧ x = nI z
def Tm (n G : Nat) (f : Row) : Prop := ∃ q : Nat, q ≤ n ∧ f 70 = nI q ∧ ∀ k, k < 6 → (∃ b : Nat, b ≤ q ∧ f (48 + k) = nI b) ∧ (∃ d : Nat, d ≤ q + 16777216 ∧ f (54 + k) = nI d) ∧ ∃ g : Nat, g ≤ G ∧ f (60 + k) = nI g
def Aw (f : Row) : Prop := ∀ k, k < 6 → (f k = 0 ∧ f (6 + k) = 0 ∧ f (48 + k) = 0 ∧ f (54 + k) = 0 ∧ f (60 + k) = 0) ∨ (f k = 1 ∧ f (60 + k) = 0) ∨ f k = 2
def Ow (f : Row) : Prop := ∀ k, k < 6 → S_has (f (6 + k)) (nI k) = false
def Sz (f : Row) : Prop := S19 (f 66) ∧ S19 (f 67) ∧ S19 (f 68) ∧ ∃ z : Nat, z < 65536 ∧ f 69 = nI z
def Inv (n G : Nat) (f : Row) : Prop := Aw f ∧ Kn f ∧ Ow f ∧ Sz f ∧ Tm n G f
theorem Inv.aw {n G : Nat} {f : Row} (h : Inv n G f) : Aw f := h.1
theorem Inv.kn {n G : Nat} {f : Row} (h : Inv n G f) : Kn f := h.2.1
theorem Inv.ow {n G : Nat} {f : Row} (h : Inv n G f) : Ow f := h.2.2.1
theorem Inv.sz {n G : Nat} {f : Row} (h : Inv n G f) : Sz f := h.2.2.2.1
theorem Inv.tm {n G : Nat} {f : Row} (h : Inv n G f) : Tm n G f := h.2.2.2.2
theorem S19.ge {x : Int32} (h : S19 x) : 1 ≤ x := by
  obtain ⟨z, h1, h2, e⟩ := h
  rw [e]
  exact nI_le (a := 1) h1 (by omega)
theorem Inv.z {n G : Nat} {f : Row} (h : Inv n G f) : Z67 f := h.sz.2.1.ge
theorem Inv.mono {n G n' G' : Nat} {f : Row} (h : Inv n G f) (h1 : n ≤ n') (h2 : G ≤ G') : Inv n' G' f := by
  obtain ⟨a, b, c, d, q, hq, e, ht⟩ := h
  refine ⟨a, b, c, d, q, Nat.le_trans hq h1, e, fun k hk => ?_⟩
  obtain ⟨x, y, g, hg, eg⟩ := ht k hk
  exact ⟨x, y, g, Nat.le_trans hg h2, eg⟩
theorem Inv.one {n G : Nat} {f : Row} {k : Nat} (h : Inv n G f) (hk : k < 6) (h0 : ¬ f k = 0) (h2 : ¬ f k = 2) : f k = 1 := by
  rcases h.aw k hk with q | q | q
  · exact absurd q.1 h0
  · exact q.1
  · exact absurd q h2
def S_hear (k o : Nat) (g : Row) : Row := if S_has (S_bg g o (6 + o)) (nI k) then (if S_bk g k o o = 1 then S_bbeg (S_bdue (S_bk g k o) o (S_count (S_bg g o) o)) o (S_count (S_bg g o) o) (S_bk g k o 70) else S_bk g k o) else S_bk g k o
theorem S_byeStep_t {k o : Nat} {g : Row} (h1 : S_reaches g k o = true) : S_byeStep k o g = S_hear k o g := by unfold S_byeStep S_hear; rw [if_pos h1]
theorem bg_t {g : Row} {o : Nat} (h : g o = 2) : S_bg g o = upd g (60 + o) (g (60 + o) + 1) := by unfold S_bg; rw [if_pos h]
theorem bg_f {g : Row} {o : Nat} (h : ¬ g o = 2) : S_bg g o = g := by
  unfold S_bg
  rw [if_neg h]
  exact up_same (by rw [show (0 : Int32) = nI 0 from rfl]; exact (Int32.add_zero _).symm)
theorem bg_6 {g : Row} {o j : Nat} (hj : ¬ j = 60 + o) : S_bg g o j = g j := pk_un hj
theorem Kn_bg {g : Row} {o : Nat} (h : Kn g) (ho : o < 6) : Kn (S_bg g o) := Kn_upd h (by omega)
theorem bit_clr : ∀ k, k < 6 → ∀ v, v < 64 → S_has (nI v) (nI k) = false → nI v &&& ((1 <<< (nI k &&& 31)) ^^^ (-1)) = nI v := by decide +kernel
theorem hear_a {k o : Nat} {g : Row} (hK : Kn g) (hk : k < 6) (ho : o < 6) (h : S_has (S_bg g o (6 + o)) (nI k) = false) : S_bg g o = S_hear k o g := by
  have e : S_hear k o g = S_bk g k o := by unfold S_hear; rw [h]; rfl
  rw [e]
  unfold S_bk
  obtain ⟨v, hv, ev⟩ := hK o ho
  have e2 : S_bg g o (6 + o) = nI v := by rw [bg_6 (by omega), ev]
  rw [e2] at h ⊢
  rw [bit_clr k hk v hv h]
  exact (up_same e2).symm
theorem hear_b {k o : Nat} {g : Row} (h : S_has (S_bg g o (6 + o)) (nI k) = true) (h1 : ¬ S_bk g k o o = 1) : S_bk g k o = S_hear k o g := by unfold S_hear; rw [if_pos h, if_neg h1]
theorem hear_c {k o : Nat} {g : Row} (h : S_has (S_bg g o (6 + o)) (nI k) = true) (h1 : S_bk g k o o = 1) : S_bbeg (S_bdue (S_bk g k o) o (S_count (S_bg g o) o)) o (S_count (S_bg g o) o) (S_bk g k o 70) = S_hear k o g := by unfold S_hear; rw [if_pos h, if_pos h1]
theorem left_nat {d q : Nat} (hd : d < 2 ^ 30) (hq : q < 2 ^ 30) : (if 0 < nI d - nI q then nI d - nI q else 0) = (if nI d ≤ nI q then (0 : Int32) else nI d - nI q) := by
  rcases Nat.lt_or_ge q d with h | h
  · rw [pk_sub (by omega), if_pos (by exact nI_lt (a := 0) (by omega) (by omega)), if_neg (by rw [nI_leI (by omega) (by omega)]; omega)]
  · rw [if_pos (nI_le h (by omega)), if_neg]
    intro q2
    rcases Nat.lt_or_ge d q with h3 | h3
    · exact absurd (pk_sneg hq h3) (Int32.not_lt.mpr (Int32.le_of_lt q2))
    · have : d = q := by omega
      subst this
      rw [Int32.sub_self] at q2
      exact absurd q2 (by decide)
theorem bk_hi {g : Row} {k o j : Nat} (h1 : ¬ j = 60 + o) (h2 : ¬ j = 6 + o) : S_bk g k o j = g j := by
  unfold S_bk
  rw [pk_un h2, bg_6 h1]
theorem left_eq {n G : Nat} {g : Row} {k o : Nat} (hI : Inv n G g) (hn : n ≤ 1048576) (ho : o < 6) : (if 0 < S_bk g k o (54 + o) - S_bk g k o 70 then S_bk g k o (54 + o) - S_bk g k o 70 else 0) = S_bleft (S_bk g k o) o := by
  unfold S_bleft
  rw [bk_hi (by omega) (by omega), bk_hi (by omega) (by omega)]
  obtain ⟨q, hq, e, ht⟩ := hI.tm
  obtain ⟨-, ⟨d, hd, ed⟩, -⟩ := ht o ho
  rw [e, ed]
  exact left_nat (by omega) (by omega)
theorem mem_nI {k : Nat} (h : k < 6) : S_mem (nI k) = true := by
  unfold S_mem
  rw [if_neg (nI_pos (by omega)), if_neg (by rw [show (6 : Int32) = nI 6 from rfl, nI_leI (by decide) (by omega)]; omega)]
theorem enter_eq {n G : Nat} {f : Row} {k : Nat} (hI : Inv n G f) (hk : k < 6) (h0 : f k = 0) : S_begin (upd f k 1) k = S_joins f k := by
  have h6 : f (6 + k) = 0 ∧ f (60 + k) = 0 := by
    rcases hI.aw k hk with q | q | q
    · exact ⟨q.2.1, q.2.2.2.2⟩
    · rw [h0] at q; exact absurd q.1 (by decide)
    · rw [h0] at q; exact absurd q (by decide)
  have e : S_begin0 (upd f k 1) k = S_joins0 f k := by
    unfold S_begin0 S_joins0
    rw [up_same (f := upd f k 1) (i := 6 + k) (by rw [pk_un (by omega)]; exact h6.1), up_same (f := upd f k 1) (i := 60 + k) (by rw [pk_un (by omega)]; exact h6.2)]
  unfold S_begin S_joins
  rw [e]
theorem leave_eq {f : Row} {k : Nat} : S_begin (upd (upd f k 2) (60 + k) 1) k = S_leaves1 f k := by
  unfold S_begin S_leaves1
  rfl
theorem report_lo {f : Row} {k j : Nat} (hj : j < 6) : S_report f k j = f j := by
  unfold S_report
  exact it_ind (P := fun (g : Row) => g j = f j) (N := 6) (by unfold S_rep0; exact pk_un (by omega)) (fun i x hi hx => by
    unfold S_repStep
    split
    · rw [pk_un (by omega)]; unfold S_kn; rw [pk_un (by omega)]; exact hx
    · exact hx) 6 (Nat.le_refl 6)
theorem lrep_k {f : Row} {k : Nat} (hk : k < 6) : S_lrep f k k = f k := by
  unfold S_lrep
  rw [pk_un (by omega), report_lo hk]
theorem bit_or : ∀ k, k < 6 → ∀ v, v < 64 → ∃ u, u < 64 ∧ nI v ||| (1 <<< (nI k &&& 31)) = nI u := by decide +kernel
theorem bit_and : ∀ k, k < 6 → ∀ v, v < 64 → ∃ u, u < 64 ∧ nI v &&& ((1 <<< (nI k &&& 31)) ^^^ (-1)) = nI u := by decide +kernel
theorem Kn_set {f : Row} {k : Nat} {x : Int32} (h : Kn f) (hx : ∃ v : Nat, v < 64 ∧ x = nI v) : Kn (upd f (6 + k) x) := fun j hj => by
  by_cases q : j = k
  · subst q; rw [pk_us]; exact hx
  · rw [pk_un (by omega)]; exact h j hj
theorem Kn_report {f : Row} {k : Nat} (h : Kn f) (hk : k < 6) : Kn (S_report f k) := by
  unfold S_report
  exact it_ind (P := Kn) (N := 6) (Kn_upd h (by omega)) (fun i x hi hx => by
    unfold S_repStep
    split
    · refine Kn_upd (Kn_set hx ?_) (by omega)
      obtain ⟨v, hv, e⟩ := hx i hi
      rw [e]
      exact bit_or k hk v hv
    · exact hx) 6 (Nat.le_refl 6)
theorem Kn_lrep {f : Row} {k : Nat} (h : Kn f) (hk : k < 6) : Kn (S_lrep f k) := Kn_upd (Kn_report h hk) (by omega)
theorem forget_0 {g : Row} {k : Nat} (h : g (6 + k) = 0) : S_forget g k = g := by
  unfold S_forget
  exact it_ind (P := fun (x : Row) => x = g) (N := 6) rfl (fun i x hi hx => by
    subst hx
    refine S_fs_no (S_old_a ?_)
    rw [h]
    exact (by decide : ∀ i, i < 6 → S_has 0 (nI i) = false) i hi) 6 (Nat.le_refl 6)
theorem look_a {f : Row} {k : Nat} {x : Int32} (hw : S_lw f k = x) (h : ¬ S_draw f (48 + k) + x ≤ S_draw f 70) : S_look f k = upd (S_draw f) (54 + k) (S_draw f (48 + k) + x) := by
  subst hw; unfold S_look; rw [if_neg h]
theorem look_b {f : Row} {k : Nat} {x : Int32} (hw : S_lw f k = x) (h : S_draw f (48 + k) + x ≤ S_draw f 70) (h1 : ¬ f k = 1) : S_look f k = S_bye (S_draw f) k := by
  subst hw; unfold S_look; rw [if_pos h, if_neg h1]
theorem look_c {f : Row} {k : Nat} {x : Int32} (hw : S_lw f k = x) (h : S_draw f (48 + k) + x ≤ S_draw f 70) (h1 : f k = 1) : S_look f k = upd (S_draw (S_lrep (S_draw f) k)) (54 + k) (S_lrep (S_draw f) k 70 + S_waitV (S_lrep (S_draw f) k) (S_count (S_lrep (S_draw f) k) k)) := by
  subst hw; unfold S_look; rw [if_pos h, if_pos h1]
theorem lw_1 {f : Row} {k : Nat} (h : f k = 1) : S_lw f k = S_waitV f (S_count f k) := by unfold S_lw; rw [if_pos h]
theorem lw_2 {f : Row} {k : Nat} (h : ¬ f k = 1) : S_lw f k = S_waitV f (f (60 + k)) := by unfold S_lw; rw [if_neg h]
def S_eod (f : Row) (k : Nat) : Row := if f k = 0 then S_joins f k else if f k = 1 then S_leaves f k else f
