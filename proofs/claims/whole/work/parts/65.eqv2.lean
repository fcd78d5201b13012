/-! equal answers on rows that are alike -/
theorem EK_congr {f g g' : Row} (h : EK f g) (e : ∀ j, j < 79 → g j = g' j) : EK f g' := by
  refine ⟨⟨fun j hj => (h.lo hj).trans (e j (by omega)), fun k o hk ho hs => (h.1.2 k o hk ho hs).trans (e _ (by omega))⟩, h.2⟩
theorem e_member {f g : Row} {k : Nat} {v : Int32} (h : EK f g) (hk : k < 6) : S_member f k v = S_member g k v := by
  unfold S_member
  rw [h.lo (j := k) (by omega), h.lo (j := 6 + k) (by omega), e_count h hk, h.lo (j := 48 + k) (by omega), h.lo (j := 54 + k) (by omega), h.lo (j := 60 + k) (by omega)]
theorem e_heard {f g : Row} {k o : Nat} (h : EK f g) (hk : k < 6) (ho : o < 6) : S_heard f k o = S_heard g k o := by
  unfold S_heard
  rw [← h.lo (j := 6 + k) (by omega)]
  cases e : S_has (f (6 + k)) (nI o) with
  | false => rw [if_neg Bool.false_ne_true, if_neg Bool.false_ne_true]
  | true => rw [if_pos rfl, if_pos rfl]; exact h.1.2 k o hk ho e
theorem e_way {f g : Row} {k o : Nat} (h : EK f g) (hk : k < 6) : S_way f k o = S_way g k o := by
  unfold S_way
  rw [h.lo (j := 73 + k) (by omega)]
theorem e_about {f g : Row} {ac se ln : Nat} {u : Int32} (h : EK f g) : S_about f ac se ln u = S_about g ac se ln u := by
  unfold S_about
  rw [h.lo (j := 66) (by omega), h.lo (j := 67) (by omega), h.lo (j := 68) (by omega), h.lo (j := 70) (by omega), h.lo (j := 69) (by omega), h.lo (j := 71) (by omega), h.lo (j := 72) (by omega), e_those h, e_those h]
theorem e_ahead {f g : Row} {u : Int32} (h : EK f g) : S_ahead f u = S_ahead g u := by
  unfold S_ahead
  rw [h.lo (j := 69) (by omega), h.lo (j := 71) (by omega), h.lo (j := 72) (by omega), e_those h]
theorem e_crowd {f g : Row} (h : EK f g) : ∀ n, S_crowd f n = S_crowd g n
  | 0 => rfl
  | n + 1 => by rw [S_crowd_s, S_crowd_s, e_pass (EK_ticks h n), e_crowd h n]
/-! at rest -/
theorem restOk_is {f : Row} {k : Nat} : S_restOk f k = ((if f k = 2 then false else true) && S_isOk f k) := by
  unfold S_restOk S_isOk
  by_cases h : f k = 2
  · rw [if_pos h, if_pos h, Bool.false_and]
  · rw [if_neg h, if_neg h, Bool.true_and]
theorem those_0 {f : Row} {v : Int32} (h : ∀ k, k < 6 → ¬ f k = v) : S_those f v = 0 := by
  unfold S_those
  refine it_ind (P := fun x => x = 0) (N := 6) rfl (fun i x hi hx => ?_) 6 (Nat.le_refl 6)
  unfold S_thoseStep
  rw [hx, if_neg (h i hi)]
  rfl
theorem those_n0 {f : Row} {v : Int32} (h : S_those f v = 0) : ∀ k, k < 6 → ¬ f k = v := by
  intro k hk q
  have h1 := those_has (f := f) (w := v) hk
  rw [if_pos q, h, (by decide : ∀ k, k < 6 → S_has 0 (nI k) = false) k hk] at h1
  cases h1
theorem isN_split {f : Row} : ∀ n, S_isN f n = (S_isN f 0 && S_isN f n)
  | 0 => (Bool.and_self _).symm
  | n + 1 => by
    show (S_isN f n && S_isOk f n) = (S_isN f 0 && (S_isN f n && S_isOk f n))
    rw [← Bool.and_assoc, ← isN_split n]
theorem rest_is {f : Row} : S_restN f 6 = S_isN f 6 := by
  by_cases h : S_those f 2 = 0
  · have h2 := those_n0 h
    have key : ∀ n, n ≤ 6 → S_restN f n = S_isN f n := by
      intro n
      induction n with
      | zero => intro _; unfold S_restN S_isN; rw [if_pos h]
      | succ n ih =>
        intro hn
        show (S_restN f n && S_restOk f n) = (S_isN f n && S_isOk f n)
        rw [ih (by omega), restOk_is, if_neg (h2 n (by omega)), Bool.true_and]
    exact key 6 (Nat.le_refl 6)
  · have h0 : S_isN f 0 = false := by unfold S_isN; rw [if_neg h]
    rw [isN_split 6, h0, Bool.false_and]
    have hex : ∃ k, k < 6 ∧ f k = 2 := by
      by_cases h1 : ∃ k, k < 6 ∧ f k = 2
      · exact h1
      · exact absurd (those_0 (fun k hk q => h1 ⟨k, hk, q⟩)) h
    obtain ⟨k, hk, e⟩ := hex
    exact S_restN_f (i := k) (by rw [restOk_is, if_pos e, Bool.false_and]) 6 hk
theorem e_isN {f g : Row} (h : EK f g) : ∀ n, n ≤ 6 → S_isN f n = S_isN g n
  | 0, _ => by unfold S_isN; rw [e_those h]
  | n + 1, hn => by
    show (S_isN f n && S_isOk f n) = (S_isN g n && S_isOk g n)
    rw [e_isN h n (by omega)]
    unfold S_isOk
    rw [h.lo (j := n) (by omega), h.lo (j := 6 + n) (by omega), e_those h]
theorem e_rest {f g : Row} (h : EK f g) : ∀ n i, S_rest (fun f => S_restN f 6) f i n = S_rest (fun f => S_isN f 6) g i n
  | 0, _ => rfl
  | n + 1, i => by
    rw [S_rest, S_rest, rest_is, e_isN (EK_ticks h i) 6 (Nat.le_refl 6), e_rest h n (i + 1)]
/-! told doings -/
theorem EK_jd {f g : Row} {h x y : Nat} (hE : EK f g) (hx : x < 10) (hy : y < 10) : (S_jd f h x y).1 = (S_jd g h x y).1 ∧ EK (S_jd f h x y).2 (S_jd g h x y).2 := by
  unfold S_jd
  split
  · split
    · next q =>
      have h6 := plain_lt (by omega) q
      rw [hE.lo (j := y) (by omega)]
      split
      · exact ⟨rfl, EK_joins hE h6⟩
      · exact ⟨rfl, hE⟩
    · exact ⟨rfl, hE⟩
  · split
    · split
      · next q =>
        have h6 := plain_lt (by omega) q
        rw [hE.lo (j := y) (by omega)]
        split
        · exact ⟨rfl, EK_leaves hE h6⟩
        · exact ⟨rfl, hE⟩
      · exact ⟨rfl, hE⟩
    · split
      · split
        · rw [e_pass hE]
          split
          · exact ⟨rfl, EK_ticks hE _⟩
          · exact ⟨rfl, EK_ticks hE _⟩
        · exact ⟨rfl, hE⟩
      · split
        · split
          · next q =>
            have h6 := isM_lt (by omega) q
            rw [hE.lo (j := x) (by omega)]
            split <;> exact ⟨rfl, hE⟩
          · exact ⟨rfl, hE⟩
        · split
          · split
            · next q =>
              have h6 := (two_lt (by omega) (by omega) q).1
              rw [hE.lo (j := 6 + x) (by omega)]
              split <;> exact ⟨rfl, hE⟩
            · exact ⟨rfl, hE⟩
          · split
            · split
              · next q =>
                have h6 := isM_lt (by omega) q
                rw [e_count hE h6]
                split <;> exact ⟨rfl, hE⟩
              · exact ⟨rfl, hE⟩
            · split
              · split
                · next q =>
                  have h6 := (two_lt (by omega) (by omega) q).1
                  exact ⟨rfl, EK_turn hE h6⟩
                · exact ⟨rfl, hE⟩
              · exact ⟨rfl, hE⟩
theorem EK_jdT {f g : Row} {X m : Nat} (h : EK f g) : ∀ i, EK (S_jdT f X m i) (S_jdT g X m i)
  | 0 => h
  | i + 1 => (EK_jd (EK_jdT h i) (by omega) (by omega)).2
theorem e_judge {f g : Row} {X m : Nat} (h : EK f g) : ∀ n i, S_judge f X m i n = S_judge g X m i n
  | 0, _ => rfl
  | n + 1, i => by
    have e : S_jdO f X m i = S_jdO g X m i := (EK_jd (EK_jdT h i) (by omega) (by omega)).1
    rw [S_judge, S_judge, e, e_judge h n (i + 1)]
/-! which -/
theorem fitI_iff {h s1 s2 : Row} {t : Nat} : ∀ n, S_fitI h s1 s2 t n = true ↔ ∀ i, i < n → s1 i = nI t → s2 i = S_pass h t
  | 0 => ⟨fun _ i hi => absurd hi (by omega), fun _ => rfl⟩
  | n + 1 => by
    show (S_fitI h s1 s2 t n && _) = true ↔ _
    rw [Bool.and_eq_true, fitI_iff n]
    constructor
    · intro ⟨a, b⟩ i hi e
      by_cases q : i = n
      · subst q
        rw [if_pos e] at b
        by_cases z : s2 i = S_pass h t
        · exact z
        · rw [if_neg z] at b; cases b
      · exact a i (by omega) e
    · intro a
      refine ⟨fun i hi => a i (by omega), ?_⟩
      by_cases e : s1 n = nI t
      · rw [if_pos e, if_pos (a n (by omega) e)]
      · rw [if_neg e]
theorem fit_iff {h s1 s2 : Row} {se : Nat} : ∀ n t, S_fit h s1 s2 se t n = true ↔ ∀ u, t ≤ u → u < t + n → S_fitI h s1 s2 u se = true
  | 0, t => ⟨fun _ u h1 h2 => absurd h2 (by omega), fun _ => rfl⟩
  | n + 1, t => by
    rw [S_fit]
    by_cases e : S_fitI h s1 s2 t se = true
    · rw [if_pos e, fit_iff n (t + 1)]
      constructor
      · intro a u h1 h2
        by_cases q : u = t
        · subst q; exact e
        · exact a u (by omega) (by omega)
      · intro a u h1 h2
        exact a u (by omega) (by omega)
    · rw [if_neg e]
      constructor
      · intro q; cases q
      · intro a; exact absurd (a t (Nat.le_refl _) (by omega)) e
theorem mayN_iff {nw s1 s2 : Row} {r : Nat} : ∀ n, S_mayN nw s1 s2 r n = true ↔ ∀ j, j < n → S_pass (upd nw 67 (nI r)) (s1 j).toNatClampNeg = s2 j
  | 0 => ⟨fun _ i hi => absurd hi (by omega), fun _ => rfl⟩
  | n + 1 => by
    rw [S_mayN]
    by_cases e : S_mayN nw s1 s2 r n = true
    · rw [if_pos e]
      have h1 := (mayN_iff n).mp e
      constructor
      · intro a j hj
        by_cases q : j = n
        · subst q
          by_cases z : S_pass (upd nw 67 (nI r)) (s1 j).toNatClampNeg = s2 j
          · exact z
          · rw [if_neg z] at a; cases a
        · exact h1 j (by omega)
      · intro a
        rw [if_pos (a n (by omega))]
    · rw [if_neg e]
      constructor
      · intro q; cases q
      · intro a; exact absurd ((mayN_iff n).mpr (fun j hj => a j (by omega))) e
theorem fit_may {f nw s1 s2 : Row} {se r : Nat} (h : EK f nw) (hs : ∀ j, j < se → s1 j = nI (s1 j).toNatClampNeg ∧ (s1 j).toNatClampNeg ≤ 60) : S_fit (upd f 67 (nI r)) s1 s2 se 0 61 = S_mayN nw s1 s2 r se := by
  have e : S_fit (upd f 67 (nI r)) s1 s2 se 0 61 = true ↔ S_mayN nw s1 s2 r se = true := by
    rw [fit_iff, mayN_iff]
    constructor
    · intro a j hj
      obtain ⟨h1, h2⟩ := hs j hj
      have := (fitI_iff se).mp (a (s1 j).toNatClampNeg (Nat.zero_le _) (by omega)) j hj h1
      rw [this, e_pass (EK_67 h)]
    · intro a u h1 h2
      refine (fitI_iff se).mpr (fun i hi e => ?_)
      have h3 := a i hi
      rw [e, nI_clamp (by omega)] at h3
      rw [e_pass (EK_67 h)]
      exact h3.symm
  cases h1 : S_fit (upd f 67 (nI r)) s1 s2 se 0 61 with
  | true => exact (e.mp h1).symm
  | false =>
    cases h2 : S_mayN nw s1 s2 r se with
    | false => rfl
    | true => rw [e.mpr h2] at h1; cases h1
theorem e_which {f nw s1 s2 : Row} {se : Nat} (h : EK f nw) (hs : ∀ j, j < se → s1 j = nI (s1 j).toNatClampNeg ∧ (s1 j).toNatClampNeg ≤ 60) : ∀ n, S_whC f s1 s2 se n = S_whS nw s1 s2 se n
  | 0 => rfl
  | n + 1 => by
    rw [S_whC, S_whS, fit_may h hs, e_which h hs n]
    split
    · rfl
    · rw [or_z]
/-! subsets: those that are not felt make no difference -/
theorem felt_sub {f : Row} {E : Nat} (hK : Kn f) (e : S_felt f = nI E) (hE : E < 64) : (∀ k, k < 6 → S_has (nI E) (nI k) = false → f k = 0) ∧ ∀ k, k < 6 → ∀ o, o < 6 → S_has (f (6 + k)) (nI o) = true → S_has (nI E) (nI o) = true := by
  have has_or : ∀ v, v < 64 → ∀ u, u < 64 → ∀ o, o < 6 → (S_has (nI v) (nI o) = true → S_has (nI v ||| nI u) (nI o) = true) ∧ (S_has (nI u) (nI o) = true → S_has (nI v ||| nI u) (nI o) = true) := by decide +kernel
  have has_bit : ∀ v, v < 64 → ∀ k, k < 6 → ∀ o, o < 6 → S_has (nI v ||| (1 <<< (nI k &&& 31))) (nI k) = true ∧ (S_has (nI v) (nI o) = true → S_has (nI v ||| (1 <<< (nI k &&& 31))) (nI o) = true) := by decide +kernel
  have key : ∀ n, n ≤ 6 → ∃ v : Nat, v < 64 ∧ it (S_feltStep f) n 0 = nI v ∧ (∀ k, k < n → ¬ f k = 0 → S_has (nI v) (nI k) = true) ∧ ∀ k, k < n → ∀ o, o < 6 → S_has (f (6 + k)) (nI o) = true → S_has (nI v) (nI o) = true := by
    intro n
    induction n with
    | zero => intro _; exact ⟨0, by decide, rfl, fun k hk => absurd hk (by omega), fun k hk => absurd hk (by omega)⟩
    | succ n ih =>
      intro hn
      obtain ⟨v, hv, ev, h1, h2⟩ := ih (by omega)
      obtain ⟨u, hu, eu⟩ := hK n (by omega)
      obtain ⟨eo, ho⟩ := or_nat v hv u hu
      rw [it_s, ev]
      unfold S_feltStep
      rw [eu, eo]
      by_cases q : f n = 0
      · rw [if_pos q]
        refine ⟨v ||| u, ho, rfl, fun k hk hne => ?_, fun k hk o hoo hs => ?_⟩
        · rcases Nat.lt_or_ge k n with z | z
          · rw [← eo]; exact (has_or v hv u hu k (by omega)).1 (h1 k z hne)
          · have : k = n := by omega
            subst this
            exact absurd q hne
        · rcases Nat.lt_or_ge k n with z | z
          · rw [← eo]; exact (has_or v hv u hu o hoo).1 (h2 k z o hoo hs)
          · have : k = n := by omega
            subst this
            rw [eu] at hs
            rw [← eo]; exact (has_or v hv u hu o hoo).2 hs
      · rw [if_neg q]
        obtain ⟨w, hw, ew⟩ := bit_or n (by omega) _ ho
        refine ⟨w, hw, ew, fun k hk hne => ?_, fun k hk o hoo hs => ?_⟩
        · rw [← ew]
          rcases Nat.lt_or_ge k n with z | z
          · refine (has_bit _ ho n (by omega) k (by omega)).2 ?_
            rw [← eo]; exact (has_or v hv u hu k (by omega)).1 (h1 k z hne)
          · have : k = n := by omega
            subst this
            exact (has_bit _ ho k (by omega) k (by omega)).1
        · rw [← ew]
          refine (has_bit _ ho n (by omega) o hoo).2 ?_
          rcases Nat.lt_or_ge k n with z | z
          · rw [← eo]; exact (has_or v hv u hu o hoo).1 (h2 k z o hoo hs)
          · have : k = n := by omega
            subst this
            rw [eu] at hs
            rw [← eo]; exact (has_or v hv u hu o hoo).2 hs
  obtain ⟨v, hv, ev, h1, h2⟩ := key 6 (Nat.le_refl 6)
  have : E = v := (nI_eq (by omega) (by omega)).mp (e.symm.trans ev)
  subst this
  refine ⟨fun k hk hf => ?_, h2⟩
  by_cases q : f k = 0
  · exact q
  · rw [h1 k hk q] at hf; cases hf
theorem sub_bits : ∀ v, v < 64 → ∀ E, E < 64 → (∀ o, o < 6 → S_has (nI v) (nI o) = true → S_has (nI E) (nI o) = true) → v &&& E = v := by decide +kernel
theorem and_has : ∀ j, j < 64 → ∀ E, E < 64 → ∀ k, k < 6 → S_has (nI (j &&& E)) (nI k) = (S_has (nI j) (nI k) && S_has (nI E) (nI k)) := by decide +kernel
theorem Aw0 {f : Row} {k : Nat} (h : Aw f) (hk : k < 6) (h0 : f k = 0) : f (6 + k) = 0 ∧ f (48 + k) = 0 ∧ f (54 + k) = 0 ∧ f (60 + k) = 0 := by
  rcases h k hk with q | q | q
  · exact q.2
  · rw [h0] at q; exact absurd q.1 (by decide)
  · rw [h0] at q; exact absurd q (by decide)
theorem goAway_same {f : Row} {k : Nat} (h : Aw f) (hk : k < 6) (h0 : f k = 0) : S_goAway f k = f := by
  obtain ⟨a, b, c, d⟩ := Aw0 h hk h0
  unfold S_goAway
  rw [up_same h0, up_same a, up_same b, up_same c, up_same d]
theorem onlyStep_felt {n G : Nat} {g : Row} {E j i : Nat} (hg : Inv n G g) (hi : i < 6) (hj : j < 64) (hE : E < 64) (hsub : ∀ o, o < 6 → S_has (g (6 + i)) (nI o) = true → S_has (nI E) (nI o) = true) (haw : S_has (nI E) (nI i) = false → g i = 0) : S_onlyStep (nI (j &&& E)) i g = S_onlyStep (nI j) i g := by
  obtain ⟨v, hv, ev⟩ := hg.kn i hi
  have hje := (and_nat j hj E hE).2.1
  have hvE : v &&& E = v := sub_bits v hv E hE (fun o ho hs => hsub o ho (by rw [ev]; exact hs))
  have en : v &&& (j &&& E) = v &&& j := by rw [Nat.and_comm j E, ← Nat.and_assoc, hvE]
  have ek2 : g (6 + i) &&& nI (j &&& E) = g (6 + i) &&& nI j := by rw [ev, (and_nat v hv (j &&& E) hje).1, (and_nat v hv j hj).1, en]
  have hbit := and_has j hj E hE i hi
  cases hb : S_has (nI j) (nI i) with
  | false =>
    have h1 : ¬ S_has (nI (j &&& E)) (nI i) = true := by rw [hbit, hb, Bool.false_and]; exact Bool.false_ne_true
    have h2 : ¬ S_has (nI j) (nI i) = true := by rw [hb]; exact Bool.false_ne_true
    unfold S_onlyStep
    rw [if_neg h1, if_neg h2, ek2]
  | true =>
    cases hc : S_has (nI E) (nI i) with
    | true =>
      have h1 : S_has (nI (j &&& E)) (nI i) = true := by rw [hbit, hb, hc, Bool.true_and]
      unfold S_onlyStep
      rw [if_pos h1, if_pos hb, ek2]
    | false =>
      have h1 : ¬ S_has (nI (j &&& E)) (nI i) = true := by rw [hbit, hc, Bool.and_false]; exact Bool.false_ne_true
      have h0 := haw hc
      have e0 := (Aw0 hg.aw hi h0).1
      have e1 : upd g (6 + i) (g (6 + i) &&& nI j) = g := up_same (by rw [e0]; exact (Int32.zero_and ..).symm)
      unfold S_onlyStep
      rw [if_neg h1, if_pos hb, ek2, e1]
      exact goAway_same hg.aw hi h0
theorem Inv_onlyN {n G : Nat} {f : Row} {j : Nat} (hI : Inv n G f) (hj : j < 64) (m : Nat) (hm : m ≤ 6) : Inv n G (it (S_onlyStep (nI j)) m f) := by
  refine it_ind (P := Inv n G) (b := S_onlyStep (nI j)) (N := 6) hI (fun k g hk hg => ?_) m hm
  obtain ⟨v, hv, ev⟩ := hg.kn k hk
  have hw := hg.ow k hk
  have h3 : Inv n G (upd g (6 + k) (g (6 + k) &&& nI j)) := by
    by_cases h0 : g k = 0
    · have e0 := (Aw0 hg.aw hk h0).1
      rw [up_same (by rw [e0]; exact (Int32.zero_and ..).symm)]
      exact hg
    · rw [ev] at hw ⊢
      exact Inv_kn hg hk h0 ⟨v &&& j, (and_nat v hv j hj).2.1, (and_nat v hv j hj).1⟩ (bit_and6 k hk v hv j hj hw)
  unfold S_onlyStep
  split
  · exact h3
  · exact Inv_goAway h3 hk
theorem onlyN_keep {f : Row} {b : Int32} : ∀ m, m ≤ 6 → ∀ k, m ≤ k → k < 6 → it (S_onlyStep b) m f k = f k ∧ it (S_onlyStep b) m f (6 + k) = f (6 + k)
  | 0, _, k, _, _ => ⟨rfl, rfl⟩
  | m + 1, hm, k, h1, h2 => by
    obtain ⟨a, b'⟩ := onlyN_keep (f := f) (b := b) m (by omega) k (by omega) h2
    rw [it_s]
    unfold S_onlyStep
    split
    · rw [pk_un (by omega), pk_un (by omega)]; exact ⟨a, b'⟩
    · rw [ga_ne (by omega) (by omega) (by omega) (by omega) (by omega), ga_ne (by omega) (by omega) (by omega) (by omega) (by omega), pk_un (by omega), pk_un (by omega)]
      exact ⟨a, b'⟩
theorem only_felt {n G : Nat} {f : Row} {E j : Nat} (hI : Inv n G f) (e : S_felt f = nI E) (hE : E < 64) (hj : j < 64) : S_only f (nI (j &&& E)) = S_only f (nI j) := by
  obtain ⟨h1, h2⟩ := felt_sub hI.kn e hE
  have key : ∀ m, m ≤ 6 → it (S_onlyStep (nI (j &&& E))) m f = it (S_onlyStep (nI j)) m f := by
    intro m
    induction m with
    | zero => intro _; rw [it_0, it_0]
    | succ i ih =>
      intro hi
      obtain ⟨ek, eb⟩ := onlyN_keep (f := f) (b := nI j) i (by omega) i (Nat.le_refl _) (by omega)
      rw [it_s, it_s, ih (by omega)]
      exact onlyStep_felt (Inv_onlyN hI hj i (by omega)) (by omega) hj hE (fun o ho hs => h2 i (by omega) o ho (by rw [← eb]; exact hs)) (fun hc => by rw [ek]; exact h1 i (by omega) hc)
  unfold S_only
  exact key 6 (Nat.le_refl 6)
theorem e_sub {n G : Nat} {f nw : Row} {E t j : Nat} (h : EK f nw) (hI : Inv n G f) (e : S_felt f = nI E) (hE : E < 64) (hj : j < 64) : S_sub f t E j = S_shF nw t j := by
  unfold S_sub S_shF
  rw [only_felt hI e hE hj, e_pass (EK_only h hj)]
