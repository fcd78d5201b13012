/-! enter and depart for any number; told doings as the class asks them -/
def S_entB (f : Row) (v : Int32) : Bool := if S_mem v then (if f v.toNatClampNeg = 0 then true else false) else false
def S_entF (f : Row) (v : Int32) : Row := if S_entB f v then S_joins f v.toNatClampNeg else f
def S_depB (f : Row) (v : Int32) : Bool := if S_mem v then (if f v.toNatClampNeg = 1 then true else false) else false
def S_depF (f : Row) (v : Int32) : Row := if S_depB f v then S_leaves f v.toNatClampNeg else f
theorem mem_ex {v : Int32} (h : S_mem v = true) : ∃ k : Nat, k < 6 ∧ v = nI k := by
  unfold S_mem at h
  split at h
  · cases h
  · next h1 =>
    split at h
    · cases h
    · next h2 =>
      have e0 : ((0 : Int32)).toInt = 0 := by decide
      have e6 : ((6 : Int32)).toInt = 6 := by decide
      rw [Int32.lt_iff_toInt_lt, e0] at h1
      rw [Int32.le_iff_toInt_le, e6] at h2
      refine ⟨v.toInt.toNat, by omega, Int32.toInt_inj.mp ?_⟩
      rw [nI_toInt (by omega)]
      omega
theorem mem_no {k : Nat} (hk : k < 2 ^ 31) (h : ¬ k < 6) : S_mem (nI k) = false := by
  cases e : S_mem (nI k) with
  | false => rfl
  | true =>
    obtain ⟨j, hj, ej⟩ := mem_ex e
    have := (nI_eq hk (by omega)).mp ej
    omega
theorem isM_mem {v : Int32} : S_isM v = S_mem v := by
  cases h : S_mem v with
  | true =>
    obtain ⟨k, hk, e⟩ := mem_ex h
    rw [e]
    exact isM_nI hk
  | false =>
    cases h2 : S_isM v with
    | false => rfl
    | true =>
      obtain ⟨k, hk, e⟩ := isM_ex h2
      rw [e, mem_nI hk] at h
      cases h
theorem ent_t {f : Row} {k : Nat} (hk : k < 6) (h : f k = 0) : S_entB f (nI k) = true ∧ S_entF f (nI k) = S_joins f k := by
  have e : S_entB f (nI k) = true := by unfold S_entB; rw [if_pos (mem_nI hk), nI_clamp (by omega), if_pos h]
  refine ⟨e, ?_⟩
  unfold S_entF
  rw [if_pos e, nI_clamp (by omega)]
theorem ent_l {f : Row} {k : Nat} (hk : k < 6) (h : ¬ f k = 0) : S_entB f (nI k) = false ∧ S_entF f (nI k) = f := by
  have e : S_entB f (nI k) = false := by unfold S_entB; rw [if_pos (mem_nI hk), nI_clamp (by omega), if_neg h]
  refine ⟨e, ?_⟩
  unfold S_entF
  rw [e]
  rfl
theorem ent_b {f : Row} {v : Int32} (h : S_mem v = false) : S_entB f v = false ∧ S_entF f v = f := by
  have e : S_entB f v = false := by unfold S_entB; rw [h]; rfl
  refine ⟨e, ?_⟩
  unfold S_entF
  rw [e]
  rfl
theorem dep_t {f : Row} {k : Nat} (hk : k < 6) (h : f k = 1) : S_depB f (nI k) = true ∧ S_depF f (nI k) = S_leaves f k := by
  have e : S_depB f (nI k) = true := by unfold S_depB; rw [if_pos (mem_nI hk), nI_clamp (by omega), if_pos h]
  refine ⟨e, ?_⟩
  unfold S_depF
  rw [if_pos e, nI_clamp (by omega)]
theorem dep_l {f : Row} {k : Nat} (hk : k < 6) (h : ¬ f k = 1) : S_depB f (nI k) = false ∧ S_depF f (nI k) = f := by
  have e : S_depB f (nI k) = false := by unfold S_depB; rw [if_pos (mem_nI hk), nI_clamp (by omega), if_neg h]
  refine ⟨e, ?_⟩
  unfold S_depF
  rw [e]
  rfl
theorem dep_b {f : Row} {v : Int32} (h : S_mem v = false) : S_depB f v = false ∧ S_depF f v = f := by
  have e : S_depB f v = false := by unfold S_depB; rw [h]; rfl
  refine ⟨e, ?_⟩
  unfold S_depF
  rw [e]
  rfl
theorem mem_lt {k : Nat} (hk : k < 2 ^ 31) (h : S_mem (nI k) = true) : k < 6 := by
  rcases Nat.lt_or_ge k 6 with q | q
  · exact q
  · rw [mem_no hk (by omega)] at h
    cases h
theorem jd_1 {f : Row} {x y : Nat} (hy : y < 100) : S_jd f 1 x y = if nI x = 0 then (S_entB f (nI y), S_entF f (nI y)) else (false, f) := by
  unfold S_jd S_plain
  rw [if_pos rfl]
  by_cases h : nI x = 0
  · rw [if_pos h, if_pos h]
    by_cases h6 : y < 6
    · rw [isM_nI h6, if_pos rfl]
      by_cases h0 : f y = 0
      · rw [if_pos h0, (ent_t h6 h0).1, (ent_t h6 h0).2]
      · rw [if_neg h0, (ent_l h6 h0).1, (ent_l h6 h0).2]
    · rw [isM_mem, mem_no (by omega) h6, (ent_b (mem_no (by omega) h6)).1, (ent_b (mem_no (by omega) h6)).2]
      rfl
  · rw [if_neg h, if_neg h]; rfl
theorem jd_2 {f : Row} {x y : Nat} (hy : y < 100) : S_jd f 2 x y = if nI x = 0 then (S_depB f (nI y), S_depF f (nI y)) else (false, f) := by
  unfold S_jd S_plain
  rw [if_neg (by decide), if_pos rfl]
  by_cases h : nI x = 0
  · rw [if_pos h, if_pos h]
    by_cases h6 : y < 6
    · rw [isM_nI h6, if_pos rfl]
      by_cases h0 : f y = 1
      · rw [if_pos h0, (dep_t h6 h0).1, (dep_t h6 h0).2]
      · rw [if_neg h0, (dep_l h6 h0).1, (dep_l h6 h0).2]
    · rw [isM_mem, mem_no (by omega) h6, (dep_b (mem_no (by omega) h6)).1, (dep_b (mem_no (by omega) h6)).2]
      rfl
  · rw [if_neg h, if_neg h]; rfl
theorem in_30 : ∀ t, t < 100 → S_in (Int32.toInt64 (nI t)) 1 30 = (if nI t < 1 then false else if 30 < nI t then false else true) := by decide +kernel
theorem jd_3 {f : Row} {x y t : Nat} (ht : t < 100) (e : 10 * x + y = t) : S_jd f 3 x y = if nI t < 1 then (false, f) else if 30 < nI t then (false, f) else (if S_pass f t < 0 then (false, S_ticks f t) else (true, S_ticks f t)) := by
  subst e
  unfold S_jd
  rw [if_neg (by decide), if_neg (by decide), if_pos rfl, in_30 _ ht]
  by_cases h : nI (10 * x + y) < 1
  · rw [if_pos h, if_pos h]; rfl
  · rw [if_neg h, if_neg h]
    by_cases h2 : 30 < nI (10 * x + y)
    · rw [if_pos h2, if_pos h2]; rfl
    · rw [if_neg h2, if_neg h2]; rfl
theorem jd_4 {f : Row} {x y : Nat} : S_jd f 4 x y = if S_mem (nI x) then (if f x = nI y then (true, f) else (false, f)) else (false, f) := by
  unfold S_jd
  rw [if_neg (by decide), if_neg (by decide), if_neg (by decide), if_pos rfl, isM_mem]
theorem jd_5 {f : Row} {x y : Nat} (ho : Ow f) (hx : x < 100) (hy : y < 100) : S_jd f 5 x y = if S_mem (nI x) then (if S_mem (nI y) then (S_has (f (6 + x)) (nI y), f) else (false, f)) else (false, f) := by
  unfold S_jd S_two
  rw [if_neg (by decide), if_neg (by decide), if_neg (by decide), if_neg (by decide), if_pos rfl, isM_mem, isM_mem]
  cases h1 : S_mem (nI x) with
  | false => rfl
  | true =>
    cases h2 : S_mem (nI y) with
    | false => rfl
    | true =>
      by_cases e : nI x = nI y
      · have e2 : x = y := (nI_eq (by omega) (by omega)).mp e
        subst e2
        rw [ho x (mem_lt (by omega) h1)]
        simp
      · cases h3 : S_has (f (6 + x)) (nI y) <;> simp [e]
theorem jd_6 {f : Row} {x y : Nat} : S_jd f 6 x y = if S_mem (nI x) then (if S_count f x = nI y then (true, f) else (false, f)) else (false, f) := by
  unfold S_jd
  rw [if_neg (by decide), if_neg (by decide), if_neg (by decide), if_neg (by decide), if_neg (by decide), if_pos rfl, isM_mem]
def S_turnB (k o : Nat) : Bool := if nI k = nI o then false else true
def S_turnF (f : Row) (k o : Nat) : Row := if nI k = nI o then f else S_turn f k o
theorem jd_7 {f : Row} {x y : Nat} : S_jd f 7 x y = if S_mem (nI x) then (if S_mem (nI y) then (S_turnB x y, S_turnF f x y) else (false, f)) else (false, f) := by
  unfold S_jd S_two S_turnB S_turnF
  rw [if_neg (by decide), if_neg (by decide), if_neg (by decide), if_neg (by decide), if_neg (by decide), if_neg (by decide), if_pos rfl, isM_mem, isM_mem]
  cases h1 : S_mem (nI x) with
  | false => rfl
  | true =>
    cases h2 : S_mem (nI y) with
    | false => rfl
    | true =>
      by_cases e : nI x = nI y <;> simp [e]
theorem Inv_turn {n G : Nat} {f : Row} {k o : Nat} (h : Inv n G f) : Inv n G (S_turn f k o) := Inv_free h (by omega)
theorem Inv_ent {n G : Nat} {f : Row} {v : Int32} (h : Inv n G f) : Inv n G (S_entF f v) := by
  cases hm : S_mem v with
  | false => rw [(ent_b hm).2]; exact h
  | true =>
    obtain ⟨k, hk, e⟩ := mem_ex hm
    subst e
    by_cases h0 : f k = 0
    · rw [(ent_t hk h0).2]; exact Inv_joins h hk h0
    · rw [(ent_l hk h0).2]; exact h
theorem Inv_dep {n G : Nat} {f : Row} {v : Int32} (h : Inv n G f) (hn : n ≤ 1048576) (hG : 1 ≤ G) : Inv n (G + 6) (S_depF f v) := by
  cases hm : S_mem v with
  | false => rw [(dep_b hm).2]; exact h.mono (Nat.le_refl _) (by omega)
  | true =>
    obtain ⟨k, hk, e⟩ := mem_ex hm
    subst e
    by_cases h0 : f k = 1
    · rw [(dep_t hk h0).2]; exact Inv_leaves h hk h0 hn hG
    · rw [(dep_l hk h0).2]; exact h.mono (Nat.le_refl _) (by omega)
theorem Inv_jd {n G : Nat} {f : Row} {h x y : Nat} (hI : Inv n G f) (hx : x < 10) (hy : y < 10) (hn : n + 30 ≤ 1048576) (hG1 : 1 ≤ G) (hG : G + 1086 ≤ 1048576) : Inv (n + 30) (G + 1086) (S_jd f h x y).2 := by
  have hm : Inv (n + 30) (G + 1086) f := hI.mono (by omega) (by omega)
  rcases Nat.lt_or_ge h 8 with q | q
  · match h, q with
    | 0, _ => exact hm
    | 1, _ =>
      rw [jd_1 (by omega)]
      split
      · exact (Inv_ent hI).mono (by omega) (by omega)
      · exact hm
    | 2, _ =>
      rw [jd_2 (by omega)]
      split
      · exact (Inv_dep hI (by omega) hG1).mono (by omega) (by omega)
      · exact hm
    | 3, _ =>
      rw [jd_3 (t := 10 * x + y) (by omega) rfl]
      split
      · exact hm
      · split
        · exact hm
        · next h2 =>
          have h3 : 10 * x + y ≤ 30 := by
            rcases Nat.lt_or_ge 30 (10 * x + y) with z | z
            · exact absurd (nI_lt (a := 30) z (by omega)) h2
            · exact z
          have := (Inv_ticks hI 30 (by omega) (by omega) (10 * x + y) h3).mono (n' := n + 30) (G' := G + 1086) (by omega) (by omega)
          split
          · exact this
          · exact this
    | 4, _ =>
      rw [jd_4]
      split
      · split <;> exact hm
      · exact hm
    | 5, _ =>
      rw [jd_5 hI.ow (by omega) (by omega)]
      split
      · split <;> exact hm
      · exact hm
    | 6, _ =>
      rw [jd_6]
      split
      · split <;> exact hm
      · exact hm
    | 7, _ =>
      rw [jd_7]
      split
      · split
        · show Inv (n + 30) (G + 1086) (S_turnF f x y)
          unfold S_turnF
          split
          · exact hm
          · exact Inv_turn hm
        · exact hm
      · exact hm
    | h + 8, q => exact absurd q (by omega)
  · have e : S_jd f h x y = (false, f) := by
      unfold S_jd
      rw [if_neg (by omega), if_neg (by omega), if_neg (by omega), if_neg (by omega), if_neg (by omega), if_neg (by omega), if_neg (by omega)]
    rw [e]
    exact hm
theorem Inv_jdT {n G : Nat} {f : Row} {X m : Nat} (hI : Inv n G f) (hn : n ≤ 1040000) (hG1 : 1 ≤ G) (hG : G ≤ 1000000) : ∀ i, i ≤ 4 → Inv (n + 30 * i) (G + 1086 * i) (S_jdT f X m i)
  | 0, _ => hI
  | i + 1, hi => by
    have h1 := Inv_jdT (X := X) (m := m) hI hn hG1 hG i (by omega)
    have h2 := Inv_jd (h := S_th X m i / 100) (x := S_th X m i / 10 % 10) (y := S_th X m i % 10) h1 (by omega) (by omega) (by omega) (by omega) (by omega)
    exact h2.mono (by omega) (by omega)
/-! the head of a text, as the class reads it -/
theorem fig_in0 {v : Int32} {d : Nat} (hd : d ≤ 9) (e : v - 48 = nI d) : v = nI (48 + d) := by
  have h : v = nI d + 48 := by rw [← e, Int32.sub_add_cancel]
  rw [h, show (48 : Int32) = nI 48 from rfl, nI_add, Nat.add_comm]
theorem fig_dec1 : ∀ d, d ≤ 9 → S_fig (nI (48 + d)) 0 = true ∧ (1 ≤ d → S_fig (nI (48 + d)) 1 = true) := by decide +kernel
theorem fig_dec2 : ∀ d, d < 58 → 48 ≤ d → S_in (Int32.toInt64 (nI d - 48)) 0 9 = true ∧ (49 ≤ d → S_in (Int32.toInt64 (nI d - 48)) 1 9 = true) := by decide +kernel
theorem fig_rng {v u : Int32} {a : Nat} (hu : 48 + u = nI a) (ha : a < 100) (h : S_fig v u = true) : ∃ d : Nat, a ≤ d ∧ d ≤ 57 ∧ v = nI d := by
  unfold S_fig at h
  rw [hu] at h
  split at h
  · cases h
  · next h1 =>
    split at h
    · cases h
    · next h2 =>
      rw [Int32.lt_iff_toInt_lt, nI_toInt (by omega)] at h1
      rw [show (57 : Int32) = nI 57 from rfl, Int32.lt_iff_toInt_lt, nI_toInt (by decide)] at h2
      refine ⟨v.toInt.toNat, by omega, by omega, Int32.toInt_inj.mp ?_⟩
      rw [nI_toInt (by omega)]
      omega
theorem fig_1 {v : Int32} : S_fig v 1 = S_in (Int32.toInt64 (v - 48)) 1 9 := by
  cases h : S_fig v 1 with
  | true =>
    obtain ⟨d, h1, h2, e⟩ := fig_rng (a := 49) rfl (by decide) h
    rw [e]
    exact ((fig_dec2 d (by omega) (by omega)).2 h1).symm
  | false =>
    cases h2 : S_in (Int32.toInt64 (v - 48)) 1 9 with
    | false => rfl
    | true =>
      obtain ⟨d, h3, h4, e⟩ := in_nat (lo := 1) (hi := 9) (by decide) (by decide) h2
      rw [fig_in0 h4 e, (fig_dec1 d h4).2 h3] at h
      cases h
theorem fig_0 {v : Int32} : S_fig v 0 = S_in (Int32.toInt64 (v - 48)) 0 9 := by
  cases h : S_fig v 0 with
  | true =>
    obtain ⟨d, h1, h2, e⟩ := fig_rng (a := 48) rfl (by decide) h
    rw [e]
    exact ((fig_dec2 d (by omega) (by omega)).1).symm
  | false =>
    cases h2 : S_in (Int32.toInt64 (v - 48)) 0 9 with
    | false => rfl
    | true =>
      obtain ⟨d, h3, h4, e⟩ := in_nat (lo := 0) (hi := 9) (by decide) (by decide) h2
      rw [fig_in0 h4 e, (fig_dec1 d h4).1] at h
      cases h
theorem fig_ex {v : Int32} (h : S_fig v 1 = true) : ∃ d : Nat, 1 ≤ d ∧ d ≤ 9 ∧ v - 48 = nI d := by
  rw [fig_1] at h
  exact in_nat (lo := 1) (hi := 9) (by decide) (by decide) h
def S_hk (tx : Row) (i : Nat) : Bool := if nI i = 0 then (if tx 0 = 77 then true else false) else S_fig (tx i) (if i < 4 then (1 : Int32) else 0)
def S_ok (tx : Row) (ln i : Nat) : Bool := if ln ≤ i then false else S_hk tx i
theorem ok_no {tx : Row} {ln i : Nat} (h : ln ≤ i) : S_ok tx ln i = false := by unfold S_ok; rw [if_pos h]
theorem ok_hk {tx : Row} {ln i : Nat} (h : i < ln) : S_ok tx ln i = S_hk tx i := by unfold S_ok; rw [if_neg (by omega)]
theorem ok_lt {tx : Row} {ln i : Nat} (h : S_ok tx ln i = true) : i < ln ∧ S_hk tx i = true := by
  rcases Nat.lt_or_ge i ln with q | q
  · rw [ok_hk q] at h; exact ⟨q, h⟩
  · rw [ok_no q] at h; cases h
theorem ok_hok {tx : Row} {ln i : Nat} (h0 : 0 < i) (hi : i < 7) : S_ok tx ln i = S_hok tx ln i := by
  unfold S_ok S_hok S_hk
  rw [if_neg (show ¬ nI i = 0 from nI_ne0 h0 (by omega))]
  by_cases q : ln ≤ i
  · rw [if_pos q, if_pos q]
  · rw [if_neg q, if_neg q]
    by_cases q4 : i < 4
    · rw [if_pos q4, if_pos q4]; exact fig_1
    · rw [if_neg q4, if_neg q4]; exact fig_0
def S_rh (tx g : Row) : Row := upd (upd (upd (upd (S_restart g) 66 (tx 1 - 48)) 67 (tx 2 - 48)) 68 (tx 3 - 48)) 69 ((tx 4 - 48) * 100 + (tx 5 - 48) * 10 + (tx 6 - 48))
/-! the events -/
theorem rd_fuel {tx : Row} {ln : Nat} : ∀ (n m k : Nat) (g : Row), ln + 1 ≤ n + k → ln + 1 ≤ m + k → 0 < n → 0 < m → S_rd tx ln n k g = S_rd tx ln m k g
  | 0, _, _, _, _, _, h, _ => absurd h (by omega)
  | _ + 1, 0, _, _, _, _, _, h => absurd h (by omega)
  | n + 1, m + 1, k, g, h1, h2, _, _ => by
    rw [S_rd, S_rd]
    by_cases hk : ln ≤ k
    · rw [if_pos hk, if_pos hk]
    · rw [if_neg hk, if_neg hk]
      rw [rd_fuel n m (k + 1) _ (by omega) (by omega) (by omega) (by omega)]
      rcases Nat.lt_or_ge n 1 with q | q
      · exact absurd hk (by omega)
      · rcases Nat.lt_or_ge m 1 with q2 | q2
        · exact absurd hk (by omega)
        · rw [rd_fuel n m (k + 2) _ (by omega) (by omega) (by omega) (by omega)]
def RdI (tx : Row) (ln p : Nat) (b : Int32) (g : Row) : Int32 × Row := if b = 0 then S_rd tx ln (ln + 1) p g else if S_mok g b (S_let tx ln p) then S_rd tx ln (ln + 1) (p + 1) (S_ev g b (S_let tx ln p)) else (nI p, g)
theorem those_has {f : Row} {w : Int32} {k : Nat} (hk : k < 6) : S_has (S_those f w) (nI k) = (if f k = w then true else false) := by
  have key : ∀ a b c d e g : Bool, ∀ k, k < 6 → S_has (((((((0 : Int32) ||| (if a then 1 <<< (nI 0 &&& 31) else 0)) ||| (if b then 1 <<< (nI 1 &&& 31) else 0)) ||| (if c then 1 <<< (nI 2 &&& 31) else 0)) ||| (if d then 1 <<< (nI 3 &&& 31) else 0)) ||| (if e then 1 <<< (nI 4 &&& 31) else 0)) ||| (if g then 1 <<< (nI 5 &&& 31) else 0)) (nI k) = (if k = 0 then a else if k = 1 then b else if k = 2 then c else if k = 3 then d else if k = 4 then e else g) := by decide +kernel
  have e : S_those f w = ((((((0 : Int32) ||| (if decide (f 0 = w) then 1 <<< (nI 0 &&& 31) else 0)) ||| (if decide (f 1 = w) then 1 <<< (nI 1 &&& 31) else 0)) ||| (if decide (f 2 = w) then 1 <<< (nI 2 &&& 31) else 0)) ||| (if decide (f 3 = w) then 1 <<< (nI 3 &&& 31) else 0)) ||| (if decide (f 4 = w) then 1 <<< (nI 4 &&& 31) else 0)) ||| (if decide (f 5 = w) then 1 <<< (nI 5 &&& 31) else 0) := by
    unfold S_those
    simp only [it_s, it_0, S_thoseStep, decide_eq_true_eq]
  rw [e, key _ _ _ _ _ _ k hk]
  match k, hk with
  | 0, _ => by_cases q : f 0 = w <;> simp [q]
  | 1, _ => by_cases q : f 1 = w <;> simp [q]
  | 2, _ => by_cases q : f 2 = w <;> simp [q]
  | 3, _ => by_cases q : f 3 = w <;> simp [q]
  | 4, _ => by_cases q : f 4 = w <;> simp [q]
  | 5, _ => by_cases q : f 5 = w <;> simp [q]
  | k + 6, h => exact absurd h (by omega)
theorem mok_ent {g : Row} {v : Int32} : S_mok g 106 v = S_entB g v := by
  unfold S_mok S_entB S_may
  rw [isM_mem, if_pos rfl]
  cases h : S_mem v with
  | false => rfl
  | true =>
    obtain ⟨k, hk, e⟩ := mem_ex h
    subst e
    rw [if_pos rfl, if_pos rfl, those_has hk, nI_clamp (by omega)]
theorem mok_dep {g : Row} {v : Int32} : S_mok g 108 v = S_depB g v := by
  unfold S_mok S_depB S_may
  rw [isM_mem, if_neg (show ¬ (108 : Int32) = 106 by decide), if_pos rfl]
  cases h : S_mem v with
  | false => rfl
  | true =>
    obtain ⟨k, hk, e⟩ := mem_ex h
    subst e
    rw [if_pos rfl, if_pos rfl, those_has hk, nI_clamp (by omega)]
theorem ev_ent {g : Row} {v : Int32} (h : S_entB g v = true) : S_ev g 106 v = S_entF g v := by
  unfold S_ev S_entF
  rw [if_pos rfl, if_pos h]
theorem ev_dep {g : Row} {v : Int32} (h : S_depB g v = true) : S_ev g 108 v = S_depF g v := by
  unfold S_ev S_depF
  rw [if_neg (by decide), if_pos h]
theorem rdI_0 {tx g : Row} {ln p : Nat} : RdI tx ln p 0 g = S_rd tx ln (ln + 1) p g := by unfold RdI; rw [if_pos rfl]
theorem rdI_e {tx g : Row} {ln p : Nat} (hp : p < ln) : RdI tx ln p 106 g = if S_entB g (tx p - 48) then RdI tx ln (p + 1) 0 (S_entF g (tx p - 48)) else (nI p, g) := by
  unfold RdI
  rw [if_neg (show ¬ (106 : Int32) = 0 by decide), let_in hp, mok_ent, if_pos (show (0 : Int32) = 0 from rfl)]
  cases h : S_entB g (tx p - 48) with
  | false => rw [if_neg Bool.false_ne_true, if_neg Bool.false_ne_true]
  | true => rw [if_pos rfl, if_pos rfl, ev_ent h]
theorem rdI_d {tx g : Row} {ln p : Nat} (hp : p < ln) : RdI tx ln p 108 g = if S_depB g (tx p - 48) then RdI tx ln (p + 1) 0 (S_depF g (tx p - 48)) else (nI p, g) := by
  unfold RdI
  rw [if_neg (show ¬ (108 : Int32) = 0 by decide), let_in hp, mok_dep, if_pos (show (0 : Int32) = 0 from rfl)]
  cases h : S_depB g (tx p - 48) with
  | false => rw [if_neg Bool.false_ne_true, if_neg Bool.false_ne_true]
  | true => rw [if_pos rfl, if_pos rfl, ev_dep h]
theorem rdI_f {tx g : Row} {ln p d : Nat} (hp : p < ln) (h : S_fig (tx p) 1 = true) (ed : tx p - 48 = nI d) (hd : d ≤ 9) : RdI tx ln p 0 g = RdI tx ln (p + 1) 0 (S_ticks g d) := by
  rw [rdI_0, rdI_0, rd_b hp (by rw [← fig_1]; exact h), ed, nI_clamp (by omega)]
  exact rd_fuel _ _ _ _ (by omega) (by omega) (by omega) (by omega)
theorem cb_may {g : Row} {v : Int32} : (S_cb g v = true ↔ ¬ S_may g v = 0) ∧ (S_cb g v = false ↔ S_may g v = 0) := by
  unfold S_cb
  by_cases h : S_may g v = 0 <;> simp [h]
theorem may_is {g : Row} {v : Int32} (h : S_cb g v = true) : v = 106 ∨ v = 108 := by
  have h2 := cb_may.1.mp h
  unfold S_may at h2
  by_cases h3 : v = 106
  · exact Or.inl h3
  · by_cases h4 : v = 108
    · exact Or.inr h4
    · rw [if_neg h3, if_neg h4] at h2; exact absurd rfl h2
theorem rdI_b {tx g : Row} {ln p : Nat} (hp : p < ln) (hf : S_fig (tx p) 1 = false) (h : S_cb g (tx p) = true) : RdI tx ln p 0 g = RdI tx ln (p + 1) (tx p) g := by
  have hm := cb_may.1.mp h
  have hv : ¬ tx p = 0 := by
    rcases may_is h with q | q <;> rw [q] <;> decide
  rw [rdI_0]
  rw [fig_1] at hf
  unfold RdI
  rw [if_neg hv]
  cases ho : S_mok g (tx p) (S_let tx ln (p + 1)) with
  | true =>
    rw [rd_d hp hf hm ho, if_pos rfl]
    have hln : 0 < ln := by omega
    exact rd_fuel _ _ _ _ (by omega) (by omega) (by omega) (by omega)
  | false => rw [rd_e (by omega) hp hf hm ho]; rfl
theorem rdI_c {tx g : Row} {ln p : Nat} (hp : p < ln) (hf : S_fig (tx p) 1 = false) (h : S_cb g (tx p) = false) : RdI tx ln p 0 g = (nI p, g) := by
  rw [rdI_0]
  rw [fig_1] at hf
  exact rd_c (by omega) hp hf (cb_may.2.mp h)
theorem rdI_x {tx g : Row} {ln p : Nat} (hp : ln ≤ p) : RdI tx ln p 0 g = (-9, g) := by
  rw [rdI_0]
  exact rd_a (by omega) hp
theorem rdI_y {tx g : Row} {ln p : Nat} {v : Int32} (hp : ln ≤ p) (hv : ¬ v = 0) : RdI tx ln p v g = (nI p, g) := by
  unfold RdI
  rw [if_neg hv, let_out hp, mok_a (by decide)]
  rfl
theorem pass_0 {h : Row} : S_pass h 0 = 0 := Int32.sub_self _
theorem sub_t {f : Row} {t E i : Nat} (h : i &&& E = i) : S_sub f t E i = S_pass (S_only f (nI i)) t := by unfold S_sub; rw [h]
theorem sub_f {f sb : Row} {t E i : Nat} (h1 : i &&& E ≤ i) (h2 : ¬ i &&& E = i) (h3 : (i &&& E) &&& E = i &&& E) : S_put sb (S_sub f t E) 0 i (i &&& E) = S_sub f t E i := by
  rw [S_put_0 _ _ _ _ (by omega)]
  unfold S_sub
  rw [h3]
def S_chS (W : Nat → Int32) (v : Int32) (q : Nat) : Nat → Int32
  | 0 => 0
  | i + 1 => if W i < v then S_chS W v q i else S_chS W v q i + S_lik (nI i) (nI q)
