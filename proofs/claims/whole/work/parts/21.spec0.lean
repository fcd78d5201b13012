/-! the class's own words: what its Crowd does to the row, and that it is the same -/
def S_mem (v : Int32) : Bool := if v < 0 then false else if 6 ≤ v then false else true
def bc1 (x : Int32) : Int32 := x - ((x.toUInt32 >>> (Int32.toUInt32 1 &&& Int32.toUInt32 31)).toInt32 &&& 1431655765)
def bc2 (x : Int32) : Int32 := (x &&& 858993459) + ((x.toUInt32 >>> (Int32.toUInt32 2 &&& Int32.toUInt32 31)).toInt32 &&& 858993459)
def bc3 (x : Int32) : Int32 := (x + (x.toUInt32 >>> (Int32.toUInt32 4 &&& Int32.toUInt32 31)).toInt32) &&& 252645135
def bc4 (x : Int32) : Int32 := x + (x.toUInt32 >>> (Int32.toUInt32 8 &&& Int32.toUInt32 31)).toInt32
def bc5 (x : Int32) : Int32 := x + (x.toUInt32 >>> (Int32.toUInt32 16 &&& Int32.toUInt32 31)).toInt32
def bcE (x : Int32) : Int32 := bc5 (bc4 (bc3 (bc2 (bc1 x)))) &&& 63
theorem bc_ok : ∀ v : Nat, v < 64 → bcE (nI v) = S_ones (nI v) := by decide +kernel
def Kn (f : Row) : Prop := ∀ k, k < 6 → ∃ v : Nat, v < 64 ∧ f (6 + k) = nI v
theorem Kn_upd {f : Row} {j : Nat} {x : Int32} (h : Kn f) (hj : j < 6 ∨ 12 ≤ j) : Kn (upd f j x) := fun k hk => by
  rw [pk_un (by omega)]
  exact h k hk
theorem Kn_draw {f : Row} (h : Kn f) : Kn (S_draw f) := Kn_upd h (by omega)
theorem has_01 {x y : Int32} : (¬ (x >>> (y &&& 31)) &&& 1 = 0) ↔ S_has x y = true := by
  unfold S_has
  rcases and1 (x >>> (y &&& 31)) with h | h <;> rw [h] <;> simp
theorem has_00 {x y : Int32} : ((x >>> (y &&& 31)) &&& 1 = 0) ↔ S_has x y = false := by
  unfold S_has
  rcases and1 (x >>> (y &&& 31)) with h | h <;> rw [h] <;> simp
theorem or_z (x : Int32) : x ||| 0 = x := Int32.or_zero
theorem and_m1 (x : Int32) : x &&& (-1) = x := Int32.and_neg_one
theorem up_same {f : Row} {i : Nat} {x : Int32} (h : f i = x) : upd f i x = f := by
  funext j
  unfold upd
  by_cases q : j = i
  · subst q; rw [if_pos rfl]; exact h.symm
  · rw [if_neg q]
def C_span (f : Row) (v : Int32) : Int32 := if f 68 < (v * f 66 + (if 1 < f 67 then f 67 else 1) - 1) / (if 1 < f 67 then f 67 else 1) then (v * f 66 + (if 1 < f 67 then f 67 else 1) - 1) / (if 1 < f 67 then f 67 else 1) else f 68
theorem mx1 {x : Int32} (h : 1 ≤ x) : (if 1 < x then x else 1) = x := by
  by_cases q : 1 < x
  · rw [if_pos q]
  · rw [if_neg q]
    exact Int32.le_antisymm h (Int32.not_lt.mp q)
theorem C_span_eq {f : Row} {v : Int32} (h : Z67 f) : C_span f v = S_span f v := by
  unfold C_span S_span S_up
  rw [mx1 h]
  by_cases q : f 68 < (v * f 66 + f 67 - 1) / f 67
  · rw [if_pos q, if_neg (Int32.not_le.mpr q)]
  · rw [if_neg q, if_pos (Int32.not_lt.mp q)]
theorem S_span_draw {f : Row} {v : Int32} : S_span (S_draw f) v = S_span f v := by
  unfold S_span S_up S_draw
  rw [pk_un (by decide), pk_un (by decide), pk_un (by decide)]
theorem C_wait_eq {f : Row} {v : Int32} : (if 1 < S_span (S_draw f) v * (2 + S_drawV f) / 4 then S_span (S_draw f) v * (2 + S_drawV f) / 4 else 1) = S_waitV f v := by
  unfold S_waitV S_wait0
  rw [S_span_draw]
  by_cases q : S_span f v * (2 + S_drawV f) / 4 ≤ 1
  · rw [if_pos q, if_neg (Int32.not_lt.mpr q)]
  · rw [if_neg q, if_pos (Int32.not_le.mp q)]
def S_begin0 (f : Row) (k : Nat) : Row := upd f (48 + k) (f 70)
def S_begin (f : Row) (k : Nat) : Row := upd (S_draw (S_begin0 f k)) (54 + k) (S_begin0 f k 70 + S_waitV (S_begin0 f k) 1)
def S_rs0 (f : Row) : Row := upd (upd (upd f 70 0) 71 0) 72 0
def S_rsStep (k : Nat) (g : Row) : Row := upd (S_goAway g k) (73 + k) 0
def S_restart (f : Row) : Row := it S_rsStep 6 (S_rs0 f)
def S_restOk (f : Row) (k : Nat) : Bool := if f k = 2 then false else if f k = 1 then (if f (6 + k) = S_those f 1 &&& ((1 <<< (nI k &&& 31)) ^^^ (-1)) then true else false) else true
def S_restN (f : Row) : Nat → Bool
  | 0 => true
  | n + 1 => S_restN f n && S_restOk f n
theorem S_restN_f {f : Row} {i : Nat} (h : S_restOk f i = false) : ∀ n, i < n → S_restN f n = false
  | 0, q => absurd q (by omega)
  | n + 1, q => by
    unfold S_restN
    by_cases e : i = n
    · subst e; rw [h, Bool.and_false]
    · rw [S_restN_f h n (by omega), Bool.false_and]
def S_feltStep (f : Row) (k : Nat) (x : Int32) : Int32 := if f k = 0 then x ||| f (6 + k) else x ||| f (6 + k) ||| (1 <<< (nI k &&& 31))
def S_felt (f : Row) : Int32 := it (S_feltStep f) 6 0
def S_onlyStep (bits : Int32) (k : Nat) (g : Row) : Row := if S_has bits (nI k) then upd g (6 + k) (g (6 + k) &&& bits) else S_goAway (upd g (6 + k) (g (6 + k) &&& bits)) k
def S_only (f : Row) (bits : Int32) : Row := it (S_onlyStep bits) 6 f
def S_turn (f : Row) (k o : Nat) : Row := upd f (73 + k) (f (73 + k) ^^^ (1 <<< (nI o &&& 31)))
theorem S_fs_no {k o : Nat} {most : Int32} {g : Row} (h : S_old g k o most = false) : S_forStep k most o g = g := by
  unfold S_forStep
  rw [h]
  simp only [Bool.false_eq_true, if_false, and_m1]
  exact up_same rfl
theorem S_fs_yes {k o : Nat} {most : Int32} {g : Row} (h : S_old g k o most = true) : S_forStep k most o g = upd g (6 + k) (g (6 + k) &&& ((1 <<< (nI o &&& 31)) ^^^ (-1))) := by
  unfold S_forStep
  rw [if_pos h]
theorem S_old_a {g : Row} {k o : Nat} {most : Int32} (h : S_has (g (6 + k)) (nI o) = false) : S_old g k o most = false := by
  unfold S_old
  rw [h]
  rfl
theorem S_old_b {g : Row} {k o : Nat} {most : Int32} (h : S_has (g (6 + k)) (nI o) = true) (q : g 70 - g (12 + 6 * k + o) ≤ most) : S_old g k o most = false := by
  unfold S_old
  rw [if_pos h, if_pos q]
theorem S_old_c {g : Row} {k o : Nat} {most : Int32} (h : S_has (g (6 + k)) (nI o) = true) (q : ¬ g 70 - g (12 + 6 * k + o) ≤ most) : S_old g k o most = true := by
  unfold S_old
  rw [if_pos h, if_neg q]
