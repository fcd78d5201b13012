/-! the reference's object: eleven cells -/
def MW (cI cZ : ClassId) (a : Nat → Nat) (tx : Row) (ln : Nat) (nw tr di : Row) (ac nx : Nat) (ke ik s1 s2 : Row) (se : Nat) (sd : Int64) (wo re : Row) : va_W :=
  [(a 0, .inr (2, [.ref (a 1), .int (nI ln), .ref (a 2), .ref (a 3), .ref (a 4), .int (nI ac), .int (nI nx), .ref (a 5), .ref (a 6), .ref (a 7), .ref (a 8), .int (nI se), .long sd, .ref (a 9), .ref (a 10)])), (a 1, .inl (cI, 60, .inl tx)), (a 2, .inl (cI, 79, .inl nw)), (a 3, .inl (cI, 79, .inl tr)), (a 4, .inl (cI, 1106, .inl di)), (a 5, .inl (cI, 158, .inl ke)), (a 6, .inl (cZ, 2, .inl ik)), (a 7, .inl (cI, 6, .inl s1)), (a 8, .inl (cI, 6, .inl s2)), (a 9, .inl (cI, 64, .inl wo)), (a 10, .inl (cI, 79, .inl re))]
theorem MW_same {cI cZ : ClassId} {a : Nat → Nat} {tx tx' : Row} {ln ln' : Nat} {nw tr di nw' tr' di' : Row} {ac nx ac' nx' : Nat} {ke ik s1 s2 ke' ik' s1' s2' : Row} {se se' : Nat} {sd sd' : Int64} {wo re wo' re' : Row} : (MW cI cZ a tx' ln' nw' tr' di' ac' nx' ke' ik' s1' s2' se' sd' wo' re').map (fun q => q.1) = (MW cI cZ a tx ln nw tr di ac nx ke ik s1 s2 se sd wo re).map (fun q => q.1) := rfl
def S_put (d f : Row) (o : Nat) (n : Nat) : Row := it (fun k x => upd x (o + k) (f k)) n d
theorem S_put_s (d f : Row) (o n : Nat) : S_put d f o (n + 1) = upd (S_put d f o n) (o + n) (f n) := by unfold S_put; rw [it_s]
theorem S_put_in (d f : Row) (o : Nat) : ∀ (n j : Nat), j < n → S_put d f o n (o + j) = f j
  | 0, j, h => absurd h (by omega)
  | n + 1, j, h => by
    rw [S_put_s]
    by_cases q : j = n
    · subst q; rw [pk_us]
    · rw [pk_un (by omega)]; exact S_put_in d f o n j (by omega)
theorem S_put_out (d f : Row) (o : Nat) : ∀ (n j : Nat), j < o ∨ o + n ≤ j → S_put d f o n j = d j
  | 0, _, _ => rfl
  | n + 1, j, h => by
    rw [S_put_s, pk_un (by omega)]
    exact S_put_out d f o n j (by omega)
theorem S_put_0 (d f : Row) (n j : Nat) (h : j < n) : S_put d f 0 n j = f j := by
  have := S_put_in d f 0 n j h
  rwa [Nat.zero_add] at this
def S_init : Row := fun j => if j = 66 ∨ j = 67 ∨ j = 68 then 1 else 0
def S_zero : Row := fun _ => 0
theorem S_init_eq (f : Row) (j : Nat) (h : j < 79) : upd (upd (upd (S_put f S_zero 0 79) 66 1) 67 1) 68 1 j = S_init j := by
  unfold S_init
  by_cases h1 : j = 68
  · subst h1; rw [pk_us]; rfl
  · rw [pk_un h1]
    by_cases h2 : j = 67
    · subst h2; rw [pk_us]; rfl
    · rw [pk_un h2]
      by_cases h3 : j = 66
      · subst h3; rw [pk_us]; rfl
      · rw [pk_un h3, S_put_0 _ _ _ _ h, if_neg (by omega)]
        rfl
theorem tb_eq {x : Int32} {n : Nat} (hn : n < 2 ^ 31) (h : x.toInt = 0 + n) : x = nI n := by
  apply Int32.toInt_inj.mp
  rw [h, nI_toInt hn]
  omega
theorem tb_ne {x : Int32} {N n : Nat} (h : x.toInt < 0 ∨ 0 + (N : Int) ≤ x.toInt) (hn : n < N) (hN : N < 2 ^ 31) : ¬ x = nI n := by
  intro q
  rw [q, nI_toInt (by omega)] at h
  omega
def S_member (f : Row) (k : Nat) (v : Int32) : Int32 := if v = 0 then f k else if v = 1 then f (6 + k) else if v = 2 then S_count f k else if v = 3 then f (48 + k) else if v = 4 then f (54 + k) else if v = 5 then f (60 + k) else -2
def S_heard (f : Row) (k o : Nat) : Int32 := if S_has (f (6 + k)) (nI o) then f (12 + 6 * k + o) else -9
def S_way (f : Row) (k o : Nat) : Int32 := if S_has (f (73 + k)) (nI o) then 0 else 1
theorem isM_nI {k : Nat} (h : k < 6) : S_isM (nI k) = true := by
  unfold S_isM S_in
  rw [nI_l (by omega), show (0 : Int64) = lN 0 from rfl, show (5 : Int64) = lN 5 from rfl, if_neg (by rw [lN_lt (by omega) (by omega)]; omega), if_neg (by rw [lN_lt (by omega) (by omega)]; omega)]
theorem isM_ex {v : Int32} (h : S_isM v = true) : ∃ k : Nat, k < 6 ∧ v = nI k := by
  unfold S_isM S_in at h
  split at h
  · cases h
  · next h1 =>
    split at h
    · cases h
    · next h2 =>
      have e0 : ((0 : Int64)).toInt = 0 := by decide
      have e5 : ((5 : Int64)).toInt = 5 := by decide
      rw [Int64.lt_iff_toInt_lt, Int32.toInt_toInt64] at h1 h2
      rw [e0] at h1
      rw [e5] at h2
      refine ⟨v.toInt.toNat, by omega, Int32.toInt_inj.mp ?_⟩
      rw [nI_toInt (by omega)]
      omega
theorem rem14 {n : Nat} (h : n < 2 ^ 31) : nI n - nI n / 14 * 14 = nI (n % 14) := pk_rem h (by decide) (by decide)
def S_inc14 (n : Nat) : Nat := if n < 14 then n + 1 else 14
theorem row_cong {D : va_G} {cI : ClassId} {a : Nat} {n : Nat} {f g : Nat → Int32} {H : Heap} {w1 w3 : va_W} (h : ∀ j, j < n → f j = g j) (hP : va_P D vwCl (w1 ++ ((a, .inl (cI, n, .inl f)) :: w3)) H) : va_P D vwCl (w1 ++ ((a, .inl (cI, n, .inl g)) :: w3)) H := by
  rw [va_P_app, va_P_cons] at hP ⊢
  exact ⟨hP.1, va_at_cong h hP.2.1, hP.2.2⟩
def S_ahead (f : Row) (u : Int32) : Int32 := if u = 0 then f 71 else if u = 1 then f 72 else if u = 2 then S_those f 1 else f 69
theorem S_ticks_1 (f : Row) : S_ticks f 1 = S_tick f := by rw [S_ticks_s]; unfold S_ticks; rw [it_0]
def S_max (x y : Int32) : Int32 := if x ≤ y then y else x
theorem S_max_t {x y : Int32} (h : x ≤ y) : S_max x y = y := if_pos h
theorem S_max_f {x y : Int32} (h : ¬ x ≤ y) : S_max x y = x := if_neg h
def S_crowd (f : Row) : Nat → Int32
  | 0 => 0
  | n + 1 => S_max (S_pass (S_ticks f n) 1) (S_crowd f n)
theorem S_crowd_s (f : Row) (n : Nat) : S_crowd f (n + 1) = S_max (S_pass (S_ticks f n) 1) (S_crowd f n) := rfl
theorem Z_only {f : Row} {v : Int32} (h : Z67 f) : Z67 (S_only f v) := it_ind (P := Z67) (N := 6) h (fun i x hi hx => by
  unfold S_onlyStep
  split
  · exact Z_upd hx (by omega)
  · exact Z_goAway (Z_upd hx (by omega)) hi) 6 (Nat.le_refl 6)
def S_lpow (v : Int64) : Nat → Int64
  | 0 => 1
  | n + 1 => S_lpow v n * v
theorem S_lpow_s (v : Int64) (n : Nat) : S_lpow v (n + 1) = S_lpow v n * v := rfl
def S_pow (v : Int32) : Nat → Int32
  | 0 => 1
  | n + 1 => S_pow v n * v
theorem S_pow_s (v : Int32) (n : Nat) : S_pow v (n + 1) = S_pow v n * v := rfl
def S_facP : Nat → Int32
  | 0 => 1
  | j + 1 => S_facP j * nI (j + 2)
theorem S_facP_s (j : Nat) : S_facP (j + 1) = S_facP j * nI (j + 2) := rfl
def S_abs (x : Int32) : Int32 := if 0 ≤ x then x else -x
def S_frac (x : Int32) (g : Nat) (below : Nat) (up : Int32) : Int32 := if up = 0 then nI below / nI g else x / nI g
theorem gcd_step {p q : Nat} : Nat.gcd q (p % q) = Nat.gcd p q := by rw [Nat.gcd_comm p q, Nat.gcd_rec q p, Nat.gcd_comm]
theorem nI_z {n : Nat} (hn : n < 2 ^ 31) (h : nI n = 0) : n = 0 := by
  rcases Nat.eq_zero_or_pos n with q | q
  · exact q
  · exact absurd h (nI_ne0 q hn)
theorem nI_nz {n : Nat} (h : ¬ nI n = 0) : 0 < n := by
  rcases Nat.eq_zero_or_pos n with q | q
  · subst q; exact absurd rfl h
  · exact q
def S_isOk (f : Row) (k : Nat) : Bool := if f k = 1 then (if f (6 + k) = S_those f 1 &&& ((1 <<< (nI k &&& 31)) ^^^ (-1)) then true else false) else true
def S_isN (f : Row) : Nat → Bool
  | 0 => if S_those f 2 = 0 then true else false
  | n + 1 => S_isN f n && S_isOk f n
def S_rest (P : Row → Bool) (f : Row) : Nat → Nat → Int32
  | _, 0 => -9
  | i, n + 1 => if P (S_ticks f i) then nI i else S_rest P f (i + 1) n
def S_restT (P : Row → Bool) (f : Row) : Nat → Nat → Row
  | i, 0 => S_ticks f i
  | i, n + 1 => if P (S_ticks f i) then S_ticks f i else S_restT P f (i + 1) n
theorem rest_hit {P : Row → Bool} {f : Row} {i : Nat} (hi : i < 100) (h : P (S_ticks f i) = true) : S_rest P f i (100 - i) = nI i ∧ S_restT P f i (100 - i) = S_ticks f i := by
  rw [show 100 - i = (99 - i) + 1 by omega]
  unfold S_rest S_restT
  rw [if_pos h, if_pos h]
  exact ⟨rfl, rfl⟩
theorem rest_miss {P : Row → Bool} {f : Row} {i : Nat} (hi : i < 100) (h : P (S_ticks f i) = false) : S_rest P f i (100 - i) = S_rest P f (i + 1) (100 - (i + 1)) ∧ S_restT P f i (100 - i) = S_restT P f (i + 1) (100 - (i + 1)) := by
  rw [show 100 - i = (100 - (i + 1)) + 1 by omega]
  constructor
  · rw [S_rest, h]; rfl
  · rw [S_restT, h]; rfl
def S_about (f : Row) (ac se ln : Nat) (u : Int32) : Int32 := if u = 0 then f 66 else if u = 1 then f 67 else if u = 2 then f 68 else if u = 3 then f 70 else if u = 4 then f 69 else if u = 5 then f 71 else if u = 6 then f 72 else if u = 7 then S_those f 1 else if u = 8 then S_those f 2 else if u = 10 then nI ac else if u = 11 then nI se else if u = 12 then nI ln else -2
def S_round (x y z : Int32) : Int32 := if 0 ≤ x - y - z then x - y - z else -3
def S_lcg (x : Int64) : Int64 := x * 6364136223846793005 + 1442695040888963407
def S_sdN (sd : Int64) : Nat → Int64
  | 0 => sd
  | i + 1 => S_lcg (S_sdN sd i)
theorem S_sdN_s (sd : Int64) (i : Nat) : S_sdN sd (i + 1) = S_sdN sd i * 6364136223846793005 + 1442695040888963407 := rfl
def S_drV (x : Int64) : Nat := x.toUInt64.toNat / 2 ^ 33
theorem drV_lt (x : Int64) : S_drV x < 2 ^ 31 := by
  unfold S_drV
  have h : x.toUInt64.toNat < 2 ^ 64 := x.toUInt64.toNat_lt
  omega
theorem drV_ok (x : Int64) : Int64.toInt32 (x.toUInt64 >>> ((Int32.toInt64 33).toUInt64 &&& Int64.toUInt64 63)).toInt64 = nI (S_drV x) := by
  have e : ((Int32.toInt64 33).toUInt64 &&& Int64.toUInt64 63) = 33 := by decide
  rw [e, ← lN_i]
  congr 1
  unfold lN S_drV
  apply Int64.toBitVec_inj.mp
  apply BitVec.eq_of_toNat_eq
  have e2 : x.toUInt64.toNat = x.toBitVec.toNat := rfl
  have e3 := x.toBitVec.isLt
  simp [Nat.shiftRight_eq_div_pow]
  omega
def S_drE (x : Int64) (g : Row) : Row := if S_drV x % 8 = 0 then S_eod g (S_drV x / 8 % 6) else g
def S_drT (f : Row) (sd : Int64) : Nat → Row
  | 0 => f
  | i + 1 => S_tick (S_drE (S_sdN sd (i + 1)) (S_drT f sd i))
theorem S_drT_s (f : Row) (sd : Int64) (i : Nat) : S_drT f sd (i + 1) = S_tick (S_drE (S_sdN sd (i + 1)) (S_drT f sd i)) := by rw [S_drT]
theorem S_drE_a {x : Int64} {g : Row} (h : ¬ nI (S_drV x % 8) = 0) : S_drE x g = g := by
  unfold S_drE
  rw [if_neg (fun q => h (by rw [q]; rfl))]
theorem S_drE_0 {x : Int64} {g : Row} (h : nI (S_drV x % 8) = 0) : S_drE x g = S_eod g (S_drV x / 8 % 6) := by
  unfold S_drE
  rw [if_pos (nI_z (by omega) h)]
theorem Z_drE {x : Int64} {g : Row} (h : Z67 g) : Z67 (S_drE x g) := by
  unfold S_drE S_eod
  have := Nat.mod_lt (S_drV x / 8) (show 0 < 6 by decide)
  split
  · split
    · exact Z_joins h this
    · split
      · exact Z_leaves h this
      · exact h
  · exact h
theorem Z_drT {f : Row} {sd : Int64} (h : Z67 f) : ∀ i, Z67 (S_drT f sd i)
  | 0 => h
  | i + 1 => by rw [S_drT_s]; exact Z_tick (Z_drE (Z_drT h i))
