/-! reading a text -/
def S_hok (tx : Row) (ln k : Nat) : Bool := if ln ≤ k then false else S_in (Int32.toInt64 (tx k - 48)) (if k < 4 then 1 else 0) 9
def S_hdS (tx : Row) (k : Nat) (g : Row) : Row := if k < 4 then upd g (65 + k) (tx k - 48) else upd g 69 (10 * g 69 + (tx k - 48))
def S_hdR (tx : Row) (g : Row) : Nat → Row
  | 0 => g
  | n + 1 => S_hdS tx (n + 1) (S_hdR tx g n)
/-- how the head ends: the first bad place from k on (n places are left), or none -/
def S_hd (tx : Row) (ln : Nat) : Nat → Nat → Option Nat
  | _, 0 => none
  | k, n + 1 => if S_hok tx ln k then S_hd tx ln (k + 1) n else some k
def S_may (g : Row) (x : Int32) : Int32 := if x = 106 then S_those g 0 else if x = 108 then S_those g 1 else 0
def S_let (tx : Row) (ln k : Nat) : Int32 := if ln ≤ k then -9 else tx k - 48
def S_mok (g : Row) (x m : Int32) : Bool := if S_isM m then S_has (S_may g x) m else false
def S_ev (g : Row) (x m : Int32) : Row := if x = 106 then S_joins g m.toNatClampNeg else S_leaves g m.toNatClampNeg
/-- the events from place k on, the row being g -/
def S_rd (tx : Row) (ln : Nat) : Nat → Nat → Row → Int32 × Row
  | 0, _, g => (-9, g)
  | n + 1, k, g => if ln ≤ k then (-9, g)
    else if S_in (Int32.toInt64 (tx k - 48)) 1 9 then S_rd tx ln n (k + 1) (S_ticks g (tx k - 48).toNatClampNeg)
    else if S_may g (tx k) = 0 then (nI k, g)
    else if S_mok g (tx k) (S_let tx ln (k + 1)) then S_rd tx ln n (k + 2) (S_ev g (tx k) (S_let tx ln (k + 1)))
    else (nI (k + 1), g)
theorem in_nat {x : Int32} {lo hi : Nat} (hl : lo < 2 ^ 31) (hh : hi < 2 ^ 31) (h : S_in (Int32.toInt64 x) (lN lo) (lN hi) = true) : ∃ d : Nat, lo ≤ d ∧ d ≤ hi ∧ x = nI d := by
  unfold S_in at h
  split at h
  · cases h
  · next h1 =>
    split at h
    · cases h
    · next h2 =>
      rw [Int64.lt_iff_toInt_lt, Int32.toInt_toInt64, lN_toInt hl] at h1
      rw [Int64.lt_iff_toInt_lt, Int32.toInt_toInt64, lN_toInt hh] at h2
      refine ⟨x.toInt.toNat, by omega, by omega, Int32.toInt_inj.mp ?_⟩
      rw [nI_toInt (by omega)]
      omega
theorem Z_hdS {tx g : Row} {k : Nat} (hk : k < 7) (h : Z67 g) (hok : k < 4 → 1 ≤ tx k - 48) : Z67 (S_hdS tx k g) := by
  unfold S_hdS
  split
  · next q =>
    by_cases e : k = 2
    · subst e
      unfold Z67
      show 1 ≤ upd g 67 (tx 2 - 48) 67
      rw [pk_us]
      exact hok q
    · exact Z_upd h (by omega)
  · exact Z_upd h (by omega)
theorem hok_ge {tx : Row} {ln k : Nat} (h : S_hok tx ln k = true) : k < ln ∧ S_in (Int32.toInt64 (tx k - 48)) (if k < 4 then 1 else 0) 9 = true := by
  unfold S_hok at h
  split at h
  · cases h
  · next q => exact ⟨by omega, h⟩
theorem hok_1 {tx : Row} {ln k : Nat} (h : S_hok tx ln k = true) (hk : k < 4) : 1 ≤ tx k - 48 := by
  have h2 := (hok_ge h).2
  rw [if_pos hk] at h2
  obtain ⟨d, h3, h4, e⟩ := in_nat (lo := 1) (hi := 9) (by decide) (by decide) h2
  rw [e]
  exact nI_le (a := 1) h3 (by omega)
theorem Z_hdR {tx g : Row} {ln : Nat} (hz : Z67 g) : ∀ n, n ≤ 6 → (∀ k, 1 ≤ k → k ≤ n → S_hok tx ln k = true) → Z67 (S_hdR tx g n)
  | 0, _, _ => hz
  | n + 1, hn, h => Z_hdS (by omega) (Z_hdR hz n (by omega) (fun k h1 h2 => h k h1 (by omega))) (fun h4 => hok_1 (h (n + 1) (by omega) (Nat.le_refl _)) h4)
theorem Z_init : Z67 S_init := by unfold Z67 S_init; decide
theorem Z_ev {g : Row} {x m : Int32} (h : Z67 g) (hm : S_isM m = true) : Z67 (S_ev g x m) := by
  obtain ⟨k, hk, e⟩ := isM_ex hm
  unfold S_ev
  rw [e, nI_clamp (by omega)]
  split
  · exact Z_joins h hk
  · exact Z_leaves h hk
theorem mok_isM {g : Row} {x m : Int32} (h : S_mok g x m = true) : S_isM m = true := by
  unfold S_mok at h
  split at h
  · assumption
  · cases h
theorem nlt_of {a b : Nat} (ha : a < 2 ^ 31) (hb : b < 2 ^ 31) (h : ¬ nI b ≤ nI a) : a < b := by
  rcases Nat.lt_or_ge a b with q | q
  · exact q
  · exact absurd (nI_le q ha) h
theorem let_in {tx : Row} {ln k : Nat} (h : k < ln) : S_let tx ln k = tx k - 48 := by unfold S_let; rw [if_neg (by omega)]
theorem let_out {tx : Row} {ln k : Nat} (h : ln ≤ k) : S_let tx ln k = -9 := by unfold S_let; rw [if_pos h]
theorem hok_let {tx : Row} {ln k : Nat} : S_in (Int32.toInt64 (S_let tx ln k)) (if k < 4 then 1 else 0) 9 = S_hok tx ln k := by
  unfold S_hok
  by_cases h : ln ≤ k
  · rw [if_pos h, let_out h]
    by_cases q : k < 4
    · rw [if_pos q]; decide
    · rw [if_neg q]; decide
  · rw [if_neg h, let_in (by omega)]
def S_is (x : Int32) : Bool := if x = 106 then true else false
theorem rd_a {tx g : Row} {ln n k : Nat} (hn : 0 < n) (hk : ln ≤ k) : S_rd tx ln n k g = (-9, g) := by
  obtain ⟨m, rfl⟩ : ∃ m, n = m + 1 := ⟨n - 1, by omega⟩
  rw [S_rd, if_pos hk]
theorem rd_b {tx g : Row} {ln n k : Nat} (hk : k < ln) (h : S_in (Int32.toInt64 (tx k - 48)) 1 9 = true) : S_rd tx ln (n + 1) k g = S_rd tx ln n (k + 1) (S_ticks g (tx k - 48).toNatClampNeg) := by
  rw [S_rd, if_neg (by omega), if_pos h]
theorem rd_c {tx g : Row} {ln n k : Nat} (hn : 0 < n) (hk : k < ln) (h : S_in (Int32.toInt64 (tx k - 48)) 1 9 = false) (hm : S_may g (tx k) = 0) : S_rd tx ln n k g = (nI k, g) := by
  obtain ⟨m, rfl⟩ : ∃ m, n = m + 1 := ⟨n - 1, by omega⟩
  rw [S_rd, if_neg (by omega), h, if_neg (by decide), if_pos hm]
theorem rd_d {tx g : Row} {ln n k : Nat} (hk : k < ln) (h : S_in (Int32.toInt64 (tx k - 48)) 1 9 = false) (hm : ¬ S_may g (tx k) = 0) (ho : S_mok g (tx k) (S_let tx ln (k + 1)) = true) : S_rd tx ln (n + 1) k g = S_rd tx ln n (k + 2) (S_ev g (tx k) (S_let tx ln (k + 1))) := by
  rw [S_rd, if_neg (by omega), h, if_neg (by decide), if_neg hm, if_pos ho]
theorem rd_e {tx g : Row} {ln n k : Nat} (hn : 0 < n) (hk : k < ln) (h : S_in (Int32.toInt64 (tx k - 48)) 1 9 = false) (hm : ¬ S_may g (tx k) = 0) (ho : S_mok g (tx k) (S_let tx ln (k + 1)) = false) : S_rd tx ln n k g = (nI (k + 1), g) := by
  obtain ⟨m, rfl⟩ : ∃ m, n = m + 1 := ⟨n - 1, by omega⟩
  rw [S_rd, if_neg (by omega), h, if_neg (by decide), if_neg hm, ho]
  rfl
theorem mok_a {g : Row} {x m : Int32} (h : S_isM m = false) : S_mok g x m = false := by unfold S_mok; rw [h]; rfl
theorem mok_b {g : Row} {x m : Int32} (h : S_isM m = true) : S_mok g x m = S_has (S_may g x) m := by unfold S_mok; rw [if_pos h]
theorem ev_j {g : Row} {x m : Int32} {j : Nat} (hj : j < 6) (e : m = nI j) (h : S_is x = true) : S_ev g x m = S_joins g j := by
  unfold S_is at h
  split at h
  · next q => unfold S_ev; rw [if_pos q, e, nI_clamp (by omega)]
  · cases h
theorem ev_l {g : Row} {x m : Int32} {j : Nat} (hj : j < 6) (e : m = nI j) (h : S_is x = false) : S_ev g x m = S_leaves g j := by
  unfold S_is at h
  split at h
  · cases h
  · next q => unfold S_ev; rw [if_neg q, e, nI_clamp (by omega)]
theorem nI_le_of {a b : Nat} (h : b ≤ a) {i : Nat} (_ : i ≤ a) (ha : a < 2 ^ 31 := by omega) : nI b ≤ nI a := nI_le h ha
def S_read (tx : Row) (ln : Nat) : Int32 × Row := if ln = 0 then (0, S_init) else if tx 0 = 77 then (match S_hd tx ln 1 6 with | some k => (nI k, S_hdR tx S_init (k - 1)) | none => S_rd tx ln (ln + 1) 7 (S_hdR tx S_init 6)) else (0, S_init)
theorem hd_some {tx : Row} {ln : Nat} : ∀ {n k0 k : Nat}, S_hd tx ln k0 n = some k → k0 ≤ k ∧ k < k0 + n ∧ (∀ j, k0 ≤ j → j < k → S_hok tx ln j = true) ∧ S_hok tx ln k = false
  | 0, _, _, h => by unfold S_hd at h; cases h
  | n + 1, k0, k, h => by
    unfold S_hd at h
    split at h
    · next q =>
      obtain ⟨h1, h2, h3, h4⟩ := hd_some h
      refine ⟨by omega, by omega, fun j hj hk => ?_, h4⟩
      by_cases e : j = k0
      · subst e; exact q
      · exact h3 j (by omega) hk
    · next q =>
      cases h
      exact ⟨Nat.le_refl _, by omega, fun j hj hk => absurd hk (by omega), by cases e : S_hok tx ln k0 with | true => exact absurd e q | false => rfl⟩
theorem hd_none {tx : Row} {ln : Nat} : ∀ {n k0 : Nat}, S_hd tx ln k0 n = none → ∀ j, k0 ≤ j → j < k0 + n → S_hok tx ln j = true
  | 0, _, _, j, hj, hk => absurd hk (by omega)
  | n + 1, k0, h, j, hj, hk => by
    unfold S_hd at h
    split at h
    · next q =>
      by_cases e : j = k0
      · subst e; exact q
      · exact hd_none h j (by omega) (by omega)
    · cases h
/-! jitter: times, two figures each -/
def S_tm (x : Int64) (n i : Nat) : Int32 := Int64.toInt32 (x / S_lpow 100 (n - 1 - i) - x / S_lpow 100 (n - 1 - i) / 100 * 100)
def S_apart (t w : Int32) : Int32 := if t ≤ w then w - t else t - w
def S_jw (x : Int64) (n : Nat) : Nat → Int32
  | 0 => 0
  | i + 1 => S_tm x n i
def S_jv (x : Int64) (n : Nat) : Nat → Int32
  | 0 => 0
  | i + 1 => if i = 0 then 0 else S_jv x n i + S_apart (S_tm x n i) (S_jw x n i) - (S_jv x n i + 8) / 16
theorem jv_s {x : Int64} {n i : Nat} (h : 0 < i) : S_jv x n (i + 1) = S_jv x n i + S_apart (S_tm x n i) (S_jw x n i) - (S_jv x n i + 8) / 16 := by
  rw [S_jv, if_neg (by omega)]
theorem jw_s {x : Int64} {n i : Nat} : S_jw x n (i + 1) = S_tm x n i := rfl
theorem ap_t {t w : Int32} (h : t ≤ w) : S_apart t w = w - t := if_pos h
theorem ap_f {t w : Int32} (h : ¬ t ≤ w) : S_apart t w = t - w := if_neg h
theorem lp100 {j : Nat} (h : j < 6) : ¬ S_lpow 100 j = 0 := by
  have : ∀ j, j < 6 → ¬ S_lpow 100 j = 0 := by decide
  exact this j h
theorem lp1000 {j : Nat} (h : j < 4) : ¬ S_lpow 1000 j = 0 := by
  have : ∀ j, j < 4 → ¬ S_lpow 1000 j = 0 := by decide
  exact this j h
/-! told doings -/
def S_plain (x y : Nat) : Bool := if nI x = 0 then S_isM (nI y) else false
def S_two (x y : Nat) : Bool := if S_isM (nI x) then (if S_isM (nI y) then (if nI x = nI y then false else true) else false) else false
def S_jd (f : Row) (h x y : Nat) : Bool × Row :=
  if h = 1 then (if S_plain x y then (if f y = 0 then (true, S_joins f y) else (false, f)) else (false, f))
  else if h = 2 then (if S_plain x y then (if f y = 1 then (true, S_leaves f y) else (false, f)) else (false, f))
  else if h = 3 then (if S_in (Int32.toInt64 (nI (10 * x + y))) 1 30 then (if S_pass f (10 * x + y) < 0 then (false, S_ticks f (10 * x + y)) else (true, S_ticks f (10 * x + y))) else (false, f))
  else if h = 4 then (if S_isM (nI x) then (if f x = nI y then (true, f) else (false, f)) else (false, f))
  else if h = 5 then (if S_two x y then (if S_has (f (6 + x)) (nI y) then (true, f) else (false, f)) else (false, f))
  else if h = 6 then (if S_isM (nI x) then (if S_count f x = nI y then (true, f) else (false, f)) else (false, f))
  else if h = 7 then (if S_two x y then (true, S_turn f x y) else (false, f))
  else (false, f)
theorem isM_lt {y : Nat} (hy : y < 2 ^ 31) (h : S_isM (nI y) = true) : y < 6 := by
  obtain ⟨k, hk, e⟩ := isM_ex h
  have := (nI_eq hy (by omega)).mp e
  omega
theorem plain_lt {x y : Nat} (hy : y < 2 ^ 31) (h : S_plain x y = true) : y < 6 := by
  unfold S_plain at h
  split at h
  · exact isM_lt hy h
  · cases h
theorem two_lt {x y : Nat} (hx : x < 2 ^ 31) (hy : y < 2 ^ 31) (h : S_two x y = true) : x < 6 ∧ y < 6 ∧ ¬ x = y := by
  unfold S_two at h
  split at h
  · next h1 =>
    split at h
    · next h2 =>
      split at h
      · cases h
      · next h3 => exact ⟨isM_lt hx h1, isM_lt hy h2, fun q => h3 (by rw [q])⟩
    · cases h
  · cases h
theorem jd_h {h : Nat} {n : Nat} (hh : h < 2 ^ 31) (e : (nI h).toInt = 1 + (n : Int)) : h = n + 1 := by
  rw [nI_toInt hh] at e
  omega
theorem jd_o {f : Row} {h x y : Nat} (hh : h < 2 ^ 31) (e : (nI h).toInt < 1 ∨ 1 + ((7 : Nat) : Int) ≤ (nI h).toInt) : S_jd f h x y = (false, f) := by
  rw [nI_toInt hh] at e
  unfold S_jd
  rw [if_neg (by omega), if_neg (by omega), if_neg (by omega), if_neg (by omega), if_neg (by omega), if_neg (by omega), if_neg (by omega)]
theorem Z_jd {f : Row} {h x y : Nat} (hx : x < 100) (hy : y < 100) (hz : Z67 f) : Z67 (S_jd f h x y).2 := by
  unfold S_jd
  split
  · split
    · next q =>
      split
      · exact Z_joins hz (plain_lt (by omega) q)
      · exact hz
    · exact hz
  · split
    · split
      · next q =>
        split
        · exact Z_leaves hz (plain_lt (by omega) q)
        · exact hz
      · exact hz
    · split
      · split
        · split
          · exact Z_ticks hz _
          · exact Z_ticks hz _
        · exact hz
      · split
        · split
          · split <;> exact hz
          · exact hz
        · split
          · split
            · split <;> exact hz
            · exact hz
          · split
            · split
              · split <;> exact hz
              · exact hz
            · split
              · split
                · next q =>
                  exact Z_upd hz (by have := (two_lt (by omega) (by omega) q).1; omega)
                · exact hz
              · exact hz
def S_th (X n i : Nat) : Nat := X / 1000 ^ (n - 1 - i) % 1000
theorem S_th_lt {X n i : Nat} : S_th X n i < 1000 := Nat.mod_lt _ (by decide)
theorem lpow_nat : ∀ j, j ≤ 4 → S_lpow 1000 j = lN (1000 ^ j) := by decide
theorem lpow_nat2 : ∀ j, j ≤ 6 → S_lpow 100 j = lN (100 ^ j) := by decide
theorem th_ok {X n i : Nat} (hX : X < 2 ^ 63) (hn : n ≤ 4) : Int64.toInt32 (lN X / S_lpow 1000 (n - 1 - i) - lN X / S_lpow 1000 (n - 1 - i) / 1000 * 1000) = nI (S_th X n i) := by
  have hp : 1000 ^ (n - 1 - i) < 2 ^ 63 := Nat.lt_of_le_of_lt (Nat.pow_le_pow_right (by decide) (show n - 1 - i ≤ 4 by omega)) (by decide)
  have hp0 : 0 < 1000 ^ (n - 1 - i) := Nat.pow_pos (by decide)
  rw [lpow_nat _ (by omega), pk_lDiv hX hp0 hp, show (1000 : Int64) = lN 1000 from rfl, pk_lRem (Nat.lt_of_le_of_lt (Nat.div_le_self _ _) hX) (by decide) (by decide), lN_i]
  rfl
def S_jdT (f : Row) (X n : Nat) : Nat → Row
  | 0 => f
  | i + 1 => (S_jd (S_jdT f X n i) (S_th X n i / 100) (S_th X n i / 10 % 10) (S_th X n i % 10)).2
def S_jdO (f : Row) (X n i : Nat) : Bool := (S_jd (S_jdT f X n i) (S_th X n i / 100) (S_th X n i / 10 % 10) (S_th X n i % 10)).1
def S_judge (f : Row) (X n : Nat) : Nat → Nat → Int32
  | _, 0 => -9
  | i, m + 1 => if S_jdO f X n i then S_judge f X n (i + 1) m else nI i
def S_judgeT (f : Row) (X n : Nat) : Nat → Nat → Row
  | i, 0 => S_jdT f X n i
  | i, m + 1 => if S_jdO f X n i then S_judgeT f X n (i + 1) m else S_jdT f X n (i + 1)
theorem jg_t {f : Row} {X n i : Nat} (hi : i < n) (h : S_jdO f X n i = true) : S_judge f X n i (n - i) = S_judge f X n (i + 1) (n - (i + 1)) ∧ S_judgeT f X n i (n - i) = S_judgeT f X n (i + 1) (n - (i + 1)) := by
  rw [show n - i = (n - (i + 1)) + 1 by omega, S_judge, S_judgeT, if_pos h, if_pos h]
  exact ⟨rfl, rfl⟩
theorem jg_f {f : Row} {X n i : Nat} (hi : i < n) (h : S_jdO f X n i = false) : S_judge f X n i (n - i) = nI i ∧ S_judgeT f X n i (n - i) = S_jdT f X n (i + 1) := by
  rw [show n - i = (n - (i + 1)) + 1 by omega, S_judge, S_judgeT, h]
  exact ⟨rfl, rfl⟩
theorem Z_jdT {f : Row} {X n : Nat} (hz : Z67 f) : ∀ i, Z67 (S_jdT f X n i)
  | 0 => hz
  | i + 1 => Z_jd (by omega) (by omega) (Z_jdT hz i)
