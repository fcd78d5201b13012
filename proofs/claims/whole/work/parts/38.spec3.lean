/-! reading a text -/
def S_hok (tx : Row) (ln k : Nat) : Bool := if ln ≤ k then false else S_in (Int32.toInt64 (tx k - 48)) (if k < 4 then 1 else 0) 9
def S_hdS (tx : Row) (k : Nat) (g : Row) : Row := if k < 4 then upd g (65 + k) (tx k - 48) else upd g 69 (10 * g 69 + (tx k - 48))
def S_hdR (tx : Row) (g : Row) : Nat → Row
  | 0 => g
  | n + 1 => S_hdS tx (n + 1) (S_hdR tx g n)
/-- how the head ends: the first bad place from k on (n places are left), or none -/
def S_hd (tx : Row) (ln : Nat) : Nat → Nat → Option Nat
  | _, 0 => none
  | k, n + 1 => if S_hok tx ln k then S_hd tx ln (k + 1) n else some k
def S_may (g : Row) (x : Int32) : Int32 := if x = 106 then S_those g 0 else if x = 108 then S_those g 1 else 0
def S_let (tx : Row) (ln k : Nat) : Int32 := if ln ≤ k then -9 else tx k - 48
def S_mok (g : Row) (x m : Int32) : Bool := if S_isM m then S_has (S_may g x) m else false
def S_ev (g : Row) (x m : Int32) : Row := if x = 106 then S_joins g m.toNatClampNeg else S_leaves g m.toNatClampNeg
/-- the events from place k on, the row being g -/
def S_rd (tx : Row) (ln : Nat) : Nat → Nat → Row → Int32 × Row
  | 0, _, g => (-9, g)
  | n + 1, k, g => if ln ≤ k then (-9, g)
    else if S_in (Int32.toInt64 (tx k - 48)) 1 9 then S_rd tx ln n (k + 1) (S_ticks g (tx k - 48).toNatClampNeg)
    else if S_may g (tx k) = 0 then (nI k, g)
    else if S_mok g (tx k) (S_let tx ln (k + 1)) then S_rd tx ln n (k + 2) (S_ev g (tx k) (S_let tx ln (k + 1)))
    else (nI (k + 1), g)
theorem in_nat {x : Int32} {lo hi : Nat} (hl : lo < 2 ^ 31) (hh : hi < 2 ^ 31) (h : S_in (Int32.toInt64 x) (lN lo) (lN hi) = true) : ∃ d : Nat, lo ≤ d ∧ d ≤ hi ∧ x = nI d := by
  unfold S_in at h
  split at h
  · cases h
  · next h1 =>
    split at h
    · cases h
    · next h2 =>
      rw [Int64.lt_iff_toInt_lt, Int32.toInt_toInt64, lN_toInt hl] at h1
      rw [Int64.lt_iff_toInt_lt, Int32.toInt_toInt64, lN_toInt hh] at h2
      refine ⟨x.toInt.toNat, by omega, by omega, Int32.toInt_inj.mp ?_⟩
      rw [nI_toInt (by omega)]
      omega
theorem Z_hdS {tx g : Row} {k : Nat} (hk : k < 7) (h : Z67 g) (hok : k < 4 → 1 ≤ tx k - 48) : Z67 (S_hdS tx k g) := by
  unfold S_hdS
  split
  · next q =>
    by_cases e : k = 2
    · subst e
      unfold Z67
      show 1 ≤ upd g 67 (tx 2 - 48) 67
      rw [pk_us]
      exact hok q
    · exact Z_upd h (by omega)
  · exact Z_upd h (by omega)
theorem hok_ge {tx : Row} {ln k : Nat} (h : S_hok tx ln k = true) : k < ln ∧ S_in (Int32.toInt64 (tx k - 48)) (if k < 4 then 1 else 0) 9 = true := by
  unfold S_hok at h
  split at h
  · cases h
  · next q => exact ⟨by omega, h⟩
theorem hok_1 {tx : Row} {ln k : Nat} (h : S_hok tx ln k = true) (hk : k < 4) : 1 ≤ tx k - 48 := by
  have h2 := (hok_ge h).2
  rw [if_pos hk] at h2
  obtain ⟨d, h3, h4, e⟩ := in_nat (lo := 1) (hi := 9) (by decide) (by decide) h2
  rw [e]
  exact nI_le (a := 1) h3 (by omega)
theorem Z_hdR {tx g : Row} {ln : Nat} (hz : Z67 g) : ∀ n, n ≤ 6 → (∀ k, 1 ≤ k → k ≤ n → S_hok tx ln k = true) → Z67 (S_hdR tx g n)
  | 0, _, _ => hz
  | n + 1, hn, h => Z_hdS (by omega) (Z_hdR hz n (by omega) (fun k h1 h2 => h k h1 (by omega))) (fun h4 => hok_1 (h (n + 1) (by omega) (Nat.le_refl _)) h4)
theorem Z_init : Z67 S_init := by unfold Z67 S_init; decide
theorem Z_ev {g : Row} {x m : Int32} (h : Z67 g) (hm : S_isM m = true) : Z67 (S_ev g x m) := by
  obtain ⟨k, hk, e⟩ := isM_ex hm
  unfold S_ev
  rw [e, nI_clamp (by omega)]
  split
  · exact Z_joins h hk
  · exact Z_leaves h hk
theorem mok_isM {g : Row} {x m : Int32} (h : S_mok g x m = true) : S_isM m = true := by
  unfold S_mok at h
  split at h
  · assumption
  · cases h
theorem nlt_of {a b : Nat} (ha : a < 2 ^ 31) (hb : b < 2 ^ 31) (h : ¬ nI b ≤ nI a) : a < b := by
  rcases Nat.lt_or_ge a b with q | q
  · exact q
  · exact absurd (nI_le q ha) h
theorem let_in {tx : Row} {ln k : Nat} (h : k < ln) : S_let tx ln k = tx k - 48 := by unfold S_let; rw [if_neg (by omega)]
theorem let_out {tx : Row} {ln k : Nat} (h : ln ≤ k) : S_let tx ln k = -9 := by unfold S_let; rw [if_pos h]
theorem hok_let {tx : Row} {ln k : Nat} : S_in (Int32.toInt64 (S_let tx ln k)) (if k < 4 then 1 else 0) 9 = S_hok tx ln k := by
  unfold S_hok
  by_cases h : ln ≤ k
  · rw [if_pos h, let_out h]
    by_cases q : k < 4
    · rw [if_pos q]; decide
    · rw [if_neg q]; decide
  · rw [if_neg h, let_in (by omega)]
def S_is (x : Int32) : Bool := if x = 106 then true else false
theorem rd_a {tx g : Row} {ln n k : Nat} (hn : 0 < n) (hk : ln ≤ k) : S_rd tx ln n k g = (-9, g) := by
  obtain ⟨m, rfl⟩ : ∃ m, n = m + 1 := ⟨n - 1, by omega⟩
  rw [S_rd, if_pos hk]
theorem rd_b {tx g : Row} {ln n k : Nat} (hk : k < ln) (h : S_in (Int32.toInt64 (tx k - 48)) 1 9 = true) : S_rd tx ln (n + 1) k g = S_rd tx ln n (k + 1) (S_ticks g (tx k - 48).toNatClampNeg) := by
  rw [S_rd, if_neg (by omega), if_pos h]
theorem rd_c {tx g : Row} {ln n k : Nat} (hn : 0 < n) (hk : k < ln) (h : S_in (Int32.toInt64 (tx k - 48)) 1 9 = false) (hm : S_may g (tx k) = 0) : S_rd tx ln n k g = (nI k, g) := by
  obtain ⟨m, rfl⟩ : ∃ m, n = m + 1 := ⟨n - 1, by omega⟩
  rw [S_rd, if_neg (by omega), h, if_neg (by decide), if_pos hm]
theorem rd_d {tx g : Row} {ln n k : Nat} (hk : k < ln) (h : S_in (Int32.toInt64 (tx k - 48)) 1 9 = false) (hm : ¬ S_may g (tx k) = 0) (ho : S_mok g (tx k) (S_let tx ln (k + 1)) = true) : S_rd tx ln (n + 1) k g = S_rd tx ln n (k + 2) (S_ev g (tx k) (S_let tx ln (k + 1))) := by
  rw [S_rd, if_neg (by omega), h, if_neg (by decide), if_neg hm, if_pos ho]
theorem rd_e {tx g : Row} {ln n k : Nat} (hn : 0 < n) (hk : k < ln) (h : S_in (Int32.toInt64 (tx k - 48)) 1 9 = false) (hm : ¬ S_may g (tx k) = 0) (ho : S_mok g (tx k) (S_let tx ln (k + 1)) = false) : S_rd tx ln n k g = (nI (k + 1), g) := by
  obtain ⟨m, rfl⟩ : ∃ m, n = m + 1 := ⟨n - 1, by omega⟩
  rw [S_rd, if_neg (by omega), h, if_neg (by decide), if_neg hm, ho]
  rfl
theorem mok_a {g : Row} {x m : Int32} (h : S_isM m = false) : S_mok g x m = false := by unfold S_mok; rw [h]; rfl
theorem mok_b {g : Row} {x m : Int32} (h : S_isM m = true) : S_mok g x m = S_has (S_may g x) m := by unfold S_mok; rw [if_pos h]
theorem ev_j {g : Row} {x m : Int32} {j : Nat} (hj : j < 6) (e : m = nI j) (h : S_is x = true) : S_ev g x m = S_joins g j := by
  unfold S_is at h
  split at h
  · next q => unfold S_ev; rw [if_pos q, e, nI_clamp (by omega)]
  · cases h
theorem ev_l {g : Row} {x m : Int32} {j : Nat} (hj : j < 6) (e : m = nI j) (h : S_is x = false) : S_ev g x m = S_leaves g j := by
  unfold S_is at h
  split at h
  · cases h
  · next q => unfold S_ev; rw [if_neg q, e, nI_clamp (by omega)]
theorem nI_le_of {a b : Nat} (h : b ≤ a) {i : Nat} (_ : i ≤ a) (ha : a < 2 ^ 31 := by omega) : nI b ≤ nI a := nI_le h ha
