/-! which, share, chance -/
theorem Z_67 {f : Row} {r : Nat} (h1 : 1 ≤ r) (h2 : r < 2 ^ 31) : Z67 (upd f 67 (nI r)) := by
  unfold Z67
  rw [pk_us]
  exact nI_le (a := 1) h1 h2
def S_mayN (nw s1 s2 : Row) (r : Nat) : Nat → Bool
  | 0 => true
  | j + 1 => if S_mayN nw s1 s2 r j then (if S_pass (upd nw 67 (nI r)) (s1 j).toNatClampNeg = s2 j then true else false) else false
def S_whTi (nw s1 s2 : Row) (r : Nat) (t0 : Row) : Nat → Row
  | 0 => t0
  | j + 1 => if S_mayN nw s1 s2 r j then S_ticks (upd nw 67 (nI r)) (s1 j).toNatClampNeg else upd nw 67 (nI r)
def S_whS (nw s1 s2 : Row) (se : Nat) : Nat → Int32
  | 0 => 0
  | i + 1 => S_whS nw s1 s2 se i ||| (if S_mayN nw s1 s2 (i + 1) se then 1 <<< (nI (i + 1) &&& 31) else 0)
def S_whTo (nw s1 s2 : Row) (se : Nat) (t0 : Row) : Nat → Row
  | 0 => t0
  | i + 1 => S_whTi nw s1 s2 (i + 1) (S_whTo nw s1 s2 se t0 i) se
def S_shF (nw : Row) (t j : Nat) : Int32 := S_pass (S_only nw (nI j)) t
def S_shT (nw t0 : Row) (t : Nat) : Nat → Row
  | 0 => t0
  | i + 1 => S_ticks (S_only nw (nI i)) t
def S_pc (i : Nat) : Nat := (S_ones (nI i)).toNatClampNeg
theorem pc_ok : ∀ i, i < 64 → S_ones (nI i) = nI (S_pc i) ∧ S_pc i ≤ 6 := by decide +kernel
theorem pc_5 : ∀ k, k < 6 → ∀ i, i < 64 → S_has (nI i) (nI k) = false → S_pc i ≤ 5 := by decide +kernel
def S_orb (i k : Nat) : Nat := (nI i ||| (1 <<< (nI k &&& 31))).toNatClampNeg
theorem orb_ok : ∀ k, k < 6 → ∀ i, i < 64 → nI i ||| (1 <<< (nI k &&& 31)) = nI (S_orb i k) ∧ S_orb i k < 64 := by decide +kernel
def S_more (nw : Row) (k : Nat) : Nat → Int32
  | 0 => 0
  | i + 1 => if S_has (nI i) (nI k) then S_more nw k i else S_more nw k i + S_facP (S_pc i - 1) * S_facP (5 - S_pc i - 1) * (S_shF nw 30 (S_orb i k) - S_shF nw 30 i)
def S_chc (nw : Row) (v : Int32) (q i : Nat) : Int32 := if S_shF nw 20 i < v then 0 else S_pow (10 - nI q) (S_pc i) * S_pow (nI q) (6 - S_pc i)
def S_chN (nw : Row) (v : Int32) (q : Nat) : Nat → Int32
  | 0 => 0
  | i + 1 => S_chN nw v q i + S_chc nw v q i
