/-! what the rows of numbers become: the reference's own steps, as functions -/
abbrev Row := Nat → Int32
abbrev gTy (cI cZ cQ : ClassId) : List (ClassId × FieldType) := [(cI, .int), (cZ, .boolean), (cQ, .object RX0)]
def bI (b : Bool) : Int32 := if b then 1 else 0
theorem bI_nar (b : Bool) : narrow .boolean (.int (bI b)) = .int (bI b) := by cases b <;> rfl
theorem bI_0 {b : Bool} : bI b = 0 ↔ b = false := by cases b <;> simp [bI]
theorem bI_n0 {b : Bool} : ¬ bI b = 0 ↔ b = true := by cases b <;> simp [bI]
def it {α : Type} (b : Nat → α → α) : Nat → α → α
  | 0, a => a
  | n + 1, a => b n (it b n a)
theorem it_0 {α : Type} (b : Nat → α → α) (a : α) : it b 0 a = a := rfl
theorem it_s {α : Type} (b : Nat → α → α) (n : Nat) (a : α) : it b (n + 1) a = b n (it b n a) := rfl
theorem it_ind {α : Type} {P : α → Prop} {b : Nat → α → α} {N : Nat} {a : α} (h0 : P a) (hs : ∀ i x, i < N → P x → P (b i x)) : ∀ n, n ≤ N → P (it b n a)
  | 0, _ => h0
  | n + 1, h => hs n _ (by omega) (it_ind h0 hs n (by omega))
theorem lp_ge {i N : Nat} (hi : i ≤ N) (hN : N < 2 ^ 31) (h : nI N ≤ nI i) : N = i := by
  have := (nI_leI hN (by omega)).mp h
  omega
theorem lp_lt {i N : Nat} (hi : i ≤ N) (hN : N < 2 ^ 31) (h : ¬ nI N ≤ nI i) : i < N := by
  rcases Nat.lt_or_ge i N with q | q
  · exact q
  · exact absurd (nI_le q (by omega)) h
def jrem (x y : Int32) : Int32 := x - x / y * y
def S_in (v lo hi : Int64) : Bool := if v < lo then false else if hi < v then false else true
def S_has (set k : Int32) : Bool := if (set >>> (k &&& 31)) &&& 1 = 1 then true else false
def S_onesStep (set : Int32) (k : Nat) (n : Int32) : Int32 := n + ((set >>> (nI k &&& 31)) &&& 1)
def S_ones (set : Int32) : Int32 := it (S_onesStep set) 6 0
def S_isM (v : Int32) : Bool := S_in (Int32.toInt64 v) 0 5
def S_count (f : Row) (k : Nat) : Int32 := if f k = 0 then 0 else 1 + S_ones (f (6 + k))
def S_up (f : Row) (v : Int32) : Int32 := (v * f 66 + f 67 - 1) / f 67
def S_span (f : Row) (v : Int32) : Int32 := if S_up f v ≤ f 68 then f 68 else S_up f v
def S_draw (f : Row) : Row := upd f 69 (jrem (25173 * f 69 + 13849) 65536)
def S_drawV (f : Row) : Int32 := jrem (S_draw f 69 / 16) 5
def S_wait0 (f : Row) (v : Int32) : Int32 := S_span f v * (2 + S_drawV f) / 4
def S_waitV (f : Row) (v : Int32) : Int32 := if S_wait0 f v ≤ 1 then 1 else S_wait0 f v
def S_letters (f : Row) : Int32 := f 71 + f 72
def S_reaches (f : Row) (k o : Nat) : Bool := if nI o = nI k then false else if f o = 0 then false else if S_has (f (73 + k)) (nI o) then false else true
def S_kn (g : Row) (k o : Nat) : Row := upd g (6 + o) (g (6 + o) ||| (1 <<< (nI k &&& 31)))
def S_repStep (k o : Nat) (g : Row) : Row := if S_reaches g k o then upd (S_kn g k o) (12 + 6 * o + k) (S_kn g k o 70) else g
def S_rep0 (f : Row) : Row := upd f 71 (f 71 + 1)
def S_report (f : Row) (k : Nat) : Row := it (S_repStep k) 6 (S_rep0 f)
def S_goAway (f : Row) (k : Nat) : Row := upd (upd (upd (upd (upd f k 0) (6 + k) 0) (48 + k) 0) (54 + k) 0) (60 + k) 0
def S_bg (g : Row) (o : Nat) : Row := upd g (60 + o) (g (60 + o) + (if g o = 2 then 1 else 0))
def S_bk (g : Row) (k o : Nat) : Row := upd (S_bg g o) (6 + o) (S_bg g o (6 + o) &&& ((1 <<< (nI k &&& 31)) ^^^ (-1)))
def S_bleft (h : Row) (o : Nat) : Int32 := if h (54 + o) ≤ h 70 then 0 else h (54 + o) - h 70
def S_bdue (h : Row) (o : Nat) (was : Int32) : Row := upd h (54 + o) (h 70 + S_bleft h o * (was - 1) / was)
def S_bbeg (h : Row) (o : Nat) (was ck : Int32) : Row := upd h (48 + o) (ck - (ck - h (48 + o)) * (was - 1) / was)
def S_byeStep (k o : Nat) (g : Row) : Row := if S_reaches g k o then (if S_has (S_bg g o (6 + o)) (nI k) then (if S_bk g k o o = 1 then S_bbeg (S_bdue (S_bk g k o) o (S_count (S_bg g o) o)) o (S_count (S_bg g o) o) (S_bk g k o 70) else S_bk g k o) else S_bk g k o) else g
theorem S_byeStep_a {k o : Nat} {g : Row} (h1 : S_reaches g k o = false) : S_byeStep k o g = g := by unfold S_byeStep; rw [h1]; exact if_neg (by decide)
theorem S_byeStep_b {k o : Nat} {g : Row} (h1 : S_reaches g k o = true) (h2 : S_has (S_bg g o (6 + o)) (nI k) = false) : S_byeStep k o g = S_bk g k o := by unfold S_byeStep; rw [if_pos h1, h2]; exact if_neg (by decide)
theorem S_byeStep_c {k o : Nat} {g : Row} (h1 : S_reaches g k o = true) (h2 : S_has (S_bg g o (6 + o)) (nI k) = true) (h3 : ¬ S_bk g k o o = 1) : S_byeStep k o g = S_bk g k o := by unfold S_byeStep; rw [if_pos h1, if_pos h2, if_neg h3]
theorem S_byeStep_d {k o : Nat} {g : Row} (h1 : S_reaches g k o = true) (h2 : S_has (S_bg g o (6 + o)) (nI k) = true) (h3 : S_bk g k o o = 1) : S_byeStep k o g = S_bbeg (S_bdue (S_bk g k o) o (S_count (S_bg g o) o)) o (S_count (S_bg g o) o) (S_bk g k o 70) := by unfold S_byeStep; rw [if_pos h1, if_pos h2, if_pos h3]
def S_bye0 (f : Row) (k : Nat) : Row := S_goAway (upd f 72 (f 72 + 1)) k
def S_bye (f : Row) (k : Nat) : Row := it (S_byeStep k) 6 (S_bye0 f k)
def S_joins0 (f : Row) (k : Nat) : Row := upd (upd (upd (upd f k 1) (6 + k) 0) (60 + k) 0) (48 + k) ((upd (upd (upd f k 1) (6 + k) 0) (60 + k) 0) 70)
def S_joins (f : Row) (k : Nat) : Row := upd (S_draw (S_joins0 f k)) (54 + k) (S_joins0 f k 70 + S_waitV (S_joins0 f k) 1)
def S_leaves0 (f : Row) (k : Nat) : Row := upd (upd (upd f k 2) (60 + k) 1) (48 + k) ((upd (upd f k 2) (60 + k) 1) 70)
def S_leaves1 (f : Row) (k : Nat) : Row := upd (S_draw (S_leaves0 f k)) (54 + k) (S_leaves0 f k 70 + S_waitV (S_leaves0 f k) 1)
def S_leaves (f : Row) (k : Nat) : Row := if 3 < S_count f k then S_leaves1 f k else S_bye f k
def S_lw (f : Row) (k : Nat) : Int32 := if f k = 1 then S_waitV f (S_count f k) else S_waitV f (f (60 + k))
def S_lrep (f : Row) (k : Nat) : Row := upd (S_report f k) (48 + k) (S_report f k 70)
def S_look (f : Row) (k : Nat) : Row :=
  if S_draw f (48 + k) + S_lw f k ≤ S_draw f 70 then
    (if f k = 1 then upd (S_draw (S_lrep (S_draw f) k)) (54 + k) (S_lrep (S_draw f) k 70 + S_waitV (S_lrep (S_draw f) k) (S_count (S_lrep (S_draw f) k) k)) else S_bye (S_draw f) k)
  else upd (S_draw f) (54 + k) (S_draw f (48 + k) + S_lw f k)
def S_old (g : Row) (k o : Nat) (most : Int32) : Bool := if S_has (g (6 + k)) (nI o) then (if g 70 - g (12 + 6 * k + o) ≤ most then false else true) else false
def S_forStep (k : Nat) (most : Int32) (o : Nat) (g : Row) : Row := upd g (6 + k) (g (6 + k) &&& (if S_old g k o most then (1 <<< (nI o &&& 31)) ^^^ (-1) else -1))
def S_most (f : Row) (k : Nat) : Int32 := 5 * S_span f (S_count f k)
def S_forget (f : Row) (k : Nat) : Row := it (S_forStep k (S_most f k)) 6 f
def S_tick0 (f : Row) : Row := upd f 70 (f 70 + 1)
def S_dueStep (k : Nat) (g : Row) : Row := if g k = 0 then g else if g 70 < g (54 + k) then g else S_look g k
def S_fgStep (k : Nat) (g : Row) : Row := if g k = 1 then S_forget g k else g
def S_tick1 (f : Row) : Row := it S_dueStep 6 (S_tick0 f)
def S_tick (f : Row) : Row := it S_fgStep 6 (S_tick1 f)
def S_ticks (f : Row) (n : Nat) : Row := it (fun _ g => S_tick g) n f
theorem S_ticks_s (f : Row) (n : Nat) : S_ticks f (n + 1) = S_tick (S_ticks f n) := by unfold S_ticks; rw [it_s]
def S_pass (f : Row) (n : Nat) : Int32 := S_letters (S_ticks f n) - S_letters f
def S_thoseStep (f : Row) (what : Int32) (k : Nat) (x : Int32) : Int32 := x ||| (if f k = what then 1 <<< (nI k &&& 31) else 0)
def S_those (f : Row) (what : Int32) : Int32 := it (S_thoseStep f what) 6 0
/-! a divisor that is not 0 stays so -/
def Z67 (f : Row) : Prop := 1 ≤ f 67
theorem Z67.ne {f : Row} (h : Z67 f) : ¬ f 67 = 0 := fun q => by unfold Z67 at h; rw [q] at h; exact absurd h (by decide)
theorem Z_upd {f : Row} {j : Nat} {x : Int32} (h : Z67 f) (hj : ¬ j = 67) : Z67 (upd f j x) := by
  unfold Z67 at *
  rw [pk_un (fun q => hj q.symm)]
  exact h
theorem Z_draw {f : Row} (h : Z67 f) : Z67 (S_draw f) := Z_upd h (by decide)
theorem Z_goAway {f : Row} {k : Nat} (h : Z67 f) (hk : k < 6) : Z67 (S_goAway f k) := Z_upd (Z_upd (Z_upd (Z_upd (Z_upd h (by omega)) (by omega)) (by omega)) (by omega)) (by omega)
theorem Z_repStep {k o : Nat} {g : Row} (h : Z67 g) (hk : k < 6) (ho : o < 6) : Z67 (S_repStep k o g) := by
  unfold S_repStep
  split
  · exact Z_upd (Z_upd h (by omega)) (by omega)
  · exact h
theorem Z_report {f : Row} {k : Nat} (h : Z67 f) (hk : k < 6) : Z67 (S_report f k) := it_ind (P := Z67) (Z_upd h (by decide)) (fun i x hi hx => Z_repStep hx hk hi) 6 (Nat.le_refl 6)
theorem Z_byeStep {k o : Nat} {g : Row} (h : Z67 g) (ho : o < 6) : Z67 (S_byeStep k o g) := by
  have hk : Z67 (S_bk g k o) := Z_upd (Z_upd h (by omega)) (by omega)
  unfold S_byeStep
  split
  · split
    · split
      · exact Z_upd (Z_upd hk (by omega)) (by omega)
      · exact hk
    · exact hk
  · exact h
theorem Z_bye0 {f : Row} {k : Nat} (h : Z67 f) (hk : k < 6) : Z67 (S_bye0 f k) := Z_goAway (Z_upd h (by decide)) hk
theorem Z_bye {f : Row} {k : Nat} (h : Z67 f) (hk : k < 6) : Z67 (S_bye f k) := it_ind (P := Z67) (Z_bye0 h hk) (fun i x hi hx => Z_byeStep hx hi) 6 (Nat.le_refl 6)
theorem Z_joins0 {f : Row} {k : Nat} (h : Z67 f) (hk : k < 6) : Z67 (S_joins0 f k) := Z_upd (Z_upd (Z_upd (Z_upd h (by omega)) (by omega)) (by omega)) (by omega)
theorem Z_joins {f : Row} {k : Nat} (h : Z67 f) (hk : k < 6) : Z67 (S_joins f k) := Z_upd (Z_draw (Z_joins0 h hk)) (by omega)
theorem Z_leaves0 {f : Row} {k : Nat} (h : Z67 f) (hk : k < 6) : Z67 (S_leaves0 f k) := Z_upd (Z_upd (Z_upd h (by omega)) (by omega)) (by omega)
theorem Z_leaves {f : Row} {k : Nat} (h : Z67 f) (hk : k < 6) : Z67 (S_leaves f k) := by
  unfold S_leaves
  split
  · exact Z_upd (Z_draw (Z_leaves0 h hk)) (by omega)
  · exact Z_bye h hk
theorem Z_lrep {f : Row} {k : Nat} (h : Z67 f) (hk : k < 6) : Z67 (S_lrep f k) := Z_upd (Z_report h hk) (by omega)
theorem Z_look {f : Row} {k : Nat} (h : Z67 f) (hk : k < 6) : Z67 (S_look f k) := by
  unfold S_look
  split
  · split
    · exact Z_upd (Z_draw (Z_lrep (Z_draw h) hk)) (by omega)
    · exact Z_bye (Z_draw h) hk
  · exact Z_upd (Z_draw h) (by omega)
theorem Z_forStep {k o : Nat} {most : Int32} {g : Row} (h : Z67 g) (hk : k < 6) : Z67 (S_forStep k most o g) := Z_upd h (by omega)
theorem Z_forget {f : Row} {k : Nat} (h : Z67 f) (hk : k < 6) : Z67 (S_forget f k) := it_ind (P := Z67) h (fun i x hi hx => Z_forStep hx hk) 6 (Nat.le_refl 6)
theorem Z_dueStep {k : Nat} {g : Row} (h : Z67 g) (hk : k < 6) : Z67 (S_dueStep k g) := by
  unfold S_dueStep
  split
  · exact h
  · split
    · exact h
    · exact Z_look h hk
theorem Z_fgStep {k : Nat} {g : Row} (h : Z67 g) (hk : k < 6) : Z67 (S_fgStep k g) := by
  unfold S_fgStep
  split
  · exact Z_forget h hk
  · exact h
theorem Z_tick0 {f : Row} (h : Z67 f) : Z67 (S_tick0 f) := Z_upd h (by decide)
theorem Z_dues {f : Row} (h : Z67 f) (n : Nat) (hn : n ≤ 6) : Z67 (it S_dueStep n (S_tick0 f)) := it_ind (P := Z67) (Z_tick0 h) (fun i x hi hx => Z_dueStep hx hi) n hn
theorem Z_tick1 {f : Row} (h : Z67 f) : Z67 (S_tick1 f) := Z_dues h 6 (Nat.le_refl 6)
theorem Z_fgs {f : Row} (h : Z67 f) (n : Nat) (hn : n ≤ 6) : Z67 (it S_fgStep n (S_tick1 f)) := it_ind (P := Z67) (Z_tick1 h) (fun i x hi hx => Z_fgStep hx hi) n hn
theorem Z_tick {f : Row} (h : Z67 f) : Z67 (S_tick f) := Z_fgs h 6 (Nat.le_refl 6)
theorem Z_ticks {f : Row} (h : Z67 f) (n : Nat) : Z67 (S_ticks f n) := it_ind (P := Z67) (N := n) h (fun i x hi hx => Z_tick hx) n (Nat.le_refl n)
theorem Z_byes {f : Row} {k : Nat} (h : Z67 f) (hk : k < 6) (n : Nat) (hn : n ≤ 6) : Z67 (it (S_byeStep k) n (S_bye0 f k)) := it_ind (P := Z67) (Z_bye0 h hk) (fun i x hi hx => Z_byeStep hx hi) n hn
theorem S_reaches_o {f : Row} {k o : Nat} (h : S_reaches f k o = true) : ¬ f o = 0 := by
  intro q
  unfold S_reaches at h
  rw [if_pos q] at h
  split at h <;> cases h
theorem and1 (x : Int32) : x &&& 1 = 0 ∨ x &&& 1 = 1 := by
  obtain ⟨j, hj, e⟩ := pk_andE x (m := 1) 1 (by decide)
  have h2 : j = 0 ∨ j = 1 := by omega
  rcases h2 with rfl | rfl
  · exact Or.inl e
  · exact Or.inr e
theorem S_ones_n (set : Int32) : ∀ n, ∃ j : Nat, j ≤ n ∧ it (S_onesStep set) n 0 = nI j
  | 0 => ⟨0, Nat.le_refl 0, rfl⟩
  | n + 1 => by
    obtain ⟨j, hj, e⟩ := S_ones_n set n
    rw [it_s, e]
    unfold S_onesStep
    rcases and1 (set >>> (nI n &&& 31)) with h | h
    · rw [h]; exact ⟨j, by omega, by rw [show (0 : Int32) = nI 0 from rfl, nI_add]; rfl⟩
    · rw [h]; exact ⟨j + 1, by omega, by rw [show (1 : Int32) = nI 1 from rfl, nI_add]⟩
theorem S_count_ne {f : Row} {k : Nat} (h : ¬ f k = 0) : ¬ S_count f k = 0 := by
  unfold S_count
  rw [if_neg h]
  obtain ⟨j, hj, e⟩ := S_ones_n (f (6 + k)) 6
  unfold S_ones
  rw [e, show (1 : Int32) = nI 1 from rfl, nI_add]
  exact nI_ne0 (by omega) (by omega)
theorem S_bg_o {g : Row} {o : Nat} (ho : o < 6) : S_bg g o o = g o := pk_un (by omega)
theorem S_bye_nz {g : Row} {k o : Nat} (h : S_reaches g k o = true) (ho : o < 6) : ¬ S_count (S_bg g o) o = 0 := S_count_ne (by rw [S_bg_o ho]; exact S_reaches_o h)
/-! a switch's number: one of its rows, or outside -/
theorem tb_cases (x : Int32) (lo : Int) (N : Nat) (h : -2147483648 ≤ lo ∧ lo + N ≤ 2147483647) : (x.toInt < lo ∨ lo + N ≤ x.toInt) ∨ ∃ n : Nat, n < N ∧ x.toInt = lo + n := by
  by_cases q : x.toInt < lo
  · exact Or.inl (Or.inl q)
  · by_cases q2 : x.toInt < lo + N
    · exact Or.inr ⟨(x.toInt - lo).toNat, by omega, by omega⟩
    · exact Or.inl (Or.inr (by omega))
