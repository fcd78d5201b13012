/-! class row and reference row: the same but for what was HEARD of those that are not known -/
def Eqv (f g : Row) : Prop := (∀ j, j < 12 ∨ (48 ≤ j ∧ j < 79) → f j = g j) ∧ ∀ k o, k < 6 → o < 6 → S_has (f (6 + k)) (nI o) = true → f (12 + 6 * k + o) = g (12 + 6 * k + o)
def EK (f g : Row) : Prop := Eqv f g ∧ Kn f
theorem EK.lo {f g : Row} {j : Nat} (h : EK f g) (hj : j < 12 ∨ (48 ≤ j ∧ j < 79)) : f j = g j := h.1.1 j hj
theorem it_rel {α : Type} {P : α → α → Prop} {b : Nat → α → α} {N : Nat} {a a' : α} (h0 : P a a') (hs : ∀ i x x', i < N → P x x' → P (b i x) (b i x')) : ∀ n, n ≤ N → P (it b n a) (it b n a')
  | 0, _ => h0
  | n + 1, h => hs n _ _ (by omega) (it_rel h0 hs n (by omega))
theorem Eqv_upd {f g : Row} {j : Nat} {x : Int32} (h : Eqv f g) (hj : j < 6 ∨ 12 ≤ j) : Eqv (upd f j x) (upd g j x) := by
  refine ⟨fun i hi => ?_, fun k o hk ho hs => ?_⟩
  · by_cases e : i = j
    · subst e; rw [pk_us, pk_us]
    · rw [pk_un e, pk_un e]; exact h.1 i hi
  · rw [pk_un (by omega)] at hs
    by_cases e : 12 + 6 * k + o = j
    · rw [e, pk_us, pk_us]
    · rw [pk_un e, pk_un e]; exact h.2 k o hk ho hs
theorem EK_upd {f g : Row} {j : Nat} {x y : Int32} (h : EK f g) (hj : j < 6 ∨ 12 ≤ j) (e : x = y) : EK (upd f j x) (upd g j y) := by
  subst e
  exact ⟨Eqv_upd h.1 hj, Kn_upd h.2 hj⟩
theorem EK_kn {f g : Row} {k : Nat} {x y : Int32} (h : EK f g) (e : x = y) (hk : k < 6) (h1 : ∃ v : Nat, v < 64 ∧ x = nI v) (h2 : ∀ o, o < 6 → S_has x (nI o) = true → S_has (f (6 + k)) (nI o) = true) : EK (upd f (6 + k) x) (upd g (6 + k) y) := by
  subst e
  refine ⟨⟨fun i hi => ?_, fun k' o hk' ho hs => ?_⟩, Kn_set h.2 h1⟩
  · by_cases e : i = 6 + k
    · subst e; rw [pk_us, pk_us]
    · rw [pk_un e, pk_un e]; exact h.lo hi
  · rw [pk_un (by omega), pk_un (by omega)]
    by_cases e : k' = k
    · subst e
      rw [pk_us] at hs
      exact h.1.2 k' o hk' ho (h2 o ho hs)
    · rw [pk_un (by omega)] at hs
      exact h.1.2 k' o hk' ho hs
theorem EK_kn0 {f g : Row} {k : Nat} (h : EK f g) (hk : k < 6) : EK (upd f (6 + k) 0) (upd g (6 + k) 0) := EK_kn h rfl hk ⟨0, by decide, rfl⟩ (fun o ho hs => absurd hs (by rw [(by decide : ∀ k, k < 6 → S_has 0 (nI k) = false) o ho]; decide))
theorem EK_mask {f g : Row} {k j : Nat} (h : EK f g) (hk : k < 6) (hj : j < 6) : EK (upd f (6 + k) (f (6 + k) &&& ((1 <<< (nI j &&& 31)) ^^^ (-1)))) (upd g (6 + k) (g (6 + k) &&& ((1 <<< (nI j &&& 31)) ^^^ (-1)))) := by
  obtain ⟨v, hv, ev⟩ := h.2 k hk
  refine EK_kn h (by rw [h.lo (by omega)]) hk (by rw [ev]; exact bit_and j hj v hv) (fun o ho hs => ?_)
  cases e : S_has (f (6 + k)) (nI o) with
  | true => rfl
  | false =>
    rw [ev] at e hs
    rw [bit_and_has j hj o ho v hv e] at hs
    cases hs
theorem EK_draw {f g : Row} (h : EK f g) : EK (S_draw f) (S_draw g) := EK_upd h (by omega) (by rw [h.lo (j := 69) (by omega)])
theorem e_count {f g : Row} {k : Nat} (h : EK f g) (hk : k < 6) : S_count f k = S_count g k := by
  unfold S_count
  rw [h.lo (j := k) (by omega), h.lo (j := 6 + k) (by omega)]
theorem e_span {f g : Row} {v : Int32} (h : EK f g) : S_span f v = S_span g v := by
  unfold S_span S_up
  rw [h.lo (j := 66) (by omega), h.lo (j := 67) (by omega), h.lo (j := 68) (by omega)]
theorem e_drawV {f g : Row} (h : EK f g) : S_drawV f = S_drawV g := by
  unfold S_drawV
  rw [(EK_draw h).lo (j := 69) (by omega)]
theorem e_wait {f g : Row} {v : Int32} (h : EK f g) : S_waitV f v = S_waitV g v := by
  unfold S_waitV S_wait0
  rw [e_span h, e_drawV h]
theorem e_reaches {f g : Row} {k o : Nat} (h : EK f g) (hk : k < 6) (ho : o < 6) : S_reaches f k o = S_reaches g k o := by
  unfold S_reaches
  rw [h.lo (j := o) (by omega), h.lo (j := 73 + k) (by omega)]
theorem EK_repStep {f g : Row} {k o : Nat} (h : EK f g) (hk : k < 6) (ho : o < 6) : EK (S_repStep k o f) (S_repStep k o g) := by
  unfold S_repStep
  rw [e_reaches h hk ho]
  split
  · obtain ⟨v, hv, ev⟩ := h.2 o ho
    have e1 : f (6 + o) = g (6 + o) := h.lo (by omega)
    have e70 : S_kn f k o 70 = S_kn g k o 70 := by
      unfold S_kn
      rw [pk_un (by omega), pk_un (by omega)]
      exact h.lo (by omega)
    have hK : Kn (S_kn f k o) := Kn_set h.2 (by rw [ev]; exact bit_or k hk v hv)
    refine ⟨⟨fun i hi => ?_, fun k' o' hk' ho' hs => ?_⟩, Kn_upd hK (by omega)⟩
    · rw [pk_un (by omega), pk_un (by omega)]
      unfold S_kn
      by_cases e : i = 6 + o
      · subst e; rw [pk_us, pk_us, e1]
      · rw [pk_un e, pk_un e]; exact h.lo hi
    · rw [e70]
      by_cases e : 12 + 6 * k' + o' = 12 + 6 * o + k
      · rw [e, pk_us, pk_us]
      · rw [pk_un e, pk_un e]
        rw [pk_un (by omega)] at hs
        unfold S_kn at hs ⊢
        rw [pk_un (by omega), pk_un (by omega)]
        by_cases q : k' = o
        · subst q
          rw [pk_us] at hs
          have hne : ¬ o' = k := fun z => e (by rw [z])
          refine h.1.2 k' o' hk' ho' ?_
          cases z : S_has (f (6 + k')) (nI o') with
          | true => rfl
          | false =>
            rw [ev] at z hs
            rw [bit_or_has k hk o' ho' hne v hv z] at hs
            cases hs
        · rw [pk_un (by omega)] at hs
          exact h.1.2 k' o' hk' ho' hs
  · exact h
theorem EK_report {f g : Row} {k : Nat} (h : EK f g) (hk : k < 6) : EK (S_report f k) (S_report g k) := by
  unfold S_report S_rep0
  exact it_rel (P := EK) (b := S_repStep k) (N := 6) (EK_upd h (by omega) (by rw [h.lo (j := 71) (by omega)])) (fun i x x' hi hx => EK_repStep hx hk hi) 6 (Nat.le_refl 6)
theorem EK_goAway {f g : Row} {k : Nat} (h : EK f g) (hk : k < 6) : EK (S_goAway f k) (S_goAway g k) := by
  unfold S_goAway
  exact EK_upd (EK_upd (EK_upd (EK_kn0 (EK_upd h (by omega) rfl) hk) (by omega) rfl) (by omega) rfl) (by omega) rfl
theorem EK_bye0 {f g : Row} {k : Nat} (h : EK f g) (hk : k < 6) : EK (S_bye0 f k) (S_bye0 g k) := by
  unfold S_bye0
  exact EK_goAway (EK_upd h (by omega) (by rw [h.lo (j := 72) (by omega)])) hk
theorem EK_bg {f g : Row} {o : Nat} (h : EK f g) (ho : o < 6) : EK (S_bg f o) (S_bg g o) := by
  unfold S_bg
  exact EK_upd h (by omega) (by rw [h.lo (j := 60 + o) (by omega), h.lo (j := o) (by omega)])
theorem EK_bk {f g : Row} {k o : Nat} (h : EK f g) (hk : k < 6) (ho : o < 6) : EK (S_bk f k o) (S_bk g k o) := by
  unfold S_bk
  exact EK_mask (EK_bg h ho) ho hk
theorem EK_byeStep {f g : Row} {k o : Nat} (h : EK f g) (hk : k < 6) (ho : o < 6) : EK (S_byeStep k o f) (S_byeStep k o g) := by
  have hb := EK_bg h ho
  have hB := EK_bk h hk ho
  unfold S_byeStep
  rw [e_reaches h hk ho, hb.lo (j := 6 + o) (by omega), hB.lo (j := o) (by omega), e_count hb ho]
  split
  · split
    · split
      · have hd : EK (S_bdue (S_bk f k o) o (S_count (S_bg g o) o)) (S_bdue (S_bk g k o) o (S_count (S_bg g o) o)) := by
          unfold S_bdue S_bleft
          exact EK_upd hB (by omega) (by rw [hB.lo (j := 70) (by omega), hB.lo (j := 54 + o) (by omega)])
        unfold S_bbeg
        exact EK_upd hd (by omega) (by rw [hd.lo (j := 48 + o) (by omega), hB.lo (j := 70) (by omega)])
      · exact hB
    · exact hB
  · exact h
theorem EK_bye {f g : Row} {k : Nat} (h : EK f g) (hk : k < 6) : EK (S_bye f k) (S_bye g k) := by
  unfold S_bye
  exact it_rel (P := EK) (b := S_byeStep k) (N := 6) (EK_bye0 h hk) (fun i x x' hi hx => EK_byeStep hx hk hi) 6 (Nat.le_refl 6)
theorem EK_joins0 {f g : Row} {k : Nat} (h : EK f g) (hk : k < 6) : EK (S_joins0 f k) (S_joins0 g k) := by
  have h1 : EK (upd (upd (upd f k 1) (6 + k) 0) (60 + k) 0) (upd (upd (upd g k 1) (6 + k) 0) (60 + k) 0) := EK_upd (EK_kn0 (EK_upd h (by omega) rfl) hk) (by omega) rfl
  unfold S_joins0
  exact EK_upd h1 (by omega) (h1.lo (by omega))
theorem EK_joins {f g : Row} {k : Nat} (h : EK f g) (hk : k < 6) : EK (S_joins f k) (S_joins g k) := by
  have h1 := EK_joins0 h hk
  unfold S_joins
  exact EK_upd (EK_draw h1) (by omega) (by rw [h1.lo (j := 70) (by omega), e_wait h1])
theorem EK_leaves0 {f g : Row} {k : Nat} (h : EK f g) (hk : k < 6) : EK (S_leaves0 f k) (S_leaves0 g k) := by
  have h1 : EK (upd (upd f k 2) (60 + k) 1) (upd (upd g k 2) (60 + k) 1) := EK_upd (EK_upd h (by omega) rfl) (by omega) rfl
  unfold S_leaves0
  exact EK_upd h1 (by omega) (h1.lo (by omega))
theorem EK_leaves {f g : Row} {k : Nat} (h : EK f g) (hk : k < 6) : EK (S_leaves f k) (S_leaves g k) := by
  have h1 := EK_leaves0 h hk
  unfold S_leaves
  rw [e_count h hk]
  split
  · unfold S_leaves1
    exact EK_upd (EK_draw h1) (by omega) (by rw [h1.lo (j := 70) (by omega), e_wait h1])
  · exact EK_bye h hk
theorem e_lw {f g : Row} {k : Nat} (h : EK f g) (hk : k < 6) : S_lw f k = S_lw g k := by
  unfold S_lw
  rw [h.lo (j := k) (by omega), e_wait h, e_wait h, e_count h hk, h.lo (j := 60 + k) (by omega)]
theorem EK_look {f g : Row} {k : Nat} (h : EK f g) (hk : k < 6) : EK (S_look f k) (S_look g k) := by
  have hd := EK_draw h
  have hr := EK_report hd hk
  have hl : EK (S_lrep (S_draw f) k) (S_lrep (S_draw g) k) := by
    unfold S_lrep
    exact EK_upd hr (by omega) (hr.lo (by omega))
  unfold S_look
  rw [hd.lo (j := 48 + k) (by omega), hd.lo (j := 70) (by omega), e_lw h hk, h.lo (j := k) (by omega)]
  split
  · split
    · exact EK_upd (EK_draw hl) (by omega) (by rw [hl.lo (j := 70) (by omega), e_wait hl, e_count hl hk])
    · exact EK_bye hd hk
  · exact EK_upd hd (by omega) rfl
theorem e_old {f g : Row} {k o : Nat} {m : Int32} (h : EK f g) (hk : k < 6) (ho : o < 6) : S_old f k o m = S_old g k o m := by
  unfold S_old
  rw [← h.lo (j := 6 + k) (by omega)]
  cases e : S_has (f (6 + k)) (nI o) with
  | false => rw [if_neg Bool.false_ne_true, if_neg Bool.false_ne_true]
  | true => rw [h.lo (j := 70) (by omega), h.1.2 k o hk ho e]
theorem EK_forStep {f g : Row} {k o : Nat} {m : Int32} (h : EK f g) (hk : k < 6) (ho : o < 6) : EK (S_forStep k m o f) (S_forStep k m o g) := by
  cases e : S_old f k o m with
  | false =>
    rw [S_fs_no e, S_fs_no (by rw [← e_old h hk ho]; exact e)]
    exact h
  | true =>
    rw [S_fs_yes e, S_fs_yes (by rw [← e_old h hk ho]; exact e)]
    exact EK_mask h hk ho
theorem EK_forget {f g : Row} {k : Nat} (h : EK f g) (hk : k < 6) : EK (S_forget f k) (S_forget g k) := by
  have e : S_most f k = S_most g k := by unfold S_most; rw [e_count h hk, e_span h]
  unfold S_forget
  rw [e]
  exact it_rel (P := EK) (b := S_forStep k (S_most g k)) (N := 6) h (fun i x x' hi hx => EK_forStep hx hk hi) 6 (Nat.le_refl 6)
theorem EK_dueStep {f g : Row} {k : Nat} (h : EK f g) (hk : k < 6) : EK (S_dueStep k f) (S_dueStep k g) := by
  unfold S_dueStep
  rw [h.lo (j := k) (by omega), h.lo (j := 70) (by omega), h.lo (j := 54 + k) (by omega)]
  split
  · exact h
  · split
    · exact h
    · exact EK_look h hk
theorem EK_fgStep {f g : Row} {k : Nat} (h : EK f g) (hk : k < 6) : EK (S_fgStep k f) (S_fgStep k g) := by
  unfold S_fgStep
  rw [h.lo (j := k) (by omega)]
  split
  · exact EK_forget h hk
  · exact h
theorem EK_tick {f g : Row} (h : EK f g) : EK (S_tick f) (S_tick g) := by
  unfold S_tick S_tick1 S_tick0
  exact it_rel (P := EK) (b := S_fgStep) (N := 6) (it_rel (P := EK) (b := S_dueStep) (N := 6) (EK_upd h (by omega) (by rw [h.lo (j := 70) (by omega)])) (fun i x x' hi hx => EK_dueStep hx hi) 6 (Nat.le_refl 6)) (fun i x x' hi hx => EK_fgStep hx hi) 6 (Nat.le_refl 6)
theorem EK_ticks {f g : Row} (h : EK f g) : ∀ n, EK (S_ticks f n) (S_ticks g n)
  | 0 => h
  | n + 1 => by rw [S_ticks_s, S_ticks_s]; exact EK_tick (EK_ticks h n)
theorem e_letters {f g : Row} (h : EK f g) : S_letters f = S_letters g := by
  unfold S_letters
  rw [h.lo (j := 71) (by omega), h.lo (j := 72) (by omega)]
theorem e_pass {f g : Row} (h : EK f g) (n : Nat) : S_pass f n = S_pass g n := by
  unfold S_pass
  rw [e_letters (EK_ticks h n), e_letters h]
theorem e_those {f g : Row} {v : Int32} (h : EK f g) : S_those f v = S_those g v := by
  unfold S_those
  have : ∀ n, n ≤ 6 → it (S_thoseStep f v) n 0 = it (S_thoseStep g v) n 0 := by
    intro n
    induction n with
    | zero => intro _; rfl
    | succ n ih =>
      intro hn
      rw [it_s, it_s, ih (by omega)]
      unfold S_thoseStep
      rw [h.lo (j := n) (by omega)]
  exact this 6 (Nat.le_refl 6)
theorem EK_67 {f g : Row} {x : Int32} (h : EK f g) : EK (upd f 67 x) (upd g 67 x) := EK_upd h (by omega) rfl
theorem EK_set {f g : Row} {j : Nat} {x : Int32} (h : EK f g) (hj : 66 ≤ j) : EK (upd f j x) (upd g j x) := EK_upd h (by omega) rfl
theorem EK_turn {f g : Row} {k o : Nat} (h : EK f g) (hk : k < 6) : EK (S_turn f k o) (S_turn g k o) := EK_upd h (by omega) (by rw [h.lo (j := 73 + k) (by omega)])
theorem EK_eod {f g : Row} {k : Nat} (h : EK f g) (hk : k < 6) : EK (S_eod f k) (S_eod g k) := by
  unfold S_eod
  rw [h.lo (j := k) (by omega)]
  split
  · exact EK_joins h hk
  · split
    · exact EK_leaves h hk
    · exact h
theorem EK_drT {f g : Row} {sd : Int64} (h : EK f g) : ∀ i, EK (S_drT f sd i) (S_drT g sd i)
  | 0 => h
  | i + 1 => by
    rw [S_drT_s, S_drT_s]
    refine EK_tick ?_
    unfold S_drE
    split
    · exact EK_eod (EK_drT h i) (Nat.mod_lt _ (by decide))
    · exact EK_drT h i
theorem EK_onlyStep {f g : Row} {k u : Nat} (h : EK f g) (hk : k < 6) (hu : u < 64) : EK (S_onlyStep (nI u) k f) (S_onlyStep (nI u) k g) := by
  obtain ⟨v, hv, ev⟩ := h.2 k hk
  have h1 : EK (upd f (6 + k) (f (6 + k) &&& nI u)) (upd g (6 + k) (g (6 + k) &&& nI u)) := by
    refine EK_kn h (by rw [h.lo (by omega)]) hk ⟨v &&& u, (and_nat v hv u hu).2.1, by rw [ev]; exact (and_nat v hv u hu).1⟩ (fun o ho hs => ?_)
    cases e : S_has (f (6 + k)) (nI o) with
    | true => rfl
    | false =>
      rw [ev] at e hs
      rw [bit_and6 o ho v hv u hu e] at hs
      cases hs
  unfold S_onlyStep
  split
  · exact h1
  · exact EK_goAway h1 hk
theorem EK_only {f g : Row} {u : Nat} (h : EK f g) (hu : u < 64) : EK (S_only f (nI u)) (S_only g (nI u)) := by
  unfold S_only
  exact it_rel (P := EK) (b := S_onlyStep (nI u)) (N := 6) h (fun i x x' hi hx => EK_onlyStep hx hi hu) 6 (Nat.le_refl 6)
