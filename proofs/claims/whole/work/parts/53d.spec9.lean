/-! past and slots: Crowds in a row -/
def zl (F : Nat → va_W) : Nat → va_W
  | 0 => []
  | n + 1 => zl F n ++ F n
def ZW (cI : ClassId) (pb : Nat → Nat → Nat) (pr : Nat → Row) (qb : Nat → Nat → Nat) (qr : Nat → Row) : va_W := zl (fun i => CR cI (pb i) (pr i)) 14 ++ zl (fun i => CR cI (qb i) (qr i)) 2
def updR (pr : Nat → Row) (k : Nat) (f : Row) : Nat → Row := fun j => if j = k then f else pr j
theorem updR_s {pr : Nat → Row} {k : Nat} {f : Row} : updR pr k f k = f := if_pos rfl
theorem updR_n {pr : Nat → Row} {k j : Nat} {f : Row} (h : ¬ j = k) : updR pr k f j = pr j := if_neg h
theorem zl_cong {F F' : Nat → va_W} : ∀ n, (∀ j, j < n → F j = F' j) → zl F n = zl F' n
  | 0, _ => rfl
  | n + 1, h => by
    show zl F n ++ F n = zl F' n ++ F' n
    rw [zl_cong n (fun j hj => h j (by omega)), h n (by omega)]
theorem zl_split {m : Nat} : ∀ n, m < n → ∃ A B : (Nat → va_W) → va_W, (∀ F, zl F n = A F ++ (F m ++ B F)) ∧ ∀ F F', (∀ j, ¬ j = m → F j = F' j) → A F = A F' ∧ B F = B F'
  | 0, h => absurd h (by omega)
  | n + 1, h => by
    by_cases e : m = n
    · subst e
      refine ⟨fun F => zl F m, fun _ => [], fun F => ?_, fun F F' hF => ⟨zl_cong m (fun j hj => hF j (by omega)), rfl⟩⟩
      show zl F m ++ F m = zl F m ++ (F m ++ [])
      rw [List.append_nil]
    · obtain ⟨A, B, h1, h2⟩ := zl_split (m := m) n (by omega)
      refine ⟨A, fun F => B F ++ F n, fun F => ?_, fun F F' hF => ⟨(h2 F F' hF).1, ?_⟩⟩
      · show zl F n ++ F n = A F ++ (F m ++ (B F ++ F n))
        rw [h1, List.append_assoc, List.append_assoc]
      · show B F ++ F n = B F' ++ F' n
        rw [(h2 F F' hF).2, hF n (fun q => e q.symm)]
theorem p_mid {α : Type} {u v z : List α} : (u ++ (v ++ z)).Perm (v ++ (u ++ z)) := by
  rw [← List.append_assoc, ← List.append_assoc]
  exact (List.perm_append_comm).append_right z
theorem p_one {α : Type} {a b c d e g h : List α} : (a ++ (b ++ (c ++ ((d ++ (e ++ g)) ++ h)))).Perm ((a ++ (c ++ (d ++ (g ++ h)))) ++ (e ++ b)) := by
  simp only [List.append_assoc]
  refine List.Perm.append_left a ?_
  refine (List.perm_append_comm (l₁ := b)).trans ?_
  simp only [List.append_assoc]
  refine List.Perm.append_left c (List.Perm.append_left d ?_)
  exact p_mid.trans (List.Perm.append_left g p_mid)
theorem p_two {α : Type} {a b c d e g h : List α} : (a ++ (b ++ (c ++ (h ++ (d ++ (e ++ g)))))).Perm ((a ++ (c ++ (h ++ (d ++ g)))) ++ (e ++ b)) := by
  simp only [List.append_assoc]
  refine List.Perm.append_left a ?_
  refine (List.perm_append_comm (l₁ := b)).trans ?_
  simp only [List.append_assoc]
  refine List.Perm.append_left c (List.Perm.append_left h (List.Perm.append_left d ?_))
  exact p_mid
theorem p_sw {α : Type} {a b c : List α} : (a ++ (b ++ c)).Perm (a ++ (c ++ b)) := List.Perm.append_left a List.perm_append_comm
theorem zw_past {cI : ClassId} {pb qb : Nat → Nat → Nat} {pr qr : Nat → Row} {k : Nat} (hk : k < 14) (a b c : va_W) : ∃ w1, (a ++ (b ++ (c ++ ZW cI pb pr qb qr))).Perm (w1 ++ (CR cI (pb k) (pr k) ++ b)) ∧ (∀ b', (a ++ (b' ++ (c ++ ZW cI pb pr qb qr))).Perm (w1 ++ (CR cI (pb k) (pr k) ++ b'))) ∧ ∀ f, (w1 ++ (CR cI (pb k) f ++ b)).Perm (a ++ (b ++ (c ++ ZW cI pb (updR pr k f) qb qr))) := by
  obtain ⟨A, B, h1, h2⟩ := zl_split (m := k) 14 hk
  have key : ∀ b', (a ++ (b' ++ (c ++ ZW cI pb pr qb qr))).Perm ((a ++ (c ++ (A (fun i => CR cI (pb i) (pr i)) ++ (B (fun i => CR cI (pb i) (pr i)) ++ zl (fun i => CR cI (qb i) (qr i)) 2)))) ++ (CR cI (pb k) (pr k) ++ b')) := fun b' => by
    unfold ZW
    rw [h1]
    exact p_one
  refine ⟨a ++ (c ++ (A (fun i => CR cI (pb i) (pr i)) ++ (B (fun i => CR cI (pb i) (pr i)) ++ zl (fun i => CR cI (qb i) (qr i)) 2))), key b, key, fun f => ?_⟩
  have e := h2 (fun i => CR cI (pb i) (updR pr k f i)) (fun i => CR cI (pb i) (pr i)) (fun j hj => by show CR cI (pb j) (updR pr k f j) = _; rw [updR_n hj])
  unfold ZW
  rw [h1 (fun i => CR cI (pb i) (updR pr k f i)), e.1, e.2, updR_s]
  exact p_one.symm
theorem zw_slot {cI : ClassId} {pb qb : Nat → Nat → Nat} {pr qr : Nat → Row} {k : Nat} (hk : k < 2) (a b c : va_W) : ∃ w1, (a ++ (b ++ (c ++ ZW cI pb pr qb qr))).Perm (w1 ++ (CR cI (qb k) (qr k) ++ b)) ∧ (∀ b', (a ++ (b' ++ (c ++ ZW cI pb pr qb qr))).Perm (w1 ++ (CR cI (qb k) (qr k) ++ b'))) ∧ ∀ f, (w1 ++ (CR cI (qb k) f ++ b)).Perm (a ++ (b ++ (c ++ ZW cI pb pr qb (updR qr k f)))) := by
  obtain ⟨A, B, h1, h2⟩ := zl_split (m := k) 2 hk
  have key : ∀ b', (a ++ (b' ++ (c ++ ZW cI pb pr qb qr))).Perm ((a ++ (c ++ (zl (fun i => CR cI (pb i) (pr i)) 14 ++ (A (fun i => CR cI (qb i) (qr i)) ++ B (fun i => CR cI (qb i) (qr i)))))) ++ (CR cI (qb k) (qr k) ++ b')) := fun b' => by
    unfold ZW
    rw [h1]
    exact p_two
  refine ⟨a ++ (c ++ (zl (fun i => CR cI (pb i) (pr i)) 14 ++ (A (fun i => CR cI (qb i) (qr i)) ++ B (fun i => CR cI (qb i) (qr i))))), key b, key, fun f => ?_⟩
  have e := h2 (fun i => CR cI (qb i) (updR qr k f i)) (fun i => CR cI (qb i) (qr i)) (fun j hj => by show CR cI (qb j) (updR qr k f j) = _; rw [updR_n hj])
  unfold ZW
  rw [h1 (fun i => CR cI (qb i) (updR qr k f i)), e.1, e.2, updR_s]
  exact p_two.symm
theorem zw_mem {cI : ClassId} {pb qb : Nat → Nat → Nat} {pr qr : Nat → Row} {k : Nat} (hk : k < 14) (a b c : va_W) : ∃ vs, ((pb k 0, .inr (0, vs)) : Nat × va_E) ∈ a ++ (b ++ (c ++ ZW cI pb pr qb qr)) := by
  obtain ⟨w1, h1, -⟩ := zw_past (cI := cI) (pb := pb) (qb := qb) (pr := pr) (qr := qr) hk a b c
  have h : ∃ vs, ((pb k 0, .inr (0, vs)) : Nat × va_E) ∈ CR cI (pb k) (pr k) := ⟨_, List.mem_cons_self⟩
  obtain ⟨vs, h⟩ := h
  exact ⟨vs, h1.mem_iff.mpr (List.mem_append_right _ (List.mem_append_left _ h))⟩
theorem zl_map {F F' : Nat → va_W} (h : ∀ j, (F j).map (fun q => q.1) = (F' j).map (fun q => q.1)) : ∀ n, (zl F n).map (fun q => q.1) = (zl F' n).map (fun q => q.1)
  | 0 => rfl
  | n + 1 => by
    show (zl F n ++ F n).map (fun q => q.1) = (zl F' n ++ F' n).map (fun q => q.1)
    rw [List.map_append, List.map_append, zl_map h n, h n]
theorem zw_same {cI : ClassId} {pb qb : Nat → Nat → Nat} {pr qr pr' qr' : Nat → Row} : (ZW cI pb pr' qb qr').map (fun q => q.1) = (ZW cI pb pr qb qr).map (fun q => q.1) := by
  unfold ZW
  rw [List.map_append, List.map_append, zl_map (F' := fun i => CR cI (pb i) (pr i)) (fun j => CR_same) 14, zl_map (F' := fun i => CR cI (qb i) (qr i)) (fun j => CR_same) 2]
theorem XZ_same {cI cQ : ClassId} {x bn bt : Nat → Nat} {pa sl pa' sl' : Nat → Option Nat} {ac ac' : Nat} {kb kb' : Int32} {tx tx' : Row} {ln ln' : Nat} {s1 s2 s1' s2' : Row} {se se' : Nat} {sd sd' : Int64} {sb sb' f g f' g' : Row} {pb qb : Nat → Nat → Nat} {pr qr pr' qr' : Nat → Row} : (XW cI cQ x bn bt pa' sl' ac' kb' tx' ln' s1' s2' se' sd' sb' f' g' (ZW cI pb pr' qb qr')).map (fun q => q.1) = (XW cI cQ x bn bt pa sl ac kb tx ln s1 s2 se sd sb f g (ZW cI pb pr qb qr)).map (fun q => q.1) := by
  unfold XW
  rw [List.map_append, List.map_append, List.map_append, List.map_append, List.map_append, List.map_append, zw_same (pr := pr) (qr := qr), CR_same (f := f) (g := f'), CR_same (f := g) (g := g')]
  rfl
def rotN (pa : Nat → Option Nat) (t : Nat) : Nat → Option Nat := fun j => if j < t then pa (j + 1) else pa j
def rotF (pa : Nat → Option Nat) : Nat → Option Nat := fun j => if j < 13 then pa (j + 1) else if j = 13 then pa 0 else pa j
theorem rotN_0 {pa : Nat → Option Nat} : rotN pa 0 = pa := by
  funext j
  unfold rotN
  rw [if_neg (by omega)]
theorem rotN_ge {pa : Nat → Option Nat} {t j : Nat} (h : t ≤ j) : rotN pa t j = pa j := by unfold rotN; rw [if_neg (by omega)]
theorem rot_s {pa : Nat → Option Nat} {t v : Nat} (h : pa (t + 1) = some v) : va_up (rotN pa t) t (some v) = rotN pa (t + 1) := by
  funext j
  unfold va_up rotN
  by_cases e : j = t
  · subst e; rw [if_pos rfl, if_pos (by omega), h]
  · rw [if_neg e]
    by_cases q : j < t
    · rw [if_pos q, if_pos (by omega)]
    · rw [if_neg q, if_neg (by omega)]
theorem rot_f {pa : Nat → Option Nat} {v : Nat} (h : pa 0 = some v) : va_up (rotN pa 13) 13 (some v) = rotF pa := by
  funext j
  unfold va_up rotN rotF
  by_cases e : j = 13
  · subst e; rw [if_pos rfl, if_neg (by omega), if_pos rfl, h]
  · rw [if_neg e]
    by_cases q : j < 13
    · rw [if_pos q, if_pos q]
    · rw [if_neg q, if_neg q, if_neg e]
theorem rotF_13 {pa : Nat → Option Nat} : rotF pa 13 = pa 0 := rfl
def S_rpa (pa : Nat → Option Nat) (ac : Nat) : Nat → Option Nat := if ac < 14 then pa else rotF pa
def S_rk (ix : Nat → Nat) (ac : Nat) : Nat := if ac < 14 then ix ac else ix 0
section GO4
variable {p : Program} {l : Launch} {e : Env} {R : Room} {s : State} {m : MethodId} {args : Array Value} {below : List Frame} {meth : Method} {c : Code} {Q : State → Prop} {D : va_G} {A : Nat → Prop} {nL : Nat} {Ts : List Cond} {own : String} {cc : ByteArray} {cells slots : Nat} {w : va_W} {pc : Nat} {lv lv' : List (Nat × Value)} {st : List Value} {cI cZ cQ : ClassId}
theorem g_tf (F : gFx p m c cc nL s args Ts own D (gTy cI cZ cQ) A) {ix n : Nat} {bd bs : Nat → Nat} {fd fs : Row} {rm : Room} {st0 : List Value} {w1 : va_W} (w2 : va_W) (hM : Ct l D (gTy cI cZ cQ) yX0_takeFrom wsX0_takeFrom rm [.ref (bd 0), .ref (bs 0)] (CR cI bd fd ++ CR cI bs fs) none (CR cI bd fs ++ CR cI bs fs)) (hp : w.Perm (w1 ++ (CR cI bd fd ++ CR cI bs fs))) (hp2 : (w1 ++ (CR cI bd fs ++ CR cI bs fs)).Perm w2) (cw : CallW R s args own RX0 ix yX0_takeFrom cX0_takeFrom 2 none wsX0_takeFrom rm 0 0 1) (hst : st0 = .ref (bs 0) :: .ref (bd 0) :: st) (hroom : (st.map fun v => v.category).sum ≤ 8) (hf : cells ≤ R.cells ∧ slots ≤ R.slots) (d : decode cc pc = .ok (.invokevirtual ix, 3)) (k : Go p l e R s m args below meth c Q D A nL cells slots w2 (pc + 3) lv st) : Go p l e R s m args below meth c Q D A nL cells slots w pc lv st0 := by
  refine g_perm hp (g_segV F (As := [.ref (bs 0)]) w1 [] _ hM 0 rfl (rc := (RX0, TX0, 14)) rfl cw rfl hst ?_ rfl hroom hf d (g_perm ?_ k))
  · rw [List.append_nil]
  · rw [List.append_nil]; exact hp2
theorem g_as2r {v : Nat} {x : Int32} (y : Int32) (h : x = y) (k : Go p l e R s m args below meth c Q D A nL cells slots w pc lv (.ref v :: .int y :: st)) : Go p l e R s m args below meth c Q D A nL cells slots w pc lv (.ref v :: .int x :: st) := by subst h; exact k
end GO4
