section GO2
variable {p : Program} {l : Launch} {e : Env} {R : Room} {s : State} {m : MethodId} {args : Array Value} {below : List Frame} {meth : Method} {c : Code} {Q : State → Prop} {D : va_G} {A : Nat → Prop} {nL : Nat} {Ts : List Cond} {own : String} {cc : ByteArray} {tys : List (ClassId × FieldType)} {cells slots : Nat} {w : va_W} {pc : Nat} {lv lv' : List (Nat × Value)} {st : List Value}
theorem g_copyi (F : gFx p m c cc nL s args Ts own D tys A) {a a0 : Nat} {c0 : ClassId} {n0 n1 ix : Nat} {f g : Nat → Int32} (w' : va_W) (q0 q1 N : Nat) (ha0 : w[q0]? = some (a0, .inl (c0, n0, .inl f))) (ha1 : w[q1]? = some (a, .inl (c0, n1, .inl g))) (ht : tys[0]? = some (c0, .int)) (h1 : N ≤ n0) (h2 : N ≤ n1) (hN : N < 2 ^ 31) (l1 : Cond.methodLink own ix arraycopyName ∈ Ts) (l2 : Cond.native arraycopyName ∈ Ts) (l3 : Cond.static arraycopyName ∈ Ts) (l4 : Cond.initialized "java/lang/System" ∈ Ts) (hfr : 1 ≤ R.frames) (hlo : (st.map fun v => v.category).sum + (nativeFrameWords "java/lang/System" "arraycopy" 5 + 11) ≤ R.locals) (d : decode cc pc = .ok (.invokestatic ix, 3)) (hw : w.set q1 (a, .inl (c0, n1, .inl (va_cpy f g 0 0 N))) = w') (k : Go p l e R s m args below meth c Q D A nL cells slots w' (pc + 3) lv st) : Go p l e R s m args below meth c Q D A nL cells slots w pc lv (.int (nI N) :: .int 0 :: .ref a :: .int 0 :: .ref a0 :: st) := by
  subst hw
  have e0 : (0 : Int32).toNatClampNeg = 0 := by decide
  have eN := nI_clamp hN
  refine fun H locs ls hP hD hS hl => va_copyi F.1 F.2.1 (F.2.2.1.trans hl.1.symm) F.2.2.2.1 (F.2.2.2.2.1 _ l1) (F.2.2.2.2.1 _ l2) (F.2.2.2.2.1 _ l3) (F.2.2.2.2.1 _ l4) F.2.2.2.2.2.1.1 hP hD hS q0 q1 0 0 ha0 ha1 ht ht rfl (by decide) (by decide) (nI_pos hN) (by rw [e0, eN]; omega) (by rw [e0, eN]; omega) (fun _ _ => rfl) hfr hlo d (fun H1 locs1 hP1 hD1 hS1 => ?_)
  rw [e0, eN] at hP1 hD1
  exact k H1 locs1 ls hP1 hD1 hS1 hl
theorem app_cases {w1 w2 : va_W} {j : Nat} {q : Nat × va_E} (h : (w1 ++ w2)[j]? = some q) : (j < w1.length ∧ w1[j]? = some q) ∨ ∃ i, j = w1.length + i ∧ w2[i]? = some q := by
  rcases Nat.lt_or_ge j w1.length with hj | hj
  · rw [List.getElem?_append_left hj] at h
    exact Or.inl ⟨hj, h⟩
  · rw [List.getElem?_append_right hj] at h
    exact Or.inr ⟨j - w1.length, by omega, h⟩
theorem app_l {w1 w2 : va_W} {j : Nat} {q : Nat × va_E} (h : w1[j]? = some q) : (w1 ++ w2)[j]? = some q := by
  have hj := (List.getElem?_eq_some_iff.mp h).1
  rw [List.getElem?_append_left hj]
  exact h
theorem app_r {w1 w2 : va_W} {j : Nat} {q : Nat × va_E} (h : w2[j]? = some q) : (w1 ++ w2)[w1.length + j]? = some q := by
  rw [List.getElem?_append_right (by omega)]
  rw [show w1.length + j - w1.length = j by omega]
  exact h
/-- the callee's world is a part in the middle of the caller's -/
theorem g_seg (F : gFx p m c cc nL s args Ts own D tys A) {w1 wc wc' w3 w2 : va_W} {rv : Option Value} {st0 : List Value} {a : Array Value} (hw : w = w1 ++ (wc ++ w3)) (hw2 : w2 = w1 ++ (wc' ++ w3)) (same : wc'.map (fun q => q.1) = wc.map (fun q => q.1))
    (hr : ∀ (H : Heap) (locs : List Loc) (ls : Array Slot), va_P D vwCl w H → va_D A w → va_S A s.heap H locs → lv_has ls nL lv → va_P D vwCl wc H → va_D (fun _ => True) wc → va_Run p l e R s m args below meth c H locs cells slots 0 0 (F0 m pc ls st0) st (gPost D wc wc' H.size rv a) (va_A wc H.size))
    (k : Go p l e R s m args below meth c Q D A nL cells slots w2 (pc + 3) lv (rv.toList ++ st)) : Go p l e R s m args below meth c Q D A nL cells slots w pc lv st0 := by
  subst hw
  subst hw2
  intro H locs ls hP hD hS hl T hT X
  have hPs := va_P_app.mp hP
  have hPt := va_P_app.mp hPs.2
  have hDc : va_D A wc := ⟨fun i j p q hi hj hpq => by
    have := hD.1 _ _ p q (app_r (w1 := w1) (app_l (w2 := w3) hi)) (app_r (w1 := w1) (app_l (w2 := w3) hj)) hpq
    omega, fun i q hi => hD.2 _ q (app_r (w1 := w1) (app_l (w2 := w3) hi))⟩
  have hFc : ∀ q, va_A wc H.size q → A q := fun q h => by
    rcases h with ⟨i, x, h⟩ | h
    · exact hDc.2 i (q, x) h
    · exact F.2.2.2.2.2.2 q (Nat.le_trans hS.1 h)
  obtain ⟨v, st₀, t, T', L, h0, X', hL, e1, e2, ⟨hv, hP1, hz, hk⟩, stp⟩ := hr H locs ls hP hD hS hl hPt.1 (hDc.weaken (fun _ _ _ _ => trivial)) T hT X
  have hv : v = rv := Outcome.returned.inj hv
  subst hv
  rw [h0] at hz hk
  rw [← e1] at hP1 hz hk
  have keep : ∀ (j : Nat) (q : Nat × va_E), (w1 ++ (wc ++ w3))[j]? = some q → (∀ i, ¬ j = w1.length + i ∨ wc.length ≤ i) → va_at D vwCl q T'.heap := by
    intro j q hj hne
    refine (hP j q hj).kept (hk q.1 (hP j q hj).lt (fun h => ?_))
    rcases h with ⟨i, x, h⟩ | h
    · have hi := (List.getElem?_eq_some_iff.mp h).1
      have := hD.1 _ _ q (q.1, x) hj (app_r (w1 := w1) (app_l (w2 := w3) h)) rfl
      rcases hne i with z | z
      · exact z this
      · omega
    · exact absurd (hP j q hj).lt (Nat.not_lt.mpr h)
  have jP : va_P D vwCl (w1 ++ (wc' ++ w3)) T'.heap := by
    refine va_P_app.mpr ⟨fun j q hj => keep j q (app_l hj) (fun i => Or.inl (by have := (List.getElem?_eq_some_iff.mp hj).1; omega)), va_P_app.mpr ⟨hP1, fun j q hj => keep _ q (app_r (w1 := w1) (app_r (w1 := wc) hj)) (fun i => ?_)⟩⟩
    rcases Nat.lt_or_ge i wc.length with z | z
    · exact Or.inl (by omega)
    · exact Or.inr z
  have jD : va_D A (w1 ++ (wc' ++ w3)) := gD_same hD (by rw [List.map_append, List.map_append, List.map_append, List.map_append, same])
  obtain ⟨t2, a1, b1⟩ := k T'.heap (locs ++ L) ls jP jD
    ⟨Nat.le_trans hS.1 hz, fun q h1 h2 => by rw [hk q (Nat.lt_of_lt_of_le h1 hS.1) (fun z => h2 (hFc q z))]; exact hS.2.1 q h1 h2, fun q hq => by
      rcases List.mem_append.mp hq with h | h
      · exact hS.2.2 q h
      · exact hFc _ (hL q h)⟩ hl T' rfl X'
  exact ⟨t2, stp t2 a1, b1⟩
theorem g_segV (F : gFx p m c cc nL s args Ts own D tys A) {y : MethodName} {ws : List Cond} {rm : Room} {bytes : ByteArray} {maxL ix n : Nat} {ret : Option FieldType} {b ci : Nat} {rc : vw_C} {fs : List Value} {As : List Value} {wc wc' : va_W} {rv : Option Value} {st0 : List Value} (w1 w3 w2 : va_W) (hM : Ct l D tys y ws rm (.ref b :: As) wc rv wc') (qb : Nat) (hb : wc[qb]? = some (b, .inr (ci, fs))) (hrc : vwCl[ci]? = some rc) (cw : CallW R s args own rc.1 ix y bytes maxL ret ws rm 0 0 n) (hn : As.length = n) (hst : st0 = As.reverse ++ .ref b :: st) (hw : w = w1 ++ (wc ++ w3)) (hw2 : w2 = w1 ++ (wc' ++ w3)) (hroom : (st.map fun v => v.category).sum ≤ 8) (hf : cells ≤ R.cells ∧ slots ≤ R.slots) (d : decode cc pc = .ok (.invokevirtual ix, 3)) (k : Go p l e R s m args below meth c Q D A nL cells slots w2 (pc + 3) lv (rv.toList ++ st)) : Go p l e R s m args below meth c Q D A nL cells slots w pc lv st0 :=
  g_seg F hw hw2 hM.2.2.1 (fun H locs ls hP hD hS hl hPc hDc => va_runV (g_fx F) (hM.2.2.2 H.size) cw (g_preV F hPc hDc hb hrc) rfl hn hl.1 hst (lv_room hroom) d hf) k
/-- the cells in another order -/
theorem va_D_iff {A : Nat → Prop} {w : va_W} : va_D A w ↔ w.Pairwise (fun p q => p.1 ≠ q.1) ∧ ∀ q ∈ w, A q.1 := by
  constructor
  · intro h
    refine ⟨List.pairwise_iff_getElem.mpr (fun i j hi hj hij => fun e => ?_), fun q hq => ?_⟩
    · have := h.1 i j w[i] w[j] (List.getElem?_eq_getElem hi) (List.getElem?_eq_getElem hj) e
      omega
    · obtain ⟨i, hi⟩ := List.getElem?_of_mem hq
      exact h.2 i q hi
  · intro h
    refine ⟨fun i j p q hi hj e => ?_, fun k q hk => h.2 q (List.mem_of_getElem? hk)⟩
    obtain ⟨hi1, hi2⟩ := List.getElem?_eq_some_iff.mp hi
    obtain ⟨hj1, hj2⟩ := List.getElem?_eq_some_iff.mp hj
    have pw := List.pairwise_iff_getElem.mp h.1
    rcases Nat.lt_trichotomy i j with z | z | z
    · exact absurd (by rw [hi2, hj2]; exact e) (pw i j hi1 hj1 z)
    · exact z
    · exact absurd (by rw [hi2, hj2]; exact e.symm) (pw j i hj1 hi1 z)
theorem va_P_iff {D : va_G} {cl : List vw_C} {w : va_W} {H : Heap} : va_P D cl w H ↔ ∀ q ∈ w, va_at D cl q H := by
  constructor
  · intro h q hq
    obtain ⟨i, hi⟩ := List.getElem?_of_mem hq
    exact h i q hi
  · intro h k q hk
    exact h q (List.mem_of_getElem? hk)
theorem va_P.perm {D : va_G} {cl : List vw_C} {w w2 : va_W} {H : Heap} (hp : w.Perm w2) (h : va_P D cl w H) : va_P D cl w2 H := va_P_iff.mpr (fun q hq => va_P_iff.mp h q (hp.mem_iff.mpr hq))
theorem va_D.perm {A : Nat → Prop} {w w2 : va_W} (hp : w.Perm w2) (h : va_D A w) : va_D A w2 := by
  obtain ⟨h1, h2⟩ := va_D_iff.mp h
  exact va_D_iff.mpr ⟨(hp.pairwise_iff (fun {x y} hxy => fun e => hxy e.symm)).mp h1, fun q hq => h2 q (hp.mem_iff.mpr hq)⟩
theorem g_perm {w2 : va_W} (hp : w.Perm w2) (k : Go p l e R s m args below meth c Q D A nL cells slots w2 pc lv st) : Go p l e R s m args below meth c Q D A nL cells slots w pc lv st := fun H locs ls hP hD hS hl => k H locs ls (hP.perm hp) (hD.perm hp) hS hl
end GO2
theorem tf_cpy {f g : Nat → Int32} {n j : Nat} (hj : j < n) : va_cpy f g 0 0 n j = f j := by
  rw [pk_cpy_in (by omega) (by omega)]
  congr 1
  omega
