section GO5
variable {p : Program} {l : Launch} {e : Env} {R : Room} {s : State} {m : MethodId} {args : Array Value} {below : List Frame} {meth : Method} {c : Code} {Q : State → Prop} {D : va_G} {A : Nat → Prop} {nL : Nat} {Ts : List Cond} {own : String} {cc : ByteArray} {tys : List (ClassId × FieldType)} {cells slots : Nat} {w : va_W} {pc : Nat} {lv lv' : List (Nat × Value)} {st : List Value} {α : Type}
/-- contracts with cells that are made, and with a word of its own at the start -/
def gPreE (D : va_G) (tys : List (ClassId × FieldType)) (av : List Value) (w : va_W) (sz : Nat) (E : State → Prop) : Array Value → State → Prop := va_Pc av (fun U => U.heap.size = sz ∧ va_P D vwCl w U.heap ∧ gKF D tys U ∧ va_D (fun _ => True) w ∧ E U)
def gPostE {α : Type} (D : va_G) (w : va_W) (sz : Nat) (rv : Option Value) (g : α → Prop) (W' : α → va_W) : Array Value → State → Outcome → State → Prop := fun _ st oc t => oc = .returned rv ∧ (∃ x, g x ∧ va_P D vwCl (W' x) t.heap ∧ va_D (va_A w sz) (W' x)) ∧ va_F (va_A w sz) st t
def CtE {α : Type} (l : Launch) (D : va_G) (tys : List (ClassId × FieldType)) (y : MethodName) (ws : List Cond) (rm : Room) (av : List Value) (w : va_W) (E : Nat → State → Prop) (rv : Option Value) (mc ms : Nat) (g : α → Prop) (W' : α → va_W) : Prop := rm.cells = mc ∧ rm.slots = ms ∧ ∀ sz, Met l y ws rm (gPreE D tys av w sz (E sz)) (gPostE D w sz rv g W') mc ms (va_A w sz)
theorem gPreE_blind {av : List Value} {sz : Nat} {E : State → Prop} (hE : ∀ (U : State) g mk (a : Array Value), E U → E (U.calling g mk a)) : FrameBlind (gPreE D tys av w sz E) := fun a U g mk q => ⟨q.1, q.2.1, q.2.2.1, gKF.same (u := U) (U := U.calling g mk a) rfl q.2.2.2.1, q.2.2.2.2.1, hE U g mk a q.2.2.2.2.2⟩
theorem ctE_of {y : MethodName} {ws ws' : List Cond} {rm : Room} {av : List Value} {rv : Option Value} {ret : Option FieldType} {E : Nat → State → Prop} {mc ms : Nat} {g : α → Prop} {W' : α → va_W} (hy : plainName y.cls = true) (ho : y.cls = own) (hw : ws = .code y cc nL ret :: ws') (hc : rm.cells = mc ∧ rm.slots = ms) (hsl : (lg_sl av).length ≤ nL)
    (body : ∀ (p : Program) (e : Env) (s : State) (m : MethodId) (below : List Frame) (meth : Method) (c : Code) (A : Nat → Prop) (Q : State → Prop), gFx p m c cc nL s av.toArray ws own D tys A → meth.name = y.name → E s.heap.size s → A = va_A w s.heap.size → meth.sig.returnType = ret → meth.locks = false → (∀ (t : State) (H : Heap) (locs : List Loc) (x : α), g x → va_P D vwCl (W' x) H → va_D A (W' x) → va_S A s.heap H locs → t.heap = H → gPostE D w s.heap.size rv g W' av.toArray s (.returned rv) t) → (Q = MQ below (gPostE D w s.heap.size rv g W') av.toArray s mc ms A) → Go p l e rm s m av.toArray below meth c Q D A nL 0 0 w 0 (lv_args 0 av) []) : CtE l D tys y ws rm av w E rv mc ms g W' := by
  refine ⟨hc.1, hc.2, fun sz => ?_⟩
  refine Met.ofW (cc := cc) (maxL := nL) (ret := ret) hy hw ?_
  intro p e s m args below meth c s₁ B hml hv
  obtain ⟨rfl, hsz, hP, hK, hD0, hE⟩ := hv
  subst hsz
  subst ho
  have hl := lv_entry av (n := nL) hsl
  rw [lg_entry_eq]
  refine body p e s m below meth c (va_A w s.heap.size) _ ⟨B.exec, B.bytes, hml, findClass_of_methodNamed B.named, atoms_spec (ws := ws) B.pre, hK, fun q h => Or.inr h⟩ (name_of_methodNamed B.named B.method).1 hE rfl B.returns B.notSynchronized ?_ rfl s.heap [] _ hP hD0.self va_S.rf hl
  intro t H locs x hg hP1 hD1 hS1 ht
  exact ⟨rfl, ⟨x, hg, by rw [ht]; exact hP1, hD1⟩, hS1.F ht⟩
theorem ctE_ofV {y : MethodName} {ws ws' : List Cond} {rm : Room} {av : List Value} {E : Nat → State → Prop} {mc ms : Nat} {g : α → Prop} {W' : α → va_W} (hy : plainName y.cls = true) (ho : y.cls = own) (hw : ws = .code y cc nL none :: ws') (hc : rm.cells = mc ∧ rm.slots = ms) (hsl : (lg_sl av).length ≤ nL)
    (body : ∀ (p : Program) (e : Env) (s : State) (m : MethodId) (below : List Frame) (meth : Method) (c : Code) (A : Nat → Prop) (Q : State → Prop), gFx p m c cc nL s av.toArray ws own D tys A → meth.name = y.name → E s.heap.size s → (∀ (pc : Nat) (lv : List (Nat × Value)) (x : α), g x → decode cc pc = .ok (.return_, 1) → Go p l e rm s m av.toArray below meth c Q D A nL mc ms (W' x) pc lv []) → Go p l e rm s m av.toArray below meth c Q D A nL 0 0 w 0 (lv_args 0 av) []) : CtE l D tys y ws rm av w E none mc ms g W' := by
  refine ctE_of hy ho hw hc hsl (fun p e s m below meth c A Q F hnm hE hA hr hlk hpost hQ => body p e s m below meth c A Q F hnm hE (fun pc lv x hg d => ?_))
  subst hQ
  exact fun H locs ls hP hD hS hl => W.vret F.1 F.2.1 hr (fun t ht _ => hpost t H locs x hg hP hD hS ht) hS.2.2 d hlk
theorem ctE_ofI {y : MethodName} {ws ws' : List Cond} {rm : Room} {av : List Value} {E : Nat → State → Prop} {r : Int32} {g : α → Prop} {W' : α → va_W} (hy : plainName y.cls = true) (ho : y.cls = own) (hw : ws = .code y cc nL (some .int) :: ws') (hc : rm.cells = 0 ∧ rm.slots = 0) (hsl : (lg_sl av).length ≤ nL)
    (body : ∀ (p : Program) (e : Env) (s : State) (m : MethodId) (below : List Frame) (meth : Method) (c : Code) (A : Nat → Prop) (Q : State → Prop), gFx p m c cc nL s av.toArray ws own D tys A → E s.heap.size s → A = va_A w s.heap.size → (∀ (pc : Nat) (lv : List (Nat × Value)) (x : α), g x → decode cc pc = .ok (.ireturn, 1) → Go p l e rm s m av.toArray below meth c Q D A nL 0 0 (W' x) pc lv [.int r]) → Go p l e rm s m av.toArray below meth c Q D A nL 0 0 w 0 (lv_args 0 av) []) : CtE l D tys y ws rm av w E (some (.int r)) 0 0 g W' := by
  refine ctE_of hy ho hw hc hsl (fun p e s m below meth c A Q F hnm hE hA hr hlk hpost hQ => body p e s m below meth c A Q F hE hA (fun pc lv x hg d => ?_))
  subst hQ
  exact fun H locs ls hP hD hS hl => W.iret F.1 F.2.1 hr (fun t ht _ => hpost t H locs x hg hP hD hS ht) hS.2.2 d hlk
theorem g_widen {k n : Nat} (h1 : cells ≤ k) (h2 : slots ≤ n) (kk : Go p l e R s m args below meth c Q D A nL k n w pc lv st) : Go p l e R s m args below meth c Q D A nL cells slots w pc lv st := fun H locs ls hP hD hS hl => W.widen h1 h2 (kk H locs ls hP hD hS hl)
theorem g_objInit (F : gFx p m c cc nL s args Ts own D tys A) {a ix : Nat} (h1 : Cond.methodLink own ix Lib.objectInit ∈ Ts) (h2 : Cond.instanceMethod Lib.objectInit ∈ Ts) (h3 : Cond.code Lib.objectInit ⟨#[0xb1]⟩ 1 none ∈ Ts) (hf : 1 ≤ R.frames) (hlo : (st.map fun v => v.category).sum + 12 ≤ R.locals) (d : decode cc pc = .ok (.invokespecial ix, 3)) (k : Go p l e R s m args below meth c Q D A nL cells slots w (pc + 3) lv st) : Go p l e R s m args below meth c Q D A nL cells slots w pc lv (.ref a :: st) :=
  fun H locs ls hP hD hS hl => W.objInit F.1 F.2.1 F.2.2.2.1 (F.2.2.2.2.1 _ h1) (F.2.2.2.2.1 _ h2) (F.2.2.2.2.1 _ h3) rfl (hl.1.trans F.2.2.1.symm) rfl d hf (by have e0 : (F0 m pc ls (Value.ref a :: st)).monitorRoom = 0 := rfl; rw [e0]; omega) (W.eq (g2 := F0 m (pc + 3) ls st) rfl (k H locs ls hP hD hS hl))
theorem g_new (F : gFx p m c cc nL s args Ts own D tys A) {C : String} {T : u_T} {N ci ix : Nat} {fs : List Value} (hin : ∀ w ∈ u_ws C T N, w ∈ Ts) (ty0 : Nat → FieldType) (hty : ∀ k, k < N → parseFieldDescriptor (T k).2.2.1 = some (ty0 k)) (hcl : Cond.classLink own ix C ∈ Ts) (hinst : Cond.instantiable C N ∈ Ts) (hini : Cond.initialized C ∈ Ts) (hc : vwCl[ci]? = some (C, T, N)) (hfs : ∀ j, j < N → defaultValue (ty0 j) = vp_V fs j) (hcells : cells + 1 ≤ R.cells) (hslots : slots + N ≤ R.slots) (d : decode cc pc = .ok (.new ix, 3)) (k : ∀ q : Nat, Go p l e R s m args below meth c Q D A nL (cells + 1) (slots + N) (w ++ [(q, .inr (ci, fs))]) (pc + 3) lv (.ref q :: st)) : Go p l e R s m args below meth c Q D A nL cells slots w pc lv st :=
  fun H locs ls hP hD hS hl => va_new F.1 F.2.1 F.2.2.2.2.1 hin ty0 hty F.2.2.2.1 (F.2.2.2.2.1 _ hcl) (F.2.2.2.2.1 _ hinst) (F.2.2.2.2.1 _ hini) F.2.2.2.2.2.1.1 hP hD hS F.2.2.2.2.2.2 hc hfs hcells hslots d (fun q H1 hP1 hD1 hS1 => k q H1 locs ls hP1 hD1 hS1 hl)
theorem g_newa (F : gFx p m c cc nL s args Ts own D tys A) {cA : ClassId} {atype : ArrayType} {ty : FieldType} {n : Int32} {N : Nat} {f : Nat → Int32} (t0 : Nat) (ht : tys[t0]? = some (cA, ty)) (hty : newarray.typeOf atype = ty) (hu : ∀ c1 c2 : ClassId, va_RA s c1 ty → va_RA s c2 ty → c1 = c2) (harr : Cond.arrayClass (newarray.typeOf atype) ∈ Ts) (ha : ∀ c1 : ClassId, vp_cell c1 (N, .inl f) = arrV c1 N (fun _ => defaultValue ty)) (hn : ¬ n < 0) (hN : n.toNatClampNeg = N) (hbytes : N * componentBytes ty ≤ 536870912) (hcells : cells + 1 ≤ R.cells) (hslots : slots + N ≤ R.slots) (d : decode cc pc = .ok (.newarray atype, 2)) (k : ∀ q : Nat, Go p l e R s m args below meth c Q D A nL (cells + 1) (slots + N) (w ++ [(q, .inl (cA, N, .inl f))]) (pc + 2) lv (.ref q :: st)) : Go p l e R s m args below meth c Q D A nL cells slots w pc lv (.int n :: st) := by
  refine fun H locs ls hP hD hS hl => va_newa (a0 := (N, .inl f)) F.1 F.2.1 (F.2.2.2.2.1 _ harr) hty F.2.2.2.2.2.1.1 hP hD hS F.2.2.2.2.2.2 ha hn hN hbytes hcells hslots d (fun q c1 H1 hK1 hP1 hD1 hS1 => ?_)
  have e : c1 = cA := hu c1 cA (hK1.2 tys.length (c1, ty) (by rw [List.getElem?_append_right (Nat.le_refl _), Nat.sub_self]; rfl)).2 (F.2.2.2.2.2.1.1.2 t0 (cA, ty) ht).2
  subst e
  exact k q H1 locs ls hP1 hD1 hS1 hl
theorem g_newq (F : gFx p m c cc nL s args Ts own D tys A) {cA : ClassId} {C : String} {ix : Nat} {n : Int32} {N : Nat} (t0 : Nat) (ht : tys[t0]? = some (cA, .object C)) (hcl : Cond.classLink own ix C ∈ Ts) (hover : va_AO C s) (hn : ¬ n < 0) (hN : n.toNatClampNeg = N) (hbytes : N * 4 ≤ 536870912) (hcells : cells + 1 ≤ R.cells) (hslots : slots + N ≤ R.slots) (d : decode cc pc = .ok (.anewarray ix, 3)) (k : ∀ q : Nat, Go p l e R s m args below meth c Q D A nL (cells + 1) (slots + N) (w ++ [(q, .inl (cA, N, .inr (.inr (.inr (.inr (fun _ => none))))))]) (pc + 3) lv (.ref q :: st)) : Go p l e R s m args below meth c Q D A nL cells slots w pc lv (.int n :: st) := by
  refine fun H locs ls hP hD hS hl => va_newq F.1 F.2.1 F.2.2.2.1 (F.2.2.2.2.1 _ hcl) hover F.2.2.2.2.2.1.1 hP hD hS F.2.2.2.2.2.2 hn hN hbytes hcells hslots d (fun q c1 H1 hK1 hP1 hD1 hS1 => ?_)
  obtain ⟨_, _, _, _, _, e1⟩ := (hK1.2 tys.length (c1, .object C) (by rw [List.getElem?_append_right (Nat.le_refl _), Nat.sub_self]; rfl)).2
  obtain ⟨_, _, _, _, _, e2⟩ := (F.2.2.2.2.2.1.1.2 t0 (cA, .object C) ht).2
  have e : c1 = cA := Option.some.inj (e1.symm.trans e2)
  subst e
  exact k q H1 locs ls hP1 hD1 hS1 hl
theorem g_putF (F : gFx p m c cc nL s args Ts own D tys A) {C : String} {T : u_T} {N ci a ix : Nat} {fs : List Value} {v : Value} (w' : va_W) (hnm : meth.name = "<init>") (hin : ∀ w ∈ u_ws C T N, w ∈ Ts) (ty0 : Nat → FieldType) (hty : ∀ k, k < N → parseFieldDescriptor (T k).2.2.1 = some (ty0 k)) (hnms : ∀ a, a < N → ∀ b, b < N → a ≠ b → (T a).2.1 ≠ (T b).2.1) (q0 : Nat) (he : w[q0]? = some (a, .inr (ci, fs))) (hc : vwCl[ci]? = some (C, T, N)) (j : Nat) (hj : j < N) (hfin : (T j).2.2.2 = true) (hdecl : (T j).1 = own) (hn : narrow (ty0 j) v = v) (hfit : fits (ty0 j) v = true) (hl : j < fs.length) (hlink : Cond.fieldLink own ix (T j).1 (T j).2.1 (T j).2.2.1 ∈ Ts) (d : decode cc pc = .ok (.putfield ix, 3)) (hw : w.set q0 (a, .inr (ci, fs.set j v)) = w') (k : Go p l e R s m args below meth c Q D A nL cells slots w' (pc + 3) lv st) : Go p l e R s m args below meth c Q D A nL cells slots w pc lv (v :: .ref a :: st) := by
  subst hw
  exact fun H locs ls hP hD hS hl2 => va_putF F.1 F.2.1 F.2.2.2.2.1 hin ty0 hty hnms F.2.2.2.1 F.2.2.2.2.2.1.1 hP hD hS q0 he hc j hj (F.2.2.2.2.1 _ hlink) (fun _ h => h) hfin hnm hdecl (hty j hj) hn hfit hl d (fun H1 locs1 hP1 hD1 hS1 => k H1 locs1 ls hP1 hD1 hS1 hl2)
/-- a call that makes cells: the callee's part is the last of the world -/
theorem g_afterE (F : gFx p m c cc nL s args Ts own D tys A) {w1 wc : va_W} {rv : Option Value} {st0 : List Value} {a : Array Value} {mc ms : Nat} {g : α → Prop} {W' : α → va_W} (hw : w = w1 ++ wc)
    (hr : ∀ (H : Heap) (locs : List Loc) (ls : Array Slot), va_P D vwCl w H → va_D A w → va_S A s.heap H locs → lv_has ls nL lv → va_P D vwCl wc H → va_D (fun _ => True) wc → va_Run p l e R s m args below meth c H locs cells slots mc ms (F0 m pc ls st0) st (gPostE D wc H.size rv g W' a) (va_A wc H.size))
    (k : ∀ x, g x → Go p l e R s m args below meth c Q D A nL (cells + mc) (slots + ms) (w1 ++ W' x) (pc + 3) lv (rv.toList ++ st)) : Go p l e R s m args below meth c Q D A nL cells slots w pc lv st0 := by
  subst hw
  intro H locs ls hP hD hS hl T hT X
  have hPs := va_P_app.mp hP
  have hDc : va_D A wc := ⟨fun i j p q hi hj hpq => by
    have := hD.1 _ _ p q (app_r (w1 := w1) hi) (app_r (w1 := w1) hj) hpq
    omega, fun i q hi => hD.2 _ q (app_r (w1 := w1) hi)⟩
  have hFc : ∀ q, va_A wc H.size q → A q := fun q h => by
    rcases h with ⟨i, x, h⟩ | h
    · exact hDc.2 i (q, x) h
    · exact F.2.2.2.2.2.2 q (Nat.le_trans hS.1 h)
  obtain ⟨v, st₀, t, T', L, h0, X', hL, e1, e2, ⟨hv, ⟨x, hg, hP1, hD1⟩, hz, hk⟩, stp⟩ := hr H locs ls hP hD hS hl hPs.2 (hDc.weaken (fun _ _ _ _ => trivial)) T hT X
  have hv : v = rv := Outcome.returned.inj hv
  subst hv
  rw [h0] at hz hk
  rw [← e1] at hP1 hz hk
  have hout : ∀ (j : Nat) (q : Nat × va_E), w1[j]? = some q → ¬ va_A wc H.size q.1 := by
    intro j q hj h
    rcases h with ⟨i, y, h⟩ | h
    · have h3 := hD.1 _ _ q (q.1, y) (app_l (w2 := wc) hj) (app_r (w1 := w1) h) rfl
      have := (List.getElem?_eq_some_iff.mp hj).1
      omega
    · exact absurd (hPs.1 j q hj).lt (Nat.not_lt.mpr h)
  have jP : va_P D vwCl (w1 ++ W' x) T'.heap := va_P_app.mpr ⟨fun j q hj => (hPs.1 j q hj).kept (hk q.1 (hPs.1 j q hj).lt (hout j q hj)), hP1⟩
  have jD : va_D A (w1 ++ W' x) := by
    refine ⟨fun i j p q hi hj hpq => ?_, fun i q hi => ?_⟩
    · rcases app_cases hi with ⟨hi1, hi2⟩ | ⟨i', rfl, hi2⟩
      · rcases app_cases hj with ⟨hj1, hj2⟩ | ⟨j', rfl, hj2⟩
        · exact hD.1 i j p q (app_l hi2) (app_l hj2) hpq
        · exact absurd (by rw [hpq]; exact hD1.2 j' q hj2) (hout i p hi2)
      · rcases app_cases hj with ⟨hj1, hj2⟩ | ⟨j', rfl, hj2⟩
        · exact absurd (by rw [← hpq]; exact hD1.2 i' p hi2) (hout j q hj2)
        · rw [hD1.1 i' j' p q hi2 hj2 hpq]
    · rcases app_cases hi with ⟨hi1, hi2⟩ | ⟨i', rfl, hi2⟩
      · exact hD.2 i q (app_l hi2)
      · exact hFc _ (hD1.2 i' q hi2)
  obtain ⟨t2, a1, b1⟩ := k x hg T'.heap (locs ++ L) ls jP jD
    ⟨Nat.le_trans hS.1 hz, fun q h1 h2 => by rw [hk q (Nat.lt_of_lt_of_le h1 hS.1) (fun z => h2 (hFc q z))]; exact hS.2.1 q h1 h2, fun q hq => by
      rcases List.mem_append.mp hq with h | h
      · exact hS.2.2 q h
      · exact hFc _ (hL q h)⟩ hl T' rfl X'
  exact ⟨t2, stp t2 a1, b1⟩
theorem g_preE {av : List Value} {wc : va_W} {H : Heap} {E : State → Prop} (F : gFx p m c cc nL s args Ts own D tys A) (hPc : va_P D vwCl wc H) (hDc : va_D (fun _ => True) wc) (hEb : ∀ (U : State) g mk (a : Array Value), E U → E (U.calling g mk a)) (hE : ∀ U : State, U.heap = H → s.WarmedH U.vm → E U) : PreS s H (gPreE D tys av wc H.size E) av := ⟨gPreE_blind hEb, fun U hU hW => ⟨rfl, by rw [hU], by rw [hU]; exact hPc, gKF.moved hW F.2.2.2.2.2.1, hDc, hE U hU hW⟩⟩
theorem g_callI (F : gFx p m c cc nL s args Ts own D tys A) {y : MethodName} {ws : List Cond} {rm : Room} {bytes : ByteArray} {maxL ix b mc ms : Nat} {st0 : List Value} {E : Nat → State → Prop} {g : α → Prop} {W' : α → va_W} (w1 wc : va_W) (hM : CtE l D tys y ws rm [.ref b] wc E none mc ms g W') (cw : CallB R s args own ix y bytes maxL none ws rm mc ms 0 ∧ y.name = "<init>" ∧ (Cond.instanceMethod y).before args s = true) (hw : w = w1 ++ wc) (hEb : ∀ (sz : Nat) (U : State) g mk (a : Array Value), E sz U → E sz (U.calling g mk a)) (hE : ∀ (sz : Nat) (U : State), s.WarmedH U.vm → E sz U) (hst : st0 = .ref b :: st) (hroom : (st.map fun v => v.category).sum ≤ 8) (hf : cells + mc ≤ R.cells ∧ slots + ms ≤ R.slots) (d : decode cc pc = .ok (.invokespecial ix, 3)) (k : ∀ x, g x → Go p l e R s m args below meth c Q D A nL (cells + mc) (slots + ms) (w1 ++ W' x) (pc + 3) lv st) : Go p l e R s m args below meth c Q D A nL cells slots w pc lv st0 :=
  g_afterE F hw (fun H locs ls hP hD hS hl hPc hDc => va_runI (As := []) (g_fx F) (hM.2.2 H.size) cw (g_preE F hPc hDc (hEb H.size) (fun U _ hW => hE H.size U hW)) rfl rfl hl.1 hst (lv_room hroom) d hf) k
theorem g_callIN (F : gFx p m c cc nL s args Ts own D tys A) {y : MethodName} {ws : List Cond} {rm : Room} {bytes : ByteArray} {host : String} {maxL ix b mc ms : Nat} {st0 : List Value} {E : Nat → State → Prop} {g : α → Prop} {W' : α → va_W} (w1 wc : va_W) (hM : CtE l D tys y ws rm [.ref b] wc E none mc ms g W') (cw : va_CN R s args own ix y host bytes maxL none ws rm mc ms 0 ∧ y.name = "<init>" ∧ (Cond.instanceMethod y).before args s = true) (hw : w = w1 ++ wc) (hEb : ∀ (sz : Nat) (U : State) g mk (a : Array Value), E sz U → E sz (U.calling g mk a)) (hE : ∀ (sz : Nat) (U : State), s.WarmedH U.vm → E sz U) (hst : st0 = .ref b :: st) (hroom : (st.map fun v => v.category).sum ≤ 8) (hf : cells + mc ≤ R.cells ∧ slots + ms ≤ R.slots) (d : decode cc pc = .ok (.invokespecial ix, 3)) (k : ∀ x, g x → Go p l e R s m args below meth c Q D A nL (cells + mc) (slots + ms) (w1 ++ W' x) (pc + 3) lv st) : Go p l e R s m args below meth c Q D A nL cells slots w pc lv st0 :=
  g_afterE F hw (fun H locs ls hP hD hS hl hPc hDc => va_runIN (As := []) (g_fx F) (hM.2.2 H.size) cw (g_preE F hPc hDc (hEb H.size) (fun U _ hW => hE H.size U hW)) rfl rfl hl.1 hst (lv_room hroom) d hf) k
theorem g_endE {w' : va_W} (h : Go p l e R s m args below meth c Q D A nL cells slots w' pc lv []) (hw : w = w') : Go p l e R s m args below meth c Q D A nL cells slots w pc lv [] := by subst hw; exact h
end GO5
theorem ra_int {s : State} : ∀ c1 c2 : ClassId, va_RA s c1 .int → va_RA s c2 .int → c1 = c2 := fun c1 c2 h1 h2 => Option.some.inj ((show s.vm.findClass _ = some c1 from h1).symm.trans (show s.vm.findClass _ = some c2 from h2))
theorem ra_bool {s : State} : ∀ c1 c2 : ClassId, va_RA s c1 .boolean → va_RA s c2 .boolean → c1 = c2 := fun c1 c2 h1 h2 => Option.some.inj ((show s.vm.findClass _ = some c1 from h1).symm.trans (show s.vm.findClass _ = some c2 from h2))
theorem new_int {N : Nat} (c1 : ClassId) : vp_cell c1 (N, .inl (fun _ => 0)) = arrV c1 N (fun _ => defaultValue .int) := by rw [vp_cell_i]; rfl
theorem new_bool {N : Nat} (c1 : ClassId) : vp_cell c1 (N, .inl (fun _ => 0)) = arrV c1 N (fun _ => defaultValue .boolean) := by rw [vp_cell_i]; rfl
