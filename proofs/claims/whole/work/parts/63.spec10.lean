section GO6
variable {p : Program} {l : Launch} {e : Env} {R : Room} {s : State} {m : MethodId} {args : Array Value} {below : List Frame} {meth : Method} {c : Code} {Q : State → Prop} {D : va_G} {A : Nat → Prop} {nL : Nat} {Ts : List Cond} {own : String} {cc : ByteArray} {tys : List (ClassId × FieldType)} {cells slots : Nat} {w : va_W} {pc : Nat} {lv lv' : List (Nat × Value)} {st : List Value} {α : Type}
theorem g_gets (F : gFx p m c cc nL s args Ts own D tys A) {C nm ds : String} {v : Value} {ix : Nat} (hZ : va_Z C nm ds v A s s.heap) (hlink : Cond.fieldLink own ix C nm ds ∈ Ts) (d : decode cc pc = .ok (.getstatic ix, 3)) (k : Go p l e R s m args below meth c Q D A nL cells slots w (pc + 3) lv (v :: st)) : Go p l e R s m args below meth c Q D A nL cells slots w pc lv st :=
  fun H locs ls hP hD hS hl => va_gets F.1 F.2.1 hZ hS F.2.2.2.1 (F.2.2.2.2.1 _ hlink) (fun _ h => h) d (k H locs ls hP hD hS hl)
theorem g_ti (F : gFx p m c cc nL s args Ts own D tys A) {t N j : Nat} {f : Nat → Value} {x : Int32} (hT : va_T .int t N f A s s.heap) (hj : j < N) (hN : N < 2 ^ 31) (hv : f j = .int x) (d : decode cc pc = .ok (.iaload, 1)) (k : Go p l e R s m args below meth c Q D A nL cells slots w (pc + 1) lv (.int x :: st)) : Go p l e R s m args below meth c Q D A nL cells slots w pc lv (.int (nI j) :: .ref t :: st) :=
  fun H locs ls hP hD hS hl => va_ti F.1 F.2.1 hT hS (vp_in_nI hj hN) (by rw [nI_clamp (Nat.lt_trans hj hN)]; exact hv) d (k H locs ls hP hD hS hl)
end GO6
def S_ord (j : Nat) : Int32 := match j with
  | 0 => 120
  | 1 => 24
  | 2 => 12
  | 3 => 12
  | 4 => 24
  | _ => 120
/-- the static table, and nobody writes it -/
def ordE (w : va_W) (sz : Nat) (U : State) : Prop := ∃ t : Nat, va_Z "CrowdReports" "ORDERS" "[I" (.ref t) (va_A w sz) U U.heap ∧ va_T .int t 6 (fun j => .int (S_ord j)) (va_A w sz) U U.heap
def S_shS (W : Nat → Int32) (k : Nat) : Nat → Int32
  | 0 => 0
  | i + 1 => if S_has (nI i) (nI k) then S_shS W k i else S_shS W k i + (W (S_orb i k) - W i) * S_ord (S_pc i)
theorem S_shS_t {W : Nat → Int32} {k i : Nat} (h : S_has (nI i) (nI k) = true) : S_shS W k (i + 1) = S_shS W k i := by rw [S_shS, if_pos h]
theorem S_shS_f {W : Nat → Int32} {k i : Nat} (h : S_has (nI i) (nI k) = false) : S_shS W k (i + 1) = S_shS W k i + (W (S_orb i k) - W i) * S_ord (S_pc i) := by rw [S_shS, if_neg (by rw [h]; decide)]
