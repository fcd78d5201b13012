section GO3
variable {p : Program} {l : Launch} {e : Env} {R : Room} {s : State} {m : MethodId} {args : Array Value} {below : List Frame} {meth : Method} {c : Code} {Q : State → Prop} {D : va_G} {A : Nat → Prop} {nL : Nat} {Ts : List Cond} {own : String} {cc : ByteArray} {tys : List (ClassId × FieldType)} {cells slots : Nat} {w : va_W} {pc : Nat} {lv lv' : List (Nat × Value)} {st : List Value} {cI : ClassId} {b : Nat → Nat} {f : Row} {x : Int32}
theorem set_mid {w1 wc w3 : va_W} {j : Nat} {v : Nat × va_E} (hj : j < wc.length) : (w1 ++ (wc ++ w3)).set (w1.length + j) v = w1 ++ (wc.set j v ++ w3) := by
  rw [List.set_append_right _ _ (by omega), show w1.length + j - w1.length = j by omega, List.set_append_left _ _ hj]
theorem at_mid {w1 wc w3 : va_W} {j : Nat} {v : Nat × va_E} (h : wc[j]? = some v) : (w1 ++ (wc ++ w3))[w1.length + j]? = some v := app_r (app_l h)
theorem g_xF66 (F : gFx p m c cc nL s args Ts own D tys A) (w1 w3 w2 : va_W) {ix : Nat} (hin : ∀ w ∈ u_ws RX0 TX0 14, w ∈ Ts) (hlink : Cond.fieldLink own ix (TX0 0).1 (TX0 0).2.1 (TX0 0).2.2.1 ∈ Ts) (d : decode cc pc = .ok (.putfield ix, 3)) (hw : w = w1 ++ (CR cI b f ++ w3)) (hw2 : w2 = w1 ++ (CR cI b (upd f 66 x) ++ w3)) (kk : Go p l e R s m args below meth c Q D A nL cells slots w2 (pc + 3) lv st) : Go p l e R s m args below meth c Q D A nL cells slots w pc lv (.int x :: .ref (b 0) :: st) := by
  subst hw hw2
  refine g_put F _ hin tyX0 tyX0_ok nmX0 (w1.length + 0) (at_mid (wc := CR cI b f) (j := 0) rfl) rfl 0 (by decide) rfl rfl rfl (Nat.le_of_ble_eq_true rfl) hlink d (set_mid (wc := CR cI b f) (j := 0) (Nat.zero_lt_succ _)) (g_wp (fun H h => ?_) ?_ kk)
  · rw [va_P_app, va_P_app] at h ⊢
    exact ⟨h.1, cr_F66 h.2.1, h.2.2⟩
  · rw [List.map_append, List.map_append, List.map_append, List.map_append]
    rfl
theorem g_xF67 (F : gFx p m c cc nL s args Ts own D tys A) (w1 w3 w2 : va_W) {ix : Nat} (hin : ∀ w ∈ u_ws RX0 TX0 14, w ∈ Ts) (hlink : Cond.fieldLink own ix (TX0 1).1 (TX0 1).2.1 (TX0 1).2.2.1 ∈ Ts) (d : decode cc pc = .ok (.putfield ix, 3)) (hw : w = w1 ++ (CR cI b f ++ w3)) (hw2 : w2 = w1 ++ (CR cI b (upd f 67 x) ++ w3)) (kk : Go p l e R s m args below meth c Q D A nL cells slots w2 (pc + 3) lv st) : Go p l e R s m args below meth c Q D A nL cells slots w pc lv (.int x :: .ref (b 0) :: st) := by
  subst hw hw2
  refine g_put F _ hin tyX0 tyX0_ok nmX0 (w1.length + 0) (at_mid (wc := CR cI b f) (j := 0) rfl) rfl 1 (by decide) rfl rfl rfl (Nat.le_of_ble_eq_true rfl) hlink d (set_mid (wc := CR cI b f) (j := 0) (Nat.zero_lt_succ _)) (g_wp (fun H h => ?_) ?_ kk)
  · rw [va_P_app, va_P_app] at h ⊢
    exact ⟨h.1, cr_F67 h.2.1, h.2.2⟩
  · rw [List.map_append, List.map_append, List.map_append, List.map_append]
    rfl
theorem g_xF68 (F : gFx p m c cc nL s args Ts own D tys A) (w1 w3 w2 : va_W) {ix : Nat} (hin : ∀ w ∈ u_ws RX0 TX0 14, w ∈ Ts) (hlink : Cond.fieldLink own ix (TX0 2).1 (TX0 2).2.1 (TX0 2).2.2.1 ∈ Ts) (d : decode cc pc = .ok (.putfield ix, 3)) (hw : w = w1 ++ (CR cI b f ++ w3)) (hw2 : w2 = w1 ++ (CR cI b (upd f 68 x) ++ w3)) (kk : Go p l e R s m args below meth c Q D A nL cells slots w2 (pc + 3) lv st) : Go p l e R s m args below meth c Q D A nL cells slots w pc lv (.int x :: .ref (b 0) :: st) := by
  subst hw hw2
  refine g_put F _ hin tyX0 tyX0_ok nmX0 (w1.length + 0) (at_mid (wc := CR cI b f) (j := 0) rfl) rfl 2 (by decide) rfl rfl rfl (Nat.le_of_ble_eq_true rfl) hlink d (set_mid (wc := CR cI b f) (j := 0) (Nat.zero_lt_succ _)) (g_wp (fun H h => ?_) ?_ kk)
  · rw [va_P_app, va_P_app] at h ⊢
    exact ⟨h.1, cr_F68 h.2.1, h.2.2⟩
  · rw [List.map_append, List.map_append, List.map_append, List.map_append]
    rfl
theorem g_xF69 (F : gFx p m c cc nL s args Ts own D tys A) (w1 w3 w2 : va_W) {ix : Nat} (hin : ∀ w ∈ u_ws RX0 TX0 14, w ∈ Ts) (hlink : Cond.fieldLink own ix (TX0 4).1 (TX0 4).2.1 (TX0 4).2.2.1 ∈ Ts) (d : decode cc pc = .ok (.putfield ix, 3)) (hw : w = w1 ++ (CR cI b f ++ w3)) (hw2 : w2 = w1 ++ (CR cI b (upd f 69 x) ++ w3)) (kk : Go p l e R s m args below meth c Q D A nL cells slots w2 (pc + 3) lv st) : Go p l e R s m args below meth c Q D A nL cells slots w pc lv (.int x :: .ref (b 0) :: st) := by
  subst hw hw2
  refine g_put F _ hin tyX0 tyX0_ok nmX0 (w1.length + 0) (at_mid (wc := CR cI b f) (j := 0) rfl) rfl 4 (by decide) rfl rfl rfl (Nat.le_of_ble_eq_true rfl) hlink d (set_mid (wc := CR cI b f) (j := 0) (Nat.zero_lt_succ _)) (g_wp (fun H h => ?_) ?_ kk)
  · rw [va_P_app, va_P_app] at h ⊢
    exact ⟨h.1, cr_F69 h.2.1, h.2.2⟩
  · rw [List.map_append, List.map_append, List.map_append, List.map_append]
    rfl
theorem g_aastM (F : gFx p m c cc nL s args Ts own D tys A) {a : Nat} {cA : ClassId} {rc : vw_C} {n v : Nat} {fa : Nat → Option Nat} {j : Nat} (w' : va_W) (q0 t0 ci : Nat) (ha : w[q0]? = some (a, .inl (cA, n, .inr (.inr (.inr (.inr fa)))))) (ht : tys[t0]? = some (cA, .object rc.1)) (hv : ∃ vs, (v, .inr (ci, vs)) ∈ w) (hc : vwCl[ci]? = some rc) (hj : j < n) (hn : n < 2 ^ 31) (d : decode cc pc = .ok (.aastore, 1)) (hw : w.set q0 (a, .inl (cA, n, .inr (.inr (.inr (.inr (va_up fa j (some v))))))) = w') (k : Go p l e R s m args below meth c Q D A nL cells slots w' (pc + 1) lv st) : Go p l e R s m args below meth c Q D A nL cells slots w pc lv (.ref v :: .int (nI j) :: .ref a :: st) := by
  obtain ⟨vs, hm⟩ := hv
  obtain ⟨qk, hqk⟩ := List.getElem?_of_mem hm
  exact g_aast F w' q0 t0 qk ci ha ht hqk hc hj hn d hw k
end GO3
