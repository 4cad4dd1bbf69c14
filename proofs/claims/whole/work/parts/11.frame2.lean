section JB
variable {g : JX} {κ : JK} {cc : ByteArray} {own : String} {rm : Room} {nL pc cells slots : Nat} {lv : List (Nat × Value)} {rest : List Value} {ws : va_W}
theorem j_bastB (C : j_C g κ cc own rm nL) (q0 t0 : Nat) {a n : Nat} {cA : ClassId} {t : Nat → Nat} (ha : ws[q0]? = some (a, .inl (cA, n, .inl (bf t)))) (ht : (jT g)[t0]? = some (cA, .byte)) {i c : Nat} {x : Int32} (hi : i < n) (hn : n < 2 ^ 31) (hx : x.toInt8.toInt32 = sb_b c) {ws' : va_W} (hw : ws.set q0 (a, .inl (cA, n, .inl (bf (va_up t i c)))) = ws') (hdg : decode cc pc = .ok (.bastore, 1)) (k9 : j_V g κ cells slots (pc + 1) lv rest ws') : j_V g κ cells slots pc lv (.int x :: .int (nI i) :: .ref a :: rest) ws :=
  j_bastN C q0 t0 ha ht hi hn hx (by rw [bf_upd]; exact hw) hdg k9
theorem j_iastB (C : j_C g κ cc own rm nL) (q0 t0 : Nat) {a n : Nat} {cA : ClassId} {t : Nat → Nat} (ha : ws[q0]? = some (a, .inl (cA, n, .inl (nf t)))) (ht : (jT g)[t0]? = some (cA, .int)) {i c : Nat} (hi : i < n) (hn : n < 2 ^ 31) {ws' : va_W} (hw : ws.set q0 (a, .inl (cA, n, .inl (nf (va_up t i c)))) = ws') (hdg : decode cc pc = .ok (.iastore, 1)) (k9 : j_V g κ cells slots (pc + 1) lv rest ws') : j_V g κ cells slots pc lv (.int (nI c) :: .int (nI i) :: .ref a :: rest) ws :=
  j_iastN C q0 t0 ha ht hi hn (by rw [nf_upd]; exact hw) hdg k9
theorem j_laldN (C : j_C g κ cc own rm nL) (q0 t0 : Nat) {a n : Nat} {cA : ClassId} {f : Nat → Int64} (ha : ws[q0]? = some (a, .inl (cA, n, .inr (.inl f)))) (ht : (jT g)[t0]? = some (cA, .long)) {i : Nat} (hi : i < n) (hn : n < 2 ^ 31) (hdg : decode cc pc = .ok (.laload, 1)) (k9 : j_V g κ cells slots (pc + 1) lv (.long (f i) :: rest) ws) : j_V g κ cells slots pc lv (.int (nI i) :: .ref a :: rest) ws :=
  fun H locs ls hP hD hS hl => va_lald C.1 C.2.1 C.2.2.2.2.2.2.2.2.1 hP q0 t0 ha ht (vp_in_nI hi hn) hdg (by rw [nI_clamp (Nat.lt_trans hi hn)]; exact k9 H locs ls hP hD hS hl)
theorem j_lastN (C : j_C g κ cc own rm nL) (q0 t0 : Nat) {a n : Nat} {cA : ClassId} {f : Nat → Int64} (ha : ws[q0]? = some (a, .inl (cA, n, .inr (.inl f)))) (ht : (jT g)[t0]? = some (cA, .long)) {i : Nat} {x : Int64} (hi : i < n) (hn : n < 2 ^ 31) {ws' : va_W} (hw : ws.set q0 (a, .inl (cA, n, .inr (.inl (vp_updL f i x)))) = ws') (hdg : decode cc pc = .ok (.lastore, 1)) (k9 : j_V g κ cells slots (pc + 1) lv rest ws') : j_V g κ cells slots pc lv (.long x :: .int (nI i) :: .ref a :: rest) ws := by
  subst hw
  refine fun H locs ls hP hD hS hl => va_last C.1 C.2.1 C.2.2.2.2.2.2.2.2.1 hP hD hS q0 t0 ha ht (vp_in_nI hi hn) hdg (fun H1 locs1 a1 a2 a3 => ?_)
  rw [nI_clamp (Nat.lt_trans hi hn)] at a1 a2
  exact k9 H1 locs1 ls a1 a2 a3 hl
theorem j_lastB (C : j_C g κ cc own rm nL) (q0 t0 : Nat) {a n : Nat} {cA : ClassId} {t : Nat → Nat} (ha : ws[q0]? = some (a, .inl (cA, n, .inr (.inl (lf64 t))))) (ht : (jT g)[t0]? = some (cA, .long)) {i c : Nat} (hi : i < n) (hn : n < 2 ^ 31) {ws' : va_W} (hw : ws.set q0 (a, .inl (cA, n, .inr (.inl (lf64 (va_up t i c))))) = ws') (hdg : decode cc pc = .ok (.lastore, 1)) (k9 : j_V g κ cells slots (pc + 1) lv rest ws') : j_V g κ cells slots pc lv (.long (lN c) :: .int (nI i) :: .ref a :: rest) ws :=
  j_lastN C q0 t0 ha ht hi hn (by rw [lf_upd]; exact hw) hdg k9
theorem j_ifdn_lt (C : j_C g κ cc own rm nL) {off : Int} {tgt : Nat} (hdg : decode cc pc = .ok (.ifCond .lt off, 3)) (ht : (pc : Int) + off = (tgt : Int)) (k9 : j_V g κ cells slots tgt lv rest ws) : j_V g κ cells slots pc lv (.int (-1) :: rest) ws :=
  j_if_lt C hdg ht (fun _ => k9) (fun h => absurd (by decide) h)
theorem j_lcmpN (C : j_C g κ cc own rm nL) {a b : Nat} (hdg : decode cc pc = .ok (.lcmp, 1)) (k9 : j_V g κ cells slots (pc + 1) lv (.int (lg_cmp (lN a) (lN b)) :: rest) ws) : j_V g κ cells slots pc lv (.long (lN b) :: .long (lN a) :: rest) ws := j_lcmp C hdg k9
end JB
