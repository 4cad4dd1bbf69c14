/-! THE FRAME OF ALL WALKS: a symbolic state (locals, stack, cells) in place of the machine's; a rule an instruction; contracts of one form. -/
/-- what stays while a method runs -/
abbrev JK : Type := Program × Launch × Env × Room × State × MethodId × Array Value × List Frame × Method × Code × (State → Prop) × (Nat → Prop) × Nat
abbrev kp (κ : JK) : Program := κ.1
abbrev kl (κ : JK) : Launch := κ.2.1
abbrev ke (κ : JK) : Env := κ.2.2.1
abbrev kR (κ : JK) : Room := κ.2.2.2.1
abbrev ks (κ : JK) : State := κ.2.2.2.2.1
abbrev km (κ : JK) : MethodId := κ.2.2.2.2.2.1
abbrev ka (κ : JK) : Array Value := κ.2.2.2.2.2.2.1
abbrev kb (κ : JK) : List Frame := κ.2.2.2.2.2.2.2.1
abbrev kM (κ : JK) : Method := κ.2.2.2.2.2.2.2.2.1
abbrev kc (κ : JK) : Code := κ.2.2.2.2.2.2.2.2.2.1
abbrev kQ (κ : JK) : State → Prop := κ.2.2.2.2.2.2.2.2.2.2.1
abbrev kA (κ : JK) : Nat → Prop := κ.2.2.2.2.2.2.2.2.2.2.2.1
abbrev kn (κ : JK) : Nat := κ.2.2.2.2.2.2.2.2.2.2.2.2
/-- what the tables, the nest's links and the static tables say, wherever a method of the system begins -/
def j_G (g : JX) (A : Nat → Prop) (U : State) (H : Heap) : Prop := va_K (jD g) vwCl (jT g) U ∧ (∀ w ∈ jN, va_Nw w U) ∧ j_Z g A U H
def j_V (g : JX) (κ : JK) (cells slots pc : Nat) (lv : List (Nat × Value)) (st : List Value) (ws : va_W) : Prop :=
  ∀ (H : Heap) (locs : List Loc) (ls : Array Slot), va_P (jD g) vwCl ws H → va_D (kA κ) ws → va_S (kA κ) (ks κ).heap H locs → lv_has ls (kn κ) lv →
    W (kp κ) (kl κ) (ke κ) (kR κ) (ks κ) (km κ) (ka κ) (kb κ) (kM κ) (kc κ) H locs cells slots (kQ κ) (F0 (km κ) pc ls st)
def j_C (g : JX) (κ : JK) (cc : ByteArray) (own : String) (rm : Room) (nL : Nat) : Prop :=
  (kp κ).tables.exec = Jvm.exec ∧ (kc κ).code = cc ∧ (ks κ).vm.findClass own = some (km κ).cls ∧ (∀ w ∈ TB, w.before (ka κ) (ks κ) = true) ∧ (kc κ).maxLocals = nL ∧ kn κ = nL ∧ kR κ = rm ∧ (∀ q : Nat, (ks κ).heap.size ≤ q → kA κ q) ∧ j_G g (kA κ) (ks κ) (ks κ).heap
/-- a contract's start and end -/
def j_Pre (g : JX) (wc : va_W) (sz : Nat) (av : List Value) : Array Value → State → Prop := va_Pc av (fun U => U.heap.size = sz ∧ va_P (jD g) vwCl wc U.heap ∧ va_D (fun _ => True) wc ∧ j_G g (va_A wc sz) U U.heap)
def j_Post (g : JX) (wc : va_W) (sz : Nat) (O : Option Value → va_W → Prop) : Array Value → State → Outcome → State → Prop := fun _ st oc t => (∃ (r : Option Value) (w1 : va_W), oc = .returned r ∧ O r w1 ∧ va_P (jD g) vwCl w1 t.heap ∧ va_D (va_A wc sz) w1) ∧ va_F (va_A wc sz) st t
def j_Ct (l : Launch) (y : MethodName) (cc : ByteArray) (nL : Nat) (ret : Option FieldType) (rm : Room) (g : JX) (wc : va_W) (av : List Value) (O : Option Value → va_W → Prop) (mc ms : Nat) : Prop :=
  ∀ sz : Nat, Met l y (.code y cc nL ret :: TB) rm (j_Pre g wc sz av) (j_Post g wc sz O) mc ms (va_A wc sz)
/-- what a return needs -/
def j_R (g : JX) (κ : JK) (cc : ByteArray) (ret : Option FieldType) (O : Option Value → va_W → Prop) (mc ms : Nat) : Prop :=
  (∀ (pc : Nat) (lv : List (Nat × Value)) (ws : va_W) (v : Int32), decode cc pc = .ok (.ireturn, 1) → (∃ ty, ret = some ty ∧ narrow ty (.int v) = .int v) → O (some (.int v)) ws → j_V g κ mc ms pc lv [.int v] ws) ∧
  (∀ (pc : Nat) (lv : List (Nat × Value)) (ws : va_W) (v : Int64), decode cc pc = .ok (.lreturn, 1) → ret = some .long → O (some (.long v)) ws → j_V g κ mc ms pc lv [.long v] ws) ∧
  (∀ (pc : Nat) (lv : List (Nat × Value)) (ws : va_W), decode cc pc = .ok (.return_, 1) → ret = none → O none ws → j_V g κ mc ms pc lv [] ws)
-- worlds by membership
theorem j_mem {ws : va_W} {q : Nat × va_E} (h : q ∈ ws) : ∃ k : Nat, ws[k]? = some q := List.getElem?_of_mem h
theorem j_P_of {D : va_G} {cl : List vw_C} {ws : va_W} {H : Heap} (h : ∀ q ∈ ws, va_at D cl q H) : va_P D cl ws H := fun _ q hq => h q (List.mem_of_getElem? hq)
theorem j_P_at {D : va_G} {cl : List vw_C} {ws : va_W} {H : Heap} (h : va_P D cl ws H) {q : Nat × va_E} (hq : q ∈ ws) : va_at D cl q H := by
  obtain ⟨k, hk⟩ := j_mem hq
  exact h k q hk
theorem j_D_in {A : Nat → Prop} {ws : va_W} (h : va_D A ws) {q : Nat × va_E} (hq : q ∈ ws) : A q.1 := by
  obtain ⟨k, hk⟩ := j_mem hq
  exact h.2 k q hk
theorem j_D_left {A : Nat → Prop} {w1 w2 : va_W} (h : va_D A (w1 ++ w2)) : va_D A w1 := by
  refine ⟨fun i j p q hi hj e => ?_, fun k q hk => ?_⟩
  · refine h.1 i j p q ?_ ?_ e
    · rw [List.getElem?_append_left (List.getElem?_eq_some_iff.mp hi).1]; exact hi
    · rw [List.getElem?_append_left (List.getElem?_eq_some_iff.mp hj).1]; exact hj
  · refine h.2 k q ?_
    rw [List.getElem?_append_left (List.getElem?_eq_some_iff.mp hk).1]; exact hk
theorem j_D_right {A : Nat → Prop} {w1 w2 : va_W} (h : va_D A (w1 ++ w2)) : va_D A w2 := by
  have e : ∀ k : Nat, (w1 ++ w2)[w1.length + k]? = w2[k]? := fun k => by
    rw [List.getElem?_append_right (Nat.le_add_right _ _), Nat.add_sub_cancel_left]
  refine ⟨fun i j p q hi hj eq => ?_, fun k q hk => ?_⟩
  · have := h.1 (w1.length + i) (w1.length + j) p q (by rw [e]; exact hi) (by rw [e]; exact hj) eq
    omega
  · exact h.2 (w1.length + k) q (by rw [e]; exact hk)
theorem j_D_apart {A : Nat → Prop} {w1 w2 : va_W} (h : va_D A (w1 ++ w2)) {p q : Nat × va_E} (hp : p ∈ w1) (hq : q ∈ w2) : p.1 ≠ q.1 := by
  obtain ⟨i, hi⟩ := j_mem hp
  obtain ⟨j, hj⟩ := j_mem hq
  intro e
  have hil := (List.getElem?_eq_some_iff.mp hi).1
  have := h.1 i (w1.length + j) p q (by rw [List.getElem?_append_left hil]; exact hi) (by rw [List.getElem?_append_right (Nat.le_add_right _ _), Nat.add_sub_cancel_left]; exact hj) e
  omega
theorem j_D_app {A : Nat → Prop} {w1 w2 : va_W} (h1 : va_D A w1) (h2 : va_D A w2) (hx : ∀ p ∈ w1, ∀ q ∈ w2, p.1 ≠ q.1) : va_D A (w1 ++ w2) := h1.app h2 (fun _ _ p q hp hq => hx p (List.mem_of_getElem? hp) q (List.mem_of_getElem? hq))
/-- a part of a world -/
def j_Sb (ws ws' : va_W) : Prop := (∀ q ∈ ws', q ∈ ws) ∧ ∀ A : Nat → Prop, va_D A ws → va_D A ws'
theorem j_Sb.refl (ws : va_W) : j_Sb ws ws := ⟨fun _ h => h, fun _ h => h⟩
theorem j_Sb.trans {a b c : va_W} (h1 : j_Sb a b) (h2 : j_Sb b c) : j_Sb a c := ⟨fun q h => h1.1 q (h2.1 q h), fun A h => h2.2 A (h1.2 A h)⟩
theorem j_Sb.P {ws ws' : va_W} (h : j_Sb ws ws') {D : va_G} {cl : List vw_C} {H : Heap} (hP : va_P D cl ws H) : va_P D cl ws' H := j_P_of fun q hq => j_P_at hP (h.1 q hq)
theorem j_sb {ws ws' : va_W} (is : List Nat) (hn : va_nd is = true) (hs : is.map (fun i => ws[i]?) = ws'.map some) : j_Sb ws ws' := by
  refine ⟨fun q hq => ?_, fun A h => h.sub is hn hs⟩
  have h1 : some q ∈ ws'.map some := List.mem_map.mpr ⟨q, hq, rfl⟩
  rw [← hs] at h1
  obtain ⟨i, -, hi⟩ := List.mem_map.mp h1
  exact List.mem_of_getElem? hi
theorem j_Sb.app {a b : va_W} (h : j_Sb a b) (c : va_W) : j_Sb (a ++ c) (b ++ c) := by
  refine ⟨fun q hq => ?_, fun A hD => j_D_app (h.2 A (j_D_left hD)) (j_D_right hD) (fun p hp q hq => j_D_apart hD (h.1 p hp) hq)⟩
  rcases List.mem_append.mp hq with h1 | h1
  · exact List.mem_append_left _ (h.1 q h1)
  · exact List.mem_append_right _ h1
theorem j_Sb.swap (a b : va_W) : j_Sb (a ++ b) (b ++ a) := by
  refine ⟨fun q hq => ?_, fun A hD => j_D_app (j_D_right hD) (j_D_left hD) (fun p hp q hq e => j_D_apart hD hq hp e.symm)⟩
  rcases List.mem_append.mp hq with h1 | h1
  · exact List.mem_append_right _ h1
  · exact List.mem_append_left _ h1
theorem j_Sb.left (a b : va_W) : j_Sb (a ++ b) a := ⟨fun q hq => List.mem_append_left _ hq, fun A hD => j_D_left hD⟩
theorem j_join {A0 : Nat → Prop} {D : va_G} {cl : List vw_C} {wc wr w1 : va_W} {H H1 : Heap} (hP : va_P D cl (wc ++ wr) H) (hD : va_D A0 (wc ++ wr))
    (hk : ∀ q : Nat, q < H.size → ¬ va_A wc H.size q → H1[q]? = H[q]?) (hF : ∀ q, va_A wc H.size q → A0 q) (hP1 : va_P D cl w1 H1) (hD1 : va_D (va_A wc H.size) w1) : va_P D cl (w1 ++ wr) H1 ∧ va_D A0 (w1 ++ wr) := by
  have key : ∀ q ∈ wr, q.1 < H.size ∧ ¬ va_A wc H.size q.1 := by
    intro q hq
    have hl := (j_P_at hP (List.mem_append_right wc hq)).lt
    refine ⟨hl, fun h => ?_⟩
    rcases h with ⟨k, e, h⟩ | h
    · exact j_D_apart hD (List.mem_of_getElem? h) hq rfl
    · omega
  refine ⟨hP1.app (j_P_of fun q hq => ?_), j_D_app (hD1.weaken (fun _ _ _ h => hF _ h)) (j_D_right hD) (fun p hp q hq e => ?_)⟩
  · obtain ⟨h1, h2⟩ := key q hq
    exact (j_P_at hP (List.mem_append_right wc hq)).kept (hk _ h1 h2)
  · exact (key q hq).2 (by rw [← e]; exact j_D_in hD1 hp)
theorem j_freeA {A0 : Nat → Prop} {wc : va_W} {H0 H : Heap} {locs : List Loc} (hD : va_D A0 wc) (hS : va_S A0 H0 H locs) (hA : ∀ q : Nat, H0.size ≤ q → A0 q) : ∀ q, va_A wc H.size q → A0 q := by
  intro q h
  rcases h with ⟨k, e, h⟩ | h
  · exact hD.2 k (q, e) h
  · exact hA q (Nat.le_trans hS.1 h)
-- what holds of the tables is carried into a call
theorem j_nest {s U : State} (hW : s.WarmedH U.vm) (h : ∀ w ∈ jN, va_Nw w s) : ∀ w ∈ jN, va_Nw w U := by
  intro w hw
  have h1 := h w hw
  have h2 : j_isNest w = true := List.all_eq_true.mp jN_ok w hw
  cases w <;> first | exact va_Nw.warmM hW h1 | exact va_Nw.warmF hW h1 | (simp [j_isNest] at h2)
theorem j_G.go {g : JX} {A B : Nat → Prop} {s U : State} {H : Heap} {locs : List Loc} (h : j_G g A s s.heap) (hU : U.heap = H) (hW : s.WarmedH U.vm) (hS : va_S A s.heap H locs) (hAB : ∀ q, B q → A q) : j_G g B U U.heap := by
  refine ⟨va_K.moved hW.alike h.1, j_nest hW h.2.1, ?_⟩
  rw [hU]
  exact j_Z.go h.2.2 hW.alike (fun a h1 h2 => hS.2.1 a h1 h2) hAB
theorem j_blind {g : JX} {wc : va_W} {sz : Nat} {av : List Value} : FrameBlind (j_Pre g wc sz av) := by
  intro a U f mk q
  obtain ⟨q0, q1, qP, qD, qK, qN, qZ⟩ := q
  exact ⟨q0, q1, qP, qD, va_K.moved (u := U) (U := U.calling f mk a) (Vm.Alike.refl U.vm) qK, fun w hw => va_Nw.same (u := U) (U := U.calling f mk a) (j_nest_on hw) rfl (qN w hw), j_Z.go qZ (Vm.Alike.refl U.vm) (fun _ _ _ => rfl) (fun _ h => h)⟩
theorem j_goodC {y : MethodName} {cc : ByteArray} {nL : Nat} {ret : Option FieldType} (h : Cond.code y cc nL ret ∈ TB) : GoodIn TB (.code y cc nL ret :: TB) := by
  intro w hw
  rcases List.mem_cons.mp hw with rfl | hw
  · exact TB_good _ h
  · exact TB_good _ hw
theorem j_iconst {g : JX} {κ : JK} {cc : ByteArray} {own : String} {rm : Room} {nL pc cells slots : Nat} {lv : List (Nat × Value)} {rest : List Value} {ws : va_W} (C : j_C g κ cc own rm nL) {n : Int} {v : Int32} (hdg : decode cc pc = .ok (.iconst n, 1)) (hv : Int32.ofInt n = v) (k9 : j_V g κ cells slots (pc + 1) lv (.int v :: rest) ws) : j_V g κ cells slots pc lv (rest) ws := by
  exact fun H locs ls hP hD hS hL9 => lv_iconst C.1 C.2.1 hdg hv (k9 H locs ls hP hD hS hL9)
theorem j_bipush {g : JX} {κ : JK} {cc : ByteArray} {own : String} {rm : Room} {nL pc cells slots : Nat} {lv : List (Nat × Value)} {rest : List Value} {ws : va_W} (C : j_C g κ cc own rm nL) {n : Int} {v : Int32} (hdg : decode cc pc = .ok (.bipush n, 2)) (hv : (Int8.ofInt n).toInt32 = v) (k9 : j_V g κ cells slots (pc + 2) lv (.int v :: rest) ws) : j_V g κ cells slots pc lv (rest) ws := by
  exact fun H locs ls hP hD hS hL9 => lv_bipush C.1 C.2.1 hdg hv (k9 H locs ls hP hD hS hL9)
theorem j_sipush {g : JX} {κ : JK} {cc : ByteArray} {own : String} {rm : Room} {nL pc cells slots : Nat} {lv : List (Nat × Value)} {rest : List Value} {ws : va_W} (C : j_C g κ cc own rm nL) {n : Int} {v : Int32} (hdg : decode cc pc = .ok (.sipush n, 3)) (hv : (Int16.ofInt n).toInt32 = v) (k9 : j_V g κ cells slots (pc + 3) lv (.int v :: rest) ws) : j_V g κ cells slots pc lv (rest) ws := by
  exact fun H locs ls hP hD hS hL9 => lv_sipush C.1 C.2.1 hdg hv (k9 H locs ls hP hD hS hL9)
theorem j_lconst {g : JX} {κ : JK} {cc : ByteArray} {own : String} {rm : Room} {nL pc cells slots : Nat} {lv : List (Nat × Value)} {rest : List Value} {ws : va_W} (C : j_C g κ cc own rm nL) {n : Fin 2} {v : Int64} (hdg : decode cc pc = .ok (.lconst n, 1)) (hv : Int64.ofNat (n : Nat) = v) (k9 : j_V g κ cells slots (pc + 1) lv (.long v :: rest) ws) : j_V g κ cells slots pc lv (rest) ws := by
  exact fun H locs ls hP hD hS hL9 => lv_lconst C.1 C.2.1 hdg hv (k9 H locs ls hP hD hS hL9)
theorem j_iload_n {g : JX} {κ : JK} {cc : ByteArray} {own : String} {rm : Room} {nL pc cells slots : Nat} {lv : List (Nat × Value)} {rest : List Value} {ws : va_W} (C : j_C g κ cc own rm nL) {k : Fin 4} {i : Nat} {x : Int32} (hdg : decode cc pc = .ok (.iload_n k, 1)) (hi : (k : Nat) = i) (j : Nat) (hj : lv[j]? = some (i, .int x)) (k9 : j_V g κ cells slots (pc + 1) lv (.int x :: rest) ws) : j_V g κ cells slots pc lv (rest) ws := by
  exact fun H locs ls hP hD hS hL9 => lv_iload_n C.1 C.2.1 hdg hi (lv_at hL9 j hj) (k9 H locs ls hP hD hS hL9)
theorem j_iload {g : JX} {κ : JK} {cc : ByteArray} {own : String} {rm : Room} {nL pc cells slots : Nat} {lv : List (Nat × Value)} {rest : List Value} {ws : va_W} (C : j_C g κ cc own rm nL) {i : Nat} {x : Int32} (hdg : decode cc pc = .ok (.iload i, 2)) (j : Nat) (hj : lv[j]? = some (i, .int x)) (k9 : j_V g κ cells slots (pc + 2) lv (.int x :: rest) ws) : j_V g κ cells slots pc lv (rest) ws := by
  exact fun H locs ls hP hD hS hL9 => lv_iload C.1 C.2.1 hdg (lv_at hL9 j hj) (k9 H locs ls hP hD hS hL9)
theorem j_lload_n {g : JX} {κ : JK} {cc : ByteArray} {own : String} {rm : Room} {nL pc cells slots : Nat} {lv : List (Nat × Value)} {rest : List Value} {ws : va_W} (C : j_C g κ cc own rm nL) {k : Fin 4} {i : Nat} {x : Int64} (hdg : decode cc pc = .ok (.lload_n k, 1)) (hi : (k : Nat) = i) (j : Nat) (hj : lv[j]? = some (i, .long x)) (k9 : j_V g κ cells slots (pc + 1) lv (.long x :: rest) ws) : j_V g κ cells slots pc lv (rest) ws := by
  exact fun H locs ls hP hD hS hL9 => lv_lload_n C.1 C.2.1 hdg hi (lv_at hL9 j hj) (k9 H locs ls hP hD hS hL9)
theorem j_lload {g : JX} {κ : JK} {cc : ByteArray} {own : String} {rm : Room} {nL pc cells slots : Nat} {lv : List (Nat × Value)} {rest : List Value} {ws : va_W} (C : j_C g κ cc own rm nL) {i : Nat} {x : Int64} (hdg : decode cc pc = .ok (.lload i, 2)) (j : Nat) (hj : lv[j]? = some (i, .long x)) (k9 : j_V g κ cells slots (pc + 2) lv (.long x :: rest) ws) : j_V g κ cells slots pc lv (rest) ws := by
  exact fun H locs ls hP hD hS hL9 => lv_lload C.1 C.2.1 hdg (lv_at hL9 j hj) (k9 H locs ls hP hD hS hL9)
theorem j_aload_n {g : JX} {κ : JK} {cc : ByteArray} {own : String} {rm : Room} {nL pc cells slots : Nat} {lv : List (Nat × Value)} {rest : List Value} {ws : va_W} (C : j_C g κ cc own rm nL) {k : Fin 4} {i : Nat} {x : Nat} (hdg : decode cc pc = .ok (.aload_n k, 1)) (hi : (k : Nat) = i) (j : Nat) (hj : lv[j]? = some (i, .ref x)) (k9 : j_V g κ cells slots (pc + 1) lv (.ref x :: rest) ws) : j_V g κ cells slots pc lv (rest) ws := by
  exact fun H locs ls hP hD hS hL9 => lv_aload_n C.1 C.2.1 hdg hi (lv_at hL9 j hj) (k9 H locs ls hP hD hS hL9)
theorem j_aload {g : JX} {κ : JK} {cc : ByteArray} {own : String} {rm : Room} {nL pc cells slots : Nat} {lv : List (Nat × Value)} {rest : List Value} {ws : va_W} (C : j_C g κ cc own rm nL) {i : Nat} {x : Nat} (hdg : decode cc pc = .ok (.aload i, 2)) (j : Nat) (hj : lv[j]? = some (i, .ref x)) (k9 : j_V g κ cells slots (pc + 2) lv (.ref x :: rest) ws) : j_V g κ cells slots pc lv (rest) ws := by
  exact fun H locs ls hP hD hS hL9 => lv_aload C.1 C.2.1 hdg (lv_at hL9 j hj) (k9 H locs ls hP hD hS hL9)
theorem j_istore_n {g : JX} {κ : JK} {cc : ByteArray} {own : String} {rm : Room} {nL pc cells slots : Nat} {lv : List (Nat × Value)} {lv' : List (Nat × Value)} {rest : List Value} {ws : va_W} (C : j_C g κ cc own rm nL) {k : Fin 4} {i : Nat} {x : Int32} (hdg : decode cc pc = .ok (.istore_n k, 1)) (hi : (k : Nat) = i) (hn : i < nL) (hl : (i, Value.int x) :: lv.filter (fun q => !(q.1 == i) && !(q.1 + 1 == i && q.2.category == 2)) = lv') (k9 : j_V g κ cells slots (pc + 1) lv' rest ws) : j_V g κ cells slots pc lv (.int x :: rest) ws := by
  obtain ⟨h1, h2, h3, h4, h5, h6, h7⟩ := id C
  subst h6
  exact fun H locs ls hP hD hS hL9 => lv_istore_n C.1 C.2.1 hdg hi hL9 hn hl (fun ls' h' => k9 H locs ls' hP hD hS h')
theorem j_istore {g : JX} {κ : JK} {cc : ByteArray} {own : String} {rm : Room} {nL pc cells slots : Nat} {lv : List (Nat × Value)} {lv' : List (Nat × Value)} {rest : List Value} {ws : va_W} (C : j_C g κ cc own rm nL) {i : Nat} {x : Int32} (hdg : decode cc pc = .ok (.istore i, 2)) (hn : i < nL) (hl : (i, Value.int x) :: lv.filter (fun q => !(q.1 == i) && !(q.1 + 1 == i && q.2.category == 2)) = lv') (k9 : j_V g κ cells slots (pc + 2) lv' rest ws) : j_V g κ cells slots pc lv (.int x :: rest) ws := by
  obtain ⟨h1, h2, h3, h4, h5, h6, h7⟩ := id C
  subst h6
  exact fun H locs ls hP hD hS hL9 => lv_istore C.1 C.2.1 hdg hL9 hn hl (fun ls' h' => k9 H locs ls' hP hD hS h')
theorem j_lstore_n {g : JX} {κ : JK} {cc : ByteArray} {own : String} {rm : Room} {nL pc cells slots : Nat} {lv : List (Nat × Value)} {lv' : List (Nat × Value)} {rest : List Value} {ws : va_W} (C : j_C g κ cc own rm nL) {k : Fin 4} {i : Nat} {x : Int64} (hdg : decode cc pc = .ok (.lstore_n k, 1)) (hi : (k : Nat) = i) (hn : i + 1 < nL) (hl : (i, Value.long x) :: lv.filter (fun q => !(q.1 == i) && (!(q.1 == i + 1) && !(q.1 + 1 == i && q.2.category == 2))) = lv') (k9 : j_V g κ cells slots (pc + 1) lv' rest ws) : j_V g κ cells slots pc lv (.long x :: rest) ws := by
  obtain ⟨h1, h2, h3, h4, h5, h6, h7⟩ := id C
  subst h6
  exact fun H locs ls hP hD hS hL9 => lv_lstore_n C.1 C.2.1 hdg hi hL9 hn hl (fun ls' h' => k9 H locs ls' hP hD hS h')
theorem j_lstore {g : JX} {κ : JK} {cc : ByteArray} {own : String} {rm : Room} {nL pc cells slots : Nat} {lv : List (Nat × Value)} {lv' : List (Nat × Value)} {rest : List Value} {ws : va_W} (C : j_C g κ cc own rm nL) {i : Nat} {x : Int64} (hdg : decode cc pc = .ok (.lstore i, 2)) (hn : i + 1 < nL) (hl : (i, Value.long x) :: lv.filter (fun q => !(q.1 == i) && (!(q.1 == i + 1) && !(q.1 + 1 == i && q.2.category == 2))) = lv') (k9 : j_V g κ cells slots (pc + 2) lv' rest ws) : j_V g κ cells slots pc lv (.long x :: rest) ws := by
  obtain ⟨h1, h2, h3, h4, h5, h6, h7⟩ := id C
  subst h6
  exact fun H locs ls hP hD hS hL9 => lv_lstore C.1 C.2.1 hdg hL9 hn hl (fun ls' h' => k9 H locs ls' hP hD hS h')
theorem j_astore_n {g : JX} {κ : JK} {cc : ByteArray} {own : String} {rm : Room} {nL pc cells slots : Nat} {lv : List (Nat × Value)} {lv' : List (Nat × Value)} {rest : List Value} {ws : va_W} (C : j_C g κ cc own rm nL) {k : Fin 4} {i : Nat} {x : Nat} (hdg : decode cc pc = .ok (.astore_n k, 1)) (hi : (k : Nat) = i) (hn : i < nL) (hl : (i, Value.ref x) :: lv.filter (fun q => !(q.1 == i) && !(q.1 + 1 == i && q.2.category == 2)) = lv') (k9 : j_V g κ cells slots (pc + 1) lv' rest ws) : j_V g κ cells slots pc lv (.ref x :: rest) ws := by
  obtain ⟨h1, h2, h3, h4, h5, h6, h7⟩ := id C
  subst h6
  exact fun H locs ls hP hD hS hL9 => lv_astore_n C.1 C.2.1 hdg hi hL9 hn hl (fun ls' h' => k9 H locs ls' hP hD hS h')
theorem j_astore {g : JX} {κ : JK} {cc : ByteArray} {own : String} {rm : Room} {nL pc cells slots : Nat} {lv : List (Nat × Value)} {lv' : List (Nat × Value)} {rest : List Value} {ws : va_W} (C : j_C g κ cc own rm nL) {i : Nat} {x : Nat} (hdg : decode cc pc = .ok (.astore i, 2)) (hn : i < nL) (hl : (i, Value.ref x) :: lv.filter (fun q => !(q.1 == i) && !(q.1 + 1 == i && q.2.category == 2)) = lv') (k9 : j_V g κ cells slots (pc + 2) lv' rest ws) : j_V g κ cells slots pc lv (.ref x :: rest) ws := by
  obtain ⟨h1, h2, h3, h4, h5, h6, h7⟩ := id C
  subst h6
  exact fun H locs ls hP hD hS hL9 => lv_astore C.1 C.2.1 hdg hL9 hn hl (fun ls' h' => k9 H locs ls' hP hD hS h')
theorem j_iinc {g : JX} {κ : JK} {cc : ByteArray} {own : String} {rm : Room} {nL pc cells slots : Nat} {lv : List (Nat × Value)} {lv' : List (Nat × Value)} {rest : List Value} {ws : va_W} (C : j_C g κ cc own rm nL) {i k : Nat} {n : Int} {x v : Int32} (hdg : decode cc pc = .ok (.iinc i n, 3)) (hk : lv[k]? = some (i, .int x)) (hv : x + Int32.ofInt n = v) (hn : i < nL) (hl : (i, Value.int v) :: lv.filter (fun q => !(q.1 == i) && !(q.1 + 1 == i && q.2.category == 2)) = lv') (k9 : j_V g κ cells slots (pc + 3) lv' rest ws) : j_V g κ cells slots pc lv rest ws := by
  obtain ⟨h1, h2, h3, h4, h5, h6, h7⟩ := id C
  subst h6
  exact fun H locs ls hP hD hS hL9 => lv_iinc C.1 C.2.1 hdg hL9 hk hv hn hl (fun ls' h' => k9 H locs ls' hP hD hS h')
theorem j_iadd {g : JX} {κ : JK} {cc : ByteArray} {own : String} {rm : Room} {nL pc cells slots : Nat} {lv : List (Nat × Value)} {rest : List Value} {ws : va_W} (C : j_C g κ cc own rm nL) {x y : Int32} (hdg : decode cc pc = .ok (.iadd, 1)) (k9 : j_V g κ cells slots (pc + 1) lv (.int (x + y) :: rest) ws) : j_V g κ cells slots pc lv (.int y :: .int x :: rest) ws := by
  exact fun H locs ls hP hD hS hL9 => lv_iadd C.1 C.2.1 hdg (k9 H locs ls hP hD hS hL9)
theorem j_isub {g : JX} {κ : JK} {cc : ByteArray} {own : String} {rm : Room} {nL pc cells slots : Nat} {lv : List (Nat × Value)} {rest : List Value} {ws : va_W} (C : j_C g κ cc own rm nL) {x y : Int32} (hdg : decode cc pc = .ok (.isub, 1)) (k9 : j_V g κ cells slots (pc + 1) lv (.int (x - y) :: rest) ws) : j_V g κ cells slots pc lv (.int y :: .int x :: rest) ws := by
  exact fun H locs ls hP hD hS hL9 => lv_isub C.1 C.2.1 hdg (k9 H locs ls hP hD hS hL9)
theorem j_imul {g : JX} {κ : JK} {cc : ByteArray} {own : String} {rm : Room} {nL pc cells slots : Nat} {lv : List (Nat × Value)} {rest : List Value} {ws : va_W} (C : j_C g κ cc own rm nL) {x y : Int32} (hdg : decode cc pc = .ok (.imul, 1)) (k9 : j_V g κ cells slots (pc + 1) lv (.int (x * y) :: rest) ws) : j_V g κ cells slots pc lv (.int y :: .int x :: rest) ws := by
  exact fun H locs ls hP hD hS hL9 => lv_imul C.1 C.2.1 hdg (k9 H locs ls hP hD hS hL9)
theorem j_iand {g : JX} {κ : JK} {cc : ByteArray} {own : String} {rm : Room} {nL pc cells slots : Nat} {lv : List (Nat × Value)} {rest : List Value} {ws : va_W} (C : j_C g κ cc own rm nL) {x y : Int32} (hdg : decode cc pc = .ok (.iand, 1)) (k9 : j_V g κ cells slots (pc + 1) lv (.int (x &&& y) :: rest) ws) : j_V g κ cells slots pc lv (.int y :: .int x :: rest) ws := by
  exact fun H locs ls hP hD hS hL9 => lv_iand C.1 C.2.1 hdg (k9 H locs ls hP hD hS hL9)
theorem j_ior {g : JX} {κ : JK} {cc : ByteArray} {own : String} {rm : Room} {nL pc cells slots : Nat} {lv : List (Nat × Value)} {rest : List Value} {ws : va_W} (C : j_C g κ cc own rm nL) {x y : Int32} (hdg : decode cc pc = .ok (.ior, 1)) (k9 : j_V g κ cells slots (pc + 1) lv (.int (x ||| y) :: rest) ws) : j_V g κ cells slots pc lv (.int y :: .int x :: rest) ws := by
  exact fun H locs ls hP hD hS hL9 => lv_ior C.1 C.2.1 hdg (k9 H locs ls hP hD hS hL9)
theorem j_ixor {g : JX} {κ : JK} {cc : ByteArray} {own : String} {rm : Room} {nL pc cells slots : Nat} {lv : List (Nat × Value)} {rest : List Value} {ws : va_W} (C : j_C g κ cc own rm nL) {x y : Int32} (hdg : decode cc pc = .ok (.ixor, 1)) (k9 : j_V g κ cells slots (pc + 1) lv (.int (x ^^^ y) :: rest) ws) : j_V g κ cells slots pc lv (.int y :: .int x :: rest) ws := by
  exact fun H locs ls hP hD hS hL9 => lv_ixor C.1 C.2.1 hdg (k9 H locs ls hP hD hS hL9)
theorem j_idiv {g : JX} {κ : JK} {cc : ByteArray} {own : String} {rm : Room} {nL pc cells slots : Nat} {lv : List (Nat × Value)} {rest : List Value} {ws : va_W} (C : j_C g κ cc own rm nL) {x y : Int32} (hdg : decode cc pc = .ok (.idiv, 1)) (hne : ¬ y = 0) (k9 : j_V g κ cells slots (pc + 1) lv (.int (x / y) :: rest) ws) : j_V g κ cells slots pc lv (.int y :: .int x :: rest) ws := by
  exact fun H locs ls hP hD hS hL9 => lv_idiv C.1 C.2.1 hdg hne (k9 H locs ls hP hD hS hL9)
theorem j_irem {g : JX} {κ : JK} {cc : ByteArray} {own : String} {rm : Room} {nL pc cells slots : Nat} {lv : List (Nat × Value)} {rest : List Value} {ws : va_W} (C : j_C g κ cc own rm nL) {x y : Int32} (hdg : decode cc pc = .ok (.irem, 1)) (hne : ¬ y = 0) (k9 : j_V g κ cells slots (pc + 1) lv (.int (x - x / y * y) :: rest) ws) : j_V g κ cells slots pc lv (.int y :: .int x :: rest) ws := by
  exact fun H locs ls hP hD hS hL9 => lv_irem C.1 C.2.1 hdg hne (k9 H locs ls hP hD hS hL9)
theorem j_ineg {g : JX} {κ : JK} {cc : ByteArray} {own : String} {rm : Room} {nL pc cells slots : Nat} {lv : List (Nat × Value)} {rest : List Value} {ws : va_W} (C : j_C g κ cc own rm nL) {x : Int32} (hdg : decode cc pc = .ok (.ineg, 1)) (k9 : j_V g κ cells slots (pc + 1) lv (.int (-x) :: rest) ws) : j_V g κ cells slots pc lv (.int x :: rest) ws := by
  exact fun H locs ls hP hD hS hL9 => lv_ineg C.1 C.2.1 hdg (k9 H locs ls hP hD hS hL9)
theorem j_ladd {g : JX} {κ : JK} {cc : ByteArray} {own : String} {rm : Room} {nL pc cells slots : Nat} {lv : List (Nat × Value)} {rest : List Value} {ws : va_W} (C : j_C g κ cc own rm nL) {x y : Int64} (hdg : decode cc pc = .ok (.ladd, 1)) (k9 : j_V g κ cells slots (pc + 1) lv (.long (x + y) :: rest) ws) : j_V g κ cells slots pc lv (.long y :: .long x :: rest) ws := by
  exact fun H locs ls hP hD hS hL9 => lv_ladd C.1 C.2.1 hdg (k9 H locs ls hP hD hS hL9)
theorem j_lsub {g : JX} {κ : JK} {cc : ByteArray} {own : String} {rm : Room} {nL pc cells slots : Nat} {lv : List (Nat × Value)} {rest : List Value} {ws : va_W} (C : j_C g κ cc own rm nL) {x y : Int64} (hdg : decode cc pc = .ok (.lsub, 1)) (k9 : j_V g κ cells slots (pc + 1) lv (.long (x - y) :: rest) ws) : j_V g κ cells slots pc lv (.long y :: .long x :: rest) ws := by
  exact fun H locs ls hP hD hS hL9 => lv_lsub C.1 C.2.1 hdg (k9 H locs ls hP hD hS hL9)
theorem j_lmul {g : JX} {κ : JK} {cc : ByteArray} {own : String} {rm : Room} {nL pc cells slots : Nat} {lv : List (Nat × Value)} {rest : List Value} {ws : va_W} (C : j_C g κ cc own rm nL) {x y : Int64} (hdg : decode cc pc = .ok (.lmul, 1)) (k9 : j_V g κ cells slots (pc + 1) lv (.long (x * y) :: rest) ws) : j_V g κ cells slots pc lv (.long y :: .long x :: rest) ws := by
  exact fun H locs ls hP hD hS hL9 => lv_lmul C.1 C.2.1 hdg (k9 H locs ls hP hD hS hL9)
theorem j_land {g : JX} {κ : JK} {cc : ByteArray} {own : String} {rm : Room} {nL pc cells slots : Nat} {lv : List (Nat × Value)} {rest : List Value} {ws : va_W} (C : j_C g κ cc own rm nL) {x y : Int64} (hdg : decode cc pc = .ok (.land, 1)) (k9 : j_V g κ cells slots (pc + 1) lv (.long (x &&& y) :: rest) ws) : j_V g κ cells slots pc lv (.long y :: .long x :: rest) ws := by
  exact fun H locs ls hP hD hS hL9 => lv_land C.1 C.2.1 hdg (k9 H locs ls hP hD hS hL9)
theorem j_lor {g : JX} {κ : JK} {cc : ByteArray} {own : String} {rm : Room} {nL pc cells slots : Nat} {lv : List (Nat × Value)} {rest : List Value} {ws : va_W} (C : j_C g κ cc own rm nL) {x y : Int64} (hdg : decode cc pc = .ok (.lor, 1)) (k9 : j_V g κ cells slots (pc + 1) lv (.long (x ||| y) :: rest) ws) : j_V g κ cells slots pc lv (.long y :: .long x :: rest) ws := by
  exact fun H locs ls hP hD hS hL9 => lv_lor C.1 C.2.1 hdg (k9 H locs ls hP hD hS hL9)
theorem j_lxor {g : JX} {κ : JK} {cc : ByteArray} {own : String} {rm : Room} {nL pc cells slots : Nat} {lv : List (Nat × Value)} {rest : List Value} {ws : va_W} (C : j_C g κ cc own rm nL) {x y : Int64} (hdg : decode cc pc = .ok (.lxor, 1)) (k9 : j_V g κ cells slots (pc + 1) lv (.long (x ^^^ y) :: rest) ws) : j_V g κ cells slots pc lv (.long y :: .long x :: rest) ws := by
  exact fun H locs ls hP hD hS hL9 => lv_lxor C.1 C.2.1 hdg (k9 H locs ls hP hD hS hL9)
theorem j_ldiv {g : JX} {κ : JK} {cc : ByteArray} {own : String} {rm : Room} {nL pc cells slots : Nat} {lv : List (Nat × Value)} {rest : List Value} {ws : va_W} (C : j_C g κ cc own rm nL) {x y : Int64} (hdg : decode cc pc = .ok (.ldiv, 1)) (hne : ¬ y = 0) (k9 : j_V g κ cells slots (pc + 1) lv (.long (x / y) :: rest) ws) : j_V g κ cells slots pc lv (.long y :: .long x :: rest) ws := by
  exact fun H locs ls hP hD hS hL9 => lv_ldiv C.1 C.2.1 hdg hne (k9 H locs ls hP hD hS hL9)
theorem j_lrem {g : JX} {κ : JK} {cc : ByteArray} {own : String} {rm : Room} {nL pc cells slots : Nat} {lv : List (Nat × Value)} {rest : List Value} {ws : va_W} (C : j_C g κ cc own rm nL) {x y : Int64} (hdg : decode cc pc = .ok (.lrem, 1)) (hne : ¬ y = 0) (k9 : j_V g κ cells slots (pc + 1) lv (.long (x - x / y * y) :: rest) ws) : j_V g κ cells slots pc lv (.long y :: .long x :: rest) ws := by
  exact fun H locs ls hP hD hS hL9 => lv_lrem C.1 C.2.1 hdg hne (k9 H locs ls hP hD hS hL9)
theorem j_lneg {g : JX} {κ : JK} {cc : ByteArray} {own : String} {rm : Room} {nL pc cells slots : Nat} {lv : List (Nat × Value)} {rest : List Value} {ws : va_W} (C : j_C g κ cc own rm nL) {x : Int64} (hdg : decode cc pc = .ok (.lneg, 1)) (k9 : j_V g κ cells slots (pc + 1) lv (.long (-x) :: rest) ws) : j_V g κ cells slots pc lv (.long x :: rest) ws := by
  exact fun H locs ls hP hD hS hL9 => lv_lneg C.1 C.2.1 hdg (k9 H locs ls hP hD hS hL9)
theorem j_ishl {g : JX} {κ : JK} {cc : ByteArray} {own : String} {rm : Room} {nL pc cells slots : Nat} {lv : List (Nat × Value)} {rest : List Value} {ws : va_W} (C : j_C g κ cc own rm nL) {x y : Int32} (hdg : decode cc pc = .ok (.ishl, 1)) (k9 : j_V g κ cells slots (pc + 1) lv (.int (x <<< (y &&& 31)) :: rest) ws) : j_V g κ cells slots pc lv (.int y :: .int x :: rest) ws := by
  exact fun H locs ls hP hD hS hL9 => lv_ishl C.1 C.2.1 hdg (k9 H locs ls hP hD hS hL9)
theorem j_ishr {g : JX} {κ : JK} {cc : ByteArray} {own : String} {rm : Room} {nL pc cells slots : Nat} {lv : List (Nat × Value)} {rest : List Value} {ws : va_W} (C : j_C g κ cc own rm nL) {x y : Int32} (hdg : decode cc pc = .ok (.ishr, 1)) (k9 : j_V g κ cells slots (pc + 1) lv (.int (x >>> (y &&& 31)) :: rest) ws) : j_V g κ cells slots pc lv (.int y :: .int x :: rest) ws := by
  exact fun H locs ls hP hD hS hL9 => lv_ishr C.1 C.2.1 hdg (k9 H locs ls hP hD hS hL9)
theorem j_i2l {g : JX} {κ : JK} {cc : ByteArray} {own : String} {rm : Room} {nL pc cells slots : Nat} {lv : List (Nat × Value)} {rest : List Value} {ws : va_W} (C : j_C g κ cc own rm nL) {x : Int32} {v : Int64} (hdg : decode cc pc = .ok (.i2l, 1)) (hv : x.toInt64 = v) (k9 : j_V g κ cells slots (pc + 1) lv (.long v :: rest) ws) : j_V g κ cells slots pc lv (.int x :: rest) ws := by
  exact fun H locs ls hP hD hS hL9 => lv_i2l C.1 C.2.1 hdg hv (k9 H locs ls hP hD hS hL9)
theorem j_l2i {g : JX} {κ : JK} {cc : ByteArray} {own : String} {rm : Room} {nL pc cells slots : Nat} {lv : List (Nat × Value)} {rest : List Value} {ws : va_W} (C : j_C g κ cc own rm nL) {x : Int64} {v : Int32} (hdg : decode cc pc = .ok (.l2i, 1)) (hv : x.toInt32 = v) (k9 : j_V g κ cells slots (pc + 1) lv (.int v :: rest) ws) : j_V g κ cells slots pc lv (.long x :: rest) ws := by
  exact fun H locs ls hP hD hS hL9 => lv_l2i C.1 C.2.1 hdg hv (k9 H locs ls hP hD hS hL9)
theorem j_i2b {g : JX} {κ : JK} {cc : ByteArray} {own : String} {rm : Room} {nL pc cells slots : Nat} {lv : List (Nat × Value)} {rest : List Value} {ws : va_W} (C : j_C g κ cc own rm nL) {x : Int32} {v : Int32} (hdg : decode cc pc = .ok (.i2b, 1)) (hv : x.toInt8.toInt32 = v) (k9 : j_V g κ cells slots (pc + 1) lv (.int v :: rest) ws) : j_V g κ cells slots pc lv (.int x :: rest) ws := by
  exact fun H locs ls hP hD hS hL9 => lv_i2b C.1 C.2.1 hdg hv (k9 H locs ls hP hD hS hL9)
theorem j_i2s {g : JX} {κ : JK} {cc : ByteArray} {own : String} {rm : Room} {nL pc cells slots : Nat} {lv : List (Nat × Value)} {rest : List Value} {ws : va_W} (C : j_C g κ cc own rm nL) {x : Int32} {v : Int32} (hdg : decode cc pc = .ok (.i2s, 1)) (hv : x.toInt16.toInt32 = v) (k9 : j_V g κ cells slots (pc + 1) lv (.int v :: rest) ws) : j_V g κ cells slots pc lv (.int x :: rest) ws := by
  exact fun H locs ls hP hD hS hL9 => lv_i2s C.1 C.2.1 hdg hv (k9 H locs ls hP hD hS hL9)
theorem j_i2c {g : JX} {κ : JK} {cc : ByteArray} {own : String} {rm : Room} {nL pc cells slots : Nat} {lv : List (Nat × Value)} {rest : List Value} {ws : va_W} (C : j_C g κ cc own rm nL) {x : Int32} {v : Int32} (hdg : decode cc pc = .ok (.i2c, 1)) (hv : (x.toUInt32 % 65536).toInt32 = v) (k9 : j_V g κ cells slots (pc + 1) lv (.int v :: rest) ws) : j_V g κ cells slots pc lv (.int x :: rest) ws := by
  exact fun H locs ls hP hD hS hL9 => lv_i2c C.1 C.2.1 hdg hv (k9 H locs ls hP hD hS hL9)
theorem j_iushr {g : JX} {κ : JK} {cc : ByteArray} {own : String} {rm : Room} {nL pc cells slots : Nat} {lv : List (Nat × Value)} {rest : List Value} {ws : va_W} (C : j_C g κ cc own rm nL) {x y v : Int32} (hdg : decode cc pc = .ok (.iushr, 1)) (hv : (x.toUInt32 >>> (y.toUInt32 &&& Int32.toUInt32 31)).toInt32 = v) (k9 : j_V g κ cells slots (pc + 1) lv (.int v :: rest) ws) : j_V g κ cells slots pc lv (.int y :: .int x :: rest) ws := by
  exact fun H locs ls hP hD hS hL9 => lv_iushr C.1 C.2.1 hdg hv (k9 H locs ls hP hD hS hL9)
theorem j_lushr {g : JX} {κ : JK} {cc : ByteArray} {own : String} {rm : Room} {nL pc cells slots : Nat} {lv : List (Nat × Value)} {rest : List Value} {ws : va_W} (C : j_C g κ cc own rm nL) {x v : Int64} {y : Int32} (hdg : decode cc pc = .ok (.lushr, 1)) (hv : (x.toUInt64 >>> (y.toInt64.toUInt64 &&& Int64.toUInt64 63)).toInt64 = v) (k9 : j_V g κ cells slots (pc + 1) lv (.long v :: rest) ws) : j_V g κ cells slots pc lv (.int y :: .long x :: rest) ws := by
  exact fun H locs ls hP hD hS hL9 => lv_lushr C.1 C.2.1 hdg hv (k9 H locs ls hP hD hS hL9)
theorem j_lshl {g : JX} {κ : JK} {cc : ByteArray} {own : String} {rm : Room} {nL pc cells slots : Nat} {lv : List (Nat × Value)} {rest : List Value} {ws : va_W} (C : j_C g κ cc own rm nL) {x v : Int64} {y : Int32} (hdg : decode cc pc = .ok (.lshl, 1)) (hv : x <<< (y.toInt64 &&& 63) = v) (k9 : j_V g κ cells slots (pc + 1) lv (.long v :: rest) ws) : j_V g κ cells slots pc lv (.int y :: .long x :: rest) ws := by
  exact fun H locs ls hP hD hS hL9 => lv_lshl C.1 C.2.1 hdg hv (k9 H locs ls hP hD hS hL9)
theorem j_lshr {g : JX} {κ : JK} {cc : ByteArray} {own : String} {rm : Room} {nL pc cells slots : Nat} {lv : List (Nat × Value)} {rest : List Value} {ws : va_W} (C : j_C g κ cc own rm nL) {x v : Int64} {y : Int32} (hdg : decode cc pc = .ok (.lshr, 1)) (hv : x >>> (y.toInt64 &&& 63) = v) (k9 : j_V g κ cells slots (pc + 1) lv (.long v :: rest) ws) : j_V g κ cells slots pc lv (.int y :: .long x :: rest) ws := by
  exact fun H locs ls hP hD hS hL9 => lv_lshr C.1 C.2.1 hdg hv (k9 H locs ls hP hD hS hL9)
theorem j_dup {g : JX} {κ : JK} {cc : ByteArray} {own : String} {rm : Room} {nL pc cells slots : Nat} {lv : List (Nat × Value)} {rest : List Value} {ws : va_W} (C : j_C g κ cc own rm nL) {va : Value} (hdg : decode cc pc = .ok (.dup, 1)) (hva : va.category = 1) (k9 : j_V g κ cells slots (pc + 1) lv (va :: va :: rest) ws) : j_V g κ cells slots pc lv (va :: rest) ws := by
  exact fun H locs ls hP hD hS hL9 => lv_dup C.1 C.2.1 hdg hva (k9 H locs ls hP hD hS hL9)
theorem j_pop {g : JX} {κ : JK} {cc : ByteArray} {own : String} {rm : Room} {nL pc cells slots : Nat} {lv : List (Nat × Value)} {rest : List Value} {ws : va_W} (C : j_C g κ cc own rm nL) {va : Value} (hdg : decode cc pc = .ok (.pop, 1)) (hva : va.category = 1) (k9 : j_V g κ cells slots (pc + 1) lv (rest) ws) : j_V g κ cells slots pc lv (va :: rest) ws := by
  exact fun H locs ls hP hD hS hL9 => lv_pop C.1 C.2.1 hdg hva (k9 H locs ls hP hD hS hL9)
theorem j_dup_x1 {g : JX} {κ : JK} {cc : ByteArray} {own : String} {rm : Room} {nL pc cells slots : Nat} {lv : List (Nat × Value)} {rest : List Value} {ws : va_W} (C : j_C g κ cc own rm nL) {va vb : Value} (hdg : decode cc pc = .ok (.dup_x1, 1)) (hva : va.category = 1) (hvb : vb.category = 1) (k9 : j_V g κ cells slots (pc + 1) lv (va :: vb :: va :: rest) ws) : j_V g κ cells slots pc lv (va :: vb :: rest) ws := by
  exact fun H locs ls hP hD hS hL9 => lv_dup_x1 C.1 C.2.1 hdg hva hvb (k9 H locs ls hP hD hS hL9)
theorem j_dup_x2 {g : JX} {κ : JK} {cc : ByteArray} {own : String} {rm : Room} {nL pc cells slots : Nat} {lv : List (Nat × Value)} {rest : List Value} {ws : va_W} (C : j_C g κ cc own rm nL) {va vb vd : Value} (hdg : decode cc pc = .ok (.dup_x2, 1)) (hva : va.category = 1) (hvb : vb.category = 1) (hvd : vd.category = 1) (k9 : j_V g κ cells slots (pc + 1) lv (va :: vb :: vd :: va :: rest) ws) : j_V g κ cells slots pc lv (va :: vb :: vd :: rest) ws := by
  exact fun H locs ls hP hD hS hL9 => lv_dup_x2 C.1 C.2.1 hdg hva hvb hvd (k9 H locs ls hP hD hS hL9)
theorem j_dup2_11 {g : JX} {κ : JK} {cc : ByteArray} {own : String} {rm : Room} {nL pc cells slots : Nat} {lv : List (Nat × Value)} {rest : List Value} {ws : va_W} (C : j_C g κ cc own rm nL) {va vb : Value} (hdg : decode cc pc = .ok (.dup2, 1)) (hva : va.category = 1) (hvb : vb.category = 1) (k9 : j_V g κ cells slots (pc + 1) lv (va :: vb :: va :: vb :: rest) ws) : j_V g κ cells slots pc lv (va :: vb :: rest) ws := by
  exact fun H locs ls hP hD hS hL9 => lv_dup2_11 C.1 C.2.1 hdg hva hvb (k9 H locs ls hP hD hS hL9)
theorem j_dup2_2 {g : JX} {κ : JK} {cc : ByteArray} {own : String} {rm : Room} {nL pc cells slots : Nat} {lv : List (Nat × Value)} {rest : List Value} {ws : va_W} (C : j_C g κ cc own rm nL) {va : Value} (hdg : decode cc pc = .ok (.dup2, 1)) (hva : va.category = 2) (k9 : j_V g κ cells slots (pc + 1) lv (va :: va :: rest) ws) : j_V g κ cells slots pc lv (va :: rest) ws := by
  exact fun H locs ls hP hD hS hL9 => lv_dup2_2 C.1 C.2.1 hdg hva (k9 H locs ls hP hD hS hL9)
theorem j_pop2_2 {g : JX} {κ : JK} {cc : ByteArray} {own : String} {rm : Room} {nL pc cells slots : Nat} {lv : List (Nat × Value)} {rest : List Value} {ws : va_W} (C : j_C g κ cc own rm nL) {va : Value} (hdg : decode cc pc = .ok (.pop2, 1)) (hva : va.category = 2) (k9 : j_V g κ cells slots (pc + 1) lv (rest) ws) : j_V g κ cells slots pc lv (va :: rest) ws := by
  exact fun H locs ls hP hD hS hL9 => lv_pop2_2 C.1 C.2.1 hdg hva (k9 H locs ls hP hD hS hL9)
theorem j_pop2_11 {g : JX} {κ : JK} {cc : ByteArray} {own : String} {rm : Room} {nL pc cells slots : Nat} {lv : List (Nat × Value)} {rest : List Value} {ws : va_W} (C : j_C g κ cc own rm nL) {va vb : Value} (hdg : decode cc pc = .ok (.pop2, 1)) (hva : va.category = 1) (hvb : vb.category = 1) (k9 : j_V g κ cells slots (pc + 1) lv (rest) ws) : j_V g κ cells slots pc lv (va :: vb :: rest) ws := by
  exact fun H locs ls hP hD hS hL9 => lv_pop2_11 C.1 C.2.1 hdg hva hvb (k9 H locs ls hP hD hS hL9)
theorem j_if_eq {g : JX} {κ : JK} {cc : ByteArray} {own : String} {rm : Room} {nL pc cells slots : Nat} {lv : List (Nat × Value)} {rest : List Value} {ws : va_W} (C : j_C g κ cc own rm nL) {x : Int32} {off : Int} {tgt : Nat} (hdg : decode cc pc = .ok (.ifCond .eq off, 3)) (ht : (pc : Int) + off = (tgt : Int)) (kt : x = 0 → j_V g κ cells slots tgt lv rest ws) (kf : ¬ x = 0 → j_V g κ cells slots (pc + 3) lv rest ws) : j_V g κ cells slots pc lv (.int x :: rest) ws := by
  exact fun H locs ls hP hD hS hL9 => lv_if_eq C.1 C.2.1 hdg ht (fun h9 => kt h9 H locs ls hP hD hS hL9) (fun h9 => kf h9 H locs ls hP hD hS hL9)
theorem j_if_ne {g : JX} {κ : JK} {cc : ByteArray} {own : String} {rm : Room} {nL pc cells slots : Nat} {lv : List (Nat × Value)} {rest : List Value} {ws : va_W} (C : j_C g κ cc own rm nL) {x : Int32} {off : Int} {tgt : Nat} (hdg : decode cc pc = .ok (.ifCond .ne off, 3)) (ht : (pc : Int) + off = (tgt : Int)) (kt : ¬ x = 0 → j_V g κ cells slots tgt lv rest ws) (kf : x = 0 → j_V g κ cells slots (pc + 3) lv rest ws) : j_V g κ cells slots pc lv (.int x :: rest) ws := by
  exact fun H locs ls hP hD hS hL9 => lv_if_ne C.1 C.2.1 hdg ht (fun h9 => kt h9 H locs ls hP hD hS hL9) (fun h9 => kf h9 H locs ls hP hD hS hL9)
theorem j_if_lt {g : JX} {κ : JK} {cc : ByteArray} {own : String} {rm : Room} {nL pc cells slots : Nat} {lv : List (Nat × Value)} {rest : List Value} {ws : va_W} (C : j_C g κ cc own rm nL) {x : Int32} {off : Int} {tgt : Nat} (hdg : decode cc pc = .ok (.ifCond .lt off, 3)) (ht : (pc : Int) + off = (tgt : Int)) (kt : x < 0 → j_V g κ cells slots tgt lv rest ws) (kf : ¬ x < 0 → j_V g κ cells slots (pc + 3) lv rest ws) : j_V g κ cells slots pc lv (.int x :: rest) ws := by
  exact fun H locs ls hP hD hS hL9 => lv_if_lt C.1 C.2.1 hdg ht (fun h9 => kt h9 H locs ls hP hD hS hL9) (fun h9 => kf h9 H locs ls hP hD hS hL9)
theorem j_if_ge {g : JX} {κ : JK} {cc : ByteArray} {own : String} {rm : Room} {nL pc cells slots : Nat} {lv : List (Nat × Value)} {rest : List Value} {ws : va_W} (C : j_C g κ cc own rm nL) {x : Int32} {off : Int} {tgt : Nat} (hdg : decode cc pc = .ok (.ifCond .ge off, 3)) (ht : (pc : Int) + off = (tgt : Int)) (kt : 0 ≤ x → j_V g κ cells slots tgt lv rest ws) (kf : ¬ 0 ≤ x → j_V g κ cells slots (pc + 3) lv rest ws) : j_V g κ cells slots pc lv (.int x :: rest) ws := by
  exact fun H locs ls hP hD hS hL9 => lv_if_ge C.1 C.2.1 hdg ht (fun h9 => kt h9 H locs ls hP hD hS hL9) (fun h9 => kf h9 H locs ls hP hD hS hL9)
theorem j_if_gt {g : JX} {κ : JK} {cc : ByteArray} {own : String} {rm : Room} {nL pc cells slots : Nat} {lv : List (Nat × Value)} {rest : List Value} {ws : va_W} (C : j_C g κ cc own rm nL) {x : Int32} {off : Int} {tgt : Nat} (hdg : decode cc pc = .ok (.ifCond .gt off, 3)) (ht : (pc : Int) + off = (tgt : Int)) (kt : 0 < x → j_V g κ cells slots tgt lv rest ws) (kf : ¬ 0 < x → j_V g κ cells slots (pc + 3) lv rest ws) : j_V g κ cells slots pc lv (.int x :: rest) ws := by
  exact fun H locs ls hP hD hS hL9 => lv_if_gt C.1 C.2.1 hdg ht (fun h9 => kt h9 H locs ls hP hD hS hL9) (fun h9 => kf h9 H locs ls hP hD hS hL9)
theorem j_if_le {g : JX} {κ : JK} {cc : ByteArray} {own : String} {rm : Room} {nL pc cells slots : Nat} {lv : List (Nat × Value)} {rest : List Value} {ws : va_W} (C : j_C g κ cc own rm nL) {x : Int32} {off : Int} {tgt : Nat} (hdg : decode cc pc = .ok (.ifCond .le off, 3)) (ht : (pc : Int) + off = (tgt : Int)) (kt : x ≤ 0 → j_V g κ cells slots tgt lv rest ws) (kf : ¬ x ≤ 0 → j_V g κ cells slots (pc + 3) lv rest ws) : j_V g κ cells slots pc lv (.int x :: rest) ws := by
  exact fun H locs ls hP hD hS hL9 => lv_if_le C.1 C.2.1 hdg ht (fun h9 => kt h9 H locs ls hP hD hS hL9) (fun h9 => kf h9 H locs ls hP hD hS hL9)
theorem j_icmp_eq {g : JX} {κ : JK} {cc : ByteArray} {own : String} {rm : Room} {nL pc cells slots : Nat} {lv : List (Nat × Value)} {rest : List Value} {ws : va_W} (C : j_C g κ cc own rm nL) {x y : Int32} {off : Int} {tgt : Nat} (hdg : decode cc pc = .ok (.if_icmp .eq off, 3)) (ht : (pc : Int) + off = (tgt : Int)) (kt : x = y → j_V g κ cells slots tgt lv rest ws) (kf : ¬ x = y → j_V g κ cells slots (pc + 3) lv rest ws) : j_V g κ cells slots pc lv (.int y :: .int x :: rest) ws := by
  exact fun H locs ls hP hD hS hL9 => lv_icmp_eq C.1 C.2.1 hdg ht (fun h9 => kt h9 H locs ls hP hD hS hL9) (fun h9 => kf h9 H locs ls hP hD hS hL9)
theorem j_icmp_ne {g : JX} {κ : JK} {cc : ByteArray} {own : String} {rm : Room} {nL pc cells slots : Nat} {lv : List (Nat × Value)} {rest : List Value} {ws : va_W} (C : j_C g κ cc own rm nL) {x y : Int32} {off : Int} {tgt : Nat} (hdg : decode cc pc = .ok (.if_icmp .ne off, 3)) (ht : (pc : Int) + off = (tgt : Int)) (kt : ¬ x = y → j_V g κ cells slots tgt lv rest ws) (kf : x = y → j_V g κ cells slots (pc + 3) lv rest ws) : j_V g κ cells slots pc lv (.int y :: .int x :: rest) ws := by
  exact fun H locs ls hP hD hS hL9 => lv_icmp_ne C.1 C.2.1 hdg ht (fun h9 => kt h9 H locs ls hP hD hS hL9) (fun h9 => kf h9 H locs ls hP hD hS hL9)
theorem j_icmp_lt {g : JX} {κ : JK} {cc : ByteArray} {own : String} {rm : Room} {nL pc cells slots : Nat} {lv : List (Nat × Value)} {rest : List Value} {ws : va_W} (C : j_C g κ cc own rm nL) {x y : Int32} {off : Int} {tgt : Nat} (hdg : decode cc pc = .ok (.if_icmp .lt off, 3)) (ht : (pc : Int) + off = (tgt : Int)) (kt : x < y → j_V g κ cells slots tgt lv rest ws) (kf : ¬ x < y → j_V g κ cells slots (pc + 3) lv rest ws) : j_V g κ cells slots pc lv (.int y :: .int x :: rest) ws := by
  exact fun H locs ls hP hD hS hL9 => lv_icmp_lt C.1 C.2.1 hdg ht (fun h9 => kt h9 H locs ls hP hD hS hL9) (fun h9 => kf h9 H locs ls hP hD hS hL9)
theorem j_icmp_ge {g : JX} {κ : JK} {cc : ByteArray} {own : String} {rm : Room} {nL pc cells slots : Nat} {lv : List (Nat × Value)} {rest : List Value} {ws : va_W} (C : j_C g κ cc own rm nL) {x y : Int32} {off : Int} {tgt : Nat} (hdg : decode cc pc = .ok (.if_icmp .ge off, 3)) (ht : (pc : Int) + off = (tgt : Int)) (kt : y ≤ x → j_V g κ cells slots tgt lv rest ws) (kf : ¬ y ≤ x → j_V g κ cells slots (pc + 3) lv rest ws) : j_V g κ cells slots pc lv (.int y :: .int x :: rest) ws := by
  exact fun H locs ls hP hD hS hL9 => lv_icmp_ge C.1 C.2.1 hdg ht (fun h9 => kt h9 H locs ls hP hD hS hL9) (fun h9 => kf h9 H locs ls hP hD hS hL9)
theorem j_icmp_gt {g : JX} {κ : JK} {cc : ByteArray} {own : String} {rm : Room} {nL pc cells slots : Nat} {lv : List (Nat × Value)} {rest : List Value} {ws : va_W} (C : j_C g κ cc own rm nL) {x y : Int32} {off : Int} {tgt : Nat} (hdg : decode cc pc = .ok (.if_icmp .gt off, 3)) (ht : (pc : Int) + off = (tgt : Int)) (kt : y < x → j_V g κ cells slots tgt lv rest ws) (kf : ¬ y < x → j_V g κ cells slots (pc + 3) lv rest ws) : j_V g κ cells slots pc lv (.int y :: .int x :: rest) ws := by
  exact fun H locs ls hP hD hS hL9 => lv_icmp_gt C.1 C.2.1 hdg ht (fun h9 => kt h9 H locs ls hP hD hS hL9) (fun h9 => kf h9 H locs ls hP hD hS hL9)
theorem j_icmp_le {g : JX} {κ : JK} {cc : ByteArray} {own : String} {rm : Room} {nL pc cells slots : Nat} {lv : List (Nat × Value)} {rest : List Value} {ws : va_W} (C : j_C g κ cc own rm nL) {x y : Int32} {off : Int} {tgt : Nat} (hdg : decode cc pc = .ok (.if_icmp .le off, 3)) (ht : (pc : Int) + off = (tgt : Int)) (kt : x ≤ y → j_V g κ cells slots tgt lv rest ws) (kf : ¬ x ≤ y → j_V g κ cells slots (pc + 3) lv rest ws) : j_V g κ cells slots pc lv (.int y :: .int x :: rest) ws := by
  exact fun H locs ls hP hD hS hL9 => lv_icmp_le C.1 C.2.1 hdg ht (fun h9 => kt h9 H locs ls hP hD hS hL9) (fun h9 => kf h9 H locs ls hP hD hS hL9)
theorem j_goto {g : JX} {κ : JK} {cc : ByteArray} {own : String} {rm : Room} {nL pc cells slots : Nat} {lv : List (Nat × Value)} {rest : List Value} {ws : va_W} (C : j_C g κ cc own rm nL) {off : Int} {tgt : Nat} (hdg : decode cc pc = .ok (.goto off, 3)) (ht : (pc : Int) + off = (tgt : Int)) (k9 : j_V g κ cells slots tgt lv rest ws) : j_V g κ cells slots pc lv rest ws := by
  exact fun H locs ls hP hD hS hL9 => lv_goto C.1 C.2.1 hdg ht (k9 H locs ls hP hD hS hL9)
theorem j_ldc {g : JX} {κ : JK} {cc : ByteArray} {own : String} {rm : Room} {nL pc cells slots : Nat} {lv : List (Nat × Value)} {rest : List Value} {ws : va_W} (C : j_C g κ cc own rm nL) {index : Nat} {v : Int32} (hm : Jvm.Cond.constant own index v ∈ TB) (hdg : decode cc pc = .ok (.ldc index, 2)) (k9 : j_V g κ cells slots (pc + 2) lv (.int v :: rest) ws) : j_V g κ cells slots pc lv rest ws := by
  exact fun H locs ls hP hD hS hL9 => lv_ldc C.1 C.2.1 C.2.2.1 (C.2.2.2.1 _ hm) hdg (k9 H locs ls hP hD hS hL9)
theorem j_ldc2 {g : JX} {κ : JK} {cc : ByteArray} {own : String} {rm : Room} {nL pc cells slots : Nat} {lv : List (Nat × Value)} {rest : List Value} {ws : va_W} (C : j_C g κ cc own rm nL) {index : Nat} {v : Int64} (hm : Jvm.Cond.constantLong own index v ∈ TB) (hdg : decode cc pc = .ok (.ldc2_w index, 3)) (k9 : j_V g κ cells slots (pc + 3) lv (.long v :: rest) ws) : j_V g κ cells slots pc lv rest ws := by
  exact fun H locs ls hP hD hS hL9 => lv_ldc2 C.1 C.2.1 C.2.2.1 (C.2.2.2.1 _ hm) hdg (k9 H locs ls hP hD hS hL9)
theorem j_ldcw {g : JX} {κ : JK} {cc : ByteArray} {own : String} {rm : Room} {nL pc cells slots : Nat} {lv : List (Nat × Value)} {rest : List Value} {ws : va_W} (C : j_C g κ cc own rm nL) {index : Nat} {v : Int32} (hm : Jvm.Cond.constant own index v ∈ TB) (hdg : decode cc pc = .ok (.ldc_w index, 3)) (k9 : j_V g κ cells slots (pc + 3) lv (.int v :: rest) ws) : j_V g κ cells slots pc lv rest ws := by
  exact fun H locs ls hP hD hS hL9 => lv_ldcw C.1 C.2.1 C.2.2.1 (C.2.2.2.1 _ hm) hdg (k9 H locs ls hP hD hS hL9)
theorem j_lookup {g : JX} {κ : JK} {cc : ByteArray} {own : String} {rm : Room} {nL pc cells slots : Nat} {lv : List (Nat × Value)} {rest : List Value} {ws : va_W} (C : j_C g κ cc own rm nL) {dflt : Int} {ps : Array (Int × Int)} {len : Nat} {x : Int32} {off : Int} {tgt : Nat} (hdg : decode cc pc = .ok (.lookupswitch dflt ps, len)) (hp : (ps.toList.zip (ps.toList.drop 1)).all (fun (a, next) => a.1 < next.1) = true) (ho : Op.lookupswitch.offset ps.toList dflt x.toInt = off) (ht : (pc : Int) + off = (tgt : Int)) (k9 : j_V g κ cells slots tgt lv rest ws) : j_V g κ cells slots pc lv (.int x :: rest) ws := by
  exact fun H locs ls hP hD hS hL9 => lv_lookup C.1 C.2.1 hdg hp ho ht (k9 H locs ls hP hD hS hL9)
theorem j_tableOut {g : JX} {κ : JK} {cc : ByteArray} {own : String} {rm : Room} {nL pc cells slots : Nat} {lv : List (Nat × Value)} {rest : List Value} {ws : va_W} (C : j_C g κ cc own rm nL) {dflt lo hi : Int} {offs : Array Int} {len : Nat} {x : Int32} {tgt : Nat} (hdg : decode cc pc = .ok (.tableswitch dflt lo hi offs, len)) (h : x.toInt < lo ∨ hi < x.toInt) (ht : (pc : Int) + dflt = (tgt : Int)) (k9 : j_V g κ cells slots tgt lv rest ws) : j_V g κ cells slots pc lv (.int x :: rest) ws := by
  exact fun H locs ls hP hD hS hL9 => lv_tableOut C.1 C.2.1 hdg h ht (k9 H locs ls hP hD hS hL9)
theorem j_tableIn {g : JX} {κ : JK} {cc : ByteArray} {own : String} {rm : Room} {nL pc cells slots : Nat} {lv : List (Nat × Value)} {rest : List Value} {ws : va_W} (C : j_C g κ cc own rm nL) {dflt lo hi : Int} {offs : Array Int} {len : Nat} {x : Int32} {off : Int} {tgt : Nat} (hdg : decode cc pc = .ok (.tableswitch dflt lo hi offs, len)) (h1 : ¬ x.toInt < lo) (h2 : ¬ hi < x.toInt) (ho : offs[(x.toInt - lo).toNat]? = some off) (ht : (pc : Int) + off = (tgt : Int)) (k9 : j_V g κ cells slots tgt lv rest ws) : j_V g κ cells slots pc lv (.int x :: rest) ws := by
  exact fun H locs ls hP hD hS hL9 => lv_tableIn C.1 C.2.1 hdg h1 h2 ho ht (k9 H locs ls hP hD hS hL9)
theorem j_null {g : JX} {κ : JK} {cc : ByteArray} {own : String} {rm : Room} {nL pc cells slots : Nat} {lv : List (Nat × Value)} {rest : List Value} {ws : va_W} (C : j_C g κ cc own rm nL) (hdg : decode cc pc = .ok (.aconst_null, 1)) (k9 : j_V g κ cells slots (pc + 1) lv (.null :: rest) ws) : j_V g κ cells slots pc lv rest ws := by
  exact fun H locs ls hP hD hS hL9 => lv_null C.1 C.2.1 hdg (k9 H locs ls hP hD hS hL9)

section JR
variable {g : JX} {κ : JK} {cc : ByteArray} {own : String} {rm : Room} {nL pc cells slots : Nat} {lv : List (Nat × Value)} {rest : List Value} {ws : va_W}
theorem j_eq {st st' : List Value} {ws' : va_W} {lv' : List (Nat × Value)} {pc' cells' slots' : Nat} (h1 : pc' = pc) (h2 : lv' = lv) (h3 : st' = st) (h4 : ws' = ws) (h5 : cells' = cells) (h6 : slots' = slots) (k : j_V g κ cells slots pc lv st ws) : j_V g κ cells' slots' pc' lv' st' ws' := by
  subst h1; subst h2; subst h3; subst h4; subst h5; subst h6; exact k
theorem j_topi {x : Int32} (k : ∀ y : Int32, y = x → j_V g κ cells slots pc lv (.int y :: rest) ws) : j_V g κ cells slots pc lv (.int x :: rest) ws := k x rfl
theorem j_topl {x : Int64} (k : ∀ y : Int64, y = x → j_V g κ cells slots pc lv (.long y :: rest) ws) : j_V g κ cells slots pc lv (.long x :: rest) ws := k x rfl
theorem j_rwi {x y : Int32} (h : x = y) (k : j_V g κ cells slots pc lv (.int y :: rest) ws) : j_V g κ cells slots pc lv (.int x :: rest) ws := by subst h; exact k
theorem j_rwl {x y : Int64} (h : x = y) (k : j_V g κ cells slots pc lv (.long y :: rest) ws) : j_V g κ cells slots pc lv (.long x :: rest) ws := by subst h; exact k
theorem j_sub {st : List Value} {ws' : va_W} (h : j_Sb ws ws') (k : j_V g κ cells slots pc lv st ws') : j_V g κ cells slots pc lv st ws := fun H locs ls hP hD hS hl => k H locs ls (h.P hP) (h.2 _ hD) hS hl
theorem j_lv {st : List Value} {lv' : List (Nat × Value)} (is : List Nat) (h : lv_pick lv is = lv') (k : j_V g κ cells slots pc lv' st ws) : j_V g κ cells slots pc lv st ws := fun H locs ls hP hD hS hl => k H locs ls hP hD hS (lv_sub hl is h)
theorem j_widen {st : List Value} {c2 s2 : Nat} (h1 : cells ≤ c2) (h2 : slots ≤ s2) (k : j_V g κ c2 s2 pc lv st ws) : j_V g κ cells slots pc lv st ws := fun H locs ls hP hD hS hl => W.widen h1 h2 (k H locs ls hP hD hS hl)
theorem j_lcmp (C : j_C g κ cc own rm nL) {x y : Int64} (hdg : decode cc pc = .ok (.lcmp, 1)) (k9 : j_V g κ cells slots (pc + 1) lv (.int (lg_cmp x y) :: rest) ws) : j_V g κ cells slots pc lv (.long y :: .long x :: rest) ws := fun H locs ls hP hD hS hl => W.lcmp C.1 C.2.1 hdg (k9 H locs ls hP hD hS hl)
/-- a field, as an instruction of the class 'own' names it: class number ci, field number k -/
def j_F (own : String) (index ci k : Nat) : Prop := ∃ (Cn : String) (T : u_T) (N : Nat), (∀ w ∈ u_ws Cn T N, w ∈ TB) ∧ vwCl[ci]? = some (Cn, T, N) ∧ k < N ∧ Cond.fieldLink own index (T k).1 (T k).2.1 (T k).2.2.1 ∈ TB
/-- ..and of which type it is, whether it is final -/
def j_Fp (own : String) (index ci k : Nat) (ty : FieldType) (fin : Bool) : Prop := ∃ (Cn : String) (T : u_T) (N : Nat) (t0 : Nat → FieldType), (∀ w ∈ u_ws Cn T N, w ∈ TB) ∧ vwCl[ci]? = some (Cn, T, N) ∧ k < N ∧ Cond.fieldLink own index (T k).1 (T k).2.1 (T k).2.2.1 ∈ TB ∧ (∀ k, k < N → parseFieldDescriptor (T k).2.2.1 = some (t0 k)) ∧ (∀ a, a < N → ∀ b, b < N → a ≠ b → (T a).2.1 ≠ (T b).2.1) ∧ (T k).2.2.2 = fin ∧ parseFieldDescriptor (T k).2.2.1 = some ty ∧ (fin = true → (T k).1 = own)
theorem j_get (C : j_C g κ cc own rm nL) {index ci k a : Nat} (hF : j_F own index ci k) (q0 : Nat) {fs : List Value} (he : ws[q0]? = some (a, .inr (ci, fs))) {v : Value} (hv : fs[k]? = some v) (hdg : decode cc pc = .ok (.getfield index, 3))
    (k9 : j_V g κ cells slots (pc + 3) lv (v :: rest) ws) : j_V g κ cells slots pc lv (.ref a :: rest) ws := by
  obtain ⟨Cn, T, N, h1, h2, h3, h4⟩ := hF
  exact fun H locs ls hP hD hS hl => va_get C.1 C.2.1 C.2.2.2.1 h1 C.2.2.1 C.2.2.2.2.2.2.2.2.1 hP q0 he h2 k h3 (C.2.2.2.1 _ h4) (fun _ h9 => h9) hv hdg (k9 H locs ls hP hD hS hl)
theorem j_getM (C : j_C g κ cc own rm nL) {index ci k a : Nat} (hF : j_F own index ci k) {fs : List Value} (he : (a, Sum.inr (ci, fs)) ∈ ws) {v : Value} (hv : fs[k]? = some v) (hdg : decode cc pc = .ok (.getfield index, 3))
    (k9 : j_V g κ cells slots (pc + 3) lv (v :: rest) ws) : j_V g κ cells slots pc lv (.ref a :: rest) ws := by
  obtain ⟨q0, h⟩ := j_mem he
  exact j_get C hF q0 h hv hdg k9
theorem j_put (C : j_C g κ cc own rm nL) {index ci k a : Nat} {ty : FieldType} (hF : j_Fp own index ci k ty false) (q0 : Nat) {fs : List Value} (he : ws[q0]? = some (a, .inr (ci, fs))) {v : Value} (hn : narrow ty v = v) (hfit : fits ty v = true) (hl9 : k < fs.length) {ws' : va_W} (hw : ws.set q0 (a, .inr (ci, fs.set k v)) = ws') (hdg : decode cc pc = .ok (.putfield index, 3))
    (k9 : j_V g κ cells slots (pc + 3) lv rest ws') : j_V g κ cells slots pc lv (v :: .ref a :: rest) ws := by
  obtain ⟨Cn, T, N, t0, h1, h2, h3, h4, h5, h6, h7, h8, -⟩ := hF
  subst hw
  exact fun H locs ls hP hD hS hl => va_put C.1 C.2.1 C.2.2.2.1 h1 t0 h5 h6 C.2.2.1 C.2.2.2.2.2.2.2.2.1 hP hD hS q0 he h2 k h3 (C.2.2.2.1 _ h4) (fun _ h9 => h9) h7 h8 hn hfit hl9 hdg (fun H1 locs1 a1 a2 a3 => k9 H1 locs1 ls a1 a2 a3 hl)
theorem j_putF (C : j_C g κ cc own rm nL) (hI : (kM κ).name = "<init>") {index ci k a : Nat} {ty : FieldType} (hF : j_Fp own index ci k ty true) (q0 : Nat) {fs : List Value} (he : ws[q0]? = some (a, .inr (ci, fs))) {v : Value} (hn : narrow ty v = v) (hfit : fits ty v = true) (hl9 : k < fs.length) {ws' : va_W} (hw : ws.set q0 (a, .inr (ci, fs.set k v)) = ws') (hdg : decode cc pc = .ok (.putfield index, 3))
    (k9 : j_V g κ cells slots (pc + 3) lv rest ws') : j_V g κ cells slots pc lv (v :: .ref a :: rest) ws := by
  obtain ⟨Cn, T, N, t0, h1, h2, h3, h4, h5, h6, h7, h8, h10⟩ := hF
  subst hw
  exact fun H locs ls hP hD hS hl => va_putF C.1 C.2.1 C.2.2.2.1 h1 t0 h5 h6 C.2.2.1 C.2.2.2.2.2.2.2.2.1 hP hD hS q0 he h2 k h3 (C.2.2.2.1 _ h4) (fun _ h9 => h9) h7 hI (h10 rfl) h8 hn hfit hl9 hdg (fun H1 locs1 a1 a2 a3 => k9 H1 locs1 ls a1 a2 a3 hl)
-- arrays
theorem j_bald (C : j_C g κ cc own rm nL) (q0 t0 : Nat) {a n : Nat} {cA : ClassId} {f : Nat → Int32} (ha : ws[q0]? = some (a, .inl (cA, n, .inl f))) (ht : (jT g)[t0]? = some (cA, .byte)) {i : Int32} (hin : vp_in i n) {x : Int32} (hv : f i.toNatClampNeg = x) (hdg : decode cc pc = .ok (.baload, 1)) (k9 : j_V g κ cells slots (pc + 1) lv (.int x :: rest) ws) : j_V g κ cells slots pc lv (.int i :: .ref a :: rest) ws := by
  subst hv
  exact fun H locs ls hP hD hS hl => va_bald C.1 C.2.1 C.2.2.2.2.2.2.2.2.1 hP q0 t0 ha ht hin hdg (k9 H locs ls hP hD hS hl)
theorem j_iald (C : j_C g κ cc own rm nL) (q0 t0 : Nat) {a n : Nat} {cA : ClassId} {f : Nat → Int32} (ha : ws[q0]? = some (a, .inl (cA, n, .inl f))) (ht : (jT g)[t0]? = some (cA, .int)) {i : Int32} (hin : vp_in i n) {x : Int32} (hv : f i.toNatClampNeg = x) (hdg : decode cc pc = .ok (.iaload, 1)) (k9 : j_V g κ cells slots (pc + 1) lv (.int x :: rest) ws) : j_V g κ cells slots pc lv (.int i :: .ref a :: rest) ws := by
  subst hv
  exact fun H locs ls hP hD hS hl => va_iald C.1 C.2.1 C.2.2.2.2.2.2.2.2.1 hP q0 t0 ha ht hin hdg (k9 H locs ls hP hD hS hl)
theorem j_ialdM (C : j_C g κ cc own rm nL) (t0 : Nat) {a n : Nat} {cA : ClassId} {f : Nat → Int32} (ha : (a, Sum.inl (cA, n, .inl f)) ∈ ws) (ht : (jT g)[t0]? = some (cA, .int)) {i : Int32} (hin : vp_in i n) {x : Int32} (hv : f i.toNatClampNeg = x) (hdg : decode cc pc = .ok (.iaload, 1)) (k9 : j_V g κ cells slots (pc + 1) lv (.int x :: rest) ws) : j_V g κ cells slots pc lv (.int i :: .ref a :: rest) ws := by
  obtain ⟨q0, h⟩ := j_mem ha
  exact j_iald C q0 t0 h ht hin hv hdg k9
theorem j_aald (C : j_C g κ cc own rm nL) (q0 t0 : Nat) {a n : Nat} {cA : ClassId} {Cn : String} {f : Nat → Option Nat} (ha : ws[q0]? = some (a, .inl (cA, n, .inr (.inr (.inr (.inr f)))))) (ht : (jT g)[t0]? = some (cA, .object Cn)) {i : Int32} (hin : vp_in i n) {v : Value} (hv : va_rf (f i.toNatClampNeg) = v) (hdg : decode cc pc = .ok (.aaload, 1)) (k9 : j_V g κ cells slots (pc + 1) lv (v :: rest) ws) : j_V g κ cells slots pc lv (.int i :: .ref a :: rest) ws := by
  subst hv
  exact fun H locs ls hP hD hS hl => va_aldq C.1 C.2.1 C.2.2.2.2.2.2.2.2.1 hP q0 t0 ha ht hin hdg (k9 H locs ls hP hD hS hl)
theorem j_alen (C : j_C g κ cc own rm nL) (q0 t0 : Nat) {a : Nat} {cA : ClassId} {x : vp_A} (ha : ws[q0]? = some (a, .inl (cA, x))) {ty : FieldType} (ht : (jT g)[t0]? = some (cA, ty)) {v : Int32} (hv : Int32.ofNat x.1 = v) (hdg : decode cc pc = .ok (.arraylength, 1)) (k9 : j_V g κ cells slots (pc + 1) lv (.int v :: rest) ws) : j_V g κ cells slots pc lv (.ref a :: rest) ws :=
  fun H locs ls hP hD hS hl => va_alen C.1 C.2.1 C.2.2.2.2.2.2.2.2.1 hP q0 t0 ha ht hv hdg (k9 H locs ls hP hD hS hl)
theorem j_bast (C : j_C g κ cc own rm nL) (q0 t0 : Nat) {a n : Nat} {cA : ClassId} {f : Nat → Int32} (ha : ws[q0]? = some (a, .inl (cA, n, .inl f))) (ht : (jT g)[t0]? = some (cA, .byte)) {i x : Int32} (hin : vp_in i n) {ws' : va_W} (hw : ws.set q0 (a, .inl (cA, n, .inl (upd f i.toNatClampNeg (vp_nar .byte x)))) = ws') (hdg : decode cc pc = .ok (.bastore, 1)) (k9 : j_V g κ cells slots (pc + 1) lv rest ws') : j_V g κ cells slots pc lv (.int x :: .int i :: .ref a :: rest) ws := by
  subst hw
  exact fun H locs ls hP hD hS hl => va_bast C.1 C.2.1 C.2.2.2.2.2.2.2.2.1 hP hD hS q0 t0 ha ht hin hdg (fun H1 locs1 a1 a2 a3 => k9 H1 locs1 ls a1 a2 a3 hl)
theorem j_iast (C : j_C g κ cc own rm nL) (q0 t0 : Nat) {a n : Nat} {cA : ClassId} {f : Nat → Int32} (ha : ws[q0]? = some (a, .inl (cA, n, .inl f))) (ht : (jT g)[t0]? = some (cA, .int)) {i x : Int32} (hin : vp_in i n) {ws' : va_W} (hw : ws.set q0 (a, .inl (cA, n, .inl (upd f i.toNatClampNeg x))) = ws') (hdg : decode cc pc = .ok (.iastore, 1)) (k9 : j_V g κ cells slots (pc + 1) lv rest ws') : j_V g κ cells slots pc lv (.int x :: .int i :: .ref a :: rest) ws := by
  subst hw
  exact fun H locs ls hP hD hS hl => va_iast C.1 C.2.1 C.2.2.2.2.2.2.2.2.1 hP hD hS q0 t0 ha ht hin hdg (fun H1 locs1 a1 a2 a3 => k9 H1 locs1 ls a1 a2 a3 hl)
theorem j_aast (C : j_C g κ cc own rm nL) (q0 t0 qk ci : Nat) {a n v : Nat} {cA : ClassId} {r : vw_C} {vs : List Value} {f : Nat → Option Nat} (ha : ws[q0]? = some (a, .inl (cA, n, .inr (.inr (.inr (.inr f)))))) (ht : (jT g)[t0]? = some (cA, .object r.1)) (hv : ws[qk]? = some (v, .inr (ci, vs))) (hc : vwCl[ci]? = some r) {i : Int32} (hin : vp_in i n) {ws' : va_W} (hw : ws.set q0 (a, .inl (cA, n, .inr (.inr (.inr (.inr (va_up f i.toNatClampNeg (some v))))))) = ws') (hdg : decode cc pc = .ok (.aastore, 1)) (k9 : j_V g κ cells slots (pc + 1) lv rest ws') : j_V g κ cells slots pc lv (.ref v :: .int i :: .ref a :: rest) ws := by
  subst hw
  exact fun H locs ls hP hD hS hl => va_astq C.1 C.2.1 C.2.2.2.2.2.2.2.2.1 hP hD hS q0 t0 qk ci ha ht hv hc hin hdg (fun H1 locs1 a1 a2 a3 => k9 H1 locs1 ls a1 a2 a3 hl)
/-- a new array of numbers: its class is the one that g names -/
theorem j_newa (C : j_C g κ cc own rm nL) {atype : ArrayType} (hm : Cond.arrayClass (newarray.typeOf atype) ∈ TB) {ty : FieldType} (hty : newarray.typeOf atype = ty) (hob : ∀ c : String, ty ≠ .object c) (t0 : Nat) {cA : ClassId} (ht : (jT g)[t0]? = some (cA, ty)) {n : Int32} {N' : Nat} {a0 : vp_A} (ha : ∀ cA : ClassId, vp_cell cA a0 = arrV cA N' (fun _ => defaultValue ty)) (hn : ¬ n < 0) (hN : n.toNatClampNeg = N') (hbytes : N' * componentBytes ty ≤ 536870912) (hc : cells + 1 ≤ rm.cells) (hs : slots + N' ≤ rm.slots) (hdg : decode cc pc = .ok (.newarray atype, 2))
    (k9 : ∀ q : Nat, j_V g κ (cells + 1) (slots + N') (pc + 2) lv (.ref q :: rest) (ws ++ [(q, .inl (cA, a0))])) : j_V g κ cells slots pc lv (.int n :: rest) ws := by
  obtain ⟨hx, hb, hown, hts, hml, hn0, hR, hA, hG⟩ := id C
  subst hR
  intro H locs ls hP hD hS hl
  refine va_newa hx hb (hts _ hm) hty hG.1 hP hD hS hA ha hn hN hbytes hc hs hdg (fun q cA' H1 hK' hP' hD' hS' => ?_)
  have e1 := (hG.1.2 t0 _ ht).2
  have e2 := (hK'.2 (jT g).length (cA', ty) (by simp)).2
  have e3 : cA' = cA := by
    cases ty <;> first | exact absurd rfl (hob _) | exact Option.some.inj (Eq.trans (Eq.symm e2) e1)
  subst e3
  exact k9 q H1 locs ls hP' hD' hS' hl
theorem j_newq (C : j_C g κ cc own rm nL) {index : Nat} {Cn : String} (hm : Cond.classLink own index Cn ∈ TB) (hover : va_AO Cn (ks κ)) (t0 : Nat) {cA : ClassId} (ht : (jT g)[t0]? = some (cA, .object Cn)) {n : Int32} {N' : Nat} (hn : ¬ n < 0) (hN : n.toNatClampNeg = N') (hbytes : N' * 4 ≤ 536870912) (hc : cells + 1 ≤ rm.cells) (hs : slots + N' ≤ rm.slots) (hdg : decode cc pc = .ok (.anewarray index, 3))
    (k9 : ∀ q : Nat, j_V g κ (cells + 1) (slots + N') (pc + 3) lv (.ref q :: rest) (ws ++ [(q, .inl (cA, N', .inr (.inr (.inr (.inr (fun _ => none))))))])) : j_V g κ cells slots pc lv (.int n :: rest) ws := by
  obtain ⟨hx, hb, hown, hts, hml, hn0, hR, hA, hG⟩ := id C
  subst hR
  intro H locs ls hP hD hS hl
  refine va_newq hx hb hown (hts _ hm) hover hG.1 hP hD hS hA hn hN hbytes hc hs hdg (fun q cA' H1 hK' hP' hD' hS' => ?_)
  have e1 := (hG.1.2 t0 _ ht).2
  have e2 := (hK'.2 (jT g).length (cA', .object Cn) (by simp)).2
  obtain ⟨_, _, _, _, _, e1⟩ := e1
  obtain ⟨_, _, _, _, _, e2⟩ := e2
  have e3 : cA' = cA := Option.some.inj (Eq.trans (Eq.symm e2) e1)
  subst e3
  exact k9 q H1 locs ls hP' hD' hS' hl
/-- a class of which objects are made -/
def j_N (own : String) (index ci N : Nat) (fs : List Value) : Prop := ∃ (Cn : String) (T : u_T) (t0 : Nat → FieldType), (∀ w ∈ u_ws Cn T N, w ∈ TB) ∧ vwCl[ci]? = some (Cn, T, N) ∧ (∀ k, k < N → parseFieldDescriptor (T k).2.2.1 = some (t0 k)) ∧ Cond.classLink own index Cn ∈ TB ∧ Cond.instantiable Cn N ∈ TB ∧ Cond.initialized Cn ∈ TB ∧ ∀ j, j < N → defaultValue (t0 j) = vp_V fs j
theorem j_new (C : j_C g κ cc own rm nL) {index ci N : Nat} {fs : List Value} (hN : j_N own index ci N fs) (hc : cells + 1 ≤ rm.cells) (hs : slots + N ≤ rm.slots) (hdg : decode cc pc = .ok (.new index, 3))
    (k9 : ∀ q : Nat, j_V g κ (cells + 1) (slots + N) (pc + 3) lv (.ref q :: rest) (ws ++ [(q, .inr (ci, fs))])) : j_V g κ cells slots pc lv rest ws := by
  obtain ⟨Cn, T, t0, h1, h2, h3, h4, h5, h6, h7⟩ := hN
  obtain ⟨hx, hb, hown, hts, hml, hn0, hR, hA, hG⟩ := id C
  subst hR
  exact fun H locs ls hP hD hS hl => va_new hx hb hts h1 t0 h3 hown (hts _ h4) (hts _ h5) (hts _ h6) hG.1 hP hD hS hA h2 h7 hc hs hdg (fun q H1 a1 a2 a3 => k9 q H1 locs ls a1 a2 a3 hl)
theorem j_objInit (C : j_C g κ cc own rm nL) {index a : Nat} (hm : Cond.methodLink own index objectInit ∈ TB) (h1 : Cond.instanceMethod objectInit ∈ TB) (h2 : Cond.code objectInit ⟨#[0xb1]⟩ 1 none ∈ TB) (hf : 1 ≤ rm.frames) (hl9 : (rest.map fun v => v.category).sum + 12 ≤ rm.locals) (hdg : decode cc pc = .ok (.invokespecial index, 3))
    (k9 : j_V g κ cells slots (pc + 3) lv rest ws) : j_V g κ cells slots pc lv (.ref a :: rest) ws := by
  obtain ⟨hx, hb, hown, hts, hml, hn0, hR, hA, hG⟩ := id C
  subst hR
  intro H locs ls hP hD hS hl
  refine W.objInit hx hb hown (hts _ hm) (hts _ h1) (hts _ h2) rfl (by rw [hml, ← hn0]; exact hl.1) rfl hdg hf (by show 2 * 0 + _ + 12 ≤ _; omega) ?_
  exact W.eq (g2 := F0 (km κ) (pc + 3) ls rest) rfl (k9 H locs ls hP hD hS hl)
-- the tables
theorem j_tald (C : j_C g κ cc own rm nL) {t N : Nat} {f : Nat → Value} (hT : va_T .int t N f (kA κ) (ks κ) (ks κ).heap) {i : Int32} (hin : vp_in i N) {v : Value} (hv : f i.toNatClampNeg = v) (hdg : decode cc pc = .ok (.iaload, 1)) (k9 : j_V g κ cells slots (pc + 1) lv (v :: rest) ws) : j_V g κ cells slots pc lv (.int i :: .ref t :: rest) ws :=
  fun H locs ls hP hD hS hl => va_ti C.1 C.2.1 hT hS hin hv hdg (k9 H locs ls hP hD hS hl)
theorem j_gets (C : j_C g κ cc own rm nL) {Cn n d : String} {v : Value} {index : Nat} (hZ : va_Z Cn n d v (kA κ) (ks κ) (ks κ).heap) (hm : Cond.fieldLink own index Cn n d ∈ TB) (hdg : decode cc pc = .ok (.getstatic index, 3)) (k9 : j_V g κ cells slots (pc + 3) lv (v :: rest) ws) : j_V g κ cells slots pc lv rest ws :=
  fun H locs ls hP hD hS hl => va_gets C.1 C.2.1 hZ hS C.2.2.1 (C.2.2.2.1 _ hm) (fun _ h => h) hdg (k9 H locs ls hP hD hS hl)
-- calls
/-- the words of a method that is called -/
def j_Y (y : MethodName) (bytes : ByteArray) (maxL : Nat) (ret : Option FieldType) (n : Nat) : Prop := Cond.code y bytes maxL ret ∈ TB ∧ Cond.initialized y.cls ∈ TB ∧ y.cls ≠ "java/lang/invoke/MethodHandle" ∧ y.cls ≠ "java/lang/invoke/VarHandle" ∧ (parseMethodDescriptor y.desc).map (fun d => d.parameters.length) = some n
theorem j_fit {rm' : Room} {mc ms maxL : Nat} (h : (decide (rm'.cells = mc) && decide (rm'.slots = ms) && decide (rm'.frames + 1 ≤ rm.frames) && decide (8 + (maxL + 11) + rm'.locals ≤ rm.locals)) = true) : rm'.cells = mc ∧ rm'.slots = ms ∧ rm'.frames + 1 ≤ rm.frames ∧ 8 + (maxL + 11) + rm'.locals ≤ rm.locals := by
  simp only [Bool.and_eq_true, decide_eq_true_eq] at h
  exact ⟨h.1.1.1, h.1.1.2, h.1.2, h.2⟩
/-- behind a call, whichever it was -/
theorem j_after {wc wr w0 : va_W} {O : Option Value → va_W → Prop} {mc ms : Nat} {st : List Value} {av : Array Value} {H : Heap} {locs : List Loc} {ls : Array Slot} (hsub : j_Sb w0 (wc ++ wr)) (hP : va_P (jD g) vwCl w0 H) (hD : va_D (kA κ) w0) (hS : va_S (kA κ) (ks κ).heap H locs) (hA : ∀ q : Nat, (ks κ).heap.size ≤ q → kA κ q) (hl : lv_has ls (kn κ) lv)
    (run : va_Run (kp κ) (kl κ) (ke κ) (kR κ) (ks κ) (km κ) (ka κ) (kb κ) (kM κ) (kc κ) H locs cells slots mc ms (F0 (km κ) pc ls st) rest (j_Post g wc H.size O av) (va_A wc H.size))
    (k9 : ∀ (r : Option Value) (w1 : va_W), O r w1 → j_V g κ (cells + mc) (slots + ms) (pc + 3) lv (r.toList ++ rest) (w1 ++ wr)) : W (kp κ) (kl κ) (ke κ) (kR κ) (ks κ) (km κ) (ka κ) (kb κ) (kM κ) (kc κ) H locs cells slots (kQ κ) (F0 (km κ) pc ls st) := by
  have hPs := hsub.P hP
  have hDs := hsub.2 _ hD
  have hFc := j_freeA (j_D_left hDs) hS hA
  intro T hT X
  obtain ⟨v, st₀, t, T', L, h0, X', hL, e1, e2, ⟨⟨r, w1, hv, hO, hP1, hD1⟩, hz, hk⟩, go⟩ := run T hT X
  cases hv
  rw [h0] at hz hk
  rw [← e1] at hP1 hz
  have hk' : ∀ q : Nat, q < H.size → ¬ va_A wc H.size q → T'.heap[q]? = H[q]? := fun q h1 h2 => by rw [e1]; exact hk q h1 h2
  obtain ⟨a1, a2⟩ := j_join hPs hDs hk' hFc hP1 hD1
  have hS' : va_S (kA κ) (ks κ).heap T'.heap (locs ++ L) := ⟨Nat.le_trans hS.1 hz, fun q h1 h2 => by
      rw [hk' q (Nat.lt_of_lt_of_le h1 hS.1) (fun z => h2 (hFc q z))]; exact hS.2.1 q h1 h2, fun q hq => by
      rcases List.mem_append.mp hq with h | h
      · exact hS.2.2 q h
      · exact hFc _ (hL q h)⟩
  obtain ⟨t2, b1, b2⟩ := k9 v w1 hO T'.heap (locs ++ L) ls a1 a2 hS' hl T' rfl X'
  exact ⟨t2, go t2 b1, b2⟩
theorem j_pre {wc wr : va_W} {av : List Value} {H : Heap} {locs : List Loc} {w0 : va_W} (C : j_C g κ cc own rm nL) (hsub : j_Sb w0 (wc ++ wr)) (hP : va_P (jD g) vwCl w0 H) (hD : va_D (kA κ) w0) (hS : va_S (kA κ) (ks κ).heap H locs) : ∀ U : State, U.heap = H → (ks κ).WarmedH U.vm → j_Pre g wc H.size av av.toArray U := by
  intro U hU hW
  have hDs := hsub.2 _ hD
  have hFc := j_freeA (j_D_left hDs) hS C.2.2.2.2.2.2.2.1
  refine ⟨rfl, by rw [hU], ?_, (j_D_left hDs).weaken (fun _ _ _ _ => trivial), C.2.2.2.2.2.2.2.2.go hU hW hS hFc⟩
  rw [hU]
  exact j_P_of fun q hq => j_P_at (hsub.P hP) (List.mem_append_left _ hq)
/-- invokevirtual (a method that isn't overridden) -/
theorem j_callV (C : j_C g κ cc own rm nL) {y : MethodName} {bytes : ByteArray} {maxL n index : Nat} {ret : Option FieldType} {rm' : Room} {wc wr : va_W} {b : Nat} {As : List Value} {O : Option Value → va_W → Prop} {mc ms : Nat} (hM : j_Ct (kl κ) y bytes maxL ret rm' g wc (.ref b :: As) O mc ms) (hY : j_Y y bytes maxL ret n) (hm : Cond.methodLink own index y ∈ TB) (hi : Cond.instanceMethod y ∈ TB) (hs : Cond.selects y.cls y y ∈ TB)
    (hr : (decide (rm'.cells = mc) && decide (rm'.slots = ms) && decide (rm'.frames + 1 ≤ rm.frames) && decide (8 + (maxL + 11) + rm'.locals ≤ rm.locals)) = true) (hf : cells + mc ≤ rm.cells ∧ slots + ms ≤ rm.slots) (hn : As.length = n) {ci q0 : Nat} {q : vw_C} {fs : List Value} (hc : vwCl[ci]? = some q) (hq : q.1 = y.cls) (he : wc[q0]? = some (b, .inr (ci, fs))) (hstk : (rest.map fun v => v.category).sum ≤ 8) (hsub : j_Sb ws (wc ++ wr)) {st : List Value} (hst : st = As.reverse ++ .ref b :: rest) (hdg : decode cc pc = .ok (.invokevirtual index, 3))
    (k9 : ∀ (r : Option Value) (w1 : va_W), O r w1 → j_V g κ (cells + mc) (slots + ms) (pc + 3) lv (r.toList ++ rest) (w1 ++ wr)) : j_V g κ cells slots pc lv st ws := by
  obtain ⟨hx, hb, hown, hts, hml, hn0, hR, hA, hG⟩ := id C
  subst hR
  obtain ⟨r1, r2, r3, r4⟩ := j_fit hr
  obtain ⟨y1, y2, y3, y4, y5⟩ := hY
  intro H locs ls hP hD hS hl
  have hPs : va_P (jD g) vwCl wc H := j_P_of fun q hq => j_P_at (hsub.P hP) (List.mem_append_left _ hq)
  refine j_after (av := (Value.ref b :: As).toArray) hsub hP hD hS hA hl (va_runV (Ts := TB) (own := own) (C := y.cls) (As := As) (rest := rest) ⟨hx, hb, hml, hown, hts⟩ (hM H.size) ⟨⟨r1, r2, r3, r4, pay_in hts (j_goodC y1), List.mem_cons_self, hts _ y1, hts _ y2, ⟨y3, y4⟩, fun sig h => ?_, hts _ hm⟩, hts _ hi, hts _ hs⟩ ⟨j_blind, ?_, j_pre C hsub hP hD hS⟩ rfl hn (by rw [← hn0]; exact hl.1) hst (lv_room hstk) hdg hf) k9
  · rw [h] at y5; exact (Option.some.inj y5).symm
  · rw [← hq]; exact va_recv hG.1 hPs hc he
theorem j_callS (C : j_C g κ cc own rm nL) {y : MethodName} {bytes : ByteArray} {maxL n index : Nat} {ret : Option FieldType} {rm' : Room} {wc wr : va_W} {As : List Value} {O : Option Value → va_W → Prop} {mc ms : Nat} (hM : j_Ct (kl κ) y bytes maxL ret rm' g wc As O mc ms) (hY : j_Y y bytes maxL ret n) (hm : Cond.methodLink own index y ∈ TB) (hi : Cond.static y ∈ TB)
    (hr : (decide (rm'.cells = mc) && decide (rm'.slots = ms) && decide (rm'.frames + 1 ≤ rm.frames) && decide (8 + (maxL + 11) + rm'.locals ≤ rm.locals)) = true) (hf : cells + mc ≤ rm.cells ∧ slots + ms ≤ rm.slots) (hn : As.length = n) (hstk : (rest.map fun v => v.category).sum ≤ 8) (hsub : j_Sb ws (wc ++ wr)) {st : List Value} (hst : st = As.reverse ++ rest) (hdg : decode cc pc = .ok (.invokestatic index, 3))
    (k9 : ∀ (r : Option Value) (w1 : va_W), O r w1 → j_V g κ (cells + mc) (slots + ms) (pc + 3) lv (r.toList ++ rest) (w1 ++ wr)) : j_V g κ cells slots pc lv st ws := by
  obtain ⟨hx, hb, hown, hts, hml, hn0, hR, hA, hG⟩ := id C
  subst hR
  obtain ⟨r1, r2, r3, r4⟩ := j_fit hr
  obtain ⟨y1, y2, y3, y4, y5⟩ := hY
  intro H locs ls hP hD hS hl
  refine j_after (av := As.toArray) hsub hP hD hS hA hl (va_runS (Ts := TB) (own := own) (As := As) (rest := rest) ⟨hx, hb, hml, hown, hts⟩ (hM H.size) ⟨⟨r1, r2, r3, r4, pay_in hts (j_goodC y1), List.mem_cons_self, hts _ y1, hts _ y2, ⟨y3, y4⟩, fun sig h => ?_, hts _ hm⟩, hts _ hi⟩ ⟨j_blind, j_pre C hsub hP hD hS⟩ rfl hn (by rw [← hn0]; exact hl.1) hst (lv_room hstk) hdg hf) k9
  rw [h] at y5; exact (Option.some.inj y5).symm
theorem j_callI (C : j_C g κ cc own rm nL) {y : MethodName} {bytes : ByteArray} {maxL n index : Nat} {rm' : Room} {wc wr : va_W} {b : Nat} {As : List Value} {O : Option Value → va_W → Prop} {mc ms : Nat} (hM : j_Ct (kl κ) y bytes maxL none rm' g wc (.ref b :: As) O mc ms) (hY : j_Y y bytes maxL none n) (hy : y.name = "<init>") (hm : Cond.methodLink own index y ∈ TB) (hi : Cond.instanceMethod y ∈ TB)
    (hr : (decide (rm'.cells = mc) && decide (rm'.slots = ms) && decide (rm'.frames + 1 ≤ rm.frames) && decide (8 + (maxL + 11) + rm'.locals ≤ rm.locals)) = true) (hf : cells + mc ≤ rm.cells ∧ slots + ms ≤ rm.slots) (hn : As.length = n) (hstk : (rest.map fun v => v.category).sum ≤ 8) (hsub : j_Sb ws (wc ++ wr)) {st : List Value} (hst : st = As.reverse ++ .ref b :: rest) (hdg : decode cc pc = .ok (.invokespecial index, 3))
    (k9 : ∀ (r : Option Value) (w1 : va_W), O r w1 → j_V g κ (cells + mc) (slots + ms) (pc + 3) lv (r.toList ++ rest) (w1 ++ wr)) : j_V g κ cells slots pc lv st ws := by
  obtain ⟨hx, hb, hown, hts, hml, hn0, hR, hA, hG⟩ := id C
  subst hR
  obtain ⟨r1, r2, r3, r4⟩ := j_fit hr
  obtain ⟨y1, y2, y3, y4, y5⟩ := hY
  intro H locs ls hP hD hS hl
  refine j_after (av := (Value.ref b :: As).toArray) hsub hP hD hS hA hl (va_runI (Ts := TB) (own := own) (As := As) (rest := rest) ⟨hx, hb, hml, hown, hts⟩ (hM H.size) ⟨⟨r1, r2, r3, r4, pay_in hts (j_goodC y1), List.mem_cons_self, hts _ y1, hts _ y2, ⟨y3, y4⟩, fun sig h => ?_, hts _ hm⟩, hy, hts _ hi⟩ ⟨j_blind, j_pre C hsub hP hD hS⟩ rfl hn (by rw [← hn0]; exact hl.1) hst (lv_room hstk) hdg hf) k9
  rw [h] at y5; exact (Option.some.inj y5).symm
/-- a private static method of a nest mate -/
theorem j_callSN (C : j_C g κ cc own rm nL) {y : MethodName} {host : String} {bytes : ByteArray} {maxL n index : Nat} {ret : Option FieldType} {rm' : Room} {wc wr : va_W} {As : List Value} {O : Option Value → va_W → Prop} {mc ms : Nat} (hM : j_Ct (kl κ) y bytes maxL ret rm' g wc As O mc ms) (hY : j_Y y bytes maxL ret n) (hm : Cond.methodLinkNest own index y host ∈ jN) (hi : Cond.static y ∈ TB)
    (hr : (decide (rm'.cells = mc) && decide (rm'.slots = ms) && decide (rm'.frames + 1 ≤ rm.frames) && decide (8 + (maxL + 11) + rm'.locals ≤ rm.locals)) = true) (hf : cells + mc ≤ rm.cells ∧ slots + ms ≤ rm.slots) (hn : As.length = n) (hstk : (rest.map fun v => v.category).sum ≤ 8) (hsub : j_Sb ws (wc ++ wr)) {st : List Value} (hst : st = As.reverse ++ rest) (hdg : decode cc pc = .ok (.invokestatic index, 3))
    (k9 : ∀ (r : Option Value) (w1 : va_W), O r w1 → j_V g κ (cells + mc) (slots + ms) (pc + 3) lv (r.toList ++ rest) (w1 ++ wr)) : j_V g κ cells slots pc lv st ws := by
  obtain ⟨hx, hb, hown, hts, hml, hn0, hR, hA, hG⟩ := id C
  subst hR
  obtain ⟨r1, r2, r3, r4⟩ := j_fit hr
  obtain ⟨y1, y2, y3, y4, y5⟩ := hY
  intro H locs ls hP hD hS hl
  refine j_after (av := As.toArray) hsub hP hD hS hA hl (va_runSN (Ts := TB) (own := own) (host := host) (As := As) (rest := rest) ⟨hx, hb, hml, hown, hts⟩ (hM H.size) ⟨⟨⟨r1, r2, r3, r4, pay_in hts (j_goodC y1), List.mem_cons_self⟩, hts _ y1, hts _ y2, ⟨y3, y4⟩, fun sig h => ?_, va_Nw.use rfl (hG.2.1 _ hm)⟩, hts _ hi, trivial⟩ ⟨j_blind, j_pre C hsub hP hD hS⟩ rfl hn (by rw [← hn0]; exact hl.1) hst (lv_room hstk) hdg hf) k9
  rw [h] at y5; exact (Option.some.inj y5).symm
/-- a nest mate's private constructor -/
theorem j_callIN (C : j_C g κ cc own rm nL) {y : MethodName} {host : String} {bytes : ByteArray} {maxL n index : Nat} {rm' : Room} {wc wr : va_W} {b : Nat} {As : List Value} {O : Option Value → va_W → Prop} {mc ms : Nat} (hM : j_Ct (kl κ) y bytes maxL none rm' g wc (.ref b :: As) O mc ms) (hY : j_Y y bytes maxL none n) (hy : y.name = "<init>") (hm : Cond.methodLinkNest own index y host ∈ jN) (hi : Cond.instanceMethod y ∈ TB)
    (hr : (decide (rm'.cells = mc) && decide (rm'.slots = ms) && decide (rm'.frames + 1 ≤ rm.frames) && decide (8 + (maxL + 11) + rm'.locals ≤ rm.locals)) = true) (hf : cells + mc ≤ rm.cells ∧ slots + ms ≤ rm.slots) (hn : As.length = n) (hstk : (rest.map fun v => v.category).sum ≤ 8) (hsub : j_Sb ws (wc ++ wr)) {st : List Value} (hst : st = As.reverse ++ .ref b :: rest) (hdg : decode cc pc = .ok (.invokespecial index, 3))
    (k9 : ∀ (r : Option Value) (w1 : va_W), O r w1 → j_V g κ (cells + mc) (slots + ms) (pc + 3) lv (r.toList ++ rest) (w1 ++ wr)) : j_V g κ cells slots pc lv st ws := by
  obtain ⟨hx, hb, hown, hts, hml, hn0, hR, hA, hG⟩ := id C
  subst hR
  obtain ⟨r1, r2, r3, r4⟩ := j_fit hr
  obtain ⟨y1, y2, y3, y4, y5⟩ := hY
  intro H locs ls hP hD hS hl
  refine j_after (av := (Value.ref b :: As).toArray) hsub hP hD hS hA hl (va_runIN (Ts := TB) (own := own) (host := host) (As := As) (rest := rest) ⟨hx, hb, hml, hown, hts⟩ (hM H.size) ⟨⟨⟨r1, r2, r3, r4, pay_in hts (j_goodC y1), List.mem_cons_self⟩, hts _ y1, hts _ y2, ⟨y3, y4⟩, fun sig h => ?_, va_Nw.use rfl (hG.2.1 _ hm)⟩, hy, hts _ hi⟩ ⟨j_blind, j_pre C hsub hP hD hS⟩ rfl hn (by rw [← hn0]; exact hl.1) hst (lv_room hstk) hdg hf) k9
  rw [h] at y5; exact (Option.some.inj y5).symm
/-- a nest mate's private method -/
theorem j_callVN (C : j_C g κ cc own rm nL) {y : MethodName} {host : String} {bytes : ByteArray} {maxL n index : Nat} {ret : Option FieldType} {rm' : Room} {wc wr : va_W} {b : Nat} {As : List Value} {O : Option Value → va_W → Prop} {mc ms : Nat} (hM : j_Ct (kl κ) y bytes maxL ret rm' g wc (.ref b :: As) O mc ms) (hY : j_Y y bytes maxL ret n) (hm : Cond.methodLinkNest own index y host ∈ jN) (hi : Cond.instanceMethod y ∈ TB) (hs : Cond.selects y.cls y y ∈ TB)
    (hr : (decide (rm'.cells = mc) && decide (rm'.slots = ms) && decide (rm'.frames + 1 ≤ rm.frames) && decide (8 + (maxL + 11) + rm'.locals ≤ rm.locals)) = true) (hf : cells + mc ≤ rm.cells ∧ slots + ms ≤ rm.slots) (hn : As.length = n) {ci q0 : Nat} {q : vw_C} {fs : List Value} (hc : vwCl[ci]? = some q) (hq : q.1 = y.cls) (he : wc[q0]? = some (b, .inr (ci, fs))) (hstk : (rest.map fun v => v.category).sum ≤ 8) (hsub : j_Sb ws (wc ++ wr)) {st : List Value} (hst : st = As.reverse ++ .ref b :: rest) (hdg : decode cc pc = .ok (.invokevirtual index, 3))
    (k9 : ∀ (r : Option Value) (w1 : va_W), O r w1 → j_V g κ (cells + mc) (slots + ms) (pc + 3) lv (r.toList ++ rest) (w1 ++ wr)) : j_V g κ cells slots pc lv st ws := by
  obtain ⟨hx, hb, hown, hts, hml, hn0, hR, hA, hG⟩ := id C
  subst hR
  obtain ⟨r1, r2, r3, r4⟩ := j_fit hr
  obtain ⟨y1, y2, y3, y4, y5⟩ := hY
  intro H locs ls hP hD hS hl
  have hPs : va_P (jD g) vwCl wc H := j_P_of fun q hq => j_P_at (hsub.P hP) (List.mem_append_left _ hq)
  refine j_after (av := (Value.ref b :: As).toArray) hsub hP hD hS hA hl (va_runVN (Ts := TB) (own := own) (C := y.cls) (host := host) (As := As) (rest := rest) ⟨hx, hb, hml, hown, hts⟩ (hM H.size) ⟨⟨⟨r1, r2, r3, r4, pay_in hts (j_goodC y1), List.mem_cons_self⟩, hts _ y1, hts _ y2, ⟨y3, y4⟩, fun sig h => ?_, va_Nw.use rfl (hG.2.1 _ hm)⟩, hts _ hi, hts _ hs⟩ ⟨j_blind, ?_, j_pre C hsub hP hD hS⟩ rfl hn (by rw [← hn0]; exact hl.1) hst (lv_room hstk) hdg hf) k9
  · rw [h] at y5; exact (Option.some.inj y5).symm
  · rw [← hq]; exact va_recv hG.1 hPs hc he
end JR
/-- a contract out of the walk of its body -/
theorem j_ct {l : Launch} {y : MethodName} {cc : ByteArray} {nL : Nat} {ret : Option FieldType} {rm : Room} {g : JX} {wc : va_W} {av : List Value} {O : Option Value → va_W → Prop} {mc ms : Nat} (hy : plainName y.cls = true) (hlen : (lg_sl av).length ≤ nL)
    (body : ∀ κ : JK, kl κ = l → j_C g κ cc y.cls rm nL → j_R g κ cc ret O mc ms → (kM κ).name = y.name → j_V g κ 0 0 0 (lv_args 0 av) [] wc) : j_Ct l y cc nL ret rm g wc av O mc ms := by
  intro sz
  refine Met.ofW (cc := cc) (maxL := nL) (ret := ret) hy rfl ?_
  intro p e s m args below meth c s₁ B hml hv
  obtain ⟨rfl, hsz, hP, hD0, hG⟩ := hv
  subst hsz
  have hx := B.exec
  have hb := B.bytes
  have hr := B.returns
  have hts := atoms_spec (ws := .code y cc nL ret :: TB) B.pre
  have hown : s.vm.findClass y.cls = some m.cls := findClass_of_methodNamed B.named
  have hlocks := B.notSynchronized
  have hl := lv_entry av (n := nL) hlen
  rw [lg_entry_eq]
  have hA : ∀ q : Nat, s.heap.size ≤ q → va_A wc s.heap.size q := fun q h => Or.inr h
  refine body (p, l, e, rm, s, m, av.toArray, below, meth, c, MQ below (j_Post g wc s.heap.size O) av.toArray s mc ms (va_A wc s.heap.size), va_A wc s.heap.size, nL) rfl ⟨hx, hb, hown, fun w hw => hts w (List.mem_cons_of_mem _ hw), hml, rfl, rfl, hA, hG⟩ ?_ (name_of_methodNamed B.named B.method).1 s.heap [] _ hP hD0.self va_S.rf hl
  refine ⟨?_, ?_, ?_⟩
  · intro pc lv ws v hdg hn hO H locs ls hP hD hS hl
    obtain ⟨ty, e1, e2⟩ := hn
    subst e1
    exact W.zret (ty := ty) hx hb hr e2 (fun t ht hW => ⟨⟨_, ws, rfl, hO, by rw [ht]; exact hP, hD⟩, hS.F ht⟩) hS.2.2 hdg
  · intro pc lv ws v hdg hn hO H locs ls hP hD hS hl
    subst hn
    exact W.lret hx hb hr (fun t ht hW => ⟨⟨_, ws, rfl, hO, by rw [ht]; exact hP, hD⟩, hS.F ht⟩) hS.2.2 hdg
  · intro pc lv ws hdg hn hO H locs ls hP hD hS hl
    subst hn
    exact W.vret hx hb hr (fun t ht hW => ⟨⟨_, ws, rfl, hO, by rw [ht]; exact hP, hD⟩, hS.F ht⟩) hS.2.2 hdg
section JN
variable {g : JX} {κ : JK} {cc : ByteArray} {own : String} {rm : Room} {nL pc cells slots : Nat} {lv : List (Nat × Value)} {rest : List Value} {ws : va_W}
theorem j_iaddN (C : j_C g κ cc own rm nL) {a b : Nat} (hdg : decode cc pc = .ok (.iadd, 1)) (k9 : j_V g κ cells slots (pc + 1) lv (.int (nI (a + b)) :: rest) ws) : j_V g κ cells slots pc lv (.int (nI b) :: .int (nI a) :: rest) ws := j_iadd C hdg (j_rwi (nI_add a b) k9)
theorem j_isubN (C : j_C g κ cc own rm nL) {a b : Nat} (h : b ≤ a) (hdg : decode cc pc = .ok (.isub, 1)) (k9 : j_V g κ cells slots (pc + 1) lv (.int (nI (a - b)) :: rest) ws) : j_V g κ cells slots pc lv (.int (nI b) :: .int (nI a) :: rest) ws := j_isub C hdg (j_rwi (pk_sub h) k9)
theorem j_imulN (C : j_C g κ cc own rm nL) {a b : Nat} (hdg : decode cc pc = .ok (.imul, 1)) (k9 : j_V g κ cells slots (pc + 1) lv (.int (nI (a * b)) :: rest) ws) : j_V g κ cells slots pc lv (.int (nI b) :: .int (nI a) :: rest) ws := j_imul C hdg (j_rwi (pk_mul a b) k9)
theorem j_idivN (C : j_C g κ cc own rm nL) {a b : Nat} (ha : a < 2 ^ 31) (h0 : 0 < b) (hb : b < 2 ^ 31) (hdg : decode cc pc = .ok (.idiv, 1)) (k9 : j_V g κ cells slots (pc + 1) lv (.int (nI (a / b)) :: rest) ws) : j_V g κ cells slots pc lv (.int (nI b) :: .int (nI a) :: rest) ws := j_idiv C hdg (nI_ne0 h0 hb) (j_rwi (pk_div ha h0 hb) k9)
theorem j_iremN (C : j_C g κ cc own rm nL) {a b : Nat} (ha : a < 2 ^ 31) (h0 : 0 < b) (hb : b < 2 ^ 31) (hdg : decode cc pc = .ok (.irem, 1)) (k9 : j_V g κ cells slots (pc + 1) lv (.int (nI (a % b)) :: rest) ws) : j_V g κ cells slots pc lv (.int (nI b) :: .int (nI a) :: rest) ws := j_irem C hdg (nI_ne0 h0 hb) (j_rwi (pk_rem ha h0 hb) k9)
theorem j_icmp_ltN (C : j_C g κ cc own rm nL) {a b : Nat} (ha : a < 2 ^ 31) (hb : b < 2 ^ 31) {off : Int} {tgt : Nat} (hdg : decode cc pc = .ok (.if_icmp .lt off, 3)) (ht : (pc : Int) + off = (tgt : Int)) (kt : a < b → j_V g κ cells slots tgt lv rest ws) (kf : b ≤ a → j_V g κ cells slots (pc + 3) lv rest ws) : j_V g κ cells slots pc lv (.int (nI b) :: .int (nI a) :: rest) ws :=
  j_icmp_lt C hdg ht (fun h => kt ((nI_ltI ha hb).mp h)) (fun h => kf (Nat.le_of_not_lt fun q => h ((nI_ltI ha hb).mpr q)))
theorem j_icmp_geN (C : j_C g κ cc own rm nL) {a b : Nat} (ha : a < 2 ^ 31) (hb : b < 2 ^ 31) {off : Int} {tgt : Nat} (hdg : decode cc pc = .ok (.if_icmp .ge off, 3)) (ht : (pc : Int) + off = (tgt : Int)) (kt : b ≤ a → j_V g κ cells slots tgt lv rest ws) (kf : a < b → j_V g κ cells slots (pc + 3) lv rest ws) : j_V g κ cells slots pc lv (.int (nI b) :: .int (nI a) :: rest) ws :=
  j_icmp_ge C hdg ht (fun h => kt ((nI_leI hb ha).mp h)) (fun h => kf (Nat.lt_of_not_le fun q => h ((nI_leI hb ha).mpr q)))
theorem j_icmp_gtN (C : j_C g κ cc own rm nL) {a b : Nat} (ha : a < 2 ^ 31) (hb : b < 2 ^ 31) {off : Int} {tgt : Nat} (hdg : decode cc pc = .ok (.if_icmp .gt off, 3)) (ht : (pc : Int) + off = (tgt : Int)) (kt : b < a → j_V g κ cells slots tgt lv rest ws) (kf : a ≤ b → j_V g κ cells slots (pc + 3) lv rest ws) : j_V g κ cells slots pc lv (.int (nI b) :: .int (nI a) :: rest) ws :=
  j_icmp_gt C hdg ht (fun h => kt ((nI_ltI hb ha).mp h)) (fun h => kf (Nat.le_of_not_lt fun q => h ((nI_ltI hb ha).mpr q)))
theorem j_icmp_leN (C : j_C g κ cc own rm nL) {a b : Nat} (ha : a < 2 ^ 31) (hb : b < 2 ^ 31) {off : Int} {tgt : Nat} (hdg : decode cc pc = .ok (.if_icmp .le off, 3)) (ht : (pc : Int) + off = (tgt : Int)) (kt : a ≤ b → j_V g κ cells slots tgt lv rest ws) (kf : b < a → j_V g κ cells slots (pc + 3) lv rest ws) : j_V g κ cells slots pc lv (.int (nI b) :: .int (nI a) :: rest) ws :=
  j_icmp_le C hdg ht (fun h => kt ((nI_leI ha hb).mp h)) (fun h => kf (Nat.lt_of_not_le fun q => h ((nI_leI ha hb).mpr q)))
theorem j_icmp_eqN (C : j_C g κ cc own rm nL) {a b : Nat} (ha : a < 2 ^ 31) (hb : b < 2 ^ 31) {off : Int} {tgt : Nat} (hdg : decode cc pc = .ok (.if_icmp .eq off, 3)) (ht : (pc : Int) + off = (tgt : Int)) (kt : a = b → j_V g κ cells slots tgt lv rest ws) (kf : a ≠ b → j_V g κ cells slots (pc + 3) lv rest ws) : j_V g κ cells slots pc lv (.int (nI b) :: .int (nI a) :: rest) ws :=
  j_icmp_eq C hdg ht (fun h => kt ((nI_eq ha hb).mp h)) (fun h => kf (fun q => h ((nI_eq ha hb).mpr q)))
theorem j_icmp_neN (C : j_C g κ cc own rm nL) {a b : Nat} (ha : a < 2 ^ 31) (hb : b < 2 ^ 31) {off : Int} {tgt : Nat} (hdg : decode cc pc = .ok (.if_icmp .ne off, 3)) (ht : (pc : Int) + off = (tgt : Int)) (kt : a ≠ b → j_V g κ cells slots tgt lv rest ws) (kf : a = b → j_V g κ cells slots (pc + 3) lv rest ws) : j_V g κ cells slots pc lv (.int (nI b) :: .int (nI a) :: rest) ws :=
  j_icmp_ne C hdg ht (fun h => kt (fun q => h ((nI_eq ha hb).mpr q))) (fun h => kf ((nI_eq ha hb).mp h))
theorem j_if_ltN (C : j_C g κ cc own rm nL) {a : Nat} (ha : a < 2 ^ 31) {off : Int} {tgt : Nat} (hdg : decode cc pc = .ok (.ifCond .lt off, 3)) (ht : (pc : Int) + off = (tgt : Int)) (k9 : j_V g κ cells slots (pc + 3) lv rest ws) : j_V g κ cells slots pc lv (.int (nI a) :: rest) ws :=
  j_if_lt C hdg ht (fun h => absurd h (nI_pos ha)) (fun _ => k9)
theorem j_if_geN (C : j_C g κ cc own rm nL) {a : Nat} (ha : a < 2 ^ 31) {off : Int} {tgt : Nat} (hdg : decode cc pc = .ok (.ifCond .ge off, 3)) (ht : (pc : Int) + off = (tgt : Int)) (k9 : j_V g κ cells slots tgt lv rest ws) : j_V g κ cells slots pc lv (.int (nI a) :: rest) ws :=
  j_if_ge C hdg ht (fun _ => k9) (fun h => absurd (nI_pos' ha) h)
theorem j_nI0 {a : Nat} (ha : a < 2 ^ 31) : nI a = 0 ↔ a = 0 := by
  have h := nI_eq (b := 0) ha (by decide)
  rw [nI_0] at h
  exact h
theorem j_if_eqN (C : j_C g κ cc own rm nL) {a : Nat} (ha : a < 2 ^ 31) {off : Int} {tgt : Nat} (hdg : decode cc pc = .ok (.ifCond .eq off, 3)) (ht : (pc : Int) + off = (tgt : Int)) (kt : a = 0 → j_V g κ cells slots tgt lv rest ws) (kf : 0 < a → j_V g κ cells slots (pc + 3) lv rest ws) : j_V g κ cells slots pc lv (.int (nI a) :: rest) ws :=
  j_if_eq C hdg ht (fun h => kt ((j_nI0 ha).mp h)) (fun h => kf (Nat.pos_of_ne_zero fun q => h ((j_nI0 ha).mpr q)))
theorem j_if_neN (C : j_C g κ cc own rm nL) {a : Nat} (ha : a < 2 ^ 31) {off : Int} {tgt : Nat} (hdg : decode cc pc = .ok (.ifCond .ne off, 3)) (ht : (pc : Int) + off = (tgt : Int)) (kt : 0 < a → j_V g κ cells slots tgt lv rest ws) (kf : a = 0 → j_V g κ cells slots (pc + 3) lv rest ws) : j_V g κ cells slots pc lv (.int (nI a) :: rest) ws :=
  j_if_ne C hdg ht (fun h => kt (Nat.pos_of_ne_zero fun q => h ((j_nI0 ha).mpr q))) (fun h => kf ((j_nI0 ha).mp h))
theorem j_if_gtN (C : j_C g κ cc own rm nL) {a : Nat} (ha : a < 2 ^ 31) {off : Int} {tgt : Nat} (hdg : decode cc pc = .ok (.ifCond .gt off, 3)) (ht : (pc : Int) + off = (tgt : Int)) (kt : 0 < a → j_V g κ cells slots tgt lv rest ws) (kf : a = 0 → j_V g κ cells slots (pc + 3) lv rest ws) : j_V g κ cells slots pc lv (.int (nI a) :: rest) ws := by
  refine j_if_gt C hdg ht (fun h => kt ?_) (fun h => kf ?_)
  · rw [← nI_0] at h; exact (nI_ltI (by decide) ha).mp h
  · rw [← nI_0] at h; exact Nat.eq_zero_of_not_pos fun q => h ((nI_ltI (by decide) ha).mpr q)
theorem j_if_leN (C : j_C g κ cc own rm nL) {a : Nat} (ha : a < 2 ^ 31) {off : Int} {tgt : Nat} (hdg : decode cc pc = .ok (.ifCond .le off, 3)) (ht : (pc : Int) + off = (tgt : Int)) (kt : a = 0 → j_V g κ cells slots tgt lv rest ws) (kf : 0 < a → j_V g κ cells slots (pc + 3) lv rest ws) : j_V g κ cells slots pc lv (.int (nI a) :: rest) ws := by
  refine j_if_le C hdg ht (fun h => kt ?_) (fun h => kf ?_)
  · rw [← nI_0] at h; exact Nat.le_zero.mp ((nI_leI ha (by decide)).mp h)
  · rw [← nI_0] at h; exact Nat.lt_of_not_le fun q => h ((nI_leI ha (by decide)).mpr q)
/-- a truth value decides -/
theorem j_if_eqB (C : j_C g κ cc own rm nL) {P : Prop} [Decidable P] {off : Int} {tgt : Nat} (hdg : decode cc pc = .ok (.ifCond .eq off, 3)) (ht : (pc : Int) + off = (tgt : Int)) (kt : ¬ P → j_V g κ cells slots tgt lv rest ws) (kf : P → j_V g κ cells slots (pc + 3) lv rest ws) : j_V g κ cells slots pc lv (.int (if P then (1 : Int32) else 0) :: rest) ws := by
  by_cases h : P
  · rw [if_pos h]; exact j_if_eq C hdg ht (fun q => absurd q (by decide)) (fun _ => kf h)
  · rw [if_neg h]; exact j_if_eq C hdg ht (fun _ => kt h) (fun q => absurd rfl q)
theorem j_if_neB (C : j_C g κ cc own rm nL) {P : Prop} [Decidable P] {off : Int} {tgt : Nat} (hdg : decode cc pc = .ok (.ifCond .ne off, 3)) (ht : (pc : Int) + off = (tgt : Int)) (kt : P → j_V g κ cells slots tgt lv rest ws) (kf : ¬ P → j_V g κ cells slots (pc + 3) lv rest ws) : j_V g κ cells slots pc lv (.int (if P then (1 : Int32) else 0) :: rest) ws := by
  by_cases h : P
  · rw [if_pos h]; exact j_if_ne C hdg ht (fun _ => kt h) (fun q => absurd q (by decide))
  · rw [if_neg h]; exact j_if_ne C hdg ht (fun q => absurd rfl q) (fun _ => kf h)
theorem j_baldN (C : j_C g κ cc own rm nL) (q0 t0 : Nat) {a n : Nat} {cA : ClassId} {f : Nat → Int32} (ha : ws[q0]? = some (a, .inl (cA, n, .inl f))) (ht : (jT g)[t0]? = some (cA, .byte)) {i : Nat} (hi : i < n) (hn : n < 2 ^ 31) (hdg : decode cc pc = .ok (.baload, 1)) (k9 : j_V g κ cells slots (pc + 1) lv (.int (f i) :: rest) ws) : j_V g κ cells slots pc lv (.int (nI i) :: .ref a :: rest) ws :=
  j_bald C q0 t0 ha ht (vp_in_nI hi hn) (by rw [nI_clamp (Nat.lt_trans hi hn)]) hdg k9
theorem j_ialdN (C : j_C g κ cc own rm nL) (q0 t0 : Nat) {a n : Nat} {cA : ClassId} {f : Nat → Int32} (ha : ws[q0]? = some (a, .inl (cA, n, .inl f))) (ht : (jT g)[t0]? = some (cA, .int)) {i : Nat} (hi : i < n) (hn : n < 2 ^ 31) (hdg : decode cc pc = .ok (.iaload, 1)) (k9 : j_V g κ cells slots (pc + 1) lv (.int (f i) :: rest) ws) : j_V g κ cells slots pc lv (.int (nI i) :: .ref a :: rest) ws :=
  j_iald C q0 t0 ha ht (vp_in_nI hi hn) (by rw [nI_clamp (Nat.lt_trans hi hn)]) hdg k9
theorem j_aaldN (C : j_C g κ cc own rm nL) (q0 t0 : Nat) {a n : Nat} {cA : ClassId} {Cn : String} {f : Nat → Option Nat} (ha : ws[q0]? = some (a, .inl (cA, n, .inr (.inr (.inr (.inr f)))))) (ht : (jT g)[t0]? = some (cA, .object Cn)) {i b : Nat} (hi : i < n) (hn : n < 2 ^ 31) (hb : f i = some b) (hdg : decode cc pc = .ok (.aaload, 1)) (k9 : j_V g κ cells slots (pc + 1) lv (.ref b :: rest) ws) : j_V g κ cells slots pc lv (.int (nI i) :: .ref a :: rest) ws :=
  j_aald C q0 t0 ha ht (vp_in_nI hi hn) (by rw [nI_clamp (Nat.lt_trans hi hn), hb]; rfl) hdg k9
theorem j_bastN (C : j_C g κ cc own rm nL) (q0 t0 : Nat) {a n : Nat} {cA : ClassId} {f : Nat → Int32} (ha : ws[q0]? = some (a, .inl (cA, n, .inl f))) (ht : (jT g)[t0]? = some (cA, .byte)) {i : Nat} {x y : Int32} (hi : i < n) (hn : n < 2 ^ 31) (hy : x.toInt8.toInt32 = y) {ws' : va_W} (hw : ws.set q0 (a, .inl (cA, n, .inl (upd f i y))) = ws') (hdg : decode cc pc = .ok (.bastore, 1)) (k9 : j_V g κ cells slots (pc + 1) lv rest ws') : j_V g κ cells slots pc lv (.int x :: .int (nI i) :: .ref a :: rest) ws :=
  j_bast C q0 t0 ha ht (vp_in_nI hi hn) (by rw [nI_clamp (Nat.lt_trans hi hn), vp_nar_byte, hy]; exact hw) hdg k9
theorem j_iastN (C : j_C g κ cc own rm nL) (q0 t0 : Nat) {a n : Nat} {cA : ClassId} {f : Nat → Int32} (ha : ws[q0]? = some (a, .inl (cA, n, .inl f))) (ht : (jT g)[t0]? = some (cA, .int)) {i : Nat} {x : Int32} (hi : i < n) (hn : n < 2 ^ 31) {ws' : va_W} (hw : ws.set q0 (a, .inl (cA, n, .inl (upd f i x))) = ws') (hdg : decode cc pc = .ok (.iastore, 1)) (k9 : j_V g κ cells slots (pc + 1) lv rest ws') : j_V g κ cells slots pc lv (.int x :: .int (nI i) :: .ref a :: rest) ws :=
  j_iast C q0 t0 ha ht (vp_in_nI hi hn) (by rw [nI_clamp (Nat.lt_trans hi hn)]; exact hw) hdg k9
theorem j_inc (a n : Nat) : nI a + Int32.ofInt (n : Int) = nI (a + n) := by
  rw [← nI_add]; rfl
end JN
