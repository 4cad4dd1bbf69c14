/-! reading, as a function: a reader is at a place, or has a fault (which, where) -/
abbrev RS : Type := Nat ⊕ (Nat × Nat)
def rN (s : RS) (q : Int32) : Int32 := match s with
  | .inl p => nI p
  | .inr _ => q
def rF (s : RS) : Nat := match s with
  | .inl _ => 0
  | .inr e => e.1
def rP (s : RS) : Int32 := match s with
  | .inl _ => -1
  | .inr e => nI e.2
def pos (s : RS) : Nat := match s with
  | .inl p => p
  | .inr _ => 0
def ROk (n : Nat) (s : RS) : Prop := match s with
  | .inl p => p ≤ n
  | .inr e => 0 < e.1 ∧ e.1 < 5 ∧ e.2 ≤ n
def rPass (n k : Nat) (s : RS) : RS := match s with
  | .inl p => if p + k ≤ n then .inl (p + k) else .inr (1, n)
  | .inr e => .inr e
theorem rPass_ok {n k p : Nat} (h : p + k ≤ n) : rPass n k (.inl p) = .inl (p + k) := if_pos h
theorem rPass_no {n k p : Nat} (h : n < p + k) : rPass n k (.inl p) = .inr (1, n) := if_neg (by omega)
theorem rPass_R {n k : Nat} {s : RS} (h : ROk n s) : ROk n (rPass n k s) := by
  rcases s with p | ⟨f, w⟩
  · by_cases q : p + k ≤ n
    · rw [rPass_ok q]; exact q
    · rw [rPass_no (by omega)]; exact ⟨Nat.le_of_ble_eq_true rfl, Nat.le_of_ble_eq_true rfl, Nat.le_refl _⟩
  · exact h
/-- how many bytes follow a size's first byte -/
def wOf (m : Nat) : Nat := if m = 253 then 2 else if m = 254 then 4 else if m = 255 then 8 else 0
theorem wOf_le (m : Nat) : wOf m ≤ 8 := by unfold wOf; split <;> (try split) <;> (try split) <;> decide
theorem wOf_0 {m : Nat} (h : m < 256) : wOf m = 0 ↔ m < 253 := by
  unfold wOf; split <;> (try split) <;> (try split) <;> omega
/-- how many follow the shortest size of v -/
def wFit (v : Nat) : Nat := if v < 253 then 0 else if v < 65536 then 2 else if v < 4294967296 then 4 else 8
theorem wFit_le (v : Nat) : wFit v ≤ 8 := by unfold wFit; split <;> (try split) <;> (try split) <;> decide
def szV (t : Nat → Nat) (p : Nat) : Nat := if wOf (t p) = 0 then t p else lf t (p + 1) (wOf (t p))
def rSize (t : Nat → Nat) (n most : Nat) (s : RS) : Nat × RS := match s with
  | .inl p => if n < p + 1 + wOf (t p) ∨ n < p + 1 then (0, .inr (1, n)) else if wFit (szV t p) < wOf (t p) then (0, .inr (2, p)) else if most < szV t p then (0, .inr (3, p)) else (szV t p, .inl (p + 1 + wOf (t p)))
  | .inr e => (0, .inr e)
theorem rSize_1 {t : Nat → Nat} {n most p : Nat} (h : n < p + 1 + wOf (t p) ∨ n < p + 1) : rSize t n most (.inl p) = (0, .inr (1, n)) := if_pos h
theorem rSize_2 {t : Nat → Nat} {n most p : Nat} (h : p + 1 + wOf (t p) ≤ n) (h2 : wFit (szV t p) < wOf (t p)) : rSize t n most (.inl p) = (0, .inr (2, p)) := by
  show ite _ _ _ = _
  rw [if_neg (by omega), if_pos h2]
theorem rSize_3 {t : Nat → Nat} {n most p : Nat} (h : p + 1 + wOf (t p) ≤ n) (h2 : wOf (t p) ≤ wFit (szV t p)) (h3 : most < szV t p) : rSize t n most (.inl p) = (0, .inr (3, p)) := by
  show ite _ _ _ = _
  rw [if_neg (by omega), if_neg (by omega), if_pos h3]
theorem rSize_ok {t : Nat → Nat} {n most p : Nat} (h : p + 1 + wOf (t p) ≤ n) (h2 : wOf (t p) ≤ wFit (szV t p)) (h3 : szV t p ≤ most) : rSize t n most (.inl p) = (szV t p, .inl (p + 1 + wOf (t p))) := by
  show ite _ _ _ = _
  rw [if_neg (by omega), if_neg (by omega), if_neg (by omega)]
theorem rSize_R {t : Nat → Nat} {n most : Nat} {s : RS} (h : ROk n s) : ROk n (rSize t n most s).2 := by
  rcases s with p | ⟨f, w⟩
  · have hp : p ≤ n := h
    unfold rSize
    simp only
    split
    · exact ⟨Nat.le_of_ble_eq_true rfl, Nat.le_of_ble_eq_true rfl, Nat.le_refl _⟩
    · split
      · exact ⟨Nat.le_of_ble_eq_true rfl, Nat.le_of_ble_eq_true rfl, hp⟩
      · split
        · exact ⟨Nat.le_of_ble_eq_true rfl, Nat.le_of_ble_eq_true rfl, hp⟩
        · show p + 1 + wOf (t p) ≤ n
          omega
  · exact h
theorem rSize_le {t : Nat → Nat} {n most : Nat} {s : RS} : (rSize t n most s).1 ≤ most := by
  rcases s with p | ⟨f, w⟩
  · unfold rSize
    simp only
    split
    · exact Nat.zero_le _
    · split
      · exact Nat.zero_le _
      · split
        · exact Nat.zero_le _
        · show szV t p ≤ most
          omega
  · exact Nat.zero_le _
theorem szV_lt {t : Nat → Nat} (hT : ∀ j, t j < 256) (p : Nat) : szV t p < 2 ^ 64 := by
  unfold szV
  split
  · have := hT p; omega
  · have h1 := lf_lt hT (wOf (t p)) (p + 1)
    have h2 : 256 ^ (wOf (t p)) ≤ 256 ^ 8 := Nat.pow_le_pow_right (by decide) (wOf_le _)
    exact Nat.lt_of_lt_of_le h1 (Nat.le_trans h2 (by decide))
/-- longs against bounds -/
theorem z_neg {V : Nat} (hV : V < 2 ^ 64) : lN V < 0 ↔ 2 ^ 63 ≤ V := by
  rw [Int64.lt_iff_toInt_lt]
  have e : (lN V).toInt = if V < 2 ^ 63 then (V : Int) else (V : Int) - 2 ^ 64 := by
    show (BitVec.ofNat 64 V).toInt = _
    rw [BitVec.toInt_eq_toNat_cond, BitVec.toNat_ofNat, Nat.mod_eq_of_lt hV]
    split <;> split <;> omega
  have z : (0 : Int64).toInt = 0 := rfl
  rw [e, z]
  split <;> omega
theorem z_lt {V W : Nat} (hV : V < 2 ^ 63) (hW : W < 2 ^ 63) : lN V < lN W ↔ V < W := pk_lLT hV hW
theorem lg_lt0 (x y : Int64) : lg_cmp x y < 0 ↔ x < y := by
  unfold lg_cmp
  rcases lg_tri x y with h | h | h
  · rw [if_neg (lg_lt_not h), if_neg (lg_lt_ne h)]; exact ⟨fun _ => h, fun _ => by decide⟩
  · subst h
    have : ¬ x < x := fun q => lg_lt_not q q
    rw [if_neg this, if_pos rfl]; exact ⟨fun q => absurd q (by decide), fun q => absurd q this⟩
  · rw [if_pos h]; exact ⟨fun q => absurd q (by decide), fun q => absurd q (lg_lt_not h)⟩
theorem lg_gt0 (x y : Int64) : lg_cmp x y ≤ 0 ↔ ¬ y < x := by
  unfold lg_cmp
  rcases lg_tri x y with h | h | h
  · rw [if_neg (lg_lt_not h), if_neg (lg_lt_ne h)]; exact ⟨fun _ => lg_lt_not h, fun _ => by decide⟩
  · subst h
    have : ¬ x < x := fun q => lg_lt_not q q
    rw [if_neg this, if_pos rfl]; exact ⟨fun _ => this, fun _ => by decide⟩
  · rw [if_pos h]; exact ⟨fun q => absurd q (by decide), fun q => absurd h q⟩
theorem z_1 {V m : Nat} (hV : V < 2 ^ 64) (hm : m < 2 ^ 31) (h : lg_cmp (lN V) 0 < 0) : m < V := by
  have := (z_neg hV).mp ((lg_lt0 _ _).mp h); omega
theorem z_2 {V : Nat} (hV : V < 2 ^ 64) (h : ¬ lg_cmp (lN V) 0 < 0) : V < 2 ^ 63 := Nat.lt_of_not_le fun q => h ((lg_lt0 _ _).mpr ((z_neg hV).mpr q))
theorem z_3 {V m : Nat} (hV : V < 2 ^ 63) (hm : m < 2 ^ 31) (h : lg_cmp (lN V) (lN m) ≤ 0) : V ≤ m := Nat.le_of_not_lt fun q => (lg_gt0 _ _).mp h ((z_lt (by omega) hV).mpr q)
theorem z_4 {V m : Nat} (hV : V < 2 ^ 63) (hm : m < 2 ^ 31) (h : ¬ lg_cmp (lN V) (lN m) ≤ 0) : m < V := Nat.lt_of_not_le fun q => h ((lg_gt0 _ _).mpr fun z => by have := (z_lt (by omega) hV).mp z; omega)
theorem j_Ct.mono {l : Launch} {y : MethodName} {cc : ByteArray} {nL : Nat} {ret : Option FieldType} {rm : Room} {g : JX} {wc : va_W} {av : List Value} {O O' : Option Value → va_W → Prop} {mc ms : Nat} (h : j_Ct l y cc nL ret rm g wc av O mc ms) (hO : ∀ r w, O r w → O' r w) : j_Ct l y cc nL ret rm g wc av O' mc ms := by
  have e : O = fun r w => O r w := rfl
  intro sz p e ha hc hk s m args below hf hfit hP hK
  obtain ⟨t, o, h1, h2, h3, ⟨⟨⟨r, w, q1, q2, q3⟩, q4⟩, q5⟩⟩ := h sz p e ha hc hk s m args below hf hfit hP hK
  exact ⟨t, o, h1, h2, h3, ⟨⟨⟨r, w, q1, hO r w q2, q3⟩, q4⟩, q5⟩⟩
