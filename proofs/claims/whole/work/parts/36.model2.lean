/-- what the reference notes of the inputs (outputs) of transaction u behind the first i of them -/
def MIn (t : Nat → Nat) (n : Nat) (s : RS) (u : Nat) (f1 f2 f3 : Nat → Int32) (i : Nat) : Prop := ∀ j, j < i → ∀ p, itN (rIn t n) (j + 1) s = .inl p → f1 (8 * u + j) = nI (pos (itN (rIn t n) j s)) ∧ f2 (8 * u + j) = nI (pos (inZ t n (itN (rIn t n) j s)).2) ∧ f3 (8 * u + j) = nI (inZ t n (itN (rIn t n) j s)).1
def MOut (t : Nat → Nat) (n : Nat) (s : RS) (u : Nat) (f1 f2 f3 : Nat → Int32) (i : Nat) : Prop := ∀ j, j < i → ∀ p, itN (rOut t n) (j + 1) s = .inl p → f1 (8 * u + j) = nI (pos (itN (rOut t n) j s)) ∧ f2 (8 * u + j) = nI (pos (outZ t n (itN (rOut t n) j s)).2) ∧ f3 (8 * u + j) = nI (outZ t n (itN (rOut t n) j s)).1
def Kp (u : Nat) (f f' : Nat → Int32) : Prop := ∀ k, k < u → f' k = f k
theorem Kp.refl (u : Nat) (f : Nat → Int32) : Kp u f f := fun _ _ => rfl
theorem Kp_s {u i : Nat} {f f' : Nat → Int32} {x : Int32} (h : Kp u f f') (hi : u ≤ i) : Kp u f (upd f' i x) := fun k hk => by rw [upd_ne (by omega)]; exact h k hk
theorem MIn_s {t : Nat → Nat} {n : Nat} {s : RS} {u : Nat} {f1 f2 f3 : Nat → Int32} {i : Nat} {q q2 : Int32} (h : MIn t n s u f1 f2 f3 i) : MIn t n s u (upd f1 (8 * u + i) (rN (itN (rIn t n) i s) q)) (upd f2 (8 * u + i) (rN (inZ t n (itN (rIn t n) i s)).2 q2)) (upd f3 (8 * u + i) (nI (inZ t n (itN (rIn t n) i s)).1)) (i + 1) := by
  intro j hj p hp
  by_cases e : j = i
  · subst e
    rw [upd_eq, upd_eq, upd_eq]
    obtain ⟨a, b, h1, h2, -⟩ := rIn_in hp
    rw [h1] at h2 ⊢
    rw [h2]
    exact ⟨rfl, rfl, rfl⟩
  · rw [upd_ne (by omega), upd_ne (by omega), upd_ne (by omega)]
    exact h j (by omega) p hp
theorem MOut_s {t : Nat → Nat} {n : Nat} {s : RS} {u : Nat} {f1 f2 f3 : Nat → Int32} {i : Nat} {q q2 : Int32} (h : MOut t n s u f1 f2 f3 i) : MOut t n s u (upd f1 (8 * u + i) (rN (itN (rOut t n) i s) q)) (upd f2 (8 * u + i) (rN (outZ t n (itN (rOut t n) i s)).2 q2)) (upd f3 (8 * u + i) (nI (outZ t n (itN (rOut t n) i s)).1)) (i + 1) := by
  intro j hj p hp
  by_cases e : j = i
  · subst e
    rw [upd_eq, upd_eq, upd_eq]
    obtain ⟨a, b, h1, h2, -⟩ := rOut_in hp
    rw [h1] at h2 ⊢
    rw [h2]
    exact ⟨rfl, rfl, rfl⟩
  · rw [upd_ne (by omega), upd_ne (by omega), upd_ne (by omega)]
    exact h j (by omega) p hp
theorem itN_stick {f : RS → RS} (hf : ∀ e, f (.inr e) = .inr e) {s : RS} {u : Nat} (h : 0 < rF (itN f u s)) : ∀ k, u ≤ k → itN f k s = itN f u s
  | 0, hk => by
    obtain rfl : u = 0 := by omega
    rfl
  | k + 1, hk => by
    by_cases e : u = k + 1
    · subst e; rfl
    · have ih := itN_stick hf h k (by omega)
      show f (itN f k s) = _
      rw [ih]
      cases hs : itN f u s with
      | inl p => rw [hs] at h; exact absurd h (Nat.lt_irrefl 0)
      | inr e => exact hf e
theorem MIn_ext {t : Nat → Nat} {n : Nat} {s : RS} {u : Nat} {f1 f2 f3 : Nat → Int32} {i k : Nat} (h : MIn t n s u f1 f2 f3 i) (hb : 0 < rF (itN (rIn t n) i s)) : MIn t n s u f1 f2 f3 k := by
  intro j hj p hp
  by_cases e : j < i
  · exact h j e p hp
  · have e2 := itN_stick (f := rIn t n) (fun _ => rfl) hb (j + 1) (by omega)
    rw [hp] at e2; rw [← e2] at hb; exact absurd hb (Nat.lt_irrefl 0)
theorem MOut_ext {t : Nat → Nat} {n : Nat} {s : RS} {u : Nat} {f1 f2 f3 : Nat → Int32} {i k : Nat} (h : MOut t n s u f1 f2 f3 i) (hb : 0 < rF (itN (rOut t n) i s)) : MOut t n s u f1 f2 f3 k := by
  intro j hj p hp
  by_cases e : j < i
  · exact h j e p hp
  · have e2 := itN_stick (f := rOut t n) (fun _ => rfl) hb (j + 1) (by omega)
    rw [hp] at e2; rw [← e2] at hb; exact absurd hb (Nat.lt_irrefl 0)
/-- what the reference keeps of transaction u -/
def MTx (t : Nat → Nat) (n : Nat) (s : RS) (u : Nat) (F : Nat → Nat → Int32) : Prop := ∀ p, rTx t n s = .inl p → F 2 u = nI (pos s) ∧ F 3 u = nI p ∧ F 4 u = nI (xZ t n s).1 ∧ F 5 u = nI (xY t n s).1 ∧ MIn t n (xZ t n s).2 u (F 6) (F 7) (F 8) (xZ t n s).1 ∧ MOut t n (xY t n s).2 u (F 9) (F 10) (F 11) (xY t n s).1
def s10 (a b c d e f g h i j : Nat → Int32) : Nat → Nat → Int32 | 2 => a | 3 => b | 4 => c | 5 => d | 6 => e | 7 => f | 8 => g | 9 => h | 10 => i | _ => j
/-- earlier transactions stay -/
def MKp (u : Nat) (F F' : Nat → Nat → Int32) : Prop := Kp u (F 2) (F' 2) ∧ Kp u (F 3) (F' 3) ∧ Kp u (F 4) (F' 4) ∧ Kp u (F 5) (F' 5) ∧ Kp (8 * u) (F 6) (F' 6) ∧ Kp (8 * u) (F 7) (F' 7) ∧ Kp (8 * u) (F 8) (F' 8) ∧ Kp (8 * u) (F 9) (F' 9) ∧ Kp (8 * u) (F 10) (F' 10) ∧ Kp (8 * u) (F 11) (F' 11)
theorem MTx_of {t : Nat → Nat} {n : Nat} {s : RS} {u : Nat} {F : Nat → Nat → Int32} {q q1 : Int32} (h2 : F 2 u = rN s q) (h3 : F 3 u = rN (rTx t n s) q1) (h4 : F 4 u = nI (xZ t n s).1) (h5 : F 5 u = nI (xY t n s).1) (hi : MIn t n (xZ t n s).2 u (F 6) (F 7) (F 8) (xZ t n s).1) (ho : MOut t n (xY t n s).2 u (F 9) (F 10) (F 11) (xY t n s).1) : MTx t n s u F := by
  intro p hp
  obtain ⟨a, ha⟩ := rTx_st t n s p hp
  exact ⟨by rw [h2, ha]; rfl, by rw [h3, hp]; rfl, h4, h5, hi, ho⟩
