/-! a transaction, a block, as functions of the reader's state -/
def itN (f : RS → RS) : Nat → RS → RS
  | 0, s => s
  | k + 1, s => f (itN f k s)
theorem itN_R {n : Nat} {f : RS → RS} (hf : ∀ s, ROk n s → ROk n (f s)) : ∀ (k : Nat) {s : RS}, ROk n s → ROk n (itN f k s)
  | 0, _, h => h
  | k + 1, _, h => hf _ (itN_R hf k h)
def inZ (t : Nat → Nat) (n : Nat) (s : RS) : Nat × RS := rSize t n 200 (rPass n 36 s)
def rIn (t : Nat → Nat) (n : Nat) (s : RS) : RS := rPass n ((inZ t n s).1 + 4) (inZ t n s).2
def outZ (t : Nat → Nat) (n : Nat) (s : RS) : Nat × RS := rSize t n 200 (rPass n 8 s)
def rOut (t : Nat → Nat) (n : Nat) (s : RS) : RS := rPass n (outZ t n s).1 (outZ t n s).2
theorem rIn_R {t : Nat → Nat} {n : Nat} {s : RS} (h : ROk n s) : ROk n (rIn t n s) := rPass_R (rSize_R (rPass_R h))
theorem rOut_R {t : Nat → Nat} {n : Nat} {s : RS} (h : ROk n s) : ROk n (rOut t n s) := rPass_R (rSize_R (rPass_R h))
theorem rPass_in {n k p : Nat} {s : RS} (h : rPass n k s = .inl p) : ∃ a, s = .inl a ∧ p = a + k ∧ a + k ≤ n := by
  rcases s with a | e
  · by_cases q : a + k ≤ n
    · rw [rPass_ok q] at h; exact ⟨a, rfl, (Sum.inl.inj h).symm, q⟩
    · rw [rPass_no (by omega)] at h; cases h
  · cases h
theorem rSize_in {t : Nat → Nat} {n most p : Nat} {s : RS} (h : (rSize t n most s).2 = .inl p) : ∃ a, s = .inl a ∧ a < p ∧ p ≤ n := by
  rcases s with a | e
  · by_cases h1 : n < a + 1 + wOf (t a) ∨ n < a + 1
    · rw [rSize_1 h1] at h; cases h
    · by_cases h2 : wFit (szV t a) < wOf (t a)
      · rw [rSize_2 (by omega) h2] at h; cases h
      · by_cases h3 : most < szV t a
        · rw [rSize_3 (by omega) (by omega) h3] at h; cases h
        · rw [rSize_ok (by omega) (by omega) (by omega)] at h
          have e := Sum.inl.inj h
          exact ⟨a, rfl, by omega, by omega⟩
  · cases h
theorem rIn_in {t : Nat → Nat} {n p : Nat} {s : RS} (h : rIn t n s = .inl p) : ∃ a b, s = .inl a ∧ (inZ t n s).2 = .inl b ∧ a + 36 < b ∧ b + (inZ t n s).1 + 4 = p ∧ p ≤ n := by
  obtain ⟨b, h1, h2, h3⟩ := rPass_in h
  obtain ⟨c, h4, h5, h6⟩ := rSize_in h1
  obtain ⟨a, h7, h8, h9⟩ := rPass_in h4
  exact ⟨a, b, h7, h1, by omega, by omega, by omega⟩
theorem rOut_in {t : Nat → Nat} {n p : Nat} {s : RS} (h : rOut t n s = .inl p) : ∃ a b, s = .inl a ∧ (outZ t n s).2 = .inl b ∧ a + 8 < b ∧ b + (outZ t n s).1 = p ∧ p ≤ n := by
  obtain ⟨b, h1, h2, h3⟩ := rPass_in h
  obtain ⟨c, h4, h5, h6⟩ := rSize_in h1
  obtain ⟨a, h7, h8, h9⟩ := rPass_in h4
  exact ⟨a, b, h7, h1, by omega, by omega, by omega⟩
/-- what the class notes of the inputs (outputs) behind the first i of them, where no fault came -/
def Hin (t : Nat → Nat) (n : Nat) (s : RS) (f1 f2 f3 : Nat → Int32) (i : Nat) : Prop := ∀ j, j < i → ∀ p, itN (rIn t n) (j + 1) s = .inl p → f1 j = nI (pos (itN (rIn t n) j s)) ∧ f2 j = nI (pos (inZ t n (itN (rIn t n) j s)).2) ∧ f3 j = nI (inZ t n (itN (rIn t n) j s)).1
def Hout (t : Nat → Nat) (n : Nat) (s : RS) (f1 f2 f3 : Nat → Int32) (i : Nat) : Prop := ∀ j, j < i → ∀ p, itN (rOut t n) (j + 1) s = .inl p → f1 j = nI (pos (itN (rOut t n) j s)) ∧ f2 j = nI (pos (outZ t n (itN (rOut t n) j s)).2) ∧ f3 j = nI (outZ t n (itN (rOut t n) j s)).1
theorem upd_ne {f : Nat → Int32} {i j : Nat} {x : Int32} (h : j ≠ i) : upd f i x j = f j := pk_un h
theorem upd_eq {f : Nat → Int32} {i : Nat} {x : Int32} : upd f i x i = x := pk_us
theorem Hin_s {t : Nat → Nat} {n : Nat} {s : RS} {f1 f2 f3 : Nat → Int32} {i : Nat} {q q2 : Int32} (h : Hin t n s f1 f2 f3 i) : Hin t n s (upd f1 i (rN (itN (rIn t n) i s) q)) (upd f2 i (rN (inZ t n (itN (rIn t n) i s)).2 q2)) (upd f3 i (nI (inZ t n (itN (rIn t n) i s)).1)) (i + 1) := by
  intro j hj p hp
  by_cases e : j = i
  · subst e
    rw [upd_eq, upd_eq, upd_eq]
    obtain ⟨a, b, h1, h2, -⟩ := rIn_in hp
    rw [h1] at h2 ⊢
    rw [h2]
    exact ⟨rfl, rfl, rfl⟩
  · rw [upd_ne e, upd_ne e, upd_ne e]
    exact h j (by omega) p hp
theorem Hout_s {t : Nat → Nat} {n : Nat} {s : RS} {f1 f2 f3 : Nat → Int32} {i : Nat} {q q2 : Int32} (h : Hout t n s f1 f2 f3 i) : Hout t n s (upd f1 i (rN (itN (rOut t n) i s) q)) (upd f2 i (rN (outZ t n (itN (rOut t n) i s)).2 q2)) (upd f3 i (nI (outZ t n (itN (rOut t n) i s)).1)) (i + 1) := by
  intro j hj p hp
  by_cases e : j = i
  · subst e
    rw [upd_eq, upd_eq, upd_eq]
    obtain ⟨a, b, h1, h2, -⟩ := rOut_in hp
    rw [h1] at h2 ⊢
    rw [h2]
    exact ⟨rfl, rfl, rfl⟩
  · rw [upd_ne e, upd_ne e, upd_ne e]
    exact h j (by omega) p hp
/-- a transaction that begins in state s -/
def xZ (t : Nat → Nat) (n : Nat) (s : RS) : Nat × RS := rSize t n 8 (rPass n 4 s)
def xI (t : Nat → Nat) (n : Nat) (s : RS) (j : Nat) : RS := itN (rIn t n) j (xZ t n s).2
def xY (t : Nat → Nat) (n : Nat) (s : RS) : Nat × RS := rSize t n 8 (xI t n s (xZ t n s).1)
def xO (t : Nat → Nat) (n : Nat) (s : RS) (j : Nat) : RS := itN (rOut t n) j (xY t n s).2
def rTx (t : Nat → Nat) (n : Nat) (s : RS) : RS := rPass n 4 (xO t n s (xY t n s).1)
theorem xZ_R {t : Nat → Nat} {n : Nat} {s : RS} (h : ROk n s) : ROk n (xZ t n s).2 := rSize_R (rPass_R h)
theorem xI_R {t : Nat → Nat} {n j : Nat} {s : RS} (h : ROk n s) : ROk n (xI t n s j) := itN_R (fun _ => rIn_R) j (xZ_R h)
theorem xY_R {t : Nat → Nat} {n : Nat} {s : RS} (h : ROk n s) : ROk n (xY t n s).2 := rSize_R (xI_R h)
theorem xO_R {t : Nat → Nat} {n j : Nat} {s : RS} (h : ROk n s) : ROk n (xO t n s j) := itN_R (fun _ => rOut_R) j (xY_R h)
theorem rTx_R {t : Nat → Nat} {n : Nat} {s : RS} (h : ROk n s) : ROk n (rTx t n s) := rPass_R (xO_R h)
/-- the end of all -/
def rFin (n : Nat) (s : RS) : RS := match s with
  | .inl p => if p < n then .inr (4, p) else .inl p
  | .inr e => .inr e
theorem rFin_R {n : Nat} {s : RS} (h : ROk n s) : ROk n (rFin n s) := by
  rcases s with p | e
  · have hp : p ≤ n := h
    unfold rFin
    simp only
    split
    · exact ⟨Nat.le_of_ble_eq_true rfl, Nat.le_of_ble_eq_true rfl, hp⟩
    · exact hp
  · exact h
/-- what the class keeps of a transaction that began in state s -/
def TxOk (t : Nat → Nat) (n : Nat) (s : RS) (y : Nat → Int32) (f : Nat → Nat → Int32) : Prop := ∀ p, rTx t n s = .inl p → y 0 = nI (pos s) ∧ y 1 = nI p ∧ y 2 = nI (xZ t n s).1 ∧ y 3 = nI (xY t n s).1 ∧ Hin t n (xZ t n s).2 (f 1) (f 2) (f 3) (xZ t n s).1 ∧ Hout t n (xY t n s).2 (f 4) (f 5) (f 6) (xY t n s).1
theorem itN_in {f : RS → RS} (hf : ∀ s p, f s = .inl p → ∃ a, s = .inl a) : ∀ (k : Nat) {s : RS} {p : Nat}, itN f k s = .inl p → ∀ j, j ≤ k → ∃ a, itN f j s = .inl a
  | 0, s, p, h, j, hj => by
    obtain rfl : j = 0 := by omega
    exact ⟨p, h⟩
  | k + 1, s, p, h, j, hj => by
    by_cases e : j = k + 1
    · subst e; exact ⟨p, h⟩
    · obtain ⟨a, ha⟩ := hf _ _ h
      exact itN_in hf k ha j (by omega)
theorem rIn_st (t : Nat → Nat) (n : Nat) : ∀ s p, rIn t n s = .inl p → ∃ a, s = .inl a := fun s p h => by
  obtain ⟨a, b, h1, -⟩ := rIn_in h
  exact ⟨a, h1⟩
theorem rOut_st (t : Nat → Nat) (n : Nat) : ∀ s p, rOut t n s = .inl p → ∃ a, s = .inl a := fun s p h => by
  obtain ⟨a, b, h1, -⟩ := rOut_in h
  exact ⟨a, h1⟩
theorem rTx_st (t : Nat → Nat) (n : Nat) : ∀ s p, rTx t n s = .inl p → ∃ a, s = .inl a := fun s p h => by
  obtain ⟨a, h1, -⟩ := rPass_in h
  obtain ⟨b, h2⟩ := itN_in (rOut_st t n) _ h1 0 (Nat.zero_le _)
  obtain ⟨c, h3, -⟩ := rSize_in h2
  obtain ⟨d, h4⟩ := itN_in (rIn_st t n) _ h3 0 (Nat.zero_le _)
  obtain ⟨e, h5, -⟩ := rSize_in h4
  obtain ⟨b, h6, -⟩ := rPass_in h5
  exact ⟨b, h6⟩
theorem TxOk_of {t : Nat → Nat} {n : Nat} {s : RS} {q q1 : Int32} {f1 f2 f3 f4 f5 f6 : Nat → Int32} (h1 : Hin t n (xZ t n s).2 f1 f2 f3 (xZ t n s).1) (h2 : Hout t n (xY t n s).2 f4 f5 f6 (xY t n s).1) {y : Nat → Int32} {f : Nat → Nat → Int32} (y0 : y 0 = rN s q) (y1 : y 1 = rN (rTx t n s) q1) (y2 : y 2 = nI (xZ t n s).1) (y3 : y 3 = nI (xY t n s).1) (e1 : f 1 = f1) (e2 : f 2 = f2) (e3 : f 3 = f3) (e4 : f 4 = f4) (e5 : f 5 = f5) (e6 : f 6 = f6) : TxOk t n s y f := by
  intro p hp
  obtain ⟨a, ha⟩ := rTx_st t n s p hp
  refine ⟨by rw [y0, ha]; rfl, by rw [y1, hp]; rfl, y2, y3, by rw [e1, e2, e3]; exact h1, by rw [e4, e5, e6]; exact h2⟩
def sel4 (a b c d : Int32) : Nat → Int32 | 0 => a | 1 => b | 2 => c | _ => d
def sel6 (a b c d e f : Nat → Int32) : Nat → Nat → Int32 | 1 => a | 2 => b | 3 => c | 4 => d | 5 => e | _ => f
