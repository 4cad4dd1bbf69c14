/-! what a reading leaves -/
def cntB (blk : Bool) (t : Nat → Nat) (n : Nat) : Nat := if blk = true then (bZ t n (.inl 0)).1 else 1
def s2B (blk : Bool) (t : Nat → Nat) (n : Nat) : RS := if blk = true then (bZ t n (.inl 0)).2 else .inl 0
def sEB (blk : Bool) (t : Nat → Nat) (n : Nat) : RS := rFin n (itN (rTx t n) (cntB blk t n) (s2B blk t n))
def rdRes (blk : Bool) (t : Nat → Nat) (n : Nat) : Int32 := if 0 < rF (sEB blk t n) then -1 - nI (rF (sEB blk t n)) else nI (cntB blk t n)
def rowF (t : Nat → Nat) (n : Nat) (s2 : RS) : Nat → Nat := fun j => nmA t n s2 (j / 32) (j % 32)
def rootF (t : Nat → Nat) (n : Nat) (s2 : RS) (cnt : Nat) : Nat → Nat := fun j => if cnt = 0 then 0 else rwN cnt (rowF t n s2) j
/-- what the class's kept things are -/
def DK (t : Nat → Nat) (n cnt : Nat) (blk : Bool) (s2 : RS) (y : Nat → Nat → Int32) (f : Nat → Nat → Nat → Int32) (v v2 c : Nat → Nat) (db : Bool) : Prop := n ≤ 2000 ∧ (∀ j, t j < 256) ∧ (∀ j, v j < 256) ∧ (∀ j, v2 j < 256) ∧ (∀ j, c j < 256) ∧ cnt ≤ 12 ∧ TxAll t n s2 cnt y f ∧ (0 < cnt → ∃ e0, itN (rTx t n) cnt s2 = .inl e0) ∧ (blk = true → 80 ≤ n) ∧ (∀ u, u < cnt → ∀ j, j < 32 → v (u * 32 + j) = nmA t n s2 u j) ∧ (blk = true → ∀ j, j < 32 → v2 j = nm t 80 j) ∧ (blk = true → ∀ j, j < 32 → c j = rootF t n s2 cnt j) ∧ (blk = true → db = dbT cnt (rowF t n s2))
theorem DK_0 {t : Nat → Nat} {s2 : RS} {y : Nat → Nat → Int32} {f : Nat → Nat → Nat → Int32} {v v2 c : Nat → Nat} {db : Bool} (h1 : ∀ j, t j < 256) (h2 : ∀ j, v j < 256) (h3 : ∀ j, v2 j < 256) (h4 : ∀ j, c j < 256) : DK t 0 0 false s2 y f v v2 c db :=
  ⟨Nat.zero_le _, h1, h2, h3, h4, Nat.zero_le _, fun _ h => absurd h (Nat.not_lt_zero _), fun h => absurd h (Nat.lt_irrefl 0), fun h => Bool.noConfusion h, fun _ h => absurd h (Nat.not_lt_zero _), fun h => Bool.noConfusion h, fun h => Bool.noConfusion h, fun h => Bool.noConfusion h⟩
theorem rFin_0 {n : Nat} {s : RS} (hs : ROk n s) (h : rF (rFin n s) = 0) : ∃ p, s = .inl p := by
  rcases s with p | e
  · exact ⟨p, rfl⟩
  · have h2 : 0 < e.1 := hs.1
    have h3 : e.1 = 0 := h
    omega
theorem bZ_80 {t : Nat → Nat} {n p : Nat} (h : (bZ t n (.inl 0)).2 = .inl p) : 80 ≤ n := by
  obtain ⟨a, h1, h2, h3⟩ := rSize_in h
  obtain ⟨b, h4, h5, h6⟩ := rPass_in h1
  omega
theorem row_v {t v : Nat → Nat} {n : Nat} {s2 : RS} {cnt : Nat} (h : ∀ u, u < cnt → ∀ j, j < 32 → v (u * 32 + j) = nmA t n s2 u j) : ∀ j, j < 32 * cnt → v j = rowF t n s2 j := by
  intro j hj
  have e := h (j / 32) (by omega) (j % 32) (by omega)
  rw [show j / 32 * 32 + j % 32 = j by omega] at e
  exact e
theorem root_v {t v : Nat → Nat} {n : Nat} {s2 : RS} {cnt : Nat} (h : ∀ u, u < cnt → ∀ j, j < 32 → v (u * 32 + j) = nmA t n s2 u j) {j : Nat} (hj : j < 32) : (if cnt = 0 then 0 else rwN cnt v j) = rootF t n s2 cnt j := by
  unfold rootF
  by_cases c : cnt = 0
  · rw [if_pos c, if_pos c]
  · rw [if_neg c, if_neg c]; exact rwN_cg cnt (by omega) (row_v h) j hj
theorem nm_0 (t : Nat → Nat) (n : Nat) : nm (fun j => t (0 + j)) n = nm t n := nm_cg (fun j _ => by rw [Nat.zero_add])
