/-! the reference's row of names -/
theorem pq_s {c Q : Nat → Nat} {x y k : Nat} (hk : k < 32) (h : ∀ j, j < k → Q j = c (x + j) ∧ Q (32 + j) = c (y + j)) : ∀ j, j < k + 1 → va_up (va_up Q k (c (x + k))) (32 + k) (c (y + k)) j = c (x + j) ∧ va_up (va_up Q k (c (x + k))) (32 + k) (c (y + k)) (32 + j) = c (y + j) := by
  intro j hj
  refine ⟨?_, ?_⟩
  · rw [va_up_ne _ _ (by omega)]
    by_cases e : j = k
    · subst e; rw [va_up_self]
    · rw [va_up_ne _ _ e]; exact (h j (by omega)).1
  · by_cases e : j = k
    · subst e; rw [va_up_self]
    · rw [va_up_ne _ _ (by omega), va_up_ne _ _ (by omega)]; exact (h j (by omega)).2
theorem dq_s {m p : Nat} {r : Nat → Nat} {d0 d fl : Bool} (hd : d = (d0 || dbq m r p)) (hx : fl = (decide (2 * p + 1 < m) && alk r (2 * p))) : (d || fl) = (d0 || dbq m r (p + 1)) := by
  show _ = (d0 || (dbq m r p || (decide (2 * p + 1 < m) && alk r (2 * p))))
  rw [← Bool.or_assoc, ← hd, ← hx]
theorem fl_alk {m p : Nat} {r c : Nat → Nat} {fl : Bool} (hp : 2 * p + 1 < m) (hI : RInv m r p c) (hf : fl = true ↔ ∀ j, j < 32 → c (32 * (2 * p) + j) = c (32 * (2 * p + 1) + j)) : fl = (decide (2 * p + 1 < m) && alk r (2 * p)) := by
  rw [decide_eq_true hp, Bool.true_and]
  have e : fl = true ↔ alk r (2 * p) = true := by
    rw [hf, alk_iff]
    constructor
    · intro h k hk
      have a := h k hk
      rw [RInv_hi hI (by omega) (by omega) (by omega), RInv_hi hI (by omega) (by omega) (by omega)] at a
      rw [show 2 * p * 32 + k = 32 * (2 * p) + k by omega, show 2 * p * 32 + 32 + k = 32 * (2 * p + 1) + k by omega]; exact a
    · intro h k hk
      have a := h k hk
      rw [show 2 * p * 32 + k = 32 * (2 * p) + k by omega, show 2 * p * 32 + 32 + k = 32 * (2 * p + 1) + k by omega] at a
      rw [RInv_hi hI (by omega) (by omega) (by omega), RInv_hi hI (by omega) (by omega) (by omega)]; exact a
  cases h1 : fl <;> cases h2 : alk r (2 * p) <;> first | rfl | (rw [h1, h2] at e; exact absurd e (by decide))
theorem fl_no {m p : Nat} {r : Nat → Nat} (hp : ¬ 2 * p + 1 < m) : false = (decide (2 * p + 1 < m) && alk r (2 * p)) := by rw [decide_eq_false hp]; rfl
theorem pr_two {m p : Nat} {r c Q : Nat → Nat} (hp : 2 * p + 1 < m) (hI : RInv m r p c) (hQ : ∀ j, j < 32 → Q j = c (32 * (2 * p) + j) ∧ Q (32 + j) = c (32 * (2 * p + 1) + j)) : ∀ j, j < 64 → Q j = pr r m p j := by
  intro j hj
  unfold pr
  by_cases h : j < 32
  · rw [if_pos h, (hQ j h).1, RInv_hi hI (by omega) (by omega) (by omega)]; congr 1; omega
  · obtain ⟨k, hk, rfl⟩ : ∃ k, k < 32 ∧ j = 32 + k := ⟨j - 32, by omega, by omega⟩
    rw [if_neg h, if_pos hp, (hQ k hk).2, RInv_hi hI (by omega) (by omega) (by omega)]; congr 1; omega
theorem pr_one {m p : Nat} {r c Q : Nat → Nat} (hp : ¬ 2 * p + 1 < m) (hpm : 2 * p < m) (hI : RInv m r p c) (hQ : ∀ j, j < 32 → Q j = c (32 * (2 * p) + j) ∧ Q (32 + j) = c (32 * (2 * p) + j)) : ∀ j, j < 64 → Q j = pr r m p j := by
  intro j hj
  unfold pr
  by_cases h : j < 32
  · rw [if_pos h, (hQ j h).1, RInv_hi hI (by omega) (by omega) (by omega)]; congr 1; omega
  · obtain ⟨k, hk, rfl⟩ : ∃ k, k < 32 ∧ j = 32 + k := ⟨j - 32, by omega, by omega⟩
    rw [if_neg h, if_neg hp, (hQ k hk).2, RInv_hi hI (by omega) (by omega) (by omega)]; congr 1; omega
theorem RInv_0 {m : Nat} {c : Nat → Nat} (h : ∀ j, c j < 256) : RInv m c 0 c := ⟨fun j hj => absurd hj (by omega), fun _ _ _ _ => rfl, h⟩
/-- what the joining keeps -/
def JI (cnt m : Nat) (v c : Nat → Nat) (d : Bool) : Prop := (m = 0 ↔ cnt = 0) ∧ (∀ j, j < 32 → 0 < m → rwN m c j = rwN cnt v j) ∧ (d || dbT m c) = dbT cnt v ∧ ∀ j, c j < 256
theorem JI_0 {cnt : Nat} {v r : Nat → Nat} (h : ∀ j, v j < 256) (h2 : ∀ j, r j < 256) : JI cnt cnt v (cpT v r (32 * cnt)) false := by
  refine ⟨Iff.rfl, fun j hj h0 => rwN_cg cnt h0 (fun i hi => cpT_at hi) j hj, ?_, cpT_lt h h2⟩
  rw [Bool.false_or]; exact dbT_cg cnt (fun i hi => cpT_at hi)
theorem JI_s {cnt m : Nat} {v c c1 : Nat → Nat} {d d1 : Bool} (hm : 1 < m) (h : JI cnt m v c d) (hI : RInv m c ((m + 1) / 2) c1) (hd : d1 = (d || dbq m c ((m + 1) / 2))) : JI cnt ((m + 1) / 2) v c1 d1 := by
  obtain ⟨a1, a2, a3, a4⟩ := h
  refine ⟨⟨fun h => absurd h (by omega), fun h => absurd (a1.mpr h) (by omega)⟩, fun j hj h0 => ?_, ?_, hI.2.2⟩
  · rw [← a2 j hj (by omega), rwN_s hm]
    exact rwN_cg _ h0 (fun i hi => hI.1 i hi) j hj
  · rw [← a3, dbT_s hm, hd, Bool.or_assoc, dbT_cg ((m + 1) / 2) (fun i hi => hI.1 i hi)]
def rtF (m : Nat) (c : Nat → Nat) (j : Nat) : Nat := if m = 0 then 0 else c j
theorem rtF_lt {m : Nat} {c : Nat → Nat} (h : ∀ j, c j < 256) : ∀ j, rtF m c j < 256 := by
  intro j; unfold rtF; split
  · decide
  · exact h j
theorem JI_end {cnt m : Nat} {v c : Nat → Nat} {d : Bool} (hm : m ≤ 1) (h : JI cnt m v c d) : d = dbT cnt v ∧ ∀ j, j < 32 → rtF m c j = if cnt = 0 then 0 else rwN cnt v j := by
  obtain ⟨a1, a2, a3, a4⟩ := h
  refine ⟨by rw [← a3, dbT_1 hm, Bool.or_false], fun j hj => ?_⟩
  unfold rtF
  by_cases e : m = 0
  · rw [if_pos e, if_pos (a1.mp e)]
  · rw [if_neg e, if_neg (fun q => e (a1.mpr q)), ← a2 j hj (by omega), rwN_1 hm]
theorem fl_t {c : Nat → Nat} {x y k : Nat} (h : ∀ j, j < k → c (x + j) = c (y + j)) (e : c (x + k) = c (y + k)) : true = true ↔ ∀ j, j < k + 1 → c (x + j) = c (y + j) :=
  ⟨fun _ j hj => by
    by_cases q : j = k
    · subst q; exact e
    · exact h j (by omega), fun _ => rfl⟩
