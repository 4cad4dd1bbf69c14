/-! a row of names, put together -/
def b2 (b : Bool) : Int32 := if b = true then 1 else 0
theorem sb_inj {a b : Nat} (ha : a < 256) (hb : b < 256) : sb_b a = sb_b b ↔ a = b := by
  constructor
  · intro h
    have h1 := sb_and ha
    rw [h, sb_and hb] at h1
    exact ((nI_eq (by omega) (by omega)).mp h1).symm
  · intro h; rw [h]
def alk (c : Nat → Nat) (q : Nat) : Bool := (List.range 32).all (fun k => decide (c (q * 32 + k) = c (q * 32 + 32 + k)))
theorem alk_iff {c : Nat → Nat} {q : Nat} : alk c q = true ↔ ∀ k, k < 32 → c (q * 32 + k) = c (q * 32 + 32 + k) := by
  unfold alk
  rw [List.all_eq_true]
  constructor
  · intro h k hk; exact of_decide_eq_true (h k (List.mem_range.mpr hk))
  · intro h k hk; exact decide_eq_true (h k (List.mem_range.mp hk))
theorem alk_cg {c r : Nat → Nat} {q : Nat} (h : ∀ k, k < 64 → c (q * 32 + k) = r (q * 32 + k)) : alk c q = alk r q := by
  have e : alk c q = true ↔ alk r q = true := by
    rw [alk_iff, alk_iff]
    constructor
    · intro z k hk; have a := z k hk; rw [h k (by omega), Nat.add_assoc, h (32 + k) (by omega), ← Nat.add_assoc] at a; exact a
    · intro z k hk; have a := z k hk; rw [h k (by omega), Nat.add_assoc, h (32 + k) (by omega), ← Nat.add_assoc]; exact a
  cases h1 : alk c q <;> cases h2 : alk r q <;> first | rfl | (rw [h1, h2] at e; exact absurd e (by decide))
def pr (r : Nat → Nat) (n p : Nat) : Nat → Nat := fun k => if k < 32 then r (2 * p * 32 + k) else r ((if 2 * p + 1 < n then 2 * p + 1 else 2 * p) * 32 + (k - 32))
def lvl (n : Nat) (r : Nat → Nat) : Nat → Nat := fun j => if j < 32 * ((n + 1) / 2) then nm (pr r n (j / 32)) 64 (j % 32) else r j
theorem nm_lt (t : Nat → Nat) (n j : Nat) : nm t n j < 256 := wB_lt _ _
theorem pr_cg {r r' : Nat → Nat} {n p : Nat} (hp : p < (n + 1) / 2) (h : ∀ j, j < 32 * n → r j = r' j) : ∀ k, k < 64 → pr r n p k = pr r' n p k := by
  intro k hk
  unfold pr
  by_cases c : k < 32
  · rw [if_pos c, if_pos c]; exact h _ (by omega)
  · rw [if_neg c, if_neg c]
    by_cases c2 : 2 * p + 1 < n
    · rw [if_pos c2]; exact h _ (by omega)
    · rw [if_neg c2]; exact h _ (by omega)
theorem lvl_cg {r r' : Nat → Nat} {n : Nat} (h : ∀ j, j < 32 * n → r j = r' j) : ∀ j, j < 32 * ((n + 1) / 2) → lvl n r j = lvl n r' j := by
  intro j hj
  unfold lvl
  rw [if_pos hj, if_pos hj, nm_cg (pr_cg (by omega) h)]
def rwN (n : Nat) (r : Nat → Nat) : Nat → Nat := if 1 < n then rwN ((n + 1) / 2) (lvl n r) else r
termination_by n
decreasing_by omega
theorem rwN_1 {n : Nat} {r : Nat → Nat} (h : n ≤ 1) : rwN n r = r := by rw [rwN, if_neg (by omega)]
theorem rwN_s {n : Nat} {r : Nat → Nat} (h : 1 < n) : rwN n r = rwN ((n + 1) / 2) (lvl n r) := by rw [rwN, if_pos h]
theorem rwN_cg : ∀ (n : Nat) {r r' : Nat → Nat}, 0 < n → (∀ j, j < 32 * n → r j = r' j) → ∀ j, j < 32 → rwN n r j = rwN n r' j := by
  intro n
  induction n using Nat.strongRecOn with
  | _ n ih =>
    intro r r' h0 h j hj
    by_cases c : 1 < n
    · rw [rwN_s c, rwN_s c]
      exact ih ((n + 1) / 2) (by omega) (by omega) (lvl_cg h) j hj
    · rw [rwN_1 (by omega), rwN_1 (by omega)]
      exact h j (by omega)
def dbq (n : Nat) (r : Nat → Nat) : Nat → Bool
  | 0 => false
  | p + 1 => dbq n r p || (decide (2 * p + 1 < n) && alk r (2 * p))
def dbT (n : Nat) (r : Nat → Nat) : Bool := if 1 < n then dbq n r ((n + 1) / 2) || dbT ((n + 1) / 2) (lvl n r) else false
termination_by n
decreasing_by omega
theorem dbT_1 {n : Nat} {r : Nat → Nat} (h : n ≤ 1) : dbT n r = false := by rw [dbT, if_neg (by omega)]
theorem dbT_s {n : Nat} {r : Nat → Nat} (h : 1 < n) : dbT n r = (dbq n r ((n + 1) / 2) || dbT ((n + 1) / 2) (lvl n r)) := by rw [dbT, if_pos h]
theorem dbq_cg {n : Nat} {r r' : Nat → Nat} (h : ∀ j, j < 32 * n → r j = r' j) : ∀ p, dbq n r p = dbq n r' p
  | 0 => rfl
  | p + 1 => by
    show (dbq n r p || (decide (2 * p + 1 < n) && alk r (2 * p))) = (dbq n r' p || (decide (2 * p + 1 < n) && alk r' (2 * p)))
    rw [dbq_cg h p]
    by_cases c : 2 * p + 1 < n
    · rw [alk_cg (r := r') (fun k hk => h _ (by omega))]
    · rw [decide_eq_false c]; rfl
theorem dbT_cg : ∀ (n : Nat) {r r' : Nat → Nat}, (∀ j, j < 32 * n → r j = r' j) → dbT n r = dbT n r' := by
  intro n
  induction n using Nat.strongRecOn with
  | _ n ih =>
    intro r r' h
    by_cases c : 1 < n
    · rw [dbT_s c, dbT_s c, dbq_cg h, ih ((n + 1) / 2) (by omega) (lvl_cg h)]
    · rw [dbT_1 (by omega), dbT_1 (by omega)]
/-- while a row's pairs are put together -/
def RInv (n : Nat) (r : Nat → Nat) (p : Nat) (c : Nat → Nat) : Prop := (∀ j, j < 32 * p → c j = lvl n r j) ∧ (2 * p ≤ n → ∀ j, 32 * p ≤ j → j < 32 * n → c j = r j) ∧ ∀ j, c j < 256
theorem putF_lo {t : Nat → Nat} {n m : Nat} {s : Nat → Nat} {j : Nat} (h : j < n) : putF t n m s j = t j := by unfold putF; rw [if_neg (by omega)]
theorem putF_hi {t : Nat → Nat} {n m : Nat} {s : Nat → Nat} {j : Nat} (h : n + m ≤ j) : putF t n m s j = t j := by unfold putF; rw [if_neg (by omega)]
theorem lvl_in {n : Nat} {r : Nat → Nat} {p k : Nat} (hp : p < (n + 1) / 2) (hk : k < 32) : lvl n r (p * 32 + k) = nm (pr r n p) 64 k := by
  unfold lvl
  rw [if_pos (by omega), show (p * 32 + k) / 32 = p by omega, show (p * 32 + k) % 32 = k by omega]
theorem RInv_put {n : Nat} {r : Nat → Nat} {p : Nat} {c c1 : Nat → Nat} (hp : p < (n + 1) / 2) (h : RInv n r p c) (h1 : ∀ j, j < 64 → c1 (2 * p * 32 + j) = pr r n p j) (h2 : ∀ j, j < 32 * p → c1 j = c j) (h3 : 2 * (p + 1) ≤ n → ∀ j, c1 j = c j) (h4 : ∀ j, c1 j < 256) : RInv n r (p + 1) (putF c1 (p * 32) 32 (nm (fun j => c1 (2 * p * 32 + j)) 64)) := by
  refine ⟨fun j hj => ?_, fun hn j hj hj2 => ?_, putF_lt h4 (fun _ => nm_lt _ _ _)⟩
  · by_cases e : j < 32 * p
    · rw [putF_lo (by omega), h2 j e]; exact h.1 j e
    · obtain ⟨k, hk, rfl⟩ : ∃ k, k < 32 ∧ j = p * 32 + k := ⟨j - p * 32, by omega, by omega⟩
      rw [putF_at hk, lvl_in hp hk, nm_cg h1]
  · rw [putF_hi (by omega), h3 hn]; exact h.2.1 (by omega) j (by omega) hj2
theorem RInv_two {n : Nat} {r : Nat → Nat} {p : Nat} {c : Nat → Nat} (hp : 2 * p + 1 < n) (h : RInv n r p c) : RInv n r (p + 1) (putF c (p * 32) 32 (nm (fun j => c (2 * p * 32 + j)) 64)) := by
  refine RInv_put (by omega) h (fun j hj => ?_) (fun _ _ => rfl) (fun _ _ => rfl) h.2.2
  unfold pr
  by_cases c1 : j < 32
  · rw [if_pos c1]; exact h.2.1 (by omega) _ (by omega) (by omega)
  · rw [if_neg c1, if_pos hp, h.2.1 (by omega) _ (by omega) (by omega)]
    congr 1; omega
theorem RInv_one {n : Nat} {r : Nat → Nat} {p : Nat} {c : Nat → Nat} (hp : 2 * p + 1 = n) (h : RInv n r p c) : RInv n r (p + 1) (putF (putF c (2 * p * 32 + 32) 32 (fun k => c (2 * p * 32 + k))) (p * 32) 32 (nm (fun j => putF c (2 * p * 32 + 32) 32 (fun k => c (2 * p * 32 + k)) (2 * p * 32 + j)) 64)) := by
  refine RInv_put (by omega) h (fun j hj => ?_) (fun j hj => putF_lo (by omega)) (fun hn => absurd hn (by omega)) (putF_lt h.2.2 (fun _ => h.2.2 _))
  unfold pr
  by_cases c1 : j < 32
  · rw [if_pos c1, putF_lo (by omega)]; exact h.2.1 (by omega) _ (by omega) (by omega)
  · rw [if_neg c1, if_neg (by omega)]
    obtain ⟨k, hk, rfl⟩ : ∃ k, k < 32 ∧ j = 32 + k := ⟨j - 32, by omega, by omega⟩
    rw [← Nat.add_assoc, putF_at hk, h.2.1 (by omega) _ (by omega) (by omega)]
    congr 1; omega
theorem b2_t {b : Bool} (h : b = true) : b2 b = nI 1 := by rw [h]; rfl
theorem b2_f {b : Bool} (h : b = false) : b2 b = nI 0 := by rw [h]; rfl
theorem cpT_lt {f f0 : Nat → Nat} {i : Nat} (h1 : ∀ j, f j < 256) (h2 : ∀ j, f0 j < 256) : ∀ j, cpT f f0 i j < 256 := by
  intro j; unfold cpT; split
  · exact h1 j
  · exact h2 j
