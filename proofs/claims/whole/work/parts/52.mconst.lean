def pTb : List Nat := [1, 2, 3, 5, 7, 11, 13, 17, 19, 23, 29, 31, 37, 41, 43, 47, 53, 59, 61, 67, 71, 73, 79, 83, 89, 97, 101, 103, 107, 109, 113, 127, 131, 137, 139, 149, 151, 157, 163, 167, 173, 179, 181, 191, 193, 197, 199, 211, 223, 227, 229, 233, 239, 241, 251, 257, 263, 269, 271, 277, 281, 283, 293, 307, 311]
theorem pTb_s : ∀ i, i < 64 → nx (pTb.getD i 0 + 1) 15 = pTb.getD (i + 1) 0 ∧ isP (pTb.getD (i + 1) 0) = true ∧ pTb.getD i 0 ≤ 307 := by decide +kernel
theorem pP_t : ∀ i, i ≤ 64 → pP i = pTb.getD i 0
  | 0, _ => rfl
  | i + 1, h => by
    show nx (pP i + 1) 15 = _
    rw [pP_t i (by omega), (pTb_s i (by omega)).1]
theorem kc3 : ∀ i, i < 64 → rtB (pTb.getD (i + 1) 0) 3 37 0 % 4294967296 = (cK i).toNat ∧ rtB (pTb.getD (i + 1) 0) 3 37 0 < 2 ^ 63 := by decide +kernel
theorem kc2 : ∀ i, i < 8 → rtB (pTb.getD (i + 1) 0) 2 37 0 % 4294967296 = (cH i).toNat := by decide +kernel
theorem kc2b : ∀ i, i < 64 → rtB (pTb.getD (i + 1) 0) 2 37 0 < 2 ^ 63 := by decide +kernel
theorem pP_3 {i : Nat} (h : i < 64) : rtB (pP (i + 1)) 3 37 0 % 4294967296 = (cK i).toNat := by rw [pP_t (i + 1) (by omega)]; exact (kc3 i h).1
theorem pP_3b {i : Nat} (h : i < 64) : rtB (pP (i + 1)) 3 37 0 < 2 ^ 63 := by rw [pP_t (i + 1) (by omega)]; exact (kc3 i h).2
theorem pP_2 {i : Nat} (h : i < 8) : rtB (pP (i + 1)) 2 37 0 % 4294967296 = (cH i).toNat := by rw [pP_t (i + 1) (by omega)]; exact kc2 i h
theorem pP_2b {i : Nat} (h : i < 64) : rtB (pP (i + 1)) 2 37 0 < 2 ^ 63 := by rw [pP_t (i + 1) (by omega)]; exact kc2b i h
theorem pP_p {i : Nat} (h : i < 64) : isP (nx (pP i + 1) 15) = true := by
  rw [pP_t i (by omega), (pTb_s i h).1]; exact (pTb_s i h).2.1
theorem pP_b {i : Nat} (h : i < 64) : pP i ≤ 307 := by rw [pP_t i (by omega)]; exact (pTb_s i h).2.2
theorem nx_ge : ∀ (k c : Nat), nx c k ≤ c + k
  | 0, c => Nat.le_refl _
  | k + 1, c => by
    by_cases h : isP c = true
    · rw [nx_t h]; omega
    · rw [nx_f h]; have := nx_ge k (c + 1); omega
section JPL
variable {g : JX} {κ : JK} {pc cells slots : Nat} {lv : List (Nat × Value)} {ws : va_W}
/-- what lies behind a long array's end doesn't matter -/
theorem j_picL {st : List Value} (q0 : Nat) {a n : Nat} {cA : ClassId} {f f' : Nat → Int64} (ha : ws[q0]? = some (a, .inl (cA, n, .inr (.inl f)))) (hf : ∀ j, j < n → f j = f' j) {ws' : va_W} (hw : ws.set q0 (a, .inl (cA, n, .inr (.inl f'))) = ws') (k : j_V g κ cells slots pc lv st ws') : j_V g κ cells slots pc lv st ws := by
  subst hw
  intro H locs ls hP hD hS hl
  have hc : H[a]? = some (vp_cell cA (n, .inr (.inl f))) := hP q0 _ ha
  have e : vp_cell cA (n, .inr (.inl f)) = vp_cell cA (n, .inr (.inl f')) := by
    rw [vp_cell_l, vp_cell_l]
    unfold arrV
    congr 2
    funext j
    show Value.long (f j.val) = Value.long (f' j.val)
    rw [hf j.val j.isLt]
  rw [e] at hc
  exact k H locs ls (hP.set hD ha hc (fun _ _ => rfl)) (hD.set ha) hS hl
end JPL
