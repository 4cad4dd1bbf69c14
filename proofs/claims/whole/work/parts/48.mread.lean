/-! what a reading leaves with the reference -/
theorem MIn_k {t : Nat → Nat} {n : Nat} {s : RS} {u w : Nat} {f1 f2 f3 g1 g2 g3 : Nat → Int32} {i : Nat} (h : MIn t n s w f1 f2 f3 i) (hw : w < u) (hi : i ≤ 8) (k1 : Kp (8 * u) f1 g1) (k2 : Kp (8 * u) f2 g2) (k3 : Kp (8 * u) f3 g3) : MIn t n s w g1 g2 g3 i := by
  intro j hj p hp
  rw [k1 _ (by omega), k2 _ (by omega), k3 _ (by omega)]
  exact h j hj p hp
theorem MOut_k {t : Nat → Nat} {n : Nat} {s : RS} {u w : Nat} {f1 f2 f3 g1 g2 g3 : Nat → Int32} {i : Nat} (h : MOut t n s w f1 f2 f3 i) (hw : w < u) (hi : i ≤ 8) (k1 : Kp (8 * u) f1 g1) (k2 : Kp (8 * u) f2 g2) (k3 : Kp (8 * u) f3 g3) : MOut t n s w g1 g2 g3 i := by
  intro j hj p hp
  rw [k1 _ (by omega), k2 _ (by omega), k3 _ (by omega)]
  exact h j hj p hp
theorem MAll_s {t : Nat → Nat} {n : Nat} {s2 : RS} {u : Nat} {F F1 : Nat → Nat → Int32} (h : MAll t n s2 u F) (h1 : MTx t n (itN (rTx t n) u s2) u F1) (h2 : MKp u F F1) : MAll t n s2 (u + 1) F1 := by
  intro v hv
  by_cases e : v = u
  · subst e; exact h1
  · intro p hp
    obtain ⟨a1, a2, a3, a4, a5, a6⟩ := h v (by omega) p hp
    obtain ⟨k2, k3, k4, k5, k6, k7, k8, k9, k10, k11⟩ := h2
    exact ⟨(k2 v (by omega)).trans a1, (k3 v (by omega)).trans a2, (k4 v (by omega)).trans a3, (k5 v (by omega)).trans a4, MIn_k a5 (by omega) rSize_le k6 k7 k8, MOut_k a6 (by omega) rSize_le k9 k10 k11⟩
def MK (t : Nat → Nat) (n cnt : Nat) (blk : Bool) (s2 : RS) (F : Nat → Nat → Int32) (v rt : Nat → Nat) (db : Bool) : Prop := n ≤ 2000 ∧ (∀ j, t j < 256) ∧ (∀ j, v j < 256) ∧ (∀ j, rt j < 256) ∧ cnt ≤ 12 ∧ MAll t n s2 cnt F ∧ (0 < cnt → ∃ e0, itN (rTx t n) cnt s2 = .inl e0) ∧ (∀ u, u < cnt → ∀ j, j < 32 → v (32 * u + j) = nmA t n s2 u j) ∧ (blk = true → ∀ j, j < 32 → v (384 + j) = nm t 80 j) ∧ (blk = true → ∀ j, j < 32 → rt j = rootF t n s2 cnt j) ∧ (blk = true → db = dbT cnt (rowF t n s2))
theorem MK_0 {t : Nat → Nat} {s2 : RS} {F : Nat → Nat → Int32} {v rt : Nat → Nat} {db : Bool} (h1 : ∀ j, t j < 256) (h2 : ∀ j, v j < 256) (h3 : ∀ j, rt j < 256) : MK t 0 0 false s2 F v rt db :=
  ⟨Nat.zero_le _, h1, h2, h3, Nat.zero_le _, fun _ h => absurd h (Nat.not_lt_zero _), fun h => absurd h (Nat.lt_irrefl 0), fun _ h => absurd h (Nat.not_lt_zero _), fun h => Bool.noConfusion h, fun h => Bool.noConfusion h, fun h => Bool.noConfusion h⟩
/-- the names so far -/
def NMs (t : Nat → Nat) (n : Nat) (s2 : RS) (u : Nat) (v : Nat → Nat) : Prop := (∀ w, w < u → ∀ j, j < 32 → v (32 * w + j) = nmA t n s2 w j) ∧ ∀ j, v j < 256
theorem NMs_s {t : Nat → Nat} {n : Nat} {s2 : RS} {u b e : Nat} {v : Nat → Nat} (h : NMs t n s2 u v) (hb : itN (rTx t n) u s2 = .inl b) (he : rTx t n (itN (rTx t n) u s2) = .inl e) : NMs t n s2 (u + 1) (putF v (32 * u) 32 (nm (fun j => t (b + j)) (e - b))) := by
  refine ⟨fun w hw j hj => ?_, putF_lt h.2 (fun _ => nm_lt _ _ _)⟩
  by_cases q : w = u
  · subst q
    rw [putF_at hj]
    unfold nmA
    rw [show itN (rTx t n) (w + 1) s2 = .inl e from he, hb]
    rfl
  · rw [putF_lo (by omega)]; exact h.1 w (by omega) j hj
theorem NMs_row {t v : Nat → Nat} {n : Nat} {s2 : RS} {cnt : Nat} (h : NMs t n s2 cnt v) : ∀ u, u < cnt → ∀ j, j < 32 → v (u * 32 + j) = nmA t n s2 u j := by
  intro u hu j hj; rw [Nat.mul_comm]; exact h.1 u hu j hj
theorem NMs_80 {t v : Nat → Nat} {n : Nat} {s2 : RS} {cnt : Nat} (hc : cnt ≤ 12) (h : NMs t n s2 cnt v) : NMs t n s2 cnt (putF v (32 * 12) 32 (nm (fun j => t (0 + j)) (80 - 0))) := by
  refine ⟨fun w hw j hj => ?_, putF_lt h.2 (fun _ => nm_lt _ _ _)⟩
  rw [putF_lo (by omega)]; exact h.1 w hw j hj
theorem nm_80 {t v : Nat → Nat} {j : Nat} (hj : j < 32) : putF v (32 * 12) 32 (nm (fun j => t (0 + j)) (80 - 0)) (384 + j) = nm t 80 j := by
  rw [show 384 + j = 32 * 12 + j by omega, putF_at hj, nm_0]
theorem bZ_bad {t : Nat → Nat} {n : Nat} {s : RS} (h : 0 < rF (rPass n 80 s)) : bZ t n s = (0, rPass n 80 s) := by
  unfold bZ
  cases hs : rPass n 80 s with
  | inl p => rw [hs] at h; exact absurd h (Nat.lt_irrefl 0)
  | inr e => rfl
