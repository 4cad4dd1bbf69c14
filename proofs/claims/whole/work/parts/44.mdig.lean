theorem lsr_b2 (v : Int64) {k i : Nat} (hk : k = 8 * i) (hi : i < 8) : (v >>> ((nI k).toInt64 &&& 63)) &&& lN 255 = lN (lb v i) := lsr_b v hk hi
theorem dB_lt (t : Nat → Nat) (n j : Nat) : dB t n j < 256 := wB_lt _ _
theorem cpT_at {f f0 : Nat → Nat} {i j : Nat} (h : j < i) : cpT f f0 i j = f j := if_pos h
theorem dB_cg {t u : Nat → Nat} {n : Nat} (h : ∀ j, j < n → t j = u j) : dB t n = dB u n := by unfold dB; rw [dW_cg h]
theorem dg_blk {b P : Nat → Nat} {c : Nat} {H H1 : Nat → BW} (hH : ∀ j, j < 8 → H j = dgN b c j) (h1 : ∀ j, j < 8 → H1 j = H j + rdN (wx (fun i => wd b (c * 64 + 4 * i))) H 64 j) : ∀ j, j < 8 → H1 j = dgN b (c + 1) j := by
  intro j hj
  rw [h1 j hj, hH j hj, rdN_cg hH 64 (fun _ _ => rfl) j hj]
  rfl
theorem RInv_put2 {n : Nat} {r : Nat → Nat} {p : Nat} {c Q : Nat → Nat} (hp : p < (n + 1) / 2) (h : RInv n r p c) (h1 : ∀ j, j < 64 → Q j = pr r n p j) : RInv n r (p + 1) (putF c (16 * (2 * p)) 32 (nm Q 64)) := by
  refine ⟨fun j hj => ?_, fun hn j hj hj2 => ?_, putF_lt h.2.2 (fun _ => nm_lt _ _ _)⟩
  · by_cases e : j < 32 * p
    · rw [putF_lo (by omega)]; exact h.1 j e
    · obtain ⟨k, hk, rfl⟩ : ∃ k, k < 32 ∧ j = p * 32 + k := ⟨j - p * 32, by omega, by omega⟩
      rw [show p * 32 + k = 16 * (2 * p) + k by omega, putF_at hk, show 16 * (2 * p) + k = p * 32 + k by omega, lvl_in hp hk, nm_cg h1]
  · rw [putF_hi (by omega)]; exact h.2.1 (by omega) j (by omega) hj2
theorem RInv_hi {n : Nat} {r : Nat → Nat} {p : Nat} {c : Nat → Nat} (h : RInv n r p c) (hp : p < (n + 1) / 2) {j : Nat} (h1 : 64 * p ≤ j) (h2 : j < 32 * n) : c j = r j := h.2.1 (by omega) j (by omega) h2
