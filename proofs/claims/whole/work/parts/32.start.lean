section JP
variable {g : JX} {κ : JK} {pc cells slots : Nat} {lv : List (Nat × Value)} {ws : va_W}
/-- what lies behind an array's end doesn't matter -/
theorem j_picQ {st : List Value} (q0 : Nat) {a n : Nat} {cA : ClassId} {f f' : Nat → Option Nat} (ha : ws[q0]? = some (a, .inl (cA, n, .inr (.inr (.inr (.inr f)))))) (hf : ∀ j, j < n → f j = f' j) {ws' : va_W} (hw : ws.set q0 (a, .inl (cA, n, .inr (.inr (.inr (.inr f'))))) = ws') (k : j_V g κ cells slots pc lv st ws') : j_V g κ cells slots pc lv st ws := by
  subst hw
  intro H locs ls hP hD hS hl
  have hc : H[a]? = some (vp_cell cA (n, .inr (.inr (.inr (.inr f))))) := hP q0 _ ha
  have e : vp_cell cA (n, .inr (.inr (.inr (.inr f)))) = vp_cell cA (n, .inr (.inr (.inr (.inr f')))) := by
    rw [vp_cell_q, vp_cell_q]
    unfold arrV
    congr 2
    funext j
    show va_rf (f j.val) = va_rf (f' j.val)
    rw [hf j.val j.isLt]
  rw [e] at hc
  exact k H locs ls (hP.set hD ha hc (fun _ _ => rfl)) (hD.set ha) hS hl
end JP
def qF (xa : Nat → Nat) (m : Nat) : Nat → Option Nat := fun j => if j < m then some (xa j) else none
theorem qF_0 (xa : Nat → Nat) : qF xa 0 = fun _ => none := by funext j; unfold qF; rw [if_neg (by omega)]
theorem qF_s (xa : Nat → Nat) (m q : Nat) : va_up (qF xa m) m (some q) = qF (va_up xa m q) (m + 1) := by
  funext j; simp only [qF, va_up]
  by_cases h : j = m
  · subst h; rw [if_pos rfl, if_pos (by omega), if_pos rfl]
  · rw [if_neg h, if_neg h]
    by_cases h2 : j < m
    · rw [if_pos h2, if_pos (by omega)]
    · rw [if_neg h2, if_neg (by omega)]
theorem txsN_up (g : JX) (xa : Nat → Nat) (xb : Nat → Nat → Nat) (y : Nat → Nat → Int32) (f : Nat → Nat → Nat → Int32) (m q : Nat) (b : Nat → Nat) : txsN g (va_up xa m q) (va_up xb m b) y f m = txsN g xa xb y f m := by
  unfold txsN
  apply fm_congr
  intro v hv
  have hne : v ≠ m := by have := List.mem_range.mp hv; omega
  unfold txW
  rw [va_up_ne _ _ hne, va_up_ne _ _ hne]
def sl6 (a b c d e f : Nat) : Nat → Nat | 1 => a | 2 => b | 3 => c | 4 => d | 5 => e | _ => f
def y00 : Nat → Nat → Int32 := fun _ _ => nI 0
def f00 : Nat → Nat → Nat → Int32 := fun _ _ => nf (fun _ => 0)
theorem txsN_add (g : JX) (xa : Nat → Nat) (xb : Nat → Nat → Nat) (m q b1 b2 b3 b4 b5 b6 : Nat) (L : va_W) : j_Sb (L ++ (txc g q (sl6 b1 b2 b3 b4 b5 b6) (y00 0) (f00 0) ++ txsN g xa xb y00 f00 m)) (L ++ txsN g (va_up xa m q) (va_up xb m (sl6 b1 b2 b3 b4 b5 b6)) y00 f00 (m + 1)) := by
  refine j_Sb.appL L ?_
  rw [txsN_s, txsN_up, va_up_self, va_up_self]
  exact j_Sb.swap _ _
