/-! the twelve transactions that the class keeps -/
def txc (g : JX) (xa : Nat) (xb : Nat → Nat) (y : Nat → Int32) (f : Nat → Nat → Int32) : va_W := [(xa, .inr (4, [.int (y 0), .int (y 1), .int (y 2), .int (y 3), .ref (xb 1), .ref (xb 2), .ref (xb 3), .ref (xb 4), .ref (xb 5), .ref (xb 6)])), (xb 1, .inl (aI g, 8, .inl (f 1))), (xb 2, .inl (aI g, 8, .inl (f 2))), (xb 3, .inl (aI g, 8, .inl (f 3))), (xb 4, .inl (aI g, 8, .inl (f 4))), (xb 5, .inl (aI g, 8, .inl (f 5))), (xb 6, .inl (aI g, 8, .inl (f 6)))]
def txW (g : JX) (xa : Nat → Nat) (xb : Nat → Nat → Nat) (y : Nat → Nat → Int32) (f : Nat → Nat → Nat → Int32) (u : Nat) : va_W := txc g (xa u) (xb u) (y u) (f u)
def txsN (g : JX) (xa : Nat → Nat) (xb : Nat → Nat → Nat) (y : Nat → Nat → Int32) (f : Nat → Nat → Nat → Int32) (m : Nat) : va_W := (List.range m).flatMap (txW g xa xb y f)
abbrev txs (g : JX) (xa : Nat → Nat) (xb : Nat → Nat → Nat) (y : Nat → Nat → Int32) (f : Nat → Nat → Nat → Int32) : va_W := txsN g xa xb y f 12
def txB (g : JX) (xa : Nat → Nat) (xb : Nat → Nat → Nat) (y : Nat → Nat → Int32) (f : Nat → Nat → Nat → Int32) (u : Nat) : va_W := ((List.range 12).filter (fun v => decide (v ≠ u))).flatMap (txW g xa xb y f)
theorem j_D_pair {A : Nat → Prop} {ws : va_W} : va_D A ws ↔ ws.Pairwise (fun p q => p.1 ≠ q.1) ∧ ∀ q ∈ ws, A q.1 := by
  constructor
  · intro h
    refine ⟨List.pairwise_iff_getElem.mpr fun i j hi hj hij e => ?_, fun q hq => j_D_in h hq⟩
    have := h.1 i j _ _ (List.getElem?_eq_getElem hi) (List.getElem?_eq_getElem hj) e
    omega
  · intro h
    refine ⟨fun i j p q hi hj e => ?_, fun k q hk => h.2 q (List.mem_of_getElem? hk)⟩
    obtain ⟨hi1, hi2⟩ := List.getElem?_eq_some_iff.mp hi
    obtain ⟨hj1, hj2⟩ := List.getElem?_eq_some_iff.mp hj
    have hp := List.pairwise_iff_getElem.mp h.1
    rcases Nat.lt_trichotomy i j with c | c | c
    · exact absurd (by rw [hi2, hj2]; exact e) (hp i j hi1 hj1 c)
    · exact c
    · exact absurd (by rw [hi2, hj2]; exact e.symm) (hp j i hj1 hi1 c)
theorem j_Sb.perm {a b : va_W} (h : a.Perm b) : j_Sb a b := by
  refine ⟨fun q hq => h.mem_iff.mpr hq, fun A hD => ?_⟩
  rw [j_D_pair] at hD ⊢
  exact ⟨(h.pairwise_iff (fun {x y} e => Ne.symm e)).mp hD.1, fun q hq => hD.2 q (h.mem_iff.mpr hq)⟩
theorem j_Sb.appL (c : va_W) {a b : va_W} (h : j_Sb a b) : j_Sb (c ++ a) (c ++ b) := ((j_Sb.swap c a).trans (h.app c)).trans (j_Sb.swap b c)
theorem rg_perm : ∀ u, u < 12 → (List.range 12).Perm (u :: (List.range 12).filter (fun v => decide (v ≠ u))) := by decide
theorem txs_perm {g : JX} {xa : Nat → Nat} {xb : Nat → Nat → Nat} {y : Nat → Nat → Int32} {f : Nat → Nat → Nat → Int32} {u : Nat} (hu : u < 12) : (txs g xa xb y f).Perm (txW g xa xb y f u ++ txB g xa xb y f u) := by
  have h := (rg_perm u hu).flatMap_right (txW g xa xb y f)
  rw [List.flatMap_cons] at h
  exact h
theorem txs_open {g : JX} {xa : Nat → Nat} {xb : Nat → Nat → Nat} {y : Nat → Nat → Int32} {f : Nat → Nat → Nat → Int32} {u : Nat} (L : va_W) (hu : u < 12) : j_Sb (L ++ txs g xa xb y f) (L ++ (txc g (xa u) (xb u) (y u) (f u) ++ txB g xa xb y f u)) := j_Sb.appL L (j_Sb.perm (txs_perm hu))
theorem fm_congr {α β : Type} {f g : α → List β} : ∀ (l : List α), (∀ a ∈ l, f a = g a) → l.flatMap f = l.flatMap g
  | [], _ => rfl
  | a :: l, h => by rw [List.flatMap_cons, List.flatMap_cons, h a List.mem_cons_self, fm_congr l (fun b hb => h b (List.mem_cons_of_mem _ hb))]
theorem txB_up {g : JX} {xa : Nat → Nat} {xb : Nat → Nat → Nat} {y : Nat → Nat → Int32} {f : Nat → Nat → Nat → Int32} {u : Nat} (y1 : Nat → Int32) (f1 : Nat → Nat → Int32) : txB g xa xb (va_up y u y1) (va_up f u f1) u = txB g xa xb y f u := by
  unfold txB
  apply fm_congr
  intro v hv
  have hne : v ≠ u := by
    have := (List.mem_filter.mp hv).2
    exact of_decide_eq_true this
  unfold txW va_up
  rw [if_neg hne, if_neg hne]
theorem txs_close {g : JX} {xa : Nat → Nat} {xb : Nat → Nat → Nat} {y : Nat → Nat → Int32} {f : Nat → Nat → Nat → Int32} {u : Nat} (L : va_W) (hu : u < 12) (y1 : Nat → Int32) (f1 : Nat → Nat → Int32) : j_Sb (L ++ (txc g (xa u) (xb u) y1 f1 ++ txB g xa xb y f u)) (L ++ txs g xa xb (va_up y u y1) (va_up f u f1)) := by
  refine j_Sb.appL L (j_Sb.perm ?_)
  have h := (txs_perm (g := g) (xa := xa) (xb := xb) (y := va_up y u y1) (f := va_up f u f1) hu).symm
  rw [txB_up] at h
  unfold txW at h
  rw [va_up_self, va_up_self] at h
  exact h
theorem txs_mem {g : JX} {xa : Nat → Nat} {xb : Nat → Nat → Nat} {y : Nat → Nat → Int32} {f : Nat → Nat → Nat → Int32} {u : Nat} (hu : u < 12) {q : Nat × va_E} (h : q ∈ txc g (xa u) (xb u) (y u) (f u)) : q ∈ txs g xa xb y f := List.mem_flatMap.mpr ⟨u, List.mem_range.mpr hu, h⟩
theorem txsN_s (g : JX) (xa : Nat → Nat) (xb : Nat → Nat → Nat) (y : Nat → Nat → Int32) (f : Nat → Nat → Nat → Int32) (m : Nat) : txsN g xa xb y f (m + 1) = txsN g xa xb y f m ++ txc g (xa m) (xb m) (y m) (f m) := by
  unfold txsN
  rw [List.range_succ, List.flatMap_append, List.flatMap_cons, List.flatMap_nil, List.append_nil]
  rfl
/-- a block -/
def bZ (t : Nat → Nat) (n : Nat) (s : RS) : Nat × RS := rSize t n 12 (rPass n 80 s)
theorem bZ_R {t : Nat → Nat} {n : Nat} {s : RS} (h : ROk n s) : ROk n (bZ t n s).2 := rSize_R (rPass_R h)
def TxAll (t : Nat → Nat) (n : Nat) (s : RS) (k : Nat) (y : Nat → Nat → Int32) (f : Nat → Nat → Nat → Int32) : Prop := ∀ v, v < k → TxOk t n (itN (rTx t n) v s) (y v) (f v)
theorem TxAll_s {t : Nat → Nat} {n : Nat} {s : RS} {k : Nat} {y : Nat → Nat → Int32} {f : Nat → Nat → Nat → Int32} {y1 : Nat → Int32} {f1 : Nat → Nat → Int32} (h : TxAll t n s k y f) (h1 : TxOk t n (itN (rTx t n) k s) y1 f1) : TxAll t n s (k + 1) (va_up y k y1) (va_up f k f1) := by
  intro v hv
  by_cases e : v = k
  · subst e; rw [va_up_self, va_up_self]; exact h1
  · rw [va_up_ne _ _ e, va_up_ne _ _ e]; exact h v (by omega)
theorem itN_bad {t : Nat → Nat} {n : Nat} {s : RS} {u : Nat} (h : 0 < rF (itN (rTx t n) u s)) : ∀ k, u ≤ k → itN (rTx t n) k s = itN (rTx t n) u s
  | 0, hk => by
    obtain rfl : u = 0 := by omega
    rfl
  | k + 1, hk => by
    by_cases e : u = k + 1
    · subst e; rfl
    · have ih := itN_bad h k (by omega)
      show rTx t n (itN (rTx t n) k s) = _
      rw [ih]
      cases hs : itN (rTx t n) u s with
      | inl p => rw [hs] at h; exact absurd h (Nat.lt_irrefl 0)
      | inr e => rfl
theorem rF_lt {n : Nat} {s : RS} (h : ROk n s) : rF s < 5 := by
  rcases s with p | e
  · exact Nat.le_of_ble_eq_true rfl
  · exact h.2.1
