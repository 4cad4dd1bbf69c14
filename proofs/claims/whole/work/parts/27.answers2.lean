section JM
variable {g : JX} {κ : JK} {cc : ByteArray} {own : String} {rm : Room} {nL pc cells slots : Nat} {lv : List (Nat × Value)} {rest : List Value} {ws : va_W}
theorem j_ialdMN (C : j_C g κ cc own rm nL) (t0 : Nat) {a n : Nat} {cA : ClassId} {f : Nat → Int32} (ha : (a, Sum.inl (cA, n, .inl f)) ∈ ws) (ht : (jT g)[t0]? = some (cA, .int)) {i : Nat} (hi : i < n) (hn : n < 2 ^ 31) (hdg : decode cc pc = .ok (.iaload, 1)) (k9 : j_V g κ cells slots (pc + 1) lv (.int (f i) :: rest) ws) : j_V g κ cells slots pc lv (.int (nI i) :: .ref a :: rest) ws :=
  j_ialdM C t0 ha ht (vp_in_nI hi hn) (by rw [nI_clamp (Nat.lt_trans hi hn)]) hdg k9
end JM
section TXM
variable {g : JX} {xa : Nat} {xb : Nat → Nat} {y : Nat → Int32} {f : Nat → Nat → Int32}
theorem txc_0 : (xa, Sum.inr (4, [.int (y 0), .int (y 1), .int (y 2), .int (y 3), .ref (xb 1), .ref (xb 2), .ref (xb 3), .ref (xb 4), .ref (xb 5), .ref (xb 6)])) ∈ txc g xa xb y f := List.mem_cons_self
theorem txc_k : ∀ k, 1 ≤ k → k ≤ 6 → (xb k, Sum.inl (aI g, 8, .inl (f k))) ∈ txc g xa xb y f := by
  intro k h1 h2
  have h : k = 1 ∨ k = 2 ∨ k = 3 ∨ k = 4 ∨ k = 5 ∨ k = 6 := by omega
  rcases h with rfl | rfl | rfl | rfl | rfl | rfl
  · exact List.mem_of_getElem? (i := 1) rfl
  · exact List.mem_of_getElem? (i := 2) rfl
  · exact List.mem_of_getElem? (i := 3) rfl
  · exact List.mem_of_getElem? (i := 4) rfl
  · exact List.mem_of_getElem? (i := 5) rfl
  · exact List.mem_of_getElem? (i := 6) rfl
end TXM
theorem lookR_in {t : Nat → Nat} {n : Nat} {s2 : RS} {cnt u : Nat} {x : Int32} (hu : u < cnt) (hc : cnt < 2 ^ 31) : lookR t n s2 cnt (nI u) x = lookV t n (itN (rTx t n) u s2) x := by
  unfold lookR; rw [if_pos ⟨nI_pos' (by omega), nI_lt hu hc⟩, nI_clamp (by omega)]
theorem lookR_neg {t : Nat → Nat} {n : Nat} {s2 : RS} {cnt : Nat} {tt x : Int32} (h : tt < 0) : lookR t n s2 cnt tt x = -1 := by unfold lookR; rw [if_neg (fun q => nlt0 h q.1)]
theorem lookR_big {t : Nat → Nat} {n : Nat} {s2 : RS} {cnt : Nat} {tt x : Int32} (h : nI cnt ≤ tt) : lookR t n s2 cnt tt x = -1 := by unfold lookR; rw [if_neg (fun q => nle h q.2)]
theorem inR_neg {t : Nat → Nat} {n : Nat} {s2 : RS} {cnt : Nat} {tt i x : Int32} (h : tt < 0) : inR t n s2 cnt tt i x = -1 := by unfold inR; rw [if_neg (fun q => nlt0 h q.1)]
theorem inR_big {t : Nat → Nat} {n : Nat} {s2 : RS} {cnt : Nat} {tt i x : Int32} (h : nI cnt ≤ tt) : inR t n s2 cnt tt i x = -1 := by unfold inR; rw [if_neg (fun q => nle h q.2)]
theorem inR_1 {t : Nat → Nat} {n : Nat} {s2 : RS} {cnt u : Nat} {i x : Int32} (hu : u < cnt) (hc : cnt < 2 ^ 31) : inR t n s2 cnt (nI u) i x = if 0 ≤ i ∧ i < nI (xZ t n (itN (rTx t n) u s2)).1 then inV t n (xI t n (itN (rTx t n) u s2) i.toNatClampNeg) x else -1 := by
  unfold inR; rw [if_pos ⟨nI_pos' (by omega), nI_lt hu hc⟩, nI_clamp (by omega)]
theorem inR_in {t : Nat → Nat} {n : Nat} {s2 : RS} {cnt u i : Nat} {x : Int32} (hu : u < cnt) (hc : cnt < 2 ^ 31) (hi : i < (xZ t n (itN (rTx t n) u s2)).1) (hz : (xZ t n (itN (rTx t n) u s2)).1 < 2 ^ 31) : inR t n s2 cnt (nI u) (nI i) x = inV t n (xI t n (itN (rTx t n) u s2) i) x := by
  rw [inR_1 hu hc, if_pos ⟨nI_pos' (by omega), nI_lt hi hz⟩, nI_clamp (by omega)]
theorem outR_neg {t : Nat → Nat} {n : Nat} {s2 : RS} {cnt : Nat} {tt i x : Int32} (h : tt < 0) : outR t n s2 cnt tt i x = -1 := by unfold outR; rw [if_neg (fun q => nlt0 h q.1)]
theorem outR_big {t : Nat → Nat} {n : Nat} {s2 : RS} {cnt : Nat} {tt i x : Int32} (h : nI cnt ≤ tt) : outR t n s2 cnt tt i x = -1 := by unfold outR; rw [if_neg (fun q => nle h q.2)]
theorem outR_1 {t : Nat → Nat} {n : Nat} {s2 : RS} {cnt u : Nat} {i x : Int32} (hu : u < cnt) (hc : cnt < 2 ^ 31) : outR t n s2 cnt (nI u) i x = if 0 ≤ i ∧ i < nI (xY t n (itN (rTx t n) u s2)).1 then outV t n (xO t n (itN (rTx t n) u s2) i.toNatClampNeg) x else -1 := by
  unfold outR; rw [if_pos ⟨nI_pos' (by omega), nI_lt hu hc⟩, nI_clamp (by omega)]
theorem outR_in {t : Nat → Nat} {n : Nat} {s2 : RS} {cnt u i : Nat} {x : Int32} (hu : u < cnt) (hc : cnt < 2 ^ 31) (hi : i < (xY t n (itN (rTx t n) u s2)).1) (hz : (xY t n (itN (rTx t n) u s2)).1 < 2 ^ 31) : outR t n s2 cnt (nI u) (nI i) x = outV t n (xO t n (itN (rTx t n) u s2) i) x := by
  rw [outR_1 hu hc, if_pos ⟨nI_pos' (by omega), nI_lt hi hz⟩, nI_clamp (by omega)]
theorem in_st {t : Nat → Nat} {n : Nat} {s : RS} {e i : Nat} (h : rTx t n s = .inl e) (hi : i < (xZ t n s).1) : ∃ a q p, xI t n s i = .inl a ∧ (inZ t n (xI t n s i)).2 = .inl q ∧ itN (rIn t n) (i + 1) (xZ t n s).2 = .inl p ∧ a + 36 < q ∧ q + (inZ t n (xI t n s i)).1 + 4 = p ∧ p ≤ n := by
  obtain ⟨a, h1, -⟩ := rPass_in h
  obtain ⟨b, h2⟩ := itN_in (rOut_st t n) _ h1 0 (Nat.zero_le _)
  obtain ⟨c, h3, -⟩ := rSize_in h2
  obtain ⟨p, h4⟩ := itN_in (rIn_st t n) _ h3 (i + 1) (by omega)
  have h4' : rIn t n (xI t n s i) = .inl p := h4
  obtain ⟨a1, q, z1, z2, z3, z4, z5⟩ := rIn_in h4'
  exact ⟨a1, q, p, z1, z2, h4, z3, z4, z5⟩
theorem out_st {t : Nat → Nat} {n : Nat} {s : RS} {e i : Nat} (h : rTx t n s = .inl e) (hi : i < (xY t n s).1) : ∃ a q p, xO t n s i = .inl a ∧ (outZ t n (xO t n s i)).2 = .inl q ∧ itN (rOut t n) (i + 1) (xY t n s).2 = .inl p ∧ a + 8 < q ∧ q + (outZ t n (xO t n s i)).1 = p ∧ p ≤ n := by
  obtain ⟨a, h1, -⟩ := rPass_in h
  obtain ⟨p, h4⟩ := itN_in (rOut_st t n) _ h1 (i + 1) (by omega)
  have h4' : rOut t n (xO t n s i) = .inl p := h4
  obtain ⟨a1, q, z1, z2, z3, z4, z5⟩ := rOut_in h4'
  exact ⟨a1, q, p, z1, z2, h4, z3, z4, z5⟩
/-- a transaction's name -/
def nmA (t : Nat → Nat) (n : Nat) (s2 : RS) (u : Nat) : Nat → Nat := nm (fun j => t (pos (itN (rTx t n) u s2) + j)) (pos (itN (rTx t n) (u + 1) s2) - pos (itN (rTx t n) u s2))
def nmR (blk : Bool) (cnt : Nat) (A : Nat → Nat → Nat) (B R t : Nat → Nat) (tt k : Int32) : Int64 := if 0 ≤ k ∧ k < nI 4 then (if 0 ≤ tt ∧ tt < nI cnt then lN (be (A tt.toNatClampNeg) (8 * k.toNatClampNeg) 8) else if blk = true then (if tt = -1 then lN (be B (8 * k.toNatClampNeg) 8) else if tt = -2 then lN (be t (36 + 8 * k.toNatClampNeg) 8) else if tt = -3 then lN (be R (8 * k.toNatClampNeg) 8) else 0) else 0) else 0
theorem nmR_kneg {blk : Bool} {cnt : Nat} {A : Nat → Nat → Nat} {B R t : Nat → Nat} {tt k : Int32} (h : k < 0) : nmR blk cnt A B R t tt k = 0 := by unfold nmR; rw [if_neg (fun q => nlt0 h q.1)]
theorem nmR_kbig {blk : Bool} {cnt : Nat} {A : Nat → Nat → Nat} {B R t : Nat → Nat} {tt k : Int32} (h : nI 4 ≤ k) : nmR blk cnt A B R t tt k = 0 := by unfold nmR; rw [if_neg (fun q => nle h q.2)]
theorem nmR_k {blk : Bool} {cnt : Nat} {A : Nat → Nat → Nat} {B R t : Nat → Nat} {tt : Int32} {k : Nat} (h : k < 4) : nmR blk cnt A B R t tt (nI k) = (if 0 ≤ tt ∧ tt < nI cnt then lN (be (A tt.toNatClampNeg) (8 * k) 8) else if blk = true then (if tt = -1 then lN (be B (8 * k) 8) else if tt = -2 then lN (be t (36 + 8 * k) 8) else if tt = -3 then lN (be R (8 * k) 8) else 0) else 0) := by
  unfold nmR; rw [if_pos ⟨nI_pos' (by omega), nI_lt h (by decide)⟩, nI_clamp (by omega)]
theorem nmR_in {blk : Bool} {cnt : Nat} {A : Nat → Nat → Nat} {B R t : Nat → Nat} {u k : Nat} (h : k < 4) (hu : u < cnt) (hc : cnt < 2 ^ 31) : nmR blk cnt A B R t (nI u) (nI k) = lN (be (A u) (8 * k) 8) := by
  rw [nmR_k h, if_pos ⟨nI_pos' (by omega), nI_lt hu hc⟩, nI_clamp (by omega)]
