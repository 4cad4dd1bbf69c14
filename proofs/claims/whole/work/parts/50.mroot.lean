/-! the reference's constants: primes, limbs, roots -/
def isP (c : Nat) : Bool := (List.range 18).all (fun d => decide (d < 2 ∨ c < d * d ∨ ¬ c % d = 0))
theorem isP_t {c d : Nat} (h : ∀ e, 2 ≤ e → e < d → ¬ c % e = 0) (hc : c < d * d) : isP c = true := by
  unfold isP
  rw [List.all_eq_true]
  intro e _
  apply decide_eq_true
  by_cases h1 : e < 2
  · exact Or.inl h1
  · by_cases h2 : e < d
    · exact Or.inr (Or.inr (h e (by omega) h2))
    · exact Or.inr (Or.inl (Nat.lt_of_lt_of_le hc (Nat.mul_le_mul (by omega) (by omega))))
theorem isP_f {c d : Nat} (h2 : 2 ≤ d) (hd : d < 18) (h : d * d ≤ c) (hm : c % d = 0) : isP c = false := by
  apply Bool.eq_false_iff.mpr
  intro q
  unfold isP at q
  rw [List.all_eq_true] at q
  have := of_decide_eq_true (q d (List.mem_range.mpr hd))
  omega
def nx : Nat → Nat → Nat
  | c, 0 => c
  | c, k + 1 => if isP c = true then c else nx (c + 1) k
theorem nx_t {c k : Nat} (h : isP c = true) : nx c k = c := by
  cases k with
  | zero => rfl
  | succ k => exact if_pos h
theorem nx_f {c k : Nat} (h : ¬ isP c = true) : nx c (k + 1) = nx (c + 1) k := if_neg h
def pP : Nat → Nat
  | 0 => 1
  | i + 1 => nx (pP i + 1) 15
/-- a number by its limbs -/
def Vl (x : Nat → Nat) : Nat → Nat
  | 0 => 0
  | n + 1 => Vl x n + x n * 65536 ^ n
theorem Vl_cg {x y : Nat → Nat} : ∀ n, (∀ j, j < n → x j = y j) → Vl x n = Vl y n
  | 0, _ => rfl
  | n + 1, h => by
    show Vl x n + x n * 65536 ^ n = Vl y n + y n * 65536 ^ n
    rw [Vl_cg n (fun j hj => h j (by omega)), h n (by omega)]
theorem Vl_up_ge {x : Nat → Nat} {n i c : Nat} (h : n ≤ i) : Vl (va_up x i c) n = Vl x n := Vl_cg n (fun j hj => va_up_ne _ _ (by omega))
theorem Vl_add {x : Nat → Nat} {a i : Nat} : ∀ n, i < n → Vl (va_up x i (x i + a)) n = Vl x n + a * 65536 ^ i
  | 0, h => absurd h (by omega)
  | n + 1, h => by
    show Vl (va_up x i (x i + a)) n + va_up x i (x i + a) n * 65536 ^ n = Vl x n + x n * 65536 ^ n + a * 65536 ^ i
    by_cases e : i = n
    · subst e
      rw [Vl_up_ge (Nat.le_refl _), va_up_self, Nat.add_mul]; omega
    · rw [Vl_add n (by omega), va_up_ne _ _ (by omega)]; omega
theorem Vl_lt {x : Nat → Nat} : ∀ n, (∀ j, j < n → x j < 65536) → Vl x n < 65536 ^ n
  | 0, _ => Nat.one_pos
  | n + 1, h => by
    have h1 := Vl_lt n (fun j hj => h j (by omega))
    have h2 := h n (by omega)
    show Vl x n + x n * 65536 ^ n < 65536 ^ (n + 1)
    have h3 : (x n + 1) * 65536 ^ n ≤ 65536 * 65536 ^ n := Nat.mul_le_mul_right _ (by omega)
    rw [Nat.add_mul, Nat.one_mul] at h3
    rw [Nat.pow_succ, Nat.mul_comm (65536 ^ n)]
    omega
theorem Vl_z {x : Nat → Nat} : ∀ n, (∀ j, j < n → x j = 0) → Vl x n = 0
  | 0, _ => rfl
  | n + 1, h => by
    show Vl x n + x n * 65536 ^ n = 0
    rw [Vl_z n (fun j hj => h j (by omega)), h n (by omega)]; omega
theorem Vl_one {x : Nat → Nat} (h0 : x 0 = 1) (h : ∀ j, j < 10 → 0 < j → x j = 0) : Vl x 10 = 1 := by
  have e : Vl x 10 = Vl (fun j => if j = 0 then 1 else 0) 10 := Vl_cg 10 (fun j hj => by
    by_cases q : j = 0
    · subst q; exact h0
    · rw [h j hj (by omega)]; exact (if_neg q).symm)
  rw [e]; rfl
theorem Vl_top {x : Nat → Nat} (h : Vl x 10 < 65536 ^ 8) : x 8 = 0 ∧ x 9 = 0 := by
  have e : Vl x 10 = Vl x 8 + x 8 * 65536 ^ 8 + x 9 * 65536 ^ 9 := rfl
  rw [e] at h
  refine ⟨?_, ?_⟩
  · rcases Nat.eq_zero_or_pos (x 8) with q | q
    · exact q
    · have := Nat.mul_le_mul_right (65536 ^ 8) q; omega
  · rcases Nat.eq_zero_or_pos (x 9) with q | q
    · exact q
    · have := Nat.mul_le_mul_right (65536 ^ 9) q
      have h2 : (65536 : Nat) ^ 8 ≤ 65536 ^ 9 := Nat.pow_le_pow_right (by decide) (by decide)
      omega
/-- a limb's product comes in -/
theorem cv_s {x y : Nat → Nat} {cv i j : Nat} (h : Vl y 10 = Vl x i * cv + x i * 65536 ^ i * (cv % 65536 ^ j)) (hij : i + j < 10) : Vl (va_up y (i + j) (y (i + j) + x i * (cv / 65536 ^ j % 65536))) 10 = Vl x i * cv + x i * 65536 ^ i * (cv % 65536 ^ (j + 1)) := by
  rw [Vl_add 10 hij, h, Nat.mod_pow_succ, Nat.mul_add, Nat.pow_add, Nat.add_assoc]
  congr 2
  rw [Nat.mul_assoc (x i), Nat.mul_assoc (x i), Nat.mul_comm (cv / 65536 ^ j % 65536) (65536 ^ i * 65536 ^ j), Nat.mul_assoc (65536 ^ i)]
theorem cv_end {x y : Nat → Nat} {cv i j : Nat} (hc : cv < 65536 ^ 3) (h : Vl y 10 = Vl x i * cv + x i * 65536 ^ i * (cv % 65536 ^ j)) (hj : j = 3 ∨ x i = 0) : Vl y 10 = Vl x (i + 1) * cv + x (i + 1) * 65536 ^ (i + 1) * (cv % 65536 ^ 0) := by
  rw [Nat.pow_zero, Nat.mod_one, Nat.mul_zero, Nat.add_zero, h]
  show _ = (Vl x i + x i * 65536 ^ i) * cv
  rw [Nat.add_mul]
  rcases hj with rfl | hj
  · rw [Nat.mod_eq_of_lt hc]
  · rw [hj, Nat.zero_mul, Nat.zero_mul, Nat.zero_mul]
theorem cr_s {x y : Nat → Nat} {cr i : Nat} (h : Vl x i + cr * 65536 ^ i = Vl y i) : Vl (va_up x i ((cr + y i) % 65536)) (i + 1) + (cr + y i) / 65536 * 65536 ^ (i + 1) = Vl y (i + 1) := by
  show Vl (va_up x i ((cr + y i) % 65536)) i + va_up x i ((cr + y i) % 65536) i * 65536 ^ i + _ = Vl y i + y i * 65536 ^ i
  rw [Vl_up_ge (Nat.le_refl _), va_up_self, ← h, Nat.pow_succ]
  have e := Nat.div_add_mod (cr + y i) 65536
  have e2 : (65536 * ((cr + y i) / 65536) + (cr + y i) % 65536) * 65536 ^ i = (cr + y i) * 65536 ^ i := by rw [e]
  rw [Nat.add_mul, Nat.add_mul] at e2
  rw [Nat.mul_comm (65536 ^ i) 65536, ← Nat.mul_assoc, Nat.mul_comm ((cr + y i) / 65536) 65536]
  omega
theorem Vl_lt2 {x t : Nat → Nat} {i : Nat} (hx : ∀ j, j < i → x j < 65536) (h : x i < t i) : ∀ n, i < n → (∀ j, i < j → j < n → x j = t j) → Vl x n < Vl t n
  | 0, hn, _ => absurd hn (by omega)
  | n + 1, hn, he => by
    show Vl x n + x n * 65536 ^ n < Vl t n + t n * 65536 ^ n
    by_cases e : i = n
    · subst e
      have h1 := Vl_lt i hx
      have h3 : (x i + 1) * 65536 ^ i ≤ t i * 65536 ^ i := Nat.mul_le_mul_right _ (by omega)
      rw [Nat.add_mul, Nat.one_mul] at h3
      omega
    · rw [he n (by omega) (by omega)]
      have := Vl_lt2 hx h n (by omega) (fun j h1 h2 => he j h1 (by omega))
      omega
def tL (p k : Nat) (j : Nat) : Nat := if j = 2 * k then p else 0
theorem tL_v {p k : Nat} (hk : 2 * k < 10) : Vl (tL p k) 10 = p * 65536 ^ (2 * k) := by
  have e : tL p k = va_up (fun _ => 0) (2 * k) ((fun _ => 0 : Nat → Nat) (2 * k) + p) := by
    funext j; unfold tL va_up; simp only [Nat.zero_add]
  rw [e, Vl_add 10 hk, Vl_z 10 (fun _ _ => rfl), Nat.zero_add]
def ft (cv p k : Nat) : Bool := decide (cv ^ k ≤ p * 65536 ^ (2 * k))
theorem ft_lt {x : Nat → Nat} {cv p k i : Nat} (hk : 2 * k < 10) (hv : Vl x 10 = cv ^ k) (hx : ∀ j, j < 10 → x j < 65536) (hi : i < 10) (he : ∀ j, i < j → j < 10 → x j = tL p k j) (h : x i < tL p k i) : ft cv p k = true := by
  have := Vl_lt2 (fun j hj => hx j (by omega)) h 10 hi he
  rw [hv, tL_v hk] at this
  exact decide_eq_true (by omega)
theorem ft_gt {x : Nat → Nat} {cv p k i : Nat} (hp : p < 65536) (hk : 2 * k < 10) (hv : Vl x 10 = cv ^ k) (hi : i < 10) (he : ∀ j, i < j → j < 10 → x j = tL p k j) (h : tL p k i < x i) : ft cv p k = false := by
  have hT : ∀ j, tL p k j < 65536 := by intro j; unfold tL; split <;> omega
  have := Vl_lt2 (x := tL p k) (t := x) (fun j hj => hT j) h 10 hi (fun j h1 h2 => (he j h1 h2).symm)
  rw [hv, tL_v hk] at this
  exact decide_eq_false (by omega)
theorem ft_eq {x : Nat → Nat} {cv p k : Nat} (hk : 2 * k < 10) (hv : Vl x 10 = cv ^ k) (he : ∀ j, j < 10 → x j = tL p k j) : ft cv p k = true := by
  have := Vl_cg 10 he
  rw [hv, tL_v hk] at this
  exact decide_eq_true (by omega)
theorem pf_shr' {a d : Nat} {D : Int64} (hD : (D.toBitVec.smod 64).toNat = d) (h : a < 2 ^ 62) : lN a >>> D = lN (a / 2 ^ d) := by
  have hb : (BitVec.ofNat 64 a).toNat = a := by rw [BitVec.toNat_ofNat, Nat.mod_eq_of_lt (by omega)]
  apply wb_inj
  rw [Int64.toBitVec_shiftRight, wb_tb, wb_tb, BitVec.sshiftRight_eq', hD, BitVec.sshiftRight_eq_of_msb_false (by rw [BitVec.msb_eq_false_iff_two_mul_lt, hb]; omega)]
  apply BitVec.eq_of_toNat_eq
  rw [BitVec.toNat_ushiftRight, hb, BitVec.toNat_ofNat, Nat.shiftRight_eq_div_pow, Nat.mod_eq_of_lt (Nat.lt_of_le_of_lt (Nat.div_le_self _ _) (by omega))]
theorem dg_v {cv j : Nat} (hc : cv < 2 ^ 62) (hj : j < 3) : (lN cv >>> ((nI (16 * j)).toInt64 &&& 63)) &&& lN 65535 = lN (cv / 65536 ^ j % 65536) := by
  rw [wb_c (16 * j) (by omega), pf_shr' (d := 16 * j) (by rw [wb_tb, wb_sm _ (by omega), BitVec.toNat_ofNat, Nat.mod_eq_of_lt (by omega)]) hc]
  have e : (2 : Nat) ^ (16 * j) = 65536 ^ j := by rw [Nat.pow_mul]
  rw [e]
  exact g_mask (s := 16) (p := 65536) rfl (by decide) (Nat.lt_of_le_of_lt (Nat.div_le_self _ _) (by omega))
def rtB (p k : Nat) : Nat → Nat → Nat
  | 0, r => r
  | b + 1, r => rtB p k b (if ft (r + 2 ^ b) p k = true then r + 2 ^ b else r)
theorem pw_lt {c m : Nat} (hc : c < 2 ^ 38) (hm : m ≤ 3) : c ^ m < 65536 ^ 8 := by
  have h1 : c ^ m ≤ (2 ^ 38) ^ m := Nat.pow_le_pow_left (by omega) m
  have h2 : ((2 : Nat) ^ 38) ^ m ≤ (2 ^ 38) ^ 3 := Nat.pow_le_pow_right (by decide) hm
  have h3 : ((2 : Nat) ^ 38) ^ 3 < 65536 ^ 8 := by decide
  omega
theorem yb_1 {y a M n : Nat} (h : y ≤ n * M) (ha : a ≤ M) : y + a ≤ (n + 1) * M := by rw [Nat.add_mul, Nat.one_mul]; omega
theorem yb_2 {y M n m : Nat} (h : y ≤ n * M) (hn : n ≤ m) : y ≤ m * M := Nat.le_trans h (Nat.mul_le_mul_right M hn)
theorem yb_3 {i j : Nat} (h : j ≤ 3) : 3 * i + j ≤ 3 * (i + 1) := by omega
theorem yb_u {Y : Nat → Nat} {a M n x : Nat} (hY : ∀ e, e < 10 → Y e ≤ n * M) (hx : x < 10) (ha : a ≤ M) : ∀ e, e < 10 → va_up Y x (Y x + a) e ≤ (n + 1) * M := fun e he =>
  if q : e = x then (by rw [q, va_up_self]; exact yb_1 (hY x hx) ha) else (by rw [va_up_ne _ _ q]; exact yb_2 (hY e he) (Nat.le_succ n))
theorem pw_s (c m : Nat) : c ^ m * c = c ^ (m + 1) := rfl
