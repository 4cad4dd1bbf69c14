/-! the reference's object -/
abbrev mo (a : Nat → Nat) (sz le ib mn pl at_ wr wh db : Int32) : List Value := [.ref (a 0), .int sz, .ref (a 1), .int le, .int ib, .int mn, .int pl, .int at_, .int wr, .int wh, .ref (a 2), .ref (a 3), .ref (a 4), .ref (a 5), .ref (a 6), .ref (a 7), .ref (a 8), .ref (a 9), .ref (a 10), .ref (a 11), .ref (a 12), .ref (a 13), .ref (a 14), .int db, .ref (a 15), .ref (a 16), .ref (a 17), .ref (a 18), .ref (a 19), .ref (a 20), .ref (a 21), .ref (a 22)]
def rW (s : RS) (z : Int32) : Int32 := match s with
  | .inl _ => z
  | .inr e => nI e.2
theorem wzc_1 {V c : Nat} {K : Int64} (hK : K = lN c) (hV : V < 2 ^ 63) (hc : c < 2 ^ 63) (h : ¬ 0 ≤ lg_cmp (lN V) K) : V < c := by
  subst hK; rw [lg_ge] at h; exact (z_lt hV hc).mp (Classical.not_not.mp h)
theorem wzc_2 {V c : Nat} {K : Int64} (hK : K = lN c) (hV : V < 2 ^ 63) (hc : c < 2 ^ 63) (h : 0 ≤ lg_cmp (lN V) K) : c ≤ V := by
  subst hK; rw [lg_ge] at h; exact Nat.le_of_not_lt fun q => h ((z_lt hV hc).mpr q)
theorem wFit_lt2 {V : Nat} : wFit V < 2 ↔ V < 253 := by unfold wFit; split <;> (try split) <;> (try split) <;> omega
theorem wFit_lt4 {V : Nat} : wFit V < 4 ↔ V < 65536 := by unfold wFit; split <;> (try split) <;> (try split) <;> omega
theorem wFit_lt8 {V : Nat} : wFit V < 8 ↔ V < 4294967296 := by unfold wFit; split <;> (try split) <;> (try split) <;> omega
theorem z_big {V : Nat} (hV : V < 2 ^ 64) (h : lg_cmp (lN V) 0 < 0) : 2 ^ 63 ≤ V := (z_neg hV).mp ((lg_lt0 _ _).mp h)
