/-! amounts of a binary format as whole numbers: fb bits of fraction, bias bs -/
def nE (fb a : Nat) : Nat := if a < 2 ^ fb then 1 else a / 2 ^ fb
def nG (fb a : Nat) : Nat := if a < 2 ^ fb then a else 2 ^ fb + a % 2 ^ fb
def nX (fb S E : Nat) : Nat := if S.log2 + E ≤ fb + 1 then 1 else S.log2 + E - fb
def nO (fb bs S E : Nat) : Nat := if 2 * bs < nX fb S E then (2 * bs + 1) * 2 ^ fb else (nX fb S E - 1) * 2 ^ fb + FP.Core.nearest (S * 2 ^ (E - nX fb S E)) (2 ^ (nX fb S E - E))
def nF (f : FP.Core.Fmt) (fb bs : Nat) : Prop := f.p = fb + 1 ∧ f.emax = bs ∧ f.exps = 2 * bs + 2 ∧ 1 ≤ bs ∧ 1 ≤ fb
theorem nF32 : nF FP.Core.b32 23 127 := by decide
theorem nF64 : nF FP.Core.b64 52 1023 := by decide
theorem near_le {n d k : Nat} (hd : 0 < d) (h : n < k * d) : FP.Core.nearest n d ≤ k := by
  have h1 : n / d < k := (Nat.div_lt_iff_lt_mul hd).mpr h
  unfold FP.Core.nearest
  split
  · omega
  · split
    · omega
    · omega
theorem near_ge {n d k : Nat} (hd : 0 < d) (h : k * d ≤ n) : k ≤ FP.Core.nearest n d := by
  have h1 : k ≤ n / d := (Nat.le_div_iff_mul_le hd).mpr h
  unfold FP.Core.nearest
  split
  · omega
  · split
    · omega
    · omega
theorem nX_pos (fb S E : Nat) : 1 ≤ nX fb S E := by
  unfold nX
  split <;> omega
theorem nX_lt {fb S E : Nat} (hE : 1 ≤ E) : S * 2 ^ (E - nX fb S E) < (2 * 2 ^ fb) * 2 ^ (nX fb S E - E) := by
  have h1 : S < 2 ^ (S.log2 + 1) := Nat.lt_log2_self
  have h2 : S.log2 + E ≤ fb + nX fb S E := by unfold nX; split <;> omega
  have h3 : 2 * 2 ^ fb = 2 ^ (fb + 1) := by rw [Nat.pow_succ, Nat.mul_comm]
  rw [h3, ← Nat.pow_add]
  calc S * 2 ^ (E - nX fb S E) < 2 ^ (S.log2 + 1) * 2 ^ (E - nX fb S E) := Nat.mul_lt_mul_of_pos_right h1 (Nat.two_pow_pos _)
    _ = 2 ^ (S.log2 + 1 + (E - nX fb S E)) := (Nat.pow_add _ _ _).symm
    _ ≤ 2 ^ (fb + 1 + (nX fb S E - E)) := Nat.pow_le_pow_right (by decide) (by omega)
theorem nX_ge {fb S E : Nat} (hS : S ≠ 0) (hE : 1 ≤ E) (hX : nX fb S E ≠ 1) : 2 ^ fb * 2 ^ (nX fb S E - E) ≤ S * 2 ^ (E - nX fb S E) := by
  have h1 : 2 ^ S.log2 ≤ S := Nat.log2_self_le hS
  have h2 : S.log2 + E = fb + nX fb S E := by
    unfold nX at hX ⊢
    split
    · rename_i h; rw [if_pos h] at hX; exact absurd rfl hX
    · omega
  rw [← Nat.pow_add]
  calc 2 ^ (fb + (nX fb S E - E)) ≤ 2 ^ (S.log2 + (E - nX fb S E)) := Nat.pow_le_pow_right (by decide) (by omega)
    _ = 2 ^ S.log2 * 2 ^ (E - nX fb S E) := Nat.pow_add _ _ _
    _ ≤ S * 2 ^ (E - nX fb S E) := Nat.mul_le_mul_right _ h1
theorem lead1 {S : Nat} (hS : S ≠ 0) : FP.Core.leading S 1 = (S.log2 : Int) := by
  have h0 : (1 : Nat).log2 = 0 := by decide
  have h1 : 2 ^ S.log2 ≤ S := Nat.log2_self_le hS
  unfold FP.Core.leading
  simp only [h0, Int.natCast_zero, Int.sub_zero, Int.toNat_natCast, Nat.one_mul]
  rw [if_pos]
  have h2 : (-(S.log2 : Int)).toNat = 0 := by omega
  rw [h2, Nat.pow_zero, Nat.mul_one]
  exact h1
theorem enc_round {f : FP.Core.Fmt} {fb bs S E : Nat} (hf : nF f fb bs) (hS : S ≠ 0) (hE : 1 ≤ E) : FP.Core.encode f (FP.Core.round f (.fin false S (f.qmin + ((E : Int) - 1)))) = nO fb bs S E := by
  obtain ⟨hp, hm, hx, hb, hb1⟩ := hf
  have ht : f.tails = 2 ^ fb := by unfold FP.Core.Fmt.tails; rw [hp]; rfl
  have hX1 := nX_pos fb S E
  have hq : FP.Core.quantum f S 1 (f.qmin + ((E : Int) - 1)) = f.qmin + ((nX fb S E : Int) - 1) := by
    unfold FP.Core.quantum
    rw [lead1 hS, hp]
    unfold nX
    by_cases h : S.log2 + E ≤ fb + 1
    · rw [if_pos h, Int.max_eq_left (by omega)]; omega
    · rw [if_neg h, Int.max_eq_right (by omega)]; omega
  have hqx : f.qmax = f.qmin + (2 * (bs : Int) - 1) := by
    unfold FP.Core.Fmt.qmax FP.Core.Fmt.qmin; rw [hm]; omega
  simp only [FP.Core.round, FP.Core.roundRatio, if_neg hS, FP.Core.roundAt, hq, FP.Core.unitsNum, FP.Core.unitsDen, Nat.one_mul]
  have e1 : (f.qmin + ((E : Int) - 1) - (f.qmin + ((nX fb S E : Int) - 1))).toNat = E - nX fb S E := by omega
  have e2 : (f.qmin + ((nX fb S E : Int) - 1) - (f.qmin + ((E : Int) - 1))).toNat = nX fb S E - E := by omega
  rw [e1, e2]
  have hlt := nX_lt (fb := fb) (S := S) hE
  have hge := nX_ge (fb := fb) hS hE
  have hc2 : FP.Core.nearest (S * 2 ^ (E - nX fb S E)) (2 ^ (nX fb S E - E)) ≤ 2 * 2 ^ fb := near_le (Nat.two_pow_pos _) hlt
  have hc1 : nX fb S E ≠ 1 → 2 ^ fb ≤ FP.Core.nearest (S * 2 ^ (E - nX fb S E)) (2 ^ (nX fb S E - E)) := fun h => near_ge (Nat.two_pow_pos _) (hge h)
  unfold nO
  generalize hc : FP.Core.nearest (S * 2 ^ (E - nX fb S E)) (2 ^ (nX fb S E - E)) = c at hc1 hc2 ⊢
  generalize hXX : nX fb S E = X at hX1 hc1 ⊢
  have h2p : 2 ^ f.p = 2 * 2 ^ fb := by rw [hp, Nat.pow_succ, Nat.mul_comm]
  have hpos : 0 < 2 ^ fb := Nat.two_pow_pos _
  have hinf : FP.Core.encode f (.inf false) = (2 * bs + 1) * 2 ^ fb := by
    simp only [FP.Core.encode, FP.Core.assemble, ht, hx, Bool.toNat_false, Nat.zero_mul, Nat.zero_add, Nat.add_zero]
    congr 1
  unfold FP.Core.settle
  rw [h2p]
  by_cases hlt2 : c < 2 * 2 ^ fb
  · rw [if_pos hlt2]
    unfold FP.Core.bound
    by_cases hov : 2 * bs < X
    · rw [if_neg (by omega), if_pos hov, hinf]
    · rw [if_pos (by omega), if_neg hov]
      simp only [FP.Core.encode, ht]
      by_cases hct : c < 2 ^ fb
      · rw [if_pos hct]
        have : X = 1 := Classical.byContradiction fun h => absurd (hc1 h) (by omega)
        subst this
        simp only [FP.Core.assemble, ht, Bool.toNat_false, Nat.zero_mul, Nat.zero_add, Nat.sub_self]
      · rw [if_neg hct]
        have e3 : (f.qmin + ((X : Int) - 1) - f.qmin).toNat + 1 = X := by omega
        rw [e3]
        simp only [FP.Core.assemble, ht, Bool.toNat_false, Nat.zero_mul, Nat.zero_add]
        have e4 : X * 2 ^ fb = (X - 1) * 2 ^ fb + 2 ^ fb := by
          rw [← Nat.succ_mul]; congr 1; omega
        rw [e4]; omega
  · rw [if_neg hlt2]
    have hce : c = 2 * 2 ^ fb := by omega
    unfold FP.Core.bound
    by_cases hov : 2 * bs < X
    · rw [if_neg (by omega), if_pos hov, hinf]
    · rw [if_neg hov]
      by_cases hov2 : X = 2 * bs
      · rw [if_neg (by omega), hinf, hce, hov2, ← Nat.add_mul]
        congr 1; omega
      · rw [if_pos (by omega)]
        simp only [FP.Core.encode, ht, Nat.lt_irrefl, if_false]
        have e3 : (f.qmin + ((X : Int) - 1) + 1 - f.qmin).toNat + 1 = X + 1 := by omega
        rw [e3]
        simp only [FP.Core.assemble, ht, Bool.toNat_false, Nat.zero_mul, Nat.zero_add, Nat.sub_self, Nat.add_zero]
        rw [hce, ← Nat.add_mul]
        congr 1; omega
/-- what an amount stands for -/
theorem dec_fin {f : FP.Core.Fmt} {fb bs a : Nat} (hf : nF f fb bs) (ha : a < (2 * bs + 1) * 2 ^ fb) : FP.Core.decode f a = .fin false (nG fb a) (f.qmin + ((nE fb a : Int) - 1)) := by
  obtain ⟨hp, hm, hx, hb, hb1⟩ := hf
  have ht : f.tails = 2 ^ fb := by unfold FP.Core.Fmt.tails; rw [hp]; rfl
  have hpos : 0 < 2 ^ fb := Nat.two_pow_pos _
  have hd : a / 2 ^ fb < 2 * bs + 1 := (Nat.div_lt_iff_lt_mul hpos).mpr ha
  have hE : FP.Core.fieldE f a = a / 2 ^ fb := by
    unfold FP.Core.fieldE; rw [ht, hx]; exact Nat.mod_eq_of_lt (by omega)
  have hT : FP.Core.fieldT f a = a % 2 ^ fb := by unfold FP.Core.fieldT; rw [ht]
  have hS : FP.Core.fieldS f a = false := by
    unfold FP.Core.fieldS; rw [ht, hx, Nat.div_eq_of_lt (show a / 2 ^ fb < 2 * bs + 2 by omega)]; rfl
  unfold FP.Core.decode nG nE
  rw [hE, hT, hS, hx, ht, if_neg (by omega)]
  by_cases h : a < 2 ^ fb
  · rw [if_pos h, if_pos h, Nat.div_eq_of_lt h, if_pos rfl, Nat.mod_eq_of_lt h]
    congr 1; omega
  · have h2 : a / 2 ^ fb ≠ 0 := by
      have := Nat.div_pos (Nat.not_lt.mp h) hpos; omega
    rw [if_neg h, if_neg h, if_neg h2]
theorem dec_inf {f : FP.Core.Fmt} {fb bs : Nat} (hf : nF f fb bs) : FP.Core.decode f ((2 * bs + 1) * 2 ^ fb) = .inf false := by
  obtain ⟨hp, hm, hx, hb, hb1⟩ := hf
  have ht : f.tails = 2 ^ fb := by unfold FP.Core.Fmt.tails; rw [hp]; rfl
  have hpos : 0 < 2 ^ fb := Nat.two_pow_pos _
  have hE : FP.Core.fieldE f ((2 * bs + 1) * 2 ^ fb) = 2 * bs + 1 := by
    unfold FP.Core.fieldE; rw [ht, hx, Nat.mul_div_cancel _ hpos]; exact Nat.mod_eq_of_lt (by omega)
  have hT : FP.Core.fieldT f ((2 * bs + 1) * 2 ^ fb) = 0 := by unfold FP.Core.fieldT; rw [ht]; exact Nat.mul_mod_left _ _
  have hS : FP.Core.fieldS f ((2 * bs + 1) * 2 ^ fb) = false := by
    unfold FP.Core.fieldS; rw [ht, hx, Nat.mul_div_cancel _ hpos, Nat.div_eq_of_lt (show 2 * bs + 1 < 2 * bs + 2 by omega)]; rfl
  unfold FP.Core.decode
  rw [hE, hT, hS, hx, if_pos (by omega), if_pos rfl]
theorem nE_pos (fb a : Nat) : 1 ≤ nE fb a := by
  unfold nE
  split
  · omega
  · rename_i h
    exact Nat.div_pos (Nat.not_lt.mp h) (Nat.two_pow_pos _)
theorem nE_mono {fb a b : Nat} (h : b ≤ a) : nE fb b ≤ nE fb a := by
  unfold nE
  have hpos : 0 < 2 ^ fb := Nat.two_pow_pos _
  by_cases hb : b < 2 ^ fb
  · rw [if_pos hb]
    have := nE_pos fb a
    unfold nE at this
    exact this
  · rw [if_neg hb, if_neg (by omega)]
    exact Nat.div_le_div_right h
/-- the sum of two amounts, as the machine has it -/
def nSum (fb bs a b : Nat) : Nat := if nG fb a * 2 ^ (nE fb a - nE fb b) + nG fb b = 0 then 0 else nO fb bs (nG fb a * 2 ^ (nE fb a - nE fb b) + nG fb b) (nE fb b)
theorem fp_add {f : FP.Core.Fmt} {fb bs a b : Nat} (hf : nF f fb bs) (hab : b ≤ a) (ha : a < (2 * bs + 1) * 2 ^ fb) :
    FP.Core.encode f (FP.Core.round f (FP.Core.exactSum (FP.Core.decode f a) (FP.Core.decode f b))) = nSum fb bs a b := by
  have hm := nE_mono (fb := fb) hab
  have hp := nE_pos fb b
  rw [dec_fin hf ha, dec_fin hf (Nat.lt_of_le_of_lt hab ha)]
  have hmin : min (f.qmin + ((nE fb a : Int) - 1)) (f.qmin + ((nE fb b : Int) - 1)) = f.qmin + ((nE fb b : Int) - 1) := Int.min_eq_right (by omega)
  simp only [FP.Core.exactSum, hmin]
  have e1 : (f.qmin + ((nE fb a : Int) - 1) - (f.qmin + ((nE fb b : Int) - 1))).toNat = nE fb a - nE fb b := by omega
  have e2 : (f.qmin + ((nE fb b : Int) - 1) - (f.qmin + ((nE fb b : Int) - 1))).toNat = 0 := by omega
  have hv : FP.Core.sumUnits false (nG fb a) (f.qmin + ((nE fb a : Int) - 1)) false (nG fb b) (f.qmin + ((nE fb b : Int) - 1)) (f.qmin + ((nE fb b : Int) - 1)) = ((nG fb a * 2 ^ (nE fb a - nE fb b) + nG fb b : Nat) : Int) := by
    simp only [FP.Core.sumUnits, FP.Core.signed, FP.Core.inUnits, e1, e2, Nat.pow_zero, Nat.mul_one, Bool.false_eq_true, if_false]
    omega
  rw [hv]
  have hs : FP.Core.sumSign false false ((nG fb a * 2 ^ (nE fb a - nE fb b) + nG fb b : Nat) : Int) = false := by
    unfold FP.Core.sumSign
    split
    · rfl
    · simp
  rw [hs, Int.natAbs_natCast]
  unfold nSum
  by_cases h0 : nG fb a * 2 ^ (nE fb a - nE fb b) + nG fb b = 0
  · rw [if_pos h0, h0]
    obtain ⟨hp', hm', hx', hb', hb1'⟩ := hf
    have ht : f.tails = 2 ^ fb := by unfold FP.Core.Fmt.tails; rw [hp']; rfl
    simp only [FP.Core.round, FP.Core.roundRatio, if_true, FP.Core.encode, ht, if_pos (Nat.two_pow_pos fb), FP.Core.assemble, Bool.toNat_false, Nat.zero_mul, Nat.zero_add]
  · rw [if_neg h0]
    exact enc_round hf h0 hp
/-- shifted down; what is lost leaves a 1 in the last place -/
def nSh (n k : Nat) : Nat := if n % 2 ^ k = 0 then n / 2 ^ k else 2 * (n / 2 ^ k / 2) + 1
theorem near_congr {n1 d1 n2 d2 : Nat} (hq : n1 / d1 = n2 / d2) (h1 : 2 * (n1 % d1) < d1 ↔ 2 * (n2 % d2) < d2) (h2 : d1 < 2 * (n1 % d1) ↔ d2 < 2 * (n2 % d2)) : FP.Core.nearest n1 d1 = FP.Core.nearest n2 d2 := by
  unfold FP.Core.nearest
  rw [hq]
  by_cases a : 2 * (n1 % d1) < d1
  · rw [if_pos a, if_pos (h1.mp a)]
  · rw [if_neg a, if_neg (fun z => a (h1.mpr z))]
    by_cases b : d1 < 2 * (n1 % d1)
    · rw [if_pos b, if_pos (h2.mp b)]
    · rw [if_neg b, if_neg (fun z => b (h2.mpr z))]
theorem near_scale {n d c : Nat} (hc : 0 < c) : FP.Core.nearest (c * n) (c * d) = FP.Core.nearest n d := by
  refine near_congr (Nat.mul_div_mul_left _ _ hc) ?_ ?_
  · rw [Nat.mul_mod_mul_left]
    rw [show 2 * (c * (n % d)) = c * (2 * (n % d)) by rw [Nat.mul_left_comm]]
    exact Nat.mul_lt_mul_left hc
  · rw [Nat.mul_mod_mul_left]
    rw [show 2 * (c * (n % d)) = c * (2 * (n % d)) by rw [Nat.mul_left_comm]]
    exact Nat.mul_lt_mul_left hc
theorem nSh_near {n k j : Nat} (hj : 2 ≤ j) : FP.Core.nearest (nSh n k) (2 ^ j) = FP.Core.nearest n (2 ^ k * 2 ^ j) := by
  obtain ⟨h, hh, hpos⟩ : ∃ h, 2 ^ j = 4 * h ∧ 0 < h := by
    refine ⟨2 ^ (j - 2), ?_, Nat.two_pow_pos _⟩
    rw [show (4 : Nat) = 2 ^ 2 by rfl, ← Nat.pow_add]
    congr 1; omega
  rw [hh]
  have hd : 0 < 2 ^ k := Nat.two_pow_pos _
  generalize 2 ^ k = d at hd ⊢
  have hmod : n % (d * (4 * h)) = n % d + d * (n / d % (4 * h)) := Nat.mod_mul
  have hdiv : n / (d * (4 * h)) = n / d / (4 * h) := (Nat.div_div_eq_div_mul _ _ _).symm
  have hr : n % d < d := Nat.mod_lt _ hd
  unfold nSh
  generalize hq : n / d = q at hmod hdiv
  generalize n % d = r at hmod hr ⊢
  refine near_congr ?_ ?_ ?_
  · rw [hdiv]
    split
    · rfl
    · rw [show 4 * h = 2 * (2 * h) by omega, ← Nat.div_div_eq_div_mul, ← Nat.div_div_eq_div_mul]
      congr 1; omega
  · rw [hmod]
    split
    · rename_i h0
      rw [h0, Nat.zero_add, show 2 * (d * (q % (4 * h))) = d * (2 * (q % (4 * h))) by rw [Nat.mul_left_comm]]
      exact (Nat.mul_lt_mul_left hd).symm
    · rename_i h0
      have hs : q % (4 * h) = 2 * (q / 2 % (2 * h)) + q % 2 := by
        rw [show 4 * h = 2 * (2 * h) by omega, Nat.mod_mul]; omega
      have hm : (2 * (q / 2) + 1) % (4 * h) = 2 * (q / 2 % (2 * h)) + 1 := by
        rw [show 4 * h = 2 * (2 * h) by omega, Nat.mod_mul]
        have a1 : (2 * (q / 2) + 1) % 2 = 1 := by omega
        have a2 : (2 * (q / 2) + 1) / 2 = q / 2 := by omega
        rw [a1, a2]; omega
      rw [hm, hs]
      generalize q / 2 % (2 * h) = t
      have h2 : q % 2 < 2 := Nat.mod_lt _ (by decide)
      generalize q % 2 = ε at h2
      constructor
      · intro g
        have g1 : 2 * t + ε + 1 ≤ 2 * h := by omega
        have g2 : d * (2 * t + ε + 1) ≤ d * (2 * h) := Nat.mul_le_mul_left _ g1
        rw [Nat.mul_add, Nat.mul_one] at g2
        rw [show d * (4 * h) = 2 * (d * (2 * h)) by rw [Nat.mul_left_comm]; congr 1; omega]
        omega
      · intro g
        rw [show d * (4 * h) = 2 * (d * (2 * h)) by rw [Nat.mul_left_comm]; congr 1; omega] at g
        have g1 : ¬ 2 * h ≤ 2 * t + ε := by
          intro z
          have := Nat.mul_le_mul_left d z
          omega
        omega
  · rw [hmod]
    split
    · rename_i h0
      rw [h0, Nat.zero_add, show 2 * (d * (q % (4 * h))) = d * (2 * (q % (4 * h))) by rw [Nat.mul_left_comm]]
      exact (Nat.mul_lt_mul_left hd).symm
    · rename_i h0
      have hs : q % (4 * h) = 2 * (q / 2 % (2 * h)) + q % 2 := by
        rw [show 4 * h = 2 * (2 * h) by omega, Nat.mod_mul]; omega
      have hm : (2 * (q / 2) + 1) % (4 * h) = 2 * (q / 2 % (2 * h)) + 1 := by
        rw [show 4 * h = 2 * (2 * h) by omega, Nat.mod_mul]
        have a1 : (2 * (q / 2) + 1) % 2 = 1 := by omega
        have a2 : (2 * (q / 2) + 1) / 2 = q / 2 := by omega
        rw [a1, a2]; omega
      rw [hm, hs]
      generalize q / 2 % (2 * h) = t
      have h2 : q % 2 < 2 := Nat.mod_lt _ (by decide)
      generalize q % 2 = ε at h2
      constructor
      · intro g
        have g1 : 2 * h ≤ 2 * t + ε := by omega
        have g2 : d * (2 * h) ≤ d * (2 * t + ε) := Nat.mul_le_mul_left _ g1
        rw [show d * (4 * h) = 2 * (d * (2 * h)) by rw [Nat.mul_left_comm]; congr 1; omega]
        omega
      · intro g
        rw [show d * (4 * h) = 2 * (d * (2 * h)) by rw [Nat.mul_left_comm]; congr 1; omega] at g
        have g1 : ¬ 2 * t + ε + 1 ≤ 2 * h := by
          intro z
          have := Nat.mul_le_mul_left d z
          rw [Nat.mul_add, Nat.mul_one] at this
          omega
        omega
theorem nSh_one (n k : Nat) : nSh (nSh n k) 1 = nSh n (k + 1) := by
  have hd : 0 < 2 ^ k := Nat.two_pow_pos _
  unfold nSh
  rw [Nat.pow_succ, Nat.pow_one]
  generalize 2 ^ k = d at hd ⊢
  have hmod : n % (d * 2) = n % d + d * (n / d % 2) := Nat.mod_mul
  have hdiv : n / (d * 2) = n / d / 2 := (Nat.div_div_eq_div_mul _ _ _).symm
  rw [hmod, hdiv]
  generalize n / d = q
  generalize n % d = r
  by_cases h0 : r = 0
  · rw [if_pos h0, h0, Nat.zero_add]
    by_cases h1 : q % 2 = 0
    · rw [if_pos h1, h1, Nat.mul_zero, if_pos rfl]
    · rw [if_neg h1, if_neg]
      intro z
      have : q % 2 = 1 := by omega
      rw [this] at z; omega
  · rw [if_neg h0, if_neg (by omega), if_neg (by omega)]
    omega
theorem nSh_add (u y k : Nat) : 8 * u + nSh y k = nSh (8 * u * 2 ^ k + y) k := by
  have hd : 0 < 2 ^ k := Nat.two_pow_pos _
  unfold nSh
  generalize 2 ^ k = d at hd ⊢
  have h1 : (8 * u * d + y) % d = y % d := by rw [Nat.add_comm, Nat.add_mul_mod_self_right]
  have h2 : (8 * u * d + y) / d = 8 * u + y / d := by rw [Nat.add_comm, Nat.add_mul_div_right _ _ hd, Nat.add_comm]
  rw [h1, h2]
  split
  · rfl
  · omega
theorem nSh_sub {u y k : Nat} (h : y ≤ 8 * u * 2 ^ k) : 8 * u - nSh y k = nSh (8 * u * 2 ^ k - y) k := by
  have hd : 0 < 2 ^ k := Nat.two_pow_pos _
  unfold nSh
  generalize 2 ^ k = d at hd h ⊢
  have hy : d * (y / d) + y % d = y := Nat.div_add_mod y d
  have hr : y % d < d := Nat.mod_lt _ hd
  generalize y / d = q at hy ⊢
  generalize hrr : y % d = r at hy hr ⊢
  have hle : d * q ≤ d * (8 * u) := by rw [Nat.mul_comm d (8 * u)]; omega
  have hqu : q ≤ 8 * u := Nat.le_of_mul_le_mul_left hle hd
  by_cases h0 : r = 0
  · have e : 8 * u * d - y = (8 * u - q) * d := by rw [Nat.sub_mul, ← hy, h0, Nat.add_zero, Nat.mul_comm d q]
    rw [if_pos h0, e, Nat.mul_mod_left, if_pos rfl, Nat.mul_div_cancel _ hd]
  · have hlt : q < 8 * u := by
      rcases Nat.lt_or_ge q (8 * u) with z | z
      · exact z
      · exfalso
        have : q = 8 * u := by omega
        rw [this, Nat.mul_comm d (8 * u)] at hy
        omega
    have e : 8 * u * d - y = (d - r) + (8 * u - q - 1) * d := by
      have e1 : (8 * u - q - 1) * d + d = (8 * u - q) * d := by rw [← Nat.succ_mul]; congr 1; omega
      have e2 : (8 * u - q) * d = 8 * u * d - q * d := Nat.sub_mul _ _ _
      rw [Nat.mul_comm d q] at hy
      have e3 : q * d ≤ 8 * u * d := Nat.mul_le_mul_right _ hqu
      omega
    have hm : (8 * u * d - y) % d = d - r := by rw [e, Nat.add_mul_mod_self_right]; exact Nat.mod_eq_of_lt (by omega)
    have hq2 : (8 * u * d - y) / d = 8 * u - q - 1 := by rw [e, Nat.add_mul_div_right _ _ hd, Nat.div_eq_of_lt (by omega), Nat.zero_add]
    rw [if_neg h0, hm, hq2, if_neg (by omega)]
    omega
theorem nG_lt (fb a : Nat) : nG fb a < 2 * 2 ^ fb := by
  have hpos : 0 < 2 ^ fb := Nat.two_pow_pos _
  have := Nat.mod_lt a hpos
  unfold nG
  split <;> omega
theorem nG_ge {fb a : Nat} (h : 2 ≤ nE fb a) : 2 ^ fb ≤ nG fb a := by
  unfold nE at h
  unfold nG
  split
  · rename_i z; rw [if_pos z] at h; omega
  · omega
def nRnd (fb bs x g : Nat) : Nat := if 2 * bs < x then (2 * bs + 1) * 2 ^ fb else (x - 1) * 2 ^ fb + FP.Core.nearest g 8
/-- the sum of two amounts, b the lesser, as the class works it out -/
def nAdd (fb bs a b : Nat) : Nat := if 16 * 2 ^ fb ≤ 8 * nG fb a + nSh (8 * nG fb b) (nE fb a - nE fb b) then nRnd fb bs (nE fb a + 1) (nSh (8 * nG fb a + nSh (8 * nG fb b) (nE fb a - nE fb b)) 1) else nRnd fb bs (nE fb a) (8 * nG fb a + nSh (8 * nG fb b) (nE fb a - nE fb b))
theorem log2_eq {S k : Nat} (h1 : 2 ^ k ≤ S) (h2 : S < 2 ^ (k + 1)) : S.log2 = k := by
  have hS : S ≠ 0 := by have := Nat.two_pow_pos k; omega
  have a1 : 2 ^ S.log2 ≤ S := Nat.log2_self_le hS
  have a2 : S < 2 ^ (S.log2 + 1) := Nat.lt_log2_self
  have b1 : S.log2 < k + 1 := (Nat.pow_lt_pow_iff_right (by decide : 1 < 2)).mp (Nat.lt_of_le_of_lt a1 h2)
  have b2 : k < S.log2 + 1 := (Nat.pow_lt_pow_iff_right (by decide : 1 < 2)).mp (Nat.lt_of_le_of_lt h1 a2)
  omega
theorem nSh_le (n k : Nat) : n / 2 ^ k ≤ nSh n k := by
  unfold nSh
  split <;> omega
theorem nSh_even {n k c : Nat} (h : 2 * c ≤ nSh n k) : 2 * c ≤ n / 2 ^ k := by
  unfold nSh at h
  split at h
  · exact h
  · omega
theorem near8 {S k : Nat} : FP.Core.nearest (nSh (8 * S) k) 8 = FP.Core.nearest S (2 ^ k) := by
  have h := nSh_near (n := 8 * S) (k := k) (j := 3) (by decide)
  rw [show (2 : Nat) ^ 3 = 8 by rfl] at h
  rw [h, Nat.mul_comm (2 ^ k) 8]
  exact near_scale (by decide)
theorem nAdd_eq {fb bs a b : Nat} (hb : 1 ≤ bs) (hab : b ≤ a) : nAdd fb bs a b = nSum fb bs a b := by
  have hm := nE_mono (fb := fb) hab
  have hp := nE_pos fb b
  have g1 := nG_lt fb a
  have g2 := nG_lt fb b
  have g3 := @nG_ge fb a
  unfold nAdd nSum
  obtain ⟨k, hk⟩ : ∃ k, k = nE fb a - nE fb b := ⟨_, rfl⟩
  have hEa : nE fb a = nE fb b + k := by omega
  rw [← hk]
  have hD : 8 * nG fb a + nSh (8 * nG fb b) k = nSh (8 * (nG fb a * 2 ^ k + nG fb b)) k := by
    rw [nSh_add]; congr 1; rw [Nat.mul_add, Nat.mul_assoc]
  rw [hD, hEa]
  rw [hEa] at g3
  generalize nG fb a = ga at *
  generalize nG fb b = gb at *
  generalize nE fb b = E at *
  have hT : 0 < 2 ^ fb := Nat.two_pow_pos _
  have hd : 0 < 2 ^ k := Nat.two_pow_pos _
  have hS4 : ga * 2 ^ k + gb < 2 ^ (fb + k + 1 + 1) := by
    have e1 : 2 ^ (fb + k + 1 + 1) = 4 * (2 ^ fb * 2 ^ k) := by rw [Nat.pow_succ, Nat.pow_succ, Nat.pow_add]; omega
    have e2 : (ga + 1) * 2 ^ k ≤ (2 * 2 ^ fb) * 2 ^ k := Nat.mul_le_mul_right _ g1
    have e3 : 2 ^ fb * 1 ≤ 2 ^ fb * 2 ^ k := Nat.mul_le_mul_left _ hd
    rw [Nat.add_mul, Nat.one_mul, Nat.mul_assoc] at e2
    omega
  generalize hS : ga * 2 ^ k + gb = S at *
  by_cases hc : 16 * 2 ^ fb ≤ nSh (8 * S) k
  · rw [if_pos hc, nSh_one]
    have h1 : 2 * (8 * 2 ^ fb) ≤ 8 * S / 2 ^ k := nSh_even (by omega)
    have h2 : 2 * (8 * 2 ^ fb) * 2 ^ k ≤ 8 * S := (Nat.le_div_iff_mul_le hd).mp h1
    have e1 : 2 ^ (fb + k + 1) = 2 * (2 ^ fb * 2 ^ k) := by rw [Nat.pow_succ, Nat.pow_add]; omega
    have e2 : 2 * (8 * 2 ^ fb) * 2 ^ k = 16 * (2 ^ fb * 2 ^ k) := by rw [← Nat.mul_assoc, Nat.mul_assoc]
    have h3 : 2 ^ (fb + k + 1) ≤ S := by omega
    have hl : S.log2 = fb + k + 1 := log2_eq h3 hS4
    have hS0 : S ≠ 0 := by have := Nat.two_pow_pos (fb + k + 1); omega
    have hX : nX fb S E = E + k + 1 := by unfold nX; rw [if_neg (by omega)]; omega
    rw [if_neg hS0]
    unfold nRnd nO
    rw [hX, near8, show E - (E + k + 1) = 0 by omega, Nat.pow_zero, Nat.mul_one, show E + k + 1 - E = k + 1 by omega]
  · rw [if_neg hc]
    have h1 : 8 * S / 2 ^ k < 16 * 2 ^ fb := Nat.lt_of_le_of_lt (nSh_le _ _) (by omega)
    have h2 : 8 * S < 16 * 2 ^ fb * 2 ^ k := (Nat.div_lt_iff_lt_mul hd).mp h1
    have e1 : 2 ^ (fb + k + 1) = 2 * (2 ^ fb * 2 ^ k) := by rw [Nat.pow_succ, Nat.pow_add]; omega
    have e2 : 16 * 2 ^ fb * 2 ^ k = 16 * (2 ^ fb * 2 ^ k) := Nat.mul_assoc _ _ _
    have h3 : S < 2 ^ (fb + k + 1) := by omega
    by_cases hS0 : S = 0
    · rw [if_pos hS0, hS0]
      have hE1 : E + k = 1 := by
        rcases Nat.lt_or_ge (E + k) 2 with z | z
        · omega
        · exfalso
          have a1 := g3 z
          have a2 : 2 ^ fb * 1 ≤ ga * 2 ^ k := Nat.mul_le_mul a1 hd
          omega
      unfold nRnd
      rw [hE1, if_neg (by omega), near8]
      simp [FP.Core.nearest, Nat.zero_div, Nat.zero_mod]
    · rw [if_neg hS0]
      have hX : nX fb S E = E + k := by
        rcases Nat.lt_or_ge (E + k) 2 with z | z
        · have : k = 0 := by omega
          have a1 : S.log2 < fb + k + 1 := (Nat.pow_lt_pow_iff_right (by decide : 1 < 2)).mp (Nat.lt_of_le_of_lt (Nat.log2_self_le hS0) h3)
          unfold nX; rw [if_pos (by omega)]; omega
        · have a1 := g3 z
          have a2 : 2 ^ fb * 2 ^ k ≤ ga * 2 ^ k := Nat.mul_le_mul_right _ a1
          have hl : S.log2 = fb + k := log2_eq (by rw [Nat.pow_add]; omega) h3
          unfold nX; rw [if_neg (by omega)]; omega
      unfold nRnd nO
      rw [hX, near8, show E - (E + k) = 0 by omega, Nat.pow_zero, Nat.mul_one, show E + k - E = k by omega]
theorem nO_le {fb bs S E : Nat} (hb : 1 ≤ bs) (hE : 1 ≤ E) : nO fb bs S E ≤ (2 * bs + 1) * 2 ^ fb := by
  have hX1 := nX_pos fb S E
  have hc2 : FP.Core.nearest (S * 2 ^ (E - nX fb S E)) (2 ^ (nX fb S E - E)) ≤ 2 * 2 ^ fb := near_le (Nat.two_pow_pos _) (nX_lt hE)
  unfold nO
  split
  · exact Nat.le_refl _
  · rename_i h
    have h1 : (nX fb S E - 1) * 2 ^ fb ≤ (2 * bs - 1) * 2 ^ fb := Nat.mul_le_mul_right _ (by omega)
    have h2 : (2 * bs - 1) * 2 ^ fb + 2 * 2 ^ fb = (2 * bs + 1) * 2 ^ fb := by rw [← Nat.add_mul]; congr 1; omega
    omega
/-- the sign goes by itself -/
theorem enc_sign {f : FP.Core.Fmt} (s : Bool) (c : Nat) (q : Int) : FP.Core.encode f (FP.Core.round f (.fin s c q)) = s.toNat * f.exps * f.tails + FP.Core.encode f (FP.Core.round f (.fin false c q)) := by
  have ha : ∀ e t : Nat, FP.Core.assemble f s e t = s.toNat * f.exps * f.tails + FP.Core.assemble f false e t := by
    intro e t
    simp only [FP.Core.assemble, Bool.toNat_false, Nat.zero_mul, Nat.zero_add, Nat.add_mul]
    omega
  have hb : ∀ (c : Nat) (q : Int), FP.Core.encode f (FP.Core.bound f s c q) = s.toNat * f.exps * f.tails + FP.Core.encode f (FP.Core.bound f false c q) := by
    intro c q
    unfold FP.Core.bound
    split
    · simp only [FP.Core.encode]
      split <;> exact ha _ _
    · simp only [FP.Core.encode]
      exact ha _ _
  simp only [FP.Core.round, FP.Core.roundRatio]
  split
  · simp only [FP.Core.encode]
    split <;> exact ha _ _
  · simp only [FP.Core.roundAt, FP.Core.settle]
    split <;> exact hb _ _
/-- what a number of sign s and amount a stands for -/
theorem dec_fin_s {f : FP.Core.Fmt} {fb bs a : Nat} (hf : nF f fb bs) (s : Bool) (ha : a < (2 * bs + 1) * 2 ^ fb) : FP.Core.decode f (s.toNat * ((2 * bs + 2) * 2 ^ fb) + a) = .fin s (nG fb a) (f.qmin + ((nE fb a : Int) - 1)) := by
  obtain ⟨hp, hm, hx, hb, hb1⟩ := hf
  have ht : f.tails = 2 ^ fb := by unfold FP.Core.Fmt.tails; rw [hp]; rfl
  have hpos : 0 < 2 ^ fb := Nat.two_pow_pos _
  have hd : a / 2 ^ fb < 2 * bs + 1 := (Nat.div_lt_iff_lt_mul hpos).mpr ha
  have hq : (s.toNat * ((2 * bs + 2) * 2 ^ fb) + a) / 2 ^ fb = s.toNat * (2 * bs + 2) + a / 2 ^ fb := by
    rw [← Nat.mul_assoc, Nat.add_comm, Nat.add_mul_div_right _ _ hpos, Nat.add_comm]
  have hr : (s.toNat * ((2 * bs + 2) * 2 ^ fb) + a) % 2 ^ fb = a % 2 ^ fb := by
    rw [← Nat.mul_assoc, Nat.add_comm, Nat.add_mul_mod_self_right]
  have hE : FP.Core.fieldE f (s.toNat * ((2 * bs + 2) * 2 ^ fb) + a) = a / 2 ^ fb := by
    unfold FP.Core.fieldE; rw [ht, hx, hq, Nat.add_comm, Nat.add_mul_mod_self_right]; exact Nat.mod_eq_of_lt (by omega)
  have hT : FP.Core.fieldT f (s.toNat * ((2 * bs + 2) * 2 ^ fb) + a) = a % 2 ^ fb := by unfold FP.Core.fieldT; rw [ht, hr]
  have hS : FP.Core.fieldS f (s.toNat * ((2 * bs + 2) * 2 ^ fb) + a) = s := by
    unfold FP.Core.fieldS; rw [ht, hx, hq, Nat.add_comm, Nat.add_mul_div_right _ _ (by omega), Nat.div_eq_of_lt (show a / 2 ^ fb < 2 * bs + 2 by omega)]
    cases s <;> rfl
  unfold FP.Core.decode nG nE
  rw [hE, hT, hS, hx, ht, if_neg (by omega)]
  by_cases h : a < 2 ^ fb
  · rw [if_pos h, if_pos h, Nat.div_eq_of_lt h, if_pos rfl, Nat.mod_eq_of_lt h]
    congr 1; omega
  · have h2 : a / 2 ^ fb ≠ 0 := by
      have := Nat.div_pos (Nat.not_lt.mp h) hpos; omega
    rw [if_neg h, if_neg h, if_neg h2]
theorem dec_inf_s {f : FP.Core.Fmt} {fb bs : Nat} (hf : nF f fb bs) (s : Bool) : FP.Core.decode f (s.toNat * ((2 * bs + 2) * 2 ^ fb) + (2 * bs + 1) * 2 ^ fb) = .inf s := by
  obtain ⟨hp, hm, hx, hb, hb1⟩ := hf
  have ht : f.tails = 2 ^ fb := by unfold FP.Core.Fmt.tails; rw [hp]; rfl
  have hpos : 0 < 2 ^ fb := Nat.two_pow_pos _
  have e0 : s.toNat * ((2 * bs + 2) * 2 ^ fb) + (2 * bs + 1) * 2 ^ fb = (s.toNat * (2 * bs + 2) + (2 * bs + 1)) * 2 ^ fb := by rw [Nat.add_mul, Nat.mul_assoc]
  rw [e0]
  have hE : FP.Core.fieldE f ((s.toNat * (2 * bs + 2) + (2 * bs + 1)) * 2 ^ fb) = 2 * bs + 1 := by
    unfold FP.Core.fieldE; rw [ht, hx, Nat.mul_div_cancel _ hpos, Nat.add_comm, Nat.add_mul_mod_self_right]; exact Nat.mod_eq_of_lt (by omega)
  have hT : FP.Core.fieldT f ((s.toNat * (2 * bs + 2) + (2 * bs + 1)) * 2 ^ fb) = 0 := by unfold FP.Core.fieldT; rw [ht]; exact Nat.mul_mod_left _ _
  have hS : FP.Core.fieldS f ((s.toNat * (2 * bs + 2) + (2 * bs + 1)) * 2 ^ fb) = s := by
    unfold FP.Core.fieldS; rw [ht, hx, Nat.mul_div_cancel _ hpos, Nat.add_comm, Nat.add_mul_div_right _ _ (by omega), Nat.div_eq_of_lt (show 2 * bs + 1 < 2 * bs + 2 by omega)]
    cases s <;> rfl
  unfold FP.Core.decode
  rw [hE, hT, hS, hx, if_pos (by omega), if_pos rfl]
/-- the difference of two amounts, b the lesser, as the machine has it -/
def nDif (fb bs a b : Nat) : Nat := if nG fb a * 2 ^ (nE fb a - nE fb b) - nG fb b = 0 then 0 else nO fb bs (nG fb a * 2 ^ (nE fb a - nE fb b) - nG fb b) (nE fb b)
/-- the digits of the greater amount reach as far as those of the lesser -/
theorem nG_mono {fb a b : Nat} (h : b ≤ a) : nG fb b ≤ nG fb a * 2 ^ (nE fb a - nE fb b) := by
  have hm := nE_mono (fb := fb) h
  have hpos : 0 < 2 ^ fb := Nat.two_pow_pos _
  by_cases he : nE fb a = nE fb b
  · rw [he, Nat.sub_self, Nat.pow_zero, Nat.mul_one]
    unfold nE at he
    unfold nG
    have da := Nat.div_add_mod a (2 ^ fb)
    have db := Nat.div_add_mod b (2 ^ fb)
    by_cases ha : a < 2 ^ fb
    · rw [if_pos ha, if_pos (by omega)]; exact h
    · by_cases hb : b < 2 ^ fb
      · rw [if_pos hb, if_neg ha]; omega
      · rw [if_neg ha, if_neg hb] at he
        rw [if_neg hb, if_neg ha]
        rw [he] at da
        omega
  · have g1 := nG_lt fb b
    have g2 := @nG_ge fb a (by have := nE_pos fb b; omega)
    have h2 : 2 ^ 1 ≤ 2 ^ (nE fb a - nE fb b) := Nat.pow_le_pow_right (by decide) (by omega)
    have h3 : 2 ^ fb * 2 ^ 1 ≤ nG fb a * 2 ^ (nE fb a - nE fb b) := Nat.mul_le_mul g2 h2
    omega
theorem fp_units {f : FP.Core.Fmt} {fb bs a b : Nat} (hf : nF f fb bs) (s t : Bool) (hab : b ≤ a) (ha : a < (2 * bs + 1) * 2 ^ fb) :
    FP.Core.encode f (FP.Core.round f (FP.Core.exactSum (.fin s (nG fb a) (f.qmin + ((nE fb a : Int) - 1))) (.fin t (nG fb b) (f.qmin + ((nE fb b : Int) - 1))))) % ((2 * bs + 2) * 2 ^ fb) = (if s = t then nSum fb bs a b else nDif fb bs a b)
    ∧ FP.Core.encode f (FP.Core.round f (FP.Core.exactSum (.fin t (nG fb b) (f.qmin + ((nE fb b : Int) - 1))) (.fin s (nG fb a) (f.qmin + ((nE fb a : Int) - 1))))) % ((2 * bs + 2) * 2 ^ fb) = (if s = t then nSum fb bs a b else nDif fb bs a b) := by
  have hm := nE_mono (fb := fb) hab
  have hp := nE_pos fb b
  have hg := nG_mono (fb := fb) hab
  obtain ⟨hp', hm', hx', hb', hb1'⟩ := id hf
  have ht : f.tails = 2 ^ fb := by unfold FP.Core.Fmt.tails; rw [hp']; rfl
  have hpos : 0 < 2 ^ fb := Nat.two_pow_pos _
  have hmin : min (f.qmin + ((nE fb a : Int) - 1)) (f.qmin + ((nE fb b : Int) - 1)) = f.qmin + ((nE fb b : Int) - 1) := Int.min_eq_right (by omega)
  have hmin2 : min (f.qmin + ((nE fb b : Int) - 1)) (f.qmin + ((nE fb a : Int) - 1)) = f.qmin + ((nE fb b : Int) - 1) := Int.min_eq_left (by omega)
  have e1 : (f.qmin + ((nE fb a : Int) - 1) - (f.qmin + ((nE fb b : Int) - 1))).toNat = nE fb a - nE fb b := by omega
  have e2 : (f.qmin + ((nE fb b : Int) - 1) - (f.qmin + ((nE fb b : Int) - 1))).toNat = 0 := by omega
  have key : ∀ (sg : Bool) (S : Nat), FP.Core.encode f (FP.Core.round f (.fin sg S (f.qmin + ((nE fb b : Int) - 1)))) % ((2 * bs + 2) * 2 ^ fb) = if S = 0 then 0 else nO fb bs S (nE fb b) := by
    intro sg S
    rw [enc_sign, ht, hx', Nat.mul_assoc, Nat.add_comm, Nat.add_mul_mod_self_right]
    by_cases h0 : S = 0
    · rw [if_pos h0, h0]
      simp only [FP.Core.round, FP.Core.roundRatio, if_true, FP.Core.encode, ht, if_pos hpos, FP.Core.assemble, Bool.toNat_false, Nat.zero_mul, Nat.zero_add, Nat.zero_mod]
    · rw [if_neg h0, enc_round hf h0 hp]
      refine Nat.mod_eq_of_lt (Nat.lt_of_le_of_lt (nO_le hb' hp) ?_)
      exact Nat.mul_lt_mul_of_pos_right (by omega) hpos
  simp only [FP.Core.exactSum, hmin, hmin2, key]
  have hv : (FP.Core.sumUnits s (nG fb a) (f.qmin + ((nE fb a : Int) - 1)) t (nG fb b) (f.qmin + ((nE fb b : Int) - 1)) (f.qmin + ((nE fb b : Int) - 1))).natAbs = if s = t then nG fb a * 2 ^ (nE fb a - nE fb b) + nG fb b else nG fb a * 2 ^ (nE fb a - nE fb b) - nG fb b := by
    simp only [FP.Core.sumUnits, FP.Core.signed, FP.Core.inUnits, e1, e2, Nat.pow_zero, Nat.mul_one]
    cases s <;> cases t <;> simp <;> omega
  have hv2 : (FP.Core.sumUnits t (nG fb b) (f.qmin + ((nE fb b : Int) - 1)) s (nG fb a) (f.qmin + ((nE fb a : Int) - 1)) (f.qmin + ((nE fb b : Int) - 1))).natAbs = if s = t then nG fb a * 2 ^ (nE fb a - nE fb b) + nG fb b else nG fb a * 2 ^ (nE fb a - nE fb b) - nG fb b := by
    simp only [FP.Core.sumUnits, FP.Core.signed, FP.Core.inUnits, e1, e2, Nat.pow_zero, Nat.mul_one]
    cases s <;> cases t <;> simp <;> omega
  rw [hv, hv2]
  unfold nSum nDif
  constructor
  · by_cases h : s = t
    · rw [if_pos h, if_pos h]
    · rw [if_neg h, if_neg h]
  · by_cases h : s = t
    · rw [if_pos h, if_pos h]
    · rw [if_neg h, if_neg h]
theorem log2_nSh {n k : Nat} (h : 2 ^ k ≤ n) : (nSh n k).log2 + k = n.log2 := by
  have hd : 0 < 2 ^ k := Nat.two_pow_pos _
  have hq : 1 ≤ n / 2 ^ k := (Nat.le_div_iff_mul_le hd).mpr (by omega)
  have a1 : 2 ^ (n / 2 ^ k).log2 ≤ n / 2 ^ k := Nat.log2_self_le (by omega)
  have a2 : n / 2 ^ k < 2 ^ ((n / 2 ^ k).log2 + 1) := Nat.lt_log2_self
  have b1 : n.log2 = (n / 2 ^ k).log2 + k := by
    refine log2_eq ?_ ?_
    · rw [Nat.pow_add]; exact (Nat.le_div_iff_mul_le hd).mp a1
    · rw [show (n / 2 ^ k).log2 + k + 1 = (n / 2 ^ k).log2 + 1 + k by omega, Nat.pow_add]; exact (Nat.div_lt_iff_lt_mul hd).mp a2
  have b2 : (nSh n k).log2 = (n / 2 ^ k).log2 := by
    refine log2_eq (Nat.le_trans a1 (nSh_le _ _)) ?_
    unfold nSh
    rw [Nat.pow_succ] at a2 ⊢
    split <;> omega
  omega
theorem log2_mul8 {S : Nat} (h : S ≠ 0) : (8 * S).log2 = S.log2 + 3 := by
  have a1 : 2 ^ S.log2 ≤ S := Nat.log2_self_le h
  have a2 : S < 2 ^ (S.log2 + 1) := Nat.lt_log2_self
  refine log2_eq ?_ ?_
  · rw [Nat.pow_add]; omega
  · rw [show S.log2 + 3 + 1 = S.log2 + 1 + 3 by omega, Nat.pow_add]; omega
/-- the difference of two amounts, b the lesser, as the class works it out -/
def nSub (fb bs a b : Nat) : Nat := nRnd fb bs (nE fb a - min (fb + 3 - (8 * nG fb a - nSh (8 * nG fb b) (nE fb a - nE fb b)).log2) (nE fb a - 1)) ((8 * nG fb a - nSh (8 * nG fb b) (nE fb a - nE fb b)) * 2 ^ min (fb + 3 - (8 * nG fb a - nSh (8 * nG fb b) (nE fb a - nE fb b)).log2) (nE fb a - 1))
theorem nSub_eq {fb bs a b : Nat} (hab : b < a) : nSub fb bs a b = nDif fb bs a b := by
  have hle : b ≤ a := Nat.le_of_lt hab
  have hm := nE_mono (fb := fb) hle
  have hp := nE_pos fb b
  have g1 := nG_lt fb a
  have g2 := nG_lt fb b
  have g3 := @nG_ge fb a
  have g4 := nG_mono (fb := fb) hle
  have hT : 0 < 2 ^ fb := Nat.two_pow_pos _
  have hne : nG fb a * 2 ^ (nE fb a - nE fb b) - nG fb b ≠ 0 := by
    intro h0
    have he : nG fb b = nG fb a * 2 ^ (nE fb a - nE fb b) := by omega
    by_cases hk : nE fb a = nE fb b
    · rw [hk, Nat.sub_self, Nat.pow_zero, Nat.mul_one] at he
      unfold nE at hk
      unfold nG at he
      have da := Nat.div_add_mod a (2 ^ fb)
      have db := Nat.div_add_mod b (2 ^ fb)
      by_cases ha : a < 2 ^ fb
      · rw [if_pos ha, if_pos (by omega)] at he; omega
      · by_cases hb : b < 2 ^ fb
        · rw [if_pos hb, if_neg ha] at he; omega
        · rw [if_neg ha, if_neg hb] at hk
          rw [if_neg hb, if_neg ha] at he
          rw [hk] at da
          omega
    · have a1 := g3 (by omega)
      have h2 : 2 ^ 1 ≤ 2 ^ (nE fb a - nE fb b) := Nat.pow_le_pow_right (by decide) (by omega)
      have h3 : 2 ^ fb * 2 ^ 1 ≤ nG fb a * 2 ^ (nE fb a - nE fb b) := Nat.mul_le_mul a1 h2
      omega
  unfold nSub nDif
  rw [if_neg hne]
  obtain ⟨k, hk⟩ : ∃ k, k = nE fb a - nE fb b := ⟨_, rfl⟩
  have hEa : nE fb a = nE fb b + k := by omega
  rw [← hk] at hne g4 ⊢
  have hD : 8 * nG fb a - nSh (8 * nG fb b) k = nSh (8 * (nG fb a * 2 ^ k - nG fb b)) k := by
    rw [nSh_sub (by rw [Nat.mul_assoc]; omega)]; congr 1; rw [Nat.mul_sub, Nat.mul_assoc]
  rw [hD, hEa]
  rw [hEa] at g3
  generalize nG fb a = ga at *
  generalize nG fb b = gb at *
  generalize nE fb b = E at *
  have hd : 0 < 2 ^ k := Nat.two_pow_pos _
  have hS2 : ga * 2 ^ k - gb < 2 ^ (fb + k + 1) := by
    have e1 : 2 ^ (fb + k + 1) = 2 * 2 ^ fb * 2 ^ k := by rw [Nat.pow_succ, Nat.pow_add, Nat.mul_comm _ 2, Nat.mul_assoc]
    have e2 : ga * 2 ^ k < 2 * 2 ^ fb * 2 ^ k := Nat.mul_lt_mul_of_pos_right g1 hd
    omega
  have hS1 : 2 ≤ k → 2 ^ (fb + k - 1) ≤ ga * 2 ^ k - gb := by
    intro h2
    have a1 : 2 ^ fb * 2 ^ k ≤ ga * 2 ^ k := Nat.mul_le_mul_right _ (g3 (by omega))
    have e1 : 2 ^ fb * 2 ^ k = 2 * 2 ^ (fb + k - 1) := by
      rw [← Nat.pow_add, show fb + k = fb + k - 1 + 1 by omega, Nat.pow_succ]; omega
    have e2 : 2 * 2 ^ fb ≤ 2 ^ (fb + k - 1) := by
      rw [show 2 * 2 ^ fb = 2 ^ (fb + 1) by rw [Nat.pow_succ, Nat.mul_comm]]
      exact Nat.pow_le_pow_right (by decide) (by omega)
    omega
  generalize hS : ga * 2 ^ k - gb = S at *
  have hl8 := log2_mul8 hne
  have hkS : 2 ^ k ≤ 8 * S := by
    rcases Nat.lt_or_ge k 4 with z | z
    · have : 2 ^ k ≤ 2 ^ 3 := Nat.pow_le_pow_right (by decide) (by omega)
      omega
    · have a1 := hS1 (by omega)
      have a2 : 2 ^ k ≤ 2 ^ (fb + k - 1 + 3) := Nat.pow_le_pow_right (by decide) (by omega)
      rw [Nat.pow_add] at a2
      omega
  have hlD := log2_nSh hkS
  have hlS : S.log2 < fb + k + 1 := (Nat.pow_lt_pow_iff_right (by decide : 1 < 2)).mp (Nat.lt_of_le_of_lt (Nat.log2_self_le hne) hS2)
  obtain ⟨sh, hsh⟩ : ∃ sh, sh = min (fb + 3 - (nSh (8 * S) k).log2) (E + k - 1) := ⟨_, rfl⟩
  rw [← hsh]
  have hX : nX fb S E = E + k - sh := by
    unfold nX
    split <;> omega
  have hshle : sh ≤ E + k - 1 := by omega
  unfold nRnd nO
  rw [hX]
  congr 2
  rcases Nat.lt_or_ge k 4 with z | z
  · have hex : nSh (8 * S) k = S * 2 ^ (3 - k) := by
      have e : 8 * S = S * 2 ^ (3 - k) * 2 ^ k := by
        rw [Nat.mul_assoc, ← Nat.pow_add, show 3 - k + k = 3 by omega]; omega
      unfold nSh
      rw [e, Nat.mul_mod_left, if_pos rfl, Nat.mul_div_cancel _ hd]
    rw [hex]
    rcases Nat.lt_or_ge sh k with y | y
    · rw [show E - (E + k - sh) = 0 by omega, Nat.pow_zero, Nat.mul_one, show E + k - sh - E = k - sh by omega]
      have e1 : S * 2 ^ (3 - k) * 2 ^ sh = 2 ^ (3 - (k - sh)) * S := by
        rw [Nat.mul_assoc, ← Nat.pow_add, Nat.mul_comm]; congr 2; omega
      have e2 : (8 : Nat) = 2 ^ (3 - (k - sh)) * 2 ^ (k - sh) := by
        rw [← Nat.pow_add, show 3 - (k - sh) + (k - sh) = 3 by omega]
      rw [e1, e2]
      exact near_scale (Nat.two_pow_pos _)
    · rw [show E + k - sh - E = 0 by omega, show E - (E + k - sh) = sh - k by omega, Nat.pow_zero]
      have e1 : S * 2 ^ (3 - k) * 2 ^ sh = 8 * (S * 2 ^ (sh - k)) := by
        rw [Nat.mul_assoc, ← Nat.pow_add, show 3 - k + sh = 3 + (sh - k) by omega, Nat.pow_add, ← Nat.mul_assoc, Nat.mul_comm S, Nat.mul_assoc]
      rw [e1]
      have h := near_scale (n := S * 2 ^ (sh - k)) (d := 1) (c := 8) (by decide)
      rw [Nat.mul_one] at h
      exact h
  · have a1 := hS1 (by omega)
    have hlS2 : fb + k - 1 ≤ S.log2 := by
      have b2 : fb + k - 1 < S.log2 + 1 := (Nat.pow_lt_pow_iff_right (by decide : 1 < 2)).mp (Nat.lt_of_le_of_lt a1 Nat.lt_log2_self)
      omega
    have hsh1 : sh ≤ 1 := by omega
    rcases (show sh = 0 ∨ sh = 1 by omega) with h0 | h1
    · rw [h0, Nat.pow_zero, Nat.mul_one, near8, show E - (E + k - 0) = 0 by omega, Nat.pow_zero, Nat.mul_one, show E + k - 0 - E = k by omega]
    · rw [h1, show E - (E + k - 1) = 0 by omega, show E + k - 1 - E = k - 1 by omega, Nat.pow_zero, Nat.pow_one, Nat.mul_one]
      have e1 : FP.Core.nearest (nSh (8 * S) k * 2) 8 = FP.Core.nearest (nSh (8 * S) k) 4 := by
        have h := near_scale (n := nSh (8 * S) k) (d := 4) (c := 2) (by decide)
        rw [Nat.mul_comm]; exact h
      have e2 := nSh_near (n := 8 * S) (k := k) (j := 2) (by decide)
      rw [show (2 : Nat) ^ 2 = 4 by rfl] at e2
      rw [e1, e2]
      have e3 : 2 ^ k * 4 = 8 * 2 ^ (k - 1) := by
        rw [show k = k - 1 + 1 by omega, Nat.pow_succ, show k - 1 + 1 - 1 = k - 1 by omega]; omega
      rw [e3]
      exact near_scale (by decide)
