/-! the four sorts: what a Floats and a Wholes hold; nb: is it the narrow one -/
def ff_narrow (nb : Bool) : Int32 := bif nb then 1 else 0
def ff_signBit (nb : Bool) : Int64 := bif nb then -2147483648 else -9223372036854775808
def ff_lowest (nb : Bool) : Int64 := bif nb then -8388608 else -4503599627370496
def ff_highest (nb : Bool) : Int64 := bif nb then 2139095040 else 9218868437227405312
def ff_fractionBits (nb : Bool) : Int32 := bif nb then 23 else 52
def ff_bias (nb : Bool) : Int32 := bif nb then 127 else 1023
def ff_leadingOne (nb : Bool) : Int64 := bif nb then 8388608 else 4503599627370496
def ff_half (nb : Bool) : Int64 := bif nb then 1056964608 else 4602678819172646912
def ff_one (nb : Bool) : Int64 := bif nb then 1065353216 else 4607182418800017408
def ff_infinity (nb : Bool) : Int64 := bif nb then 2139095040 else 9218868437227405312
def fl_F (nb : Bool) : List Value := [.int (ff_narrow nb), .long (ff_signBit nb), .long (ff_lowest nb), .long (ff_highest nb), .int (ff_fractionBits nb), .int (ff_bias nb), .long (ff_leadingOne nb), .long (ff_half nb), .long (ff_one nb), .long (ff_infinity nb)]
def wf_lowest (nb : Bool) : Int64 := bif nb then -2147483648 else -9223372036854775808
def wf_highest (nb : Bool) : Int64 := bif nb then 2147483647 else 9223372036854775807
def wh_F (nb : Bool) : List Value := [.int (ff_narrow nb), .long (ff_signBit nb), .long (wf_lowest nb), .long (wf_highest nb)]
/-! the methods that Sort declares and doesn't have -/
def pq_ab (n d : String) : Cond := .declares ⟨"WeatherMast$Sort", n, d⟩
def pq_Ab (U : State) : Prop := va_Nw (pq_ab "isNumber" "(J)Z") U ∧ va_Nw (pq_ab "hasStep" "(I)Z") U ∧ va_Nw (pq_ab "amount" "(J)J") U ∧ va_Nw (pq_ab "rank" "(J)J") U ∧ va_Nw (pq_ab "place" "(J)J") U ∧ va_Nw (pq_ab "addAmounts" "(JJ)J") U ∧ va_Nw (pq_ab "apart" "(JJ)J") U ∧ va_Nw (pq_ab "asInt" "(J)I") U ∧ va_Nw (pq_ab "afterFurtherStep" "(IJJ)J") U
theorem pq_Ab.warm {s U : State} (hW : s.WarmedH U.vm) (h : pq_Ab s) : pq_Ab U := by
  obtain ⟨h1, h2, h3, h4, h5, h6, h7, h8, h9⟩ := h
  exact ⟨va_Nw.warmD hW h1, va_Nw.warmD hW h2, va_Nw.warmD hW h3, va_Nw.warmD hW h4, va_Nw.warmD hW h5, va_Nw.warmD hW h6, va_Nw.warmD hW h7, va_Nw.warmD hW h8, va_Nw.warmD hW h9⟩
theorem pq_Ab.same {s U : State} (hv : s.vm = U.vm) (h : pq_Ab s) : pq_Ab U := by
  obtain ⟨h1, h2, h3, h4, h5, h6, h7, h8, h9⟩ := h
  exact ⟨va_Nw.same rfl hv h1, va_Nw.same rfl hv h2, va_Nw.same rfl hv h3, va_Nw.same rfl hv h4, va_Nw.same rfl hv h5, va_Nw.same rfl hv h6, va_Nw.same rfl hv h7, va_Nw.same rfl hv h8, va_Nw.same rfl hv h9⟩
/-- the start of a method that reads one object alone -/
def pq_Pc (D : va_G) (h0 : Nat) (o : Nat × List Value) (av : List Value) : Array Value → State → Prop := va_Pc av (fun U => va_P D vwCl [(h0, .inr o)] U.heap ∧ va_K D vwCl [] U ∧ pq_Ab U)
theorem pq_blind {D : va_G} {h0 : Nat} {o : Nat × List Value} {av : List Value} : FrameBlind (pq_Pc D h0 o av) := by
  intro a U g mk q
  obtain ⟨q0, qP, qK, qA⟩ := q
  exact ⟨q0, qP, va_K.moved (u := U) (U := U.calling g mk a) (Vm.Alike.refl U.vm) qK, pq_Ab.same (s := U) rfl qA⟩
theorem pq_pre {D : va_G} {h0 : Nat} {o : Nat × List Value} {av : List Value} {s : State} {H : Heap} (hP : va_P D vwCl [(h0, .inr o)] H) (hK : va_K D vwCl [] s) (hA : pq_Ab s) (U : State) (hU : U.heap = H) (hW : s.WarmedH U.vm) : pq_Pc D h0 o av av.toArray U :=
  ⟨rfl, by rw [hU]; exact hP, va_K.moved hW.alike hK, pq_Ab.warm hW hA⟩
