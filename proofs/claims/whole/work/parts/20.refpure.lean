def rf_isReal (p0 : Int32) : Int32 := if p0 < 2 then 0 else (1)
set_option maxHeartbeats 4000000 in
set_option maxRecDepth 100000 in
theorem mt_X6_isReal (l : Launch) (p0 : Int32) : Met l yX6_isReal wsX6_isReal ({ frames := 0, cells := 0, slots := 0, locals := 0 }) (va_Pc [.int p0] (fun _ => True)) (pq_V (.int (rf_isReal p0))) 0 0 (fun _ => False) := by
  refine Met.ofW (cc := cX6_isReal) (maxL := 1) (ret := (some .boolean)) (by decide) rfl ?_
  intro p e s m args below meth c s₁ B hml hv
  obtain ⟨rfl, -⟩ := hv
  have hx := B.exec
  have hb := B.bytes
  have hr := B.returns
  have hts := atoms_spec (ws := wsX6_isReal) B.pre
  have hown : s.vm.findClass RX6 = some m.cls := findClass_of_methodNamed B.named
  have hlocks := B.notSynchronized
  have hl := lv_entry ([.int p0]) (n := 1) (Nat.le_of_ble_eq_true rfl)
  rw [lg_entry_eq]
  generalize (lg_sl ([.int p0]) ++ List.replicate (1 - (lg_sl ([.int p0])).length) Slot.unset).toArray = ls at hl ⊢
  have hl : lv_has ls 1 [(0, .int p0)] := hl
  refine lv_iload_n hx hb dX6_isReal_0 rfl (lv_at hl 0 rfl) ?_
  refine lv_iconst (v := 2) hx hb dX6_isReal_1 (by decide) ?_
  refine lv_icmp_lt (tgt := 9) hx hb dX6_isReal_2 (by decide) (fun h1 => ?_) (fun h1 => ?_)
  · refine lv_iconst (v := 0) hx hb dX6_isReal_9 (by decide) ?_
    exact W.zret (v := 0) hx hb hr (by first | rfl | exact pq_nz) (fun t ht hW => ⟨congrArg (fun z => Outcome.returned (some (Value.int z))) (show _ = rf_isReal p0 from Eq.symm (show rf_isReal p0 = _ from (if_pos h1))), ht⟩) (fun q hq => absurd hq List.not_mem_nil) dX6_isReal_10
  · refine lv_iconst (v := 1) hx hb dX6_isReal_5 (by decide) ?_
    refine lv_goto (tgt := 10) hx hb dX6_isReal_6 (by decide) ?_
    exact W.zret (v := 1) hx hb hr (by first | rfl | exact pq_nz) (fun t ht hW => ⟨congrArg (fun z => Outcome.returned (some (Value.int z))) (show _ = rf_isReal p0 from Eq.symm (show rf_isReal p0 = _ from (if_neg h1))), ht⟩) (fun q hq => absurd hq List.not_mem_nil) dX6_isReal_10
def rf_places (p0 : Int32) : Int32 := if p0 = 2 then 23 else (52)
set_option maxHeartbeats 4000000 in
set_option maxRecDepth 100000 in
theorem mt_X6_places (l : Launch) (p0 : Int32) : Met l yX6_places wsX6_places ({ frames := 0, cells := 0, slots := 0, locals := 0 }) (va_Pc [.int p0] (fun _ => True)) (pq_V (.int (rf_places p0))) 0 0 (fun _ => False) := by
  refine Met.ofW (cc := cX6_places) (maxL := 1) (ret := (some .int)) (by decide) rfl ?_
  intro p e s m args below meth c s₁ B hml hv
  obtain ⟨rfl, -⟩ := hv
  have hx := B.exec
  have hb := B.bytes
  have hr := B.returns
  have hts := atoms_spec (ws := wsX6_places) B.pre
  have hown : s.vm.findClass RX6 = some m.cls := findClass_of_methodNamed B.named
  have hlocks := B.notSynchronized
  have hl := lv_entry ([.int p0]) (n := 1) (Nat.le_of_ble_eq_true rfl)
  rw [lg_entry_eq]
  generalize (lg_sl ([.int p0]) ++ List.replicate (1 - (lg_sl ([.int p0])).length) Slot.unset).toArray = ls at hl ⊢
  have hl : lv_has ls 1 [(0, .int p0)] := hl
  refine lv_iload_n hx hb dX6_places_0 rfl (lv_at hl 0 rfl) ?_
  refine lv_iconst (v := 2) hx hb dX6_places_1 (by decide) ?_
  refine lv_icmp_ne (tgt := 10) hx hb dX6_places_2 (by decide) (fun h1 => ?_) (fun h1 => ?_)
  · refine lv_bipush (v := 52) hx hb dX6_places_10 (by decide) ?_
    exact W.iret (v := 52) hx hb hr (fun t ht hW => ⟨congrArg (fun z => Outcome.returned (some (Value.int z))) (show _ = rf_places p0 from Eq.symm (show rf_places p0 = _ from (if_neg h1))), ht⟩) (fun q hq => absurd hq List.not_mem_nil) dX6_places_12
  · refine lv_bipush (v := 23) hx hb dX6_places_5 (by decide) ?_
    refine lv_goto (tgt := 12) hx hb dX6_places_7 (by decide) ?_
    exact W.iret (v := 23) hx hb hr (fun t ht hW => ⟨congrArg (fun z => Outcome.returned (some (Value.int z))) (show _ = rf_places p0 from Eq.symm (show rf_places p0 = _ from (if_pos h1))), ht⟩) (fun q hq => absurd hq List.not_mem_nil) dX6_places_12
def rf_signBit (p0 : Int32) : Int64 := if p0 = 2 then 2147483648 else ((-9223372036854775808))
set_option maxHeartbeats 4000000 in
set_option maxRecDepth 100000 in
theorem mt_X6_signBit (l : Launch) (p0 : Int32) : Met l yX6_signBit wsX6_signBit ({ frames := 0, cells := 0, slots := 0, locals := 0 }) (va_Pc [.int p0] (fun _ => True)) (pq_V (.long (rf_signBit p0))) 0 0 (fun _ => False) := by
  refine Met.ofW (cc := cX6_signBit) (maxL := 1) (ret := (some .long)) (by decide) rfl ?_
  intro p e s m args below meth c s₁ B hml hv
  obtain ⟨rfl, -⟩ := hv
  have hx := B.exec
  have hb := B.bytes
  have hr := B.returns
  have hts := atoms_spec (ws := wsX6_signBit) B.pre
  have hown : s.vm.findClass RX6 = some m.cls := findClass_of_methodNamed B.named
  have hlocks := B.notSynchronized
  have hl := lv_entry ([.int p0]) (n := 1) (Nat.le_of_ble_eq_true rfl)
  rw [lg_entry_eq]
  generalize (lg_sl ([.int p0]) ++ List.replicate (1 - (lg_sl ([.int p0])).length) Slot.unset).toArray = ls at hl ⊢
  have hl : lv_has ls 1 [(0, .int p0)] := hl
  refine lv_iload_n hx hb dX6_signBit_0 rfl (lv_at hl 0 rfl) ?_
  refine lv_iconst (v := 2) hx hb dX6_signBit_1 (by decide) ?_
  refine lv_icmp_ne (tgt := 11) hx hb dX6_signBit_2 (by decide) (fun h1 => ?_) (fun h1 => ?_)
  · refine lv_ldc2 hx hb hown (hts (.constantLong RX6 62 (-9223372036854775808)) (by decide +kernel)) dX6_signBit_11 ?_
    exact W.lret (v := (-9223372036854775808)) hx hb hr (fun t ht hW => ⟨congrArg (fun z => Outcome.returned (some (Value.long z))) (show _ = rf_signBit p0 from Eq.symm (show rf_signBit p0 = _ from (if_neg h1))), ht⟩) (fun q hq => absurd hq List.not_mem_nil) dX6_signBit_14
  · refine lv_ldc2 hx hb hown (hts (.constantLong RX6 60 (2147483648)) (by decide +kernel)) dX6_signBit_5 ?_
    refine lv_goto (tgt := 14) hx hb dX6_signBit_8 (by decide) ?_
    exact W.lret (v := 2147483648) hx hb hr (fun t ht hW => ⟨congrArg (fun z => Outcome.returned (some (Value.long z))) (show _ = rf_signBit p0 from Eq.symm (show rf_signBit p0 = _ from (if_pos h1))), ht⟩) (fun q hq => absurd hq List.not_mem_nil) dX6_signBit_14
def rf_endless (p0 : Int32) : Int64 := if p0 = 2 then 2139095040 else (9218868437227405312)
set_option maxHeartbeats 4000000 in
set_option maxRecDepth 100000 in
theorem mt_X6_endless (l : Launch) (p0 : Int32) : Met l yX6_endless wsX6_endless ({ frames := 0, cells := 0, slots := 0, locals := 0 }) (va_Pc [.int p0] (fun _ => True)) (pq_V (.long (rf_endless p0))) 0 0 (fun _ => False) := by
  refine Met.ofW (cc := cX6_endless) (maxL := 1) (ret := (some .long)) (by decide) rfl ?_
  intro p e s m args below meth c s₁ B hml hv
  obtain ⟨rfl, -⟩ := hv
  have hx := B.exec
  have hb := B.bytes
  have hr := B.returns
  have hts := atoms_spec (ws := wsX6_endless) B.pre
  have hown : s.vm.findClass RX6 = some m.cls := findClass_of_methodNamed B.named
  have hlocks := B.notSynchronized
  have hl := lv_entry ([.int p0]) (n := 1) (Nat.le_of_ble_eq_true rfl)
  rw [lg_entry_eq]
  generalize (lg_sl ([.int p0]) ++ List.replicate (1 - (lg_sl ([.int p0])).length) Slot.unset).toArray = ls at hl ⊢
  have hl : lv_has ls 1 [(0, .int p0)] := hl
  refine lv_iload_n hx hb dX6_endless_0 rfl (lv_at hl 0 rfl) ?_
  refine lv_iconst (v := 2) hx hb dX6_endless_1 (by decide) ?_
  refine lv_icmp_ne (tgt := 11) hx hb dX6_endless_2 (by decide) (fun h1 => ?_) (fun h1 => ?_)
  · refine lv_ldc2 hx hb hown (hts (.constantLong RX6 66 (9218868437227405312)) (by decide +kernel)) dX6_endless_11 ?_
    exact W.lret (v := 9218868437227405312) hx hb hr (fun t ht hW => ⟨congrArg (fun z => Outcome.returned (some (Value.long z))) (show _ = rf_endless p0 from Eq.symm (show rf_endless p0 = _ from (if_neg h1))), ht⟩) (fun q hq => absurd hq List.not_mem_nil) dX6_endless_14
  · refine lv_ldc2 hx hb hown (hts (.constantLong RX6 64 (2139095040)) (by decide +kernel)) dX6_endless_5 ?_
    refine lv_goto (tgt := 14) hx hb dX6_endless_8 (by decide) ?_
    exact W.lret (v := 2139095040) hx hb hr (fun t ht hW => ⟨congrArg (fun z => Outcome.returned (some (Value.long z))) (show _ = rf_endless p0 from Eq.symm (show rf_endless p0 = _ from (if_pos h1))), ht⟩) (fun q hq => absurd hq List.not_mem_nil) dX6_endless_14
def rf_one (p0 : Int32) : Int64 := if p0 = 2 then 1065353216 else (4607182418800017408)
set_option maxHeartbeats 4000000 in
set_option maxRecDepth 100000 in
theorem mt_X6_one (l : Launch) (p0 : Int32) : Met l yX6_one wsX6_one ({ frames := 0, cells := 0, slots := 0, locals := 0 }) (va_Pc [.int p0] (fun _ => True)) (pq_V (.long (rf_one p0))) 0 0 (fun _ => False) := by
  refine Met.ofW (cc := cX6_one) (maxL := 1) (ret := (some .long)) (by decide) rfl ?_
  intro p e s m args below meth c s₁ B hml hv
  obtain ⟨rfl, -⟩ := hv
  have hx := B.exec
  have hb := B.bytes
  have hr := B.returns
  have hts := atoms_spec (ws := wsX6_one) B.pre
  have hown : s.vm.findClass RX6 = some m.cls := findClass_of_methodNamed B.named
  have hlocks := B.notSynchronized
  have hl := lv_entry ([.int p0]) (n := 1) (Nat.le_of_ble_eq_true rfl)
  rw [lg_entry_eq]
  generalize (lg_sl ([.int p0]) ++ List.replicate (1 - (lg_sl ([.int p0])).length) Slot.unset).toArray = ls at hl ⊢
  have hl : lv_has ls 1 [(0, .int p0)] := hl
  refine lv_iload_n hx hb dX6_one_0 rfl (lv_at hl 0 rfl) ?_
  refine lv_iconst (v := 2) hx hb dX6_one_1 (by decide) ?_
  refine lv_icmp_ne (tgt := 11) hx hb dX6_one_2 (by decide) (fun h1 => ?_) (fun h1 => ?_)
  · refine lv_ldc2 hx hb hown (hts (.constantLong RX6 70 (4607182418800017408)) (by decide +kernel)) dX6_one_11 ?_
    exact W.lret (v := 4607182418800017408) hx hb hr (fun t ht hW => ⟨congrArg (fun z => Outcome.returned (some (Value.long z))) (show _ = rf_one p0 from Eq.symm (show rf_one p0 = _ from (if_neg h1))), ht⟩) (fun q hq => absurd hq List.not_mem_nil) dX6_one_14
  · refine lv_ldc2 hx hb hown (hts (.constantLong RX6 68 (1065353216)) (by decide +kernel)) dX6_one_5 ?_
    refine lv_goto (tgt := 14) hx hb dX6_one_8 (by decide) ?_
    exact W.lret (v := 1065353216) hx hb hr (fun t ht hW => ⟨congrArg (fun z => Outcome.returned (some (Value.long z))) (show _ = rf_one p0 from Eq.symm (show rf_one p0 = _ from (if_pos h1))), ht⟩) (fun q hq => absurd hq List.not_mem_nil) dX6_one_14
def rf_cut (p0 : Int32) (p1 : Int64) : Int64 := if p0 = 0 then (Int32.toInt64 (Int64.toInt32 p1)) else (if p0 = 2 then (Int32.toInt64 (Int64.toInt32 p1)) else (p1))
set_option maxHeartbeats 4000000 in
set_option maxRecDepth 100000 in
theorem mt_X6_cut (l : Launch) (p0 : Int32) (p1 : Int64) : Met l yX6_cut wsX6_cut ({ frames := 0, cells := 0, slots := 0, locals := 0 }) (va_Pc [.int p0, .long p1] (fun _ => True)) (pq_V (.long (rf_cut p0 p1))) 0 0 (fun _ => False) := by
  refine Met.ofW (cc := cX6_cut) (maxL := 3) (ret := (some .long)) (by decide) rfl ?_
  intro p e s m args below meth c s₁ B hml hv
  obtain ⟨rfl, -⟩ := hv
  have hx := B.exec
  have hb := B.bytes
  have hr := B.returns
  have hts := atoms_spec (ws := wsX6_cut) B.pre
  have hown : s.vm.findClass RX6 = some m.cls := findClass_of_methodNamed B.named
  have hlocks := B.notSynchronized
  have hl := lv_entry ([.int p0, .long p1]) (n := 3) (Nat.le_of_ble_eq_true rfl)
  rw [lg_entry_eq]
  generalize (lg_sl ([.int p0, .long p1]) ++ List.replicate (3 - (lg_sl ([.int p0, .long p1])).length) Slot.unset).toArray = ls at hl ⊢
  have hl : lv_has ls 3 [(0, .int p0), (1, .long p1)] := hl
  refine lv_iload_n hx hb dX6_cut_0 rfl (lv_at hl 0 rfl) ?_
  refine lv_if_eq (tgt := 9) hx hb dX6_cut_1 (by decide) (fun h1 => ?_) (fun h1 => ?_)
  · refine lv_lload_n hx hb dX6_cut_9 rfl (lv_at hl 1 rfl) ?_
    refine lv_l2i (v := (Int64.toInt32 p1)) hx hb dX6_cut_10 rfl ?_
    refine lv_i2l (v := (Int32.toInt64 (Int64.toInt32 p1))) hx hb dX6_cut_11 rfl ?_
    refine lv_goto (tgt := 16) hx hb dX6_cut_12 (by decide) ?_
    exact W.lret (v := (Int32.toInt64 (Int64.toInt32 p1))) hx hb hr (fun t ht hW => ⟨congrArg (fun z => Outcome.returned (some (Value.long z))) (show _ = rf_cut p0 p1 from Eq.symm (show rf_cut p0 p1 = _ from (if_pos h1))), ht⟩) (fun q hq => absurd hq List.not_mem_nil) dX6_cut_16
  · refine lv_iload_n hx hb dX6_cut_4 rfl (lv_at hl 0 rfl) ?_
    refine lv_iconst (v := 2) hx hb dX6_cut_5 (by decide) ?_
    refine lv_icmp_ne (tgt := 15) hx hb dX6_cut_6 (by decide) (fun h2 => ?_) (fun h2 => ?_)
    · refine lv_lload_n hx hb dX6_cut_15 rfl (lv_at hl 1 rfl) ?_
      exact W.lret (v := p1) hx hb hr (fun t ht hW => ⟨congrArg (fun z => Outcome.returned (some (Value.long z))) (show _ = rf_cut p0 p1 from Eq.symm (show rf_cut p0 p1 = _ from ((if_neg h1).trans (if_neg h2)))), ht⟩) (fun q hq => absurd hq List.not_mem_nil) dX6_cut_16
    · refine lv_lload_n hx hb dX6_cut_9 rfl (lv_at hl 1 rfl) ?_
      refine lv_l2i (v := (Int64.toInt32 p1)) hx hb dX6_cut_10 rfl ?_
      refine lv_i2l (v := (Int32.toInt64 (Int64.toInt32 p1))) hx hb dX6_cut_11 rfl ?_
      refine lv_goto (tgt := 16) hx hb dX6_cut_12 (by decide) ?_
      exact W.lret (v := (Int32.toInt64 (Int64.toInt32 p1))) hx hb hr (fun t ht hW => ⟨congrArg (fun z => Outcome.returned (some (Value.long z))) (show _ = rf_cut p0 p1 from Eq.symm (show rf_cut p0 p1 = _ from ((if_neg h1).trans (if_pos h2)))), ht⟩) (fun q hq => absurd hq List.not_mem_nil) dX6_cut_16
def rf_form (p0 : Int32) (p1 : Int64) : Int64 := if p0 = 2 then (p1 &&& 4294967295) else (p1)
set_option maxHeartbeats 4000000 in
set_option maxRecDepth 100000 in
theorem mt_X6_form (l : Launch) (p0 : Int32) (p1 : Int64) : Met l yX6_form wsX6_form ({ frames := 0, cells := 0, slots := 0, locals := 0 }) (va_Pc [.int p0, .long p1] (fun _ => True)) (pq_V (.long (rf_form p0 p1))) 0 0 (fun _ => False) := by
  refine Met.ofW (cc := cX6_form) (maxL := 3) (ret := (some .long)) (by decide) rfl ?_
  intro p e s m args below meth c s₁ B hml hv
  obtain ⟨rfl, -⟩ := hv
  have hx := B.exec
  have hb := B.bytes
  have hr := B.returns
  have hts := atoms_spec (ws := wsX6_form) B.pre
  have hown : s.vm.findClass RX6 = some m.cls := findClass_of_methodNamed B.named
  have hlocks := B.notSynchronized
  have hl := lv_entry ([.int p0, .long p1]) (n := 3) (Nat.le_of_ble_eq_true rfl)
  rw [lg_entry_eq]
  generalize (lg_sl ([.int p0, .long p1]) ++ List.replicate (3 - (lg_sl ([.int p0, .long p1])).length) Slot.unset).toArray = ls at hl ⊢
  have hl : lv_has ls 3 [(0, .int p0), (1, .long p1)] := hl
  refine lv_iload_n hx hb dX6_form_0 rfl (lv_at hl 0 rfl) ?_
  refine lv_iconst (v := 2) hx hb dX6_form_1 (by decide) ?_
  refine lv_icmp_ne (tgt := 13) hx hb dX6_form_2 (by decide) (fun h1 => ?_) (fun h1 => ?_)
  · refine lv_lload_n hx hb dX6_form_13 rfl (lv_at hl 1 rfl) ?_
    exact W.lret (v := p1) hx hb hr (fun t ht hW => ⟨congrArg (fun z => Outcome.returned (some (Value.long z))) (show _ = rf_form p0 p1 from Eq.symm (show rf_form p0 p1 = _ from (if_neg h1))), ht⟩) (fun q hq => absurd hq List.not_mem_nil) dX6_form_14
  · refine lv_lload_n hx hb dX6_form_5 rfl (lv_at hl 1 rfl) ?_
    refine lv_ldc2 hx hb hown (hts (.constantLong RX6 72 (4294967295)) (by decide +kernel)) dX6_form_6 ?_
    refine lv_land hx hb dX6_form_9 ?_
    refine lv_goto (tgt := 14) hx hb dX6_form_10 (by decide) ?_
    exact W.lret (v := (p1 &&& 4294967295)) hx hb hr (fun t ht hW => ⟨congrArg (fun z => Outcome.returned (some (Value.long z))) (show _ = rf_form p0 p1 from Eq.symm (show rf_form p0 p1 = _ from (if_pos h1))), ht⟩) (fun q hq => absurd hq List.not_mem_nil) dX6_form_14
def rf_amountBits (p0 : Int32) (p1 : Int64) : Int64 := ((rf_form p0 p1) &&& ((rf_signBit p0) ^^^ (-1)))
set_option maxHeartbeats 4000000 in
set_option maxRecDepth 100000 in
theorem mt_X6_amountBits (l : Launch) (p0 : Int32) (p1 : Int64) : Met l yX6_amountBits wsX6_amountBits ({ frames := 1, cells := 0, slots := 0, locals := 22 }) (va_Pc [.int p0, .long p1] (fun _ => True)) (pq_V (.long (rf_amountBits p0 p1))) 0 0 (fun _ => False) := by
  refine Met.ofW (cc := cX6_amountBits) (maxL := 3) (ret := (some .long)) (by decide) rfl ?_
  intro p e s m args below meth c s₁ B hml hv
  obtain ⟨rfl, -⟩ := hv
  have hx := B.exec
  have hb := B.bytes
  have hr := B.returns
  have hts := atoms_spec (ws := wsX6_amountBits) B.pre
  have hown : s.vm.findClass RX6 = some m.cls := findClass_of_methodNamed B.named
  have hlocks := B.notSynchronized
  have hl := lv_entry ([.int p0, .long p1]) (n := 3) (Nat.le_of_ble_eq_true rfl)
  rw [lg_entry_eq]
  generalize (lg_sl ([.int p0, .long p1]) ++ List.replicate (3 - (lg_sl ([.int p0, .long p1])).length) Slot.unset).toArray = ls at hl ⊢
  have hl : lv_has ls 3 [(0, .int p0), (1, .long p1)] := hl
  refine lv_iload_n hx hb dX6_amountBits_0 rfl (lv_at hl 0 rfl) ?_
  refine lv_lload_n hx hb dX6_amountBits_1 rfl (lv_at hl 1 rfl) ?_
  refine pq_call (va_runS (As := [.int p0, .long p1]) (rest := []) ⟨hx, hb, hml, hown, hts⟩ (mt_X6_form l p0 p1) (va_cwS 2 hts gX6_amountBits_X6_form rfl rfl rfl (by decide +kernel) ⟨Nat.le_of_ble_eq_true rfl, Nat.le_of_ble_eq_true rfl⟩) ⟨fun a U g mk q => q, fun U hU hW => ⟨rfl, trivial⟩⟩ rfl rfl hl.1 rfl (lv_room (Nat.le_of_ble_eq_true rfl)) dX6_amountBits_2 ⟨Nat.zero_le _, Nat.zero_le _⟩) ?_
  refine lv_iload_n hx hb dX6_amountBits_5 rfl (lv_at hl 0 rfl) ?_
  refine pq_call (va_runS (As := [.int p0]) (rest := [.long (rf_form p0 p1)]) ⟨hx, hb, hml, hown, hts⟩ (mt_X6_signBit l p0) (va_cwS 1 hts gX6_amountBits_X6_signBit rfl rfl rfl (by decide +kernel) ⟨Nat.le_of_ble_eq_true rfl, Nat.le_of_ble_eq_true rfl⟩) ⟨fun a U g mk q => q, fun U hU hW => ⟨rfl, trivial⟩⟩ rfl rfl hl.1 rfl (lv_room (Nat.le_of_ble_eq_true rfl)) dX6_amountBits_6 ⟨Nat.zero_le _, Nat.zero_le _⟩) ?_
  refine lv_ldc2 hx hb hown (hts (.constantLong RX6 82 (-1)) (by decide +kernel)) dX6_amountBits_9 ?_
  refine lv_lxor hx hb dX6_amountBits_12 ?_
  refine lv_land hx hb dX6_amountBits_13 ?_
  exact W.lret (v := ((rf_form p0 p1) &&& ((rf_signBit p0) ^^^ (-1)))) hx hb hr (fun t ht hW => ⟨congrArg (fun z => Outcome.returned (some (Value.long z))) (show _ = rf_amountBits p0 p1 from Eq.symm (show rf_amountBits p0 p1 = _ from rfl)), ht⟩) (fun q hq => absurd hq List.not_mem_nil) dX6_amountBits_14
def rf_isMinus (p0 : Int32) (p1 : Int64) : Int32 := if 0 ≤ p1 then 0 else (1)
set_option maxHeartbeats 4000000 in
set_option maxRecDepth 100000 in
theorem mt_X6_isMinus (l : Launch) (p0 : Int32) (p1 : Int64) : Met l yX6_isMinus wsX6_isMinus ({ frames := 0, cells := 0, slots := 0, locals := 0 }) (va_Pc [.int p0, .long p1] (fun _ => True)) (pq_V (.int (rf_isMinus p0 p1))) 0 0 (fun _ => False) := by
  refine Met.ofW (cc := cX6_isMinus) (maxL := 3) (ret := (some .boolean)) (by decide) rfl ?_
  intro p e s m args below meth c s₁ B hml hv
  obtain ⟨rfl, -⟩ := hv
  have hx := B.exec
  have hb := B.bytes
  have hr := B.returns
  have hts := atoms_spec (ws := wsX6_isMinus) B.pre
  have hown : s.vm.findClass RX6 = some m.cls := findClass_of_methodNamed B.named
  have hlocks := B.notSynchronized
  have hl := lv_entry ([.int p0, .long p1]) (n := 3) (Nat.le_of_ble_eq_true rfl)
  rw [lg_entry_eq]
  generalize (lg_sl ([.int p0, .long p1]) ++ List.replicate (3 - (lg_sl ([.int p0, .long p1])).length) Slot.unset).toArray = ls at hl ⊢
  have hl : lv_has ls 3 [(0, .int p0), (1, .long p1)] := hl
  refine lv_lload_n hx hb dX6_isMinus_0 rfl (lv_at hl 1 rfl) ?_
  refine lv_lconst (v := 0) hx hb dX6_isMinus_1 (by decide) ?_
  refine pq_lcmp_ge (tgt := 10) hx hb dX6_isMinus_2 dX6_isMinus_3 (by decide) (fun h1 => ?_) (fun h1 => ?_)
  · refine lv_iconst (v := 0) hx hb dX6_isMinus_10 (by decide) ?_
    exact W.zret (v := 0) hx hb hr (by first | rfl | exact pq_nz) (fun t ht hW => ⟨congrArg (fun z => Outcome.returned (some (Value.int z))) (show _ = rf_isMinus p0 p1 from Eq.symm (show rf_isMinus p0 p1 = _ from (if_pos h1))), ht⟩) (fun q hq => absurd hq List.not_mem_nil) dX6_isMinus_11
  · refine lv_iconst (v := 1) hx hb dX6_isMinus_6 (by decide) ?_
    refine lv_goto (tgt := 11) hx hb dX6_isMinus_7 (by decide) ?_
    exact W.zret (v := 1) hx hb hr (by first | rfl | exact pq_nz) (fun t ht hW => ⟨congrArg (fun z => Outcome.returned (some (Value.int z))) (show _ = rf_isMinus p0 p1 from Eq.symm (show rf_isMinus p0 p1 = _ from (if_neg h1))), ht⟩) (fun q hq => absurd hq List.not_mem_nil) dX6_isMinus_11
def rf_isNone (p0 : Int32) (p1 : Int64) : Int32 := if (rf_isReal p0) = 0 then 0 else (if (rf_amountBits p0 (rf_cut p0 p1)) ≤ (rf_endless p0) then 0 else (1))
set_option maxHeartbeats 4000000 in
set_option maxRecDepth 100000 in
theorem mt_X6_isNone (l : Launch) (p0 : Int32) (p1 : Int64) : Met l yX6_isNone wsX6_isNone ({ frames := 2, cells := 0, slots := 0, locals := 44 }) (va_Pc [.int p0, .long p1] (fun _ => True)) (pq_V (.int (rf_isNone p0 p1))) 0 0 (fun _ => False) := by
  refine Met.ofW (cc := cX6_isNone) (maxL := 3) (ret := (some .boolean)) (by decide) rfl ?_
  intro p e s m args below meth c s₁ B hml hv
  obtain ⟨rfl, -⟩ := hv
  have hx := B.exec
  have hb := B.bytes
  have hr := B.returns
  have hts := atoms_spec (ws := wsX6_isNone) B.pre
  have hown : s.vm.findClass RX6 = some m.cls := findClass_of_methodNamed B.named
  have hlocks := B.notSynchronized
  have hl := lv_entry ([.int p0, .long p1]) (n := 3) (Nat.le_of_ble_eq_true rfl)
  rw [lg_entry_eq]
  generalize (lg_sl ([.int p0, .long p1]) ++ List.replicate (3 - (lg_sl ([.int p0, .long p1])).length) Slot.unset).toArray = ls at hl ⊢
  have hl : lv_has ls 3 [(0, .int p0), (1, .long p1)] := hl
  refine lv_iload_n hx hb dX6_isNone_0 rfl (lv_at hl 0 rfl) ?_
  refine pq_call (va_runS (As := [.int p0]) (rest := []) ⟨hx, hb, hml, hown, hts⟩ (mt_X6_isReal l p0) (va_cwS 1 hts gX6_isNone_X6_isReal rfl rfl rfl (by decide +kernel) ⟨Nat.le_of_ble_eq_true rfl, Nat.le_of_ble_eq_true rfl⟩) ⟨fun a U g mk q => q, fun U hU hW => ⟨rfl, trivial⟩⟩ rfl rfl hl.1 rfl (lv_room (Nat.le_of_ble_eq_true rfl)) dX6_isNone_1 ⟨Nat.zero_le _, Nat.zero_le _⟩) ?_
  refine lv_if_eq (tgt := 28) hx hb dX6_isNone_4 (by decide) (fun h1 => ?_) (fun h1 => ?_)
  · refine lv_iconst (v := 0) hx hb dX6_isNone_28 (by decide) ?_
    exact W.zret (v := 0) hx hb hr (by first | rfl | exact pq_nz) (fun t ht hW => ⟨congrArg (fun z => Outcome.returned (some (Value.int z))) (show _ = rf_isNone p0 p1 from Eq.symm (show rf_isNone p0 p1 = _ from (if_pos h1))), ht⟩) (fun q hq => absurd hq List.not_mem_nil) dX6_isNone_29
  · refine lv_iload_n hx hb dX6_isNone_7 rfl (lv_at hl 0 rfl) ?_
    refine lv_iload_n hx hb dX6_isNone_8 rfl (lv_at hl 0 rfl) ?_
    refine lv_lload_n hx hb dX6_isNone_9 rfl (lv_at hl 1 rfl) ?_
    refine pq_call (va_runS (As := [.int p0, .long p1]) (rest := [.int p0]) ⟨hx, hb, hml, hown, hts⟩ (mt_X6_cut l p0 p1) (va_cwS 2 hts gX6_isNone_X6_cut rfl rfl rfl (by decide +kernel) ⟨Nat.le_of_ble_eq_true rfl, Nat.le_of_ble_eq_true rfl⟩) ⟨fun a U g mk q => q, fun U hU hW => ⟨rfl, trivial⟩⟩ rfl rfl hl.1 rfl (lv_room (Nat.le_of_ble_eq_true rfl)) dX6_isNone_10 ⟨Nat.zero_le _, Nat.zero_le _⟩) ?_
    refine pq_call (va_runS (As := [.int p0, .long (rf_cut p0 p1)]) (rest := []) ⟨hx, hb, hml, hown, hts⟩ (mt_X6_amountBits l p0 (rf_cut p0 p1)) (va_cwS 2 hts gX6_isNone_X6_amountBits rfl rfl rfl (by decide +kernel) ⟨Nat.le_of_ble_eq_true rfl, Nat.le_of_ble_eq_true rfl⟩) ⟨fun a U g mk q => q, fun U hU hW => ⟨rfl, trivial⟩⟩ rfl rfl hl.1 rfl (lv_room (Nat.le_of_ble_eq_true rfl)) dX6_isNone_13 ⟨Nat.zero_le _, Nat.zero_le _⟩) ?_
    refine lv_iload_n hx hb dX6_isNone_16 rfl (lv_at hl 0 rfl) ?_
    refine pq_call (va_runS (As := [.int p0]) (rest := [.long (rf_amountBits p0 (rf_cut p0 p1))]) ⟨hx, hb, hml, hown, hts⟩ (mt_X6_endless l p0) (va_cwS 1 hts gX6_isNone_X6_endless rfl rfl rfl (by decide +kernel) ⟨Nat.le_of_ble_eq_true rfl, Nat.le_of_ble_eq_true rfl⟩) ⟨fun a U g mk q => q, fun U hU hW => ⟨rfl, trivial⟩⟩ rfl rfl hl.1 rfl (lv_room (Nat.le_of_ble_eq_true rfl)) dX6_isNone_17 ⟨Nat.zero_le _, Nat.zero_le _⟩) ?_
    refine pq_lcmp_le (tgt := 28) hx hb dX6_isNone_20 dX6_isNone_21 (by decide) (fun h2 => ?_) (fun h2 => ?_)
    · refine lv_iconst (v := 0) hx hb dX6_isNone_28 (by decide) ?_
      exact W.zret (v := 0) hx hb hr (by first | rfl | exact pq_nz) (fun t ht hW => ⟨congrArg (fun z => Outcome.returned (some (Value.int z))) (show _ = rf_isNone p0 p1 from Eq.symm (show rf_isNone p0 p1 = _ from ((if_neg h1).trans (if_pos h2)))), ht⟩) (fun q hq => absurd hq List.not_mem_nil) dX6_isNone_29
    · refine lv_iconst (v := 1) hx hb dX6_isNone_24 (by decide) ?_
      refine lv_goto (tgt := 29) hx hb dX6_isNone_25 (by decide) ?_
      exact W.zret (v := 1) hx hb hr (by first | rfl | exact pq_nz) (fun t ht hW => ⟨congrArg (fun z => Outcome.returned (some (Value.int z))) (show _ = rf_isNone p0 p1 from Eq.symm (show rf_isNone p0 p1 = _ from ((if_neg h1).trans (if_neg h2)))), ht⟩) (fun q hq => absurd hq List.not_mem_nil) dX6_isNone_29
def rf_rank (p0 : Int32) (p1 : Int64) : Int64 := if (rf_isReal p0) = 0 then p1 else (if (rf_isMinus p0 p1) = 0 then (rf_amountBits p0 p1) else (((-1) - (rf_amountBits p0 p1))))
set_option maxHeartbeats 4000000 in
set_option maxRecDepth 100000 in
theorem mt_X6_rank (l : Launch) (p0 : Int32) (p1 : Int64) : Met l yX6_rank wsX6_rank ({ frames := 2, cells := 0, slots := 0, locals := 44 }) (va_Pc [.int p0, .long p1] (fun _ => True)) (pq_V (.long (rf_rank p0 p1))) 0 0 (fun _ => False) := by
  refine Met.ofW (cc := cX6_rank) (maxL := 5) (ret := (some .long)) (by decide) rfl ?_
  intro p e s m args below meth c s₁ B hml hv
  obtain ⟨rfl, -⟩ := hv
  have hx := B.exec
  have hb := B.bytes
  have hr := B.returns
  have hts := atoms_spec (ws := wsX6_rank) B.pre
  have hown : s.vm.findClass RX6 = some m.cls := findClass_of_methodNamed B.named
  have hlocks := B.notSynchronized
  have hl := lv_entry ([.int p0, .long p1]) (n := 5) (Nat.le_of_ble_eq_true rfl)
  rw [lg_entry_eq]
  generalize (lg_sl ([.int p0, .long p1]) ++ List.replicate (5 - (lg_sl ([.int p0, .long p1])).length) Slot.unset).toArray = ls at hl ⊢
  have hl : lv_has ls 5 [(0, .int p0), (1, .long p1)] := hl
  refine lv_iload_n hx hb dX6_rank_0 rfl (lv_at hl 0 rfl) ?_
  refine pq_call (va_runS (As := [.int p0]) (rest := []) ⟨hx, hb, hml, hown, hts⟩ (mt_X6_isReal l p0) (va_cwS 1 hts gX6_rank_X6_isReal rfl rfl rfl (by decide +kernel) ⟨Nat.le_of_ble_eq_true rfl, Nat.le_of_ble_eq_true rfl⟩) ⟨fun a U g mk q => q, fun U hU hW => ⟨rfl, trivial⟩⟩ rfl rfl hl.1 rfl (lv_room (Nat.le_of_ble_eq_true rfl)) dX6_rank_1 ⟨Nat.zero_le _, Nat.zero_le _⟩) ?_
  refine lv_if_ne (tgt := 9) hx hb dX6_rank_4 (by decide) (fun h1 => ?_) (fun h1 => ?_)
  · refine lv_iload_n hx hb dX6_rank_9 rfl (lv_at hl 0 rfl) ?_
    refine lv_lload_n hx hb dX6_rank_10 rfl (lv_at hl 1 rfl) ?_
    refine pq_call (va_runS (As := [.int p0, .long p1]) (rest := []) ⟨hx, hb, hml, hown, hts⟩ (mt_X6_amountBits l p0 p1) (va_cwS 2 hts gX6_rank_X6_amountBits rfl rfl rfl (by decide +kernel) ⟨Nat.le_of_ble_eq_true rfl, Nat.le_of_ble_eq_true rfl⟩) ⟨fun a U g mk q => q, fun U hU hW => ⟨rfl, trivial⟩⟩ rfl rfl hl.1 rfl (lv_room (Nat.le_of_ble_eq_true rfl)) dX6_rank_11 ⟨Nat.zero_le _, Nat.zero_le _⟩) ?_
    refine lv_lstore_n (lv' := [(3, .long (rf_amountBits p0 p1)), (0, .int p0), (1, .long p1)]) hx hb dX6_rank_14 rfl hl (by decide) rfl (fun ls hl => ?_)
    refine lv_iload_n hx hb dX6_rank_15 rfl (lv_at hl 1 rfl) ?_
    refine lv_lload_n hx hb dX6_rank_16 rfl (lv_at hl 2 rfl) ?_
    refine pq_call (va_runS (As := [.int p0, .long p1]) (rest := []) ⟨hx, hb, hml, hown, hts⟩ (mt_X6_isMinus l p0 p1) (va_cwS 2 hts gX6_rank_X6_isMinus rfl rfl rfl (by decide +kernel) ⟨Nat.le_of_ble_eq_true rfl, Nat.le_of_ble_eq_true rfl⟩) ⟨fun a U g mk q => q, fun U hU hW => ⟨rfl, trivial⟩⟩ rfl rfl hl.1 rfl (lv_room (Nat.le_of_ble_eq_true rfl)) dX6_rank_17 ⟨Nat.zero_le _, Nat.zero_le _⟩) ?_
    refine lv_if_eq (tgt := 31) hx hb dX6_rank_20 (by decide) (fun h2 => ?_) (fun h2 => ?_)
    · refine lv_lload_n hx hb dX6_rank_31 rfl (lv_at hl 0 rfl) ?_
      exact W.lret (v := (rf_amountBits p0 p1)) hx hb hr (fun t ht hW => ⟨congrArg (fun z => Outcome.returned (some (Value.long z))) (show _ = rf_rank p0 p1 from Eq.symm (show rf_rank p0 p1 = _ from ((if_neg h1).trans (if_pos h2)))), ht⟩) (fun q hq => absurd hq List.not_mem_nil) dX6_rank_32
    · refine lv_ldc2 hx hb hown (hts (.constantLong RX6 82 (-1)) (by decide +kernel)) dX6_rank_23 ?_
      refine lv_lload_n hx hb dX6_rank_26 rfl (lv_at hl 0 rfl) ?_
      refine lv_lsub hx hb dX6_rank_27 ?_
      refine lv_goto (tgt := 32) hx hb dX6_rank_28 (by decide) ?_
      exact W.lret (v := ((-1) - (rf_amountBits p0 p1))) hx hb hr (fun t ht hW => ⟨congrArg (fun z => Outcome.returned (some (Value.long z))) (show _ = rf_rank p0 p1 from Eq.symm (show rf_rank p0 p1 = _ from ((if_neg h1).trans (if_neg h2)))), ht⟩) (fun q hq => absurd hq List.not_mem_nil) dX6_rank_32
  · refine lv_lload_n hx hb dX6_rank_7 rfl (lv_at hl 1 rfl) ?_
    exact W.lret (v := p1) hx hb hr (fun t ht hW => ⟨congrArg (fun z => Outcome.returned (some (Value.long z))) (show _ = rf_rank p0 p1 from Eq.symm (show rf_rank p0 p1 = _ from (if_pos h1))), ht⟩) (fun q hq => absurd hq List.not_mem_nil) dX6_rank_8
def rf_height (p0 : Int32) (p1 : Int64) : Int64 := if (rf_isReal p0) = 0 then (rf_rank p0 p1) else (if (rf_amountBits p0 p1) = 0 then 0 else ((rf_rank p0 p1)))
set_option maxHeartbeats 4000000 in
set_option maxRecDepth 100000 in
theorem mt_X6_height (l : Launch) (p0 : Int32) (p1 : Int64) : Met l yX6_height wsX6_height ({ frames := 3, cells := 0, slots := 0, locals := 68 }) (va_Pc [.int p0, .long p1] (fun _ => True)) (pq_V (.long (rf_height p0 p1))) 0 0 (fun _ => False) := by
  refine Met.ofW (cc := cX6_height) (maxL := 3) (ret := (some .long)) (by decide) rfl ?_
  intro p e s m args below meth c s₁ B hml hv
  obtain ⟨rfl, -⟩ := hv
  have hx := B.exec
  have hb := B.bytes
  have hr := B.returns
  have hts := atoms_spec (ws := wsX6_height) B.pre
  have hown : s.vm.findClass RX6 = some m.cls := findClass_of_methodNamed B.named
  have hlocks := B.notSynchronized
  have hl := lv_entry ([.int p0, .long p1]) (n := 3) (Nat.le_of_ble_eq_true rfl)
  rw [lg_entry_eq]
  generalize (lg_sl ([.int p0, .long p1]) ++ List.replicate (3 - (lg_sl ([.int p0, .long p1])).length) Slot.unset).toArray = ls at hl ⊢
  have hl : lv_has ls 3 [(0, .int p0), (1, .long p1)] := hl
  refine lv_iload_n hx hb dX6_height_0 rfl (lv_at hl 0 rfl) ?_
  refine pq_call (va_runS (As := [.int p0]) (rest := []) ⟨hx, hb, hml, hown, hts⟩ (mt_X6_isReal l p0) (va_cwS 1 hts gX6_height_X6_isReal rfl rfl rfl (by decide +kernel) ⟨Nat.le_of_ble_eq_true rfl, Nat.le_of_ble_eq_true rfl⟩) ⟨fun a U g mk q => q, fun U hU hW => ⟨rfl, trivial⟩⟩ rfl rfl hl.1 rfl (lv_room (Nat.le_of_ble_eq_true rfl)) dX6_height_1 ⟨Nat.zero_le _, Nat.zero_le _⟩) ?_
  refine lv_if_eq (tgt := 21) hx hb dX6_height_4 (by decide) (fun h1 => ?_) (fun h1 => ?_)
  · refine lv_iload_n hx hb dX6_height_21 rfl (lv_at hl 0 rfl) ?_
    refine lv_lload_n hx hb dX6_height_22 rfl (lv_at hl 1 rfl) ?_
    refine pq_call (va_runS (As := [.int p0, .long p1]) (rest := []) ⟨hx, hb, hml, hown, hts⟩ (mt_X6_rank l p0 p1) (va_cwS 2 hts gX6_height_X6_rank rfl rfl rfl (by decide +kernel) ⟨Nat.le_of_ble_eq_true rfl, Nat.le_of_ble_eq_true rfl⟩) ⟨fun a U g mk q => q, fun U hU hW => ⟨rfl, trivial⟩⟩ rfl rfl hl.1 rfl (lv_room (Nat.le_of_ble_eq_true rfl)) dX6_height_23 ⟨Nat.zero_le _, Nat.zero_le _⟩) ?_
    exact W.lret (v := (rf_rank p0 p1)) hx hb hr (fun t ht hW => ⟨congrArg (fun z => Outcome.returned (some (Value.long z))) (show _ = rf_height p0 p1 from Eq.symm (show rf_height p0 p1 = _ from (if_pos h1))), ht⟩) (fun q hq => absurd hq List.not_mem_nil) dX6_height_26
  · refine lv_iload_n hx hb dX6_height_7 rfl (lv_at hl 0 rfl) ?_
    refine lv_lload_n hx hb dX6_height_8 rfl (lv_at hl 1 rfl) ?_
    refine pq_call (va_runS (As := [.int p0, .long p1]) (rest := []) ⟨hx, hb, hml, hown, hts⟩ (mt_X6_amountBits l p0 p1) (va_cwS 2 hts gX6_height_X6_amountBits rfl rfl rfl (by decide +kernel) ⟨Nat.le_of_ble_eq_true rfl, Nat.le_of_ble_eq_true rfl⟩) ⟨fun a U g mk q => q, fun U hU hW => ⟨rfl, trivial⟩⟩ rfl rfl hl.1 rfl (lv_room (Nat.le_of_ble_eq_true rfl)) dX6_height_9 ⟨Nat.zero_le _, Nat.zero_le _⟩) ?_
    refine lv_lconst (v := 0) hx hb dX6_height_12 (by decide) ?_
    refine pq_lcmp_ne (tgt := 21) hx hb dX6_height_13 dX6_height_14 (by decide) (fun h2 => ?_) (fun h2 => ?_)
    · refine lv_iload_n hx hb dX6_height_21 rfl (lv_at hl 0 rfl) ?_
      refine lv_lload_n hx hb dX6_height_22 rfl (lv_at hl 1 rfl) ?_
      refine pq_call (va_runS (As := [.int p0, .long p1]) (rest := []) ⟨hx, hb, hml, hown, hts⟩ (mt_X6_rank l p0 p1) (va_cwS 2 hts gX6_height_X6_rank rfl rfl rfl (by decide +kernel) ⟨Nat.le_of_ble_eq_true rfl, Nat.le_of_ble_eq_true rfl⟩) ⟨fun a U g mk q => q, fun U hU hW => ⟨rfl, trivial⟩⟩ rfl rfl hl.1 rfl (lv_room (Nat.le_of_ble_eq_true rfl)) dX6_height_23 ⟨Nat.zero_le _, Nat.zero_le _⟩) ?_
      exact W.lret (v := (rf_rank p0 p1)) hx hb hr (fun t ht hW => ⟨congrArg (fun z => Outcome.returned (some (Value.long z))) (show _ = rf_height p0 p1 from Eq.symm (show rf_height p0 p1 = _ from ((if_neg h1).trans (if_neg h2)))), ht⟩) (fun q hq => absurd hq List.not_mem_nil) dX6_height_26
    · refine lv_lconst (v := 0) hx hb dX6_height_17 (by decide) ?_
      refine lv_goto (tgt := 26) hx hb dX6_height_18 (by decide) ?_
      exact W.lret (v := 0) hx hb hr (fun t ht hW => ⟨congrArg (fun z => Outcome.returned (some (Value.long z))) (show _ = rf_height p0 p1 from Eq.symm (show rf_height p0 p1 = _ from ((if_neg h1).trans (if_pos h2)))), ht⟩) (fun q hq => absurd hq List.not_mem_nil) dX6_height_26
def rf_greater (p0 : Int32) (p1 : Int64) (p2 : Int64) : Int64 := if (rf_rank p0 p2) ≤ (rf_rank p0 p1) then p1 else (p2)
set_option maxHeartbeats 4000000 in
set_option maxRecDepth 100000 in
theorem mt_X6_greater (l : Launch) (p0 : Int32) (p1 : Int64) (p2 : Int64) : Met l yX6_greater wsX6_greater ({ frames := 3, cells := 0, slots := 0, locals := 68 }) (va_Pc [.int p0, .long p1, .long p2] (fun _ => True)) (pq_V (.long (rf_greater p0 p1 p2))) 0 0 (fun _ => False) := by
  refine Met.ofW (cc := cX6_greater) (maxL := 5) (ret := (some .long)) (by decide) rfl ?_
  intro p e s m args below meth c s₁ B hml hv
  obtain ⟨rfl, -⟩ := hv
  have hx := B.exec
  have hb := B.bytes
  have hr := B.returns
  have hts := atoms_spec (ws := wsX6_greater) B.pre
  have hown : s.vm.findClass RX6 = some m.cls := findClass_of_methodNamed B.named
  have hlocks := B.notSynchronized
  have hl := lv_entry ([.int p0, .long p1, .long p2]) (n := 5) (Nat.le_of_ble_eq_true rfl)
  rw [lg_entry_eq]
  generalize (lg_sl ([.int p0, .long p1, .long p2]) ++ List.replicate (5 - (lg_sl ([.int p0, .long p1, .long p2])).length) Slot.unset).toArray = ls at hl ⊢
  have hl : lv_has ls 5 [(0, .int p0), (1, .long p1), (3, .long p2)] := hl
  refine lv_iload_n hx hb dX6_greater_0 rfl (lv_at hl 0 rfl) ?_
  refine lv_lload_n hx hb dX6_greater_1 rfl (lv_at hl 1 rfl) ?_
  refine pq_call (va_runS (As := [.int p0, .long p1]) (rest := []) ⟨hx, hb, hml, hown, hts⟩ (mt_X6_rank l p0 p1) (va_cwS 2 hts gX6_greater_X6_rank rfl rfl rfl (by decide +kernel) ⟨Nat.le_of_ble_eq_true rfl, Nat.le_of_ble_eq_true rfl⟩) ⟨fun a U g mk q => q, fun U hU hW => ⟨rfl, trivial⟩⟩ rfl rfl hl.1 rfl (lv_room (Nat.le_of_ble_eq_true rfl)) dX6_greater_2 ⟨Nat.zero_le _, Nat.zero_le _⟩) ?_
  refine lv_iload_n hx hb dX6_greater_5 rfl (lv_at hl 0 rfl) ?_
  refine lv_lload_n hx hb dX6_greater_6 rfl (lv_at hl 2 rfl) ?_
  refine pq_call (va_runS (As := [.int p0, .long p2]) (rest := [.long (rf_rank p0 p1)]) ⟨hx, hb, hml, hown, hts⟩ (mt_X6_rank l p0 p2) (va_cwS 2 hts gX6_greater_X6_rank rfl rfl rfl (by decide +kernel) ⟨Nat.le_of_ble_eq_true rfl, Nat.le_of_ble_eq_true rfl⟩) ⟨fun a U g mk q => q, fun U hU hW => ⟨rfl, trivial⟩⟩ rfl rfl hl.1 rfl (lv_room (Nat.le_of_ble_eq_true rfl)) dX6_greater_7 ⟨Nat.zero_le _, Nat.zero_le _⟩) ?_
  refine pq_lcmp_ge (tgt := 18) hx hb dX6_greater_10 dX6_greater_11 (by decide) (fun h1 => ?_) (fun h1 => ?_)
  · refine lv_lload_n hx hb dX6_greater_18 rfl (lv_at hl 1 rfl) ?_
    exact W.lret (v := p1) hx hb hr (fun t ht hW => ⟨congrArg (fun z => Outcome.returned (some (Value.long z))) (show _ = rf_greater p0 p1 p2 from Eq.symm (show rf_greater p0 p1 p2 = _ from (if_pos h1))), ht⟩) (fun q hq => absurd hq List.not_mem_nil) dX6_greater_19
  · refine lv_lload_n hx hb dX6_greater_14 rfl (lv_at hl 2 rfl) ?_
    refine lv_goto (tgt := 19) hx hb dX6_greater_15 (by decide) ?_
    exact W.lret (v := p2) hx hb hr (fun t ht hW => ⟨congrArg (fun z => Outcome.returned (some (Value.long z))) (show _ = rf_greater p0 p1 p2 from Eq.symm (show rf_greater p0 p1 p2 = _ from (if_neg h1))), ht⟩) (fun q hq => absurd hq List.not_mem_nil) dX6_greater_19
def rf_lesser (p0 : Int32) (p1 : Int64) (p2 : Int64) : Int64 := if (rf_rank p0 p1) ≤ (rf_rank p0 p2) then p1 else (p2)
set_option maxHeartbeats 4000000 in
set_option maxRecDepth 100000 in
theorem mt_X6_lesser (l : Launch) (p0 : Int32) (p1 : Int64) (p2 : Int64) : Met l yX6_lesser wsX6_lesser ({ frames := 3, cells := 0, slots := 0, locals := 68 }) (va_Pc [.int p0, .long p1, .long p2] (fun _ => True)) (pq_V (.long (rf_lesser p0 p1 p2))) 0 0 (fun _ => False) := by
  refine Met.ofW (cc := cX6_lesser) (maxL := 5) (ret := (some .long)) (by decide) rfl ?_
  intro p e s m args below meth c s₁ B hml hv
  obtain ⟨rfl, -⟩ := hv
  have hx := B.exec
  have hb := B.bytes
  have hr := B.returns
  have hts := atoms_spec (ws := wsX6_lesser) B.pre
  have hown : s.vm.findClass RX6 = some m.cls := findClass_of_methodNamed B.named
  have hlocks := B.notSynchronized
  have hl := lv_entry ([.int p0, .long p1, .long p2]) (n := 5) (Nat.le_of_ble_eq_true rfl)
  rw [lg_entry_eq]
  generalize (lg_sl ([.int p0, .long p1, .long p2]) ++ List.replicate (5 - (lg_sl ([.int p0, .long p1, .long p2])).length) Slot.unset).toArray = ls at hl ⊢
  have hl : lv_has ls 5 [(0, .int p0), (1, .long p1), (3, .long p2)] := hl
  refine lv_iload_n hx hb dX6_lesser_0 rfl (lv_at hl 0 rfl) ?_
  refine lv_lload_n hx hb dX6_lesser_1 rfl (lv_at hl 2 rfl) ?_
  refine pq_call (va_runS (As := [.int p0, .long p2]) (rest := []) ⟨hx, hb, hml, hown, hts⟩ (mt_X6_rank l p0 p2) (va_cwS 2 hts gX6_lesser_X6_rank rfl rfl rfl (by decide +kernel) ⟨Nat.le_of_ble_eq_true rfl, Nat.le_of_ble_eq_true rfl⟩) ⟨fun a U g mk q => q, fun U hU hW => ⟨rfl, trivial⟩⟩ rfl rfl hl.1 rfl (lv_room (Nat.le_of_ble_eq_true rfl)) dX6_lesser_2 ⟨Nat.zero_le _, Nat.zero_le _⟩) ?_
  refine lv_iload_n hx hb dX6_lesser_5 rfl (lv_at hl 0 rfl) ?_
  refine lv_lload_n hx hb dX6_lesser_6 rfl (lv_at hl 1 rfl) ?_
  refine pq_call (va_runS (As := [.int p0, .long p1]) (rest := [.long (rf_rank p0 p2)]) ⟨hx, hb, hml, hown, hts⟩ (mt_X6_rank l p0 p1) (va_cwS 2 hts gX6_lesser_X6_rank rfl rfl rfl (by decide +kernel) ⟨Nat.le_of_ble_eq_true rfl, Nat.le_of_ble_eq_true rfl⟩) ⟨fun a U g mk q => q, fun U hU hW => ⟨rfl, trivial⟩⟩ rfl rfl hl.1 rfl (lv_room (Nat.le_of_ble_eq_true rfl)) dX6_lesser_7 ⟨Nat.zero_le _, Nat.zero_le _⟩) ?_
  refine pq_lcmp_ge (tgt := 18) hx hb dX6_lesser_10 dX6_lesser_11 (by decide) (fun h1 => ?_) (fun h1 => ?_)
  · refine lv_lload_n hx hb dX6_lesser_18 rfl (lv_at hl 1 rfl) ?_
    exact W.lret (v := p1) hx hb hr (fun t ht hW => ⟨congrArg (fun z => Outcome.returned (some (Value.long z))) (show _ = rf_lesser p0 p1 p2 from Eq.symm (show rf_lesser p0 p1 p2 = _ from (if_pos h1))), ht⟩) (fun q hq => absurd hq List.not_mem_nil) dX6_lesser_19
  · refine lv_lload_n hx hb dX6_lesser_14 rfl (lv_at hl 2 rfl) ?_
    refine lv_goto (tgt := 19) hx hb dX6_lesser_15 (by decide) ?_
    exact W.lret (v := p2) hx hb hr (fun t ht hW => ⟨congrArg (fun z => Outcome.returned (some (Value.long z))) (show _ = rf_lesser p0 p1 p2 from Eq.symm (show rf_lesser p0 p1 p2 = _ from (if_neg h1))), ht⟩) (fun q hq => absurd hq List.not_mem_nil) dX6_lesser_19
def rf_isAbove (p0 : Int32) (p1 : Int64) (p2 : Int64) : Int32 := if (rf_height p0 p1) ≤ (rf_height p0 p2) then 0 else (1)
set_option maxHeartbeats 4000000 in
set_option maxRecDepth 100000 in
theorem mt_X6_isAbove (l : Launch) (p0 : Int32) (p1 : Int64) (p2 : Int64) : Met l yX6_isAbove wsX6_isAbove ({ frames := 4, cells := 0, slots := 0, locals := 90 }) (va_Pc [.int p0, .long p1, .long p2] (fun _ => True)) (pq_V (.int (rf_isAbove p0 p1 p2))) 0 0 (fun _ => False) := by
  refine Met.ofW (cc := cX6_isAbove) (maxL := 5) (ret := (some .boolean)) (by decide) rfl ?_
  intro p e s m args below meth c s₁ B hml hv
  obtain ⟨rfl, -⟩ := hv
  have hx := B.exec
  have hb := B.bytes
  have hr := B.returns
  have hts := atoms_spec (ws := wsX6_isAbove) B.pre
  have hown : s.vm.findClass RX6 = some m.cls := findClass_of_methodNamed B.named
  have hlocks := B.notSynchronized
  have hl := lv_entry ([.int p0, .long p1, .long p2]) (n := 5) (Nat.le_of_ble_eq_true rfl)
  rw [lg_entry_eq]
  generalize (lg_sl ([.int p0, .long p1, .long p2]) ++ List.replicate (5 - (lg_sl ([.int p0, .long p1, .long p2])).length) Slot.unset).toArray = ls at hl ⊢
  have hl : lv_has ls 5 [(0, .int p0), (1, .long p1), (3, .long p2)] := hl
  refine lv_iload_n hx hb dX6_isAbove_0 rfl (lv_at hl 0 rfl) ?_
  refine lv_lload_n hx hb dX6_isAbove_1 rfl (lv_at hl 1 rfl) ?_
  refine pq_call (va_runS (As := [.int p0, .long p1]) (rest := []) ⟨hx, hb, hml, hown, hts⟩ (mt_X6_height l p0 p1) (va_cwS 2 hts gX6_isAbove_X6_height rfl rfl rfl (by decide +kernel) ⟨Nat.le_of_ble_eq_true rfl, Nat.le_of_ble_eq_true rfl⟩) ⟨fun a U g mk q => q, fun U hU hW => ⟨rfl, trivial⟩⟩ rfl rfl hl.1 rfl (lv_room (Nat.le_of_ble_eq_true rfl)) dX6_isAbove_2 ⟨Nat.zero_le _, Nat.zero_le _⟩) ?_
  refine lv_iload_n hx hb dX6_isAbove_5 rfl (lv_at hl 0 rfl) ?_
  refine lv_lload_n hx hb dX6_isAbove_6 rfl (lv_at hl 2 rfl) ?_
  refine pq_call (va_runS (As := [.int p0, .long p2]) (rest := [.long (rf_height p0 p1)]) ⟨hx, hb, hml, hown, hts⟩ (mt_X6_height l p0 p2) (va_cwS 2 hts gX6_isAbove_X6_height rfl rfl rfl (by decide +kernel) ⟨Nat.le_of_ble_eq_true rfl, Nat.le_of_ble_eq_true rfl⟩) ⟨fun a U g mk q => q, fun U hU hW => ⟨rfl, trivial⟩⟩ rfl rfl hl.1 rfl (lv_room (Nat.le_of_ble_eq_true rfl)) dX6_isAbove_7 ⟨Nat.zero_le _, Nat.zero_le _⟩) ?_
  refine pq_lcmp_le (tgt := 18) hx hb dX6_isAbove_10 dX6_isAbove_11 (by decide) (fun h1 => ?_) (fun h1 => ?_)
  · refine lv_iconst (v := 0) hx hb dX6_isAbove_18 (by decide) ?_
    exact W.zret (v := 0) hx hb hr (by first | rfl | exact pq_nz) (fun t ht hW => ⟨congrArg (fun z => Outcome.returned (some (Value.int z))) (show _ = rf_isAbove p0 p1 p2 from Eq.symm (show rf_isAbove p0 p1 p2 = _ from (if_pos h1))), ht⟩) (fun q hq => absurd hq List.not_mem_nil) dX6_isAbove_19
  · refine lv_iconst (v := 1) hx hb dX6_isAbove_14 (by decide) ?_
    refine lv_goto (tgt := 19) hx hb dX6_isAbove_15 (by decide) ?_
    exact W.zret (v := 1) hx hb hr (by first | rfl | exact pq_nz) (fun t ht hW => ⟨congrArg (fun z => Outcome.returned (some (Value.int z))) (show _ = rf_isAbove p0 p1 p2 from Eq.symm (show rf_isAbove p0 p1 p2 = _ from (if_neg h1))), ht⟩) (fun q hq => absurd hq List.not_mem_nil) dX6_isAbove_19
def rf_amount (p0 : Int32) (p1 : Int64) : Int64 := if (rf_isReal p0) = 0 then (rf_cut p0 (if 0 ≤ p1 then p1 else (-p1))) else ((rf_cut p0 (rf_amountBits p0 p1)))
set_option maxHeartbeats 4000000 in
set_option maxRecDepth 100000 in
theorem mt_X6_amount (l : Launch) (p0 : Int32) (p1 : Int64) : Met l yX6_amount wsX6_amount ({ frames := 2, cells := 0, slots := 0, locals := 44 }) (va_Pc [.int p0, .long p1] (fun _ => True)) (pq_V (.long (rf_amount p0 p1))) 0 0 (fun _ => False) := by
  refine Met.ofW (cc := cX6_amount) (maxL := 3) (ret := (some .long)) (by decide) rfl ?_
  intro p e s m args below meth c s₁ B hml hv
  obtain ⟨rfl, -⟩ := hv
  have hx := B.exec
  have hb := B.bytes
  have hr := B.returns
  have hts := atoms_spec (ws := wsX6_amount) B.pre
  have hown : s.vm.findClass RX6 = some m.cls := findClass_of_methodNamed B.named
  have hlocks := B.notSynchronized
  have hl := lv_entry ([.int p0, .long p1]) (n := 3) (Nat.le_of_ble_eq_true rfl)
  rw [lg_entry_eq]
  generalize (lg_sl ([.int p0, .long p1]) ++ List.replicate (3 - (lg_sl ([.int p0, .long p1])).length) Slot.unset).toArray = ls at hl ⊢
  have hl : lv_has ls 3 [(0, .int p0), (1, .long p1)] := hl
  refine lv_iload_n hx hb dX6_amount_0 rfl (lv_at hl 0 rfl) ?_
  refine pq_call (va_runS (As := [.int p0]) (rest := []) ⟨hx, hb, hml, hown, hts⟩ (mt_X6_isReal l p0) (va_cwS 1 hts gX6_amount_X6_isReal rfl rfl rfl (by decide +kernel) ⟨Nat.le_of_ble_eq_true rfl, Nat.le_of_ble_eq_true rfl⟩) ⟨fun a U g mk q => q, fun U hU hW => ⟨rfl, trivial⟩⟩ rfl rfl hl.1 rfl (lv_room (Nat.le_of_ble_eq_true rfl)) dX6_amount_1 ⟨Nat.zero_le _, Nat.zero_le _⟩) ?_
  refine lv_if_eq (tgt := 17) hx hb dX6_amount_4 (by decide) (fun h1 => ?_) (fun h1 => ?_)
  · refine lv_iload_n hx hb dX6_amount_17 rfl (lv_at hl 0 rfl) ?_
    refine lv_lload_n hx hb dX6_amount_18 rfl (lv_at hl 1 rfl) ?_
    refine lv_lconst (v := 0) hx hb dX6_amount_19 (by decide) ?_
    refine pq_cut (g2 := F0 m 30 ls [.long (if 0 ≤ p1 then p1 else (-p1)), .int p0]) (fun K2 => ?_) ?_
    · refine pq_lcmp_ge (tgt := 29) hx hb dX6_amount_20 dX6_amount_21 (by decide) (fun h3 => ?_) (fun h3 => ?_)
      · refine lv_lload_n hx hb dX6_amount_29 rfl (lv_at hl 1 rfl) ?_
        exact pq_conv K2 (congrArg Value.long (if_pos h3))
      · refine lv_lload_n hx hb dX6_amount_24 rfl (lv_at hl 1 rfl) ?_
        refine lv_lneg hx hb dX6_amount_25 ?_
        refine lv_goto (tgt := 30) hx hb dX6_amount_26 (by decide) ?_
        exact pq_conv K2 (congrArg Value.long (if_neg h3))
    refine pq_call (va_runS (As := [.int p0, .long (if 0 ≤ p1 then p1 else (-p1))]) (rest := []) ⟨hx, hb, hml, hown, hts⟩ (mt_X6_cut l p0 (if 0 ≤ p1 then p1 else (-p1))) (va_cwS 2 hts gX6_amount_X6_cut rfl rfl rfl (by decide +kernel) ⟨Nat.le_of_ble_eq_true rfl, Nat.le_of_ble_eq_true rfl⟩) ⟨fun a U g mk q => q, fun U hU hW => ⟨rfl, trivial⟩⟩ rfl rfl hl.1 rfl (lv_room (Nat.le_of_ble_eq_true rfl)) dX6_amount_30 ⟨Nat.zero_le _, Nat.zero_le _⟩) ?_
    exact W.lret (v := (rf_cut p0 (if 0 ≤ p1 then p1 else (-p1)))) hx hb hr (fun t ht hW => ⟨congrArg (fun z => Outcome.returned (some (Value.long z))) (show _ = rf_amount p0 p1 from Eq.symm (show rf_amount p0 p1 = _ from (if_pos h1))), ht⟩) (fun q hq => absurd hq List.not_mem_nil) dX6_amount_33
  · refine lv_iload_n hx hb dX6_amount_7 rfl (lv_at hl 0 rfl) ?_
    refine lv_iload_n hx hb dX6_amount_8 rfl (lv_at hl 0 rfl) ?_
    refine lv_lload_n hx hb dX6_amount_9 rfl (lv_at hl 1 rfl) ?_
    refine pq_call (va_runS (As := [.int p0, .long p1]) (rest := [.int p0]) ⟨hx, hb, hml, hown, hts⟩ (mt_X6_amountBits l p0 p1) (va_cwS 2 hts gX6_amount_X6_amountBits rfl rfl rfl (by decide +kernel) ⟨Nat.le_of_ble_eq_true rfl, Nat.le_of_ble_eq_true rfl⟩) ⟨fun a U g mk q => q, fun U hU hW => ⟨rfl, trivial⟩⟩ rfl rfl hl.1 rfl (lv_room (Nat.le_of_ble_eq_true rfl)) dX6_amount_10 ⟨Nat.zero_le _, Nat.zero_le _⟩) ?_
    refine pq_call (va_runS (As := [.int p0, .long (rf_amountBits p0 p1)]) (rest := []) ⟨hx, hb, hml, hown, hts⟩ (mt_X6_cut l p0 (rf_amountBits p0 p1)) (va_cwS 2 hts gX6_amount_X6_cut rfl rfl rfl (by decide +kernel) ⟨Nat.le_of_ble_eq_true rfl, Nat.le_of_ble_eq_true rfl⟩) ⟨fun a U g mk q => q, fun U hU hW => ⟨rfl, trivial⟩⟩ rfl rfl hl.1 rfl (lv_room (Nat.le_of_ble_eq_true rfl)) dX6_amount_13 ⟨Nat.zero_le _, Nat.zero_le _⟩) ?_
    exact W.lret (v := (rf_cut p0 (rf_amountBits p0 p1))) hx hb hr (fun t ht hW => ⟨congrArg (fun z => Outcome.returned (some (Value.long z))) (show _ = rf_amount p0 p1 from Eq.symm (show rf_amount p0 p1 = _ from (if_neg h1))), ht⟩) (fun q hq => absurd hq List.not_mem_nil) dX6_amount_16
def rf_signed (p0 : Int32) (p1 : Int64) (p2 : Int32) : Int64 := (rf_cut p0 (if p2 = 0 then p1 else (p1 ||| (rf_signBit p0))))
set_option maxHeartbeats 4000000 in
set_option maxRecDepth 100000 in
theorem mt_X6_signed (l : Launch) (p0 : Int32) (p1 : Int64) (p2 : Int32) : Met l yX6_signed wsX6_signed ({ frames := 1, cells := 0, slots := 0, locals := 22 }) (va_Pc [.int p0, .long p1, .int p2] (fun _ => True)) (pq_V (.long (rf_signed p0 p1 p2))) 0 0 (fun _ => False) := by
  refine Met.ofW (cc := cX6_signed) (maxL := 4) (ret := (some .long)) (by decide) rfl ?_
  intro p e s m args below meth c s₁ B hml hv
  obtain ⟨rfl, -⟩ := hv
  have hx := B.exec
  have hb := B.bytes
  have hr := B.returns
  have hts := atoms_spec (ws := wsX6_signed) B.pre
  have hown : s.vm.findClass RX6 = some m.cls := findClass_of_methodNamed B.named
  have hlocks := B.notSynchronized
  have hl := lv_entry ([.int p0, .long p1, .int p2]) (n := 4) (Nat.le_of_ble_eq_true rfl)
  rw [lg_entry_eq]
  generalize (lg_sl ([.int p0, .long p1, .int p2]) ++ List.replicate (4 - (lg_sl ([.int p0, .long p1, .int p2])).length) Slot.unset).toArray = ls at hl ⊢
  have hl : lv_has ls 4 [(0, .int p0), (1, .long p1), (3, .int p2)] := hl
  refine lv_iload_n hx hb dX6_signed_0 rfl (lv_at hl 0 rfl) ?_
  refine lv_iload_n hx hb dX6_signed_1 rfl (lv_at hl 2 rfl) ?_
  refine pq_cut (g2 := F0 m 15 ls [.long (if p2 = 0 then p1 else (p1 ||| (rf_signBit p0))), .int p0]) (fun K1 => ?_) ?_
  · refine lv_if_eq (tgt := 14) hx hb dX6_signed_2 (by decide) (fun h2 => ?_) (fun h2 => ?_)
    · refine lv_lload_n hx hb dX6_signed_14 rfl (lv_at hl 1 rfl) ?_
      exact pq_conv K1 (congrArg Value.long (if_pos h2))
    · refine lv_lload_n hx hb dX6_signed_5 rfl (lv_at hl 1 rfl) ?_
      refine lv_iload_n hx hb dX6_signed_6 rfl (lv_at hl 0 rfl) ?_
      refine pq_call (va_runS (As := [.int p0]) (rest := [.long p1, .int p0]) ⟨hx, hb, hml, hown, hts⟩ (mt_X6_signBit l p0) (va_cwS 1 hts gX6_signed_X6_signBit rfl rfl rfl (by decide +kernel) ⟨Nat.le_of_ble_eq_true rfl, Nat.le_of_ble_eq_true rfl⟩) ⟨fun a U g mk q => q, fun U hU hW => ⟨rfl, trivial⟩⟩ rfl rfl hl.1 rfl (lv_room (Nat.le_of_ble_eq_true rfl)) dX6_signed_7 ⟨Nat.zero_le _, Nat.zero_le _⟩) ?_
      refine lv_lor hx hb dX6_signed_10 ?_
      refine lv_goto (tgt := 15) hx hb dX6_signed_11 (by decide) ?_
      exact pq_conv K1 (congrArg Value.long (if_neg h2))
  refine pq_call (va_runS (As := [.int p0, .long (if p2 = 0 then p1 else (p1 ||| (rf_signBit p0)))]) (rest := []) ⟨hx, hb, hml, hown, hts⟩ (mt_X6_cut l p0 (if p2 = 0 then p1 else (p1 ||| (rf_signBit p0)))) (va_cwS 2 hts gX6_signed_X6_cut rfl rfl rfl (by decide +kernel) ⟨Nat.le_of_ble_eq_true rfl, Nat.le_of_ble_eq_true rfl⟩) ⟨fun a U g mk q => q, fun U hU hW => ⟨rfl, trivial⟩⟩ rfl rfl hl.1 rfl (lv_room (Nat.le_of_ble_eq_true rfl)) dX6_signed_15 ⟨Nat.zero_le _, Nat.zero_le _⟩) ?_
  exact W.lret (v := (rf_cut p0 (if p2 = 0 then p1 else (p1 ||| (rf_signBit p0))))) hx hb hr (fun t ht hW => ⟨congrArg (fun z => Outcome.returned (some (Value.long z))) (show _ = rf_signed p0 p1 p2 from Eq.symm (show rf_signed p0 p1 p2 = _ from rfl)), ht⟩) (fun q hq => absurd hq List.not_mem_nil) dX6_signed_18
def rf_toWhole (p0 : Int32) (p1 : Int64) (p2 : Int32) : Int64 := if (rf_places p0) ≤ ((Int64.toInt32 ((rf_amountBits p0 p1) >>> (Int32.toInt64 (rf_places p0) &&& 63))) - (if p0 = 2 then (127 : Int32) else (1023 : Int32))) then p1 else (if (rf_amountBits p0 p1) = 0 then p1 else (if 0 ≤ ((Int64.toInt32 ((rf_amountBits p0 p1) >>> (Int32.toInt64 (rf_places p0) &&& 63))) - (if p0 = 2 then (127 : Int32) else (1023 : Int32))) then if ((rf_amountBits p0 p1) &&& (((1 : Int64) <<< (Int32.toInt64 ((rf_places p0) - ((Int64.toInt32 ((rf_amountBits p0 p1) >>> (Int32.toInt64 (rf_places p0) &&& 63))) - (if p0 = 2 then (127 : Int32) else (1023 : Int32)))) &&& 63)) - 1)) = 0 then p1 else ((rf_signed p0 (if (if p2 = 5 then (if (((1 : Int64) <<< (Int32.toInt64 ((rf_places p0) - ((Int64.toInt32 ((rf_amountBits p0 p1) >>> (Int32.toInt64 (rf_places p0) &&& 63))) - (if p0 = 2 then (127 : Int32) else (1023 : Int32)))) &&& 63)) / 2) < ((rf_amountBits p0 p1) &&& (((1 : Int64) <<< (Int32.toInt64 ((rf_places p0) - ((Int64.toInt32 ((rf_amountBits p0 p1) >>> (Int32.toInt64 (rf_places p0) &&& 63))) - (if p0 = 2 then (127 : Int32) else (1023 : Int32)))) &&& 63)) - 1)) then (1 : Int32) else (if ((rf_amountBits p0 p1) &&& (((1 : Int64) <<< (Int32.toInt64 ((rf_places p0) - ((Int64.toInt32 ((rf_amountBits p0 p1) >>> (Int32.toInt64 (rf_places p0) &&& 63))) - (if p0 = 2 then (127 : Int32) else (1023 : Int32)))) &&& 63)) - 1)) = (((1 : Int64) <<< (Int32.toInt64 ((rf_places p0) - ((Int64.toInt32 ((rf_amountBits p0 p1) >>> (Int32.toInt64 (rf_places p0) &&& 63))) - (if p0 = 2 then (127 : Int32) else (1023 : Int32)))) &&& 63)) / 2) then (if (if ((Int64.toInt32 ((rf_amountBits p0 p1) >>> (Int32.toInt64 (rf_places p0) &&& 63))) - (if p0 = 2 then (127 : Int32) else (1023 : Int32))) = 0 then (1 : Int32) else (if ((rf_amountBits p0 p1) &&& ((1 : Int64) <<< (Int32.toInt64 ((rf_places p0) - ((Int64.toInt32 ((rf_amountBits p0 p1) >>> (Int32.toInt64 (rf_places p0) &&& 63))) - (if p0 = 2 then (127 : Int32) else (1023 : Int32)))) &&& 63))) = 0 then (0 : Int32) else (1 : Int32))) = 0 then (0 : Int32) else (1 : Int32)) else (0 : Int32))) else (if p2 = 3 then (rf_isMinus p0 p1) else (if (rf_isMinus p0 p1) = 0 then (1 : Int32) else (0 : Int32)))) = 0 then ((rf_amountBits p0 p1) - ((rf_amountBits p0 p1) &&& (((1 : Int64) <<< (Int32.toInt64 ((rf_places p0) - ((Int64.toInt32 ((rf_amountBits p0 p1) >>> (Int32.toInt64 (rf_places p0) &&& 63))) - (if p0 = 2 then (127 : Int32) else (1023 : Int32)))) &&& 63)) - 1))) else (((rf_amountBits p0 p1) - ((rf_amountBits p0 p1) &&& (((1 : Int64) <<< (Int32.toInt64 ((rf_places p0) - ((Int64.toInt32 ((rf_amountBits p0 p1) >>> (Int32.toInt64 (rf_places p0) &&& 63))) - (if p0 = 2 then (127 : Int32) else (1023 : Int32)))) &&& 63)) - 1))) + ((1 : Int64) <<< (Int32.toInt64 ((rf_places p0) - ((Int64.toInt32 ((rf_amountBits p0 p1) >>> (Int32.toInt64 (rf_places p0) &&& 63))) - (if p0 = 2 then (127 : Int32) else (1023 : Int32)))) &&& 63)))) (rf_isMinus p0 p1))) else ((rf_signed p0 (if (if p2 = 5 then (if ((Int64.toInt32 ((rf_amountBits p0 p1) >>> (Int32.toInt64 (rf_places p0) &&& 63))) - (if p0 = 2 then (127 : Int32) else (1023 : Int32))) = (-1) then (if ((rf_amountBits p0 p1) &&& (((1 : Int64) <<< (Int32.toInt64 (rf_places p0) &&& 63)) - 1)) ≤ 0 then (0 : Int32) else (1 : Int32)) else (0 : Int32)) else (if p2 = 3 then (rf_isMinus p0 p1) else (if (rf_isMinus p0 p1) = 0 then (1 : Int32) else (0 : Int32)))) = 0 then (0 : Int64) else (rf_one p0)) (rf_isMinus p0 p1)))))
set_option maxHeartbeats 4000000 in
set_option maxRecDepth 100000 in
theorem mt_X6_toWhole (l : Launch) (p0 : Int32) (p1 : Int64) (p2 : Int32) : Met l yX6_toWhole wsX6_toWhole ({ frames := 2, cells := 0, slots := 0, locals := 45 }) (va_Pc [.int p0, .long p1, .int p2] (fun _ => True)) (pq_V (.long (rf_toWhole p0 p1 p2))) 0 0 (fun _ => False) := by
  refine Met.ofW (cc := cX6_toWhole) (maxL := 16) (ret := (some .long)) (by decide) rfl ?_
  intro p e s m args below meth c s₁ B hml hv
  obtain ⟨rfl, -⟩ := hv
  have hx := B.exec
  have hb := B.bytes
  have hr := B.returns
  have hts := atoms_spec (ws := wsX6_toWhole) B.pre
  have hown : s.vm.findClass RX6 = some m.cls := findClass_of_methodNamed B.named
  have hlocks := B.notSynchronized
  have hl := lv_entry ([.int p0, .long p1, .int p2]) (n := 16) (Nat.le_of_ble_eq_true rfl)
  rw [lg_entry_eq]
  generalize (lg_sl ([.int p0, .long p1, .int p2]) ++ List.replicate (16 - (lg_sl ([.int p0, .long p1, .int p2])).length) Slot.unset).toArray = ls at hl ⊢
  have hl : lv_has ls 16 [(0, .int p0), (1, .long p1), (3, .int p2)] := hl
  refine lv_iload_n hx hb dX6_toWhole_0 rfl (lv_at hl 0 rfl) ?_
  refine lv_lload_n hx hb dX6_toWhole_1 rfl (lv_at hl 1 rfl) ?_
  refine pq_call (va_runS (As := [.int p0, .long p1]) (rest := []) ⟨hx, hb, hml, hown, hts⟩ (mt_X6_isMinus l p0 p1) (va_cwS 2 hts gX6_toWhole_X6_isMinus rfl rfl rfl (by decide +kernel) ⟨Nat.le_of_ble_eq_true rfl, Nat.le_of_ble_eq_true rfl⟩) ⟨fun a U g mk q => q, fun U hU hW => ⟨rfl, trivial⟩⟩ rfl rfl hl.1 rfl (lv_room (Nat.le_of_ble_eq_true rfl)) dX6_toWhole_2 ⟨Nat.zero_le _, Nat.zero_le _⟩) ?_
  refine lv_istore (lv' := [(4, .int (rf_isMinus p0 p1)), (0, .int p0), (1, .long p1), (3, .int p2)]) hx hb dX6_toWhole_5 hl (by decide) rfl (fun ls hl => ?_)
  refine lv_iload_n hx hb dX6_toWhole_7 rfl (lv_at hl 1 rfl) ?_
  refine lv_lload_n hx hb dX6_toWhole_8 rfl (lv_at hl 2 rfl) ?_
  refine pq_call (va_runS (As := [.int p0, .long p1]) (rest := []) ⟨hx, hb, hml, hown, hts⟩ (mt_X6_amountBits l p0 p1) (va_cwS 2 hts gX6_toWhole_X6_amountBits rfl rfl rfl (by decide +kernel) ⟨Nat.le_of_ble_eq_true rfl, Nat.le_of_ble_eq_true rfl⟩) ⟨fun a U g mk q => q, fun U hU hW => ⟨rfl, trivial⟩⟩ rfl rfl hl.1 rfl (lv_room (Nat.le_of_ble_eq_true rfl)) dX6_toWhole_9 ⟨Nat.zero_le _, Nat.zero_le _⟩) ?_
  refine lv_lstore (lv' := [(5, .long (rf_amountBits p0 p1)), (4, .int (rf_isMinus p0 p1)), (0, .int p0), (1, .long p1), (3, .int p2)]) hx hb dX6_toWhole_12 hl (by decide) rfl (fun ls hl => ?_)
  refine lv_iload_n hx hb dX6_toWhole_14 rfl (lv_at hl 2 rfl) ?_
  refine pq_call (va_runS (As := [.int p0]) (rest := []) ⟨hx, hb, hml, hown, hts⟩ (mt_X6_places l p0) (va_cwS 1 hts gX6_toWhole_X6_places rfl rfl rfl (by decide +kernel) ⟨Nat.le_of_ble_eq_true rfl, Nat.le_of_ble_eq_true rfl⟩) ⟨fun a U g mk q => q, fun U hU hW => ⟨rfl, trivial⟩⟩ rfl rfl hl.1 rfl (lv_room (Nat.le_of_ble_eq_true rfl)) dX6_toWhole_15 ⟨Nat.zero_le _, Nat.zero_le _⟩) ?_
  refine lv_istore (lv' := [(7, .int (rf_places p0)), (5, .long (rf_amountBits p0 p1)), (4, .int (rf_isMinus p0 p1)), (0, .int p0), (1, .long p1), (3, .int p2)]) hx hb dX6_toWhole_18 hl (by decide) rfl (fun ls hl => ?_)
  refine lv_lload hx hb dX6_toWhole_20 (lv_at hl 1 rfl) ?_
  refine lv_iload hx hb dX6_toWhole_22 (lv_at hl 0 rfl) ?_
  refine lv_lshr (v := ((rf_amountBits p0 p1) >>> (Int32.toInt64 (rf_places p0) &&& 63))) hx hb dX6_toWhole_24 rfl ?_
  refine lv_l2i (v := (Int64.toInt32 ((rf_amountBits p0 p1) >>> (Int32.toInt64 (rf_places p0) &&& 63)))) hx hb dX6_toWhole_25 rfl ?_
  refine lv_iload_n hx hb dX6_toWhole_26 rfl (lv_at hl 3 rfl) ?_
  refine lv_iconst (v := 2) hx hb dX6_toWhole_27 (by decide) ?_
  refine pq_cut (g2 := F0 m 39 ls [.int (if p0 = 2 then (127 : Int32) else (1023 : Int32)), .int (Int64.toInt32 ((rf_amountBits p0 p1) >>> (Int32.toInt64 (rf_places p0) &&& 63)))]) (fun K1 => ?_) ?_
  · refine lv_icmp_ne (tgt := 36) hx hb dX6_toWhole_28 (by decide) (fun h2 => ?_) (fun h2 => ?_)
    · refine lv_sipush (v := 1023) hx hb dX6_toWhole_36 (by decide) ?_
      exact pq_conv K1 (congrArg Value.int (if_neg h2))
    · refine lv_bipush (v := 127) hx hb dX6_toWhole_31 (by decide) ?_
      refine lv_goto (tgt := 39) hx hb dX6_toWhole_33 (by decide) ?_
      exact pq_conv K1 (congrArg Value.int (if_pos h2))
  refine lv_isub hx hb dX6_toWhole_39 ?_
  refine lv_istore (lv' := [(8, .int ((Int64.toInt32 ((rf_amountBits p0 p1) >>> (Int32.toInt64 (rf_places p0) &&& 63))) - (if p0 = 2 then (127 : Int32) else (1023 : Int32)))), (7, .int (rf_places p0)), (5, .long (rf_amountBits p0 p1)), (4, .int (rf_isMinus p0 p1)), (0, .int p0), (1, .long p1), (3, .int p2)]) hx hb dX6_toWhole_40 hl (by decide) rfl (fun ls hl => ?_)
  refine lv_iload hx hb dX6_toWhole_42 (lv_at hl 0 rfl) ?_
  refine lv_iload hx hb dX6_toWhole_44 (lv_at hl 1 rfl) ?_
  refine lv_icmp_ge (tgt := 56) hx hb dX6_toWhole_46 (by decide) (fun h3 => ?_) (fun h3 => ?_)
  · refine lv_lload_n hx hb dX6_toWhole_56 rfl (lv_at hl 5 rfl) ?_
    exact W.lret (v := p1) hx hb hr (fun t ht hW => ⟨congrArg (fun z => Outcome.returned (some (Value.long z))) (show _ = rf_toWhole p0 p1 p2 from Eq.symm (show rf_toWhole p0 p1 p2 = _ from (if_pos h3))), ht⟩) (fun q hq => absurd hq List.not_mem_nil) dX6_toWhole_57
  · refine lv_lload hx hb dX6_toWhole_49 (lv_at hl 2 rfl) ?_
    refine lv_lconst (v := 0) hx hb dX6_toWhole_51 (by decide) ?_
    refine pq_lcmp_ne (tgt := 58) hx hb dX6_toWhole_52 dX6_toWhole_53 (by decide) (fun h4 => ?_) (fun h4 => ?_)
    · refine lv_iload_n hx hb dX6_toWhole_58 rfl (lv_at hl 6 rfl) ?_
      refine lv_iconst (v := 3) hx hb dX6_toWhole_59 (by decide) ?_
      refine pq_cut (g2 := F0 m 78 ls [.int (if p2 = 3 then (rf_isMinus p0 p1) else (if (rf_isMinus p0 p1) = 0 then (1 : Int32) else (0 : Int32)))]) (fun K5 => ?_) ?_
      · refine lv_icmp_ne (tgt := 68) hx hb dX6_toWhole_60 (by decide) (fun h6 => ?_) (fun h6 => ?_)
        · refine lv_iload hx hb dX6_toWhole_68 (lv_at hl 3 rfl) ?_
          refine lv_if_ne (tgt := 77) hx hb dX6_toWhole_70 (by decide) (fun h7 => ?_) (fun h7 => ?_)
          · refine lv_iconst (v := 0) hx hb dX6_toWhole_77 (by decide) ?_
            exact pq_conv K5 (congrArg Value.int ((if_neg h6).trans (if_neg h7)))
          · refine lv_iconst (v := 1) hx hb dX6_toWhole_73 (by decide) ?_
            refine lv_goto (tgt := 78) hx hb dX6_toWhole_74 (by decide) ?_
            exact pq_conv K5 (congrArg Value.int ((if_neg h6).trans (if_pos h7)))
        · refine lv_iload hx hb dX6_toWhole_63 (lv_at hl 3 rfl) ?_
          refine lv_goto (tgt := 78) hx hb dX6_toWhole_65 (by decide) ?_
          exact pq_conv K5 (congrArg Value.int (if_pos h6))
      refine lv_istore (lv' := [(9, .int (if p2 = 3 then (rf_isMinus p0 p1) else (if (rf_isMinus p0 p1) = 0 then (1 : Int32) else (0 : Int32)))), (8, .int ((Int64.toInt32 ((rf_amountBits p0 p1) >>> (Int32.toInt64 (rf_places p0) &&& 63))) - (if p0 = 2 then (127 : Int32) else (1023 : Int32)))), (7, .int (rf_places p0)), (5, .long (rf_amountBits p0 p1)), (4, .int (rf_isMinus p0 p1)), (0, .int p0), (1, .long p1), (3, .int p2)]) hx hb dX6_toWhole_78 hl (by decide) rfl (fun ls hl => ?_)
      refine lv_iload hx hb dX6_toWhole_80 (lv_at hl 1 rfl) ?_
      refine lv_if_ge (tgt := 142) hx hb dX6_toWhole_82 (by decide) (fun h8 => ?_) (fun h8 => ?_)
      · refine lv_lconst (v := 1) hx hb dX6_toWhole_142 (by decide) ?_
        refine lv_iload hx hb dX6_toWhole_143 (lv_at hl 2 rfl) ?_
        refine lv_iload hx hb dX6_toWhole_145 (lv_at hl 1 rfl) ?_
        refine lv_isub hx hb dX6_toWhole_147 ?_
        refine lv_lshl (v := ((1 : Int64) <<< (Int32.toInt64 ((rf_places p0) - ((Int64.toInt32 ((rf_amountBits p0 p1) >>> (Int32.toInt64 (rf_places p0) &&& 63))) - (if p0 = 2 then (127 : Int32) else (1023 : Int32)))) &&& 63))) hx hb dX6_toWhole_148 rfl ?_
        refine lv_lstore (lv' := [(10, .long ((1 : Int64) <<< (Int32.toInt64 ((rf_places p0) - ((Int64.toInt32 ((rf_amountBits p0 p1) >>> (Int32.toInt64 (rf_places p0) &&& 63))) - (if p0 = 2 then (127 : Int32) else (1023 : Int32)))) &&& 63))), (9, .int (if p2 = 3 then (rf_isMinus p0 p1) else (if (rf_isMinus p0 p1) = 0 then (1 : Int32) else (0 : Int32)))), (8, .int ((Int64.toInt32 ((rf_amountBits p0 p1) >>> (Int32.toInt64 (rf_places p0) &&& 63))) - (if p0 = 2 then (127 : Int32) else (1023 : Int32)))), (7, .int (rf_places p0)), (5, .long (rf_amountBits p0 p1)), (4, .int (rf_isMinus p0 p1)), (0, .int p0), (1, .long p1), (3, .int p2)]) hx hb dX6_toWhole_149 hl (by decide) rfl (fun ls hl => ?_)
        refine lv_lload hx hb dX6_toWhole_151 (lv_at hl 4 rfl) ?_
        refine lv_lload hx hb dX6_toWhole_153 (lv_at hl 0 rfl) ?_
        refine lv_lconst (v := 1) hx hb dX6_toWhole_155 (by decide) ?_
        refine lv_lsub hx hb dX6_toWhole_156 ?_
        refine lv_land hx hb dX6_toWhole_157 ?_
        refine lv_lstore (lv' := [(12, .long ((rf_amountBits p0 p1) &&& (((1 : Int64) <<< (Int32.toInt64 ((rf_places p0) - ((Int64.toInt32 ((rf_amountBits p0 p1) >>> (Int32.toInt64 (rf_places p0) &&& 63))) - (if p0 = 2 then (127 : Int32) else (1023 : Int32)))) &&& 63)) - 1))), (10, .long ((1 : Int64) <<< (Int32.toInt64 ((rf_places p0) - ((Int64.toInt32 ((rf_amountBits p0 p1) >>> (Int32.toInt64 (rf_places p0) &&& 63))) - (if p0 = 2 then (127 : Int32) else (1023 : Int32)))) &&& 63))), (9, .int (if p2 = 3 then (rf_isMinus p0 p1) else (if (rf_isMinus p0 p1) = 0 then (1 : Int32) else (0 : Int32)))), (8, .int ((Int64.toInt32 ((rf_amountBits p0 p1) >>> (Int32.toInt64 (rf_places p0) &&& 63))) - (if p0 = 2 then (127 : Int32) else (1023 : Int32)))), (7, .int (rf_places p0)), (5, .long (rf_amountBits p0 p1)), (4, .int (rf_isMinus p0 p1)), (0, .int p0), (1, .long p1), (3, .int p2)]) hx hb dX6_toWhole_158 hl (by decide) rfl (fun ls hl => ?_)
        refine lv_lload hx hb dX6_toWhole_160 (lv_at hl 0 rfl) ?_
        refine lv_lconst (v := 0) hx hb dX6_toWhole_162 (by decide) ?_
        refine pq_lcmp_ne (tgt := 169) hx hb dX6_toWhole_163 dX6_toWhole_164 (by decide) (fun h9 => ?_) (fun h9 => ?_)
        · refine lv_iload hx hb dX6_toWhole_169 (lv_at hl 3 rfl) ?_
          refine pq_cut (g2 := F0 m 189 ls [.int (if ((Int64.toInt32 ((rf_amountBits p0 p1) >>> (Int32.toInt64 (rf_places p0) &&& 63))) - (if p0 = 2 then (127 : Int32) else (1023 : Int32))) = 0 then (1 : Int32) else (if ((rf_amountBits p0 p1) &&& ((1 : Int64) <<< (Int32.toInt64 ((rf_places p0) - ((Int64.toInt32 ((rf_amountBits p0 p1) >>> (Int32.toInt64 (rf_places p0) &&& 63))) - (if p0 = 2 then (127 : Int32) else (1023 : Int32)))) &&& 63))) = 0 then (0 : Int32) else (1 : Int32)))]) (fun K10 => ?_) ?_
          · refine lv_if_eq (tgt := 184) hx hb dX6_toWhole_171 (by decide) (fun h11 => ?_) (fun h11 => ?_)
            · refine lv_iconst (v := 1) hx hb dX6_toWhole_184 (by decide) ?_
              refine lv_goto (tgt := 189) hx hb dX6_toWhole_185 (by decide) ?_
              exact pq_conv K10 (congrArg Value.int (if_pos h11))
            · refine lv_lload hx hb dX6_toWhole_174 (lv_at hl 5 rfl) ?_
              refine lv_lload hx hb dX6_toWhole_176 (lv_at hl 1 rfl) ?_
              refine lv_land hx hb dX6_toWhole_178 ?_
              refine lv_lconst (v := 0) hx hb dX6_toWhole_179 (by decide) ?_
              refine pq_lcmp_eq (tgt := 188) hx hb dX6_toWhole_180 dX6_toWhole_181 (by decide) (fun h12 => ?_) (fun h12 => ?_)
              · refine lv_iconst (v := 0) hx hb dX6_toWhole_188 (by decide) ?_
                exact pq_conv K10 (congrArg Value.int ((if_neg h11).trans (if_pos h12)))
              · refine lv_iconst (v := 1) hx hb dX6_toWhole_184 (by decide) ?_
                refine lv_goto (tgt := 189) hx hb dX6_toWhole_185 (by decide) ?_
                exact pq_conv K10 (congrArg Value.int ((if_neg h11).trans (if_neg h12)))
          refine lv_istore (lv' := [(14, .int (if ((Int64.toInt32 ((rf_amountBits p0 p1) >>> (Int32.toInt64 (rf_places p0) &&& 63))) - (if p0 = 2 then (127 : Int32) else (1023 : Int32))) = 0 then (1 : Int32) else (if ((rf_amountBits p0 p1) &&& ((1 : Int64) <<< (Int32.toInt64 ((rf_places p0) - ((Int64.toInt32 ((rf_amountBits p0 p1) >>> (Int32.toInt64 (rf_places p0) &&& 63))) - (if p0 = 2 then (127 : Int32) else (1023 : Int32)))) &&& 63))) = 0 then (0 : Int32) else (1 : Int32)))), (12, .long ((rf_amountBits p0 p1) &&& (((1 : Int64) <<< (Int32.toInt64 ((rf_places p0) - ((Int64.toInt32 ((rf_amountBits p0 p1) >>> (Int32.toInt64 (rf_places p0) &&& 63))) - (if p0 = 2 then (127 : Int32) else (1023 : Int32)))) &&& 63)) - 1))), (10, .long ((1 : Int64) <<< (Int32.toInt64 ((rf_places p0) - ((Int64.toInt32 ((rf_amountBits p0 p1) >>> (Int32.toInt64 (rf_places p0) &&& 63))) - (if p0 = 2 then (127 : Int32) else (1023 : Int32)))) &&& 63))), (9, .int (if p2 = 3 then (rf_isMinus p0 p1) else (if (rf_isMinus p0 p1) = 0 then (1 : Int32) else (0 : Int32)))), (8, .int ((Int64.toInt32 ((rf_amountBits p0 p1) >>> (Int32.toInt64 (rf_places p0) &&& 63))) - (if p0 = 2 then (127 : Int32) else (1023 : Int32)))), (7, .int (rf_places p0)), (5, .long (rf_amountBits p0 p1)), (4, .int (rf_isMinus p0 p1)), (0, .int p0), (1, .long p1), (3, .int p2)]) hx hb dX6_toWhole_189 hl (by decide) rfl (fun ls hl => ?_)
          refine lv_iload_n hx hb dX6_toWhole_191 rfl (lv_at hl 10 rfl) ?_
          refine lv_iconst (v := 5) hx hb dX6_toWhole_192 (by decide) ?_
          refine pq_cut (g2 := F0 m 235 ls [.int (if p2 = 5 then (if (((1 : Int64) <<< (Int32.toInt64 ((rf_places p0) - ((Int64.toInt32 ((rf_amountBits p0 p1) >>> (Int32.toInt64 (rf_places p0) &&& 63))) - (if p0 = 2 then (127 : Int32) else (1023 : Int32)))) &&& 63)) / 2) < ((rf_amountBits p0 p1) &&& (((1 : Int64) <<< (Int32.toInt64 ((rf_places p0) - ((Int64.toInt32 ((rf_amountBits p0 p1) >>> (Int32.toInt64 (rf_places p0) &&& 63))) - (if p0 = 2 then (127 : Int32) else (1023 : Int32)))) &&& 63)) - 1)) then (1 : Int32) else (if ((rf_amountBits p0 p1) &&& (((1 : Int64) <<< (Int32.toInt64 ((rf_places p0) - ((Int64.toInt32 ((rf_amountBits p0 p1) >>> (Int32.toInt64 (rf_places p0) &&& 63))) - (if p0 = 2 then (127 : Int32) else (1023 : Int32)))) &&& 63)) - 1)) = (((1 : Int64) <<< (Int32.toInt64 ((rf_places p0) - ((Int64.toInt32 ((rf_amountBits p0 p1) >>> (Int32.toInt64 (rf_places p0) &&& 63))) - (if p0 = 2 then (127 : Int32) else (1023 : Int32)))) &&& 63)) / 2) then (if (if ((Int64.toInt32 ((rf_amountBits p0 p1) >>> (Int32.toInt64 (rf_places p0) &&& 63))) - (if p0 = 2 then (127 : Int32) else (1023 : Int32))) = 0 then (1 : Int32) else (if ((rf_amountBits p0 p1) &&& ((1 : Int64) <<< (Int32.toInt64 ((rf_places p0) - ((Int64.toInt32 ((rf_amountBits p0 p1) >>> (Int32.toInt64 (rf_places p0) &&& 63))) - (if p0 = 2 then (127 : Int32) else (1023 : Int32)))) &&& 63))) = 0 then (0 : Int32) else (1 : Int32))) = 0 then (0 : Int32) else (1 : Int32)) else (0 : Int32))) else (if p2 = 3 then (rf_isMinus p0 p1) else (if (rf_isMinus p0 p1) = 0 then (1 : Int32) else (0 : Int32))))]) (fun K13 => ?_) ?_
          · refine lv_icmp_ne (tgt := 233) hx hb dX6_toWhole_193 (by decide) (fun h14 => ?_) (fun h14 => ?_)
            · refine lv_iload hx hb dX6_toWhole_233 (lv_at hl 3 rfl) ?_
              exact pq_conv K13 (congrArg Value.int (if_neg h14))
            · refine lv_lload hx hb dX6_toWhole_196 (lv_at hl 1 rfl) ?_
              refine lv_lload hx hb dX6_toWhole_198 (lv_at hl 2 rfl) ?_
              refine lv_ldc2 hx hb hown (hts (.constantLong RX6 118 (2)) (by decide +kernel)) dX6_toWhole_200 ?_
              refine lv_ldiv hx hb dX6_toWhole_203 (by decide) ?_
              refine pq_lcmp_gt (tgt := 225) hx hb dX6_toWhole_204 dX6_toWhole_205 (by decide) (fun h15 => ?_) (fun h15 => ?_)
              · refine lv_iconst (v := 1) hx hb dX6_toWhole_225 (by decide) ?_
                refine lv_goto (tgt := 235) hx hb dX6_toWhole_226 (by decide) ?_
                exact pq_conv K13 (congrArg Value.int ((if_pos h14).trans (if_pos h15)))
              · refine lv_lload hx hb dX6_toWhole_208 (lv_at hl 1 rfl) ?_
                refine lv_lload hx hb dX6_toWhole_210 (lv_at hl 2 rfl) ?_
                refine lv_ldc2 hx hb hown (hts (.constantLong RX6 118 (2)) (by decide +kernel)) dX6_toWhole_212 ?_
                refine lv_ldiv hx hb dX6_toWhole_215 (by decide) ?_
                refine pq_lcmp_ne (tgt := 229) hx hb dX6_toWhole_216 dX6_toWhole_217 (by decide) (fun h16 => ?_) (fun h16 => ?_)
                · refine lv_iconst (v := 0) hx hb dX6_toWhole_229 (by decide) ?_
                  refine lv_goto (tgt := 235) hx hb dX6_toWhole_230 (by decide) ?_
                  exact pq_conv K13 (congrArg Value.int ((if_pos h14).trans ((if_neg h15).trans (if_neg h16))))
                · refine lv_iload hx hb dX6_toWhole_220 (lv_at hl 0 rfl) ?_
                  refine lv_if_eq (tgt := 229) hx hb dX6_toWhole_222 (by decide) (fun h17 => ?_) (fun h17 => ?_)
                  · refine lv_iconst (v := 0) hx hb dX6_toWhole_229 (by decide) ?_
                    refine lv_goto (tgt := 235) hx hb dX6_toWhole_230 (by decide) ?_
                    exact pq_conv K13 (congrArg Value.int ((if_pos h14).trans ((if_neg h15).trans ((if_pos h16).trans (if_pos h17)))))
                  · refine lv_iconst (v := 1) hx hb dX6_toWhole_225 (by decide) ?_
                    refine lv_goto (tgt := 235) hx hb dX6_toWhole_226 (by decide) ?_
                    exact pq_conv K13 (congrArg Value.int ((if_pos h14).trans ((if_neg h15).trans ((if_pos h16).trans (if_neg h17)))))
          refine lv_istore (lv' := [(15, .int (if p2 = 5 then (if (((1 : Int64) <<< (Int32.toInt64 ((rf_places p0) - ((Int64.toInt32 ((rf_amountBits p0 p1) >>> (Int32.toInt64 (rf_places p0) &&& 63))) - (if p0 = 2 then (127 : Int32) else (1023 : Int32)))) &&& 63)) / 2) < ((rf_amountBits p0 p1) &&& (((1 : Int64) <<< (Int32.toInt64 ((rf_places p0) - ((Int64.toInt32 ((rf_amountBits p0 p1) >>> (Int32.toInt64 (rf_places p0) &&& 63))) - (if p0 = 2 then (127 : Int32) else (1023 : Int32)))) &&& 63)) - 1)) then (1 : Int32) else (if ((rf_amountBits p0 p1) &&& (((1 : Int64) <<< (Int32.toInt64 ((rf_places p0) - ((Int64.toInt32 ((rf_amountBits p0 p1) >>> (Int32.toInt64 (rf_places p0) &&& 63))) - (if p0 = 2 then (127 : Int32) else (1023 : Int32)))) &&& 63)) - 1)) = (((1 : Int64) <<< (Int32.toInt64 ((rf_places p0) - ((Int64.toInt32 ((rf_amountBits p0 p1) >>> (Int32.toInt64 (rf_places p0) &&& 63))) - (if p0 = 2 then (127 : Int32) else (1023 : Int32)))) &&& 63)) / 2) then (if (if ((Int64.toInt32 ((rf_amountBits p0 p1) >>> (Int32.toInt64 (rf_places p0) &&& 63))) - (if p0 = 2 then (127 : Int32) else (1023 : Int32))) = 0 then (1 : Int32) else (if ((rf_amountBits p0 p1) &&& ((1 : Int64) <<< (Int32.toInt64 ((rf_places p0) - ((Int64.toInt32 ((rf_amountBits p0 p1) >>> (Int32.toInt64 (rf_places p0) &&& 63))) - (if p0 = 2 then (127 : Int32) else (1023 : Int32)))) &&& 63))) = 0 then (0 : Int32) else (1 : Int32))) = 0 then (0 : Int32) else (1 : Int32)) else (0 : Int32))) else (if p2 = 3 then (rf_isMinus p0 p1) else (if (rf_isMinus p0 p1) = 0 then (1 : Int32) else (0 : Int32))))), (14, .int (if ((Int64.toInt32 ((rf_amountBits p0 p1) >>> (Int32.toInt64 (rf_places p0) &&& 63))) - (if p0 = 2 then (127 : Int32) else (1023 : Int32))) = 0 then (1 : Int32) else (if ((rf_amountBits p0 p1) &&& ((1 : Int64) <<< (Int32.toInt64 ((rf_places p0) - ((Int64.toInt32 ((rf_amountBits p0 p1) >>> (Int32.toInt64 (rf_places p0) &&& 63))) - (if p0 = 2 then (127 : Int32) else (1023 : Int32)))) &&& 63))) = 0 then (0 : Int32) else (1 : Int32)))), (12, .long ((rf_amountBits p0 p1) &&& (((1 : Int64) <<< (Int32.toInt64 ((rf_places p0) - ((Int64.toInt32 ((rf_amountBits p0 p1) >>> (Int32.toInt64 (rf_places p0) &&& 63))) - (if p0 = 2 then (127 : Int32) else (1023 : Int32)))) &&& 63)) - 1))), (10, .long ((1 : Int64) <<< (Int32.toInt64 ((rf_places p0) - ((Int64.toInt32 ((rf_amountBits p0 p1) >>> (Int32.toInt64 (rf_places p0) &&& 63))) - (if p0 = 2 then (127 : Int32) else (1023 : Int32)))) &&& 63))), (9, .int (if p2 = 3 then (rf_isMinus p0 p1) else (if (rf_isMinus p0 p1) = 0 then (1 : Int32) else (0 : Int32)))), (8, .int ((Int64.toInt32 ((rf_amountBits p0 p1) >>> (Int32.toInt64 (rf_places p0) &&& 63))) - (if p0 = 2 then (127 : Int32) else (1023 : Int32)))), (7, .int (rf_places p0)), (5, .long (rf_amountBits p0 p1)), (4, .int (rf_isMinus p0 p1)), (0, .int p0), (1, .long p1), (3, .int p2)]) hx hb dX6_toWhole_235 hl (by decide) rfl (fun ls hl => ?_)
          refine lv_iload_n hx hb dX6_toWhole_237 rfl (lv_at hl 9 rfl) ?_
          refine lv_iload hx hb dX6_toWhole_238 (lv_at hl 0 rfl) ?_
          refine pq_cut (g2 := F0 m 259 ls [.long (if (if p2 = 5 then (if (((1 : Int64) <<< (Int32.toInt64 ((rf_places p0) - ((Int64.toInt32 ((rf_amountBits p0 p1) >>> (Int32.toInt64 (rf_places p0) &&& 63))) - (if p0 = 2 then (127 : Int32) else (1023 : Int32)))) &&& 63)) / 2) < ((rf_amountBits p0 p1) &&& (((1 : Int64) <<< (Int32.toInt64 ((rf_places p0) - ((Int64.toInt32 ((rf_amountBits p0 p1) >>> (Int32.toInt64 (rf_places p0) &&& 63))) - (if p0 = 2 then (127 : Int32) else (1023 : Int32)))) &&& 63)) - 1)) then (1 : Int32) else (if ((rf_amountBits p0 p1) &&& (((1 : Int64) <<< (Int32.toInt64 ((rf_places p0) - ((Int64.toInt32 ((rf_amountBits p0 p1) >>> (Int32.toInt64 (rf_places p0) &&& 63))) - (if p0 = 2 then (127 : Int32) else (1023 : Int32)))) &&& 63)) - 1)) = (((1 : Int64) <<< (Int32.toInt64 ((rf_places p0) - ((Int64.toInt32 ((rf_amountBits p0 p1) >>> (Int32.toInt64 (rf_places p0) &&& 63))) - (if p0 = 2 then (127 : Int32) else (1023 : Int32)))) &&& 63)) / 2) then (if (if ((Int64.toInt32 ((rf_amountBits p0 p1) >>> (Int32.toInt64 (rf_places p0) &&& 63))) - (if p0 = 2 then (127 : Int32) else (1023 : Int32))) = 0 then (1 : Int32) else (if ((rf_amountBits p0 p1) &&& ((1 : Int64) <<< (Int32.toInt64 ((rf_places p0) - ((Int64.toInt32 ((rf_amountBits p0 p1) >>> (Int32.toInt64 (rf_places p0) &&& 63))) - (if p0 = 2 then (127 : Int32) else (1023 : Int32)))) &&& 63))) = 0 then (0 : Int32) else (1 : Int32))) = 0 then (0 : Int32) else (1 : Int32)) else (0 : Int32))) else (if p2 = 3 then (rf_isMinus p0 p1) else (if (rf_isMinus p0 p1) = 0 then (1 : Int32) else (0 : Int32)))) = 0 then ((rf_amountBits p0 p1) - ((rf_amountBits p0 p1) &&& (((1 : Int64) <<< (Int32.toInt64 ((rf_places p0) - ((Int64.toInt32 ((rf_amountBits p0 p1) >>> (Int32.toInt64 (rf_places p0) &&& 63))) - (if p0 = 2 then (127 : Int32) else (1023 : Int32)))) &&& 63)) - 1))) else (((rf_amountBits p0 p1) - ((rf_amountBits p0 p1) &&& (((1 : Int64) <<< (Int32.toInt64 ((rf_places p0) - ((Int64.toInt32 ((rf_amountBits p0 p1) >>> (Int32.toInt64 (rf_places p0) &&& 63))) - (if p0 = 2 then (127 : Int32) else (1023 : Int32)))) &&& 63)) - 1))) + ((1 : Int64) <<< (Int32.toInt64 ((rf_places p0) - ((Int64.toInt32 ((rf_amountBits p0 p1) >>> (Int32.toInt64 (rf_places p0) &&& 63))) - (if p0 = 2 then (127 : Int32) else (1023 : Int32)))) &&& 63)))), .int p0]) (fun K18 => ?_) ?_
          · refine lv_if_eq (tgt := 254) hx hb dX6_toWhole_240 (by decide) (fun h19 => ?_) (fun h19 => ?_)
            · refine lv_lload hx hb dX6_toWhole_254 (lv_at hl 7 rfl) ?_
              refine lv_lload hx hb dX6_toWhole_256 (lv_at hl 2 rfl) ?_
              refine lv_lsub hx hb dX6_toWhole_258 ?_
              exact pq_conv K18 (congrArg Value.long (if_pos h19))
            · refine lv_lload hx hb dX6_toWhole_243 (lv_at hl 7 rfl) ?_
              refine lv_lload hx hb dX6_toWhole_245 (lv_at hl 2 rfl) ?_
              refine lv_lsub hx hb dX6_toWhole_247 ?_
              refine lv_lload hx hb dX6_toWhole_248 (lv_at hl 3 rfl) ?_
              refine lv_ladd hx hb dX6_toWhole_250 ?_
              refine lv_goto (tgt := 259) hx hb dX6_toWhole_251 (by decide) ?_
              exact pq_conv K18 (congrArg Value.long (if_neg h19))
          refine lv_iload hx hb dX6_toWhole_259 (lv_at hl 8 rfl) ?_
          refine pq_call (va_runS (As := [.int p0, .long (if (if p2 = 5 then (if (((1 : Int64) <<< (Int32.toInt64 ((rf_places p0) - ((Int64.toInt32 ((rf_amountBits p0 p1) >>> (Int32.toInt64 (rf_places p0) &&& 63))) - (if p0 = 2 then (127 : Int32) else (1023 : Int32)))) &&& 63)) / 2) < ((rf_amountBits p0 p1) &&& (((1 : Int64) <<< (Int32.toInt64 ((rf_places p0) - ((Int64.toInt32 ((rf_amountBits p0 p1) >>> (Int32.toInt64 (rf_places p0) &&& 63))) - (if p0 = 2 then (127 : Int32) else (1023 : Int32)))) &&& 63)) - 1)) then (1 : Int32) else (if ((rf_amountBits p0 p1) &&& (((1 : Int64) <<< (Int32.toInt64 ((rf_places p0) - ((Int64.toInt32 ((rf_amountBits p0 p1) >>> (Int32.toInt64 (rf_places p0) &&& 63))) - (if p0 = 2 then (127 : Int32) else (1023 : Int32)))) &&& 63)) - 1)) = (((1 : Int64) <<< (Int32.toInt64 ((rf_places p0) - ((Int64.toInt32 ((rf_amountBits p0 p1) >>> (Int32.toInt64 (rf_places p0) &&& 63))) - (if p0 = 2 then (127 : Int32) else (1023 : Int32)))) &&& 63)) / 2) then (if (if ((Int64.toInt32 ((rf_amountBits p0 p1) >>> (Int32.toInt64 (rf_places p0) &&& 63))) - (if p0 = 2 then (127 : Int32) else (1023 : Int32))) = 0 then (1 : Int32) else (if ((rf_amountBits p0 p1) &&& ((1 : Int64) <<< (Int32.toInt64 ((rf_places p0) - ((Int64.toInt32 ((rf_amountBits p0 p1) >>> (Int32.toInt64 (rf_places p0) &&& 63))) - (if p0 = 2 then (127 : Int32) else (1023 : Int32)))) &&& 63))) = 0 then (0 : Int32) else (1 : Int32))) = 0 then (0 : Int32) else (1 : Int32)) else (0 : Int32))) else (if p2 = 3 then (rf_isMinus p0 p1) else (if (rf_isMinus p0 p1) = 0 then (1 : Int32) else (0 : Int32)))) = 0 then ((rf_amountBits p0 p1) - ((rf_amountBits p0 p1) &&& (((1 : Int64) <<< (Int32.toInt64 ((rf_places p0) - ((Int64.toInt32 ((rf_amountBits p0 p1) >>> (Int32.toInt64 (rf_places p0) &&& 63))) - (if p0 = 2 then (127 : Int32) else (1023 : Int32)))) &&& 63)) - 1))) else (((rf_amountBits p0 p1) - ((rf_amountBits p0 p1) &&& (((1 : Int64) <<< (Int32.toInt64 ((rf_places p0) - ((Int64.toInt32 ((rf_amountBits p0 p1) >>> (Int32.toInt64 (rf_places p0) &&& 63))) - (if p0 = 2 then (127 : Int32) else (1023 : Int32)))) &&& 63)) - 1))) + ((1 : Int64) <<< (Int32.toInt64 ((rf_places p0) - ((Int64.toInt32 ((rf_amountBits p0 p1) >>> (Int32.toInt64 (rf_places p0) &&& 63))) - (if p0 = 2 then (127 : Int32) else (1023 : Int32)))) &&& 63)))), .int (rf_isMinus p0 p1)]) (rest := []) ⟨hx, hb, hml, hown, hts⟩ (mt_X6_signed l p0 (if (if p2 = 5 then (if (((1 : Int64) <<< (Int32.toInt64 ((rf_places p0) - ((Int64.toInt32 ((rf_amountBits p0 p1) >>> (Int32.toInt64 (rf_places p0) &&& 63))) - (if p0 = 2 then (127 : Int32) else (1023 : Int32)))) &&& 63)) / 2) < ((rf_amountBits p0 p1) &&& (((1 : Int64) <<< (Int32.toInt64 ((rf_places p0) - ((Int64.toInt32 ((rf_amountBits p0 p1) >>> (Int32.toInt64 (rf_places p0) &&& 63))) - (if p0 = 2 then (127 : Int32) else (1023 : Int32)))) &&& 63)) - 1)) then (1 : Int32) else (if ((rf_amountBits p0 p1) &&& (((1 : Int64) <<< (Int32.toInt64 ((rf_places p0) - ((Int64.toInt32 ((rf_amountBits p0 p1) >>> (Int32.toInt64 (rf_places p0) &&& 63))) - (if p0 = 2 then (127 : Int32) else (1023 : Int32)))) &&& 63)) - 1)) = (((1 : Int64) <<< (Int32.toInt64 ((rf_places p0) - ((Int64.toInt32 ((rf_amountBits p0 p1) >>> (Int32.toInt64 (rf_places p0) &&& 63))) - (if p0 = 2 then (127 : Int32) else (1023 : Int32)))) &&& 63)) / 2) then (if (if ((Int64.toInt32 ((rf_amountBits p0 p1) >>> (Int32.toInt64 (rf_places p0) &&& 63))) - (if p0 = 2 then (127 : Int32) else (1023 : Int32))) = 0 then (1 : Int32) else (if ((rf_amountBits p0 p1) &&& ((1 : Int64) <<< (Int32.toInt64 ((rf_places p0) - ((Int64.toInt32 ((rf_amountBits p0 p1) >>> (Int32.toInt64 (rf_places p0) &&& 63))) - (if p0 = 2 then (127 : Int32) else (1023 : Int32)))) &&& 63))) = 0 then (0 : Int32) else (1 : Int32))) = 0 then (0 : Int32) else (1 : Int32)) else (0 : Int32))) else (if p2 = 3 then (rf_isMinus p0 p1) else (if (rf_isMinus p0 p1) = 0 then (1 : Int32) else (0 : Int32)))) = 0 then ((rf_amountBits p0 p1) - ((rf_amountBits p0 p1) &&& (((1 : Int64) <<< (Int32.toInt64 ((rf_places p0) - ((Int64.toInt32 ((rf_amountBits p0 p1) >>> (Int32.toInt64 (rf_places p0) &&& 63))) - (if p0 = 2 then (127 : Int32) else (1023 : Int32)))) &&& 63)) - 1))) else (((rf_amountBits p0 p1) - ((rf_amountBits p0 p1) &&& (((1 : Int64) <<< (Int32.toInt64 ((rf_places p0) - ((Int64.toInt32 ((rf_amountBits p0 p1) >>> (Int32.toInt64 (rf_places p0) &&& 63))) - (if p0 = 2 then (127 : Int32) else (1023 : Int32)))) &&& 63)) - 1))) + ((1 : Int64) <<< (Int32.toInt64 ((rf_places p0) - ((Int64.toInt32 ((rf_amountBits p0 p1) >>> (Int32.toInt64 (rf_places p0) &&& 63))) - (if p0 = 2 then (127 : Int32) else (1023 : Int32)))) &&& 63)))) (rf_isMinus p0 p1)) (va_cwS 3 hts gX6_toWhole_X6_signed rfl rfl rfl (by decide +kernel) ⟨Nat.le_of_ble_eq_true rfl, Nat.le_of_ble_eq_true rfl⟩) ⟨fun a U g mk q => q, fun U hU hW => ⟨rfl, trivial⟩⟩ rfl rfl hl.1 rfl (lv_room (Nat.le_of_ble_eq_true rfl)) dX6_toWhole_261 ⟨Nat.zero_le _, Nat.zero_le _⟩) ?_
          exact W.lret (v := (rf_signed p0 (if (if p2 = 5 then (if (((1 : Int64) <<< (Int32.toInt64 ((rf_places p0) - ((Int64.toInt32 ((rf_amountBits p0 p1) >>> (Int32.toInt64 (rf_places p0) &&& 63))) - (if p0 = 2 then (127 : Int32) else (1023 : Int32)))) &&& 63)) / 2) < ((rf_amountBits p0 p1) &&& (((1 : Int64) <<< (Int32.toInt64 ((rf_places p0) - ((Int64.toInt32 ((rf_amountBits p0 p1) >>> (Int32.toInt64 (rf_places p0) &&& 63))) - (if p0 = 2 then (127 : Int32) else (1023 : Int32)))) &&& 63)) - 1)) then (1 : Int32) else (if ((rf_amountBits p0 p1) &&& (((1 : Int64) <<< (Int32.toInt64 ((rf_places p0) - ((Int64.toInt32 ((rf_amountBits p0 p1) >>> (Int32.toInt64 (rf_places p0) &&& 63))) - (if p0 = 2 then (127 : Int32) else (1023 : Int32)))) &&& 63)) - 1)) = (((1 : Int64) <<< (Int32.toInt64 ((rf_places p0) - ((Int64.toInt32 ((rf_amountBits p0 p1) >>> (Int32.toInt64 (rf_places p0) &&& 63))) - (if p0 = 2 then (127 : Int32) else (1023 : Int32)))) &&& 63)) / 2) then (if (if ((Int64.toInt32 ((rf_amountBits p0 p1) >>> (Int32.toInt64 (rf_places p0) &&& 63))) - (if p0 = 2 then (127 : Int32) else (1023 : Int32))) = 0 then (1 : Int32) else (if ((rf_amountBits p0 p1) &&& ((1 : Int64) <<< (Int32.toInt64 ((rf_places p0) - ((Int64.toInt32 ((rf_amountBits p0 p1) >>> (Int32.toInt64 (rf_places p0) &&& 63))) - (if p0 = 2 then (127 : Int32) else (1023 : Int32)))) &&& 63))) = 0 then (0 : Int32) else (1 : Int32))) = 0 then (0 : Int32) else (1 : Int32)) else (0 : Int32))) else (if p2 = 3 then (rf_isMinus p0 p1) else (if (rf_isMinus p0 p1) = 0 then (1 : Int32) else (0 : Int32)))) = 0 then ((rf_amountBits p0 p1) - ((rf_amountBits p0 p1) &&& (((1 : Int64) <<< (Int32.toInt64 ((rf_places p0) - ((Int64.toInt32 ((rf_amountBits p0 p1) >>> (Int32.toInt64 (rf_places p0) &&& 63))) - (if p0 = 2 then (127 : Int32) else (1023 : Int32)))) &&& 63)) - 1))) else (((rf_amountBits p0 p1) - ((rf_amountBits p0 p1) &&& (((1 : Int64) <<< (Int32.toInt64 ((rf_places p0) - ((Int64.toInt32 ((rf_amountBits p0 p1) >>> (Int32.toInt64 (rf_places p0) &&& 63))) - (if p0 = 2 then (127 : Int32) else (1023 : Int32)))) &&& 63)) - 1))) + ((1 : Int64) <<< (Int32.toInt64 ((rf_places p0) - ((Int64.toInt32 ((rf_amountBits p0 p1) >>> (Int32.toInt64 (rf_places p0) &&& 63))) - (if p0 = 2 then (127 : Int32) else (1023 : Int32)))) &&& 63)))) (rf_isMinus p0 p1))) hx hb hr (fun t ht hW => ⟨congrArg (fun z => Outcome.returned (some (Value.long z))) (show _ = rf_toWhole p0 p1 p2 from Eq.symm (show rf_toWhole p0 p1 p2 = _ from ((if_neg h3).trans ((if_neg h4).trans ((if_pos h8).trans (if_neg h9)))))), ht⟩) (fun q hq => absurd hq List.not_mem_nil) dX6_toWhole_264
        · refine lv_lload_n hx hb dX6_toWhole_167 rfl (lv_at hl 8 rfl) ?_
          exact W.lret (v := p1) hx hb hr (fun t ht hW => ⟨congrArg (fun z => Outcome.returned (some (Value.long z))) (show _ = rf_toWhole p0 p1 p2 from Eq.symm (show rf_toWhole p0 p1 p2 = _ from ((if_neg h3).trans ((if_neg h4).trans ((if_pos h8).trans (if_pos h9)))))), ht⟩) (fun q hq => absurd hq List.not_mem_nil) dX6_toWhole_168
      · refine lv_iload_n hx hb dX6_toWhole_85 rfl (lv_at hl 7 rfl) ?_
        refine lv_iconst (v := 5) hx hb dX6_toWhole_86 (by decide) ?_
        refine pq_cut (g2 := F0 m 120 ls [.int (if p2 = 5 then (if ((Int64.toInt32 ((rf_amountBits p0 p1) >>> (Int32.toInt64 (rf_places p0) &&& 63))) - (if p0 = 2 then (127 : Int32) else (1023 : Int32))) = (-1) then (if ((rf_amountBits p0 p1) &&& (((1 : Int64) <<< (Int32.toInt64 (rf_places p0) &&& 63)) - 1)) ≤ 0 then (0 : Int32) else (1 : Int32)) else (0 : Int32)) else (if p2 = 3 then (rf_isMinus p0 p1) else (if (rf_isMinus p0 p1) = 0 then (1 : Int32) else (0 : Int32))))]) (fun K20 => ?_) ?_
        · refine lv_icmp_ne (tgt := 118) hx hb dX6_toWhole_87 (by decide) (fun h21 => ?_) (fun h21 => ?_)
          · refine lv_iload hx hb dX6_toWhole_118 (lv_at hl 0 rfl) ?_
            exact pq_conv K20 (congrArg Value.int (if_neg h21))
          · refine lv_iload hx hb dX6_toWhole_90 (lv_at hl 1 rfl) ?_
            refine lv_iconst (v := (-1)) hx hb dX6_toWhole_92 (by decide) ?_
            refine lv_icmp_ne (tgt := 114) hx hb dX6_toWhole_93 (by decide) (fun h22 => ?_) (fun h22 => ?_)
            · refine lv_iconst (v := 0) hx hb dX6_toWhole_114 (by decide) ?_
              refine lv_goto (tgt := 120) hx hb dX6_toWhole_115 (by decide) ?_
              exact pq_conv K20 (congrArg Value.int ((if_pos h21).trans (if_neg h22)))
            · refine lv_lload hx hb dX6_toWhole_96 (lv_at hl 3 rfl) ?_
              refine lv_lconst (v := 1) hx hb dX6_toWhole_98 (by decide) ?_
              refine lv_iload hx hb dX6_toWhole_99 (lv_at hl 2 rfl) ?_
              refine lv_lshl (v := ((1 : Int64) <<< (Int32.toInt64 (rf_places p0) &&& 63))) hx hb dX6_toWhole_101 rfl ?_
              refine lv_lconst (v := 1) hx hb dX6_toWhole_102 (by decide) ?_
              refine lv_lsub hx hb dX6_toWhole_103 ?_
              refine lv_land hx hb dX6_toWhole_104 ?_
              refine lv_lconst (v := 0) hx hb dX6_toWhole_105 (by decide) ?_
              refine pq_lcmp_le (tgt := 114) hx hb dX6_toWhole_106 dX6_toWhole_107 (by decide) (fun h23 => ?_) (fun h23 => ?_)
              · refine lv_iconst (v := 0) hx hb dX6_toWhole_114 (by decide) ?_
                refine lv_goto (tgt := 120) hx hb dX6_toWhole_115 (by decide) ?_
                exact pq_conv K20 (congrArg Value.int ((if_pos h21).trans ((if_pos h22).trans (if_pos h23))))
              · refine lv_iconst (v := 1) hx hb dX6_toWhole_110 (by decide) ?_
                refine lv_goto (tgt := 120) hx hb dX6_toWhole_111 (by decide) ?_
                exact pq_conv K20 (congrArg Value.int ((if_pos h21).trans ((if_pos h22).trans (if_neg h23))))
        refine lv_istore (lv' := [(10, .int (if p2 = 5 then (if ((Int64.toInt32 ((rf_amountBits p0 p1) >>> (Int32.toInt64 (rf_places p0) &&& 63))) - (if p0 = 2 then (127 : Int32) else (1023 : Int32))) = (-1) then (if ((rf_amountBits p0 p1) &&& (((1 : Int64) <<< (Int32.toInt64 (rf_places p0) &&& 63)) - 1)) ≤ 0 then (0 : Int32) else (1 : Int32)) else (0 : Int32)) else (if p2 = 3 then (rf_isMinus p0 p1) else (if (rf_isMinus p0 p1) = 0 then (1 : Int32) else (0 : Int32))))), (9, .int (if p2 = 3 then (rf_isMinus p0 p1) else (if (rf_isMinus p0 p1) = 0 then (1 : Int32) else (0 : Int32)))), (8, .int ((Int64.toInt32 ((rf_amountBits p0 p1) >>> (Int32.toInt64 (rf_places p0) &&& 63))) - (if p0 = 2 then (127 : Int32) else (1023 : Int32)))), (7, .int (rf_places p0)), (5, .long (rf_amountBits p0 p1)), (4, .int (rf_isMinus p0 p1)), (0, .int p0), (1, .long p1), (3, .int p2)]) hx hb dX6_toWhole_120 hl (by decide) rfl (fun ls hl => ?_)
        refine lv_iload_n hx hb dX6_toWhole_122 rfl (lv_at hl 6 rfl) ?_
        refine lv_iload hx hb dX6_toWhole_123 (lv_at hl 0 rfl) ?_
        refine pq_cut (g2 := F0 m 136 ls [.long (if (if p2 = 5 then (if ((Int64.toInt32 ((rf_amountBits p0 p1) >>> (Int32.toInt64 (rf_places p0) &&& 63))) - (if p0 = 2 then (127 : Int32) else (1023 : Int32))) = (-1) then (if ((rf_amountBits p0 p1) &&& (((1 : Int64) <<< (Int32.toInt64 (rf_places p0) &&& 63)) - 1)) ≤ 0 then (0 : Int32) else (1 : Int32)) else (0 : Int32)) else (if p2 = 3 then (rf_isMinus p0 p1) else (if (rf_isMinus p0 p1) = 0 then (1 : Int32) else (0 : Int32)))) = 0 then (0 : Int64) else (rf_one p0)), .int p0]) (fun K24 => ?_) ?_
        · refine lv_if_eq (tgt := 135) hx hb dX6_toWhole_125 (by decide) (fun h25 => ?_) (fun h25 => ?_)
          · refine lv_lconst (v := 0) hx hb dX6_toWhole_135 (by decide) ?_
            exact pq_conv K24 (congrArg Value.long (if_pos h25))
          · refine lv_iload_n hx hb dX6_toWhole_128 rfl (lv_at hl 6 rfl) ?_
            refine pq_call (va_runS (As := [.int p0]) (rest := [.int p0]) ⟨hx, hb, hml, hown, hts⟩ (mt_X6_one l p0) (va_cwS 1 hts gX6_toWhole_X6_one rfl rfl rfl (by decide +kernel) ⟨Nat.le_of_ble_eq_true rfl, Nat.le_of_ble_eq_true rfl⟩) ⟨fun a U g mk q => q, fun U hU hW => ⟨rfl, trivial⟩⟩ rfl rfl hl.1 rfl (lv_room (Nat.le_of_ble_eq_true rfl)) dX6_toWhole_129 ⟨Nat.zero_le _, Nat.zero_le _⟩) ?_
            refine lv_goto (tgt := 136) hx hb dX6_toWhole_132 (by decide) ?_
            exact pq_conv K24 (congrArg Value.long (if_neg h25))
        refine lv_iload hx hb dX6_toWhole_136 (lv_at hl 5 rfl) ?_
        refine pq_call (va_runS (As := [.int p0, .long (if (if p2 = 5 then (if ((Int64.toInt32 ((rf_amountBits p0 p1) >>> (Int32.toInt64 (rf_places p0) &&& 63))) - (if p0 = 2 then (127 : Int32) else (1023 : Int32))) = (-1) then (if ((rf_amountBits p0 p1) &&& (((1 : Int64) <<< (Int32.toInt64 (rf_places p0) &&& 63)) - 1)) ≤ 0 then (0 : Int32) else (1 : Int32)) else (0 : Int32)) else (if p2 = 3 then (rf_isMinus p0 p1) else (if (rf_isMinus p0 p1) = 0 then (1 : Int32) else (0 : Int32)))) = 0 then (0 : Int64) else (rf_one p0)), .int (rf_isMinus p0 p1)]) (rest := []) ⟨hx, hb, hml, hown, hts⟩ (mt_X6_signed l p0 (if (if p2 = 5 then (if ((Int64.toInt32 ((rf_amountBits p0 p1) >>> (Int32.toInt64 (rf_places p0) &&& 63))) - (if p0 = 2 then (127 : Int32) else (1023 : Int32))) = (-1) then (if ((rf_amountBits p0 p1) &&& (((1 : Int64) <<< (Int32.toInt64 (rf_places p0) &&& 63)) - 1)) ≤ 0 then (0 : Int32) else (1 : Int32)) else (0 : Int32)) else (if p2 = 3 then (rf_isMinus p0 p1) else (if (rf_isMinus p0 p1) = 0 then (1 : Int32) else (0 : Int32)))) = 0 then (0 : Int64) else (rf_one p0)) (rf_isMinus p0 p1)) (va_cwS 3 hts gX6_toWhole_X6_signed rfl rfl rfl (by decide +kernel) ⟨Nat.le_of_ble_eq_true rfl, Nat.le_of_ble_eq_true rfl⟩) ⟨fun a U g mk q => q, fun U hU hW => ⟨rfl, trivial⟩⟩ rfl rfl hl.1 rfl (lv_room (Nat.le_of_ble_eq_true rfl)) dX6_toWhole_138 ⟨Nat.zero_le _, Nat.zero_le _⟩) ?_
        exact W.lret (v := (rf_signed p0 (if (if p2 = 5 then (if ((Int64.toInt32 ((rf_amountBits p0 p1) >>> (Int32.toInt64 (rf_places p0) &&& 63))) - (if p0 = 2 then (127 : Int32) else (1023 : Int32))) = (-1) then (if ((rf_amountBits p0 p1) &&& (((1 : Int64) <<< (Int32.toInt64 (rf_places p0) &&& 63)) - 1)) ≤ 0 then (0 : Int32) else (1 : Int32)) else (0 : Int32)) else (if p2 = 3 then (rf_isMinus p0 p1) else (if (rf_isMinus p0 p1) = 0 then (1 : Int32) else (0 : Int32)))) = 0 then (0 : Int64) else (rf_one p0)) (rf_isMinus p0 p1))) hx hb hr (fun t ht hW => ⟨congrArg (fun z => Outcome.returned (some (Value.long z))) (show _ = rf_toWhole p0 p1 p2 from Eq.symm (show rf_toWhole p0 p1 p2 = _ from ((if_neg h3).trans ((if_neg h4).trans (if_neg h8))))), ht⟩) (fun q hq => absurd hq List.not_mem_nil) dX6_toWhole_141
    · refine lv_lload_n hx hb dX6_toWhole_56 rfl (lv_at hl 5 rfl) ?_
      exact W.lret (v := p1) hx hb hr (fun t ht hW => ⟨congrArg (fun z => Outcome.returned (some (Value.long z))) (show _ = rf_toWhole p0 p1 p2 from Eq.symm (show rf_toWhole p0 p1 p2 = _ from ((if_neg h3).trans (if_pos h4)))), ht⟩) (fun q hq => absurd hq List.not_mem_nil) dX6_toWhole_57
def rf_changed (p0 : Int32) (p1 : Int32) (p2 : Int64) (p3 : Int64) : Int64 := if p1 = 0 then (rf_amount p0 p2) else (if p1 = 1 then (rf_greater p0 p2 p3) else (if p1 = 2 then (rf_lesser p0 p2 p3) else (if p1 = 3 then (rf_toWhole p0 p2 p1) else (if p1 = 4 then (rf_toWhole p0 p2 p1) else (if p1 = 5 then (rf_toWhole p0 p2 p1) else (if p1 = 6 then if (rf_amountBits p0 p2) = 0 then p2 else ((rf_signed p0 (rf_one p0) (rf_isMinus p0 p2))) else (if p1 = 7 then (rf_signed p0 (rf_amountBits p0 p2) (rf_isMinus p0 p3)) else ((rf_toWhole p0 p2 p1)))))))))
set_option maxHeartbeats 4000000 in
set_option maxRecDepth 100000 in
theorem mt_X6_changed (l : Launch) (p0 : Int32) (p1 : Int32) (p2 : Int64) (p3 : Int64) : Met l yX6_changed wsX6_changed ({ frames := 4, cells := 0, slots := 0, locals := 92 }) (va_Pc [.int p0, .int p1, .long p2, .long p3] (fun _ => True)) (pq_V (.long (rf_changed p0 p1 p2 p3))) 0 0 (fun _ => False) := by
  refine Met.ofW (cc := cX6_changed) (maxL := 6) (ret := (some .long)) (by decide) rfl ?_
  intro p e s m args below meth c s₁ B hml hv
  obtain ⟨rfl, -⟩ := hv
  have hx := B.exec
  have hb := B.bytes
  have hr := B.returns
  have hts := atoms_spec (ws := wsX6_changed) B.pre
  have hown : s.vm.findClass RX6 = some m.cls := findClass_of_methodNamed B.named
  have hlocks := B.notSynchronized
  have hl := lv_entry ([.int p0, .int p1, .long p2, .long p3]) (n := 6) (Nat.le_of_ble_eq_true rfl)
  rw [lg_entry_eq]
  generalize (lg_sl ([.int p0, .int p1, .long p2, .long p3]) ++ List.replicate (6 - (lg_sl ([.int p0, .int p1, .long p2, .long p3])).length) Slot.unset).toArray = ls at hl ⊢
  have hl : lv_has ls 6 [(0, .int p0), (1, .int p1), (2, .long p2), (4, .long p3)] := hl
  refine lv_iload_n hx hb dX6_changed_0 rfl (lv_at hl 1 rfl) ?_
  by_cases h1 : p1 = 0
  · refine lv_tableIn (off := 47) (tgt := 48) hx hb dX6_changed_1 (by rw [h1]; decide) (by rw [h1]; decide) (by rw [h1]; rfl) (by decide) ?_
    refine lv_iload_n hx hb dX6_changed_48 rfl (lv_at hl 0 rfl) ?_
    refine lv_lload_n hx hb dX6_changed_49 rfl (lv_at hl 2 rfl) ?_
    refine pq_call (va_runS (As := [.int p0, .long p2]) (rest := []) ⟨hx, hb, hml, hown, hts⟩ (mt_X6_amount l p0 p2) (va_cwS 2 hts gX6_changed_X6_amount rfl rfl rfl (by decide +kernel) ⟨Nat.le_of_ble_eq_true rfl, Nat.le_of_ble_eq_true rfl⟩) ⟨fun a U g mk q => q, fun U hU hW => ⟨rfl, trivial⟩⟩ rfl rfl hl.1 rfl (lv_room (Nat.le_of_ble_eq_true rfl)) dX6_changed_50 ⟨Nat.zero_le _, Nat.zero_le _⟩) ?_
    exact W.lret (v := (rf_amount p0 p2)) hx hb hr (fun t ht hW => ⟨congrArg (fun z => Outcome.returned (some (Value.long z))) (show _ = rf_changed p0 p1 p2 p3 from Eq.symm (show rf_changed p0 p1 p2 p3 = _ from (if_pos h1))), ht⟩) (fun q hq => absurd hq List.not_mem_nil) dX6_changed_53
  · by_cases h2 : p1 = 1
    · refine lv_tableIn (off := 53) (tgt := 54) hx hb dX6_changed_1 (by rw [h2]; decide) (by rw [h2]; decide) (by rw [h2]; rfl) (by decide) ?_
      refine lv_iload_n hx hb dX6_changed_54 rfl (lv_at hl 0 rfl) ?_
      refine lv_lload_n hx hb dX6_changed_55 rfl (lv_at hl 2 rfl) ?_
      refine lv_lload hx hb dX6_changed_56 (lv_at hl 3 rfl) ?_
      refine pq_call (va_runS (As := [.int p0, .long p2, .long p3]) (rest := []) ⟨hx, hb, hml, hown, hts⟩ (mt_X6_greater l p0 p2 p3) (va_cwS 3 hts gX6_changed_X6_greater rfl rfl rfl (by decide +kernel) ⟨Nat.le_of_ble_eq_true rfl, Nat.le_of_ble_eq_true rfl⟩) ⟨fun a U g mk q => q, fun U hU hW => ⟨rfl, trivial⟩⟩ rfl rfl hl.1 rfl (lv_room (Nat.le_of_ble_eq_true rfl)) dX6_changed_58 ⟨Nat.zero_le _, Nat.zero_le _⟩) ?_
      exact W.lret (v := (rf_greater p0 p2 p3)) hx hb hr (fun t ht hW => ⟨congrArg (fun z => Outcome.returned (some (Value.long z))) (show _ = rf_changed p0 p1 p2 p3 from Eq.symm (show rf_changed p0 p1 p2 p3 = _ from ((if_neg h1).trans (if_pos h2)))), ht⟩) (fun q hq => absurd hq List.not_mem_nil) dX6_changed_61
    · by_cases h3 : p1 = 2
      · refine lv_tableIn (off := 61) (tgt := 62) hx hb dX6_changed_1 (by rw [h3]; decide) (by rw [h3]; decide) (by rw [h3]; rfl) (by decide) ?_
        refine lv_iload_n hx hb dX6_changed_62 rfl (lv_at hl 0 rfl) ?_
        refine lv_lload_n hx hb dX6_changed_63 rfl (lv_at hl 2 rfl) ?_
        refine lv_lload hx hb dX6_changed_64 (lv_at hl 3 rfl) ?_
        refine pq_call (va_runS (As := [.int p0, .long p2, .long p3]) (rest := []) ⟨hx, hb, hml, hown, hts⟩ (mt_X6_lesser l p0 p2 p3) (va_cwS 3 hts gX6_changed_X6_lesser rfl rfl rfl (by decide +kernel) ⟨Nat.le_of_ble_eq_true rfl, Nat.le_of_ble_eq_true rfl⟩) ⟨fun a U g mk q => q, fun U hU hW => ⟨rfl, trivial⟩⟩ rfl rfl hl.1 rfl (lv_room (Nat.le_of_ble_eq_true rfl)) dX6_changed_66 ⟨Nat.zero_le _, Nat.zero_le _⟩) ?_
        exact W.lret (v := (rf_lesser p0 p2 p3)) hx hb hr (fun t ht hW => ⟨congrArg (fun z => Outcome.returned (some (Value.long z))) (show _ = rf_changed p0 p1 p2 p3 from Eq.symm (show rf_changed p0 p1 p2 p3 = _ from ((if_neg h1).trans ((if_neg h2).trans (if_pos h3))))), ht⟩) (fun q hq => absurd hq List.not_mem_nil) dX6_changed_69
      · by_cases h4 : p1 = 3
        · refine lv_tableIn (off := 113) (tgt := 114) hx hb dX6_changed_1 (by rw [h4]; decide) (by rw [h4]; decide) (by rw [h4]; rfl) (by decide) ?_
          refine lv_iload_n hx hb dX6_changed_114 rfl (lv_at hl 0 rfl) ?_
          refine lv_lload_n hx hb dX6_changed_115 rfl (lv_at hl 2 rfl) ?_
          refine lv_iload_n hx hb dX6_changed_116 rfl (lv_at hl 1 rfl) ?_
          refine pq_call (va_runS (As := [.int p0, .long p2, .int p1]) (rest := []) ⟨hx, hb, hml, hown, hts⟩ (mt_X6_toWhole l p0 p2 p1) (va_cwS 3 hts gX6_changed_X6_toWhole rfl rfl rfl (by decide +kernel) ⟨Nat.le_of_ble_eq_true rfl, Nat.le_of_ble_eq_true rfl⟩) ⟨fun a U g mk q => q, fun U hU hW => ⟨rfl, trivial⟩⟩ rfl rfl hl.1 rfl (lv_room (Nat.le_of_ble_eq_true rfl)) dX6_changed_117 ⟨Nat.zero_le _, Nat.zero_le _⟩) ?_
          exact W.lret (v := (rf_toWhole p0 p2 p1)) hx hb hr (fun t ht hW => ⟨congrArg (fun z => Outcome.returned (some (Value.long z))) (show _ = rf_changed p0 p1 p2 p3 from Eq.symm (show rf_changed p0 p1 p2 p3 = _ from ((if_neg h1).trans ((if_neg h2).trans ((if_neg h3).trans (if_pos h4)))))), ht⟩) (fun q hq => absurd hq List.not_mem_nil) dX6_changed_120
        · by_cases h5 : p1 = 4
          · refine lv_tableIn (off := 113) (tgt := 114) hx hb dX6_changed_1 (by rw [h5]; decide) (by rw [h5]; decide) (by rw [h5]; rfl) (by decide) ?_
            refine lv_iload_n hx hb dX6_changed_114 rfl (lv_at hl 0 rfl) ?_
            refine lv_lload_n hx hb dX6_changed_115 rfl (lv_at hl 2 rfl) ?_
            refine lv_iload_n hx hb dX6_changed_116 rfl (lv_at hl 1 rfl) ?_
            refine pq_call (va_runS (As := [.int p0, .long p2, .int p1]) (rest := []) ⟨hx, hb, hml, hown, hts⟩ (mt_X6_toWhole l p0 p2 p1) (va_cwS 3 hts gX6_changed_X6_toWhole rfl rfl rfl (by decide +kernel) ⟨Nat.le_of_ble_eq_true rfl, Nat.le_of_ble_eq_true rfl⟩) ⟨fun a U g mk q => q, fun U hU hW => ⟨rfl, trivial⟩⟩ rfl rfl hl.1 rfl (lv_room (Nat.le_of_ble_eq_true rfl)) dX6_changed_117 ⟨Nat.zero_le _, Nat.zero_le _⟩) ?_
            exact W.lret (v := (rf_toWhole p0 p2 p1)) hx hb hr (fun t ht hW => ⟨congrArg (fun z => Outcome.returned (some (Value.long z))) (show _ = rf_changed p0 p1 p2 p3 from Eq.symm (show rf_changed p0 p1 p2 p3 = _ from ((if_neg h1).trans ((if_neg h2).trans ((if_neg h3).trans ((if_neg h4).trans (if_pos h5))))))), ht⟩) (fun q hq => absurd hq List.not_mem_nil) dX6_changed_120
          · by_cases h6 : p1 = 5
            · refine lv_tableIn (off := 113) (tgt := 114) hx hb dX6_changed_1 (by rw [h6]; decide) (by rw [h6]; decide) (by rw [h6]; rfl) (by decide) ?_
              refine lv_iload_n hx hb dX6_changed_114 rfl (lv_at hl 0 rfl) ?_
              refine lv_lload_n hx hb dX6_changed_115 rfl (lv_at hl 2 rfl) ?_
              refine lv_iload_n hx hb dX6_changed_116 rfl (lv_at hl 1 rfl) ?_
              refine pq_call (va_runS (As := [.int p0, .long p2, .int p1]) (rest := []) ⟨hx, hb, hml, hown, hts⟩ (mt_X6_toWhole l p0 p2 p1) (va_cwS 3 hts gX6_changed_X6_toWhole rfl rfl rfl (by decide +kernel) ⟨Nat.le_of_ble_eq_true rfl, Nat.le_of_ble_eq_true rfl⟩) ⟨fun a U g mk q => q, fun U hU hW => ⟨rfl, trivial⟩⟩ rfl rfl hl.1 rfl (lv_room (Nat.le_of_ble_eq_true rfl)) dX6_changed_117 ⟨Nat.zero_le _, Nat.zero_le _⟩) ?_
              exact W.lret (v := (rf_toWhole p0 p2 p1)) hx hb hr (fun t ht hW => ⟨congrArg (fun z => Outcome.returned (some (Value.long z))) (show _ = rf_changed p0 p1 p2 p3 from Eq.symm (show rf_changed p0 p1 p2 p3 = _ from ((if_neg h1).trans ((if_neg h2).trans ((if_neg h3).trans ((if_neg h4).trans ((if_neg h5).trans (if_pos h6)))))))), ht⟩) (fun q hq => absurd hq List.not_mem_nil) dX6_changed_120
            · by_cases h7 : p1 = 6
              · refine lv_tableIn (off := 69) (tgt := 70) hx hb dX6_changed_1 (by rw [h7]; decide) (by rw [h7]; decide) (by rw [h7]; rfl) (by decide) ?_
                refine lv_iload_n hx hb dX6_changed_70 rfl (lv_at hl 0 rfl) ?_
                refine lv_lload_n hx hb dX6_changed_71 rfl (lv_at hl 2 rfl) ?_
                refine pq_call (va_runS (As := [.int p0, .long p2]) (rest := []) ⟨hx, hb, hml, hown, hts⟩ (mt_X6_amountBits l p0 p2) (va_cwS 2 hts gX6_changed_X6_amountBits rfl rfl rfl (by decide +kernel) ⟨Nat.le_of_ble_eq_true rfl, Nat.le_of_ble_eq_true rfl⟩) ⟨fun a U g mk q => q, fun U hU hW => ⟨rfl, trivial⟩⟩ rfl rfl hl.1 rfl (lv_room (Nat.le_of_ble_eq_true rfl)) dX6_changed_72 ⟨Nat.zero_le _, Nat.zero_le _⟩) ?_
                refine lv_lconst (v := 0) hx hb dX6_changed_75 (by decide) ?_
                refine pq_lcmp_ne (tgt := 84) hx hb dX6_changed_76 dX6_changed_77 (by decide) (fun h8 => ?_) (fun h8 => ?_)
                · refine lv_iload_n hx hb dX6_changed_84 rfl (lv_at hl 0 rfl) ?_
                  refine lv_iload_n hx hb dX6_changed_85 rfl (lv_at hl 0 rfl) ?_
                  refine pq_call (va_runS (As := [.int p0]) (rest := [.int p0]) ⟨hx, hb, hml, hown, hts⟩ (mt_X6_one l p0) (va_cwS 1 hts gX6_changed_X6_one rfl rfl rfl (by decide +kernel) ⟨Nat.le_of_ble_eq_true rfl, Nat.le_of_ble_eq_true rfl⟩) ⟨fun a U g mk q => q, fun U hU hW => ⟨rfl, trivial⟩⟩ rfl rfl hl.1 rfl (lv_room (Nat.le_of_ble_eq_true rfl)) dX6_changed_86 ⟨Nat.zero_le _, Nat.zero_le _⟩) ?_
                  refine lv_iload_n hx hb dX6_changed_89 rfl (lv_at hl 0 rfl) ?_
                  refine lv_lload_n hx hb dX6_changed_90 rfl (lv_at hl 2 rfl) ?_
                  refine pq_call (va_runS (As := [.int p0, .long p2]) (rest := [.long (rf_one p0), .int p0]) ⟨hx, hb, hml, hown, hts⟩ (mt_X6_isMinus l p0 p2) (va_cwS 2 hts gX6_changed_X6_isMinus rfl rfl rfl (by decide +kernel) ⟨Nat.le_of_ble_eq_true rfl, Nat.le_of_ble_eq_true rfl⟩) ⟨fun a U g mk q => q, fun U hU hW => ⟨rfl, trivial⟩⟩ rfl rfl hl.1 rfl (lv_room (Nat.le_of_ble_eq_true rfl)) dX6_changed_91 ⟨Nat.zero_le _, Nat.zero_le _⟩) ?_
                  refine pq_call (va_runS (As := [.int p0, .long (rf_one p0), .int (rf_isMinus p0 p2)]) (rest := []) ⟨hx, hb, hml, hown, hts⟩ (mt_X6_signed l p0 (rf_one p0) (rf_isMinus p0 p2)) (va_cwS 3 hts gX6_changed_X6_signed rfl rfl rfl (by decide +kernel) ⟨Nat.le_of_ble_eq_true rfl, Nat.le_of_ble_eq_true rfl⟩) ⟨fun a U g mk q => q, fun U hU hW => ⟨rfl, trivial⟩⟩ rfl rfl hl.1 rfl (lv_room (Nat.le_of_ble_eq_true rfl)) dX6_changed_94 ⟨Nat.zero_le _, Nat.zero_le _⟩) ?_
                  exact W.lret (v := (rf_signed p0 (rf_one p0) (rf_isMinus p0 p2))) hx hb hr (fun t ht hW => ⟨congrArg (fun z => Outcome.returned (some (Value.long z))) (show _ = rf_changed p0 p1 p2 p3 from Eq.symm (show rf_changed p0 p1 p2 p3 = _ from ((if_neg h1).trans ((if_neg h2).trans ((if_neg h3).trans ((if_neg h4).trans ((if_neg h5).trans ((if_neg h6).trans ((if_pos h7).trans (if_neg h8)))))))))), ht⟩) (fun q hq => absurd hq List.not_mem_nil) dX6_changed_97
                · refine lv_lload_n hx hb dX6_changed_80 rfl (lv_at hl 2 rfl) ?_
                  refine lv_goto (tgt := 97) hx hb dX6_changed_81 (by decide) ?_
                  exact W.lret (v := p2) hx hb hr (fun t ht hW => ⟨congrArg (fun z => Outcome.returned (some (Value.long z))) (show _ = rf_changed p0 p1 p2 p3 from Eq.symm (show rf_changed p0 p1 p2 p3 = _ from ((if_neg h1).trans ((if_neg h2).trans ((if_neg h3).trans ((if_neg h4).trans ((if_neg h5).trans ((if_neg h6).trans ((if_pos h7).trans (if_pos h8)))))))))), ht⟩) (fun q hq => absurd hq List.not_mem_nil) dX6_changed_97
              · by_cases h9 : p1 = 7
                · refine lv_tableIn (off := 97) (tgt := 98) hx hb dX6_changed_1 (by rw [h9]; decide) (by rw [h9]; decide) (by rw [h9]; rfl) (by decide) ?_
                  refine lv_iload_n hx hb dX6_changed_98 rfl (lv_at hl 0 rfl) ?_
                  refine lv_iload_n hx hb dX6_changed_99 rfl (lv_at hl 0 rfl) ?_
                  refine lv_lload_n hx hb dX6_changed_100 rfl (lv_at hl 2 rfl) ?_
                  refine pq_call (va_runS (As := [.int p0, .long p2]) (rest := [.int p0]) ⟨hx, hb, hml, hown, hts⟩ (mt_X6_amountBits l p0 p2) (va_cwS 2 hts gX6_changed_X6_amountBits rfl rfl rfl (by decide +kernel) ⟨Nat.le_of_ble_eq_true rfl, Nat.le_of_ble_eq_true rfl⟩) ⟨fun a U g mk q => q, fun U hU hW => ⟨rfl, trivial⟩⟩ rfl rfl hl.1 rfl (lv_room (Nat.le_of_ble_eq_true rfl)) dX6_changed_101 ⟨Nat.zero_le _, Nat.zero_le _⟩) ?_
                  refine lv_iload_n hx hb dX6_changed_104 rfl (lv_at hl 0 rfl) ?_
                  refine lv_lload hx hb dX6_changed_105 (lv_at hl 3 rfl) ?_
                  refine pq_call (va_runS (As := [.int p0, .long p3]) (rest := [.long (rf_amountBits p0 p2), .int p0]) ⟨hx, hb, hml, hown, hts⟩ (mt_X6_isMinus l p0 p3) (va_cwS 2 hts gX6_changed_X6_isMinus rfl rfl rfl (by decide +kernel) ⟨Nat.le_of_ble_eq_true rfl, Nat.le_of_ble_eq_true rfl⟩) ⟨fun a U g mk q => q, fun U hU hW => ⟨rfl, trivial⟩⟩ rfl rfl hl.1 rfl (lv_room (Nat.le_of_ble_eq_true rfl)) dX6_changed_107 ⟨Nat.zero_le _, Nat.zero_le _⟩) ?_
                  refine pq_call (va_runS (As := [.int p0, .long (rf_amountBits p0 p2), .int (rf_isMinus p0 p3)]) (rest := []) ⟨hx, hb, hml, hown, hts⟩ (mt_X6_signed l p0 (rf_amountBits p0 p2) (rf_isMinus p0 p3)) (va_cwS 3 hts gX6_changed_X6_signed rfl rfl rfl (by decide +kernel) ⟨Nat.le_of_ble_eq_true rfl, Nat.le_of_ble_eq_true rfl⟩) ⟨fun a U g mk q => q, fun U hU hW => ⟨rfl, trivial⟩⟩ rfl rfl hl.1 rfl (lv_room (Nat.le_of_ble_eq_true rfl)) dX6_changed_110 ⟨Nat.zero_le _, Nat.zero_le _⟩) ?_
                  exact W.lret (v := (rf_signed p0 (rf_amountBits p0 p2) (rf_isMinus p0 p3))) hx hb hr (fun t ht hW => ⟨congrArg (fun z => Outcome.returned (some (Value.long z))) (show _ = rf_changed p0 p1 p2 p3 from Eq.symm (show rf_changed p0 p1 p2 p3 = _ from ((if_neg h1).trans ((if_neg h2).trans ((if_neg h3).trans ((if_neg h4).trans ((if_neg h5).trans ((if_neg h6).trans ((if_neg h7).trans (if_pos h9)))))))))), ht⟩) (fun q hq => absurd hq List.not_mem_nil) dX6_changed_113
                · refine lv_tableOut (tgt := 114) hx hb dX6_changed_1 (by have a0 := lv_neT h1 (a := 0) rfl; have a1 := lv_neT h2 (a := 1) rfl; have a2 := lv_neT h3 (a := 2) rfl; have a3 := lv_neT h4 (a := 3) rfl; have a4 := lv_neT h5 (a := 4) rfl; have a5 := lv_neT h6 (a := 5) rfl; have a6 := lv_neT h7 (a := 6) rfl; have a7 := lv_neT h9 (a := 7) rfl; omega) (by decide) ?_
                  refine lv_iload_n hx hb dX6_changed_114 rfl (lv_at hl 0 rfl) ?_
                  refine lv_lload_n hx hb dX6_changed_115 rfl (lv_at hl 2 rfl) ?_
                  refine lv_iload_n hx hb dX6_changed_116 rfl (lv_at hl 1 rfl) ?_
                  refine pq_call (va_runS (As := [.int p0, .long p2, .int p1]) (rest := []) ⟨hx, hb, hml, hown, hts⟩ (mt_X6_toWhole l p0 p2 p1) (va_cwS 3 hts gX6_changed_X6_toWhole rfl rfl rfl (by decide +kernel) ⟨Nat.le_of_ble_eq_true rfl, Nat.le_of_ble_eq_true rfl⟩) ⟨fun a U g mk q => q, fun U hU hW => ⟨rfl, trivial⟩⟩ rfl rfl hl.1 rfl (lv_room (Nat.le_of_ble_eq_true rfl)) dX6_changed_117 ⟨Nat.zero_le _, Nat.zero_le _⟩) ?_
                  exact W.lret (v := (rf_toWhole p0 p2 p1)) hx hb hr (fun t ht hW => ⟨congrArg (fun z => Outcome.returned (some (Value.long z))) (show _ = rf_changed p0 p1 p2 p3 from Eq.symm (show rf_changed p0 p1 p2 p3 = _ from ((if_neg h1).trans ((if_neg h2).trans ((if_neg h3).trans ((if_neg h4).trans ((if_neg h5).trans ((if_neg h6).trans ((if_neg h7).trans (if_neg h9)))))))))), ht⟩) (fun q hq => absurd hq List.not_mem_nil) dX6_changed_120
def rf_takes (p0 : Int32) : Int32 := if p0 = 1 then 1 else (if p0 = 2 then 1 else (if p0 = 7 then 1 else (0)))
set_option maxHeartbeats 4000000 in
set_option maxRecDepth 100000 in
theorem mt_X6_takes (l : Launch) (p0 : Int32) : Met l yX6_takes wsX6_takes ({ frames := 0, cells := 0, slots := 0, locals := 0 }) (va_Pc [.int p0] (fun _ => True)) (pq_V (.int (rf_takes p0))) 0 0 (fun _ => False) := by
  refine Met.ofW (cc := cX6_takes) (maxL := 1) (ret := (some .boolean)) (by decide) rfl ?_
  intro p e s m args below meth c s₁ B hml hv
  obtain ⟨rfl, -⟩ := hv
  have hx := B.exec
  have hb := B.bytes
  have hr := B.returns
  have hts := atoms_spec (ws := wsX6_takes) B.pre
  have hown : s.vm.findClass RX6 = some m.cls := findClass_of_methodNamed B.named
  have hlocks := B.notSynchronized
  have hl := lv_entry ([.int p0]) (n := 1) (Nat.le_of_ble_eq_true rfl)
  rw [lg_entry_eq]
  generalize (lg_sl ([.int p0]) ++ List.replicate (1 - (lg_sl ([.int p0])).length) Slot.unset).toArray = ls at hl ⊢
  have hl : lv_has ls 1 [(0, .int p0)] := hl
  refine lv_iload_n hx hb dX6_takes_0 rfl (lv_at hl 0 rfl) ?_
  refine lv_iconst (v := 1) hx hb dX6_takes_1 (by decide) ?_
  refine lv_icmp_eq (tgt := 16) hx hb dX6_takes_2 (by decide) (fun h1 => ?_) (fun h1 => ?_)
  · refine lv_iconst (v := 1) hx hb dX6_takes_16 (by decide) ?_
    refine lv_goto (tgt := 21) hx hb dX6_takes_17 (by decide) ?_
    exact W.zret (v := 1) hx hb hr (by first | rfl | exact pq_nz) (fun t ht hW => ⟨congrArg (fun z => Outcome.returned (some (Value.int z))) (show _ = rf_takes p0 from Eq.symm (show rf_takes p0 = _ from (if_pos h1))), ht⟩) (fun q hq => absurd hq List.not_mem_nil) dX6_takes_21
  · refine lv_iload_n hx hb dX6_takes_5 rfl (lv_at hl 0 rfl) ?_
    refine lv_iconst (v := 2) hx hb dX6_takes_6 (by decide) ?_
    refine lv_icmp_eq (tgt := 16) hx hb dX6_takes_7 (by decide) (fun h2 => ?_) (fun h2 => ?_)
    · refine lv_iconst (v := 1) hx hb dX6_takes_16 (by decide) ?_
      refine lv_goto (tgt := 21) hx hb dX6_takes_17 (by decide) ?_
      exact W.zret (v := 1) hx hb hr (by first | rfl | exact pq_nz) (fun t ht hW => ⟨congrArg (fun z => Outcome.returned (some (Value.int z))) (show _ = rf_takes p0 from Eq.symm (show rf_takes p0 = _ from ((if_neg h1).trans (if_pos h2)))), ht⟩) (fun q hq => absurd hq List.not_mem_nil) dX6_takes_21
    · refine lv_iload_n hx hb dX6_takes_10 rfl (lv_at hl 0 rfl) ?_
      refine lv_bipush (v := 7) hx hb dX6_takes_11 (by decide) ?_
      refine lv_icmp_ne (tgt := 20) hx hb dX6_takes_13 (by decide) (fun h3 => ?_) (fun h3 => ?_)
      · refine lv_iconst (v := 0) hx hb dX6_takes_20 (by decide) ?_
        exact W.zret (v := 0) hx hb hr (by first | rfl | exact pq_nz) (fun t ht hW => ⟨congrArg (fun z => Outcome.returned (some (Value.int z))) (show _ = rf_takes p0 from Eq.symm (show rf_takes p0 = _ from ((if_neg h1).trans ((if_neg h2).trans (if_neg h3))))), ht⟩) (fun q hq => absurd hq List.not_mem_nil) dX6_takes_21
      · refine lv_iconst (v := 1) hx hb dX6_takes_16 (by decide) ?_
        refine lv_goto (tgt := 21) hx hb dX6_takes_17 (by decide) ?_
        exact W.zret (v := 1) hx hb hr (by first | rfl | exact pq_nz) (fun t ht hW => ⟨congrArg (fun z => Outcome.returned (some (Value.int z))) (show _ = rf_takes p0 from Eq.symm (show rf_takes p0 = _ from ((if_neg h1).trans ((if_neg h2).trans (if_pos h3))))), ht⟩) (fun q hq => absurd hq List.not_mem_nil) dX6_takes_21
def rf_isStep (p0 : Int32) (p1 : Int32) : Int32 := if p1 < 0 then 0 else (if (if (rf_isReal p0) = 0 then (3 : Int32) else (8 : Int32)) ≤ p1 then 0 else (1))
set_option maxHeartbeats 4000000 in
set_option maxRecDepth 100000 in
theorem mt_X6_isStep (l : Launch) (p0 : Int32) (p1 : Int32) : Met l yX6_isStep wsX6_isStep ({ frames := 1, cells := 0, slots := 0, locals := 20 }) (va_Pc [.int p0, .int p1] (fun _ => True)) (pq_V (.int (rf_isStep p0 p1))) 0 0 (fun _ => False) := by
  refine Met.ofW (cc := cX6_isStep) (maxL := 2) (ret := (some .boolean)) (by decide) rfl ?_
  intro p e s m args below meth c s₁ B hml hv
  obtain ⟨rfl, -⟩ := hv
  have hx := B.exec
  have hb := B.bytes
  have hr := B.returns
  have hts := atoms_spec (ws := wsX6_isStep) B.pre
  have hown : s.vm.findClass RX6 = some m.cls := findClass_of_methodNamed B.named
  have hlocks := B.notSynchronized
  have hl := lv_entry ([.int p0, .int p1]) (n := 2) (Nat.le_of_ble_eq_true rfl)
  rw [lg_entry_eq]
  generalize (lg_sl ([.int p0, .int p1]) ++ List.replicate (2 - (lg_sl ([.int p0, .int p1])).length) Slot.unset).toArray = ls at hl ⊢
  have hl : lv_has ls 2 [(0, .int p0), (1, .int p1)] := hl
  refine lv_iload_n hx hb dX6_isStep_0 rfl (lv_at hl 1 rfl) ?_
  refine lv_if_lt (tgt := 25) hx hb dX6_isStep_1 (by decide) (fun h1 => ?_) (fun h1 => ?_)
  · refine lv_iconst (v := 0) hx hb dX6_isStep_25 (by decide) ?_
    exact W.zret (v := 0) hx hb hr (by first | rfl | exact pq_nz) (fun t ht hW => ⟨congrArg (fun z => Outcome.returned (some (Value.int z))) (show _ = rf_isStep p0 p1 from Eq.symm (show rf_isStep p0 p1 = _ from (if_pos h1))), ht⟩) (fun q hq => absurd hq List.not_mem_nil) dX6_isStep_26
  · refine lv_iload_n hx hb dX6_isStep_4 rfl (lv_at hl 1 rfl) ?_
    refine lv_iload_n hx hb dX6_isStep_5 rfl (lv_at hl 0 rfl) ?_
    refine pq_call (va_runS (As := [.int p0]) (rest := [.int p1]) ⟨hx, hb, hml, hown, hts⟩ (mt_X6_isReal l p0) (va_cwS 1 hts gX6_isStep_X6_isReal rfl rfl rfl (by decide +kernel) ⟨Nat.le_of_ble_eq_true rfl, Nat.le_of_ble_eq_true rfl⟩) ⟨fun a U g mk q => q, fun U hU hW => ⟨rfl, trivial⟩⟩ rfl rfl hl.1 rfl (lv_room (Nat.le_of_ble_eq_true rfl)) dX6_isStep_6 ⟨Nat.zero_le _, Nat.zero_le _⟩) ?_
    refine pq_cut (g2 := F0 m 18 ls [.int (if (rf_isReal p0) = 0 then (3 : Int32) else (8 : Int32)), .int p1]) (fun K2 => ?_) ?_
    · refine lv_if_eq (tgt := 17) hx hb dX6_isStep_9 (by decide) (fun h3 => ?_) (fun h3 => ?_)
      · refine lv_iconst (v := 3) hx hb dX6_isStep_17 (by decide) ?_
        exact pq_conv K2 (congrArg Value.int (if_pos h3))
      · refine lv_bipush (v := 8) hx hb dX6_isStep_12 (by decide) ?_
        refine lv_goto (tgt := 18) hx hb dX6_isStep_14 (by decide) ?_
        exact pq_conv K2 (congrArg Value.int (if_neg h3))
    refine lv_icmp_ge (tgt := 25) hx hb dX6_isStep_18 (by decide) (fun h4 => ?_) (fun h4 => ?_)
    · refine lv_iconst (v := 0) hx hb dX6_isStep_25 (by decide) ?_
      exact W.zret (v := 0) hx hb hr (by first | rfl | exact pq_nz) (fun t ht hW => ⟨congrArg (fun z => Outcome.returned (some (Value.int z))) (show _ = rf_isStep p0 p1 from Eq.symm (show rf_isStep p0 p1 = _ from ((if_neg h1).trans (if_pos h4)))), ht⟩) (fun q hq => absurd hq List.not_mem_nil) dX6_isStep_26
    · refine lv_iconst (v := 1) hx hb dX6_isStep_21 (by decide) ?_
      refine lv_goto (tgt := 26) hx hb dX6_isStep_22 (by decide) ?_
      exact W.zret (v := 1) hx hb hr (by first | rfl | exact pq_nz) (fun t ht hW => ⟨congrArg (fun z => Outcome.returned (some (Value.int z))) (show _ = rf_isStep p0 p1 from Eq.symm (show rf_isStep p0 p1 = _ from ((if_neg h1).trans (if_neg h4)))), ht⟩) (fun q hq => absurd hq List.not_mem_nil) dX6_isStep_26
