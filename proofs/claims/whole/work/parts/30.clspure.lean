def cl_takesK (p0 : Int32) : Int32 := if p0 = 1 then 1 else (if p0 = 2 then 1 else (if p0 = 7 then 1 else (0)))
set_option maxHeartbeats 4000000 in
set_option maxRecDepth 100000 in
theorem mt_X5_takesK (l : Launch) (p0 : Int32) : Met l yX5_takesK wsX5_takesK ({ frames := 0, cells := 0, slots := 0, locals := 0 }) (va_Pc [.int p0] (fun _ => True)) (pq_V (.int (cl_takesK p0))) 0 0 (fun _ => False) := by
  refine Met.ofW (cc := cX5_takesK) (maxL := 1) (ret := (some .boolean)) (by decide) rfl ?_
  intro p e s m args below meth c s₁ B hml hv
  obtain ⟨rfl, -⟩ := hv
  have hx := B.exec
  have hb := B.bytes
  have hr := B.returns
  have hts := atoms_spec (ws := wsX5_takesK) B.pre
  have hown : s.vm.findClass RX5 = some m.cls := findClass_of_methodNamed B.named
  have hlocks := B.notSynchronized
  have hl := lv_entry ([.int p0]) (n := 1) (Nat.le_of_ble_eq_true rfl)
  rw [lg_entry_eq]
  generalize (lg_sl ([.int p0]) ++ List.replicate (1 - (lg_sl ([.int p0])).length) Slot.unset).toArray = ls at hl ⊢
  have hl : lv_has ls 1 [(0, .int p0)] := hl
  refine lv_iload_n hx hb dX5_takesK_0 rfl (lv_at hl 0 rfl) ?_
  refine lv_iconst (v := 1) hx hb dX5_takesK_1 (by decide) ?_
  refine lv_icmp_eq (tgt := 16) hx hb dX5_takesK_2 (by decide) (fun h1 => ?_) (fun h1 => ?_)
  · refine lv_iconst (v := 1) hx hb dX5_takesK_16 (by decide) ?_
    refine lv_goto (tgt := 21) hx hb dX5_takesK_17 (by decide) ?_
    exact W.zret (v := 1) hx hb hr (by first | rfl | exact pq_nz) (fun t ht hW => ⟨congrArg (fun z => Outcome.returned (some (Value.int z))) (show _ = cl_takesK p0 from Eq.symm (show cl_takesK p0 = _ from (if_pos h1))), ht⟩) (fun q hq => absurd hq List.not_mem_nil) dX5_takesK_21
  · refine lv_iload_n hx hb dX5_takesK_5 rfl (lv_at hl 0 rfl) ?_
    refine lv_iconst (v := 2) hx hb dX5_takesK_6 (by decide) ?_
    refine lv_icmp_eq (tgt := 16) hx hb dX5_takesK_7 (by decide) (fun h2 => ?_) (fun h2 => ?_)
    · refine lv_iconst (v := 1) hx hb dX5_takesK_16 (by decide) ?_
      refine lv_goto (tgt := 21) hx hb dX5_takesK_17 (by decide) ?_
      exact W.zret (v := 1) hx hb hr (by first | rfl | exact pq_nz) (fun t ht hW => ⟨congrArg (fun z => Outcome.returned (some (Value.int z))) (show _ = cl_takesK p0 from Eq.symm (show cl_takesK p0 = _ from ((if_neg h1).trans (if_pos h2)))), ht⟩) (fun q hq => absurd hq List.not_mem_nil) dX5_takesK_21
    · refine lv_iload_n hx hb dX5_takesK_10 rfl (lv_at hl 0 rfl) ?_
      refine lv_bipush (v := 7) hx hb dX5_takesK_11 (by decide) ?_
      refine lv_icmp_ne (tgt := 20) hx hb dX5_takesK_13 (by decide) (fun h3 => ?_) (fun h3 => ?_)
      · refine lv_iconst (v := 0) hx hb dX5_takesK_20 (by decide) ?_
        exact W.zret (v := 0) hx hb hr (by first | rfl | exact pq_nz) (fun t ht hW => ⟨congrArg (fun z => Outcome.returned (some (Value.int z))) (show _ = cl_takesK p0 from Eq.symm (show cl_takesK p0 = _ from ((if_neg h1).trans ((if_neg h2).trans (if_neg h3))))), ht⟩) (fun q hq => absurd hq List.not_mem_nil) dX5_takesK_21
      · refine lv_iconst (v := 1) hx hb dX5_takesK_16 (by decide) ?_
        refine lv_goto (tgt := 21) hx hb dX5_takesK_17 (by decide) ?_
        exact W.zret (v := 1) hx hb hr (by first | rfl | exact pq_nz) (fun t ht hW => ⟨congrArg (fun z => Outcome.returned (some (Value.int z))) (show _ = cl_takesK p0 from Eq.symm (show cl_takesK p0 = _ from ((if_neg h1).trans ((if_neg h2).trans (if_pos h3))))), ht⟩) (fun q hq => absurd hq List.not_mem_nil) dX5_takesK_21
def fl_shiftedDown (p0 : Int64) (p1 : Int32) : Int64 := if p1 < 64 then if ((p0 >>> (Int32.toInt64 p1 &&& 63)) <<< (Int32.toInt64 p1 &&& 63)) = p0 then (p0 >>> (Int32.toInt64 p1 &&& 63)) else (((p0 >>> (Int32.toInt64 p1 &&& 63)) ||| 1)) else (if p0 = 0 then 0 else (1))
set_option maxHeartbeats 4000000 in
set_option maxRecDepth 100000 in
theorem mt_X0_shiftedDown (l : Launch) (p0 : Int64) (p1 : Int32) : Met l yX0_shiftedDown wsX0_shiftedDown ({ frames := 0, cells := 0, slots := 0, locals := 0 }) (va_Pc [.long p0, .int p1] (fun _ => True)) (pq_V (.long (fl_shiftedDown p0 p1))) 0 0 (fun _ => False) := by
  refine Met.ofW (cc := cX0_shiftedDown) (maxL := 5) (ret := (some .long)) (by decide) rfl ?_
  intro p e s m args below meth c s₁ B hml hv
  obtain ⟨rfl, -⟩ := hv
  have hx := B.exec
  have hb := B.bytes
  have hr := B.returns
  have hts := atoms_spec (ws := wsX0_shiftedDown) B.pre
  have hown : s.vm.findClass RX0 = some m.cls := findClass_of_methodNamed B.named
  have hlocks := B.notSynchronized
  have hl := lv_entry ([.long p0, .int p1]) (n := 5) (Nat.le_of_ble_eq_true rfl)
  rw [lg_entry_eq]
  generalize (lg_sl ([.long p0, .int p1]) ++ List.replicate (5 - (lg_sl ([.long p0, .int p1])).length) Slot.unset).toArray = ls at hl ⊢
  have hl : lv_has ls 5 [(0, .long p0), (2, .int p1)] := hl
  refine lv_iload_n hx hb dX0_shiftedDown_0 rfl (lv_at hl 1 rfl) ?_
  refine lv_bipush (v := 64) hx hb dX0_shiftedDown_1 (by decide) ?_
  refine lv_icmp_lt (tgt := 18) hx hb dX0_shiftedDown_3 (by decide) (fun h1 => ?_) (fun h1 => ?_)
  · refine lv_lload_n hx hb dX0_shiftedDown_18 rfl (lv_at hl 0 rfl) ?_
    refine lv_iload_n hx hb dX0_shiftedDown_19 rfl (lv_at hl 1 rfl) ?_
    refine lv_lshr (v := (p0 >>> (Int32.toInt64 p1 &&& 63))) hx hb dX0_shiftedDown_20 rfl ?_
    refine lv_lstore_n (lv' := [(3, .long (p0 >>> (Int32.toInt64 p1 &&& 63))), (0, .long p0), (2, .int p1)]) hx hb dX0_shiftedDown_21 rfl hl (by decide) rfl (fun ls hl => ?_)
    refine lv_lload_n hx hb dX0_shiftedDown_22 rfl (lv_at hl 0 rfl) ?_
    refine lv_iload_n hx hb dX0_shiftedDown_23 rfl (lv_at hl 2 rfl) ?_
    refine lv_lshl (v := ((p0 >>> (Int32.toInt64 p1 &&& 63)) <<< (Int32.toInt64 p1 &&& 63))) hx hb dX0_shiftedDown_24 rfl ?_
    refine lv_lload_n hx hb dX0_shiftedDown_25 rfl (lv_at hl 1 rfl) ?_
    refine pq_lcmp_ne (tgt := 34) hx hb dX0_shiftedDown_26 dX0_shiftedDown_27 (by decide) (fun h2 => ?_) (fun h2 => ?_)
    · refine lv_lload_n hx hb dX0_shiftedDown_34 rfl (lv_at hl 0 rfl) ?_
      refine lv_lconst (v := 1) hx hb dX0_shiftedDown_35 (by decide) ?_
      refine lv_lor hx hb dX0_shiftedDown_36 ?_
      exact W.lret (v := ((p0 >>> (Int32.toInt64 p1 &&& 63)) ||| 1)) hx hb hr (fun t ht hW => ⟨congrArg (fun z => Outcome.returned (some (Value.long z))) (show _ = fl_shiftedDown p0 p1 from Eq.symm (show fl_shiftedDown p0 p1 = _ from ((if_pos h1).trans (if_neg h2)))), ht⟩) (fun q hq => absurd hq List.not_mem_nil) dX0_shiftedDown_37
    · refine lv_lload_n hx hb dX0_shiftedDown_30 rfl (lv_at hl 0 rfl) ?_
      refine lv_goto (tgt := 37) hx hb dX0_shiftedDown_31 (by decide) ?_
      exact W.lret (v := (p0 >>> (Int32.toInt64 p1 &&& 63))) hx hb hr (fun t ht hW => ⟨congrArg (fun z => Outcome.returned (some (Value.long z))) (show _ = fl_shiftedDown p0 p1 from Eq.symm (show fl_shiftedDown p0 p1 = _ from ((if_pos h1).trans (if_pos h2)))), ht⟩) (fun q hq => absurd hq List.not_mem_nil) dX0_shiftedDown_37
  · refine lv_lload_n hx hb dX0_shiftedDown_6 rfl (lv_at hl 0 rfl) ?_
    refine lv_lconst (v := 0) hx hb dX0_shiftedDown_7 (by decide) ?_
    refine pq_lcmp_ne (tgt := 16) hx hb dX0_shiftedDown_8 dX0_shiftedDown_9 (by decide) (fun h3 => ?_) (fun h3 => ?_)
    · refine lv_lconst (v := 1) hx hb dX0_shiftedDown_16 (by decide) ?_
      exact W.lret (v := 1) hx hb hr (fun t ht hW => ⟨congrArg (fun z => Outcome.returned (some (Value.long z))) (show _ = fl_shiftedDown p0 p1 from Eq.symm (show fl_shiftedDown p0 p1 = _ from ((if_neg h1).trans (if_neg h3)))), ht⟩) (fun q hq => absurd hq List.not_mem_nil) dX0_shiftedDown_17
    · refine lv_lconst (v := 0) hx hb dX0_shiftedDown_12 (by decide) ?_
      refine lv_goto (tgt := 17) hx hb dX0_shiftedDown_13 (by decide) ?_
      exact W.lret (v := 0) hx hb hr (fun t ht hW => ⟨congrArg (fun z => Outcome.returned (some (Value.long z))) (show _ = fl_shiftedDown p0 p1 from Eq.symm (show fl_shiftedDown p0 p1 = _ from ((if_neg h1).trans (if_pos h3)))), ht⟩) (fun q hq => absurd hq List.not_mem_nil) dX0_shiftedDown_17
def jd_nlzI (p0 : Int32) : Int32 := if 0 < p0 then if p0 < 65536 then if p0 < 256 then if p0 < 16 then if p0 < 4 then (31 - ((Int32.toUInt32 p0 >>> (Int32.toUInt32 1 &&& Int32.toUInt32 31)).toInt32)) else (((31 + (-2)) - ((Int32.toUInt32 ((Int32.toUInt32 p0 >>> (Int32.toUInt32 2 &&& Int32.toUInt32 31)).toInt32) >>> (Int32.toUInt32 1 &&& Int32.toUInt32 31)).toInt32))) else (if ((Int32.toUInt32 p0 >>> (Int32.toUInt32 4 &&& Int32.toUInt32 31)).toInt32) < 4 then ((31 + (-4)) - ((Int32.toUInt32 ((Int32.toUInt32 p0 >>> (Int32.toUInt32 4 &&& Int32.toUInt32 31)).toInt32) >>> (Int32.toUInt32 1 &&& Int32.toUInt32 31)).toInt32)) else ((((31 + (-4)) + (-2)) - ((Int32.toUInt32 ((Int32.toUInt32 ((Int32.toUInt32 p0 >>> (Int32.toUInt32 4 &&& Int32.toUInt32 31)).toInt32) >>> (Int32.toUInt32 2 &&& Int32.toUInt32 31)).toInt32) >>> (Int32.toUInt32 1 &&& Int32.toUInt32 31)).toInt32)))) else (if ((Int32.toUInt32 p0 >>> (Int32.toUInt32 8 &&& Int32.toUInt32 31)).toInt32) < 16 then if ((Int32.toUInt32 p0 >>> (Int32.toUInt32 8 &&& Int32.toUInt32 31)).toInt32) < 4 then ((31 + (-8)) - ((Int32.toUInt32 ((Int32.toUInt32 p0 >>> (Int32.toUInt32 8 &&& Int32.toUInt32 31)).toInt32) >>> (Int32.toUInt32 1 &&& Int32.toUInt32 31)).toInt32)) else ((((31 + (-8)) + (-2)) - ((Int32.toUInt32 ((Int32.toUInt32 ((Int32.toUInt32 p0 >>> (Int32.toUInt32 8 &&& Int32.toUInt32 31)).toInt32) >>> (Int32.toUInt32 2 &&& Int32.toUInt32 31)).toInt32) >>> (Int32.toUInt32 1 &&& Int32.toUInt32 31)).toInt32))) else (if ((Int32.toUInt32 ((Int32.toUInt32 p0 >>> (Int32.toUInt32 8 &&& Int32.toUInt32 31)).toInt32) >>> (Int32.toUInt32 4 &&& Int32.toUInt32 31)).toInt32) < 4 then (((31 + (-8)) + (-4)) - ((Int32.toUInt32 ((Int32.toUInt32 ((Int32.toUInt32 p0 >>> (Int32.toUInt32 8 &&& Int32.toUInt32 31)).toInt32) >>> (Int32.toUInt32 4 &&& Int32.toUInt32 31)).toInt32) >>> (Int32.toUInt32 1 &&& Int32.toUInt32 31)).toInt32)) else (((((31 + (-8)) + (-4)) + (-2)) - ((Int32.toUInt32 ((Int32.toUInt32 ((Int32.toUInt32 ((Int32.toUInt32 p0 >>> (Int32.toUInt32 8 &&& Int32.toUInt32 31)).toInt32) >>> (Int32.toUInt32 4 &&& Int32.toUInt32 31)).toInt32) >>> (Int32.toUInt32 2 &&& Int32.toUInt32 31)).toInt32) >>> (Int32.toUInt32 1 &&& Int32.toUInt32 31)).toInt32))))) else (if ((Int32.toUInt32 p0 >>> (Int32.toUInt32 16 &&& Int32.toUInt32 31)).toInt32) < 256 then if ((Int32.toUInt32 p0 >>> (Int32.toUInt32 16 &&& Int32.toUInt32 31)).toInt32) < 16 then if ((Int32.toUInt32 p0 >>> (Int32.toUInt32 16 &&& Int32.toUInt32 31)).toInt32) < 4 then ((31 + (-16)) - ((Int32.toUInt32 ((Int32.toUInt32 p0 >>> (Int32.toUInt32 16 &&& Int32.toUInt32 31)).toInt32) >>> (Int32.toUInt32 1 &&& Int32.toUInt32 31)).toInt32)) else ((((31 + (-16)) + (-2)) - ((Int32.toUInt32 ((Int32.toUInt32 ((Int32.toUInt32 p0 >>> (Int32.toUInt32 16 &&& Int32.toUInt32 31)).toInt32) >>> (Int32.toUInt32 2 &&& Int32.toUInt32 31)).toInt32) >>> (Int32.toUInt32 1 &&& Int32.toUInt32 31)).toInt32))) else (if ((Int32.toUInt32 ((Int32.toUInt32 p0 >>> (Int32.toUInt32 16 &&& Int32.toUInt32 31)).toInt32) >>> (Int32.toUInt32 4 &&& Int32.toUInt32 31)).toInt32) < 4 then (((31 + (-16)) + (-4)) - ((Int32.toUInt32 ((Int32.toUInt32 ((Int32.toUInt32 p0 >>> (Int32.toUInt32 16 &&& Int32.toUInt32 31)).toInt32) >>> (Int32.toUInt32 4 &&& Int32.toUInt32 31)).toInt32) >>> (Int32.toUInt32 1 &&& Int32.toUInt32 31)).toInt32)) else (((((31 + (-16)) + (-4)) + (-2)) - ((Int32.toUInt32 ((Int32.toUInt32 ((Int32.toUInt32 ((Int32.toUInt32 p0 >>> (Int32.toUInt32 16 &&& Int32.toUInt32 31)).toInt32) >>> (Int32.toUInt32 4 &&& Int32.toUInt32 31)).toInt32) >>> (Int32.toUInt32 2 &&& Int32.toUInt32 31)).toInt32) >>> (Int32.toUInt32 1 &&& Int32.toUInt32 31)).toInt32)))) else (if ((Int32.toUInt32 ((Int32.toUInt32 p0 >>> (Int32.toUInt32 16 &&& Int32.toUInt32 31)).toInt32) >>> (Int32.toUInt32 8 &&& Int32.toUInt32 31)).toInt32) < 16 then if ((Int32.toUInt32 ((Int32.toUInt32 p0 >>> (Int32.toUInt32 16 &&& Int32.toUInt32 31)).toInt32) >>> (Int32.toUInt32 8 &&& Int32.toUInt32 31)).toInt32) < 4 then (((31 + (-16)) + (-8)) - ((Int32.toUInt32 ((Int32.toUInt32 ((Int32.toUInt32 p0 >>> (Int32.toUInt32 16 &&& Int32.toUInt32 31)).toInt32) >>> (Int32.toUInt32 8 &&& Int32.toUInt32 31)).toInt32) >>> (Int32.toUInt32 1 &&& Int32.toUInt32 31)).toInt32)) else (((((31 + (-16)) + (-8)) + (-2)) - ((Int32.toUInt32 ((Int32.toUInt32 ((Int32.toUInt32 ((Int32.toUInt32 p0 >>> (Int32.toUInt32 16 &&& Int32.toUInt32 31)).toInt32) >>> (Int32.toUInt32 8 &&& Int32.toUInt32 31)).toInt32) >>> (Int32.toUInt32 2 &&& Int32.toUInt32 31)).toInt32) >>> (Int32.toUInt32 1 &&& Int32.toUInt32 31)).toInt32))) else (if ((Int32.toUInt32 ((Int32.toUInt32 ((Int32.toUInt32 p0 >>> (Int32.toUInt32 16 &&& Int32.toUInt32 31)).toInt32) >>> (Int32.toUInt32 8 &&& Int32.toUInt32 31)).toInt32) >>> (Int32.toUInt32 4 &&& Int32.toUInt32 31)).toInt32) < 4 then ((((31 + (-16)) + (-8)) + (-4)) - ((Int32.toUInt32 ((Int32.toUInt32 ((Int32.toUInt32 ((Int32.toUInt32 p0 >>> (Int32.toUInt32 16 &&& Int32.toUInt32 31)).toInt32) >>> (Int32.toUInt32 8 &&& Int32.toUInt32 31)).toInt32) >>> (Int32.toUInt32 4 &&& Int32.toUInt32 31)).toInt32) >>> (Int32.toUInt32 1 &&& Int32.toUInt32 31)).toInt32)) else ((((((31 + (-16)) + (-8)) + (-4)) + (-2)) - ((Int32.toUInt32 ((Int32.toUInt32 ((Int32.toUInt32 ((Int32.toUInt32 ((Int32.toUInt32 p0 >>> (Int32.toUInt32 16 &&& Int32.toUInt32 31)).toInt32) >>> (Int32.toUInt32 8 &&& Int32.toUInt32 31)).toInt32) >>> (Int32.toUInt32 4 &&& Int32.toUInt32 31)).toInt32) >>> (Int32.toUInt32 2 &&& Int32.toUInt32 31)).toInt32) >>> (Int32.toUInt32 1 &&& Int32.toUInt32 31)).toInt32)))))) else (if p0 = 0 then 32 else (0))
set_option maxHeartbeats 4000000 in
set_option maxRecDepth 100000 in
theorem mt_J6_numberOfLeadingZeros_0f7a4 (l : Launch) (p0 : Int32) : Met l yJ6_numberOfLeadingZeros_0f7a4 wsJ6_numberOfLeadingZeros_0f7a4 ({ frames := 0, cells := 0, slots := 0, locals := 0 }) (va_Pc [.int p0] (fun _ => True)) (pq_V (.int (jd_nlzI p0))) 0 0 (fun _ => False) := by
  refine Met.ofW (cc := cJ6_numberOfLeadingZeros_0f7a4) (maxL := 2) (ret := (some .int)) (by decide) rfl ?_
  intro p e s m args below meth c s₁ B hml hv
  obtain ⟨rfl, -⟩ := hv
  have hx := B.exec
  have hb := B.bytes
  have hr := B.returns
  have hts := atoms_spec (ws := wsJ6_numberOfLeadingZeros_0f7a4) B.pre
  have hown : s.vm.findClass RJ6 = some m.cls := findClass_of_methodNamed B.named
  have hlocks := B.notSynchronized
  have hl := lv_entry ([.int p0]) (n := 2) (Nat.le_of_ble_eq_true rfl)
  rw [lg_entry_eq]
  generalize (lg_sl ([.int p0]) ++ List.replicate (2 - (lg_sl ([.int p0])).length) Slot.unset).toArray = ls at hl ⊢
  have hl : lv_has ls 2 [(0, .int p0)] := hl
  refine lv_iload_n hx hb dJ6_numberOfLeadingZeros_0f7a4_0 rfl (lv_at hl 0 rfl) ?_
  refine lv_if_gt (tgt := 15) hx hb dJ6_numberOfLeadingZeros_0f7a4_1 (by decide) (fun h1 => ?_) (fun h1 => ?_)
  · refine lv_bipush (v := 31) hx hb dJ6_numberOfLeadingZeros_0f7a4_15 (by decide) ?_
    refine lv_istore_n (lv' := [(1, .int 31), (0, .int p0)]) hx hb dJ6_numberOfLeadingZeros_0f7a4_17 rfl hl (by decide) rfl (fun ls hl => ?_)
    refine lv_iload_n hx hb dJ6_numberOfLeadingZeros_0f7a4_18 rfl (lv_at hl 1 rfl) ?_
    refine lv_ldcw hx hb hown (hts (.constant RJ6 264 (65536)) (by decide +kernel)) dJ6_numberOfLeadingZeros_0f7a4_19 ?_
    refine lv_icmp_lt (tgt := 33) hx hb dJ6_numberOfLeadingZeros_0f7a4_22 (by decide) (fun h2 => ?_) (fun h2 => ?_)
    · refine lv_iload_n hx hb dJ6_numberOfLeadingZeros_0f7a4_33 rfl (lv_at hl 1 rfl) ?_
      refine lv_sipush (v := 256) hx hb dJ6_numberOfLeadingZeros_0f7a4_34 (by decide) ?_
      refine lv_icmp_lt (tgt := 48) hx hb dJ6_numberOfLeadingZeros_0f7a4_37 (by decide) (fun h3 => ?_) (fun h3 => ?_)
      · refine lv_iload_n hx hb dJ6_numberOfLeadingZeros_0f7a4_48 rfl (lv_at hl 1 rfl) ?_
        refine lv_bipush (v := 16) hx hb dJ6_numberOfLeadingZeros_0f7a4_49 (by decide) ?_
        refine lv_icmp_lt (tgt := 61) hx hb dJ6_numberOfLeadingZeros_0f7a4_51 (by decide) (fun h4 => ?_) (fun h4 => ?_)
        · refine lv_iload_n hx hb dJ6_numberOfLeadingZeros_0f7a4_61 rfl (lv_at hl 1 rfl) ?_
          refine lv_iconst (v := 4) hx hb dJ6_numberOfLeadingZeros_0f7a4_62 (by decide) ?_
          refine lv_icmp_lt (tgt := 73) hx hb dJ6_numberOfLeadingZeros_0f7a4_63 (by decide) (fun h5 => ?_) (fun h5 => ?_)
          · refine lv_iload_n hx hb dJ6_numberOfLeadingZeros_0f7a4_73 rfl (lv_at hl 0 rfl) ?_
            refine lv_iload_n hx hb dJ6_numberOfLeadingZeros_0f7a4_74 rfl (lv_at hl 1 rfl) ?_
            refine lv_iconst (v := 1) hx hb dJ6_numberOfLeadingZeros_0f7a4_75 (by decide) ?_
            refine lv_iushr (v := ((Int32.toUInt32 p0 >>> (Int32.toUInt32 1 &&& Int32.toUInt32 31)).toInt32)) hx hb dJ6_numberOfLeadingZeros_0f7a4_76 rfl ?_
            refine lv_isub hx hb dJ6_numberOfLeadingZeros_0f7a4_77 ?_
            exact W.iret (v := (31 - ((Int32.toUInt32 p0 >>> (Int32.toUInt32 1 &&& Int32.toUInt32 31)).toInt32))) hx hb hr (fun t ht hW => ⟨congrArg (fun z => Outcome.returned (some (Value.int z))) (show _ = jd_nlzI p0 from Eq.symm (show jd_nlzI p0 = _ from ((if_pos h1).trans ((if_pos h2).trans ((if_pos h3).trans ((if_pos h4).trans (if_pos h5))))))), ht⟩) (fun q hq => absurd hq List.not_mem_nil) dJ6_numberOfLeadingZeros_0f7a4_78
          · refine lv_iinc (v := (31 + (-2))) (lv' := [(1, .int (31 + (-2))), (0, .int p0)]) hx hb dJ6_numberOfLeadingZeros_0f7a4_66 hl (k := 0) rfl rfl (by decide) rfl (fun ls hl => ?_)
            refine lv_iload_n hx hb dJ6_numberOfLeadingZeros_0f7a4_69 rfl (lv_at hl 1 rfl) ?_
            refine lv_iconst (v := 2) hx hb dJ6_numberOfLeadingZeros_0f7a4_70 (by decide) ?_
            refine lv_iushr (v := ((Int32.toUInt32 p0 >>> (Int32.toUInt32 2 &&& Int32.toUInt32 31)).toInt32)) hx hb dJ6_numberOfLeadingZeros_0f7a4_71 rfl ?_
            refine lv_istore_n (lv' := [(0, .int ((Int32.toUInt32 p0 >>> (Int32.toUInt32 2 &&& Int32.toUInt32 31)).toInt32)), (1, .int (31 + (-2)))]) hx hb dJ6_numberOfLeadingZeros_0f7a4_72 rfl hl (by decide) rfl (fun ls hl => ?_)
            refine lv_iload_n hx hb dJ6_numberOfLeadingZeros_0f7a4_73 rfl (lv_at hl 1 rfl) ?_
            refine lv_iload_n hx hb dJ6_numberOfLeadingZeros_0f7a4_74 rfl (lv_at hl 0 rfl) ?_
            refine lv_iconst (v := 1) hx hb dJ6_numberOfLeadingZeros_0f7a4_75 (by decide) ?_
            refine lv_iushr (v := ((Int32.toUInt32 ((Int32.toUInt32 p0 >>> (Int32.toUInt32 2 &&& Int32.toUInt32 31)).toInt32) >>> (Int32.toUInt32 1 &&& Int32.toUInt32 31)).toInt32)) hx hb dJ6_numberOfLeadingZeros_0f7a4_76 rfl ?_
            refine lv_isub hx hb dJ6_numberOfLeadingZeros_0f7a4_77 ?_
            exact W.iret (v := ((31 + (-2)) - ((Int32.toUInt32 ((Int32.toUInt32 p0 >>> (Int32.toUInt32 2 &&& Int32.toUInt32 31)).toInt32) >>> (Int32.toUInt32 1 &&& Int32.toUInt32 31)).toInt32))) hx hb hr (fun t ht hW => ⟨congrArg (fun z => Outcome.returned (some (Value.int z))) (show _ = jd_nlzI p0 from Eq.symm (show jd_nlzI p0 = _ from ((if_pos h1).trans ((if_pos h2).trans ((if_pos h3).trans ((if_pos h4).trans (if_neg h5))))))), ht⟩) (fun q hq => absurd hq List.not_mem_nil) dJ6_numberOfLeadingZeros_0f7a4_78
        · refine lv_iinc (v := (31 + (-4))) (lv' := [(1, .int (31 + (-4))), (0, .int p0)]) hx hb dJ6_numberOfLeadingZeros_0f7a4_54 hl (k := 0) rfl rfl (by decide) rfl (fun ls hl => ?_)
          refine lv_iload_n hx hb dJ6_numberOfLeadingZeros_0f7a4_57 rfl (lv_at hl 1 rfl) ?_
          refine lv_iconst (v := 4) hx hb dJ6_numberOfLeadingZeros_0f7a4_58 (by decide) ?_
          refine lv_iushr (v := ((Int32.toUInt32 p0 >>> (Int32.toUInt32 4 &&& Int32.toUInt32 31)).toInt32)) hx hb dJ6_numberOfLeadingZeros_0f7a4_59 rfl ?_
          refine lv_istore_n (lv' := [(0, .int ((Int32.toUInt32 p0 >>> (Int32.toUInt32 4 &&& Int32.toUInt32 31)).toInt32)), (1, .int (31 + (-4)))]) hx hb dJ6_numberOfLeadingZeros_0f7a4_60 rfl hl (by decide) rfl (fun ls hl => ?_)
          refine lv_iload_n hx hb dJ6_numberOfLeadingZeros_0f7a4_61 rfl (lv_at hl 0 rfl) ?_
          refine lv_iconst (v := 4) hx hb dJ6_numberOfLeadingZeros_0f7a4_62 (by decide) ?_
          refine lv_icmp_lt (tgt := 73) hx hb dJ6_numberOfLeadingZeros_0f7a4_63 (by decide) (fun h6 => ?_) (fun h6 => ?_)
          · refine lv_iload_n hx hb dJ6_numberOfLeadingZeros_0f7a4_73 rfl (lv_at hl 1 rfl) ?_
            refine lv_iload_n hx hb dJ6_numberOfLeadingZeros_0f7a4_74 rfl (lv_at hl 0 rfl) ?_
            refine lv_iconst (v := 1) hx hb dJ6_numberOfLeadingZeros_0f7a4_75 (by decide) ?_
            refine lv_iushr (v := ((Int32.toUInt32 ((Int32.toUInt32 p0 >>> (Int32.toUInt32 4 &&& Int32.toUInt32 31)).toInt32) >>> (Int32.toUInt32 1 &&& Int32.toUInt32 31)).toInt32)) hx hb dJ6_numberOfLeadingZeros_0f7a4_76 rfl ?_
            refine lv_isub hx hb dJ6_numberOfLeadingZeros_0f7a4_77 ?_
            exact W.iret (v := ((31 + (-4)) - ((Int32.toUInt32 ((Int32.toUInt32 p0 >>> (Int32.toUInt32 4 &&& Int32.toUInt32 31)).toInt32) >>> (Int32.toUInt32 1 &&& Int32.toUInt32 31)).toInt32))) hx hb hr (fun t ht hW => ⟨congrArg (fun z => Outcome.returned (some (Value.int z))) (show _ = jd_nlzI p0 from Eq.symm (show jd_nlzI p0 = _ from ((if_pos h1).trans ((if_pos h2).trans ((if_pos h3).trans ((if_neg h4).trans (if_pos h6))))))), ht⟩) (fun q hq => absurd hq List.not_mem_nil) dJ6_numberOfLeadingZeros_0f7a4_78
          · refine lv_iinc (v := ((31 + (-4)) + (-2))) (lv' := [(1, .int ((31 + (-4)) + (-2))), (0, .int ((Int32.toUInt32 p0 >>> (Int32.toUInt32 4 &&& Int32.toUInt32 31)).toInt32))]) hx hb dJ6_numberOfLeadingZeros_0f7a4_66 hl (k := 1) rfl rfl (by decide) rfl (fun ls hl => ?_)
            refine lv_iload_n hx hb dJ6_numberOfLeadingZeros_0f7a4_69 rfl (lv_at hl 1 rfl) ?_
            refine lv_iconst (v := 2) hx hb dJ6_numberOfLeadingZeros_0f7a4_70 (by decide) ?_
            refine lv_iushr (v := ((Int32.toUInt32 ((Int32.toUInt32 p0 >>> (Int32.toUInt32 4 &&& Int32.toUInt32 31)).toInt32) >>> (Int32.toUInt32 2 &&& Int32.toUInt32 31)).toInt32)) hx hb dJ6_numberOfLeadingZeros_0f7a4_71 rfl ?_
            refine lv_istore_n (lv' := [(0, .int ((Int32.toUInt32 ((Int32.toUInt32 p0 >>> (Int32.toUInt32 4 &&& Int32.toUInt32 31)).toInt32) >>> (Int32.toUInt32 2 &&& Int32.toUInt32 31)).toInt32)), (1, .int ((31 + (-4)) + (-2)))]) hx hb dJ6_numberOfLeadingZeros_0f7a4_72 rfl hl (by decide) rfl (fun ls hl => ?_)
            refine lv_iload_n hx hb dJ6_numberOfLeadingZeros_0f7a4_73 rfl (lv_at hl 1 rfl) ?_
            refine lv_iload_n hx hb dJ6_numberOfLeadingZeros_0f7a4_74 rfl (lv_at hl 0 rfl) ?_
            refine lv_iconst (v := 1) hx hb dJ6_numberOfLeadingZeros_0f7a4_75 (by decide) ?_
            refine lv_iushr (v := ((Int32.toUInt32 ((Int32.toUInt32 ((Int32.toUInt32 p0 >>> (Int32.toUInt32 4 &&& Int32.toUInt32 31)).toInt32) >>> (Int32.toUInt32 2 &&& Int32.toUInt32 31)).toInt32) >>> (Int32.toUInt32 1 &&& Int32.toUInt32 31)).toInt32)) hx hb dJ6_numberOfLeadingZeros_0f7a4_76 rfl ?_
            refine lv_isub hx hb dJ6_numberOfLeadingZeros_0f7a4_77 ?_
            exact W.iret (v := (((31 + (-4)) + (-2)) - ((Int32.toUInt32 ((Int32.toUInt32 ((Int32.toUInt32 p0 >>> (Int32.toUInt32 4 &&& Int32.toUInt32 31)).toInt32) >>> (Int32.toUInt32 2 &&& Int32.toUInt32 31)).toInt32) >>> (Int32.toUInt32 1 &&& Int32.toUInt32 31)).toInt32))) hx hb hr (fun t ht hW => ⟨congrArg (fun z => Outcome.returned (some (Value.int z))) (show _ = jd_nlzI p0 from Eq.symm (show jd_nlzI p0 = _ from ((if_pos h1).trans ((if_pos h2).trans ((if_pos h3).trans ((if_neg h4).trans (if_neg h6))))))), ht⟩) (fun q hq => absurd hq List.not_mem_nil) dJ6_numberOfLeadingZeros_0f7a4_78
      · refine lv_iinc (v := (31 + (-8))) (lv' := [(1, .int (31 + (-8))), (0, .int p0)]) hx hb dJ6_numberOfLeadingZeros_0f7a4_40 hl (k := 0) rfl rfl (by decide) rfl (fun ls hl => ?_)
        refine lv_iload_n hx hb dJ6_numberOfLeadingZeros_0f7a4_43 rfl (lv_at hl 1 rfl) ?_
        refine lv_bipush (v := 8) hx hb dJ6_numberOfLeadingZeros_0f7a4_44 (by decide) ?_
        refine lv_iushr (v := ((Int32.toUInt32 p0 >>> (Int32.toUInt32 8 &&& Int32.toUInt32 31)).toInt32)) hx hb dJ6_numberOfLeadingZeros_0f7a4_46 rfl ?_
        refine lv_istore_n (lv' := [(0, .int ((Int32.toUInt32 p0 >>> (Int32.toUInt32 8 &&& Int32.toUInt32 31)).toInt32)), (1, .int (31 + (-8)))]) hx hb dJ6_numberOfLeadingZeros_0f7a4_47 rfl hl (by decide) rfl (fun ls hl => ?_)
        refine lv_iload_n hx hb dJ6_numberOfLeadingZeros_0f7a4_48 rfl (lv_at hl 0 rfl) ?_
        refine lv_bipush (v := 16) hx hb dJ6_numberOfLeadingZeros_0f7a4_49 (by decide) ?_
        refine lv_icmp_lt (tgt := 61) hx hb dJ6_numberOfLeadingZeros_0f7a4_51 (by decide) (fun h7 => ?_) (fun h7 => ?_)
        · refine lv_iload_n hx hb dJ6_numberOfLeadingZeros_0f7a4_61 rfl (lv_at hl 0 rfl) ?_
          refine lv_iconst (v := 4) hx hb dJ6_numberOfLeadingZeros_0f7a4_62 (by decide) ?_
          refine lv_icmp_lt (tgt := 73) hx hb dJ6_numberOfLeadingZeros_0f7a4_63 (by decide) (fun h8 => ?_) (fun h8 => ?_)
          · refine lv_iload_n hx hb dJ6_numberOfLeadingZeros_0f7a4_73 rfl (lv_at hl 1 rfl) ?_
            refine lv_iload_n hx hb dJ6_numberOfLeadingZeros_0f7a4_74 rfl (lv_at hl 0 rfl) ?_
            refine lv_iconst (v := 1) hx hb dJ6_numberOfLeadingZeros_0f7a4_75 (by decide) ?_
            refine lv_iushr (v := ((Int32.toUInt32 ((Int32.toUInt32 p0 >>> (Int32.toUInt32 8 &&& Int32.toUInt32 31)).toInt32) >>> (Int32.toUInt32 1 &&& Int32.toUInt32 31)).toInt32)) hx hb dJ6_numberOfLeadingZeros_0f7a4_76 rfl ?_
            refine lv_isub hx hb dJ6_numberOfLeadingZeros_0f7a4_77 ?_
            exact W.iret (v := ((31 + (-8)) - ((Int32.toUInt32 ((Int32.toUInt32 p0 >>> (Int32.toUInt32 8 &&& Int32.toUInt32 31)).toInt32) >>> (Int32.toUInt32 1 &&& Int32.toUInt32 31)).toInt32))) hx hb hr (fun t ht hW => ⟨congrArg (fun z => Outcome.returned (some (Value.int z))) (show _ = jd_nlzI p0 from Eq.symm (show jd_nlzI p0 = _ from ((if_pos h1).trans ((if_pos h2).trans ((if_neg h3).trans ((if_pos h7).trans (if_pos h8))))))), ht⟩) (fun q hq => absurd hq List.not_mem_nil) dJ6_numberOfLeadingZeros_0f7a4_78
          · refine lv_iinc (v := ((31 + (-8)) + (-2))) (lv' := [(1, .int ((31 + (-8)) + (-2))), (0, .int ((Int32.toUInt32 p0 >>> (Int32.toUInt32 8 &&& Int32.toUInt32 31)).toInt32))]) hx hb dJ6_numberOfLeadingZeros_0f7a4_66 hl (k := 1) rfl rfl (by decide) rfl (fun ls hl => ?_)
            refine lv_iload_n hx hb dJ6_numberOfLeadingZeros_0f7a4_69 rfl (lv_at hl 1 rfl) ?_
            refine lv_iconst (v := 2) hx hb dJ6_numberOfLeadingZeros_0f7a4_70 (by decide) ?_
            refine lv_iushr (v := ((Int32.toUInt32 ((Int32.toUInt32 p0 >>> (Int32.toUInt32 8 &&& Int32.toUInt32 31)).toInt32) >>> (Int32.toUInt32 2 &&& Int32.toUInt32 31)).toInt32)) hx hb dJ6_numberOfLeadingZeros_0f7a4_71 rfl ?_
            refine lv_istore_n (lv' := [(0, .int ((Int32.toUInt32 ((Int32.toUInt32 p0 >>> (Int32.toUInt32 8 &&& Int32.toUInt32 31)).toInt32) >>> (Int32.toUInt32 2 &&& Int32.toUInt32 31)).toInt32)), (1, .int ((31 + (-8)) + (-2)))]) hx hb dJ6_numberOfLeadingZeros_0f7a4_72 rfl hl (by decide) rfl (fun ls hl => ?_)
            refine lv_iload_n hx hb dJ6_numberOfLeadingZeros_0f7a4_73 rfl (lv_at hl 1 rfl) ?_
            refine lv_iload_n hx hb dJ6_numberOfLeadingZeros_0f7a4_74 rfl (lv_at hl 0 rfl) ?_
            refine lv_iconst (v := 1) hx hb dJ6_numberOfLeadingZeros_0f7a4_75 (by decide) ?_
            refine lv_iushr (v := ((Int32.toUInt32 ((Int32.toUInt32 ((Int32.toUInt32 p0 >>> (Int32.toUInt32 8 &&& Int32.toUInt32 31)).toInt32) >>> (Int32.toUInt32 2 &&& Int32.toUInt32 31)).toInt32) >>> (Int32.toUInt32 1 &&& Int32.toUInt32 31)).toInt32)) hx hb dJ6_numberOfLeadingZeros_0f7a4_76 rfl ?_
            refine lv_isub hx hb dJ6_numberOfLeadingZeros_0f7a4_77 ?_
            exact W.iret (v := (((31 + (-8)) + (-2)) - ((Int32.toUInt32 ((Int32.toUInt32 ((Int32.toUInt32 p0 >>> (Int32.toUInt32 8 &&& Int32.toUInt32 31)).toInt32) >>> (Int32.toUInt32 2 &&& Int32.toUInt32 31)).toInt32) >>> (Int32.toUInt32 1 &&& Int32.toUInt32 31)).toInt32))) hx hb hr (fun t ht hW => ⟨congrArg (fun z => Outcome.returned (some (Value.int z))) (show _ = jd_nlzI p0 from Eq.symm (show jd_nlzI p0 = _ from ((if_pos h1).trans ((if_pos h2).trans ((if_neg h3).trans ((if_pos h7).trans (if_neg h8))))))), ht⟩) (fun q hq => absurd hq List.not_mem_nil) dJ6_numberOfLeadingZeros_0f7a4_78
        · refine lv_iinc (v := ((31 + (-8)) + (-4))) (lv' := [(1, .int ((31 + (-8)) + (-4))), (0, .int ((Int32.toUInt32 p0 >>> (Int32.toUInt32 8 &&& Int32.toUInt32 31)).toInt32))]) hx hb dJ6_numberOfLeadingZeros_0f7a4_54 hl (k := 1) rfl rfl (by decide) rfl (fun ls hl => ?_)
          refine lv_iload_n hx hb dJ6_numberOfLeadingZeros_0f7a4_57 rfl (lv_at hl 1 rfl) ?_
          refine lv_iconst (v := 4) hx hb dJ6_numberOfLeadingZeros_0f7a4_58 (by decide) ?_
          refine lv_iushr (v := ((Int32.toUInt32 ((Int32.toUInt32 p0 >>> (Int32.toUInt32 8 &&& Int32.toUInt32 31)).toInt32) >>> (Int32.toUInt32 4 &&& Int32.toUInt32 31)).toInt32)) hx hb dJ6_numberOfLeadingZeros_0f7a4_59 rfl ?_
          refine lv_istore_n (lv' := [(0, .int ((Int32.toUInt32 ((Int32.toUInt32 p0 >>> (Int32.toUInt32 8 &&& Int32.toUInt32 31)).toInt32) >>> (Int32.toUInt32 4 &&& Int32.toUInt32 31)).toInt32)), (1, .int ((31 + (-8)) + (-4)))]) hx hb dJ6_numberOfLeadingZeros_0f7a4_60 rfl hl (by decide) rfl (fun ls hl => ?_)
          refine lv_iload_n hx hb dJ6_numberOfLeadingZeros_0f7a4_61 rfl (lv_at hl 0 rfl) ?_
          refine lv_iconst (v := 4) hx hb dJ6_numberOfLeadingZeros_0f7a4_62 (by decide) ?_
          refine lv_icmp_lt (tgt := 73) hx hb dJ6_numberOfLeadingZeros_0f7a4_63 (by decide) (fun h9 => ?_) (fun h9 => ?_)
          · refine lv_iload_n hx hb dJ6_numberOfLeadingZeros_0f7a4_73 rfl (lv_at hl 1 rfl) ?_
            refine lv_iload_n hx hb dJ6_numberOfLeadingZeros_0f7a4_74 rfl (lv_at hl 0 rfl) ?_
            refine lv_iconst (v := 1) hx hb dJ6_numberOfLeadingZeros_0f7a4_75 (by decide) ?_
            refine lv_iushr (v := ((Int32.toUInt32 ((Int32.toUInt32 ((Int32.toUInt32 p0 >>> (Int32.toUInt32 8 &&& Int32.toUInt32 31)).toInt32) >>> (Int32.toUInt32 4 &&& Int32.toUInt32 31)).toInt32) >>> (Int32.toUInt32 1 &&& Int32.toUInt32 31)).toInt32)) hx hb dJ6_numberOfLeadingZeros_0f7a4_76 rfl ?_
            refine lv_isub hx hb dJ6_numberOfLeadingZeros_0f7a4_77 ?_
            exact W.iret (v := (((31 + (-8)) + (-4)) - ((Int32.toUInt32 ((Int32.toUInt32 ((Int32.toUInt32 p0 >>> (Int32.toUInt32 8 &&& Int32.toUInt32 31)).toInt32) >>> (Int32.toUInt32 4 &&& Int32.toUInt32 31)).toInt32) >>> (Int32.toUInt32 1 &&& Int32.toUInt32 31)).toInt32))) hx hb hr (fun t ht hW => ⟨congrArg (fun z => Outcome.returned (some (Value.int z))) (show _ = jd_nlzI p0 from Eq.symm (show jd_nlzI p0 = _ from ((if_pos h1).trans ((if_pos h2).trans ((if_neg h3).trans ((if_neg h7).trans (if_pos h9))))))), ht⟩) (fun q hq => absurd hq List.not_mem_nil) dJ6_numberOfLeadingZeros_0f7a4_78
          · refine lv_iinc (v := (((31 + (-8)) + (-4)) + (-2))) (lv' := [(1, .int (((31 + (-8)) + (-4)) + (-2))), (0, .int ((Int32.toUInt32 ((Int32.toUInt32 p0 >>> (Int32.toUInt32 8 &&& Int32.toUInt32 31)).toInt32) >>> (Int32.toUInt32 4 &&& Int32.toUInt32 31)).toInt32))]) hx hb dJ6_numberOfLeadingZeros_0f7a4_66 hl (k := 1) rfl rfl (by decide) rfl (fun ls hl => ?_)
            refine lv_iload_n hx hb dJ6_numberOfLeadingZeros_0f7a4_69 rfl (lv_at hl 1 rfl) ?_
            refine lv_iconst (v := 2) hx hb dJ6_numberOfLeadingZeros_0f7a4_70 (by decide) ?_
            refine lv_iushr (v := ((Int32.toUInt32 ((Int32.toUInt32 ((Int32.toUInt32 p0 >>> (Int32.toUInt32 8 &&& Int32.toUInt32 31)).toInt32) >>> (Int32.toUInt32 4 &&& Int32.toUInt32 31)).toInt32) >>> (Int32.toUInt32 2 &&& Int32.toUInt32 31)).toInt32)) hx hb dJ6_numberOfLeadingZeros_0f7a4_71 rfl ?_
            refine lv_istore_n (lv' := [(0, .int ((Int32.toUInt32 ((Int32.toUInt32 ((Int32.toUInt32 p0 >>> (Int32.toUInt32 8 &&& Int32.toUInt32 31)).toInt32) >>> (Int32.toUInt32 4 &&& Int32.toUInt32 31)).toInt32) >>> (Int32.toUInt32 2 &&& Int32.toUInt32 31)).toInt32)), (1, .int (((31 + (-8)) + (-4)) + (-2)))]) hx hb dJ6_numberOfLeadingZeros_0f7a4_72 rfl hl (by decide) rfl (fun ls hl => ?_)
            refine lv_iload_n hx hb dJ6_numberOfLeadingZeros_0f7a4_73 rfl (lv_at hl 1 rfl) ?_
            refine lv_iload_n hx hb dJ6_numberOfLeadingZeros_0f7a4_74 rfl (lv_at hl 0 rfl) ?_
            refine lv_iconst (v := 1) hx hb dJ6_numberOfLeadingZeros_0f7a4_75 (by decide) ?_
            refine lv_iushr (v := ((Int32.toUInt32 ((Int32.toUInt32 ((Int32.toUInt32 ((Int32.toUInt32 p0 >>> (Int32.toUInt32 8 &&& Int32.toUInt32 31)).toInt32) >>> (Int32.toUInt32 4 &&& Int32.toUInt32 31)).toInt32) >>> (Int32.toUInt32 2 &&& Int32.toUInt32 31)).toInt32) >>> (Int32.toUInt32 1 &&& Int32.toUInt32 31)).toInt32)) hx hb dJ6_numberOfLeadingZeros_0f7a4_76 rfl ?_
            refine lv_isub hx hb dJ6_numberOfLeadingZeros_0f7a4_77 ?_
            exact W.iret (v := ((((31 + (-8)) + (-4)) + (-2)) - ((Int32.toUInt32 ((Int32.toUInt32 ((Int32.toUInt32 ((Int32.toUInt32 p0 >>> (Int32.toUInt32 8 &&& Int32.toUInt32 31)).toInt32) >>> (Int32.toUInt32 4 &&& Int32.toUInt32 31)).toInt32) >>> (Int32.toUInt32 2 &&& Int32.toUInt32 31)).toInt32) >>> (Int32.toUInt32 1 &&& Int32.toUInt32 31)).toInt32))) hx hb hr (fun t ht hW => ⟨congrArg (fun z => Outcome.returned (some (Value.int z))) (show _ = jd_nlzI p0 from Eq.symm (show jd_nlzI p0 = _ from ((if_pos h1).trans ((if_pos h2).trans ((if_neg h3).trans ((if_neg h7).trans (if_neg h9))))))), ht⟩) (fun q hq => absurd hq List.not_mem_nil) dJ6_numberOfLeadingZeros_0f7a4_78
    · refine lv_iinc (v := (31 + (-16))) (lv' := [(1, .int (31 + (-16))), (0, .int p0)]) hx hb dJ6_numberOfLeadingZeros_0f7a4_25 hl (k := 0) rfl rfl (by decide) rfl (fun ls hl => ?_)
      refine lv_iload_n hx hb dJ6_numberOfLeadingZeros_0f7a4_28 rfl (lv_at hl 1 rfl) ?_
      refine lv_bipush (v := 16) hx hb dJ6_numberOfLeadingZeros_0f7a4_29 (by decide) ?_
      refine lv_iushr (v := ((Int32.toUInt32 p0 >>> (Int32.toUInt32 16 &&& Int32.toUInt32 31)).toInt32)) hx hb dJ6_numberOfLeadingZeros_0f7a4_31 rfl ?_
      refine lv_istore_n (lv' := [(0, .int ((Int32.toUInt32 p0 >>> (Int32.toUInt32 16 &&& Int32.toUInt32 31)).toInt32)), (1, .int (31 + (-16)))]) hx hb dJ6_numberOfLeadingZeros_0f7a4_32 rfl hl (by decide) rfl (fun ls hl => ?_)
      refine lv_iload_n hx hb dJ6_numberOfLeadingZeros_0f7a4_33 rfl (lv_at hl 0 rfl) ?_
      refine lv_sipush (v := 256) hx hb dJ6_numberOfLeadingZeros_0f7a4_34 (by decide) ?_
      refine lv_icmp_lt (tgt := 48) hx hb dJ6_numberOfLeadingZeros_0f7a4_37 (by decide) (fun h10 => ?_) (fun h10 => ?_)
      · refine lv_iload_n hx hb dJ6_numberOfLeadingZeros_0f7a4_48 rfl (lv_at hl 0 rfl) ?_
        refine lv_bipush (v := 16) hx hb dJ6_numberOfLeadingZeros_0f7a4_49 (by decide) ?_
        refine lv_icmp_lt (tgt := 61) hx hb dJ6_numberOfLeadingZeros_0f7a4_51 (by decide) (fun h11 => ?_) (fun h11 => ?_)
        · refine lv_iload_n hx hb dJ6_numberOfLeadingZeros_0f7a4_61 rfl (lv_at hl 0 rfl) ?_
          refine lv_iconst (v := 4) hx hb dJ6_numberOfLeadingZeros_0f7a4_62 (by decide) ?_
          refine lv_icmp_lt (tgt := 73) hx hb dJ6_numberOfLeadingZeros_0f7a4_63 (by decide) (fun h12 => ?_) (fun h12 => ?_)
          · refine lv_iload_n hx hb dJ6_numberOfLeadingZeros_0f7a4_73 rfl (lv_at hl 1 rfl) ?_
            refine lv_iload_n hx hb dJ6_numberOfLeadingZeros_0f7a4_74 rfl (lv_at hl 0 rfl) ?_
            refine lv_iconst (v := 1) hx hb dJ6_numberOfLeadingZeros_0f7a4_75 (by decide) ?_
            refine lv_iushr (v := ((Int32.toUInt32 ((Int32.toUInt32 p0 >>> (Int32.toUInt32 16 &&& Int32.toUInt32 31)).toInt32) >>> (Int32.toUInt32 1 &&& Int32.toUInt32 31)).toInt32)) hx hb dJ6_numberOfLeadingZeros_0f7a4_76 rfl ?_
            refine lv_isub hx hb dJ6_numberOfLeadingZeros_0f7a4_77 ?_
            exact W.iret (v := ((31 + (-16)) - ((Int32.toUInt32 ((Int32.toUInt32 p0 >>> (Int32.toUInt32 16 &&& Int32.toUInt32 31)).toInt32) >>> (Int32.toUInt32 1 &&& Int32.toUInt32 31)).toInt32))) hx hb hr (fun t ht hW => ⟨congrArg (fun z => Outcome.returned (some (Value.int z))) (show _ = jd_nlzI p0 from Eq.symm (show jd_nlzI p0 = _ from ((if_pos h1).trans ((if_neg h2).trans ((if_pos h10).trans ((if_pos h11).trans (if_pos h12))))))), ht⟩) (fun q hq => absurd hq List.not_mem_nil) dJ6_numberOfLeadingZeros_0f7a4_78
          · refine lv_iinc (v := ((31 + (-16)) + (-2))) (lv' := [(1, .int ((31 + (-16)) + (-2))), (0, .int ((Int32.toUInt32 p0 >>> (Int32.toUInt32 16 &&& Int32.toUInt32 31)).toInt32))]) hx hb dJ6_numberOfLeadingZeros_0f7a4_66 hl (k := 1) rfl rfl (by decide) rfl (fun ls hl => ?_)
            refine lv_iload_n hx hb dJ6_numberOfLeadingZeros_0f7a4_69 rfl (lv_at hl 1 rfl) ?_
            refine lv_iconst (v := 2) hx hb dJ6_numberOfLeadingZeros_0f7a4_70 (by decide) ?_
            refine lv_iushr (v := ((Int32.toUInt32 ((Int32.toUInt32 p0 >>> (Int32.toUInt32 16 &&& Int32.toUInt32 31)).toInt32) >>> (Int32.toUInt32 2 &&& Int32.toUInt32 31)).toInt32)) hx hb dJ6_numberOfLeadingZeros_0f7a4_71 rfl ?_
            refine lv_istore_n (lv' := [(0, .int ((Int32.toUInt32 ((Int32.toUInt32 p0 >>> (Int32.toUInt32 16 &&& Int32.toUInt32 31)).toInt32) >>> (Int32.toUInt32 2 &&& Int32.toUInt32 31)).toInt32)), (1, .int ((31 + (-16)) + (-2)))]) hx hb dJ6_numberOfLeadingZeros_0f7a4_72 rfl hl (by decide) rfl (fun ls hl => ?_)
            refine lv_iload_n hx hb dJ6_numberOfLeadingZeros_0f7a4_73 rfl (lv_at hl 1 rfl) ?_
            refine lv_iload_n hx hb dJ6_numberOfLeadingZeros_0f7a4_74 rfl (lv_at hl 0 rfl) ?_
            refine lv_iconst (v := 1) hx hb dJ6_numberOfLeadingZeros_0f7a4_75 (by decide) ?_
            refine lv_iushr (v := ((Int32.toUInt32 ((Int32.toUInt32 ((Int32.toUInt32 p0 >>> (Int32.toUInt32 16 &&& Int32.toUInt32 31)).toInt32) >>> (Int32.toUInt32 2 &&& Int32.toUInt32 31)).toInt32) >>> (Int32.toUInt32 1 &&& Int32.toUInt32 31)).toInt32)) hx hb dJ6_numberOfLeadingZeros_0f7a4_76 rfl ?_
            refine lv_isub hx hb dJ6_numberOfLeadingZeros_0f7a4_77 ?_
            exact W.iret (v := (((31 + (-16)) + (-2)) - ((Int32.toUInt32 ((Int32.toUInt32 ((Int32.toUInt32 p0 >>> (Int32.toUInt32 16 &&& Int32.toUInt32 31)).toInt32) >>> (Int32.toUInt32 2 &&& Int32.toUInt32 31)).toInt32) >>> (Int32.toUInt32 1 &&& Int32.toUInt32 31)).toInt32))) hx hb hr (fun t ht hW => ⟨congrArg (fun z => Outcome.returned (some (Value.int z))) (show _ = jd_nlzI p0 from Eq.symm (show jd_nlzI p0 = _ from ((if_pos h1).trans ((if_neg h2).trans ((if_pos h10).trans ((if_pos h11).trans (if_neg h12))))))), ht⟩) (fun q hq => absurd hq List.not_mem_nil) dJ6_numberOfLeadingZeros_0f7a4_78
        · refine lv_iinc (v := ((31 + (-16)) + (-4))) (lv' := [(1, .int ((31 + (-16)) + (-4))), (0, .int ((Int32.toUInt32 p0 >>> (Int32.toUInt32 16 &&& Int32.toUInt32 31)).toInt32))]) hx hb dJ6_numberOfLeadingZeros_0f7a4_54 hl (k := 1) rfl rfl (by decide) rfl (fun ls hl => ?_)
          refine lv_iload_n hx hb dJ6_numberOfLeadingZeros_0f7a4_57 rfl (lv_at hl 1 rfl) ?_
          refine lv_iconst (v := 4) hx hb dJ6_numberOfLeadingZeros_0f7a4_58 (by decide) ?_
          refine lv_iushr (v := ((Int32.toUInt32 ((Int32.toUInt32 p0 >>> (Int32.toUInt32 16 &&& Int32.toUInt32 31)).toInt32) >>> (Int32.toUInt32 4 &&& Int32.toUInt32 31)).toInt32)) hx hb dJ6_numberOfLeadingZeros_0f7a4_59 rfl ?_
          refine lv_istore_n (lv' := [(0, .int ((Int32.toUInt32 ((Int32.toUInt32 p0 >>> (Int32.toUInt32 16 &&& Int32.toUInt32 31)).toInt32) >>> (Int32.toUInt32 4 &&& Int32.toUInt32 31)).toInt32)), (1, .int ((31 + (-16)) + (-4)))]) hx hb dJ6_numberOfLeadingZeros_0f7a4_60 rfl hl (by decide) rfl (fun ls hl => ?_)
          refine lv_iload_n hx hb dJ6_numberOfLeadingZeros_0f7a4_61 rfl (lv_at hl 0 rfl) ?_
          refine lv_iconst (v := 4) hx hb dJ6_numberOfLeadingZeros_0f7a4_62 (by decide) ?_
          refine lv_icmp_lt (tgt := 73) hx hb dJ6_numberOfLeadingZeros_0f7a4_63 (by decide) (fun h13 => ?_) (fun h13 => ?_)
          · refine lv_iload_n hx hb dJ6_numberOfLeadingZeros_0f7a4_73 rfl (lv_at hl 1 rfl) ?_
            refine lv_iload_n hx hb dJ6_numberOfLeadingZeros_0f7a4_74 rfl (lv_at hl 0 rfl) ?_
            refine lv_iconst (v := 1) hx hb dJ6_numberOfLeadingZeros_0f7a4_75 (by decide) ?_
            refine lv_iushr (v := ((Int32.toUInt32 ((Int32.toUInt32 ((Int32.toUInt32 p0 >>> (Int32.toUInt32 16 &&& Int32.toUInt32 31)).toInt32) >>> (Int32.toUInt32 4 &&& Int32.toUInt32 31)).toInt32) >>> (Int32.toUInt32 1 &&& Int32.toUInt32 31)).toInt32)) hx hb dJ6_numberOfLeadingZeros_0f7a4_76 rfl ?_
            refine lv_isub hx hb dJ6_numberOfLeadingZeros_0f7a4_77 ?_
            exact W.iret (v := (((31 + (-16)) + (-4)) - ((Int32.toUInt32 ((Int32.toUInt32 ((Int32.toUInt32 p0 >>> (Int32.toUInt32 16 &&& Int32.toUInt32 31)).toInt32) >>> (Int32.toUInt32 4 &&& Int32.toUInt32 31)).toInt32) >>> (Int32.toUInt32 1 &&& Int32.toUInt32 31)).toInt32))) hx hb hr (fun t ht hW => ⟨congrArg (fun z => Outcome.returned (some (Value.int z))) (show _ = jd_nlzI p0 from Eq.symm (show jd_nlzI p0 = _ from ((if_pos h1).trans ((if_neg h2).trans ((if_pos h10).trans ((if_neg h11).trans (if_pos h13))))))), ht⟩) (fun q hq => absurd hq List.not_mem_nil) dJ6_numberOfLeadingZeros_0f7a4_78
          · refine lv_iinc (v := (((31 + (-16)) + (-4)) + (-2))) (lv' := [(1, .int (((31 + (-16)) + (-4)) + (-2))), (0, .int ((Int32.toUInt32 ((Int32.toUInt32 p0 >>> (Int32.toUInt32 16 &&& Int32.toUInt32 31)).toInt32) >>> (Int32.toUInt32 4 &&& Int32.toUInt32 31)).toInt32))]) hx hb dJ6_numberOfLeadingZeros_0f7a4_66 hl (k := 1) rfl rfl (by decide) rfl (fun ls hl => ?_)
            refine lv_iload_n hx hb dJ6_numberOfLeadingZeros_0f7a4_69 rfl (lv_at hl 1 rfl) ?_
            refine lv_iconst (v := 2) hx hb dJ6_numberOfLeadingZeros_0f7a4_70 (by decide) ?_
            refine lv_iushr (v := ((Int32.toUInt32 ((Int32.toUInt32 ((Int32.toUInt32 p0 >>> (Int32.toUInt32 16 &&& Int32.toUInt32 31)).toInt32) >>> (Int32.toUInt32 4 &&& Int32.toUInt32 31)).toInt32) >>> (Int32.toUInt32 2 &&& Int32.toUInt32 31)).toInt32)) hx hb dJ6_numberOfLeadingZeros_0f7a4_71 rfl ?_
            refine lv_istore_n (lv' := [(0, .int ((Int32.toUInt32 ((Int32.toUInt32 ((Int32.toUInt32 p0 >>> (Int32.toUInt32 16 &&& Int32.toUInt32 31)).toInt32) >>> (Int32.toUInt32 4 &&& Int32.toUInt32 31)).toInt32) >>> (Int32.toUInt32 2 &&& Int32.toUInt32 31)).toInt32)), (1, .int (((31 + (-16)) + (-4)) + (-2)))]) hx hb dJ6_numberOfLeadingZeros_0f7a4_72 rfl hl (by decide) rfl (fun ls hl => ?_)
            refine lv_iload_n hx hb dJ6_numberOfLeadingZeros_0f7a4_73 rfl (lv_at hl 1 rfl) ?_
            refine lv_iload_n hx hb dJ6_numberOfLeadingZeros_0f7a4_74 rfl (lv_at hl 0 rfl) ?_
            refine lv_iconst (v := 1) hx hb dJ6_numberOfLeadingZeros_0f7a4_75 (by decide) ?_
            refine lv_iushr (v := ((Int32.toUInt32 ((Int32.toUInt32 ((Int32.toUInt32 ((Int32.toUInt32 p0 >>> (Int32.toUInt32 16 &&& Int32.toUInt32 31)).toInt32) >>> (Int32.toUInt32 4 &&& Int32.toUInt32 31)).toInt32) >>> (Int32.toUInt32 2 &&& Int32.toUInt32 31)).toInt32) >>> (Int32.toUInt32 1 &&& Int32.toUInt32 31)).toInt32)) hx hb dJ6_numberOfLeadingZeros_0f7a4_76 rfl ?_
            refine lv_isub hx hb dJ6_numberOfLeadingZeros_0f7a4_77 ?_
            exact W.iret (v := ((((31 + (-16)) + (-4)) + (-2)) - ((Int32.toUInt32 ((Int32.toUInt32 ((Int32.toUInt32 ((Int32.toUInt32 p0 >>> (Int32.toUInt32 16 &&& Int32.toUInt32 31)).toInt32) >>> (Int32.toUInt32 4 &&& Int32.toUInt32 31)).toInt32) >>> (Int32.toUInt32 2 &&& Int32.toUInt32 31)).toInt32) >>> (Int32.toUInt32 1 &&& Int32.toUInt32 31)).toInt32))) hx hb hr (fun t ht hW => ⟨congrArg (fun z => Outcome.returned (some (Value.int z))) (show _ = jd_nlzI p0 from Eq.symm (show jd_nlzI p0 = _ from ((if_pos h1).trans ((if_neg h2).trans ((if_pos h10).trans ((if_neg h11).trans (if_neg h13))))))), ht⟩) (fun q hq => absurd hq List.not_mem_nil) dJ6_numberOfLeadingZeros_0f7a4_78
      · refine lv_iinc (v := ((31 + (-16)) + (-8))) (lv' := [(1, .int ((31 + (-16)) + (-8))), (0, .int ((Int32.toUInt32 p0 >>> (Int32.toUInt32 16 &&& Int32.toUInt32 31)).toInt32))]) hx hb dJ6_numberOfLeadingZeros_0f7a4_40 hl (k := 1) rfl rfl (by decide) rfl (fun ls hl => ?_)
        refine lv_iload_n hx hb dJ6_numberOfLeadingZeros_0f7a4_43 rfl (lv_at hl 1 rfl) ?_
        refine lv_bipush (v := 8) hx hb dJ6_numberOfLeadingZeros_0f7a4_44 (by decide) ?_
        refine lv_iushr (v := ((Int32.toUInt32 ((Int32.toUInt32 p0 >>> (Int32.toUInt32 16 &&& Int32.toUInt32 31)).toInt32) >>> (Int32.toUInt32 8 &&& Int32.toUInt32 31)).toInt32)) hx hb dJ6_numberOfLeadingZeros_0f7a4_46 rfl ?_
        refine lv_istore_n (lv' := [(0, .int ((Int32.toUInt32 ((Int32.toUInt32 p0 >>> (Int32.toUInt32 16 &&& Int32.toUInt32 31)).toInt32) >>> (Int32.toUInt32 8 &&& Int32.toUInt32 31)).toInt32)), (1, .int ((31 + (-16)) + (-8)))]) hx hb dJ6_numberOfLeadingZeros_0f7a4_47 rfl hl (by decide) rfl (fun ls hl => ?_)
        refine lv_iload_n hx hb dJ6_numberOfLeadingZeros_0f7a4_48 rfl (lv_at hl 0 rfl) ?_
        refine lv_bipush (v := 16) hx hb dJ6_numberOfLeadingZeros_0f7a4_49 (by decide) ?_
        refine lv_icmp_lt (tgt := 61) hx hb dJ6_numberOfLeadingZeros_0f7a4_51 (by decide) (fun h14 => ?_) (fun h14 => ?_)
        · refine lv_iload_n hx hb dJ6_numberOfLeadingZeros_0f7a4_61 rfl (lv_at hl 0 rfl) ?_
          refine lv_iconst (v := 4) hx hb dJ6_numberOfLeadingZeros_0f7a4_62 (by decide) ?_
          refine lv_icmp_lt (tgt := 73) hx hb dJ6_numberOfLeadingZeros_0f7a4_63 (by decide) (fun h15 => ?_) (fun h15 => ?_)
          · refine lv_iload_n hx hb dJ6_numberOfLeadingZeros_0f7a4_73 rfl (lv_at hl 1 rfl) ?_
            refine lv_iload_n hx hb dJ6_numberOfLeadingZeros_0f7a4_74 rfl (lv_at hl 0 rfl) ?_
            refine lv_iconst (v := 1) hx hb dJ6_numberOfLeadingZeros_0f7a4_75 (by decide) ?_
            refine lv_iushr (v := ((Int32.toUInt32 ((Int32.toUInt32 ((Int32.toUInt32 p0 >>> (Int32.toUInt32 16 &&& Int32.toUInt32 31)).toInt32) >>> (Int32.toUInt32 8 &&& Int32.toUInt32 31)).toInt32) >>> (Int32.toUInt32 1 &&& Int32.toUInt32 31)).toInt32)) hx hb dJ6_numberOfLeadingZeros_0f7a4_76 rfl ?_
            refine lv_isub hx hb dJ6_numberOfLeadingZeros_0f7a4_77 ?_
            exact W.iret (v := (((31 + (-16)) + (-8)) - ((Int32.toUInt32 ((Int32.toUInt32 ((Int32.toUInt32 p0 >>> (Int32.toUInt32 16 &&& Int32.toUInt32 31)).toInt32) >>> (Int32.toUInt32 8 &&& Int32.toUInt32 31)).toInt32) >>> (Int32.toUInt32 1 &&& Int32.toUInt32 31)).toInt32))) hx hb hr (fun t ht hW => ⟨congrArg (fun z => Outcome.returned (some (Value.int z))) (show _ = jd_nlzI p0 from Eq.symm (show jd_nlzI p0 = _ from ((if_pos h1).trans ((if_neg h2).trans ((if_neg h10).trans ((if_pos h14).trans (if_pos h15))))))), ht⟩) (fun q hq => absurd hq List.not_mem_nil) dJ6_numberOfLeadingZeros_0f7a4_78
          · refine lv_iinc (v := (((31 + (-16)) + (-8)) + (-2))) (lv' := [(1, .int (((31 + (-16)) + (-8)) + (-2))), (0, .int ((Int32.toUInt32 ((Int32.toUInt32 p0 >>> (Int32.toUInt32 16 &&& Int32.toUInt32 31)).toInt32) >>> (Int32.toUInt32 8 &&& Int32.toUInt32 31)).toInt32))]) hx hb dJ6_numberOfLeadingZeros_0f7a4_66 hl (k := 1) rfl rfl (by decide) rfl (fun ls hl => ?_)
            refine lv_iload_n hx hb dJ6_numberOfLeadingZeros_0f7a4_69 rfl (lv_at hl 1 rfl) ?_
            refine lv_iconst (v := 2) hx hb dJ6_numberOfLeadingZeros_0f7a4_70 (by decide) ?_
            refine lv_iushr (v := ((Int32.toUInt32 ((Int32.toUInt32 ((Int32.toUInt32 p0 >>> (Int32.toUInt32 16 &&& Int32.toUInt32 31)).toInt32) >>> (Int32.toUInt32 8 &&& Int32.toUInt32 31)).toInt32) >>> (Int32.toUInt32 2 &&& Int32.toUInt32 31)).toInt32)) hx hb dJ6_numberOfLeadingZeros_0f7a4_71 rfl ?_
            refine lv_istore_n (lv' := [(0, .int ((Int32.toUInt32 ((Int32.toUInt32 ((Int32.toUInt32 p0 >>> (Int32.toUInt32 16 &&& Int32.toUInt32 31)).toInt32) >>> (Int32.toUInt32 8 &&& Int32.toUInt32 31)).toInt32) >>> (Int32.toUInt32 2 &&& Int32.toUInt32 31)).toInt32)), (1, .int (((31 + (-16)) + (-8)) + (-2)))]) hx hb dJ6_numberOfLeadingZeros_0f7a4_72 rfl hl (by decide) rfl (fun ls hl => ?_)
            refine lv_iload_n hx hb dJ6_numberOfLeadingZeros_0f7a4_73 rfl (lv_at hl 1 rfl) ?_
            refine lv_iload_n hx hb dJ6_numberOfLeadingZeros_0f7a4_74 rfl (lv_at hl 0 rfl) ?_
            refine lv_iconst (v := 1) hx hb dJ6_numberOfLeadingZeros_0f7a4_75 (by decide) ?_
            refine lv_iushr (v := ((Int32.toUInt32 ((Int32.toUInt32 ((Int32.toUInt32 ((Int32.toUInt32 p0 >>> (Int32.toUInt32 16 &&& Int32.toUInt32 31)).toInt32) >>> (Int32.toUInt32 8 &&& Int32.toUInt32 31)).toInt32) >>> (Int32.toUInt32 2 &&& Int32.toUInt32 31)).toInt32) >>> (Int32.toUInt32 1 &&& Int32.toUInt32 31)).toInt32)) hx hb dJ6_numberOfLeadingZeros_0f7a4_76 rfl ?_
            refine lv_isub hx hb dJ6_numberOfLeadingZeros_0f7a4_77 ?_
            exact W.iret (v := ((((31 + (-16)) + (-8)) + (-2)) - ((Int32.toUInt32 ((Int32.toUInt32 ((Int32.toUInt32 ((Int32.toUInt32 p0 >>> (Int32.toUInt32 16 &&& Int32.toUInt32 31)).toInt32) >>> (Int32.toUInt32 8 &&& Int32.toUInt32 31)).toInt32) >>> (Int32.toUInt32 2 &&& Int32.toUInt32 31)).toInt32) >>> (Int32.toUInt32 1 &&& Int32.toUInt32 31)).toInt32))) hx hb hr (fun t ht hW => ⟨congrArg (fun z => Outcome.returned (some (Value.int z))) (show _ = jd_nlzI p0 from Eq.symm (show jd_nlzI p0 = _ from ((if_pos h1).trans ((if_neg h2).trans ((if_neg h10).trans ((if_pos h14).trans (if_neg h15))))))), ht⟩) (fun q hq => absurd hq List.not_mem_nil) dJ6_numberOfLeadingZeros_0f7a4_78
        · refine lv_iinc (v := (((31 + (-16)) + (-8)) + (-4))) (lv' := [(1, .int (((31 + (-16)) + (-8)) + (-4))), (0, .int ((Int32.toUInt32 ((Int32.toUInt32 p0 >>> (Int32.toUInt32 16 &&& Int32.toUInt32 31)).toInt32) >>> (Int32.toUInt32 8 &&& Int32.toUInt32 31)).toInt32))]) hx hb dJ6_numberOfLeadingZeros_0f7a4_54 hl (k := 1) rfl rfl (by decide) rfl (fun ls hl => ?_)
          refine lv_iload_n hx hb dJ6_numberOfLeadingZeros_0f7a4_57 rfl (lv_at hl 1 rfl) ?_
          refine lv_iconst (v := 4) hx hb dJ6_numberOfLeadingZeros_0f7a4_58 (by decide) ?_
          refine lv_iushr (v := ((Int32.toUInt32 ((Int32.toUInt32 ((Int32.toUInt32 p0 >>> (Int32.toUInt32 16 &&& Int32.toUInt32 31)).toInt32) >>> (Int32.toUInt32 8 &&& Int32.toUInt32 31)).toInt32) >>> (Int32.toUInt32 4 &&& Int32.toUInt32 31)).toInt32)) hx hb dJ6_numberOfLeadingZeros_0f7a4_59 rfl ?_
          refine lv_istore_n (lv' := [(0, .int ((Int32.toUInt32 ((Int32.toUInt32 ((Int32.toUInt32 p0 >>> (Int32.toUInt32 16 &&& Int32.toUInt32 31)).toInt32) >>> (Int32.toUInt32 8 &&& Int32.toUInt32 31)).toInt32) >>> (Int32.toUInt32 4 &&& Int32.toUInt32 31)).toInt32)), (1, .int (((31 + (-16)) + (-8)) + (-4)))]) hx hb dJ6_numberOfLeadingZeros_0f7a4_60 rfl hl (by decide) rfl (fun ls hl => ?_)
          refine lv_iload_n hx hb dJ6_numberOfLeadingZeros_0f7a4_61 rfl (lv_at hl 0 rfl) ?_
          refine lv_iconst (v := 4) hx hb dJ6_numberOfLeadingZeros_0f7a4_62 (by decide) ?_
          refine lv_icmp_lt (tgt := 73) hx hb dJ6_numberOfLeadingZeros_0f7a4_63 (by decide) (fun h16 => ?_) (fun h16 => ?_)
          · refine lv_iload_n hx hb dJ6_numberOfLeadingZeros_0f7a4_73 rfl (lv_at hl 1 rfl) ?_
            refine lv_iload_n hx hb dJ6_numberOfLeadingZeros_0f7a4_74 rfl (lv_at hl 0 rfl) ?_
            refine lv_iconst (v := 1) hx hb dJ6_numberOfLeadingZeros_0f7a4_75 (by decide) ?_
            refine lv_iushr (v := ((Int32.toUInt32 ((Int32.toUInt32 ((Int32.toUInt32 ((Int32.toUInt32 p0 >>> (Int32.toUInt32 16 &&& Int32.toUInt32 31)).toInt32) >>> (Int32.toUInt32 8 &&& Int32.toUInt32 31)).toInt32) >>> (Int32.toUInt32 4 &&& Int32.toUInt32 31)).toInt32) >>> (Int32.toUInt32 1 &&& Int32.toUInt32 31)).toInt32)) hx hb dJ6_numberOfLeadingZeros_0f7a4_76 rfl ?_
            refine lv_isub hx hb dJ6_numberOfLeadingZeros_0f7a4_77 ?_
            exact W.iret (v := ((((31 + (-16)) + (-8)) + (-4)) - ((Int32.toUInt32 ((Int32.toUInt32 ((Int32.toUInt32 ((Int32.toUInt32 p0 >>> (Int32.toUInt32 16 &&& Int32.toUInt32 31)).toInt32) >>> (Int32.toUInt32 8 &&& Int32.toUInt32 31)).toInt32) >>> (Int32.toUInt32 4 &&& Int32.toUInt32 31)).toInt32) >>> (Int32.toUInt32 1 &&& Int32.toUInt32 31)).toInt32))) hx hb hr (fun t ht hW => ⟨congrArg (fun z => Outcome.returned (some (Value.int z))) (show _ = jd_nlzI p0 from Eq.symm (show jd_nlzI p0 = _ from ((if_pos h1).trans ((if_neg h2).trans ((if_neg h10).trans ((if_neg h14).trans (if_pos h16))))))), ht⟩) (fun q hq => absurd hq List.not_mem_nil) dJ6_numberOfLeadingZeros_0f7a4_78
          · refine lv_iinc (v := ((((31 + (-16)) + (-8)) + (-4)) + (-2))) (lv' := [(1, .int ((((31 + (-16)) + (-8)) + (-4)) + (-2))), (0, .int ((Int32.toUInt32 ((Int32.toUInt32 ((Int32.toUInt32 p0 >>> (Int32.toUInt32 16 &&& Int32.toUInt32 31)).toInt32) >>> (Int32.toUInt32 8 &&& Int32.toUInt32 31)).toInt32) >>> (Int32.toUInt32 4 &&& Int32.toUInt32 31)).toInt32))]) hx hb dJ6_numberOfLeadingZeros_0f7a4_66 hl (k := 1) rfl rfl (by decide) rfl (fun ls hl => ?_)
            refine lv_iload_n hx hb dJ6_numberOfLeadingZeros_0f7a4_69 rfl (lv_at hl 1 rfl) ?_
            refine lv_iconst (v := 2) hx hb dJ6_numberOfLeadingZeros_0f7a4_70 (by decide) ?_
            refine lv_iushr (v := ((Int32.toUInt32 ((Int32.toUInt32 ((Int32.toUInt32 ((Int32.toUInt32 p0 >>> (Int32.toUInt32 16 &&& Int32.toUInt32 31)).toInt32) >>> (Int32.toUInt32 8 &&& Int32.toUInt32 31)).toInt32) >>> (Int32.toUInt32 4 &&& Int32.toUInt32 31)).toInt32) >>> (Int32.toUInt32 2 &&& Int32.toUInt32 31)).toInt32)) hx hb dJ6_numberOfLeadingZeros_0f7a4_71 rfl ?_
            refine lv_istore_n (lv' := [(0, .int ((Int32.toUInt32 ((Int32.toUInt32 ((Int32.toUInt32 ((Int32.toUInt32 p0 >>> (Int32.toUInt32 16 &&& Int32.toUInt32 31)).toInt32) >>> (Int32.toUInt32 8 &&& Int32.toUInt32 31)).toInt32) >>> (Int32.toUInt32 4 &&& Int32.toUInt32 31)).toInt32) >>> (Int32.toUInt32 2 &&& Int32.toUInt32 31)).toInt32)), (1, .int ((((31 + (-16)) + (-8)) + (-4)) + (-2)))]) hx hb dJ6_numberOfLeadingZeros_0f7a4_72 rfl hl (by decide) rfl (fun ls hl => ?_)
            refine lv_iload_n hx hb dJ6_numberOfLeadingZeros_0f7a4_73 rfl (lv_at hl 1 rfl) ?_
            refine lv_iload_n hx hb dJ6_numberOfLeadingZeros_0f7a4_74 rfl (lv_at hl 0 rfl) ?_
            refine lv_iconst (v := 1) hx hb dJ6_numberOfLeadingZeros_0f7a4_75 (by decide) ?_
            refine lv_iushr (v := ((Int32.toUInt32 ((Int32.toUInt32 ((Int32.toUInt32 ((Int32.toUInt32 ((Int32.toUInt32 p0 >>> (Int32.toUInt32 16 &&& Int32.toUInt32 31)).toInt32) >>> (Int32.toUInt32 8 &&& Int32.toUInt32 31)).toInt32) >>> (Int32.toUInt32 4 &&& Int32.toUInt32 31)).toInt32) >>> (Int32.toUInt32 2 &&& Int32.toUInt32 31)).toInt32) >>> (Int32.toUInt32 1 &&& Int32.toUInt32 31)).toInt32)) hx hb dJ6_numberOfLeadingZeros_0f7a4_76 rfl ?_
            refine lv_isub hx hb dJ6_numberOfLeadingZeros_0f7a4_77 ?_
            exact W.iret (v := (((((31 + (-16)) + (-8)) + (-4)) + (-2)) - ((Int32.toUInt32 ((Int32.toUInt32 ((Int32.toUInt32 ((Int32.toUInt32 ((Int32.toUInt32 p0 >>> (Int32.toUInt32 16 &&& Int32.toUInt32 31)).toInt32) >>> (Int32.toUInt32 8 &&& Int32.toUInt32 31)).toInt32) >>> (Int32.toUInt32 4 &&& Int32.toUInt32 31)).toInt32) >>> (Int32.toUInt32 2 &&& Int32.toUInt32 31)).toInt32) >>> (Int32.toUInt32 1 &&& Int32.toUInt32 31)).toInt32))) hx hb hr (fun t ht hW => ⟨congrArg (fun z => Outcome.returned (some (Value.int z))) (show _ = jd_nlzI p0 from Eq.symm (show jd_nlzI p0 = _ from ((if_pos h1).trans ((if_neg h2).trans ((if_neg h10).trans ((if_neg h14).trans (if_neg h16))))))), ht⟩) (fun q hq => absurd hq List.not_mem_nil) dJ6_numberOfLeadingZeros_0f7a4_78
  · refine lv_iload_n hx hb dJ6_numberOfLeadingZeros_0f7a4_4 rfl (lv_at hl 0 rfl) ?_
    refine lv_if_ne (tgt := 13) hx hb dJ6_numberOfLeadingZeros_0f7a4_5 (by decide) (fun h17 => ?_) (fun h17 => ?_)
    · refine lv_iconst (v := 0) hx hb dJ6_numberOfLeadingZeros_0f7a4_13 (by decide) ?_
      exact W.iret (v := 0) hx hb hr (fun t ht hW => ⟨congrArg (fun z => Outcome.returned (some (Value.int z))) (show _ = jd_nlzI p0 from Eq.symm (show jd_nlzI p0 = _ from ((if_neg h1).trans (if_neg h17)))), ht⟩) (fun q hq => absurd hq List.not_mem_nil) dJ6_numberOfLeadingZeros_0f7a4_14
    · refine lv_bipush (v := 32) hx hb dJ6_numberOfLeadingZeros_0f7a4_8 (by decide) ?_
      refine lv_goto (tgt := 14) hx hb dJ6_numberOfLeadingZeros_0f7a4_10 (by decide) ?_
      exact W.iret (v := 32) hx hb hr (fun t ht hW => ⟨congrArg (fun z => Outcome.returned (some (Value.int z))) (show _ = jd_nlzI p0 from Eq.symm (show jd_nlzI p0 = _ from ((if_neg h1).trans (if_pos h17)))), ht⟩) (fun q hq => absurd hq List.not_mem_nil) dJ6_numberOfLeadingZeros_0f7a4_14
def jd_nlzL (p0 : Int64) : Int32 := if (Int64.toInt32 ((Int64.toUInt64 p0 >>> ((Int32.toInt64 32).toUInt64 &&& Int64.toUInt64 63)).toInt64)) = 0 then (32 + (jd_nlzI (Int64.toInt32 p0))) else ((jd_nlzI (Int64.toInt32 ((Int64.toUInt64 p0 >>> ((Int32.toInt64 32).toUInt64 &&& Int64.toUInt64 63)).toInt64))))
set_option maxHeartbeats 4000000 in
set_option maxRecDepth 100000 in
theorem mt_J13_numberOfLeadingZeros_95d88 (l : Launch) (p0 : Int64) : Met l yJ13_numberOfLeadingZeros_95d88 wsJ13_numberOfLeadingZeros_95d88 ({ frames := 1, cells := 0, slots := 0, locals := 21 }) (va_Pc [.long p0] (fun _ => True)) (pq_V (.int (jd_nlzL p0))) 0 0 (fun _ => False) := by
  refine Met.ofW (cc := cJ13_numberOfLeadingZeros_95d88) (maxL := 3) (ret := (some .int)) (by decide) rfl ?_
  intro p e s m args below meth c s₁ B hml hv
  obtain ⟨rfl, -⟩ := hv
  have hx := B.exec
  have hb := B.bytes
  have hr := B.returns
  have hts := atoms_spec (ws := wsJ13_numberOfLeadingZeros_95d88) B.pre
  have hown : s.vm.findClass RJ13 = some m.cls := findClass_of_methodNamed B.named
  have hlocks := B.notSynchronized
  have hl := lv_entry ([.long p0]) (n := 3) (Nat.le_of_ble_eq_true rfl)
  rw [lg_entry_eq]
  generalize (lg_sl ([.long p0]) ++ List.replicate (3 - (lg_sl ([.long p0])).length) Slot.unset).toArray = ls at hl ⊢
  have hl : lv_has ls 3 [(0, .long p0)] := hl
  refine lv_lload_n hx hb dJ13_numberOfLeadingZeros_95d88_0 rfl (lv_at hl 0 rfl) ?_
  refine lv_bipush (v := 32) hx hb dJ13_numberOfLeadingZeros_95d88_1 (by decide) ?_
  refine lv_lushr (v := ((Int64.toUInt64 p0 >>> ((Int32.toInt64 32).toUInt64 &&& Int64.toUInt64 63)).toInt64)) hx hb dJ13_numberOfLeadingZeros_95d88_3 rfl ?_
  refine lv_l2i (v := (Int64.toInt32 ((Int64.toUInt64 p0 >>> ((Int32.toInt64 32).toUInt64 &&& Int64.toUInt64 63)).toInt64))) hx hb dJ13_numberOfLeadingZeros_95d88_4 rfl ?_
  refine lv_istore_n (lv' := [(2, .int (Int64.toInt32 ((Int64.toUInt64 p0 >>> ((Int32.toInt64 32).toUInt64 &&& Int64.toUInt64 63)).toInt64))), (0, .long p0)]) hx hb dJ13_numberOfLeadingZeros_95d88_5 rfl hl (by decide) rfl (fun ls hl => ?_)
  refine lv_iload_n hx hb dJ13_numberOfLeadingZeros_95d88_6 rfl (lv_at hl 0 rfl) ?_
  refine lv_if_ne (tgt := 21) hx hb dJ13_numberOfLeadingZeros_95d88_7 (by decide) (fun h1 => ?_) (fun h1 => ?_)
  · refine lv_iload_n hx hb dJ13_numberOfLeadingZeros_95d88_21 rfl (lv_at hl 0 rfl) ?_
    refine pq_call (va_runS (As := [.int (Int64.toInt32 ((Int64.toUInt64 p0 >>> ((Int32.toInt64 32).toUInt64 &&& Int64.toUInt64 63)).toInt64))]) (rest := []) ⟨hx, hb, hml, hown, hts⟩ (mt_J6_numberOfLeadingZeros_0f7a4 l (Int64.toInt32 ((Int64.toUInt64 p0 >>> ((Int32.toInt64 32).toUInt64 &&& Int64.toUInt64 63)).toInt64))) (va_cwS 1 hts gJ13_numberOfLeadingZeros_95d88_J6_numberOfLeadingZeros_0f7a4 rfl rfl rfl (by decide +kernel) ⟨Nat.le_of_ble_eq_true rfl, Nat.le_of_ble_eq_true rfl⟩) ⟨fun a U g mk q => q, fun U hU hW => ⟨rfl, trivial⟩⟩ rfl rfl hl.1 rfl (lv_room (Nat.le_of_ble_eq_true rfl)) dJ13_numberOfLeadingZeros_95d88_22 ⟨Nat.zero_le _, Nat.zero_le _⟩) ?_
    exact W.iret (v := (jd_nlzI (Int64.toInt32 ((Int64.toUInt64 p0 >>> ((Int32.toInt64 32).toUInt64 &&& Int64.toUInt64 63)).toInt64)))) hx hb hr (fun t ht hW => ⟨congrArg (fun z => Outcome.returned (some (Value.int z))) (show _ = jd_nlzL p0 from Eq.symm (show jd_nlzL p0 = _ from (if_neg h1))), ht⟩) (fun q hq => absurd hq List.not_mem_nil) dJ13_numberOfLeadingZeros_95d88_25
  · refine lv_bipush (v := 32) hx hb dJ13_numberOfLeadingZeros_95d88_10 (by decide) ?_
    refine lv_lload_n hx hb dJ13_numberOfLeadingZeros_95d88_12 rfl (lv_at hl 1 rfl) ?_
    refine lv_l2i (v := (Int64.toInt32 p0)) hx hb dJ13_numberOfLeadingZeros_95d88_13 rfl ?_
    refine pq_call (va_runS (As := [.int (Int64.toInt32 p0)]) (rest := [.int 32]) ⟨hx, hb, hml, hown, hts⟩ (mt_J6_numberOfLeadingZeros_0f7a4 l (Int64.toInt32 p0)) (va_cwS 1 hts gJ13_numberOfLeadingZeros_95d88_J6_numberOfLeadingZeros_0f7a4 rfl rfl rfl (by decide +kernel) ⟨Nat.le_of_ble_eq_true rfl, Nat.le_of_ble_eq_true rfl⟩) ⟨fun a U g mk q => q, fun U hU hW => ⟨rfl, trivial⟩⟩ rfl rfl hl.1 rfl (lv_room (Nat.le_of_ble_eq_true rfl)) dJ13_numberOfLeadingZeros_95d88_14 ⟨Nat.zero_le _, Nat.zero_le _⟩) ?_
    refine lv_iadd hx hb dJ13_numberOfLeadingZeros_95d88_17 ?_
    refine lv_goto (tgt := 25) hx hb dJ13_numberOfLeadingZeros_95d88_18 (by decide) ?_
    exact W.iret (v := (32 + (jd_nlzI (Int64.toInt32 p0)))) hx hb hr (fun t ht hW => ⟨congrArg (fun z => Outcome.returned (some (Value.int z))) (show _ = jd_nlzL p0 from Eq.symm (show jd_nlzL p0 = _ from (if_pos h1))), ht⟩) (fun q hq => absurd hq List.not_mem_nil) dJ13_numberOfLeadingZeros_95d88_25
def fl_amount (nb : Bool) (p0 : Int64) : Int64 := (p0 &&& ((ff_signBit nb) ^^^ (-1)))
set_option maxHeartbeats 4000000 in
set_option maxRecDepth 100000 in
theorem mt_X0_amount (l : Launch) (dC : Nat → ClassId) (dI : Nat → Nat → Nat) (nb : Bool) (h0 : Nat) (p0 : Int64) : Met l yX0_amount wsX0_amount ({ frames := 0, cells := 0, slots := 0, locals := 0 }) (pq_Pc (dC, dI) h0 (0, fl_F nb) [.ref h0, .long p0]) (pq_V (.long (fl_amount nb p0))) 0 0 (fun _ => False) := by
  refine Met.ofW (cc := cX0_amount) (maxL := 3) (ret := (some .long)) (by decide) rfl ?_
  intro p e s m args below meth c s₁ B hml hv
  obtain ⟨rfl, hP, hK, hA⟩ := hv
  have hx := B.exec
  have hb := B.bytes
  have hr := B.returns
  have hts := atoms_spec (ws := wsX0_amount) B.pre
  have hown : s.vm.findClass RX0 = some m.cls := findClass_of_methodNamed B.named
  have hlocks := B.notSynchronized
  have hin : ∀ w ∈ wsX00, w ∈ wsX0_amount := by decide +kernel
  have hl := lv_entry ([.ref h0, .long p0]) (n := 3) (Nat.le_of_ble_eq_true rfl)
  rw [lg_entry_eq]
  generalize (lg_sl ([.ref h0, .long p0]) ++ List.replicate (3 - (lg_sl ([.ref h0, .long p0])).length) Slot.unset).toArray = ls at hl ⊢
  have hl : lv_has ls 3 [(0, .ref h0), (1, .long p0)] := hl
  refine lv_lload_n hx hb dX0_amount_0 rfl (lv_at hl 1 rfl) ?_
  refine lv_aload_n hx hb dX0_amount_1 rfl (lv_at hl 0 rfl) ?_
  refine va_get (D := (dC, dI)) (ci := 0) (v := .long (ff_signBit nb)) (C := RX0) (T := TX0) (N := 10) hx hb hts hin hown hK hP 0 rfl rfl 1 (by decide) (hts (.fieldLink RX0 43 "WeatherMast$Floats" "signBit" "J") (by decide +kernel)) (u_same (hts (.sameField "WeatherMast$Floats" "WeatherMast$Sort" "signBit" "J") (by decide +kernel))) rfl dX0_amount_2 ?_
  refine lv_ldc2 hx hb hown (hts (.constantLong RX0 46 (-1)) (by decide +kernel)) dX0_amount_5 ?_
  refine lv_lxor hx hb dX0_amount_8 ?_
  refine lv_land hx hb dX0_amount_9 ?_
  exact W.lret (v := (p0 &&& ((ff_signBit nb) ^^^ (-1)))) hx hb hr (fun t ht hW => ⟨congrArg (fun z => Outcome.returned (some (Value.long z))) (show _ = fl_amount nb p0 from Eq.symm (show fl_amount nb p0 = _ from rfl)), ht⟩) (fun q hq => absurd hq List.not_mem_nil) dX0_amount_10
def fl_isNumber (nb : Bool) (p0 : Int64) : Int32 := if (ff_infinity nb) < (fl_amount nb p0) then 0 else (1)
set_option maxHeartbeats 4000000 in
set_option maxRecDepth 100000 in
theorem mt_X0_isNumber (l : Launch) (dC : Nat → ClassId) (dI : Nat → Nat → Nat) (nb : Bool) (h0 : Nat) (p0 : Int64) : Met l yX0_isNumber wsX0_isNumber ({ frames := 1, cells := 0, slots := 0, locals := 22 }) (pq_Pc (dC, dI) h0 (0, fl_F nb) [.ref h0, .long p0]) (pq_V (.int (fl_isNumber nb p0))) 0 0 (fun _ => False) := by
  refine Met.ofW (cc := cX0_isNumber) (maxL := 3) (ret := (some .boolean)) (by decide) rfl ?_
  intro p e s m args below meth c s₁ B hml hv
  obtain ⟨rfl, hP, hK, hA⟩ := hv
  have hx := B.exec
  have hb := B.bytes
  have hr := B.returns
  have hts := atoms_spec (ws := wsX0_isNumber) B.pre
  have hown : s.vm.findClass RX0 = some m.cls := findClass_of_methodNamed B.named
  have hlocks := B.notSynchronized
  have hin : ∀ w ∈ wsX00, w ∈ wsX0_isNumber := by decide +kernel
  have hl := lv_entry ([.ref h0, .long p0]) (n := 3) (Nat.le_of_ble_eq_true rfl)
  rw [lg_entry_eq]
  generalize (lg_sl ([.ref h0, .long p0]) ++ List.replicate (3 - (lg_sl ([.ref h0, .long p0])).length) Slot.unset).toArray = ls at hl ⊢
  have hl : lv_has ls 3 [(0, .ref h0), (1, .long p0)] := hl
  refine lv_aload_n hx hb dX0_isNumber_0 rfl (lv_at hl 0 rfl) ?_
  refine lv_lload_n hx hb dX0_isNumber_1 rfl (lv_at hl 1 rfl) ?_
  refine pq_call (va_runV (C := RX0) (As := [.long p0]) (rest := []) ⟨hx, hb, hml, hown, hts⟩ (mt_X0_amount l dC dI nb h0 p0) (cwV 1 hts gX0_isNumber_X0_amount rfl rfl rfl (by decide +kernel) ⟨Nat.le_of_ble_eq_true rfl, Nat.le_of_ble_eq_true rfl⟩) ⟨pq_blind, va_recv hK hP (ci := 0) (q0 := 0) rfl rfl, pq_pre hP hK hA⟩ rfl rfl hl.1 rfl (lv_room (Nat.le_of_ble_eq_true rfl)) dX0_isNumber_2 ⟨Nat.zero_le _, Nat.zero_le _⟩) ?_
  refine lv_aload_n hx hb dX0_isNumber_5 rfl (lv_at hl 0 rfl) ?_
  refine va_get (D := (dC, dI)) (ci := 0) (v := .long (ff_infinity nb)) (C := RX0) (T := TX0) (N := 10) hx hb hts hin hown hK hP 0 rfl rfl 9 (by decide) (hts (.fieldLink RX0 36 "WeatherMast$Floats" "infinity" "J") (by decide +kernel)) (fun _ h9 => h9) rfl dX0_isNumber_6 ?_
  refine pq_lcmp_gt (tgt := 17) hx hb dX0_isNumber_9 dX0_isNumber_10 (by decide) (fun h1 => ?_) (fun h1 => ?_)
  · refine lv_iconst (v := 0) hx hb dX0_isNumber_17 (by decide) ?_
    exact W.zret (v := 0) hx hb hr (by first | rfl | exact pq_nz) (fun t ht hW => ⟨congrArg (fun z => Outcome.returned (some (Value.int z))) (show _ = fl_isNumber nb p0 from Eq.symm (show fl_isNumber nb p0 = _ from (if_pos h1))), ht⟩) (fun q hq => absurd hq List.not_mem_nil) dX0_isNumber_18
  · refine lv_iconst (v := 1) hx hb dX0_isNumber_13 (by decide) ?_
    refine lv_goto (tgt := 18) hx hb dX0_isNumber_14 (by decide) ?_
    exact W.zret (v := 1) hx hb hr (by first | rfl | exact pq_nz) (fun t ht hW => ⟨congrArg (fun z => Outcome.returned (some (Value.int z))) (show _ = fl_isNumber nb p0 from Eq.symm (show fl_isNumber nb p0 = _ from (if_neg h1))), ht⟩) (fun q hq => absurd hq List.not_mem_nil) dX0_isNumber_18
def fl_hasStep (nb : Bool) (p0 : Int32) : Int32 := if p0 < 0 then 0 else (if 7 < p0 then 0 else (1))
set_option maxHeartbeats 4000000 in
set_option maxRecDepth 100000 in
theorem mt_X0_hasStep (l : Launch) (dC : Nat → ClassId) (dI : Nat → Nat → Nat) (nb : Bool) (h0 : Nat) (p0 : Int32) : Met l yX0_hasStep wsX0_hasStep ({ frames := 0, cells := 0, slots := 0, locals := 0 }) (pq_Pc (dC, dI) h0 (0, fl_F nb) [.ref h0, .int p0]) (pq_V (.int (fl_hasStep nb p0))) 0 0 (fun _ => False) := by
  refine Met.ofW (cc := cX0_hasStep) (maxL := 2) (ret := (some .boolean)) (by decide) rfl ?_
  intro p e s m args below meth c s₁ B hml hv
  obtain ⟨rfl, hP, hK, hA⟩ := hv
  have hx := B.exec
  have hb := B.bytes
  have hr := B.returns
  have hts := atoms_spec (ws := wsX0_hasStep) B.pre
  have hown : s.vm.findClass RX0 = some m.cls := findClass_of_methodNamed B.named
  have hlocks := B.notSynchronized
  have hl := lv_entry ([.ref h0, .int p0]) (n := 2) (Nat.le_of_ble_eq_true rfl)
  rw [lg_entry_eq]
  generalize (lg_sl ([.ref h0, .int p0]) ++ List.replicate (2 - (lg_sl ([.ref h0, .int p0])).length) Slot.unset).toArray = ls at hl ⊢
  have hl : lv_has ls 2 [(0, .ref h0), (1, .int p0)] := hl
  refine lv_iload_n hx hb dX0_hasStep_0 rfl (lv_at hl 1 rfl) ?_
  refine lv_if_lt (tgt := 14) hx hb dX0_hasStep_1 (by decide) (fun h1 => ?_) (fun h1 => ?_)
  · refine lv_iconst (v := 0) hx hb dX0_hasStep_14 (by decide) ?_
    exact W.zret (v := 0) hx hb hr (by first | rfl | exact pq_nz) (fun t ht hW => ⟨congrArg (fun z => Outcome.returned (some (Value.int z))) (show _ = fl_hasStep nb p0 from Eq.symm (show fl_hasStep nb p0 = _ from (if_pos h1))), ht⟩) (fun q hq => absurd hq List.not_mem_nil) dX0_hasStep_15
  · refine lv_iload_n hx hb dX0_hasStep_4 rfl (lv_at hl 1 rfl) ?_
    refine lv_bipush (v := 7) hx hb dX0_hasStep_5 (by decide) ?_
    refine lv_icmp_gt (tgt := 14) hx hb dX0_hasStep_7 (by decide) (fun h2 => ?_) (fun h2 => ?_)
    · refine lv_iconst (v := 0) hx hb dX0_hasStep_14 (by decide) ?_
      exact W.zret (v := 0) hx hb hr (by first | rfl | exact pq_nz) (fun t ht hW => ⟨congrArg (fun z => Outcome.returned (some (Value.int z))) (show _ = fl_hasStep nb p0 from Eq.symm (show fl_hasStep nb p0 = _ from ((if_neg h1).trans (if_pos h2)))), ht⟩) (fun q hq => absurd hq List.not_mem_nil) dX0_hasStep_15
    · refine lv_iconst (v := 1) hx hb dX0_hasStep_10 (by decide) ?_
      refine lv_goto (tgt := 15) hx hb dX0_hasStep_11 (by decide) ?_
      exact W.zret (v := 1) hx hb hr (by first | rfl | exact pq_nz) (fun t ht hW => ⟨congrArg (fun z => Outcome.returned (some (Value.int z))) (show _ = fl_hasStep nb p0 from Eq.symm (show fl_hasStep nb p0 = _ from ((if_neg h1).trans (if_neg h2)))), ht⟩) (fun q hq => absurd hq List.not_mem_nil) dX0_hasStep_15
def fl_rank (nb : Bool) (p0 : Int64) : Int64 := if 0 ≤ p0 then p0 else (((-1) - (fl_amount nb p0)))
set_option maxHeartbeats 4000000 in
set_option maxRecDepth 100000 in
theorem mt_X0_rank (l : Launch) (dC : Nat → ClassId) (dI : Nat → Nat → Nat) (nb : Bool) (h0 : Nat) (p0 : Int64) : Met l yX0_rank wsX0_rank ({ frames := 1, cells := 0, slots := 0, locals := 22 }) (pq_Pc (dC, dI) h0 (0, fl_F nb) [.ref h0, .long p0]) (pq_V (.long (fl_rank nb p0))) 0 0 (fun _ => False) := by
  refine Met.ofW (cc := cX0_rank) (maxL := 3) (ret := (some .long)) (by decide) rfl ?_
  intro p e s m args below meth c s₁ B hml hv
  obtain ⟨rfl, hP, hK, hA⟩ := hv
  have hx := B.exec
  have hb := B.bytes
  have hr := B.returns
  have hts := atoms_spec (ws := wsX0_rank) B.pre
  have hown : s.vm.findClass RX0 = some m.cls := findClass_of_methodNamed B.named
  have hlocks := B.notSynchronized
  have hl := lv_entry ([.ref h0, .long p0]) (n := 3) (Nat.le_of_ble_eq_true rfl)
  rw [lg_entry_eq]
  generalize (lg_sl ([.ref h0, .long p0]) ++ List.replicate (3 - (lg_sl ([.ref h0, .long p0])).length) Slot.unset).toArray = ls at hl ⊢
  have hl : lv_has ls 3 [(0, .ref h0), (1, .long p0)] := hl
  refine lv_lload_n hx hb dX0_rank_0 rfl (lv_at hl 1 rfl) ?_
  refine lv_lconst (v := 0) hx hb dX0_rank_1 (by decide) ?_
  refine pq_lcmp_ge (tgt := 18) hx hb dX0_rank_2 dX0_rank_3 (by decide) (fun h1 => ?_) (fun h1 => ?_)
  · refine lv_lload_n hx hb dX0_rank_18 rfl (lv_at hl 1 rfl) ?_
    exact W.lret (v := p0) hx hb hr (fun t ht hW => ⟨congrArg (fun z => Outcome.returned (some (Value.long z))) (show _ = fl_rank nb p0 from Eq.symm (show fl_rank nb p0 = _ from (if_pos h1))), ht⟩) (fun q hq => absurd hq List.not_mem_nil) dX0_rank_19
  · refine lv_ldc2 hx hb hown (hts (.constantLong RX0 46 (-1)) (by decide +kernel)) dX0_rank_6 ?_
    refine lv_aload_n hx hb dX0_rank_9 rfl (lv_at hl 0 rfl) ?_
    refine lv_lload_n hx hb dX0_rank_10 rfl (lv_at hl 1 rfl) ?_
    refine pq_call (va_runV (C := RX0) (As := [.long p0]) (rest := [.long (-1)]) ⟨hx, hb, hml, hown, hts⟩ (mt_X0_amount l dC dI nb h0 p0) (cwV 1 hts gX0_rank_X0_amount rfl rfl rfl (by decide +kernel) ⟨Nat.le_of_ble_eq_true rfl, Nat.le_of_ble_eq_true rfl⟩) ⟨pq_blind, va_recv hK hP (ci := 0) (q0 := 0) rfl rfl, pq_pre hP hK hA⟩ rfl rfl hl.1 rfl (lv_room (Nat.le_of_ble_eq_true rfl)) dX0_rank_11 ⟨Nat.zero_le _, Nat.zero_le _⟩) ?_
    refine lv_lsub hx hb dX0_rank_14 ?_
    refine lv_goto (tgt := 19) hx hb dX0_rank_15 (by decide) ?_
    exact W.lret (v := ((-1) - (fl_amount nb p0))) hx hb hr (fun t ht hW => ⟨congrArg (fun z => Outcome.returned (some (Value.long z))) (show _ = fl_rank nb p0 from Eq.symm (show fl_rank nb p0 = _ from (if_neg h1))), ht⟩) (fun q hq => absurd hq List.not_mem_nil) dX0_rank_19
def fl_place (nb : Bool) (p0 : Int64) : Int64 := if 0 ≤ p0 then p0 else ((-(fl_amount nb p0)))
set_option maxHeartbeats 4000000 in
set_option maxRecDepth 100000 in
theorem mt_X0_place (l : Launch) (dC : Nat → ClassId) (dI : Nat → Nat → Nat) (nb : Bool) (h0 : Nat) (p0 : Int64) : Met l yX0_place wsX0_place ({ frames := 1, cells := 0, slots := 0, locals := 22 }) (pq_Pc (dC, dI) h0 (0, fl_F nb) [.ref h0, .long p0]) (pq_V (.long (fl_place nb p0))) 0 0 (fun _ => False) := by
  refine Met.ofW (cc := cX0_place) (maxL := 3) (ret := (some .long)) (by decide) rfl ?_
  intro p e s m args below meth c s₁ B hml hv
  obtain ⟨rfl, hP, hK, hA⟩ := hv
  have hx := B.exec
  have hb := B.bytes
  have hr := B.returns
  have hts := atoms_spec (ws := wsX0_place) B.pre
  have hown : s.vm.findClass RX0 = some m.cls := findClass_of_methodNamed B.named
  have hlocks := B.notSynchronized
  have hl := lv_entry ([.ref h0, .long p0]) (n := 3) (Nat.le_of_ble_eq_true rfl)
  rw [lg_entry_eq]
  generalize (lg_sl ([.ref h0, .long p0]) ++ List.replicate (3 - (lg_sl ([.ref h0, .long p0])).length) Slot.unset).toArray = ls at hl ⊢
  have hl : lv_has ls 3 [(0, .ref h0), (1, .long p0)] := hl
  refine lv_lload_n hx hb dX0_place_0 rfl (lv_at hl 1 rfl) ?_
  refine lv_lconst (v := 0) hx hb dX0_place_1 (by decide) ?_
  refine pq_lcmp_ge (tgt := 15) hx hb dX0_place_2 dX0_place_3 (by decide) (fun h1 => ?_) (fun h1 => ?_)
  · refine lv_lload_n hx hb dX0_place_15 rfl (lv_at hl 1 rfl) ?_
    exact W.lret (v := p0) hx hb hr (fun t ht hW => ⟨congrArg (fun z => Outcome.returned (some (Value.long z))) (show _ = fl_place nb p0 from Eq.symm (show fl_place nb p0 = _ from (if_pos h1))), ht⟩) (fun q hq => absurd hq List.not_mem_nil) dX0_place_16
  · refine lv_aload_n hx hb dX0_place_6 rfl (lv_at hl 0 rfl) ?_
    refine lv_lload_n hx hb dX0_place_7 rfl (lv_at hl 1 rfl) ?_
    refine pq_call (va_runV (C := RX0) (As := [.long p0]) (rest := []) ⟨hx, hb, hml, hown, hts⟩ (mt_X0_amount l dC dI nb h0 p0) (cwV 1 hts gX0_place_X0_amount rfl rfl rfl (by decide +kernel) ⟨Nat.le_of_ble_eq_true rfl, Nat.le_of_ble_eq_true rfl⟩) ⟨pq_blind, va_recv hK hP (ci := 0) (q0 := 0) rfl rfl, pq_pre hP hK hA⟩ rfl rfl hl.1 rfl (lv_room (Nat.le_of_ble_eq_true rfl)) dX0_place_8 ⟨Nat.zero_le _, Nat.zero_le _⟩) ?_
    refine lv_lneg hx hb dX0_place_11 ?_
    refine lv_goto (tgt := 16) hx hb dX0_place_12 (by decide) ?_
    exact W.lret (v := (-(fl_amount nb p0))) hx hb hr (fun t ht hW => ⟨congrArg (fun z => Outcome.returned (some (Value.long z))) (show _ = fl_place nb p0 from Eq.symm (show fl_place nb p0 = _ from (if_neg h1))), ht⟩) (fun q hq => absurd hq List.not_mem_nil) dX0_place_16
def fl_exponent (nb : Bool) (p0 : Int64) : Int32 := if (ff_leadingOne nb) ≤ p0 then (Int64.toInt32 (p0 >>> (Int32.toInt64 (ff_fractionBits nb) &&& 63))) else (1)
set_option maxHeartbeats 4000000 in
set_option maxRecDepth 100000 in
theorem mt_X0_exponent (l : Launch) (dC : Nat → ClassId) (dI : Nat → Nat → Nat) (nb : Bool) (h0 : Nat) (p0 : Int64) : Met l yX0_exponent wsX0_exponent ({ frames := 0, cells := 0, slots := 0, locals := 0 }) (pq_Pc (dC, dI) h0 (0, fl_F nb) [.ref h0, .long p0]) (pq_V (.int (fl_exponent nb p0))) 0 0 (fun _ => False) := by
  refine Met.ofW (cc := cX0_exponent) (maxL := 3) (ret := (some .int)) (by decide) rfl ?_
  intro p e s m args below meth c s₁ B hml hv
  obtain ⟨rfl, hP, hK, hA⟩ := hv
  have hx := B.exec
  have hb := B.bytes
  have hr := B.returns
  have hts := atoms_spec (ws := wsX0_exponent) B.pre
  have hown : s.vm.findClass RX0 = some m.cls := findClass_of_methodNamed B.named
  have hlocks := B.notSynchronized
  have hin : ∀ w ∈ wsX00, w ∈ wsX0_exponent := by decide +kernel
  have hl := lv_entry ([.ref h0, .long p0]) (n := 3) (Nat.le_of_ble_eq_true rfl)
  rw [lg_entry_eq]
  generalize (lg_sl ([.ref h0, .long p0]) ++ List.replicate (3 - (lg_sl ([.ref h0, .long p0])).length) Slot.unset).toArray = ls at hl ⊢
  have hl : lv_has ls 3 [(0, .ref h0), (1, .long p0)] := hl
  refine lv_lload_n hx hb dX0_exponent_0 rfl (lv_at hl 1 rfl) ?_
  refine lv_aload_n hx hb dX0_exponent_1 rfl (lv_at hl 0 rfl) ?_
  refine va_get (D := (dC, dI)) (ci := 0) (v := .long (ff_leadingOne nb)) (C := RX0) (T := TX0) (N := 10) hx hb hts hin hown hK hP 0 rfl rfl 6 (by decide) (hts (.fieldLink RX0 26 "WeatherMast$Floats" "leadingOne" "J") (by decide +kernel)) (fun _ h9 => h9) rfl dX0_exponent_2 ?_
  refine pq_lcmp_ge (tgt := 13) hx hb dX0_exponent_5 dX0_exponent_6 (by decide) (fun h1 => ?_) (fun h1 => ?_)
  · refine lv_lload_n hx hb dX0_exponent_13 rfl (lv_at hl 1 rfl) ?_
    refine lv_aload_n hx hb dX0_exponent_14 rfl (lv_at hl 0 rfl) ?_
    refine va_get (D := (dC, dI)) (ci := 0) (v := .int (ff_fractionBits nb)) (C := RX0) (T := TX0) (N := 10) hx hb hts hin hown hK hP 0 rfl rfl 4 (by decide) (hts (.fieldLink RX0 19 "WeatherMast$Floats" "fractionBits" "I") (by decide +kernel)) (fun _ h9 => h9) rfl dX0_exponent_15 ?_
    refine lv_lshr (v := (p0 >>> (Int32.toInt64 (ff_fractionBits nb) &&& 63))) hx hb dX0_exponent_18 rfl ?_
    refine lv_l2i (v := (Int64.toInt32 (p0 >>> (Int32.toInt64 (ff_fractionBits nb) &&& 63)))) hx hb dX0_exponent_19 rfl ?_
    exact W.iret (v := (Int64.toInt32 (p0 >>> (Int32.toInt64 (ff_fractionBits nb) &&& 63)))) hx hb hr (fun t ht hW => ⟨congrArg (fun z => Outcome.returned (some (Value.int z))) (show _ = fl_exponent nb p0 from Eq.symm (show fl_exponent nb p0 = _ from (if_pos h1))), ht⟩) (fun q hq => absurd hq List.not_mem_nil) dX0_exponent_20
  · refine lv_iconst (v := 1) hx hb dX0_exponent_9 (by decide) ?_
    refine lv_goto (tgt := 20) hx hb dX0_exponent_10 (by decide) ?_
    exact W.iret (v := 1) hx hb hr (fun t ht hW => ⟨congrArg (fun z => Outcome.returned (some (Value.int z))) (show _ = fl_exponent nb p0 from Eq.symm (show fl_exponent nb p0 = _ from (if_neg h1))), ht⟩) (fun q hq => absurd hq List.not_mem_nil) dX0_exponent_20
def fl_digits (nb : Bool) (p0 : Int64) : Int64 := if (ff_leadingOne nb) ≤ p0 then ((p0 &&& ((ff_leadingOne nb) - 1)) ||| (ff_leadingOne nb)) else (p0)
set_option maxHeartbeats 4000000 in
set_option maxRecDepth 100000 in
theorem mt_X0_digits (l : Launch) (dC : Nat → ClassId) (dI : Nat → Nat → Nat) (nb : Bool) (h0 : Nat) (p0 : Int64) : Met l yX0_digits wsX0_digits ({ frames := 0, cells := 0, slots := 0, locals := 0 }) (pq_Pc (dC, dI) h0 (0, fl_F nb) [.ref h0, .long p0]) (pq_V (.long (fl_digits nb p0))) 0 0 (fun _ => False) := by
  refine Met.ofW (cc := cX0_digits) (maxL := 3) (ret := (some .long)) (by decide) rfl ?_
  intro p e s m args below meth c s₁ B hml hv
  obtain ⟨rfl, hP, hK, hA⟩ := hv
  have hx := B.exec
  have hb := B.bytes
  have hr := B.returns
  have hts := atoms_spec (ws := wsX0_digits) B.pre
  have hown : s.vm.findClass RX0 = some m.cls := findClass_of_methodNamed B.named
  have hlocks := B.notSynchronized
  have hin : ∀ w ∈ wsX00, w ∈ wsX0_digits := by decide +kernel
  have hl := lv_entry ([.ref h0, .long p0]) (n := 3) (Nat.le_of_ble_eq_true rfl)
  rw [lg_entry_eq]
  generalize (lg_sl ([.ref h0, .long p0]) ++ List.replicate (3 - (lg_sl ([.ref h0, .long p0])).length) Slot.unset).toArray = ls at hl ⊢
  have hl : lv_has ls 3 [(0, .ref h0), (1, .long p0)] := hl
  refine lv_lload_n hx hb dX0_digits_0 rfl (lv_at hl 1 rfl) ?_
  refine lv_aload_n hx hb dX0_digits_1 rfl (lv_at hl 0 rfl) ?_
  refine va_get (D := (dC, dI)) (ci := 0) (v := .long (ff_leadingOne nb)) (C := RX0) (T := TX0) (N := 10) hx hb hts hin hown hK hP 0 rfl rfl 6 (by decide) (hts (.fieldLink RX0 26 "WeatherMast$Floats" "leadingOne" "J") (by decide +kernel)) (fun _ h9 => h9) rfl dX0_digits_2 ?_
  refine pq_lcmp_ge (tgt := 13) hx hb dX0_digits_5 dX0_digits_6 (by decide) (fun h1 => ?_) (fun h1 => ?_)
  · refine lv_lload_n hx hb dX0_digits_13 rfl (lv_at hl 1 rfl) ?_
    refine lv_aload_n hx hb dX0_digits_14 rfl (lv_at hl 0 rfl) ?_
    refine va_get (D := (dC, dI)) (ci := 0) (v := .long (ff_leadingOne nb)) (C := RX0) (T := TX0) (N := 10) hx hb hts hin hown hK hP 0 rfl rfl 6 (by decide) (hts (.fieldLink RX0 26 "WeatherMast$Floats" "leadingOne" "J") (by decide +kernel)) (fun _ h9 => h9) rfl dX0_digits_15 ?_
    refine lv_lconst (v := 1) hx hb dX0_digits_18 (by decide) ?_
    refine lv_lsub hx hb dX0_digits_19 ?_
    refine lv_land hx hb dX0_digits_20 ?_
    refine lv_aload_n hx hb dX0_digits_21 rfl (lv_at hl 0 rfl) ?_
    refine va_get (D := (dC, dI)) (ci := 0) (v := .long (ff_leadingOne nb)) (C := RX0) (T := TX0) (N := 10) hx hb hts hin hown hK hP 0 rfl rfl 6 (by decide) (hts (.fieldLink RX0 26 "WeatherMast$Floats" "leadingOne" "J") (by decide +kernel)) (fun _ h9 => h9) rfl dX0_digits_22 ?_
    refine lv_lor hx hb dX0_digits_25 ?_
    exact W.lret (v := ((p0 &&& ((ff_leadingOne nb) - 1)) ||| (ff_leadingOne nb))) hx hb hr (fun t ht hW => ⟨congrArg (fun z => Outcome.returned (some (Value.long z))) (show _ = fl_digits nb p0 from Eq.symm (show fl_digits nb p0 = _ from (if_pos h1))), ht⟩) (fun q hq => absurd hq List.not_mem_nil) dX0_digits_26
  · refine lv_lload_n hx hb dX0_digits_9 rfl (lv_at hl 1 rfl) ?_
    refine lv_goto (tgt := 26) hx hb dX0_digits_10 (by decide) ?_
    exact W.lret (v := p0) hx hb hr (fun t ht hW => ⟨congrArg (fun z => Outcome.returned (some (Value.long z))) (show _ = fl_digits nb p0 from Eq.symm (show fl_digits nb p0 = _ from (if_neg h1))), ht⟩) (fun q hq => absurd hq List.not_mem_nil) dX0_digits_26
def fl_guardedDigits (nb : Bool) (p0 : Int64) : Int64 := ((fl_digits nb p0) <<< (Int32.toInt64 3 &&& 63))
set_option maxHeartbeats 4000000 in
set_option maxRecDepth 100000 in
theorem mt_X0_guardedDigits (l : Launch) (dC : Nat → ClassId) (dI : Nat → Nat → Nat) (nb : Bool) (h0 : Nat) (p0 : Int64) : Met l yX0_guardedDigits wsX0_guardedDigits ({ frames := 1, cells := 0, slots := 0, locals := 22 }) (pq_Pc (dC, dI) h0 (0, fl_F nb) [.ref h0, .long p0]) (pq_V (.long (fl_guardedDigits nb p0))) 0 0 (fun _ => False) := by
  refine Met.ofW (cc := cX0_guardedDigits) (maxL := 3) (ret := (some .long)) (by decide) rfl ?_
  intro p e s m args below meth c s₁ B hml hv
  obtain ⟨rfl, hP, hK, hA⟩ := hv
  have hx := B.exec
  have hb := B.bytes
  have hr := B.returns
  have hts := atoms_spec (ws := wsX0_guardedDigits) B.pre
  have hown : s.vm.findClass RX0 = some m.cls := findClass_of_methodNamed B.named
  have hlocks := B.notSynchronized
  have hl := lv_entry ([.ref h0, .long p0]) (n := 3) (Nat.le_of_ble_eq_true rfl)
  rw [lg_entry_eq]
  generalize (lg_sl ([.ref h0, .long p0]) ++ List.replicate (3 - (lg_sl ([.ref h0, .long p0])).length) Slot.unset).toArray = ls at hl ⊢
  have hl : lv_has ls 3 [(0, .ref h0), (1, .long p0)] := hl
  refine lv_aload_n hx hb dX0_guardedDigits_0 rfl (lv_at hl 0 rfl) ?_
  refine lv_lload_n hx hb dX0_guardedDigits_1 rfl (lv_at hl 1 rfl) ?_
  refine pq_call (va_runV (C := RX0) (As := [.long p0]) (rest := []) ⟨hx, hb, hml, hown, hts⟩ (mt_X0_digits l dC dI nb h0 p0) (cwV 1 hts gX0_guardedDigits_X0_digits rfl rfl rfl (by decide +kernel) ⟨Nat.le_of_ble_eq_true rfl, Nat.le_of_ble_eq_true rfl⟩) ⟨pq_blind, va_recv hK hP (ci := 0) (q0 := 0) rfl rfl, pq_pre hP hK hA⟩ rfl rfl hl.1 rfl (lv_room (Nat.le_of_ble_eq_true rfl)) dX0_guardedDigits_2 ⟨Nat.zero_le _, Nat.zero_le _⟩) ?_
  refine lv_iconst (v := 3) hx hb dX0_guardedDigits_5 (by decide) ?_
  refine lv_lshl (v := ((fl_digits nb p0) <<< (Int32.toInt64 3 &&& 63))) hx hb dX0_guardedDigits_6 rfl ?_
  exact W.lret (v := ((fl_digits nb p0) <<< (Int32.toInt64 3 &&& 63))) hx hb hr (fun t ht hW => ⟨congrArg (fun z => Outcome.returned (some (Value.long z))) (show _ = fl_guardedDigits nb p0 from Eq.symm (show fl_guardedDigits nb p0 = _ from rfl)), ht⟩) (fun q hq => absurd hq List.not_mem_nil) dX0_guardedDigits_7
def fl_rounded (nb : Bool) (p0 : Int32) (p1 : Int64) : Int64 := if p0 ≤ (2 * (ff_bias nb)) then (((((Int32.toInt64 p0) - 1) <<< (Int32.toInt64 (ff_fractionBits nb) &&& 63)) + (p1 >>> (Int32.toInt64 3 &&& 63))) + (Int32.toInt64 (if (if 4 < (p1 &&& 7) then (1 : Int32) else (if (p1 &&& 7) = 4 then (if ((p1 >>> (Int32.toInt64 3 &&& 63)) &&& 1) = 1 then (1 : Int32) else (0 : Int32)) else (0 : Int32))) = 0 then (0 : Int32) else (1 : Int32)))) else ((ff_infinity nb))
set_option maxHeartbeats 4000000 in
set_option maxRecDepth 100000 in
theorem mt_X0_rounded (l : Launch) (dC : Nat → ClassId) (dI : Nat → Nat → Nat) (nb : Bool) (h0 : Nat) (p0 : Int32) (p1 : Int64) : Met l yX0_rounded wsX0_rounded ({ frames := 0, cells := 0, slots := 0, locals := 0 }) (pq_Pc (dC, dI) h0 (0, fl_F nb) [.ref h0, .int p0, .long p1]) (pq_V (.long (fl_rounded nb p0 p1))) 0 0 (fun _ => False) := by
  refine Met.ofW (cc := cX0_rounded) (maxL := 9) (ret := (some .long)) (by decide) rfl ?_
  intro p e s m args below meth c s₁ B hml hv
  obtain ⟨rfl, hP, hK, hA⟩ := hv
  have hx := B.exec
  have hb := B.bytes
  have hr := B.returns
  have hts := atoms_spec (ws := wsX0_rounded) B.pre
  have hown : s.vm.findClass RX0 = some m.cls := findClass_of_methodNamed B.named
  have hlocks := B.notSynchronized
  have hin : ∀ w ∈ wsX00, w ∈ wsX0_rounded := by decide +kernel
  have hl := lv_entry ([.ref h0, .int p0, .long p1]) (n := 9) (Nat.le_of_ble_eq_true rfl)
  rw [lg_entry_eq]
  generalize (lg_sl ([.ref h0, .int p0, .long p1]) ++ List.replicate (9 - (lg_sl ([.ref h0, .int p0, .long p1])).length) Slot.unset).toArray = ls at hl ⊢
  have hl : lv_has ls 9 [(0, .ref h0), (1, .int p0), (2, .long p1)] := hl
  refine lv_iload_n hx hb dX0_rounded_0 rfl (lv_at hl 1 rfl) ?_
  refine lv_iconst (v := 2) hx hb dX0_rounded_1 (by decide) ?_
  refine lv_aload_n hx hb dX0_rounded_2 rfl (lv_at hl 0 rfl) ?_
  refine va_get (D := (dC, dI)) (ci := 0) (v := .int (ff_bias nb)) (C := RX0) (T := TX0) (N := 10) hx hb hts hin hown hK hP 0 rfl rfl 5 (by decide) (hts (.fieldLink RX0 23 "WeatherMast$Floats" "bias" "I") (by decide +kernel)) (fun _ h9 => h9) rfl dX0_rounded_3 ?_
  refine lv_imul hx hb dX0_rounded_6 ?_
  refine lv_icmp_le (tgt := 15) hx hb dX0_rounded_7 (by decide) (fun h1 => ?_) (fun h1 => ?_)
  · refine lv_lload_n hx hb dX0_rounded_15 rfl (lv_at hl 2 rfl) ?_
    refine lv_iconst (v := 3) hx hb dX0_rounded_16 (by decide) ?_
    refine lv_lshr (v := (p1 >>> (Int32.toInt64 3 &&& 63))) hx hb dX0_rounded_17 rfl ?_
    refine lv_lstore (lv' := [(4, .long (p1 >>> (Int32.toInt64 3 &&& 63))), (0, .ref h0), (1, .int p0), (2, .long p1)]) hx hb dX0_rounded_18 hl (by decide) rfl (fun ls hl => ?_)
    refine lv_lload_n hx hb dX0_rounded_20 rfl (lv_at hl 3 rfl) ?_
    refine lv_ldc2 hx hb hown (hts (.constantLong RX0 92 (7)) (by decide +kernel)) dX0_rounded_21 ?_
    refine lv_land hx hb dX0_rounded_24 ?_
    refine lv_lstore (lv' := [(6, .long (p1 &&& 7)), (4, .long (p1 >>> (Int32.toInt64 3 &&& 63))), (0, .ref h0), (1, .int p0), (2, .long p1)]) hx hb dX0_rounded_25 hl (by decide) rfl (fun ls hl => ?_)
    refine lv_lload hx hb dX0_rounded_27 (lv_at hl 0 rfl) ?_
    refine lv_ldc2 hx hb hown (hts (.constantLong RX0 94 (4)) (by decide +kernel)) dX0_rounded_29 ?_
    refine pq_cut (g2 := F0 m 59 ls [.int (if 4 < (p1 &&& 7) then (1 : Int32) else (if (p1 &&& 7) = 4 then (if ((p1 >>> (Int32.toInt64 3 &&& 63)) &&& 1) = 1 then (1 : Int32) else (0 : Int32)) else (0 : Int32)))]) (fun K2 => ?_) ?_
    · refine pq_lcmp_gt (tgt := 54) hx hb dX0_rounded_32 dX0_rounded_33 (by decide) (fun h3 => ?_) (fun h3 => ?_)
      · refine lv_iconst (v := 1) hx hb dX0_rounded_54 (by decide) ?_
        refine lv_goto (tgt := 59) hx hb dX0_rounded_55 (by decide) ?_
        exact pq_conv K2 (congrArg Value.int (if_pos h3))
      · refine lv_lload hx hb dX0_rounded_36 (lv_at hl 0 rfl) ?_
        refine lv_ldc2 hx hb hown (hts (.constantLong RX0 94 (4)) (by decide +kernel)) dX0_rounded_38 ?_
        refine pq_lcmp_ne (tgt := 58) hx hb dX0_rounded_41 dX0_rounded_42 (by decide) (fun h4 => ?_) (fun h4 => ?_)
        · refine lv_iconst (v := 0) hx hb dX0_rounded_58 (by decide) ?_
          exact pq_conv K2 (congrArg Value.int ((if_neg h3).trans (if_neg h4)))
        · refine lv_lload hx hb dX0_rounded_45 (lv_at hl 1 rfl) ?_
          refine lv_lconst (v := 1) hx hb dX0_rounded_47 (by decide) ?_
          refine lv_land hx hb dX0_rounded_48 ?_
          refine lv_lconst (v := 1) hx hb dX0_rounded_49 (by decide) ?_
          refine pq_lcmp_ne (tgt := 58) hx hb dX0_rounded_50 dX0_rounded_51 (by decide) (fun h5 => ?_) (fun h5 => ?_)
          · refine lv_iconst (v := 0) hx hb dX0_rounded_58 (by decide) ?_
            exact pq_conv K2 (congrArg Value.int ((if_neg h3).trans ((if_pos h4).trans (if_neg h5))))
          · refine lv_iconst (v := 1) hx hb dX0_rounded_54 (by decide) ?_
            refine lv_goto (tgt := 59) hx hb dX0_rounded_55 (by decide) ?_
            exact pq_conv K2 (congrArg Value.int ((if_neg h3).trans ((if_pos h4).trans (if_pos h5))))
    refine lv_istore (lv' := [(8, .int (if 4 < (p1 &&& 7) then (1 : Int32) else (if (p1 &&& 7) = 4 then (if ((p1 >>> (Int32.toInt64 3 &&& 63)) &&& 1) = 1 then (1 : Int32) else (0 : Int32)) else (0 : Int32)))), (6, .long (p1 &&& 7)), (4, .long (p1 >>> (Int32.toInt64 3 &&& 63))), (0, .ref h0), (1, .int p0), (2, .long p1)]) hx hb dX0_rounded_59 hl (by decide) rfl (fun ls hl => ?_)
    refine lv_iload_n hx hb dX0_rounded_61 rfl (lv_at hl 4 rfl) ?_
    refine lv_i2l (v := (Int32.toInt64 p0)) hx hb dX0_rounded_62 rfl ?_
    refine lv_lconst (v := 1) hx hb dX0_rounded_63 (by decide) ?_
    refine lv_lsub hx hb dX0_rounded_64 ?_
    refine lv_aload_n hx hb dX0_rounded_65 rfl (lv_at hl 3 rfl) ?_
    refine va_get (D := (dC, dI)) (ci := 0) (v := .int (ff_fractionBits nb)) (C := RX0) (T := TX0) (N := 10) hx hb hts hin hown hK hP 0 rfl rfl 4 (by decide) (hts (.fieldLink RX0 19 "WeatherMast$Floats" "fractionBits" "I") (by decide +kernel)) (fun _ h9 => h9) rfl dX0_rounded_66 ?_
    refine lv_lshl (v := (((Int32.toInt64 p0) - 1) <<< (Int32.toInt64 (ff_fractionBits nb) &&& 63))) hx hb dX0_rounded_69 rfl ?_
    refine lv_lload hx hb dX0_rounded_70 (lv_at hl 2 rfl) ?_
    refine lv_ladd hx hb dX0_rounded_72 ?_
    refine lv_iload hx hb dX0_rounded_73 (lv_at hl 0 rfl) ?_
    refine pq_cut (g2 := F0 m 83 ls [.int (if (if 4 < (p1 &&& 7) then (1 : Int32) else (if (p1 &&& 7) = 4 then (if ((p1 >>> (Int32.toInt64 3 &&& 63)) &&& 1) = 1 then (1 : Int32) else (0 : Int32)) else (0 : Int32))) = 0 then (0 : Int32) else (1 : Int32)), .long ((((Int32.toInt64 p0) - 1) <<< (Int32.toInt64 (ff_fractionBits nb) &&& 63)) + (p1 >>> (Int32.toInt64 3 &&& 63)))]) (fun K6 => ?_) ?_
    · refine lv_if_eq (tgt := 82) hx hb dX0_rounded_75 (by decide) (fun h7 => ?_) (fun h7 => ?_)
      · refine lv_iconst (v := 0) hx hb dX0_rounded_82 (by decide) ?_
        exact pq_conv K6 (congrArg Value.int (if_pos h7))
      · refine lv_iconst (v := 1) hx hb dX0_rounded_78 (by decide) ?_
        refine lv_goto (tgt := 83) hx hb dX0_rounded_79 (by decide) ?_
        exact pq_conv K6 (congrArg Value.int (if_neg h7))
    refine lv_i2l (v := (Int32.toInt64 (if (if 4 < (p1 &&& 7) then (1 : Int32) else (if (p1 &&& 7) = 4 then (if ((p1 >>> (Int32.toInt64 3 &&& 63)) &&& 1) = 1 then (1 : Int32) else (0 : Int32)) else (0 : Int32))) = 0 then (0 : Int32) else (1 : Int32)))) hx hb dX0_rounded_83 rfl ?_
    refine lv_ladd hx hb dX0_rounded_84 ?_
    exact W.lret (v := (((((Int32.toInt64 p0) - 1) <<< (Int32.toInt64 (ff_fractionBits nb) &&& 63)) + (p1 >>> (Int32.toInt64 3 &&& 63))) + (Int32.toInt64 (if (if 4 < (p1 &&& 7) then (1 : Int32) else (if (p1 &&& 7) = 4 then (if ((p1 >>> (Int32.toInt64 3 &&& 63)) &&& 1) = 1 then (1 : Int32) else (0 : Int32)) else (0 : Int32))) = 0 then (0 : Int32) else (1 : Int32))))) hx hb hr (fun t ht hW => ⟨congrArg (fun z => Outcome.returned (some (Value.long z))) (show _ = fl_rounded nb p0 p1 from Eq.symm (show fl_rounded nb p0 p1 = _ from (if_pos h1))), ht⟩) (fun q hq => absurd hq List.not_mem_nil) dX0_rounded_85
  · refine lv_aload_n hx hb dX0_rounded_10 rfl (lv_at hl 0 rfl) ?_
    refine va_get (D := (dC, dI)) (ci := 0) (v := .long (ff_infinity nb)) (C := RX0) (T := TX0) (N := 10) hx hb hts hin hown hK hP 0 rfl rfl 9 (by decide) (hts (.fieldLink RX0 36 "WeatherMast$Floats" "infinity" "J") (by decide +kernel)) (fun _ h9 => h9) rfl dX0_rounded_11 ?_
    exact W.lret (v := (ff_infinity nb)) hx hb hr (fun t ht hW => ⟨congrArg (fun z => Outcome.returned (some (Value.long z))) (show _ = fl_rounded nb p0 p1 from Eq.symm (show fl_rounded nb p0 p1 = _ from (if_neg h1))), ht⟩) (fun q hq => absurd hq List.not_mem_nil) dX0_rounded_14
def fl_addAmounts (nb : Bool) (p0 : Int64) (p1 : Int64) : Int64 := if (if p1 < p0 then p0 else p1) = (ff_infinity nb) then (ff_infinity nb) else (if (if ((fl_guardedDigits nb (if p1 < p0 then p0 else p1)) + (fl_shiftedDown (fl_guardedDigits nb (if p1 < p0 then p1 else p0)) ((fl_exponent nb (if p1 < p0 then p0 else p1)) - (fl_exponent nb (if p1 < p0 then p1 else p0))))) < ((ff_leadingOne nb) <<< (Int32.toInt64 4 &&& 63)) then (0 : Int32) else (1 : Int32)) = 0 then (fl_rounded nb (fl_exponent nb (if p1 < p0 then p0 else p1)) ((fl_guardedDigits nb (if p1 < p0 then p0 else p1)) + (fl_shiftedDown (fl_guardedDigits nb (if p1 < p0 then p1 else p0)) ((fl_exponent nb (if p1 < p0 then p0 else p1)) - (fl_exponent nb (if p1 < p0 then p1 else p0)))))) else ((fl_rounded nb ((fl_exponent nb (if p1 < p0 then p0 else p1)) + 1) (fl_shiftedDown ((fl_guardedDigits nb (if p1 < p0 then p0 else p1)) + (fl_shiftedDown (fl_guardedDigits nb (if p1 < p0 then p1 else p0)) ((fl_exponent nb (if p1 < p0 then p0 else p1)) - (fl_exponent nb (if p1 < p0 then p1 else p0))))) 1))))
set_option maxHeartbeats 4000000 in
set_option maxRecDepth 100000 in
theorem mt_X0_addAmounts (l : Launch) (dC : Nat → ClassId) (dI : Nat → Nat → Nat) (nb : Bool) (h0 : Nat) (p0 : Int64) (p1 : Int64) : Met l yX0_addAmounts wsX0_addAmounts ({ frames := 2, cells := 0, slots := 0, locals := 44 }) (pq_Pc (dC, dI) h0 (0, fl_F nb) [.ref h0, .long p0, .long p1]) (pq_V (.long (fl_addAmounts nb p0 p1))) 0 0 (fun _ => False) := by
  refine Met.ofW (cc := cX0_addAmounts) (maxL := 13) (ret := (some .long)) (by decide) rfl ?_
  intro p e s m args below meth c s₁ B hml hv
  obtain ⟨rfl, hP, hK, hA⟩ := hv
  have hx := B.exec
  have hb := B.bytes
  have hr := B.returns
  have hts := atoms_spec (ws := wsX0_addAmounts) B.pre
  have hown : s.vm.findClass RX0 = some m.cls := findClass_of_methodNamed B.named
  have hlocks := B.notSynchronized
  have hin : ∀ w ∈ wsX00, w ∈ wsX0_addAmounts := by decide +kernel
  have hl := lv_entry ([.ref h0, .long p0, .long p1]) (n := 13) (Nat.le_of_ble_eq_true rfl)
  rw [lg_entry_eq]
  generalize (lg_sl ([.ref h0, .long p0, .long p1]) ++ List.replicate (13 - (lg_sl ([.ref h0, .long p0, .long p1])).length) Slot.unset).toArray = ls at hl ⊢
  have hl : lv_has ls 13 [(0, .ref h0), (1, .long p0), (3, .long p1)] := hl
  refine lv_lload_n hx hb dX0_addAmounts_0 rfl (lv_at hl 1 rfl) ?_
  refine lv_lload_n hx hb dX0_addAmounts_1 rfl (lv_at hl 2 rfl) ?_
  refine va_mmax_long hx hb (hml.trans hl.1.symm) hown (hts (.methodLink RX0 48 Lib.MathLoose.max_long.x) (by decide +kernel)) (hts (.static Lib.MathLoose.max_long.x) (by decide +kernel)) (hts (.initialized "java/lang/Math") (by decide +kernel)) (hts (.code Lib.MathLoose.max_long.x Lib.MathLoose.max_long.code 4 (some .long)) (by decide +kernel)) (Nat.le_of_ble_eq_true rfl) (Nat.le_of_ble_eq_true rfl) (Nat.zero_le _) (Nat.zero_le _) dX0_addAmounts_2 ?_
  refine lv_lstore (lv' := [(5, .long (if p1 < p0 then p0 else p1)), (0, .ref h0), (1, .long p0), (3, .long p1)]) hx hb dX0_addAmounts_5 hl (by decide) rfl (fun ls hl => ?_)
  refine lv_lload_n hx hb dX0_addAmounts_7 rfl (lv_at hl 2 rfl) ?_
  refine lv_lload_n hx hb dX0_addAmounts_8 rfl (lv_at hl 3 rfl) ?_
  refine va_mmin_long hx hb (hml.trans hl.1.symm) hown (hts (.methodLink RX0 54 Lib.MathLoose.min_long.x) (by decide +kernel)) (hts (.static Lib.MathLoose.min_long.x) (by decide +kernel)) (hts (.initialized "java/lang/Math") (by decide +kernel)) (hts (.code Lib.MathLoose.min_long.x Lib.MathLoose.min_long.code 4 (some .long)) (by decide +kernel)) (Nat.le_of_ble_eq_true rfl) (Nat.le_of_ble_eq_true rfl) (Nat.zero_le _) (Nat.zero_le _) dX0_addAmounts_9 ?_
  refine lv_lstore (lv' := [(7, .long (if p1 < p0 then p1 else p0)), (5, .long (if p1 < p0 then p0 else p1)), (0, .ref h0), (1, .long p0), (3, .long p1)]) hx hb dX0_addAmounts_12 hl (by decide) rfl (fun ls hl => ?_)
  refine lv_lload hx hb dX0_addAmounts_14 (lv_at hl 1 rfl) ?_
  refine lv_aload_n hx hb dX0_addAmounts_16 rfl (lv_at hl 2 rfl) ?_
  refine va_get (D := (dC, dI)) (ci := 0) (v := .long (ff_infinity nb)) (C := RX0) (T := TX0) (N := 10) hx hb hts hin hown hK hP 0 rfl rfl 9 (by decide) (hts (.fieldLink RX0 36 "WeatherMast$Floats" "infinity" "J") (by decide +kernel)) (fun _ h9 => h9) rfl dX0_addAmounts_17 ?_
  refine pq_lcmp_ne (tgt := 29) hx hb dX0_addAmounts_20 dX0_addAmounts_21 (by decide) (fun h1 => ?_) (fun h1 => ?_)
  · refine lv_aload_n hx hb dX0_addAmounts_29 rfl (lv_at hl 2 rfl) ?_
    refine lv_lload hx hb dX0_addAmounts_30 (lv_at hl 1 rfl) ?_
    refine pq_call (va_runV (C := RX0) (As := [.long (if p1 < p0 then p0 else p1)]) (rest := []) ⟨hx, hb, hml, hown, hts⟩ (mt_X0_exponent l dC dI nb h0 (if p1 < p0 then p0 else p1)) (cwV 1 hts gX0_addAmounts_X0_exponent rfl rfl rfl (by decide +kernel) ⟨Nat.le_of_ble_eq_true rfl, Nat.le_of_ble_eq_true rfl⟩) ⟨pq_blind, va_recv hK hP (ci := 0) (q0 := 0) rfl rfl, pq_pre hP hK hA⟩ rfl rfl hl.1 rfl (lv_room (Nat.le_of_ble_eq_true rfl)) dX0_addAmounts_32 ⟨Nat.zero_le _, Nat.zero_le _⟩) ?_
    refine lv_istore (lv' := [(9, .int (fl_exponent nb (if p1 < p0 then p0 else p1))), (7, .long (if p1 < p0 then p1 else p0)), (5, .long (if p1 < p0 then p0 else p1)), (0, .ref h0), (1, .long p0), (3, .long p1)]) hx hb dX0_addAmounts_35 hl (by decide) rfl (fun ls hl => ?_)
    refine lv_aload_n hx hb dX0_addAmounts_37 rfl (lv_at hl 3 rfl) ?_
    refine lv_lload hx hb dX0_addAmounts_38 (lv_at hl 2 rfl) ?_
    refine pq_call (va_runV (C := RX0) (As := [.long (if p1 < p0 then p0 else p1)]) (rest := []) ⟨hx, hb, hml, hown, hts⟩ (mt_X0_guardedDigits l dC dI nb h0 (if p1 < p0 then p0 else p1)) (cwV 1 hts gX0_addAmounts_X0_guardedDigits rfl rfl rfl (by decide +kernel) ⟨Nat.le_of_ble_eq_true rfl, Nat.le_of_ble_eq_true rfl⟩) ⟨pq_blind, va_recv hK hP (ci := 0) (q0 := 0) rfl rfl, pq_pre hP hK hA⟩ rfl rfl hl.1 rfl (lv_room (Nat.le_of_ble_eq_true rfl)) dX0_addAmounts_40 ⟨Nat.zero_le _, Nat.zero_le _⟩) ?_
    refine lv_aload_n hx hb dX0_addAmounts_43 rfl (lv_at hl 3 rfl) ?_
    refine lv_lload hx hb dX0_addAmounts_44 (lv_at hl 1 rfl) ?_
    refine pq_call (va_runV (C := RX0) (As := [.long (if p1 < p0 then p1 else p0)]) (rest := [.long (fl_guardedDigits nb (if p1 < p0 then p0 else p1))]) ⟨hx, hb, hml, hown, hts⟩ (mt_X0_guardedDigits l dC dI nb h0 (if p1 < p0 then p1 else p0)) (cwV 1 hts gX0_addAmounts_X0_guardedDigits rfl rfl rfl (by decide +kernel) ⟨Nat.le_of_ble_eq_true rfl, Nat.le_of_ble_eq_true rfl⟩) ⟨pq_blind, va_recv hK hP (ci := 0) (q0 := 0) rfl rfl, pq_pre hP hK hA⟩ rfl rfl hl.1 rfl (lv_room (Nat.le_of_ble_eq_true rfl)) dX0_addAmounts_46 ⟨Nat.zero_le _, Nat.zero_le _⟩) ?_
    refine lv_iload hx hb dX0_addAmounts_49 (lv_at hl 0 rfl) ?_
    refine lv_aload_n hx hb dX0_addAmounts_51 rfl (lv_at hl 3 rfl) ?_
    refine lv_lload hx hb dX0_addAmounts_52 (lv_at hl 1 rfl) ?_
    refine pq_call (va_runV (C := RX0) (As := [.long (if p1 < p0 then p1 else p0)]) (rest := [.int (fl_exponent nb (if p1 < p0 then p0 else p1)), .long (fl_guardedDigits nb (if p1 < p0 then p1 else p0)), .long (fl_guardedDigits nb (if p1 < p0 then p0 else p1))]) ⟨hx, hb, hml, hown, hts⟩ (mt_X0_exponent l dC dI nb h0 (if p1 < p0 then p1 else p0)) (cwV 1 hts gX0_addAmounts_X0_exponent rfl rfl rfl (by decide +kernel) ⟨Nat.le_of_ble_eq_true rfl, Nat.le_of_ble_eq_true rfl⟩) ⟨pq_blind, va_recv hK hP (ci := 0) (q0 := 0) rfl rfl, pq_pre hP hK hA⟩ rfl rfl hl.1 rfl (lv_room (Nat.le_of_ble_eq_true rfl)) dX0_addAmounts_54 ⟨Nat.zero_le _, Nat.zero_le _⟩) ?_
    refine lv_isub hx hb dX0_addAmounts_57 ?_
    refine pq_call (va_runS (As := [.long (fl_guardedDigits nb (if p1 < p0 then p1 else p0)), .int ((fl_exponent nb (if p1 < p0 then p0 else p1)) - (fl_exponent nb (if p1 < p0 then p1 else p0)))]) (rest := [.long (fl_guardedDigits nb (if p1 < p0 then p0 else p1))]) ⟨hx, hb, hml, hown, hts⟩ (mt_X0_shiftedDown l (fl_guardedDigits nb (if p1 < p0 then p1 else p0)) ((fl_exponent nb (if p1 < p0 then p0 else p1)) - (fl_exponent nb (if p1 < p0 then p1 else p0)))) (va_cwS 2 hts gX0_addAmounts_X0_shiftedDown rfl rfl rfl (by decide +kernel) ⟨Nat.le_of_ble_eq_true rfl, Nat.le_of_ble_eq_true rfl⟩) ⟨fun a U g mk q => q, fun U hU hW => ⟨rfl, trivial⟩⟩ rfl rfl hl.1 rfl (lv_room (Nat.le_of_ble_eq_true rfl)) dX0_addAmounts_58 ⟨Nat.zero_le _, Nat.zero_le _⟩) ?_
    refine lv_ladd hx hb dX0_addAmounts_61 ?_
    refine lv_lstore (lv' := [(10, .long ((fl_guardedDigits nb (if p1 < p0 then p0 else p1)) + (fl_shiftedDown (fl_guardedDigits nb (if p1 < p0 then p1 else p0)) ((fl_exponent nb (if p1 < p0 then p0 else p1)) - (fl_exponent nb (if p1 < p0 then p1 else p0)))))), (9, .int (fl_exponent nb (if p1 < p0 then p0 else p1))), (7, .long (if p1 < p0 then p1 else p0)), (5, .long (if p1 < p0 then p0 else p1)), (0, .ref h0), (1, .long p0), (3, .long p1)]) hx hb dX0_addAmounts_62 hl (by decide) rfl (fun ls hl => ?_)
    refine lv_lload hx hb dX0_addAmounts_64 (lv_at hl 0 rfl) ?_
    refine lv_aload_n hx hb dX0_addAmounts_66 rfl (lv_at hl 4 rfl) ?_
    refine va_get (D := (dC, dI)) (ci := 0) (v := .long (ff_leadingOne nb)) (C := RX0) (T := TX0) (N := 10) hx hb hts hin hown hK hP 0 rfl rfl 6 (by decide) (hts (.fieldLink RX0 26 "WeatherMast$Floats" "leadingOne" "J") (by decide +kernel)) (fun _ h9 => h9) rfl dX0_addAmounts_67 ?_
    refine lv_iconst (v := 4) hx hb dX0_addAmounts_70 (by decide) ?_
    refine lv_lshl (v := ((ff_leadingOne nb) <<< (Int32.toInt64 4 &&& 63))) hx hb dX0_addAmounts_71 rfl ?_
    refine pq_cut (g2 := F0 m 81 ls [.int (if ((fl_guardedDigits nb (if p1 < p0 then p0 else p1)) + (fl_shiftedDown (fl_guardedDigits nb (if p1 < p0 then p1 else p0)) ((fl_exponent nb (if p1 < p0 then p0 else p1)) - (fl_exponent nb (if p1 < p0 then p1 else p0))))) < ((ff_leadingOne nb) <<< (Int32.toInt64 4 &&& 63)) then (0 : Int32) else (1 : Int32))]) (fun K2 => ?_) ?_
    · refine pq_lcmp_lt (tgt := 80) hx hb dX0_addAmounts_72 dX0_addAmounts_73 (by decide) (fun h3 => ?_) (fun h3 => ?_)
      · refine lv_iconst (v := 0) hx hb dX0_addAmounts_80 (by decide) ?_
        exact pq_conv K2 (congrArg Value.int (if_pos h3))
      · refine lv_iconst (v := 1) hx hb dX0_addAmounts_76 (by decide) ?_
        refine lv_goto (tgt := 81) hx hb dX0_addAmounts_77 (by decide) ?_
        exact pq_conv K2 (congrArg Value.int (if_neg h3))
    refine lv_istore (lv' := [(12, .int (if ((fl_guardedDigits nb (if p1 < p0 then p0 else p1)) + (fl_shiftedDown (fl_guardedDigits nb (if p1 < p0 then p1 else p0)) ((fl_exponent nb (if p1 < p0 then p0 else p1)) - (fl_exponent nb (if p1 < p0 then p1 else p0))))) < ((ff_leadingOne nb) <<< (Int32.toInt64 4 &&& 63)) then (0 : Int32) else (1 : Int32))), (10, .long ((fl_guardedDigits nb (if p1 < p0 then p0 else p1)) + (fl_shiftedDown (fl_guardedDigits nb (if p1 < p0 then p1 else p0)) ((fl_exponent nb (if p1 < p0 then p0 else p1)) - (fl_exponent nb (if p1 < p0 then p1 else p0)))))), (9, .int (fl_exponent nb (if p1 < p0 then p0 else p1))), (7, .long (if p1 < p0 then p1 else p0)), (5, .long (if p1 < p0 then p0 else p1)), (0, .ref h0), (1, .long p0), (3, .long p1)]) hx hb dX0_addAmounts_81 hl (by decide) rfl (fun ls hl => ?_)
    refine lv_iload hx hb dX0_addAmounts_83 (lv_at hl 0 rfl) ?_
    refine lv_if_eq (tgt := 105) hx hb dX0_addAmounts_85 (by decide) (fun h4 => ?_) (fun h4 => ?_)
    · refine lv_aload_n hx hb dX0_addAmounts_105 rfl (lv_at hl 5 rfl) ?_
      refine lv_iload hx hb dX0_addAmounts_106 (lv_at hl 2 rfl) ?_
      refine lv_lload hx hb dX0_addAmounts_108 (lv_at hl 1 rfl) ?_
      refine pq_call (va_runV (C := RX0) (As := [.int (fl_exponent nb (if p1 < p0 then p0 else p1)), .long ((fl_guardedDigits nb (if p1 < p0 then p0 else p1)) + (fl_shiftedDown (fl_guardedDigits nb (if p1 < p0 then p1 else p0)) ((fl_exponent nb (if p1 < p0 then p0 else p1)) - (fl_exponent nb (if p1 < p0 then p1 else p0)))))]) (rest := []) ⟨hx, hb, hml, hown, hts⟩ (mt_X0_rounded l dC dI nb h0 (fl_exponent nb (if p1 < p0 then p0 else p1)) ((fl_guardedDigits nb (if p1 < p0 then p0 else p1)) + (fl_shiftedDown (fl_guardedDigits nb (if p1 < p0 then p1 else p0)) ((fl_exponent nb (if p1 < p0 then p0 else p1)) - (fl_exponent nb (if p1 < p0 then p1 else p0)))))) (cwV 2 hts gX0_addAmounts_X0_rounded rfl rfl rfl (by decide +kernel) ⟨Nat.le_of_ble_eq_true rfl, Nat.le_of_ble_eq_true rfl⟩) ⟨pq_blind, va_recv hK hP (ci := 0) (q0 := 0) rfl rfl, pq_pre hP hK hA⟩ rfl rfl hl.1 rfl (lv_room (Nat.le_of_ble_eq_true rfl)) dX0_addAmounts_110 ⟨Nat.zero_le _, Nat.zero_le _⟩) ?_
      exact W.lret (v := (fl_rounded nb (fl_exponent nb (if p1 < p0 then p0 else p1)) ((fl_guardedDigits nb (if p1 < p0 then p0 else p1)) + (fl_shiftedDown (fl_guardedDigits nb (if p1 < p0 then p1 else p0)) ((fl_exponent nb (if p1 < p0 then p0 else p1)) - (fl_exponent nb (if p1 < p0 then p1 else p0))))))) hx hb hr (fun t ht hW => ⟨congrArg (fun z => Outcome.returned (some (Value.long z))) (show _ = fl_addAmounts nb p0 p1 from Eq.symm (show fl_addAmounts nb p0 p1 = _ from ((if_neg h1).trans (if_pos h4)))), ht⟩) (fun q hq => absurd hq List.not_mem_nil) dX0_addAmounts_113
    · refine lv_aload_n hx hb dX0_addAmounts_88 rfl (lv_at hl 5 rfl) ?_
      refine lv_iload hx hb dX0_addAmounts_89 (lv_at hl 2 rfl) ?_
      refine lv_iconst (v := 1) hx hb dX0_addAmounts_91 (by decide) ?_
      refine lv_iadd hx hb dX0_addAmounts_92 ?_
      refine lv_lload hx hb dX0_addAmounts_93 (lv_at hl 1 rfl) ?_
      refine lv_iconst (v := 1) hx hb dX0_addAmounts_95 (by decide) ?_
      refine pq_call (va_runS (As := [.long ((fl_guardedDigits nb (if p1 < p0 then p0 else p1)) + (fl_shiftedDown (fl_guardedDigits nb (if p1 < p0 then p1 else p0)) ((fl_exponent nb (if p1 < p0 then p0 else p1)) - (fl_exponent nb (if p1 < p0 then p1 else p0))))), .int 1]) (rest := [.int ((fl_exponent nb (if p1 < p0 then p0 else p1)) + 1), .ref h0]) ⟨hx, hb, hml, hown, hts⟩ (mt_X0_shiftedDown l ((fl_guardedDigits nb (if p1 < p0 then p0 else p1)) + (fl_shiftedDown (fl_guardedDigits nb (if p1 < p0 then p1 else p0)) ((fl_exponent nb (if p1 < p0 then p0 else p1)) - (fl_exponent nb (if p1 < p0 then p1 else p0))))) 1) (va_cwS 2 hts gX0_addAmounts_X0_shiftedDown rfl rfl rfl (by decide +kernel) ⟨Nat.le_of_ble_eq_true rfl, Nat.le_of_ble_eq_true rfl⟩) ⟨fun a U g mk q => q, fun U hU hW => ⟨rfl, trivial⟩⟩ rfl rfl hl.1 rfl (lv_room (Nat.le_of_ble_eq_true rfl)) dX0_addAmounts_96 ⟨Nat.zero_le _, Nat.zero_le _⟩) ?_
      refine pq_call (va_runV (C := RX0) (As := [.int ((fl_exponent nb (if p1 < p0 then p0 else p1)) + 1), .long (fl_shiftedDown ((fl_guardedDigits nb (if p1 < p0 then p0 else p1)) + (fl_shiftedDown (fl_guardedDigits nb (if p1 < p0 then p1 else p0)) ((fl_exponent nb (if p1 < p0 then p0 else p1)) - (fl_exponent nb (if p1 < p0 then p1 else p0))))) 1)]) (rest := []) ⟨hx, hb, hml, hown, hts⟩ (mt_X0_rounded l dC dI nb h0 ((fl_exponent nb (if p1 < p0 then p0 else p1)) + 1) (fl_shiftedDown ((fl_guardedDigits nb (if p1 < p0 then p0 else p1)) + (fl_shiftedDown (fl_guardedDigits nb (if p1 < p0 then p1 else p0)) ((fl_exponent nb (if p1 < p0 then p0 else p1)) - (fl_exponent nb (if p1 < p0 then p1 else p0))))) 1)) (cwV 2 hts gX0_addAmounts_X0_rounded rfl rfl rfl (by decide +kernel) ⟨Nat.le_of_ble_eq_true rfl, Nat.le_of_ble_eq_true rfl⟩) ⟨pq_blind, va_recv hK hP (ci := 0) (q0 := 0) rfl rfl, pq_pre hP hK hA⟩ rfl rfl hl.1 rfl (lv_room (Nat.le_of_ble_eq_true rfl)) dX0_addAmounts_99 ⟨Nat.zero_le _, Nat.zero_le _⟩) ?_
      refine lv_goto (tgt := 113) hx hb dX0_addAmounts_102 (by decide) ?_
      exact W.lret (v := (fl_rounded nb ((fl_exponent nb (if p1 < p0 then p0 else p1)) + 1) (fl_shiftedDown ((fl_guardedDigits nb (if p1 < p0 then p0 else p1)) + (fl_shiftedDown (fl_guardedDigits nb (if p1 < p0 then p1 else p0)) ((fl_exponent nb (if p1 < p0 then p0 else p1)) - (fl_exponent nb (if p1 < p0 then p1 else p0))))) 1))) hx hb hr (fun t ht hW => ⟨congrArg (fun z => Outcome.returned (some (Value.long z))) (show _ = fl_addAmounts nb p0 p1 from Eq.symm (show fl_addAmounts nb p0 p1 = _ from ((if_neg h1).trans (if_neg h4)))), ht⟩) (fun q hq => absurd hq List.not_mem_nil) dX0_addAmounts_113
  · refine lv_aload_n hx hb dX0_addAmounts_24 rfl (lv_at hl 2 rfl) ?_
    refine va_get (D := (dC, dI)) (ci := 0) (v := .long (ff_infinity nb)) (C := RX0) (T := TX0) (N := 10) hx hb hts hin hown hK hP 0 rfl rfl 9 (by decide) (hts (.fieldLink RX0 36 "WeatherMast$Floats" "infinity" "J") (by decide +kernel)) (fun _ h9 => h9) rfl dX0_addAmounts_25 ?_
    exact W.lret (v := (ff_infinity nb)) hx hb hr (fun t ht hW => ⟨congrArg (fun z => Outcome.returned (some (Value.long z))) (show _ = fl_addAmounts nb p0 p1 from Eq.symm (show fl_addAmounts nb p0 p1 = _ from (if_pos h1))), ht⟩) (fun q hq => absurd hq List.not_mem_nil) dX0_addAmounts_28
def fl_differenceOfAmounts (nb : Bool) (p0 : Int64) (p1 : Int64) : Int64 := if (if p1 < p0 then p0 else p1) = (ff_infinity nb) then (ff_infinity nb) else ((fl_rounded nb ((fl_exponent nb (if p1 < p0 then p0 else p1)) - (if ((fl_exponent nb (if p1 < p0 then p0 else p1)) - 1) < ((jd_nlzL ((fl_guardedDigits nb (if p1 < p0 then p0 else p1)) - (fl_shiftedDown (fl_guardedDigits nb (if p1 < p0 then p1 else p0)) ((fl_exponent nb (if p1 < p0 then p0 else p1)) - (fl_exponent nb (if p1 < p0 then p1 else p0)))))) - (jd_nlzL ((ff_leadingOne nb) <<< (Int32.toInt64 3 &&& 63)))) then ((fl_exponent nb (if p1 < p0 then p0 else p1)) - 1) else ((jd_nlzL ((fl_guardedDigits nb (if p1 < p0 then p0 else p1)) - (fl_shiftedDown (fl_guardedDigits nb (if p1 < p0 then p1 else p0)) ((fl_exponent nb (if p1 < p0 then p0 else p1)) - (fl_exponent nb (if p1 < p0 then p1 else p0)))))) - (jd_nlzL ((ff_leadingOne nb) <<< (Int32.toInt64 3 &&& 63)))))) (((fl_guardedDigits nb (if p1 < p0 then p0 else p1)) - (fl_shiftedDown (fl_guardedDigits nb (if p1 < p0 then p1 else p0)) ((fl_exponent nb (if p1 < p0 then p0 else p1)) - (fl_exponent nb (if p1 < p0 then p1 else p0))))) <<< (Int32.toInt64 (if ((fl_exponent nb (if p1 < p0 then p0 else p1)) - 1) < ((jd_nlzL ((fl_guardedDigits nb (if p1 < p0 then p0 else p1)) - (fl_shiftedDown (fl_guardedDigits nb (if p1 < p0 then p1 else p0)) ((fl_exponent nb (if p1 < p0 then p0 else p1)) - (fl_exponent nb (if p1 < p0 then p1 else p0)))))) - (jd_nlzL ((ff_leadingOne nb) <<< (Int32.toInt64 3 &&& 63)))) then ((fl_exponent nb (if p1 < p0 then p0 else p1)) - 1) else ((jd_nlzL ((fl_guardedDigits nb (if p1 < p0 then p0 else p1)) - (fl_shiftedDown (fl_guardedDigits nb (if p1 < p0 then p1 else p0)) ((fl_exponent nb (if p1 < p0 then p0 else p1)) - (fl_exponent nb (if p1 < p0 then p1 else p0)))))) - (jd_nlzL ((ff_leadingOne nb) <<< (Int32.toInt64 3 &&& 63))))) &&& 63))))
set_option maxHeartbeats 4000000 in
set_option maxRecDepth 100000 in
theorem mt_X0_differenceOfAmounts (l : Launch) (dC : Nat → ClassId) (dI : Nat → Nat → Nat) (nb : Bool) (h0 : Nat) (p0 : Int64) (p1 : Int64) : Met l yX0_differenceOfAmounts wsX0_differenceOfAmounts ({ frames := 2, cells := 0, slots := 0, locals := 44 }) (pq_Pc (dC, dI) h0 (0, fl_F nb) [.ref h0, .long p0, .long p1]) (pq_V (.long (fl_differenceOfAmounts nb p0 p1))) 0 0 (fun _ => False) := by
  refine Met.ofW (cc := cX0_differenceOfAmounts) (maxL := 14) (ret := (some .long)) (by decide) rfl ?_
  intro p e s m args below meth c s₁ B hml hv
  obtain ⟨rfl, hP, hK, hA⟩ := hv
  have hx := B.exec
  have hb := B.bytes
  have hr := B.returns
  have hts := atoms_spec (ws := wsX0_differenceOfAmounts) B.pre
  have hown : s.vm.findClass RX0 = some m.cls := findClass_of_methodNamed B.named
  have hlocks := B.notSynchronized
  have hin : ∀ w ∈ wsX00, w ∈ wsX0_differenceOfAmounts := by decide +kernel
  have hl := lv_entry ([.ref h0, .long p0, .long p1]) (n := 14) (Nat.le_of_ble_eq_true rfl)
  rw [lg_entry_eq]
  generalize (lg_sl ([.ref h0, .long p0, .long p1]) ++ List.replicate (14 - (lg_sl ([.ref h0, .long p0, .long p1])).length) Slot.unset).toArray = ls at hl ⊢
  have hl : lv_has ls 14 [(0, .ref h0), (1, .long p0), (3, .long p1)] := hl
  refine lv_lload_n hx hb dX0_differenceOfAmounts_0 rfl (lv_at hl 1 rfl) ?_
  refine lv_lload_n hx hb dX0_differenceOfAmounts_1 rfl (lv_at hl 2 rfl) ?_
  refine va_mmax_long hx hb (hml.trans hl.1.symm) hown (hts (.methodLink RX0 48 Lib.MathLoose.max_long.x) (by decide +kernel)) (hts (.static Lib.MathLoose.max_long.x) (by decide +kernel)) (hts (.initialized "java/lang/Math") (by decide +kernel)) (hts (.code Lib.MathLoose.max_long.x Lib.MathLoose.max_long.code 4 (some .long)) (by decide +kernel)) (Nat.le_of_ble_eq_true rfl) (Nat.le_of_ble_eq_true rfl) (Nat.zero_le _) (Nat.zero_le _) dX0_differenceOfAmounts_2 ?_
  refine lv_lstore (lv' := [(5, .long (if p1 < p0 then p0 else p1)), (0, .ref h0), (1, .long p0), (3, .long p1)]) hx hb dX0_differenceOfAmounts_5 hl (by decide) rfl (fun ls hl => ?_)
  refine lv_lload_n hx hb dX0_differenceOfAmounts_7 rfl (lv_at hl 2 rfl) ?_
  refine lv_lload_n hx hb dX0_differenceOfAmounts_8 rfl (lv_at hl 3 rfl) ?_
  refine va_mmin_long hx hb (hml.trans hl.1.symm) hown (hts (.methodLink RX0 54 Lib.MathLoose.min_long.x) (by decide +kernel)) (hts (.static Lib.MathLoose.min_long.x) (by decide +kernel)) (hts (.initialized "java/lang/Math") (by decide +kernel)) (hts (.code Lib.MathLoose.min_long.x Lib.MathLoose.min_long.code 4 (some .long)) (by decide +kernel)) (Nat.le_of_ble_eq_true rfl) (Nat.le_of_ble_eq_true rfl) (Nat.zero_le _) (Nat.zero_le _) dX0_differenceOfAmounts_9 ?_
  refine lv_lstore (lv' := [(7, .long (if p1 < p0 then p1 else p0)), (5, .long (if p1 < p0 then p0 else p1)), (0, .ref h0), (1, .long p0), (3, .long p1)]) hx hb dX0_differenceOfAmounts_12 hl (by decide) rfl (fun ls hl => ?_)
  refine lv_lload hx hb dX0_differenceOfAmounts_14 (lv_at hl 1 rfl) ?_
  refine lv_aload_n hx hb dX0_differenceOfAmounts_16 rfl (lv_at hl 2 rfl) ?_
  refine va_get (D := (dC, dI)) (ci := 0) (v := .long (ff_infinity nb)) (C := RX0) (T := TX0) (N := 10) hx hb hts hin hown hK hP 0 rfl rfl 9 (by decide) (hts (.fieldLink RX0 36 "WeatherMast$Floats" "infinity" "J") (by decide +kernel)) (fun _ h9 => h9) rfl dX0_differenceOfAmounts_17 ?_
  refine pq_lcmp_ne (tgt := 29) hx hb dX0_differenceOfAmounts_20 dX0_differenceOfAmounts_21 (by decide) (fun h1 => ?_) (fun h1 => ?_)
  · refine lv_aload_n hx hb dX0_differenceOfAmounts_29 rfl (lv_at hl 2 rfl) ?_
    refine lv_lload hx hb dX0_differenceOfAmounts_30 (lv_at hl 1 rfl) ?_
    refine pq_call (va_runV (C := RX0) (As := [.long (if p1 < p0 then p0 else p1)]) (rest := []) ⟨hx, hb, hml, hown, hts⟩ (mt_X0_exponent l dC dI nb h0 (if p1 < p0 then p0 else p1)) (cwV 1 hts gX0_differenceOfAmounts_X0_exponent rfl rfl rfl (by decide +kernel) ⟨Nat.le_of_ble_eq_true rfl, Nat.le_of_ble_eq_true rfl⟩) ⟨pq_blind, va_recv hK hP (ci := 0) (q0 := 0) rfl rfl, pq_pre hP hK hA⟩ rfl rfl hl.1 rfl (lv_room (Nat.le_of_ble_eq_true rfl)) dX0_differenceOfAmounts_32 ⟨Nat.zero_le _, Nat.zero_le _⟩) ?_
    refine lv_istore (lv' := [(9, .int (fl_exponent nb (if p1 < p0 then p0 else p1))), (7, .long (if p1 < p0 then p1 else p0)), (5, .long (if p1 < p0 then p0 else p1)), (0, .ref h0), (1, .long p0), (3, .long p1)]) hx hb dX0_differenceOfAmounts_35 hl (by decide) rfl (fun ls hl => ?_)
    refine lv_aload_n hx hb dX0_differenceOfAmounts_37 rfl (lv_at hl 3 rfl) ?_
    refine lv_lload hx hb dX0_differenceOfAmounts_38 (lv_at hl 2 rfl) ?_
    refine pq_call (va_runV (C := RX0) (As := [.long (if p1 < p0 then p0 else p1)]) (rest := []) ⟨hx, hb, hml, hown, hts⟩ (mt_X0_guardedDigits l dC dI nb h0 (if p1 < p0 then p0 else p1)) (cwV 1 hts gX0_differenceOfAmounts_X0_guardedDigits rfl rfl rfl (by decide +kernel) ⟨Nat.le_of_ble_eq_true rfl, Nat.le_of_ble_eq_true rfl⟩) ⟨pq_blind, va_recv hK hP (ci := 0) (q0 := 0) rfl rfl, pq_pre hP hK hA⟩ rfl rfl hl.1 rfl (lv_room (Nat.le_of_ble_eq_true rfl)) dX0_differenceOfAmounts_40 ⟨Nat.zero_le _, Nat.zero_le _⟩) ?_
    refine lv_aload_n hx hb dX0_differenceOfAmounts_43 rfl (lv_at hl 3 rfl) ?_
    refine lv_lload hx hb dX0_differenceOfAmounts_44 (lv_at hl 1 rfl) ?_
    refine pq_call (va_runV (C := RX0) (As := [.long (if p1 < p0 then p1 else p0)]) (rest := [.long (fl_guardedDigits nb (if p1 < p0 then p0 else p1))]) ⟨hx, hb, hml, hown, hts⟩ (mt_X0_guardedDigits l dC dI nb h0 (if p1 < p0 then p1 else p0)) (cwV 1 hts gX0_differenceOfAmounts_X0_guardedDigits rfl rfl rfl (by decide +kernel) ⟨Nat.le_of_ble_eq_true rfl, Nat.le_of_ble_eq_true rfl⟩) ⟨pq_blind, va_recv hK hP (ci := 0) (q0 := 0) rfl rfl, pq_pre hP hK hA⟩ rfl rfl hl.1 rfl (lv_room (Nat.le_of_ble_eq_true rfl)) dX0_differenceOfAmounts_46 ⟨Nat.zero_le _, Nat.zero_le _⟩) ?_
    refine lv_iload hx hb dX0_differenceOfAmounts_49 (lv_at hl 0 rfl) ?_
    refine lv_aload_n hx hb dX0_differenceOfAmounts_51 rfl (lv_at hl 3 rfl) ?_
    refine lv_lload hx hb dX0_differenceOfAmounts_52 (lv_at hl 1 rfl) ?_
    refine pq_call (va_runV (C := RX0) (As := [.long (if p1 < p0 then p1 else p0)]) (rest := [.int (fl_exponent nb (if p1 < p0 then p0 else p1)), .long (fl_guardedDigits nb (if p1 < p0 then p1 else p0)), .long (fl_guardedDigits nb (if p1 < p0 then p0 else p1))]) ⟨hx, hb, hml, hown, hts⟩ (mt_X0_exponent l dC dI nb h0 (if p1 < p0 then p1 else p0)) (cwV 1 hts gX0_differenceOfAmounts_X0_exponent rfl rfl rfl (by decide +kernel) ⟨Nat.le_of_ble_eq_true rfl, Nat.le_of_ble_eq_true rfl⟩) ⟨pq_blind, va_recv hK hP (ci := 0) (q0 := 0) rfl rfl, pq_pre hP hK hA⟩ rfl rfl hl.1 rfl (lv_room (Nat.le_of_ble_eq_true rfl)) dX0_differenceOfAmounts_54 ⟨Nat.zero_le _, Nat.zero_le _⟩) ?_
    refine lv_isub hx hb dX0_differenceOfAmounts_57 ?_
    refine pq_call (va_runS (As := [.long (fl_guardedDigits nb (if p1 < p0 then p1 else p0)), .int ((fl_exponent nb (if p1 < p0 then p0 else p1)) - (fl_exponent nb (if p1 < p0 then p1 else p0)))]) (rest := [.long (fl_guardedDigits nb (if p1 < p0 then p0 else p1))]) ⟨hx, hb, hml, hown, hts⟩ (mt_X0_shiftedDown l (fl_guardedDigits nb (if p1 < p0 then p1 else p0)) ((fl_exponent nb (if p1 < p0 then p0 else p1)) - (fl_exponent nb (if p1 < p0 then p1 else p0)))) (va_cwS 2 hts gX0_differenceOfAmounts_X0_shiftedDown rfl rfl rfl (by decide +kernel) ⟨Nat.le_of_ble_eq_true rfl, Nat.le_of_ble_eq_true rfl⟩) ⟨fun a U g mk q => q, fun U hU hW => ⟨rfl, trivial⟩⟩ rfl rfl hl.1 rfl (lv_room (Nat.le_of_ble_eq_true rfl)) dX0_differenceOfAmounts_58 ⟨Nat.zero_le _, Nat.zero_le _⟩) ?_
    refine lv_lsub hx hb dX0_differenceOfAmounts_61 ?_
    refine lv_lstore (lv' := [(10, .long ((fl_guardedDigits nb (if p1 < p0 then p0 else p1)) - (fl_shiftedDown (fl_guardedDigits nb (if p1 < p0 then p1 else p0)) ((fl_exponent nb (if p1 < p0 then p0 else p1)) - (fl_exponent nb (if p1 < p0 then p1 else p0)))))), (9, .int (fl_exponent nb (if p1 < p0 then p0 else p1))), (7, .long (if p1 < p0 then p1 else p0)), (5, .long (if p1 < p0 then p0 else p1)), (0, .ref h0), (1, .long p0), (3, .long p1)]) hx hb dX0_differenceOfAmounts_62 hl (by decide) rfl (fun ls hl => ?_)
    refine lv_lload hx hb dX0_differenceOfAmounts_64 (lv_at hl 0 rfl) ?_
    refine pq_call (va_runS (As := [.long ((fl_guardedDigits nb (if p1 < p0 then p0 else p1)) - (fl_shiftedDown (fl_guardedDigits nb (if p1 < p0 then p1 else p0)) ((fl_exponent nb (if p1 < p0 then p0 else p1)) - (fl_exponent nb (if p1 < p0 then p1 else p0)))))]) (rest := []) ⟨hx, hb, hml, hown, hts⟩ (mt_J13_numberOfLeadingZeros_95d88 l ((fl_guardedDigits nb (if p1 < p0 then p0 else p1)) - (fl_shiftedDown (fl_guardedDigits nb (if p1 < p0 then p1 else p0)) ((fl_exponent nb (if p1 < p0 then p0 else p1)) - (fl_exponent nb (if p1 < p0 then p1 else p0)))))) (va_cwS 1 hts gX0_differenceOfAmounts_J13_numberOfLeadingZeros_95d88 rfl rfl rfl (by decide +kernel) ⟨Nat.le_of_ble_eq_true rfl, Nat.le_of_ble_eq_true rfl⟩) ⟨fun a U g mk q => q, fun U hU hW => ⟨rfl, trivial⟩⟩ rfl rfl hl.1 rfl (lv_room (Nat.le_of_ble_eq_true rfl)) dX0_differenceOfAmounts_66 ⟨Nat.zero_le _, Nat.zero_le _⟩) ?_
    refine lv_aload_n hx hb dX0_differenceOfAmounts_69 rfl (lv_at hl 4 rfl) ?_
    refine va_get (D := (dC, dI)) (ci := 0) (v := .long (ff_leadingOne nb)) (C := RX0) (T := TX0) (N := 10) hx hb hts hin hown hK hP 0 rfl rfl 6 (by decide) (hts (.fieldLink RX0 26 "WeatherMast$Floats" "leadingOne" "J") (by decide +kernel)) (fun _ h9 => h9) rfl dX0_differenceOfAmounts_70 ?_
    refine lv_iconst (v := 3) hx hb dX0_differenceOfAmounts_73 (by decide) ?_
    refine lv_lshl (v := ((ff_leadingOne nb) <<< (Int32.toInt64 3 &&& 63))) hx hb dX0_differenceOfAmounts_74 rfl ?_
    refine pq_call (va_runS (As := [.long ((ff_leadingOne nb) <<< (Int32.toInt64 3 &&& 63))]) (rest := [.int (jd_nlzL ((fl_guardedDigits nb (if p1 < p0 then p0 else p1)) - (fl_shiftedDown (fl_guardedDigits nb (if p1 < p0 then p1 else p0)) ((fl_exponent nb (if p1 < p0 then p0 else p1)) - (fl_exponent nb (if p1 < p0 then p1 else p0))))))]) ⟨hx, hb, hml, hown, hts⟩ (mt_J13_numberOfLeadingZeros_95d88 l ((ff_leadingOne nb) <<< (Int32.toInt64 3 &&& 63))) (va_cwS 1 hts gX0_differenceOfAmounts_J13_numberOfLeadingZeros_95d88 rfl rfl rfl (by decide +kernel) ⟨Nat.le_of_ble_eq_true rfl, Nat.le_of_ble_eq_true rfl⟩) ⟨fun a U g mk q => q, fun U hU hW => ⟨rfl, trivial⟩⟩ rfl rfl hl.1 rfl (lv_room (Nat.le_of_ble_eq_true rfl)) dX0_differenceOfAmounts_75 ⟨Nat.zero_le _, Nat.zero_le _⟩) ?_
    refine lv_isub hx hb dX0_differenceOfAmounts_78 ?_
    refine lv_istore (lv' := [(12, .int ((jd_nlzL ((fl_guardedDigits nb (if p1 < p0 then p0 else p1)) - (fl_shiftedDown (fl_guardedDigits nb (if p1 < p0 then p1 else p0)) ((fl_exponent nb (if p1 < p0 then p0 else p1)) - (fl_exponent nb (if p1 < p0 then p1 else p0)))))) - (jd_nlzL ((ff_leadingOne nb) <<< (Int32.toInt64 3 &&& 63))))), (10, .long ((fl_guardedDigits nb (if p1 < p0 then p0 else p1)) - (fl_shiftedDown (fl_guardedDigits nb (if p1 < p0 then p1 else p0)) ((fl_exponent nb (if p1 < p0 then p0 else p1)) - (fl_exponent nb (if p1 < p0 then p1 else p0)))))), (9, .int (fl_exponent nb (if p1 < p0 then p0 else p1))), (7, .long (if p1 < p0 then p1 else p0)), (5, .long (if p1 < p0 then p0 else p1)), (0, .ref h0), (1, .long p0), (3, .long p1)]) hx hb dX0_differenceOfAmounts_79 hl (by decide) rfl (fun ls hl => ?_)
    refine lv_iload hx hb dX0_differenceOfAmounts_81 (lv_at hl 0 rfl) ?_
    refine lv_iload hx hb dX0_differenceOfAmounts_83 (lv_at hl 2 rfl) ?_
    refine lv_iconst (v := 1) hx hb dX0_differenceOfAmounts_85 (by decide) ?_
    refine lv_isub hx hb dX0_differenceOfAmounts_86 ?_
    refine va_mmin hx hb (hml.trans hl.1.symm) hown (hts (.methodLink RX0 86 Lib.Math.min.name) (by decide +kernel)) (hts (.static Lib.Math.min.name) (by decide +kernel)) (hts (.initialized "java/lang/Math") (by decide +kernel)) (hts (.code Lib.Math.min.name Lib.Math.min.code 2 (some .int)) (by decide +kernel)) (Nat.le_of_ble_eq_true rfl) (Nat.le_of_ble_eq_true rfl) (Nat.zero_le _) (Nat.zero_le _) dX0_differenceOfAmounts_87 ?_
    refine lv_istore (lv' := [(13, .int (if ((fl_exponent nb (if p1 < p0 then p0 else p1)) - 1) < ((jd_nlzL ((fl_guardedDigits nb (if p1 < p0 then p0 else p1)) - (fl_shiftedDown (fl_guardedDigits nb (if p1 < p0 then p1 else p0)) ((fl_exponent nb (if p1 < p0 then p0 else p1)) - (fl_exponent nb (if p1 < p0 then p1 else p0)))))) - (jd_nlzL ((ff_leadingOne nb) <<< (Int32.toInt64 3 &&& 63)))) then ((fl_exponent nb (if p1 < p0 then p0 else p1)) - 1) else ((jd_nlzL ((fl_guardedDigits nb (if p1 < p0 then p0 else p1)) - (fl_shiftedDown (fl_guardedDigits nb (if p1 < p0 then p1 else p0)) ((fl_exponent nb (if p1 < p0 then p0 else p1)) - (fl_exponent nb (if p1 < p0 then p1 else p0)))))) - (jd_nlzL ((ff_leadingOne nb) <<< (Int32.toInt64 3 &&& 63)))))), (12, .int ((jd_nlzL ((fl_guardedDigits nb (if p1 < p0 then p0 else p1)) - (fl_shiftedDown (fl_guardedDigits nb (if p1 < p0 then p1 else p0)) ((fl_exponent nb (if p1 < p0 then p0 else p1)) - (fl_exponent nb (if p1 < p0 then p1 else p0)))))) - (jd_nlzL ((ff_leadingOne nb) <<< (Int32.toInt64 3 &&& 63))))), (10, .long ((fl_guardedDigits nb (if p1 < p0 then p0 else p1)) - (fl_shiftedDown (fl_guardedDigits nb (if p1 < p0 then p1 else p0)) ((fl_exponent nb (if p1 < p0 then p0 else p1)) - (fl_exponent nb (if p1 < p0 then p1 else p0)))))), (9, .int (fl_exponent nb (if p1 < p0 then p0 else p1))), (7, .long (if p1 < p0 then p1 else p0)), (5, .long (if p1 < p0 then p0 else p1)), (0, .ref h0), (1, .long p0), (3, .long p1)]) hx hb dX0_differenceOfAmounts_90 hl (by decide) rfl (fun ls hl => ?_)
    refine lv_aload_n hx hb dX0_differenceOfAmounts_92 rfl (lv_at hl 6 rfl) ?_
    refine lv_iload hx hb dX0_differenceOfAmounts_93 (lv_at hl 3 rfl) ?_
    refine lv_iload hx hb dX0_differenceOfAmounts_95 (lv_at hl 0 rfl) ?_
    refine lv_isub hx hb dX0_differenceOfAmounts_97 ?_
    refine lv_lload hx hb dX0_differenceOfAmounts_98 (lv_at hl 2 rfl) ?_
    refine lv_iload hx hb dX0_differenceOfAmounts_100 (lv_at hl 0 rfl) ?_
    refine lv_lshl (v := (((fl_guardedDigits nb (if p1 < p0 then p0 else p1)) - (fl_shiftedDown (fl_guardedDigits nb (if p1 < p0 then p1 else p0)) ((fl_exponent nb (if p1 < p0 then p0 else p1)) - (fl_exponent nb (if p1 < p0 then p1 else p0))))) <<< (Int32.toInt64 (if ((fl_exponent nb (if p1 < p0 then p0 else p1)) - 1) < ((jd_nlzL ((fl_guardedDigits nb (if p1 < p0 then p0 else p1)) - (fl_shiftedDown (fl_guardedDigits nb (if p1 < p0 then p1 else p0)) ((fl_exponent nb (if p1 < p0 then p0 else p1)) - (fl_exponent nb (if p1 < p0 then p1 else p0)))))) - (jd_nlzL ((ff_leadingOne nb) <<< (Int32.toInt64 3 &&& 63)))) then ((fl_exponent nb (if p1 < p0 then p0 else p1)) - 1) else ((jd_nlzL ((fl_guardedDigits nb (if p1 < p0 then p0 else p1)) - (fl_shiftedDown (fl_guardedDigits nb (if p1 < p0 then p1 else p0)) ((fl_exponent nb (if p1 < p0 then p0 else p1)) - (fl_exponent nb (if p1 < p0 then p1 else p0)))))) - (jd_nlzL ((ff_leadingOne nb) <<< (Int32.toInt64 3 &&& 63))))) &&& 63))) hx hb dX0_differenceOfAmounts_102 rfl ?_
    refine pq_call (va_runV (C := RX0) (As := [.int ((fl_exponent nb (if p1 < p0 then p0 else p1)) - (if ((fl_exponent nb (if p1 < p0 then p0 else p1)) - 1) < ((jd_nlzL ((fl_guardedDigits nb (if p1 < p0 then p0 else p1)) - (fl_shiftedDown (fl_guardedDigits nb (if p1 < p0 then p1 else p0)) ((fl_exponent nb (if p1 < p0 then p0 else p1)) - (fl_exponent nb (if p1 < p0 then p1 else p0)))))) - (jd_nlzL ((ff_leadingOne nb) <<< (Int32.toInt64 3 &&& 63)))) then ((fl_exponent nb (if p1 < p0 then p0 else p1)) - 1) else ((jd_nlzL ((fl_guardedDigits nb (if p1 < p0 then p0 else p1)) - (fl_shiftedDown (fl_guardedDigits nb (if p1 < p0 then p1 else p0)) ((fl_exponent nb (if p1 < p0 then p0 else p1)) - (fl_exponent nb (if p1 < p0 then p1 else p0)))))) - (jd_nlzL ((ff_leadingOne nb) <<< (Int32.toInt64 3 &&& 63)))))), .long (((fl_guardedDigits nb (if p1 < p0 then p0 else p1)) - (fl_shiftedDown (fl_guardedDigits nb (if p1 < p0 then p1 else p0)) ((fl_exponent nb (if p1 < p0 then p0 else p1)) - (fl_exponent nb (if p1 < p0 then p1 else p0))))) <<< (Int32.toInt64 (if ((fl_exponent nb (if p1 < p0 then p0 else p1)) - 1) < ((jd_nlzL ((fl_guardedDigits nb (if p1 < p0 then p0 else p1)) - (fl_shiftedDown (fl_guardedDigits nb (if p1 < p0 then p1 else p0)) ((fl_exponent nb (if p1 < p0 then p0 else p1)) - (fl_exponent nb (if p1 < p0 then p1 else p0)))))) - (jd_nlzL ((ff_leadingOne nb) <<< (Int32.toInt64 3 &&& 63)))) then ((fl_exponent nb (if p1 < p0 then p0 else p1)) - 1) else ((jd_nlzL ((fl_guardedDigits nb (if p1 < p0 then p0 else p1)) - (fl_shiftedDown (fl_guardedDigits nb (if p1 < p0 then p1 else p0)) ((fl_exponent nb (if p1 < p0 then p0 else p1)) - (fl_exponent nb (if p1 < p0 then p1 else p0)))))) - (jd_nlzL ((ff_leadingOne nb) <<< (Int32.toInt64 3 &&& 63))))) &&& 63))]) (rest := []) ⟨hx, hb, hml, hown, hts⟩ (mt_X0_rounded l dC dI nb h0 ((fl_exponent nb (if p1 < p0 then p0 else p1)) - (if ((fl_exponent nb (if p1 < p0 then p0 else p1)) - 1) < ((jd_nlzL ((fl_guardedDigits nb (if p1 < p0 then p0 else p1)) - (fl_shiftedDown (fl_guardedDigits nb (if p1 < p0 then p1 else p0)) ((fl_exponent nb (if p1 < p0 then p0 else p1)) - (fl_exponent nb (if p1 < p0 then p1 else p0)))))) - (jd_nlzL ((ff_leadingOne nb) <<< (Int32.toInt64 3 &&& 63)))) then ((fl_exponent nb (if p1 < p0 then p0 else p1)) - 1) else ((jd_nlzL ((fl_guardedDigits nb (if p1 < p0 then p0 else p1)) - (fl_shiftedDown (fl_guardedDigits nb (if p1 < p0 then p1 else p0)) ((fl_exponent nb (if p1 < p0 then p0 else p1)) - (fl_exponent nb (if p1 < p0 then p1 else p0)))))) - (jd_nlzL ((ff_leadingOne nb) <<< (Int32.toInt64 3 &&& 63)))))) (((fl_guardedDigits nb (if p1 < p0 then p0 else p1)) - (fl_shiftedDown (fl_guardedDigits nb (if p1 < p0 then p1 else p0)) ((fl_exponent nb (if p1 < p0 then p0 else p1)) - (fl_exponent nb (if p1 < p0 then p1 else p0))))) <<< (Int32.toInt64 (if ((fl_exponent nb (if p1 < p0 then p0 else p1)) - 1) < ((jd_nlzL ((fl_guardedDigits nb (if p1 < p0 then p0 else p1)) - (fl_shiftedDown (fl_guardedDigits nb (if p1 < p0 then p1 else p0)) ((fl_exponent nb (if p1 < p0 then p0 else p1)) - (fl_exponent nb (if p1 < p0 then p1 else p0)))))) - (jd_nlzL ((ff_leadingOne nb) <<< (Int32.toInt64 3 &&& 63)))) then ((fl_exponent nb (if p1 < p0 then p0 else p1)) - 1) else ((jd_nlzL ((fl_guardedDigits nb (if p1 < p0 then p0 else p1)) - (fl_shiftedDown (fl_guardedDigits nb (if p1 < p0 then p1 else p0)) ((fl_exponent nb (if p1 < p0 then p0 else p1)) - (fl_exponent nb (if p1 < p0 then p1 else p0)))))) - (jd_nlzL ((ff_leadingOne nb) <<< (Int32.toInt64 3 &&& 63))))) &&& 63))) (cwV 2 hts gX0_differenceOfAmounts_X0_rounded rfl rfl rfl (by decide +kernel) ⟨Nat.le_of_ble_eq_true rfl, Nat.le_of_ble_eq_true rfl⟩) ⟨pq_blind, va_recv hK hP (ci := 0) (q0 := 0) rfl rfl, pq_pre hP hK hA⟩ rfl rfl hl.1 rfl (lv_room (Nat.le_of_ble_eq_true rfl)) dX0_differenceOfAmounts_103 ⟨Nat.zero_le _, Nat.zero_le _⟩) ?_
    exact W.lret (v := (fl_rounded nb ((fl_exponent nb (if p1 < p0 then p0 else p1)) - (if ((fl_exponent nb (if p1 < p0 then p0 else p1)) - 1) < ((jd_nlzL ((fl_guardedDigits nb (if p1 < p0 then p0 else p1)) - (fl_shiftedDown (fl_guardedDigits nb (if p1 < p0 then p1 else p0)) ((fl_exponent nb (if p1 < p0 then p0 else p1)) - (fl_exponent nb (if p1 < p0 then p1 else p0)))))) - (jd_nlzL ((ff_leadingOne nb) <<< (Int32.toInt64 3 &&& 63)))) then ((fl_exponent nb (if p1 < p0 then p0 else p1)) - 1) else ((jd_nlzL ((fl_guardedDigits nb (if p1 < p0 then p0 else p1)) - (fl_shiftedDown (fl_guardedDigits nb (if p1 < p0 then p1 else p0)) ((fl_exponent nb (if p1 < p0 then p0 else p1)) - (fl_exponent nb (if p1 < p0 then p1 else p0)))))) - (jd_nlzL ((ff_leadingOne nb) <<< (Int32.toInt64 3 &&& 63)))))) (((fl_guardedDigits nb (if p1 < p0 then p0 else p1)) - (fl_shiftedDown (fl_guardedDigits nb (if p1 < p0 then p1 else p0)) ((fl_exponent nb (if p1 < p0 then p0 else p1)) - (fl_exponent nb (if p1 < p0 then p1 else p0))))) <<< (Int32.toInt64 (if ((fl_exponent nb (if p1 < p0 then p0 else p1)) - 1) < ((jd_nlzL ((fl_guardedDigits nb (if p1 < p0 then p0 else p1)) - (fl_shiftedDown (fl_guardedDigits nb (if p1 < p0 then p1 else p0)) ((fl_exponent nb (if p1 < p0 then p0 else p1)) - (fl_exponent nb (if p1 < p0 then p1 else p0)))))) - (jd_nlzL ((ff_leadingOne nb) <<< (Int32.toInt64 3 &&& 63)))) then ((fl_exponent nb (if p1 < p0 then p0 else p1)) - 1) else ((jd_nlzL ((fl_guardedDigits nb (if p1 < p0 then p0 else p1)) - (fl_shiftedDown (fl_guardedDigits nb (if p1 < p0 then p1 else p0)) ((fl_exponent nb (if p1 < p0 then p0 else p1)) - (fl_exponent nb (if p1 < p0 then p1 else p0)))))) - (jd_nlzL ((ff_leadingOne nb) <<< (Int32.toInt64 3 &&& 63))))) &&& 63)))) hx hb hr (fun t ht hW => ⟨congrArg (fun z => Outcome.returned (some (Value.long z))) (show _ = fl_differenceOfAmounts nb p0 p1 from Eq.symm (show fl_differenceOfAmounts nb p0 p1 = _ from (if_neg h1))), ht⟩) (fun q hq => absurd hq List.not_mem_nil) dX0_differenceOfAmounts_106
  · refine lv_aload_n hx hb dX0_differenceOfAmounts_24 rfl (lv_at hl 2 rfl) ?_
    refine va_get (D := (dC, dI)) (ci := 0) (v := .long (ff_infinity nb)) (C := RX0) (T := TX0) (N := 10) hx hb hts hin hown hK hP 0 rfl rfl 9 (by decide) (hts (.fieldLink RX0 36 "WeatherMast$Floats" "infinity" "J") (by decide +kernel)) (fun _ h9 => h9) rfl dX0_differenceOfAmounts_25 ?_
    exact W.lret (v := (ff_infinity nb)) hx hb hr (fun t ht hW => ⟨congrArg (fun z => Outcome.returned (some (Value.long z))) (show _ = fl_differenceOfAmounts nb p0 p1 from Eq.symm (show fl_differenceOfAmounts nb p0 p1 = _ from (if_pos h1))), ht⟩) (fun q hq => absurd hq List.not_mem_nil) dX0_differenceOfAmounts_28
def fl_apart (nb : Bool) (p0 : Int64) (p1 : Int64) : Int64 := if (fl_place nb p0) = (fl_place nb p1) then 0 else (if (if (if 0 ≤ p0 then (0 : Int32) else (1 : Int32)) = (if 0 ≤ p1 then (0 : Int32) else (1 : Int32)) then (0 : Int32) else (1 : Int32)) = 0 then (fl_differenceOfAmounts nb (fl_amount nb p0) (fl_amount nb p1)) else ((fl_addAmounts nb (fl_amount nb p0) (fl_amount nb p1))))
set_option maxHeartbeats 4000000 in
set_option maxRecDepth 100000 in
theorem mt_X0_apart (l : Launch) (dC : Nat → ClassId) (dI : Nat → Nat → Nat) (nb : Bool) (h0 : Nat) (p0 : Int64) (p1 : Int64) : Met l yX0_apart wsX0_apart ({ frames := 3, cells := 0, slots := 0, locals := 77 }) (pq_Pc (dC, dI) h0 (0, fl_F nb) [.ref h0, .long p0, .long p1]) (pq_V (.long (fl_apart nb p0 p1))) 0 0 (fun _ => False) := by
  refine Met.ofW (cc := cX0_apart) (maxL := 6) (ret := (some .long)) (by decide) rfl ?_
  intro p e s m args below meth c s₁ B hml hv
  obtain ⟨rfl, hP, hK, hA⟩ := hv
  have hx := B.exec
  have hb := B.bytes
  have hr := B.returns
  have hts := atoms_spec (ws := wsX0_apart) B.pre
  have hown : s.vm.findClass RX0 = some m.cls := findClass_of_methodNamed B.named
  have hlocks := B.notSynchronized
  have hl := lv_entry ([.ref h0, .long p0, .long p1]) (n := 6) (Nat.le_of_ble_eq_true rfl)
  rw [lg_entry_eq]
  generalize (lg_sl ([.ref h0, .long p0, .long p1]) ++ List.replicate (6 - (lg_sl ([.ref h0, .long p0, .long p1])).length) Slot.unset).toArray = ls at hl ⊢
  have hl : lv_has ls 6 [(0, .ref h0), (1, .long p0), (3, .long p1)] := hl
  refine lv_aload_n hx hb dX0_apart_0 rfl (lv_at hl 0 rfl) ?_
  refine lv_lload_n hx hb dX0_apart_1 rfl (lv_at hl 1 rfl) ?_
  refine pq_call (va_runV (C := RX0) (As := [.long p0]) (rest := []) ⟨hx, hb, hml, hown, hts⟩ (mt_X0_place l dC dI nb h0 p0) (cwV 1 hts gX0_apart_X0_place rfl rfl rfl (by decide +kernel) ⟨Nat.le_of_ble_eq_true rfl, Nat.le_of_ble_eq_true rfl⟩) ⟨pq_blind, va_recv hK hP (ci := 0) (q0 := 0) rfl rfl, pq_pre hP hK hA⟩ rfl rfl hl.1 rfl (lv_room (Nat.le_of_ble_eq_true rfl)) dX0_apart_2 ⟨Nat.zero_le _, Nat.zero_le _⟩) ?_
  refine lv_aload_n hx hb dX0_apart_5 rfl (lv_at hl 0 rfl) ?_
  refine lv_lload_n hx hb dX0_apart_6 rfl (lv_at hl 2 rfl) ?_
  refine pq_call (va_runV (C := RX0) (As := [.long p1]) (rest := [.long (fl_place nb p0)]) ⟨hx, hb, hml, hown, hts⟩ (mt_X0_place l dC dI nb h0 p1) (cwV 1 hts gX0_apart_X0_place rfl rfl rfl (by decide +kernel) ⟨Nat.le_of_ble_eq_true rfl, Nat.le_of_ble_eq_true rfl⟩) ⟨pq_blind, va_recv hK hP (ci := 0) (q0 := 0) rfl rfl, pq_pre hP hK hA⟩ rfl rfl hl.1 rfl (lv_room (Nat.le_of_ble_eq_true rfl)) dX0_apart_7 ⟨Nat.zero_le _, Nat.zero_le _⟩) ?_
  refine pq_lcmp_ne (tgt := 16) hx hb dX0_apart_10 dX0_apart_11 (by decide) (fun h1 => ?_) (fun h1 => ?_)
  · refine lv_lload_n hx hb dX0_apart_16 rfl (lv_at hl 1 rfl) ?_
    refine lv_lconst (v := 0) hx hb dX0_apart_17 (by decide) ?_
    refine pq_cut (g2 := F0 m 27 ls [.int (if 0 ≤ p0 then (0 : Int32) else (1 : Int32))]) (fun K2 => ?_) ?_
    · refine pq_lcmp_ge (tgt := 26) hx hb dX0_apart_18 dX0_apart_19 (by decide) (fun h3 => ?_) (fun h3 => ?_)
      · refine lv_iconst (v := 0) hx hb dX0_apart_26 (by decide) ?_
        exact pq_conv K2 (congrArg Value.int (if_pos h3))
      · refine lv_iconst (v := 1) hx hb dX0_apart_22 (by decide) ?_
        refine lv_goto (tgt := 27) hx hb dX0_apart_23 (by decide) ?_
        exact pq_conv K2 (congrArg Value.int (if_neg h3))
    refine lv_lload_n hx hb dX0_apart_27 rfl (lv_at hl 2 rfl) ?_
    refine lv_lconst (v := 0) hx hb dX0_apart_28 (by decide) ?_
    refine pq_cut (g2 := F0 m 38 ls [.int (if 0 ≤ p1 then (0 : Int32) else (1 : Int32)), .int (if 0 ≤ p0 then (0 : Int32) else (1 : Int32))]) (fun K4 => ?_) ?_
    · refine pq_lcmp_ge (tgt := 37) hx hb dX0_apart_29 dX0_apart_30 (by decide) (fun h5 => ?_) (fun h5 => ?_)
      · refine lv_iconst (v := 0) hx hb dX0_apart_37 (by decide) ?_
        exact pq_conv K4 (congrArg Value.int (if_pos h5))
      · refine lv_iconst (v := 1) hx hb dX0_apart_33 (by decide) ?_
        refine lv_goto (tgt := 38) hx hb dX0_apart_34 (by decide) ?_
        exact pq_conv K4 (congrArg Value.int (if_neg h5))
    refine pq_cut (g2 := F0 m 46 ls [.int (if (if 0 ≤ p0 then (0 : Int32) else (1 : Int32)) = (if 0 ≤ p1 then (0 : Int32) else (1 : Int32)) then (0 : Int32) else (1 : Int32))]) (fun K6 => ?_) ?_
    · refine lv_icmp_eq (tgt := 45) hx hb dX0_apart_38 (by decide) (fun h7 => ?_) (fun h7 => ?_)
      · refine lv_iconst (v := 0) hx hb dX0_apart_45 (by decide) ?_
        exact pq_conv K6 (congrArg Value.int (if_pos h7))
      · refine lv_iconst (v := 1) hx hb dX0_apart_41 (by decide) ?_
        refine lv_goto (tgt := 46) hx hb dX0_apart_42 (by decide) ?_
        exact pq_conv K6 (congrArg Value.int (if_neg h7))
    refine lv_istore (lv' := [(5, .int (if (if 0 ≤ p0 then (0 : Int32) else (1 : Int32)) = (if 0 ≤ p1 then (0 : Int32) else (1 : Int32)) then (0 : Int32) else (1 : Int32))), (0, .ref h0), (1, .long p0), (3, .long p1)]) hx hb dX0_apart_46 hl (by decide) rfl (fun ls hl => ?_)
    refine lv_iload hx hb dX0_apart_48 (lv_at hl 0 rfl) ?_
    refine lv_if_eq (tgt := 70) hx hb dX0_apart_50 (by decide) (fun h8 => ?_) (fun h8 => ?_)
    · refine lv_aload_n hx hb dX0_apart_70 rfl (lv_at hl 1 rfl) ?_
      refine lv_aload_n hx hb dX0_apart_71 rfl (lv_at hl 1 rfl) ?_
      refine lv_lload_n hx hb dX0_apart_72 rfl (lv_at hl 2 rfl) ?_
      refine pq_call (va_runV (C := RX0) (As := [.long p0]) (rest := [.ref h0]) ⟨hx, hb, hml, hown, hts⟩ (mt_X0_amount l dC dI nb h0 p0) (cwV 1 hts gX0_apart_X0_amount rfl rfl rfl (by decide +kernel) ⟨Nat.le_of_ble_eq_true rfl, Nat.le_of_ble_eq_true rfl⟩) ⟨pq_blind, va_recv hK hP (ci := 0) (q0 := 0) rfl rfl, pq_pre hP hK hA⟩ rfl rfl hl.1 rfl (lv_room (Nat.le_of_ble_eq_true rfl)) dX0_apart_73 ⟨Nat.zero_le _, Nat.zero_le _⟩) ?_
      refine lv_aload_n hx hb dX0_apart_76 rfl (lv_at hl 1 rfl) ?_
      refine lv_lload_n hx hb dX0_apart_77 rfl (lv_at hl 3 rfl) ?_
      refine pq_call (va_runV (C := RX0) (As := [.long p1]) (rest := [.long (fl_amount nb p0), .ref h0]) ⟨hx, hb, hml, hown, hts⟩ (mt_X0_amount l dC dI nb h0 p1) (cwV 1 hts gX0_apart_X0_amount rfl rfl rfl (by decide +kernel) ⟨Nat.le_of_ble_eq_true rfl, Nat.le_of_ble_eq_true rfl⟩) ⟨pq_blind, va_recv hK hP (ci := 0) (q0 := 0) rfl rfl, pq_pre hP hK hA⟩ rfl rfl hl.1 rfl (lv_room (Nat.le_of_ble_eq_true rfl)) dX0_apart_78 ⟨Nat.zero_le _, Nat.zero_le _⟩) ?_
      refine pq_call (va_runV (C := RX0) (As := [.long (fl_amount nb p0), .long (fl_amount nb p1)]) (rest := []) ⟨hx, hb, hml, hown, hts⟩ (mt_X0_differenceOfAmounts l dC dI nb h0 (fl_amount nb p0) (fl_amount nb p1)) (cwV 2 hts gX0_apart_X0_differenceOfAmounts rfl rfl rfl (by decide +kernel) ⟨Nat.le_of_ble_eq_true rfl, Nat.le_of_ble_eq_true rfl⟩) ⟨pq_blind, va_recv hK hP (ci := 0) (q0 := 0) rfl rfl, pq_pre hP hK hA⟩ rfl rfl hl.1 rfl (lv_room (Nat.le_of_ble_eq_true rfl)) dX0_apart_81 ⟨Nat.zero_le _, Nat.zero_le _⟩) ?_
      exact W.lret (v := (fl_differenceOfAmounts nb (fl_amount nb p0) (fl_amount nb p1))) hx hb hr (fun t ht hW => ⟨congrArg (fun z => Outcome.returned (some (Value.long z))) (show _ = fl_apart nb p0 p1 from Eq.symm (show fl_apart nb p0 p1 = _ from ((if_neg h1).trans (if_pos h8)))), ht⟩) (fun q hq => absurd hq List.not_mem_nil) dX0_apart_84
    · refine lv_aload_n hx hb dX0_apart_53 rfl (lv_at hl 1 rfl) ?_
      refine lv_aload_n hx hb dX0_apart_54 rfl (lv_at hl 1 rfl) ?_
      refine lv_lload_n hx hb dX0_apart_55 rfl (lv_at hl 2 rfl) ?_
      refine pq_call (va_runV (C := RX0) (As := [.long p0]) (rest := [.ref h0]) ⟨hx, hb, hml, hown, hts⟩ (mt_X0_amount l dC dI nb h0 p0) (cwV 1 hts gX0_apart_X0_amount rfl rfl rfl (by decide +kernel) ⟨Nat.le_of_ble_eq_true rfl, Nat.le_of_ble_eq_true rfl⟩) ⟨pq_blind, va_recv hK hP (ci := 0) (q0 := 0) rfl rfl, pq_pre hP hK hA⟩ rfl rfl hl.1 rfl (lv_room (Nat.le_of_ble_eq_true rfl)) dX0_apart_56 ⟨Nat.zero_le _, Nat.zero_le _⟩) ?_
      refine lv_aload_n hx hb dX0_apart_59 rfl (lv_at hl 1 rfl) ?_
      refine lv_lload_n hx hb dX0_apart_60 rfl (lv_at hl 3 rfl) ?_
      refine pq_call (va_runV (C := RX0) (As := [.long p1]) (rest := [.long (fl_amount nb p0), .ref h0]) ⟨hx, hb, hml, hown, hts⟩ (mt_X0_amount l dC dI nb h0 p1) (cwV 1 hts gX0_apart_X0_amount rfl rfl rfl (by decide +kernel) ⟨Nat.le_of_ble_eq_true rfl, Nat.le_of_ble_eq_true rfl⟩) ⟨pq_blind, va_recv hK hP (ci := 0) (q0 := 0) rfl rfl, pq_pre hP hK hA⟩ rfl rfl hl.1 rfl (lv_room (Nat.le_of_ble_eq_true rfl)) dX0_apart_61 ⟨Nat.zero_le _, Nat.zero_le _⟩) ?_
      refine pq_call (va_runV (C := RX0) (As := [.long (fl_amount nb p0), .long (fl_amount nb p1)]) (rest := []) ⟨hx, hb, hml, hown, hts⟩ (mt_X0_addAmounts l dC dI nb h0 (fl_amount nb p0) (fl_amount nb p1)) (cwV 2 hts gX0_apart_X0_addAmounts rfl rfl rfl (by decide +kernel) ⟨Nat.le_of_ble_eq_true rfl, Nat.le_of_ble_eq_true rfl⟩) ⟨pq_blind, va_recv hK hP (ci := 0) (q0 := 0) rfl rfl, pq_pre hP hK hA⟩ rfl rfl hl.1 rfl (lv_room (Nat.le_of_ble_eq_true rfl)) dX0_apart_64 ⟨Nat.zero_le _, Nat.zero_le _⟩) ?_
      refine lv_goto (tgt := 84) hx hb dX0_apart_67 (by decide) ?_
      exact W.lret (v := (fl_addAmounts nb (fl_amount nb p0) (fl_amount nb p1))) hx hb hr (fun t ht hW => ⟨congrArg (fun z => Outcome.returned (some (Value.long z))) (show _ = fl_apart nb p0 p1 from Eq.symm (show fl_apart nb p0 p1 = _ from ((if_neg h1).trans (if_neg h8)))), ht⟩) (fun q hq => absurd hq List.not_mem_nil) dX0_apart_84
  · refine lv_lconst (v := 0) hx hb dX0_apart_14 (by decide) ?_
    exact W.lret (v := 0) hx hb hr (fun t ht hW => ⟨congrArg (fun z => Outcome.returned (some (Value.long z))) (show _ = fl_apart nb p0 p1 from Eq.symm (show fl_apart nb p0 p1 = _ from (if_pos h1))), ht⟩) (fun q hq => absurd hq List.not_mem_nil) dX0_apart_15
def fl_bitsBehindPoint (nb : Bool) (p0 : Int64) : Int32 := if (((ff_fractionBits nb) + (ff_bias nb)) - (Int64.toInt32 (p0 >>> (Int32.toInt64 (ff_fractionBits nb) &&& 63)))) ≤ 0 then 0 else ((((ff_fractionBits nb) + (ff_bias nb)) - (Int64.toInt32 (p0 >>> (Int32.toInt64 (ff_fractionBits nb) &&& 63)))))
set_option maxHeartbeats 4000000 in
set_option maxRecDepth 100000 in
theorem mt_X0_bitsBehindPoint (l : Launch) (dC : Nat → ClassId) (dI : Nat → Nat → Nat) (nb : Bool) (h0 : Nat) (p0 : Int64) : Met l yX0_bitsBehindPoint wsX0_bitsBehindPoint ({ frames := 0, cells := 0, slots := 0, locals := 0 }) (pq_Pc (dC, dI) h0 (0, fl_F nb) [.ref h0, .long p0]) (pq_V (.int (fl_bitsBehindPoint nb p0))) 0 0 (fun _ => False) := by
  refine Met.ofW (cc := cX0_bitsBehindPoint) (maxL := 4) (ret := (some .int)) (by decide) rfl ?_
  intro p e s m args below meth c s₁ B hml hv
  obtain ⟨rfl, hP, hK, hA⟩ := hv
  have hx := B.exec
  have hb := B.bytes
  have hr := B.returns
  have hts := atoms_spec (ws := wsX0_bitsBehindPoint) B.pre
  have hown : s.vm.findClass RX0 = some m.cls := findClass_of_methodNamed B.named
  have hlocks := B.notSynchronized
  have hin : ∀ w ∈ wsX00, w ∈ wsX0_bitsBehindPoint := by decide +kernel
  have hl := lv_entry ([.ref h0, .long p0]) (n := 4) (Nat.le_of_ble_eq_true rfl)
  rw [lg_entry_eq]
  generalize (lg_sl ([.ref h0, .long p0]) ++ List.replicate (4 - (lg_sl ([.ref h0, .long p0])).length) Slot.unset).toArray = ls at hl ⊢
  have hl : lv_has ls 4 [(0, .ref h0), (1, .long p0)] := hl
  refine lv_aload_n hx hb dX0_bitsBehindPoint_0 rfl (lv_at hl 0 rfl) ?_
  refine va_get (D := (dC, dI)) (ci := 0) (v := .int (ff_fractionBits nb)) (C := RX0) (T := TX0) (N := 10) hx hb hts hin hown hK hP 0 rfl rfl 4 (by decide) (hts (.fieldLink RX0 19 "WeatherMast$Floats" "fractionBits" "I") (by decide +kernel)) (fun _ h9 => h9) rfl dX0_bitsBehindPoint_1 ?_
  refine lv_aload_n hx hb dX0_bitsBehindPoint_4 rfl (lv_at hl 0 rfl) ?_
  refine va_get (D := (dC, dI)) (ci := 0) (v := .int (ff_bias nb)) (C := RX0) (T := TX0) (N := 10) hx hb hts hin hown hK hP 0 rfl rfl 5 (by decide) (hts (.fieldLink RX0 23 "WeatherMast$Floats" "bias" "I") (by decide +kernel)) (fun _ h9 => h9) rfl dX0_bitsBehindPoint_5 ?_
  refine lv_iadd hx hb dX0_bitsBehindPoint_8 ?_
  refine lv_lload_n hx hb dX0_bitsBehindPoint_9 rfl (lv_at hl 1 rfl) ?_
  refine lv_aload_n hx hb dX0_bitsBehindPoint_10 rfl (lv_at hl 0 rfl) ?_
  refine va_get (D := (dC, dI)) (ci := 0) (v := .int (ff_fractionBits nb)) (C := RX0) (T := TX0) (N := 10) hx hb hts hin hown hK hP 0 rfl rfl 4 (by decide) (hts (.fieldLink RX0 19 "WeatherMast$Floats" "fractionBits" "I") (by decide +kernel)) (fun _ h9 => h9) rfl dX0_bitsBehindPoint_11 ?_
  refine lv_lshr (v := (p0 >>> (Int32.toInt64 (ff_fractionBits nb) &&& 63))) hx hb dX0_bitsBehindPoint_14 rfl ?_
  refine lv_l2i (v := (Int64.toInt32 (p0 >>> (Int32.toInt64 (ff_fractionBits nb) &&& 63)))) hx hb dX0_bitsBehindPoint_15 rfl ?_
  refine lv_isub hx hb dX0_bitsBehindPoint_16 ?_
  refine lv_istore_n (lv' := [(3, .int (((ff_fractionBits nb) + (ff_bias nb)) - (Int64.toInt32 (p0 >>> (Int32.toInt64 (ff_fractionBits nb) &&& 63))))), (0, .ref h0), (1, .long p0)]) hx hb dX0_bitsBehindPoint_17 rfl hl (by decide) rfl (fun ls hl => ?_)
  refine lv_iload_n hx hb dX0_bitsBehindPoint_18 rfl (lv_at hl 0 rfl) ?_
  refine lv_if_le (tgt := 26) hx hb dX0_bitsBehindPoint_19 (by decide) (fun h1 => ?_) (fun h1 => ?_)
  · refine lv_iconst (v := 0) hx hb dX0_bitsBehindPoint_26 (by decide) ?_
    exact W.iret (v := 0) hx hb hr (fun t ht hW => ⟨congrArg (fun z => Outcome.returned (some (Value.int z))) (show _ = fl_bitsBehindPoint nb p0 from Eq.symm (show fl_bitsBehindPoint nb p0 = _ from (if_pos h1))), ht⟩) (fun q hq => absurd hq List.not_mem_nil) dX0_bitsBehindPoint_27
  · refine lv_iload_n hx hb dX0_bitsBehindPoint_22 rfl (lv_at hl 0 rfl) ?_
    refine lv_goto (tgt := 27) hx hb dX0_bitsBehindPoint_23 (by decide) ?_
    exact W.iret (v := (((ff_fractionBits nb) + (ff_bias nb)) - (Int64.toInt32 (p0 >>> (Int32.toInt64 (ff_fractionBits nb) &&& 63))))) hx hb hr (fun t ht hW => ⟨congrArg (fun z => Outcome.returned (some (Value.int z))) (show _ = fl_bitsBehindPoint nb p0 from Eq.symm (show fl_bitsBehindPoint nb p0 = _ from (if_neg h1))), ht⟩) (fun q hq => absurd hq List.not_mem_nil) dX0_bitsBehindPoint_27
def fl_wholeNotAbove (nb : Bool) (p0 : Int64) : Int64 := if (ff_one nb) ≤ p0 then ((p0 >>> (Int32.toInt64 (fl_bitsBehindPoint nb p0) &&& 63)) <<< (Int32.toInt64 (fl_bitsBehindPoint nb p0) &&& 63)) else (0)
set_option maxHeartbeats 4000000 in
set_option maxRecDepth 100000 in
theorem mt_X0_wholeNotAbove (l : Launch) (dC : Nat → ClassId) (dI : Nat → Nat → Nat) (nb : Bool) (h0 : Nat) (p0 : Int64) : Met l yX0_wholeNotAbove wsX0_wholeNotAbove ({ frames := 1, cells := 0, slots := 0, locals := 23 }) (pq_Pc (dC, dI) h0 (0, fl_F nb) [.ref h0, .long p0]) (pq_V (.long (fl_wholeNotAbove nb p0))) 0 0 (fun _ => False) := by
  refine Met.ofW (cc := cX0_wholeNotAbove) (maxL := 4) (ret := (some .long)) (by decide) rfl ?_
  intro p e s m args below meth c s₁ B hml hv
  obtain ⟨rfl, hP, hK, hA⟩ := hv
  have hx := B.exec
  have hb := B.bytes
  have hr := B.returns
  have hts := atoms_spec (ws := wsX0_wholeNotAbove) B.pre
  have hown : s.vm.findClass RX0 = some m.cls := findClass_of_methodNamed B.named
  have hlocks := B.notSynchronized
  have hin : ∀ w ∈ wsX00, w ∈ wsX0_wholeNotAbove := by decide +kernel
  have hl := lv_entry ([.ref h0, .long p0]) (n := 4) (Nat.le_of_ble_eq_true rfl)
  rw [lg_entry_eq]
  generalize (lg_sl ([.ref h0, .long p0]) ++ List.replicate (4 - (lg_sl ([.ref h0, .long p0])).length) Slot.unset).toArray = ls at hl ⊢
  have hl : lv_has ls 4 [(0, .ref h0), (1, .long p0)] := hl
  refine lv_lload_n hx hb dX0_wholeNotAbove_0 rfl (lv_at hl 1 rfl) ?_
  refine lv_aload_n hx hb dX0_wholeNotAbove_1 rfl (lv_at hl 0 rfl) ?_
  refine va_get (D := (dC, dI)) (ci := 0) (v := .long (ff_one nb)) (C := RX0) (T := TX0) (N := 10) hx hb hts hin hown hK hP 0 rfl rfl 8 (by decide) (hts (.fieldLink RX0 33 "WeatherMast$Floats" "one" "J") (by decide +kernel)) (fun _ h9 => h9) rfl dX0_wholeNotAbove_2 ?_
  refine pq_lcmp_ge (tgt := 11) hx hb dX0_wholeNotAbove_5 dX0_wholeNotAbove_6 (by decide) (fun h1 => ?_) (fun h1 => ?_)
  · refine lv_aload_n hx hb dX0_wholeNotAbove_11 rfl (lv_at hl 0 rfl) ?_
    refine lv_lload_n hx hb dX0_wholeNotAbove_12 rfl (lv_at hl 1 rfl) ?_
    refine pq_call (va_runV (C := RX0) (As := [.long p0]) (rest := []) ⟨hx, hb, hml, hown, hts⟩ (mt_X0_bitsBehindPoint l dC dI nb h0 p0) (cwV 1 hts gX0_wholeNotAbove_X0_bitsBehindPoint rfl rfl rfl (by decide +kernel) ⟨Nat.le_of_ble_eq_true rfl, Nat.le_of_ble_eq_true rfl⟩) ⟨pq_blind, va_recv hK hP (ci := 0) (q0 := 0) rfl rfl, pq_pre hP hK hA⟩ rfl rfl hl.1 rfl (lv_room (Nat.le_of_ble_eq_true rfl)) dX0_wholeNotAbove_13 ⟨Nat.zero_le _, Nat.zero_le _⟩) ?_
    refine lv_istore_n (lv' := [(3, .int (fl_bitsBehindPoint nb p0)), (0, .ref h0), (1, .long p0)]) hx hb dX0_wholeNotAbove_16 rfl hl (by decide) rfl (fun ls hl => ?_)
    refine lv_lload_n hx hb dX0_wholeNotAbove_17 rfl (lv_at hl 2 rfl) ?_
    refine lv_iload_n hx hb dX0_wholeNotAbove_18 rfl (lv_at hl 0 rfl) ?_
    refine lv_lshr (v := (p0 >>> (Int32.toInt64 (fl_bitsBehindPoint nb p0) &&& 63))) hx hb dX0_wholeNotAbove_19 rfl ?_
    refine lv_iload_n hx hb dX0_wholeNotAbove_20 rfl (lv_at hl 0 rfl) ?_
    refine lv_lshl (v := ((p0 >>> (Int32.toInt64 (fl_bitsBehindPoint nb p0) &&& 63)) <<< (Int32.toInt64 (fl_bitsBehindPoint nb p0) &&& 63))) hx hb dX0_wholeNotAbove_21 rfl ?_
    exact W.lret (v := ((p0 >>> (Int32.toInt64 (fl_bitsBehindPoint nb p0) &&& 63)) <<< (Int32.toInt64 (fl_bitsBehindPoint nb p0) &&& 63))) hx hb hr (fun t ht hW => ⟨congrArg (fun z => Outcome.returned (some (Value.long z))) (show _ = fl_wholeNotAbove nb p0 from Eq.symm (show fl_wholeNotAbove nb p0 = _ from (if_pos h1))), ht⟩) (fun q hq => absurd hq List.not_mem_nil) dX0_wholeNotAbove_22
  · refine lv_lconst (v := 0) hx hb dX0_wholeNotAbove_9 (by decide) ?_
    exact W.lret (v := 0) hx hb hr (fun t ht hW => ⟨congrArg (fun z => Outcome.returned (some (Value.long z))) (show _ = fl_wholeNotAbove nb p0 from Eq.symm (show fl_wholeNotAbove nb p0 = _ from (if_neg h1))), ht⟩) (fun q hq => absurd hq List.not_mem_nil) dX0_wholeNotAbove_10
def fl_wholeNotBelow (nb : Bool) (p0 : Int64) : Int64 := if (fl_wholeNotAbove nb p0) = p0 then p0 else (if (ff_one nb) ≤ p0 then ((fl_wholeNotAbove nb p0) + ((1 : Int64) <<< (Int32.toInt64 (fl_bitsBehindPoint nb p0) &&& 63))) else ((ff_one nb)))
set_option maxHeartbeats 4000000 in
set_option maxRecDepth 100000 in
theorem mt_X0_wholeNotBelow (l : Launch) (dC : Nat → ClassId) (dI : Nat → Nat → Nat) (nb : Bool) (h0 : Nat) (p0 : Int64) : Met l yX0_wholeNotBelow wsX0_wholeNotBelow ({ frames := 2, cells := 0, slots := 0, locals := 46 }) (pq_Pc (dC, dI) h0 (0, fl_F nb) [.ref h0, .long p0]) (pq_V (.long (fl_wholeNotBelow nb p0))) 0 0 (fun _ => False) := by
  refine Met.ofW (cc := cX0_wholeNotBelow) (maxL := 5) (ret := (some .long)) (by decide) rfl ?_
  intro p e s m args below meth c s₁ B hml hv
  obtain ⟨rfl, hP, hK, hA⟩ := hv
  have hx := B.exec
  have hb := B.bytes
  have hr := B.returns
  have hts := atoms_spec (ws := wsX0_wholeNotBelow) B.pre
  have hown : s.vm.findClass RX0 = some m.cls := findClass_of_methodNamed B.named
  have hlocks := B.notSynchronized
  have hin : ∀ w ∈ wsX00, w ∈ wsX0_wholeNotBelow := by decide +kernel
  have hl := lv_entry ([.ref h0, .long p0]) (n := 5) (Nat.le_of_ble_eq_true rfl)
  rw [lg_entry_eq]
  generalize (lg_sl ([.ref h0, .long p0]) ++ List.replicate (5 - (lg_sl ([.ref h0, .long p0])).length) Slot.unset).toArray = ls at hl ⊢
  have hl : lv_has ls 5 [(0, .ref h0), (1, .long p0)] := hl
  refine lv_aload_n hx hb dX0_wholeNotBelow_0 rfl (lv_at hl 0 rfl) ?_
  refine lv_lload_n hx hb dX0_wholeNotBelow_1 rfl (lv_at hl 1 rfl) ?_
  refine pq_call (va_runV (C := RX0) (As := [.long p0]) (rest := []) ⟨hx, hb, hml, hown, hts⟩ (mt_X0_wholeNotAbove l dC dI nb h0 p0) (cwV 1 hts gX0_wholeNotBelow_X0_wholeNotAbove rfl rfl rfl (by decide +kernel) ⟨Nat.le_of_ble_eq_true rfl, Nat.le_of_ble_eq_true rfl⟩) ⟨pq_blind, va_recv hK hP (ci := 0) (q0 := 0) rfl rfl, pq_pre hP hK hA⟩ rfl rfl hl.1 rfl (lv_room (Nat.le_of_ble_eq_true rfl)) dX0_wholeNotBelow_2 ⟨Nat.zero_le _, Nat.zero_le _⟩) ?_
  refine lv_lstore_n (lv' := [(3, .long (fl_wholeNotAbove nb p0)), (0, .ref h0), (1, .long p0)]) hx hb dX0_wholeNotBelow_5 rfl hl (by decide) rfl (fun ls hl => ?_)
  refine lv_lload_n hx hb dX0_wholeNotBelow_6 rfl (lv_at hl 0 rfl) ?_
  refine lv_lload_n hx hb dX0_wholeNotBelow_7 rfl (lv_at hl 2 rfl) ?_
  refine pq_lcmp_ne (tgt := 14) hx hb dX0_wholeNotBelow_8 dX0_wholeNotBelow_9 (by decide) (fun h1 => ?_) (fun h1 => ?_)
  · refine lv_lload_n hx hb dX0_wholeNotBelow_14 rfl (lv_at hl 2 rfl) ?_
    refine lv_aload_n hx hb dX0_wholeNotBelow_15 rfl (lv_at hl 1 rfl) ?_
    refine va_get (D := (dC, dI)) (ci := 0) (v := .long (ff_one nb)) (C := RX0) (T := TX0) (N := 10) hx hb hts hin hown hK hP 0 rfl rfl 8 (by decide) (hts (.fieldLink RX0 33 "WeatherMast$Floats" "one" "J") (by decide +kernel)) (fun _ h9 => h9) rfl dX0_wholeNotBelow_16 ?_
    refine pq_lcmp_ge (tgt := 30) hx hb dX0_wholeNotBelow_19 dX0_wholeNotBelow_20 (by decide) (fun h2 => ?_) (fun h2 => ?_)
    · refine lv_lload_n hx hb dX0_wholeNotBelow_30 rfl (lv_at hl 0 rfl) ?_
      refine lv_lconst (v := 1) hx hb dX0_wholeNotBelow_31 (by decide) ?_
      refine lv_aload_n hx hb dX0_wholeNotBelow_32 rfl (lv_at hl 1 rfl) ?_
      refine lv_lload_n hx hb dX0_wholeNotBelow_33 rfl (lv_at hl 2 rfl) ?_
      refine pq_call (va_runV (C := RX0) (As := [.long p0]) (rest := [.long 1, .long (fl_wholeNotAbove nb p0)]) ⟨hx, hb, hml, hown, hts⟩ (mt_X0_bitsBehindPoint l dC dI nb h0 p0) (cwV 1 hts gX0_wholeNotBelow_X0_bitsBehindPoint rfl rfl rfl (by decide +kernel) ⟨Nat.le_of_ble_eq_true rfl, Nat.le_of_ble_eq_true rfl⟩) ⟨pq_blind, va_recv hK hP (ci := 0) (q0 := 0) rfl rfl, pq_pre hP hK hA⟩ rfl rfl hl.1 rfl (lv_room (Nat.le_of_ble_eq_true rfl)) dX0_wholeNotBelow_34 ⟨Nat.zero_le _, Nat.zero_le _⟩) ?_
      refine lv_lshl (v := ((1 : Int64) <<< (Int32.toInt64 (fl_bitsBehindPoint nb p0) &&& 63))) hx hb dX0_wholeNotBelow_37 rfl ?_
      refine lv_ladd hx hb dX0_wholeNotBelow_38 ?_
      exact W.lret (v := ((fl_wholeNotAbove nb p0) + ((1 : Int64) <<< (Int32.toInt64 (fl_bitsBehindPoint nb p0) &&& 63)))) hx hb hr (fun t ht hW => ⟨congrArg (fun z => Outcome.returned (some (Value.long z))) (show _ = fl_wholeNotBelow nb p0 from Eq.symm (show fl_wholeNotBelow nb p0 = _ from ((if_neg h1).trans (if_pos h2)))), ht⟩) (fun q hq => absurd hq List.not_mem_nil) dX0_wholeNotBelow_39
    · refine lv_aload_n hx hb dX0_wholeNotBelow_23 rfl (lv_at hl 1 rfl) ?_
      refine va_get (D := (dC, dI)) (ci := 0) (v := .long (ff_one nb)) (C := RX0) (T := TX0) (N := 10) hx hb hts hin hown hK hP 0 rfl rfl 8 (by decide) (hts (.fieldLink RX0 33 "WeatherMast$Floats" "one" "J") (by decide +kernel)) (fun _ h9 => h9) rfl dX0_wholeNotBelow_24 ?_
      refine lv_goto (tgt := 39) hx hb dX0_wholeNotBelow_27 (by decide) ?_
      exact W.lret (v := (ff_one nb)) hx hb hr (fun t ht hW => ⟨congrArg (fun z => Outcome.returned (some (Value.long z))) (show _ = fl_wholeNotBelow nb p0 from Eq.symm (show fl_wholeNotBelow nb p0 = _ from ((if_neg h1).trans (if_neg h2)))), ht⟩) (fun q hq => absurd hq List.not_mem_nil) dX0_wholeNotBelow_39
  · refine lv_lload_n hx hb dX0_wholeNotBelow_12 rfl (lv_at hl 2 rfl) ?_
    exact W.lret (v := p0) hx hb hr (fun t ht hW => ⟨congrArg (fun z => Outcome.returned (some (Value.long z))) (show _ = fl_wholeNotBelow nb p0 from Eq.symm (show fl_wholeNotBelow nb p0 = _ from (if_pos h1))), ht⟩) (fun q hq => absurd hq List.not_mem_nil) dX0_wholeNotBelow_13
def fl_withSignOf (nb : Bool) (p0 : Int64) (p1 : Int64) : Int64 := if 0 ≤ p0 then p1 else ((p1 ||| (ff_signBit nb)))
set_option maxHeartbeats 4000000 in
set_option maxRecDepth 100000 in
theorem mt_X0_withSignOf (l : Launch) (dC : Nat → ClassId) (dI : Nat → Nat → Nat) (nb : Bool) (h0 : Nat) (p0 : Int64) (p1 : Int64) : Met l yX0_withSignOf wsX0_withSignOf ({ frames := 0, cells := 0, slots := 0, locals := 0 }) (pq_Pc (dC, dI) h0 (0, fl_F nb) [.ref h0, .long p0, .long p1]) (pq_V (.long (fl_withSignOf nb p0 p1))) 0 0 (fun _ => False) := by
  refine Met.ofW (cc := cX0_withSignOf) (maxL := 5) (ret := (some .long)) (by decide) rfl ?_
  intro p e s m args below meth c s₁ B hml hv
  obtain ⟨rfl, hP, hK, hA⟩ := hv
  have hx := B.exec
  have hb := B.bytes
  have hr := B.returns
  have hts := atoms_spec (ws := wsX0_withSignOf) B.pre
  have hown : s.vm.findClass RX0 = some m.cls := findClass_of_methodNamed B.named
  have hlocks := B.notSynchronized
  have hin : ∀ w ∈ wsX00, w ∈ wsX0_withSignOf := by decide +kernel
  have hl := lv_entry ([.ref h0, .long p0, .long p1]) (n := 5) (Nat.le_of_ble_eq_true rfl)
  rw [lg_entry_eq]
  generalize (lg_sl ([.ref h0, .long p0, .long p1]) ++ List.replicate (5 - (lg_sl ([.ref h0, .long p0, .long p1])).length) Slot.unset).toArray = ls at hl ⊢
  have hl : lv_has ls 5 [(0, .ref h0), (1, .long p0), (3, .long p1)] := hl
  refine lv_lload_n hx hb dX0_withSignOf_0 rfl (lv_at hl 1 rfl) ?_
  refine lv_lconst (v := 0) hx hb dX0_withSignOf_1 (by decide) ?_
  refine pq_lcmp_ge (tgt := 15) hx hb dX0_withSignOf_2 dX0_withSignOf_3 (by decide) (fun h1 => ?_) (fun h1 => ?_)
  · refine lv_lload_n hx hb dX0_withSignOf_15 rfl (lv_at hl 2 rfl) ?_
    exact W.lret (v := p1) hx hb hr (fun t ht hW => ⟨congrArg (fun z => Outcome.returned (some (Value.long z))) (show _ = fl_withSignOf nb p0 p1 from Eq.symm (show fl_withSignOf nb p0 p1 = _ from (if_pos h1))), ht⟩) (fun q hq => absurd hq List.not_mem_nil) dX0_withSignOf_16
  · refine lv_lload_n hx hb dX0_withSignOf_6 rfl (lv_at hl 2 rfl) ?_
    refine lv_aload_n hx hb dX0_withSignOf_7 rfl (lv_at hl 0 rfl) ?_
    refine va_get (D := (dC, dI)) (ci := 0) (v := .long (ff_signBit nb)) (C := RX0) (T := TX0) (N := 10) hx hb hts hin hown hK hP 0 rfl rfl 1 (by decide) (hts (.fieldLink RX0 43 "WeatherMast$Floats" "signBit" "J") (by decide +kernel)) (u_same (hts (.sameField "WeatherMast$Floats" "WeatherMast$Sort" "signBit" "J") (by decide +kernel))) rfl dX0_withSignOf_8 ?_
    refine lv_lor hx hb dX0_withSignOf_11 ?_
    refine lv_goto (tgt := 16) hx hb dX0_withSignOf_12 (by decide) ?_
    exact W.lret (v := (p1 ||| (ff_signBit nb))) hx hb hr (fun t ht hW => ⟨congrArg (fun z => Outcome.returned (some (Value.long z))) (show _ = fl_withSignOf nb p0 p1 from Eq.symm (show fl_withSignOf nb p0 p1 = _ from (if_neg h1))), ht⟩) (fun q hq => absurd hq List.not_mem_nil) dX0_withSignOf_16
def fl_wholeNearest (nb : Bool) (p0 : Int64) : Int64 := if (ff_one nb) ≤ p0 then if ((1 : Int64) <<< (Int32.toInt64 (fl_bitsBehindPoint nb p0) &&& 63)) < ((p0 - ((p0 >>> (Int32.toInt64 (fl_bitsBehindPoint nb p0) &&& 63)) <<< (Int32.toInt64 (fl_bitsBehindPoint nb p0) &&& 63))) * 2) then (((p0 >>> (Int32.toInt64 (fl_bitsBehindPoint nb p0) &&& 63)) <<< (Int32.toInt64 (fl_bitsBehindPoint nb p0) &&& 63)) + ((1 : Int64) <<< (Int32.toInt64 (fl_bitsBehindPoint nb p0) &&& 63))) else (if ((p0 - ((p0 >>> (Int32.toInt64 (fl_bitsBehindPoint nb p0) &&& 63)) <<< (Int32.toInt64 (fl_bitsBehindPoint nb p0) &&& 63))) * 2) = ((1 : Int64) <<< (Int32.toInt64 (fl_bitsBehindPoint nb p0) &&& 63)) then if (if (((p0 >>> (Int32.toInt64 (fl_bitsBehindPoint nb p0) &&& 63)) <<< (Int32.toInt64 (fl_bitsBehindPoint nb p0) &&& 63)) &&& ((1 : Int64) <<< (Int32.toInt64 (fl_bitsBehindPoint nb p0) &&& 63))) = 0 then (0 : Int32) else (1 : Int32)) = 0 then ((p0 >>> (Int32.toInt64 (fl_bitsBehindPoint nb p0) &&& 63)) <<< (Int32.toInt64 (fl_bitsBehindPoint nb p0) &&& 63)) else ((((p0 >>> (Int32.toInt64 (fl_bitsBehindPoint nb p0) &&& 63)) <<< (Int32.toInt64 (fl_bitsBehindPoint nb p0) &&& 63)) + ((1 : Int64) <<< (Int32.toInt64 (fl_bitsBehindPoint nb p0) &&& 63)))) else (((p0 >>> (Int32.toInt64 (fl_bitsBehindPoint nb p0) &&& 63)) <<< (Int32.toInt64 (fl_bitsBehindPoint nb p0) &&& 63)))) else (if p0 ≤ (ff_half nb) then 0 else ((ff_one nb)))
set_option maxHeartbeats 4000000 in
set_option maxRecDepth 100000 in
theorem mt_X0_wholeNearest (l : Launch) (dC : Nat → ClassId) (dI : Nat → Nat → Nat) (nb : Bool) (h0 : Nat) (p0 : Int64) : Met l yX0_wholeNearest wsX0_wholeNearest ({ frames := 1, cells := 0, slots := 0, locals := 23 }) (pq_Pc (dC, dI) h0 (0, fl_F nb) [.ref h0, .long p0]) (pq_V (.long (fl_wholeNearest nb p0))) 0 0 (fun _ => False) := by
  refine Met.ofW (cc := cX0_wholeNearest) (maxL := 11) (ret := (some .long)) (by decide) rfl ?_
  intro p e s m args below meth c s₁ B hml hv
  obtain ⟨rfl, hP, hK, hA⟩ := hv
  have hx := B.exec
  have hb := B.bytes
  have hr := B.returns
  have hts := atoms_spec (ws := wsX0_wholeNearest) B.pre
  have hown : s.vm.findClass RX0 = some m.cls := findClass_of_methodNamed B.named
  have hlocks := B.notSynchronized
  have hin : ∀ w ∈ wsX00, w ∈ wsX0_wholeNearest := by decide +kernel
  have hl := lv_entry ([.ref h0, .long p0]) (n := 11) (Nat.le_of_ble_eq_true rfl)
  rw [lg_entry_eq]
  generalize (lg_sl ([.ref h0, .long p0]) ++ List.replicate (11 - (lg_sl ([.ref h0, .long p0])).length) Slot.unset).toArray = ls at hl ⊢
  have hl : lv_has ls 11 [(0, .ref h0), (1, .long p0)] := hl
  refine lv_lload_n hx hb dX0_wholeNearest_0 rfl (lv_at hl 1 rfl) ?_
  refine lv_aload_n hx hb dX0_wholeNearest_1 rfl (lv_at hl 0 rfl) ?_
  refine va_get (D := (dC, dI)) (ci := 0) (v := .long (ff_one nb)) (C := RX0) (T := TX0) (N := 10) hx hb hts hin hown hK hP 0 rfl rfl 8 (by decide) (hts (.fieldLink RX0 33 "WeatherMast$Floats" "one" "J") (by decide +kernel)) (fun _ h9 => h9) rfl dX0_wholeNearest_2 ?_
  refine pq_lcmp_ge (tgt := 27) hx hb dX0_wholeNearest_5 dX0_wholeNearest_6 (by decide) (fun h1 => ?_) (fun h1 => ?_)
  · refine lv_aload_n hx hb dX0_wholeNearest_27 rfl (lv_at hl 0 rfl) ?_
    refine lv_lload_n hx hb dX0_wholeNearest_28 rfl (lv_at hl 1 rfl) ?_
    refine pq_call (va_runV (C := RX0) (As := [.long p0]) (rest := []) ⟨hx, hb, hml, hown, hts⟩ (mt_X0_bitsBehindPoint l dC dI nb h0 p0) (cwV 1 hts gX0_wholeNearest_X0_bitsBehindPoint rfl rfl rfl (by decide +kernel) ⟨Nat.le_of_ble_eq_true rfl, Nat.le_of_ble_eq_true rfl⟩) ⟨pq_blind, va_recv hK hP (ci := 0) (q0 := 0) rfl rfl, pq_pre hP hK hA⟩ rfl rfl hl.1 rfl (lv_room (Nat.le_of_ble_eq_true rfl)) dX0_wholeNearest_29 ⟨Nat.zero_le _, Nat.zero_le _⟩) ?_
    refine lv_istore_n (lv' := [(3, .int (fl_bitsBehindPoint nb p0)), (0, .ref h0), (1, .long p0)]) hx hb dX0_wholeNearest_32 rfl hl (by decide) rfl (fun ls hl => ?_)
    refine lv_lconst (v := 1) hx hb dX0_wholeNearest_33 (by decide) ?_
    refine lv_iload_n hx hb dX0_wholeNearest_34 rfl (lv_at hl 0 rfl) ?_
    refine lv_lshl (v := ((1 : Int64) <<< (Int32.toInt64 (fl_bitsBehindPoint nb p0) &&& 63))) hx hb dX0_wholeNearest_35 rfl ?_
    refine lv_lstore (lv' := [(4, .long ((1 : Int64) <<< (Int32.toInt64 (fl_bitsBehindPoint nb p0) &&& 63))), (3, .int (fl_bitsBehindPoint nb p0)), (0, .ref h0), (1, .long p0)]) hx hb dX0_wholeNearest_36 hl (by decide) rfl (fun ls hl => ?_)
    refine lv_lload_n hx hb dX0_wholeNearest_38 rfl (lv_at hl 3 rfl) ?_
    refine lv_iload_n hx hb dX0_wholeNearest_39 rfl (lv_at hl 1 rfl) ?_
    refine lv_lshr (v := (p0 >>> (Int32.toInt64 (fl_bitsBehindPoint nb p0) &&& 63))) hx hb dX0_wholeNearest_40 rfl ?_
    refine lv_iload_n hx hb dX0_wholeNearest_41 rfl (lv_at hl 1 rfl) ?_
    refine lv_lshl (v := ((p0 >>> (Int32.toInt64 (fl_bitsBehindPoint nb p0) &&& 63)) <<< (Int32.toInt64 (fl_bitsBehindPoint nb p0) &&& 63))) hx hb dX0_wholeNearest_42 rfl ?_
    refine lv_lstore (lv' := [(6, .long ((p0 >>> (Int32.toInt64 (fl_bitsBehindPoint nb p0) &&& 63)) <<< (Int32.toInt64 (fl_bitsBehindPoint nb p0) &&& 63))), (4, .long ((1 : Int64) <<< (Int32.toInt64 (fl_bitsBehindPoint nb p0) &&& 63))), (3, .int (fl_bitsBehindPoint nb p0)), (0, .ref h0), (1, .long p0)]) hx hb dX0_wholeNearest_43 hl (by decide) rfl (fun ls hl => ?_)
    refine lv_lload_n hx hb dX0_wholeNearest_45 rfl (lv_at hl 4 rfl) ?_
    refine lv_lload hx hb dX0_wholeNearest_46 (lv_at hl 0 rfl) ?_
    refine lv_lsub hx hb dX0_wholeNearest_48 ?_
    refine lv_ldc2 hx hb hown (hts (.constantLong RX0 113 (2)) (by decide +kernel)) dX0_wholeNearest_49 ?_
    refine lv_lmul hx hb dX0_wholeNearest_52 ?_
    refine lv_lstore (lv' := [(8, .long ((p0 - ((p0 >>> (Int32.toInt64 (fl_bitsBehindPoint nb p0) &&& 63)) <<< (Int32.toInt64 (fl_bitsBehindPoint nb p0) &&& 63))) * 2)), (6, .long ((p0 >>> (Int32.toInt64 (fl_bitsBehindPoint nb p0) &&& 63)) <<< (Int32.toInt64 (fl_bitsBehindPoint nb p0) &&& 63))), (4, .long ((1 : Int64) <<< (Int32.toInt64 (fl_bitsBehindPoint nb p0) &&& 63))), (3, .int (fl_bitsBehindPoint nb p0)), (0, .ref h0), (1, .long p0)]) hx hb dX0_wholeNearest_53 hl (by decide) rfl (fun ls hl => ?_)
    refine lv_lload hx hb dX0_wholeNearest_55 (lv_at hl 1 rfl) ?_
    refine lv_lload hx hb dX0_wholeNearest_57 (lv_at hl 2 rfl) ?_
    refine lv_land hx hb dX0_wholeNearest_59 ?_
    refine lv_lconst (v := 0) hx hb dX0_wholeNearest_60 (by decide) ?_
    refine pq_cut (g2 := F0 m 70 ls [.int (if (((p0 >>> (Int32.toInt64 (fl_bitsBehindPoint nb p0) &&& 63)) <<< (Int32.toInt64 (fl_bitsBehindPoint nb p0) &&& 63)) &&& ((1 : Int64) <<< (Int32.toInt64 (fl_bitsBehindPoint nb p0) &&& 63))) = 0 then (0 : Int32) else (1 : Int32))]) (fun K2 => ?_) ?_
    · refine pq_lcmp_eq (tgt := 69) hx hb dX0_wholeNearest_61 dX0_wholeNearest_62 (by decide) (fun h3 => ?_) (fun h3 => ?_)
      · refine lv_iconst (v := 0) hx hb dX0_wholeNearest_69 (by decide) ?_
        exact pq_conv K2 (congrArg Value.int (if_pos h3))
      · refine lv_iconst (v := 1) hx hb dX0_wholeNearest_65 (by decide) ?_
        refine lv_goto (tgt := 70) hx hb dX0_wholeNearest_66 (by decide) ?_
        exact pq_conv K2 (congrArg Value.int (if_neg h3))
    refine lv_istore (lv' := [(10, .int (if (((p0 >>> (Int32.toInt64 (fl_bitsBehindPoint nb p0) &&& 63)) <<< (Int32.toInt64 (fl_bitsBehindPoint nb p0) &&& 63)) &&& ((1 : Int64) <<< (Int32.toInt64 (fl_bitsBehindPoint nb p0) &&& 63))) = 0 then (0 : Int32) else (1 : Int32))), (8, .long ((p0 - ((p0 >>> (Int32.toInt64 (fl_bitsBehindPoint nb p0) &&& 63)) <<< (Int32.toInt64 (fl_bitsBehindPoint nb p0) &&& 63))) * 2)), (6, .long ((p0 >>> (Int32.toInt64 (fl_bitsBehindPoint nb p0) &&& 63)) <<< (Int32.toInt64 (fl_bitsBehindPoint nb p0) &&& 63))), (4, .long ((1 : Int64) <<< (Int32.toInt64 (fl_bitsBehindPoint nb p0) &&& 63))), (3, .int (fl_bitsBehindPoint nb p0)), (0, .ref h0), (1, .long p0)]) hx hb dX0_wholeNearest_70 hl (by decide) rfl (fun ls hl => ?_)
    refine lv_lload hx hb dX0_wholeNearest_72 (lv_at hl 1 rfl) ?_
    refine lv_lload hx hb dX0_wholeNearest_74 (lv_at hl 3 rfl) ?_
    refine pq_lcmp_gt (tgt := 93) hx hb dX0_wholeNearest_76 dX0_wholeNearest_77 (by decide) (fun h4 => ?_) (fun h4 => ?_)
    · refine lv_lload hx hb dX0_wholeNearest_93 (lv_at hl 2 rfl) ?_
      refine lv_lload hx hb dX0_wholeNearest_95 (lv_at hl 3 rfl) ?_
      refine lv_ladd hx hb dX0_wholeNearest_97 ?_
      refine lv_goto (tgt := 103) hx hb dX0_wholeNearest_98 (by decide) ?_
      exact W.lret (v := (((p0 >>> (Int32.toInt64 (fl_bitsBehindPoint nb p0) &&& 63)) <<< (Int32.toInt64 (fl_bitsBehindPoint nb p0) &&& 63)) + ((1 : Int64) <<< (Int32.toInt64 (fl_bitsBehindPoint nb p0) &&& 63)))) hx hb hr (fun t ht hW => ⟨congrArg (fun z => Outcome.returned (some (Value.long z))) (show _ = fl_wholeNearest nb p0 from Eq.symm (show fl_wholeNearest nb p0 = _ from ((if_pos h1).trans (if_pos h4)))), ht⟩) (fun q hq => absurd hq List.not_mem_nil) dX0_wholeNearest_103
    · refine lv_lload hx hb dX0_wholeNearest_80 (lv_at hl 1 rfl) ?_
      refine lv_lload hx hb dX0_wholeNearest_82 (lv_at hl 3 rfl) ?_
      refine pq_lcmp_ne (tgt := 101) hx hb dX0_wholeNearest_84 dX0_wholeNearest_85 (by decide) (fun h5 => ?_) (fun h5 => ?_)
      · refine lv_lload hx hb dX0_wholeNearest_101 (lv_at hl 2 rfl) ?_
        exact W.lret (v := ((p0 >>> (Int32.toInt64 (fl_bitsBehindPoint nb p0) &&& 63)) <<< (Int32.toInt64 (fl_bitsBehindPoint nb p0) &&& 63))) hx hb hr (fun t ht hW => ⟨congrArg (fun z => Outcome.returned (some (Value.long z))) (show _ = fl_wholeNearest nb p0 from Eq.symm (show fl_wholeNearest nb p0 = _ from ((if_pos h1).trans ((if_neg h4).trans (if_neg h5))))), ht⟩) (fun q hq => absurd hq List.not_mem_nil) dX0_wholeNearest_103
      · refine lv_iload hx hb dX0_wholeNearest_88 (lv_at hl 0 rfl) ?_
        refine lv_if_eq (tgt := 101) hx hb dX0_wholeNearest_90 (by decide) (fun h6 => ?_) (fun h6 => ?_)
        · refine lv_lload hx hb dX0_wholeNearest_101 (lv_at hl 2 rfl) ?_
          exact W.lret (v := ((p0 >>> (Int32.toInt64 (fl_bitsBehindPoint nb p0) &&& 63)) <<< (Int32.toInt64 (fl_bitsBehindPoint nb p0) &&& 63))) hx hb hr (fun t ht hW => ⟨congrArg (fun z => Outcome.returned (some (Value.long z))) (show _ = fl_wholeNearest nb p0 from Eq.symm (show fl_wholeNearest nb p0 = _ from ((if_pos h1).trans ((if_neg h4).trans ((if_pos h5).trans (if_pos h6)))))), ht⟩) (fun q hq => absurd hq List.not_mem_nil) dX0_wholeNearest_103
        · refine lv_lload hx hb dX0_wholeNearest_93 (lv_at hl 2 rfl) ?_
          refine lv_lload hx hb dX0_wholeNearest_95 (lv_at hl 3 rfl) ?_
          refine lv_ladd hx hb dX0_wholeNearest_97 ?_
          refine lv_goto (tgt := 103) hx hb dX0_wholeNearest_98 (by decide) ?_
          exact W.lret (v := (((p0 >>> (Int32.toInt64 (fl_bitsBehindPoint nb p0) &&& 63)) <<< (Int32.toInt64 (fl_bitsBehindPoint nb p0) &&& 63)) + ((1 : Int64) <<< (Int32.toInt64 (fl_bitsBehindPoint nb p0) &&& 63)))) hx hb hr (fun t ht hW => ⟨congrArg (fun z => Outcome.returned (some (Value.long z))) (show _ = fl_wholeNearest nb p0 from Eq.symm (show fl_wholeNearest nb p0 = _ from ((if_pos h1).trans ((if_neg h4).trans ((if_pos h5).trans (if_neg h6)))))), ht⟩) (fun q hq => absurd hq List.not_mem_nil) dX0_wholeNearest_103
  · refine lv_lload_n hx hb dX0_wholeNearest_9 rfl (lv_at hl 1 rfl) ?_
    refine lv_aload_n hx hb dX0_wholeNearest_10 rfl (lv_at hl 0 rfl) ?_
    refine va_get (D := (dC, dI)) (ci := 0) (v := .long (ff_half nb)) (C := RX0) (T := TX0) (N := 10) hx hb hts hin hown hK hP 0 rfl rfl 7 (by decide) (hts (.fieldLink RX0 30 "WeatherMast$Floats" "half" "J") (by decide +kernel)) (fun _ h9 => h9) rfl dX0_wholeNearest_11 ?_
    refine pq_lcmp_le (tgt := 25) hx hb dX0_wholeNearest_14 dX0_wholeNearest_15 (by decide) (fun h7 => ?_) (fun h7 => ?_)
    · refine lv_lconst (v := 0) hx hb dX0_wholeNearest_25 (by decide) ?_
      exact W.lret (v := 0) hx hb hr (fun t ht hW => ⟨congrArg (fun z => Outcome.returned (some (Value.long z))) (show _ = fl_wholeNearest nb p0 from Eq.symm (show fl_wholeNearest nb p0 = _ from ((if_neg h1).trans (if_pos h7)))), ht⟩) (fun q hq => absurd hq List.not_mem_nil) dX0_wholeNearest_26
    · refine lv_aload_n hx hb dX0_wholeNearest_18 rfl (lv_at hl 0 rfl) ?_
      refine va_get (D := (dC, dI)) (ci := 0) (v := .long (ff_one nb)) (C := RX0) (T := TX0) (N := 10) hx hb hts hin hown hK hP 0 rfl rfl 8 (by decide) (hts (.fieldLink RX0 33 "WeatherMast$Floats" "one" "J") (by decide +kernel)) (fun _ h9 => h9) rfl dX0_wholeNearest_19 ?_
      refine lv_goto (tgt := 26) hx hb dX0_wholeNearest_22 (by decide) ?_
      exact W.lret (v := (ff_one nb)) hx hb hr (fun t ht hW => ⟨congrArg (fun z => Outcome.returned (some (Value.long z))) (show _ = fl_wholeNearest nb p0 from Eq.symm (show fl_wholeNearest nb p0 = _ from ((if_neg h1).trans (if_neg h7)))), ht⟩) (fun q hq => absurd hq List.not_mem_nil) dX0_wholeNearest_26
def fl_afterFurtherStep (nb : Bool) (p0 : Int32) (p1 : Int64) (p2 : Int64) : Int64 := if p0 = 3 then (fl_withSignOf nb p1 (if 0 ≤ p1 then (fl_wholeNotAbove nb (fl_amount nb p1)) else (fl_wholeNotBelow nb (fl_amount nb p1)))) else (if p0 = 4 then (fl_withSignOf nb p1 (if 0 ≤ p1 then (fl_wholeNotBelow nb (fl_amount nb p1)) else (fl_wholeNotAbove nb (fl_amount nb p1)))) else (if p0 = 5 then (fl_withSignOf nb p1 (fl_wholeNearest nb (fl_amount nb p1))) else (if p0 = 6 then if (fl_amount nb p1) = 0 then p1 else ((fl_withSignOf nb p1 (ff_one nb))) else (if p0 = 7 then (fl_withSignOf nb p2 (fl_amount nb p1)) else (p1)))))
set_option maxHeartbeats 4000000 in
set_option maxRecDepth 100000 in
theorem mt_X0_afterFurtherStep (l : Launch) (dC : Nat → ClassId) (dI : Nat → Nat → Nat) (nb : Bool) (h0 : Nat) (p0 : Int32) (p1 : Int64) (p2 : Int64) : Met l yX0_afterFurtherStep wsX0_afterFurtherStep ({ frames := 3, cells := 0, slots := 0, locals := 70 }) (pq_Pc (dC, dI) h0 (0, fl_F nb) [.ref h0, .int p0, .long p1, .long p2]) (pq_V (.long (fl_afterFurtherStep nb p0 p1 p2))) 0 0 (fun _ => False) := by
  refine Met.ofW (cc := cX0_afterFurtherStep) (maxL := 6) (ret := (some .long)) (by decide) rfl ?_
  intro p e s m args below meth c s₁ B hml hv
  obtain ⟨rfl, hP, hK, hA⟩ := hv
  have hx := B.exec
  have hb := B.bytes
  have hr := B.returns
  have hts := atoms_spec (ws := wsX0_afterFurtherStep) B.pre
  have hown : s.vm.findClass RX0 = some m.cls := findClass_of_methodNamed B.named
  have hlocks := B.notSynchronized
  have hin : ∀ w ∈ wsX00, w ∈ wsX0_afterFurtherStep := by decide +kernel
  have hl := lv_entry ([.ref h0, .int p0, .long p1, .long p2]) (n := 6) (Nat.le_of_ble_eq_true rfl)
  rw [lg_entry_eq]
  generalize (lg_sl ([.ref h0, .int p0, .long p1, .long p2]) ++ List.replicate (6 - (lg_sl ([.ref h0, .int p0, .long p1, .long p2])).length) Slot.unset).toArray = ls at hl ⊢
  have hl : lv_has ls 6 [(0, .ref h0), (1, .int p0), (2, .long p1), (4, .long p2)] := hl
  refine lv_iload_n hx hb dX0_afterFurtherStep_0 rfl (lv_at hl 1 rfl) ?_
  by_cases h1 : p0 = 3
  · refine lv_tableIn (off := 35) (tgt := 36) hx hb dX0_afterFurtherStep_1 (by rw [h1]; decide) (by rw [h1]; decide) (by rw [h1]; rfl) (by decide) ?_
    refine lv_aload_n hx hb dX0_afterFurtherStep_36 rfl (lv_at hl 0 rfl) ?_
    refine lv_lload_n hx hb dX0_afterFurtherStep_37 rfl (lv_at hl 2 rfl) ?_
    refine lv_lload_n hx hb dX0_afterFurtherStep_38 rfl (lv_at hl 2 rfl) ?_
    refine lv_lconst (v := 0) hx hb dX0_afterFurtherStep_39 (by decide) ?_
    refine pq_cut (g2 := F0 m 65 ls [.long (if 0 ≤ p1 then (fl_wholeNotAbove nb (fl_amount nb p1)) else (fl_wholeNotBelow nb (fl_amount nb p1))), .long p1, .ref h0]) (fun K2 => ?_) ?_
    · refine pq_lcmp_ge (tgt := 56) hx hb dX0_afterFurtherStep_40 dX0_afterFurtherStep_41 (by decide) (fun h3 => ?_) (fun h3 => ?_)
      · refine lv_aload_n hx hb dX0_afterFurtherStep_56 rfl (lv_at hl 0 rfl) ?_
        refine lv_aload_n hx hb dX0_afterFurtherStep_57 rfl (lv_at hl 0 rfl) ?_
        refine lv_lload_n hx hb dX0_afterFurtherStep_58 rfl (lv_at hl 2 rfl) ?_
        refine pq_call (va_runV (C := RX0) (As := [.long p1]) (rest := [.ref h0, .long p1, .ref h0]) ⟨hx, hb, hml, hown, hts⟩ (mt_X0_amount l dC dI nb h0 p1) (cwV 1 hts gX0_afterFurtherStep_X0_amount rfl rfl rfl (by decide +kernel) ⟨Nat.le_of_ble_eq_true rfl, Nat.le_of_ble_eq_true rfl⟩) ⟨pq_blind, va_recv hK hP (ci := 0) (q0 := 0) rfl rfl, pq_pre hP hK hA⟩ rfl rfl hl.1 rfl (lv_room (Nat.le_of_ble_eq_true rfl)) dX0_afterFurtherStep_59 ⟨Nat.zero_le _, Nat.zero_le _⟩) ?_
        refine pq_call (va_runV (C := RX0) (As := [.long (fl_amount nb p1)]) (rest := [.long p1, .ref h0]) ⟨hx, hb, hml, hown, hts⟩ (mt_X0_wholeNotAbove l dC dI nb h0 (fl_amount nb p1)) (cwV 1 hts gX0_afterFurtherStep_X0_wholeNotAbove rfl rfl rfl (by decide +kernel) ⟨Nat.le_of_ble_eq_true rfl, Nat.le_of_ble_eq_true rfl⟩) ⟨pq_blind, va_recv hK hP (ci := 0) (q0 := 0) rfl rfl, pq_pre hP hK hA⟩ rfl rfl hl.1 rfl (lv_room (Nat.le_of_ble_eq_true rfl)) dX0_afterFurtherStep_62 ⟨Nat.zero_le _, Nat.zero_le _⟩) ?_
        exact pq_conv K2 (congrArg Value.long (if_pos h3))
      · refine lv_aload_n hx hb dX0_afterFurtherStep_44 rfl (lv_at hl 0 rfl) ?_
        refine lv_aload_n hx hb dX0_afterFurtherStep_45 rfl (lv_at hl 0 rfl) ?_
        refine lv_lload_n hx hb dX0_afterFurtherStep_46 rfl (lv_at hl 2 rfl) ?_
        refine pq_call (va_runV (C := RX0) (As := [.long p1]) (rest := [.ref h0, .long p1, .ref h0]) ⟨hx, hb, hml, hown, hts⟩ (mt_X0_amount l dC dI nb h0 p1) (cwV 1 hts gX0_afterFurtherStep_X0_amount rfl rfl rfl (by decide +kernel) ⟨Nat.le_of_ble_eq_true rfl, Nat.le_of_ble_eq_true rfl⟩) ⟨pq_blind, va_recv hK hP (ci := 0) (q0 := 0) rfl rfl, pq_pre hP hK hA⟩ rfl rfl hl.1 rfl (lv_room (Nat.le_of_ble_eq_true rfl)) dX0_afterFurtherStep_47 ⟨Nat.zero_le _, Nat.zero_le _⟩) ?_
        refine pq_call (va_runV (C := RX0) (As := [.long (fl_amount nb p1)]) (rest := [.long p1, .ref h0]) ⟨hx, hb, hml, hown, hts⟩ (mt_X0_wholeNotBelow l dC dI nb h0 (fl_amount nb p1)) (cwV 1 hts gX0_afterFurtherStep_X0_wholeNotBelow rfl rfl rfl (by decide +kernel) ⟨Nat.le_of_ble_eq_true rfl, Nat.le_of_ble_eq_true rfl⟩) ⟨pq_blind, va_recv hK hP (ci := 0) (q0 := 0) rfl rfl, pq_pre hP hK hA⟩ rfl rfl hl.1 rfl (lv_room (Nat.le_of_ble_eq_true rfl)) dX0_afterFurtherStep_50 ⟨Nat.zero_le _, Nat.zero_le _⟩) ?_
        refine lv_goto (tgt := 65) hx hb dX0_afterFurtherStep_53 (by decide) ?_
        exact pq_conv K2 (congrArg Value.long (if_neg h3))
    refine pq_call (va_runV (C := RX0) (As := [.long p1, .long (if 0 ≤ p1 then (fl_wholeNotAbove nb (fl_amount nb p1)) else (fl_wholeNotBelow nb (fl_amount nb p1)))]) (rest := []) ⟨hx, hb, hml, hown, hts⟩ (mt_X0_withSignOf l dC dI nb h0 p1 (if 0 ≤ p1 then (fl_wholeNotAbove nb (fl_amount nb p1)) else (fl_wholeNotBelow nb (fl_amount nb p1)))) (cwV 2 hts gX0_afterFurtherStep_X0_withSignOf rfl rfl rfl (by decide +kernel) ⟨Nat.le_of_ble_eq_true rfl, Nat.le_of_ble_eq_true rfl⟩) ⟨pq_blind, va_recv hK hP (ci := 0) (q0 := 0) rfl rfl, pq_pre hP hK hA⟩ rfl rfl hl.1 rfl (lv_room (Nat.le_of_ble_eq_true rfl)) dX0_afterFurtherStep_65 ⟨Nat.zero_le _, Nat.zero_le _⟩) ?_
    exact W.lret (v := (fl_withSignOf nb p1 (if 0 ≤ p1 then (fl_wholeNotAbove nb (fl_amount nb p1)) else (fl_wholeNotBelow nb (fl_amount nb p1))))) hx hb hr (fun t ht hW => ⟨congrArg (fun z => Outcome.returned (some (Value.long z))) (show _ = fl_afterFurtherStep nb p0 p1 p2 from Eq.symm (show fl_afterFurtherStep nb p0 p1 p2 = _ from (if_pos h1))), ht⟩) (fun q hq => absurd hq List.not_mem_nil) dX0_afterFurtherStep_68
  · by_cases h4 : p0 = 4
    · refine lv_tableIn (off := 68) (tgt := 69) hx hb dX0_afterFurtherStep_1 (by rw [h4]; decide) (by rw [h4]; decide) (by rw [h4]; rfl) (by decide) ?_
      refine lv_aload_n hx hb dX0_afterFurtherStep_69 rfl (lv_at hl 0 rfl) ?_
      refine lv_lload_n hx hb dX0_afterFurtherStep_70 rfl (lv_at hl 2 rfl) ?_
      refine lv_lload_n hx hb dX0_afterFurtherStep_71 rfl (lv_at hl 2 rfl) ?_
      refine lv_lconst (v := 0) hx hb dX0_afterFurtherStep_72 (by decide) ?_
      refine pq_cut (g2 := F0 m 98 ls [.long (if 0 ≤ p1 then (fl_wholeNotBelow nb (fl_amount nb p1)) else (fl_wholeNotAbove nb (fl_amount nb p1))), .long p1, .ref h0]) (fun K5 => ?_) ?_
      · refine pq_lcmp_ge (tgt := 89) hx hb dX0_afterFurtherStep_73 dX0_afterFurtherStep_74 (by decide) (fun h6 => ?_) (fun h6 => ?_)
        · refine lv_aload_n hx hb dX0_afterFurtherStep_89 rfl (lv_at hl 0 rfl) ?_
          refine lv_aload_n hx hb dX0_afterFurtherStep_90 rfl (lv_at hl 0 rfl) ?_
          refine lv_lload_n hx hb dX0_afterFurtherStep_91 rfl (lv_at hl 2 rfl) ?_
          refine pq_call (va_runV (C := RX0) (As := [.long p1]) (rest := [.ref h0, .long p1, .ref h0]) ⟨hx, hb, hml, hown, hts⟩ (mt_X0_amount l dC dI nb h0 p1) (cwV 1 hts gX0_afterFurtherStep_X0_amount rfl rfl rfl (by decide +kernel) ⟨Nat.le_of_ble_eq_true rfl, Nat.le_of_ble_eq_true rfl⟩) ⟨pq_blind, va_recv hK hP (ci := 0) (q0 := 0) rfl rfl, pq_pre hP hK hA⟩ rfl rfl hl.1 rfl (lv_room (Nat.le_of_ble_eq_true rfl)) dX0_afterFurtherStep_92 ⟨Nat.zero_le _, Nat.zero_le _⟩) ?_
          refine pq_call (va_runV (C := RX0) (As := [.long (fl_amount nb p1)]) (rest := [.long p1, .ref h0]) ⟨hx, hb, hml, hown, hts⟩ (mt_X0_wholeNotBelow l dC dI nb h0 (fl_amount nb p1)) (cwV 1 hts gX0_afterFurtherStep_X0_wholeNotBelow rfl rfl rfl (by decide +kernel) ⟨Nat.le_of_ble_eq_true rfl, Nat.le_of_ble_eq_true rfl⟩) ⟨pq_blind, va_recv hK hP (ci := 0) (q0 := 0) rfl rfl, pq_pre hP hK hA⟩ rfl rfl hl.1 rfl (lv_room (Nat.le_of_ble_eq_true rfl)) dX0_afterFurtherStep_95 ⟨Nat.zero_le _, Nat.zero_le _⟩) ?_
          exact pq_conv K5 (congrArg Value.long (if_pos h6))
        · refine lv_aload_n hx hb dX0_afterFurtherStep_77 rfl (lv_at hl 0 rfl) ?_
          refine lv_aload_n hx hb dX0_afterFurtherStep_78 rfl (lv_at hl 0 rfl) ?_
          refine lv_lload_n hx hb dX0_afterFurtherStep_79 rfl (lv_at hl 2 rfl) ?_
          refine pq_call (va_runV (C := RX0) (As := [.long p1]) (rest := [.ref h0, .long p1, .ref h0]) ⟨hx, hb, hml, hown, hts⟩ (mt_X0_amount l dC dI nb h0 p1) (cwV 1 hts gX0_afterFurtherStep_X0_amount rfl rfl rfl (by decide +kernel) ⟨Nat.le_of_ble_eq_true rfl, Nat.le_of_ble_eq_true rfl⟩) ⟨pq_blind, va_recv hK hP (ci := 0) (q0 := 0) rfl rfl, pq_pre hP hK hA⟩ rfl rfl hl.1 rfl (lv_room (Nat.le_of_ble_eq_true rfl)) dX0_afterFurtherStep_80 ⟨Nat.zero_le _, Nat.zero_le _⟩) ?_
          refine pq_call (va_runV (C := RX0) (As := [.long (fl_amount nb p1)]) (rest := [.long p1, .ref h0]) ⟨hx, hb, hml, hown, hts⟩ (mt_X0_wholeNotAbove l dC dI nb h0 (fl_amount nb p1)) (cwV 1 hts gX0_afterFurtherStep_X0_wholeNotAbove rfl rfl rfl (by decide +kernel) ⟨Nat.le_of_ble_eq_true rfl, Nat.le_of_ble_eq_true rfl⟩) ⟨pq_blind, va_recv hK hP (ci := 0) (q0 := 0) rfl rfl, pq_pre hP hK hA⟩ rfl rfl hl.1 rfl (lv_room (Nat.le_of_ble_eq_true rfl)) dX0_afterFurtherStep_83 ⟨Nat.zero_le _, Nat.zero_le _⟩) ?_
          refine lv_goto (tgt := 98) hx hb dX0_afterFurtherStep_86 (by decide) ?_
          exact pq_conv K5 (congrArg Value.long (if_neg h6))
      refine pq_call (va_runV (C := RX0) (As := [.long p1, .long (if 0 ≤ p1 then (fl_wholeNotBelow nb (fl_amount nb p1)) else (fl_wholeNotAbove nb (fl_amount nb p1)))]) (rest := []) ⟨hx, hb, hml, hown, hts⟩ (mt_X0_withSignOf l dC dI nb h0 p1 (if 0 ≤ p1 then (fl_wholeNotBelow nb (fl_amount nb p1)) else (fl_wholeNotAbove nb (fl_amount nb p1)))) (cwV 2 hts gX0_afterFurtherStep_X0_withSignOf rfl rfl rfl (by decide +kernel) ⟨Nat.le_of_ble_eq_true rfl, Nat.le_of_ble_eq_true rfl⟩) ⟨pq_blind, va_recv hK hP (ci := 0) (q0 := 0) rfl rfl, pq_pre hP hK hA⟩ rfl rfl hl.1 rfl (lv_room (Nat.le_of_ble_eq_true rfl)) dX0_afterFurtherStep_98 ⟨Nat.zero_le _, Nat.zero_le _⟩) ?_
      exact W.lret (v := (fl_withSignOf nb p1 (if 0 ≤ p1 then (fl_wholeNotBelow nb (fl_amount nb p1)) else (fl_wholeNotAbove nb (fl_amount nb p1))))) hx hb hr (fun t ht hW => ⟨congrArg (fun z => Outcome.returned (some (Value.long z))) (show _ = fl_afterFurtherStep nb p0 p1 p2 from Eq.symm (show fl_afterFurtherStep nb p0 p1 p2 = _ from ((if_neg h1).trans (if_pos h4)))), ht⟩) (fun q hq => absurd hq List.not_mem_nil) dX0_afterFurtherStep_101
    · by_cases h7 : p0 = 5
      · refine lv_tableIn (off := 101) (tgt := 102) hx hb dX0_afterFurtherStep_1 (by rw [h7]; decide) (by rw [h7]; decide) (by rw [h7]; rfl) (by decide) ?_
        refine lv_aload_n hx hb dX0_afterFurtherStep_102 rfl (lv_at hl 0 rfl) ?_
        refine lv_lload_n hx hb dX0_afterFurtherStep_103 rfl (lv_at hl 2 rfl) ?_
        refine lv_aload_n hx hb dX0_afterFurtherStep_104 rfl (lv_at hl 0 rfl) ?_
        refine lv_aload_n hx hb dX0_afterFurtherStep_105 rfl (lv_at hl 0 rfl) ?_
        refine lv_lload_n hx hb dX0_afterFurtherStep_106 rfl (lv_at hl 2 rfl) ?_
        refine pq_call (va_runV (C := RX0) (As := [.long p1]) (rest := [.ref h0, .long p1, .ref h0]) ⟨hx, hb, hml, hown, hts⟩ (mt_X0_amount l dC dI nb h0 p1) (cwV 1 hts gX0_afterFurtherStep_X0_amount rfl rfl rfl (by decide +kernel) ⟨Nat.le_of_ble_eq_true rfl, Nat.le_of_ble_eq_true rfl⟩) ⟨pq_blind, va_recv hK hP (ci := 0) (q0 := 0) rfl rfl, pq_pre hP hK hA⟩ rfl rfl hl.1 rfl (lv_room (Nat.le_of_ble_eq_true rfl)) dX0_afterFurtherStep_107 ⟨Nat.zero_le _, Nat.zero_le _⟩) ?_
        refine pq_call (va_runV (C := RX0) (As := [.long (fl_amount nb p1)]) (rest := [.long p1, .ref h0]) ⟨hx, hb, hml, hown, hts⟩ (mt_X0_wholeNearest l dC dI nb h0 (fl_amount nb p1)) (cwV 1 hts gX0_afterFurtherStep_X0_wholeNearest rfl rfl rfl (by decide +kernel) ⟨Nat.le_of_ble_eq_true rfl, Nat.le_of_ble_eq_true rfl⟩) ⟨pq_blind, va_recv hK hP (ci := 0) (q0 := 0) rfl rfl, pq_pre hP hK hA⟩ rfl rfl hl.1 rfl (lv_room (Nat.le_of_ble_eq_true rfl)) dX0_afterFurtherStep_110 ⟨Nat.zero_le _, Nat.zero_le _⟩) ?_
        refine pq_call (va_runV (C := RX0) (As := [.long p1, .long (fl_wholeNearest nb (fl_amount nb p1))]) (rest := []) ⟨hx, hb, hml, hown, hts⟩ (mt_X0_withSignOf l dC dI nb h0 p1 (fl_wholeNearest nb (fl_amount nb p1))) (cwV 2 hts gX0_afterFurtherStep_X0_withSignOf rfl rfl rfl (by decide +kernel) ⟨Nat.le_of_ble_eq_true rfl, Nat.le_of_ble_eq_true rfl⟩) ⟨pq_blind, va_recv hK hP (ci := 0) (q0 := 0) rfl rfl, pq_pre hP hK hA⟩ rfl rfl hl.1 rfl (lv_room (Nat.le_of_ble_eq_true rfl)) dX0_afterFurtherStep_113 ⟨Nat.zero_le _, Nat.zero_le _⟩) ?_
        exact W.lret (v := (fl_withSignOf nb p1 (fl_wholeNearest nb (fl_amount nb p1)))) hx hb hr (fun t ht hW => ⟨congrArg (fun z => Outcome.returned (some (Value.long z))) (show _ = fl_afterFurtherStep nb p0 p1 p2 from Eq.symm (show fl_afterFurtherStep nb p0 p1 p2 = _ from ((if_neg h1).trans ((if_neg h4).trans (if_pos h7))))), ht⟩) (fun q hq => absurd hq List.not_mem_nil) dX0_afterFurtherStep_116
      · by_cases h8 : p0 = 6
        · refine lv_tableIn (off := 116) (tgt := 117) hx hb dX0_afterFurtherStep_1 (by rw [h8]; decide) (by rw [h8]; decide) (by rw [h8]; rfl) (by decide) ?_
          refine lv_aload_n hx hb dX0_afterFurtherStep_117 rfl (lv_at hl 0 rfl) ?_
          refine lv_lload_n hx hb dX0_afterFurtherStep_118 rfl (lv_at hl 2 rfl) ?_
          refine pq_call (va_runV (C := RX0) (As := [.long p1]) (rest := []) ⟨hx, hb, hml, hown, hts⟩ (mt_X0_amount l dC dI nb h0 p1) (cwV 1 hts gX0_afterFurtherStep_X0_amount rfl rfl rfl (by decide +kernel) ⟨Nat.le_of_ble_eq_true rfl, Nat.le_of_ble_eq_true rfl⟩) ⟨pq_blind, va_recv hK hP (ci := 0) (q0 := 0) rfl rfl, pq_pre hP hK hA⟩ rfl rfl hl.1 rfl (lv_room (Nat.le_of_ble_eq_true rfl)) dX0_afterFurtherStep_119 ⟨Nat.zero_le _, Nat.zero_le _⟩) ?_
          refine lv_lconst (v := 0) hx hb dX0_afterFurtherStep_122 (by decide) ?_
          refine pq_lcmp_ne (tgt := 131) hx hb dX0_afterFurtherStep_123 dX0_afterFurtherStep_124 (by decide) (fun h9 => ?_) (fun h9 => ?_)
          · refine lv_aload_n hx hb dX0_afterFurtherStep_131 rfl (lv_at hl 0 rfl) ?_
            refine lv_lload_n hx hb dX0_afterFurtherStep_132 rfl (lv_at hl 2 rfl) ?_
            refine lv_aload_n hx hb dX0_afterFurtherStep_133 rfl (lv_at hl 0 rfl) ?_
            refine va_get (D := (dC, dI)) (ci := 0) (v := .long (ff_one nb)) (C := RX0) (T := TX0) (N := 10) hx hb hts hin hown hK hP 0 rfl rfl 8 (by decide) (hts (.fieldLink RX0 33 "WeatherMast$Floats" "one" "J") (by decide +kernel)) (fun _ h9 => h9) rfl dX0_afterFurtherStep_134 ?_
            refine pq_call (va_runV (C := RX0) (As := [.long p1, .long (ff_one nb)]) (rest := []) ⟨hx, hb, hml, hown, hts⟩ (mt_X0_withSignOf l dC dI nb h0 p1 (ff_one nb)) (cwV 2 hts gX0_afterFurtherStep_X0_withSignOf rfl rfl rfl (by decide +kernel) ⟨Nat.le_of_ble_eq_true rfl, Nat.le_of_ble_eq_true rfl⟩) ⟨pq_blind, va_recv hK hP (ci := 0) (q0 := 0) rfl rfl, pq_pre hP hK hA⟩ rfl rfl hl.1 rfl (lv_room (Nat.le_of_ble_eq_true rfl)) dX0_afterFurtherStep_137 ⟨Nat.zero_le _, Nat.zero_le _⟩) ?_
            exact W.lret (v := (fl_withSignOf nb p1 (ff_one nb))) hx hb hr (fun t ht hW => ⟨congrArg (fun z => Outcome.returned (some (Value.long z))) (show _ = fl_afterFurtherStep nb p0 p1 p2 from Eq.symm (show fl_afterFurtherStep nb p0 p1 p2 = _ from ((if_neg h1).trans ((if_neg h4).trans ((if_neg h7).trans ((if_pos h8).trans (if_neg h9))))))), ht⟩) (fun q hq => absurd hq List.not_mem_nil) dX0_afterFurtherStep_140
          · refine lv_lload_n hx hb dX0_afterFurtherStep_127 rfl (lv_at hl 2 rfl) ?_
            refine lv_goto (tgt := 140) hx hb dX0_afterFurtherStep_128 (by decide) ?_
            exact W.lret (v := p1) hx hb hr (fun t ht hW => ⟨congrArg (fun z => Outcome.returned (some (Value.long z))) (show _ = fl_afterFurtherStep nb p0 p1 p2 from Eq.symm (show fl_afterFurtherStep nb p0 p1 p2 = _ from ((if_neg h1).trans ((if_neg h4).trans ((if_neg h7).trans ((if_pos h8).trans (if_pos h9))))))), ht⟩) (fun q hq => absurd hq List.not_mem_nil) dX0_afterFurtherStep_140
        · by_cases h10 : p0 = 7
          · refine lv_tableIn (off := 140) (tgt := 141) hx hb dX0_afterFurtherStep_1 (by rw [h10]; decide) (by rw [h10]; decide) (by rw [h10]; rfl) (by decide) ?_
            refine lv_aload_n hx hb dX0_afterFurtherStep_141 rfl (lv_at hl 0 rfl) ?_
            refine lv_lload hx hb dX0_afterFurtherStep_142 (lv_at hl 3 rfl) ?_
            refine lv_aload_n hx hb dX0_afterFurtherStep_144 rfl (lv_at hl 0 rfl) ?_
            refine lv_lload_n hx hb dX0_afterFurtherStep_145 rfl (lv_at hl 2 rfl) ?_
            refine pq_call (va_runV (C := RX0) (As := [.long p1]) (rest := [.long p2, .ref h0]) ⟨hx, hb, hml, hown, hts⟩ (mt_X0_amount l dC dI nb h0 p1) (cwV 1 hts gX0_afterFurtherStep_X0_amount rfl rfl rfl (by decide +kernel) ⟨Nat.le_of_ble_eq_true rfl, Nat.le_of_ble_eq_true rfl⟩) ⟨pq_blind, va_recv hK hP (ci := 0) (q0 := 0) rfl rfl, pq_pre hP hK hA⟩ rfl rfl hl.1 rfl (lv_room (Nat.le_of_ble_eq_true rfl)) dX0_afterFurtherStep_146 ⟨Nat.zero_le _, Nat.zero_le _⟩) ?_
            refine pq_call (va_runV (C := RX0) (As := [.long p2, .long (fl_amount nb p1)]) (rest := []) ⟨hx, hb, hml, hown, hts⟩ (mt_X0_withSignOf l dC dI nb h0 p2 (fl_amount nb p1)) (cwV 2 hts gX0_afterFurtherStep_X0_withSignOf rfl rfl rfl (by decide +kernel) ⟨Nat.le_of_ble_eq_true rfl, Nat.le_of_ble_eq_true rfl⟩) ⟨pq_blind, va_recv hK hP (ci := 0) (q0 := 0) rfl rfl, pq_pre hP hK hA⟩ rfl rfl hl.1 rfl (lv_room (Nat.le_of_ble_eq_true rfl)) dX0_afterFurtherStep_149 ⟨Nat.zero_le _, Nat.zero_le _⟩) ?_
            exact W.lret (v := (fl_withSignOf nb p2 (fl_amount nb p1))) hx hb hr (fun t ht hW => ⟨congrArg (fun z => Outcome.returned (some (Value.long z))) (show _ = fl_afterFurtherStep nb p0 p1 p2 from Eq.symm (show fl_afterFurtherStep nb p0 p1 p2 = _ from ((if_neg h1).trans ((if_neg h4).trans ((if_neg h7).trans ((if_neg h8).trans (if_pos h10))))))), ht⟩) (fun q hq => absurd hq List.not_mem_nil) dX0_afterFurtherStep_152
          · refine lv_tableOut (tgt := 153) hx hb dX0_afterFurtherStep_1 (by have a0 := lv_neT h1 (a := 3) rfl; have a1 := lv_neT h4 (a := 4) rfl; have a2 := lv_neT h7 (a := 5) rfl; have a3 := lv_neT h8 (a := 6) rfl; have a4 := lv_neT h10 (a := 7) rfl; omega) (by decide) ?_
            refine lv_lload_n hx hb dX0_afterFurtherStep_153 rfl (lv_at hl 2 rfl) ?_
            exact W.lret (v := p1) hx hb hr (fun t ht hW => ⟨congrArg (fun z => Outcome.returned (some (Value.long z))) (show _ = fl_afterFurtherStep nb p0 p1 p2 from Eq.symm (show fl_afterFurtherStep nb p0 p1 p2 = _ from ((if_neg h1).trans ((if_neg h4).trans ((if_neg h7).trans ((if_neg h8).trans (if_neg h10))))))), ht⟩) (fun q hq => absurd hq List.not_mem_nil) dX0_afterFurtherStep_154
def fl_asInt (nb : Bool) (p0 : Int64) : Int32 := if (ff_one nb) ≤ (fl_amount nb p0) then if ((fl_exponent nb (fl_amount nb p0)) - (ff_bias nb)) < 31 then (Int64.toInt32 (if 0 ≤ p0 then (if (((fl_exponent nb (fl_amount nb p0)) - (ff_bias nb)) - (ff_fractionBits nb)) < 0 then ((fl_digits nb (fl_amount nb p0)) >>> (Int32.toInt64 (-(((fl_exponent nb (fl_amount nb p0)) - (ff_bias nb)) - (ff_fractionBits nb))) &&& 63)) else ((fl_digits nb (fl_amount nb p0)) <<< (Int32.toInt64 (((fl_exponent nb (fl_amount nb p0)) - (ff_bias nb)) - (ff_fractionBits nb)) &&& 63))) else (-(if (((fl_exponent nb (fl_amount nb p0)) - (ff_bias nb)) - (ff_fractionBits nb)) < 0 then ((fl_digits nb (fl_amount nb p0)) >>> (Int32.toInt64 (-(((fl_exponent nb (fl_amount nb p0)) - (ff_bias nb)) - (ff_fractionBits nb))) &&& 63)) else ((fl_digits nb (fl_amount nb p0)) <<< (Int32.toInt64 (((fl_exponent nb (fl_amount nb p0)) - (ff_bias nb)) - (ff_fractionBits nb)) &&& 63)))))) else (if 0 ≤ p0 then 2147483647 else ((-2147483648))) else (0)
set_option maxHeartbeats 4000000 in
set_option maxRecDepth 100000 in
theorem mt_X0_asInt (l : Launch) (dC : Nat → ClassId) (dI : Nat → Nat → Nat) (nb : Bool) (h0 : Nat) (p0 : Int64) : Met l yX0_asInt wsX0_asInt ({ frames := 1, cells := 0, slots := 0, locals := 22 }) (pq_Pc (dC, dI) h0 (0, fl_F nb) [.ref h0, .long p0]) (pq_V (.int (fl_asInt nb p0))) 0 0 (fun _ => False) := by
  refine Met.ofW (cc := cX0_asInt) (maxL := 9) (ret := (some .int)) (by decide) rfl ?_
  intro p e s m args below meth c s₁ B hml hv
  obtain ⟨rfl, hP, hK, hA⟩ := hv
  have hx := B.exec
  have hb := B.bytes
  have hr := B.returns
  have hts := atoms_spec (ws := wsX0_asInt) B.pre
  have hown : s.vm.findClass RX0 = some m.cls := findClass_of_methodNamed B.named
  have hlocks := B.notSynchronized
  have hin : ∀ w ∈ wsX00, w ∈ wsX0_asInt := by decide +kernel
  have hl := lv_entry ([.ref h0, .long p0]) (n := 9) (Nat.le_of_ble_eq_true rfl)
  rw [lg_entry_eq]
  generalize (lg_sl ([.ref h0, .long p0]) ++ List.replicate (9 - (lg_sl ([.ref h0, .long p0])).length) Slot.unset).toArray = ls at hl ⊢
  have hl : lv_has ls 9 [(0, .ref h0), (1, .long p0)] := hl
  refine lv_aload_n hx hb dX0_asInt_0 rfl (lv_at hl 0 rfl) ?_
  refine lv_lload_n hx hb dX0_asInt_1 rfl (lv_at hl 1 rfl) ?_
  refine pq_call (va_runV (C := RX0) (As := [.long p0]) (rest := []) ⟨hx, hb, hml, hown, hts⟩ (mt_X0_amount l dC dI nb h0 p0) (cwV 1 hts gX0_asInt_X0_amount rfl rfl rfl (by decide +kernel) ⟨Nat.le_of_ble_eq_true rfl, Nat.le_of_ble_eq_true rfl⟩) ⟨pq_blind, va_recv hK hP (ci := 0) (q0 := 0) rfl rfl, pq_pre hP hK hA⟩ rfl rfl hl.1 rfl (lv_room (Nat.le_of_ble_eq_true rfl)) dX0_asInt_2 ⟨Nat.zero_le _, Nat.zero_le _⟩) ?_
  refine lv_lstore_n (lv' := [(3, .long (fl_amount nb p0)), (0, .ref h0), (1, .long p0)]) hx hb dX0_asInt_5 rfl hl (by decide) rfl (fun ls hl => ?_)
  refine lv_lload_n hx hb dX0_asInt_6 rfl (lv_at hl 0 rfl) ?_
  refine lv_aload_n hx hb dX0_asInt_7 rfl (lv_at hl 1 rfl) ?_
  refine va_get (D := (dC, dI)) (ci := 0) (v := .long (ff_one nb)) (C := RX0) (T := TX0) (N := 10) hx hb hts hin hown hK hP 0 rfl rfl 8 (by decide) (hts (.fieldLink RX0 33 "WeatherMast$Floats" "one" "J") (by decide +kernel)) (fun _ h9 => h9) rfl dX0_asInt_8 ?_
  refine pq_lcmp_ge (tgt := 17) hx hb dX0_asInt_11 dX0_asInt_12 (by decide) (fun h1 => ?_) (fun h1 => ?_)
  · refine lv_aload_n hx hb dX0_asInt_17 rfl (lv_at hl 1 rfl) ?_
    refine lv_lload_n hx hb dX0_asInt_18 rfl (lv_at hl 0 rfl) ?_
    refine pq_call (va_runV (C := RX0) (As := [.long (fl_amount nb p0)]) (rest := []) ⟨hx, hb, hml, hown, hts⟩ (mt_X0_exponent l dC dI nb h0 (fl_amount nb p0)) (cwV 1 hts gX0_asInt_X0_exponent rfl rfl rfl (by decide +kernel) ⟨Nat.le_of_ble_eq_true rfl, Nat.le_of_ble_eq_true rfl⟩) ⟨pq_blind, va_recv hK hP (ci := 0) (q0 := 0) rfl rfl, pq_pre hP hK hA⟩ rfl rfl hl.1 rfl (lv_room (Nat.le_of_ble_eq_true rfl)) dX0_asInt_19 ⟨Nat.zero_le _, Nat.zero_le _⟩) ?_
    refine lv_aload_n hx hb dX0_asInt_22 rfl (lv_at hl 1 rfl) ?_
    refine va_get (D := (dC, dI)) (ci := 0) (v := .int (ff_bias nb)) (C := RX0) (T := TX0) (N := 10) hx hb hts hin hown hK hP 0 rfl rfl 5 (by decide) (hts (.fieldLink RX0 23 "WeatherMast$Floats" "bias" "I") (by decide +kernel)) (fun _ h9 => h9) rfl dX0_asInt_23 ?_
    refine lv_isub hx hb dX0_asInt_26 ?_
    refine lv_istore (lv' := [(5, .int ((fl_exponent nb (fl_amount nb p0)) - (ff_bias nb))), (3, .long (fl_amount nb p0)), (0, .ref h0), (1, .long p0)]) hx hb dX0_asInt_27 hl (by decide) rfl (fun ls hl => ?_)
    refine lv_iload hx hb dX0_asInt_29 (lv_at hl 0 rfl) ?_
    refine lv_bipush (v := 31) hx hb dX0_asInt_31 (by decide) ?_
    refine lv_icmp_lt (tgt := 50) hx hb dX0_asInt_33 (by decide) (fun h2 => ?_) (fun h2 => ?_)
    · refine lv_iload hx hb dX0_asInt_50 (lv_at hl 0 rfl) ?_
      refine lv_aload_n hx hb dX0_asInt_52 rfl (lv_at hl 2 rfl) ?_
      refine va_get (D := (dC, dI)) (ci := 0) (v := .int (ff_fractionBits nb)) (C := RX0) (T := TX0) (N := 10) hx hb hts hin hown hK hP 0 rfl rfl 4 (by decide) (hts (.fieldLink RX0 19 "WeatherMast$Floats" "fractionBits" "I") (by decide +kernel)) (fun _ h9 => h9) rfl dX0_asInt_53 ?_
      refine lv_isub hx hb dX0_asInt_56 ?_
      refine lv_istore (lv' := [(6, .int (((fl_exponent nb (fl_amount nb p0)) - (ff_bias nb)) - (ff_fractionBits nb))), (5, .int ((fl_exponent nb (fl_amount nb p0)) - (ff_bias nb))), (3, .long (fl_amount nb p0)), (0, .ref h0), (1, .long p0)]) hx hb dX0_asInt_57 hl (by decide) rfl (fun ls hl => ?_)
      refine lv_iload hx hb dX0_asInt_59 (lv_at hl 0 rfl) ?_
      refine pq_cut (g2 := F0 m 84 ls [.long (if (((fl_exponent nb (fl_amount nb p0)) - (ff_bias nb)) - (ff_fractionBits nb)) < 0 then ((fl_digits nb (fl_amount nb p0)) >>> (Int32.toInt64 (-(((fl_exponent nb (fl_amount nb p0)) - (ff_bias nb)) - (ff_fractionBits nb))) &&& 63)) else ((fl_digits nb (fl_amount nb p0)) <<< (Int32.toInt64 (((fl_exponent nb (fl_amount nb p0)) - (ff_bias nb)) - (ff_fractionBits nb)) &&& 63)))]) (fun K3 => ?_) ?_
      · refine lv_if_lt (tgt := 75) hx hb dX0_asInt_61 (by decide) (fun h4 => ?_) (fun h4 => ?_)
        · refine lv_aload_n hx hb dX0_asInt_75 rfl (lv_at hl 3 rfl) ?_
          refine lv_lload_n hx hb dX0_asInt_76 rfl (lv_at hl 2 rfl) ?_
          refine pq_call (va_runV (C := RX0) (As := [.long (fl_amount nb p0)]) (rest := []) ⟨hx, hb, hml, hown, hts⟩ (mt_X0_digits l dC dI nb h0 (fl_amount nb p0)) (cwV 1 hts gX0_asInt_X0_digits rfl rfl rfl (by decide +kernel) ⟨Nat.le_of_ble_eq_true rfl, Nat.le_of_ble_eq_true rfl⟩) ⟨pq_blind, va_recv hK hP (ci := 0) (q0 := 0) rfl rfl, pq_pre hP hK hA⟩ rfl rfl hl.1 rfl (lv_room (Nat.le_of_ble_eq_true rfl)) dX0_asInt_77 ⟨Nat.zero_le _, Nat.zero_le _⟩) ?_
          refine lv_iload hx hb dX0_asInt_80 (lv_at hl 0 rfl) ?_
          refine lv_ineg hx hb dX0_asInt_82 ?_
          refine lv_lshr (v := ((fl_digits nb (fl_amount nb p0)) >>> (Int32.toInt64 (-(((fl_exponent nb (fl_amount nb p0)) - (ff_bias nb)) - (ff_fractionBits nb))) &&& 63))) hx hb dX0_asInt_83 rfl ?_
          exact pq_conv K3 (congrArg Value.long (if_pos h4))
        · refine lv_aload_n hx hb dX0_asInt_64 rfl (lv_at hl 3 rfl) ?_
          refine lv_lload_n hx hb dX0_asInt_65 rfl (lv_at hl 2 rfl) ?_
          refine pq_call (va_runV (C := RX0) (As := [.long (fl_amount nb p0)]) (rest := []) ⟨hx, hb, hml, hown, hts⟩ (mt_X0_digits l dC dI nb h0 (fl_amount nb p0)) (cwV 1 hts gX0_asInt_X0_digits rfl rfl rfl (by decide +kernel) ⟨Nat.le_of_ble_eq_true rfl, Nat.le_of_ble_eq_true rfl⟩) ⟨pq_blind, va_recv hK hP (ci := 0) (q0 := 0) rfl rfl, pq_pre hP hK hA⟩ rfl rfl hl.1 rfl (lv_room (Nat.le_of_ble_eq_true rfl)) dX0_asInt_66 ⟨Nat.zero_le _, Nat.zero_le _⟩) ?_
          refine lv_iload hx hb dX0_asInt_69 (lv_at hl 0 rfl) ?_
          refine lv_lshl (v := ((fl_digits nb (fl_amount nb p0)) <<< (Int32.toInt64 (((fl_exponent nb (fl_amount nb p0)) - (ff_bias nb)) - (ff_fractionBits nb)) &&& 63))) hx hb dX0_asInt_71 rfl ?_
          refine lv_goto (tgt := 84) hx hb dX0_asInt_72 (by decide) ?_
          exact pq_conv K3 (congrArg Value.long (if_neg h4))
      refine lv_lstore (lv' := [(7, .long (if (((fl_exponent nb (fl_amount nb p0)) - (ff_bias nb)) - (ff_fractionBits nb)) < 0 then ((fl_digits nb (fl_amount nb p0)) >>> (Int32.toInt64 (-(((fl_exponent nb (fl_amount nb p0)) - (ff_bias nb)) - (ff_fractionBits nb))) &&& 63)) else ((fl_digits nb (fl_amount nb p0)) <<< (Int32.toInt64 (((fl_exponent nb (fl_amount nb p0)) - (ff_bias nb)) - (ff_fractionBits nb)) &&& 63)))), (6, .int (((fl_exponent nb (fl_amount nb p0)) - (ff_bias nb)) - (ff_fractionBits nb))), (5, .int ((fl_exponent nb (fl_amount nb p0)) - (ff_bias nb))), (3, .long (fl_amount nb p0)), (0, .ref h0), (1, .long p0)]) hx hb dX0_asInt_84 hl (by decide) rfl (fun ls hl => ?_)
      refine lv_lload_n hx hb dX0_asInt_86 rfl (lv_at hl 5 rfl) ?_
      refine lv_lconst (v := 0) hx hb dX0_asInt_87 (by decide) ?_
      refine pq_cut (g2 := F0 m 100 ls [.long (if 0 ≤ p0 then (if (((fl_exponent nb (fl_amount nb p0)) - (ff_bias nb)) - (ff_fractionBits nb)) < 0 then ((fl_digits nb (fl_amount nb p0)) >>> (Int32.toInt64 (-(((fl_exponent nb (fl_amount nb p0)) - (ff_bias nb)) - (ff_fractionBits nb))) &&& 63)) else ((fl_digits nb (fl_amount nb p0)) <<< (Int32.toInt64 (((fl_exponent nb (fl_amount nb p0)) - (ff_bias nb)) - (ff_fractionBits nb)) &&& 63))) else (-(if (((fl_exponent nb (fl_amount nb p0)) - (ff_bias nb)) - (ff_fractionBits nb)) < 0 then ((fl_digits nb (fl_amount nb p0)) >>> (Int32.toInt64 (-(((fl_exponent nb (fl_amount nb p0)) - (ff_bias nb)) - (ff_fractionBits nb))) &&& 63)) else ((fl_digits nb (fl_amount nb p0)) <<< (Int32.toInt64 (((fl_exponent nb (fl_amount nb p0)) - (ff_bias nb)) - (ff_fractionBits nb)) &&& 63)))))]) (fun K5 => ?_) ?_
      · refine pq_lcmp_ge (tgt := 98) hx hb dX0_asInt_88 dX0_asInt_89 (by decide) (fun h6 => ?_) (fun h6 => ?_)
        · refine lv_lload hx hb dX0_asInt_98 (lv_at hl 0 rfl) ?_
          exact pq_conv K5 (congrArg Value.long (if_pos h6))
        · refine lv_lload hx hb dX0_asInt_92 (lv_at hl 0 rfl) ?_
          refine lv_lneg hx hb dX0_asInt_94 ?_
          refine lv_goto (tgt := 100) hx hb dX0_asInt_95 (by decide) ?_
          exact pq_conv K5 (congrArg Value.long (if_neg h6))
      refine lv_l2i (v := (Int64.toInt32 (if 0 ≤ p0 then (if (((fl_exponent nb (fl_amount nb p0)) - (ff_bias nb)) - (ff_fractionBits nb)) < 0 then ((fl_digits nb (fl_amount nb p0)) >>> (Int32.toInt64 (-(((fl_exponent nb (fl_amount nb p0)) - (ff_bias nb)) - (ff_fractionBits nb))) &&& 63)) else ((fl_digits nb (fl_amount nb p0)) <<< (Int32.toInt64 (((fl_exponent nb (fl_amount nb p0)) - (ff_bias nb)) - (ff_fractionBits nb)) &&& 63))) else (-(if (((fl_exponent nb (fl_amount nb p0)) - (ff_bias nb)) - (ff_fractionBits nb)) < 0 then ((fl_digits nb (fl_amount nb p0)) >>> (Int32.toInt64 (-(((fl_exponent nb (fl_amount nb p0)) - (ff_bias nb)) - (ff_fractionBits nb))) &&& 63)) else ((fl_digits nb (fl_amount nb p0)) <<< (Int32.toInt64 (((fl_exponent nb (fl_amount nb p0)) - (ff_bias nb)) - (ff_fractionBits nb)) &&& 63))))))) hx hb dX0_asInt_100 rfl ?_
      exact W.iret (v := (Int64.toInt32 (if 0 ≤ p0 then (if (((fl_exponent nb (fl_amount nb p0)) - (ff_bias nb)) - (ff_fractionBits nb)) < 0 then ((fl_digits nb (fl_amount nb p0)) >>> (Int32.toInt64 (-(((fl_exponent nb (fl_amount nb p0)) - (ff_bias nb)) - (ff_fractionBits nb))) &&& 63)) else ((fl_digits nb (fl_amount nb p0)) <<< (Int32.toInt64 (((fl_exponent nb (fl_amount nb p0)) - (ff_bias nb)) - (ff_fractionBits nb)) &&& 63))) else (-(if (((fl_exponent nb (fl_amount nb p0)) - (ff_bias nb)) - (ff_fractionBits nb)) < 0 then ((fl_digits nb (fl_amount nb p0)) >>> (Int32.toInt64 (-(((fl_exponent nb (fl_amount nb p0)) - (ff_bias nb)) - (ff_fractionBits nb))) &&& 63)) else ((fl_digits nb (fl_amount nb p0)) <<< (Int32.toInt64 (((fl_exponent nb (fl_amount nb p0)) - (ff_bias nb)) - (ff_fractionBits nb)) &&& 63))))))) hx hb hr (fun t ht hW => ⟨congrArg (fun z => Outcome.returned (some (Value.int z))) (show _ = fl_asInt nb p0 from Eq.symm (show fl_asInt nb p0 = _ from ((if_pos h1).trans (if_pos h2)))), ht⟩) (fun q hq => absurd hq List.not_mem_nil) dX0_asInt_101
    · refine lv_lload_n hx hb dX0_asInt_36 rfl (lv_at hl 3 rfl) ?_
      refine lv_lconst (v := 0) hx hb dX0_asInt_37 (by decide) ?_
      refine pq_lcmp_ge (tgt := 47) hx hb dX0_asInt_38 dX0_asInt_39 (by decide) (fun h7 => ?_) (fun h7 => ?_)
      · refine lv_ldc hx hb hown (hts (.constant RX0 97 (2147483647)) (by decide +kernel)) dX0_asInt_47 ?_
        exact W.iret (v := 2147483647) hx hb hr (fun t ht hW => ⟨congrArg (fun z => Outcome.returned (some (Value.int z))) (show _ = fl_asInt nb p0 from Eq.symm (show fl_asInt nb p0 = _ from ((if_pos h1).trans ((if_neg h2).trans (if_pos h7))))), ht⟩) (fun q hq => absurd hq List.not_mem_nil) dX0_asInt_49
      · refine lv_ldc hx hb hown (hts (.constant RX0 96 (-2147483648)) (by decide +kernel)) dX0_asInt_42 ?_
        refine lv_goto (tgt := 49) hx hb dX0_asInt_44 (by decide) ?_
        exact W.iret (v := (-2147483648)) hx hb hr (fun t ht hW => ⟨congrArg (fun z => Outcome.returned (some (Value.int z))) (show _ = fl_asInt nb p0 from Eq.symm (show fl_asInt nb p0 = _ from ((if_pos h1).trans ((if_neg h2).trans (if_neg h7))))), ht⟩) (fun q hq => absurd hq List.not_mem_nil) dX0_asInt_49
  · refine lv_iconst (v := 0) hx hb dX0_asInt_15 (by decide) ?_
    exact W.iret (v := 0) hx hb hr (fun t ht hW => ⟨congrArg (fun z => Outcome.returned (some (Value.int z))) (show _ = fl_asInt nb p0 from Eq.symm (show fl_asInt nb p0 = _ from (if_neg h1))), ht⟩) (fun q hq => absurd hq List.not_mem_nil) dX0_asInt_16
def fl_heard (nb : Bool) (p0 : Int64) : Int64 := if (ff_narrow nb) = 0 then p0 else ((Int32.toInt64 (Int64.toInt32 p0)))
set_option maxHeartbeats 4000000 in
set_option maxRecDepth 100000 in
theorem mt_X2_heard_X0 (l : Launch) (dC : Nat → ClassId) (dI : Nat → Nat → Nat) (nb : Bool) (h0 : Nat) (p0 : Int64) : Met l yX2_heard wsX2_heard ({ frames := 0, cells := 0, slots := 0, locals := 0 }) (pq_Pc (dC, dI) h0 (0, fl_F nb) [.ref h0, .long p0]) (pq_V (.long (fl_heard nb p0))) 0 0 (fun _ => False) := by
  refine Met.ofW (cc := cX2_heard) (maxL := 3) (ret := (some .long)) (by decide) rfl ?_
  intro p e s m args below meth c s₁ B hml hv
  obtain ⟨rfl, hP, hK, hA⟩ := hv
  have hx := B.exec
  have hb := B.bytes
  have hr := B.returns
  have hts := atoms_spec (ws := wsX2_heard) B.pre
  have hown : s.vm.findClass RX2 = some m.cls := findClass_of_methodNamed B.named
  have hlocks := B.notSynchronized
  have hin : ∀ w ∈ wsX00, w ∈ wsX2_heard := by decide +kernel
  have hl := lv_entry ([.ref h0, .long p0]) (n := 3) (Nat.le_of_ble_eq_true rfl)
  rw [lg_entry_eq]
  generalize (lg_sl ([.ref h0, .long p0]) ++ List.replicate (3 - (lg_sl ([.ref h0, .long p0])).length) Slot.unset).toArray = ls at hl ⊢
  have hl : lv_has ls 3 [(0, .ref h0), (1, .long p0)] := hl
  refine lv_aload_n hx hb dX2_heard_0 rfl (lv_at hl 0 rfl) ?_
  refine va_get (D := (dC, dI)) (ci := 0) (v := .int (ff_narrow nb)) (C := RX0) (T := TX0) (N := 10) hx hb hts hin hown hK hP 0 rfl rfl 0 (by decide) (hts (.fieldLink RX2 9 "WeatherMast$Sort" "narrow" "Z") (by decide +kernel)) (fun _ h9 => h9) rfl dX2_heard_1 ?_
  refine lv_if_eq (tgt := 13) hx hb dX2_heard_4 (by decide) (fun h1 => ?_) (fun h1 => ?_)
  · refine lv_lload_n hx hb dX2_heard_13 rfl (lv_at hl 1 rfl) ?_
    exact W.lret (v := p0) hx hb hr (fun t ht hW => ⟨congrArg (fun z => Outcome.returned (some (Value.long z))) (show _ = fl_heard nb p0 from Eq.symm (show fl_heard nb p0 = _ from (if_pos h1))), ht⟩) (fun q hq => absurd hq List.not_mem_nil) dX2_heard_14
  · refine lv_lload_n hx hb dX2_heard_7 rfl (lv_at hl 1 rfl) ?_
    refine lv_l2i (v := (Int64.toInt32 p0)) hx hb dX2_heard_8 rfl ?_
    refine lv_i2l (v := (Int32.toInt64 (Int64.toInt32 p0))) hx hb dX2_heard_9 rfl ?_
    refine lv_goto (tgt := 14) hx hb dX2_heard_10 (by decide) ?_
    exact W.lret (v := (Int32.toInt64 (Int64.toInt32 p0))) hx hb hr (fun t ht hW => ⟨congrArg (fun z => Outcome.returned (some (Value.long z))) (show _ = fl_heard nb p0 from Eq.symm (show fl_heard nb p0 = _ from (if_neg h1))), ht⟩) (fun q hq => absurd hq List.not_mem_nil) dX2_heard_14
def wh_heard (nb : Bool) (p0 : Int64) : Int64 := if (ff_narrow nb) = 0 then p0 else ((Int32.toInt64 (Int64.toInt32 p0)))
set_option maxHeartbeats 4000000 in
set_option maxRecDepth 100000 in
theorem mt_X2_heard_X4 (l : Launch) (dC : Nat → ClassId) (dI : Nat → Nat → Nat) (nb : Bool) (h0 : Nat) (p0 : Int64) : Met l yX2_heard wsX2_heard ({ frames := 0, cells := 0, slots := 0, locals := 0 }) (pq_Pc (dC, dI) h0 (3, wh_F nb) [.ref h0, .long p0]) (pq_V (.long (wh_heard nb p0))) 0 0 (fun _ => False) := by
  refine Met.ofW (cc := cX2_heard) (maxL := 3) (ret := (some .long)) (by decide) rfl ?_
  intro p e s m args below meth c s₁ B hml hv
  obtain ⟨rfl, hP, hK, hA⟩ := hv
  have hx := B.exec
  have hb := B.bytes
  have hr := B.returns
  have hts := atoms_spec (ws := wsX2_heard) B.pre
  have hown : s.vm.findClass RX2 = some m.cls := findClass_of_methodNamed B.named
  have hlocks := B.notSynchronized
  have hin : ∀ w ∈ wsX40, w ∈ wsX2_heard := by decide +kernel
  have hl := lv_entry ([.ref h0, .long p0]) (n := 3) (Nat.le_of_ble_eq_true rfl)
  rw [lg_entry_eq]
  generalize (lg_sl ([.ref h0, .long p0]) ++ List.replicate (3 - (lg_sl ([.ref h0, .long p0])).length) Slot.unset).toArray = ls at hl ⊢
  have hl : lv_has ls 3 [(0, .ref h0), (1, .long p0)] := hl
  refine lv_aload_n hx hb dX2_heard_0 rfl (lv_at hl 0 rfl) ?_
  refine va_get (D := (dC, dI)) (ci := 3) (v := .int (ff_narrow nb)) (C := RX4) (T := TX4) (N := 4) hx hb hts hin hown hK hP 0 rfl rfl 0 (by decide) (hts (.fieldLink RX2 9 "WeatherMast$Sort" "narrow" "Z") (by decide +kernel)) (fun _ h9 => h9) rfl dX2_heard_1 ?_
  refine lv_if_eq (tgt := 13) hx hb dX2_heard_4 (by decide) (fun h1 => ?_) (fun h1 => ?_)
  · refine lv_lload_n hx hb dX2_heard_13 rfl (lv_at hl 1 rfl) ?_
    exact W.lret (v := p0) hx hb hr (fun t ht hW => ⟨congrArg (fun z => Outcome.returned (some (Value.long z))) (show _ = wh_heard nb p0 from Eq.symm (show wh_heard nb p0 = _ from (if_pos h1))), ht⟩) (fun q hq => absurd hq List.not_mem_nil) dX2_heard_14
  · refine lv_lload_n hx hb dX2_heard_7 rfl (lv_at hl 1 rfl) ?_
    refine lv_l2i (v := (Int64.toInt32 p0)) hx hb dX2_heard_8 rfl ?_
    refine lv_i2l (v := (Int32.toInt64 (Int64.toInt32 p0))) hx hb dX2_heard_9 rfl ?_
    refine lv_goto (tgt := 14) hx hb dX2_heard_10 (by decide) ?_
    exact W.lret (v := (Int32.toInt64 (Int64.toInt32 p0))) hx hb hr (fun t ht hW => ⟨congrArg (fun z => Outcome.returned (some (Value.long z))) (show _ = wh_heard nb p0 from Eq.symm (show wh_heard nb p0 = _ from (if_neg h1))), ht⟩) (fun q hq => absurd hq List.not_mem_nil) dX2_heard_14
def wh_isNumber (nb : Bool) (p0 : Int64) : Int32 := 1
set_option maxHeartbeats 4000000 in
set_option maxRecDepth 100000 in
theorem mt_X4_isNumber (l : Launch) (dC : Nat → ClassId) (dI : Nat → Nat → Nat) (nb : Bool) (h0 : Nat) (p0 : Int64) : Met l yX4_isNumber wsX4_isNumber ({ frames := 0, cells := 0, slots := 0, locals := 0 }) (pq_Pc (dC, dI) h0 (3, wh_F nb) [.ref h0, .long p0]) (pq_V (.int (wh_isNumber nb p0))) 0 0 (fun _ => False) := by
  refine Met.ofW (cc := cX4_isNumber) (maxL := 3) (ret := (some .boolean)) (by decide) rfl ?_
  intro p e s m args below meth c s₁ B hml hv
  obtain ⟨rfl, hP, hK, hA⟩ := hv
  have hx := B.exec
  have hb := B.bytes
  have hr := B.returns
  have hts := atoms_spec (ws := wsX4_isNumber) B.pre
  have hown : s.vm.findClass RX4 = some m.cls := findClass_of_methodNamed B.named
  have hlocks := B.notSynchronized
  have hl := lv_entry ([.ref h0, .long p0]) (n := 3) (Nat.le_of_ble_eq_true rfl)
  rw [lg_entry_eq]
  generalize (lg_sl ([.ref h0, .long p0]) ++ List.replicate (3 - (lg_sl ([.ref h0, .long p0])).length) Slot.unset).toArray = ls at hl ⊢
  have hl : lv_has ls 3 [(0, .ref h0), (1, .long p0)] := hl
  refine lv_iconst (v := 1) hx hb dX4_isNumber_0 (by decide) ?_
  exact W.zret (v := 1) hx hb hr (by first | rfl | exact pq_nz) (fun t ht hW => ⟨congrArg (fun z => Outcome.returned (some (Value.int z))) (show _ = wh_isNumber nb p0 from Eq.symm (show wh_isNumber nb p0 = _ from rfl)), ht⟩) (fun q hq => absurd hq List.not_mem_nil) dX4_isNumber_1
def wh_hasStep (nb : Bool) (p0 : Int32) : Int32 := if p0 < 0 then 0 else (if 2 < p0 then 0 else (1))
set_option maxHeartbeats 4000000 in
set_option maxRecDepth 100000 in
theorem mt_X4_hasStep (l : Launch) (dC : Nat → ClassId) (dI : Nat → Nat → Nat) (nb : Bool) (h0 : Nat) (p0 : Int32) : Met l yX4_hasStep wsX4_hasStep ({ frames := 0, cells := 0, slots := 0, locals := 0 }) (pq_Pc (dC, dI) h0 (3, wh_F nb) [.ref h0, .int p0]) (pq_V (.int (wh_hasStep nb p0))) 0 0 (fun _ => False) := by
  refine Met.ofW (cc := cX4_hasStep) (maxL := 2) (ret := (some .boolean)) (by decide) rfl ?_
  intro p e s m args below meth c s₁ B hml hv
  obtain ⟨rfl, hP, hK, hA⟩ := hv
  have hx := B.exec
  have hb := B.bytes
  have hr := B.returns
  have hts := atoms_spec (ws := wsX4_hasStep) B.pre
  have hown : s.vm.findClass RX4 = some m.cls := findClass_of_methodNamed B.named
  have hlocks := B.notSynchronized
  have hl := lv_entry ([.ref h0, .int p0]) (n := 2) (Nat.le_of_ble_eq_true rfl)
  rw [lg_entry_eq]
  generalize (lg_sl ([.ref h0, .int p0]) ++ List.replicate (2 - (lg_sl ([.ref h0, .int p0])).length) Slot.unset).toArray = ls at hl ⊢
  have hl : lv_has ls 2 [(0, .ref h0), (1, .int p0)] := hl
  refine lv_iload_n hx hb dX4_hasStep_0 rfl (lv_at hl 1 rfl) ?_
  refine lv_if_lt (tgt := 13) hx hb dX4_hasStep_1 (by decide) (fun h1 => ?_) (fun h1 => ?_)
  · refine lv_iconst (v := 0) hx hb dX4_hasStep_13 (by decide) ?_
    exact W.zret (v := 0) hx hb hr (by first | rfl | exact pq_nz) (fun t ht hW => ⟨congrArg (fun z => Outcome.returned (some (Value.int z))) (show _ = wh_hasStep nb p0 from Eq.symm (show wh_hasStep nb p0 = _ from (if_pos h1))), ht⟩) (fun q hq => absurd hq List.not_mem_nil) dX4_hasStep_14
  · refine lv_iload_n hx hb dX4_hasStep_4 rfl (lv_at hl 1 rfl) ?_
    refine lv_iconst (v := 2) hx hb dX4_hasStep_5 (by decide) ?_
    refine lv_icmp_gt (tgt := 13) hx hb dX4_hasStep_6 (by decide) (fun h2 => ?_) (fun h2 => ?_)
    · refine lv_iconst (v := 0) hx hb dX4_hasStep_13 (by decide) ?_
      exact W.zret (v := 0) hx hb hr (by first | rfl | exact pq_nz) (fun t ht hW => ⟨congrArg (fun z => Outcome.returned (some (Value.int z))) (show _ = wh_hasStep nb p0 from Eq.symm (show wh_hasStep nb p0 = _ from ((if_neg h1).trans (if_pos h2)))), ht⟩) (fun q hq => absurd hq List.not_mem_nil) dX4_hasStep_14
    · refine lv_iconst (v := 1) hx hb dX4_hasStep_9 (by decide) ?_
      refine lv_goto (tgt := 14) hx hb dX4_hasStep_10 (by decide) ?_
      exact W.zret (v := 1) hx hb hr (by first | rfl | exact pq_nz) (fun t ht hW => ⟨congrArg (fun z => Outcome.returned (some (Value.int z))) (show _ = wh_hasStep nb p0 from Eq.symm (show wh_hasStep nb p0 = _ from ((if_neg h1).trans (if_neg h2)))), ht⟩) (fun q hq => absurd hq List.not_mem_nil) dX4_hasStep_14
def wh_amount (nb : Bool) (p0 : Int64) : Int64 := if 0 ≤ p0 then p0 else ((wh_heard nb (-p0)))
set_option maxHeartbeats 4000000 in
set_option maxRecDepth 100000 in
theorem mt_X4_amount (l : Launch) (dC : Nat → ClassId) (dI : Nat → Nat → Nat) (nb : Bool) (h0 : Nat) (p0 : Int64) : Met l yX4_amount wsX4_amount ({ frames := 1, cells := 0, slots := 0, locals := 22 }) (pq_Pc (dC, dI) h0 (3, wh_F nb) [.ref h0, .long p0]) (pq_V (.long (wh_amount nb p0))) 0 0 (fun _ => False) := by
  refine Met.ofW (cc := cX4_amount) (maxL := 3) (ret := (some .long)) (by decide) rfl ?_
  intro p e s m args below meth c s₁ B hml hv
  obtain ⟨rfl, hP, hK, hA⟩ := hv
  have hx := B.exec
  have hb := B.bytes
  have hr := B.returns
  have hts := atoms_spec (ws := wsX4_amount) B.pre
  have hown : s.vm.findClass RX4 = some m.cls := findClass_of_methodNamed B.named
  have hlocks := B.notSynchronized
  have hl := lv_entry ([.ref h0, .long p0]) (n := 3) (Nat.le_of_ble_eq_true rfl)
  rw [lg_entry_eq]
  generalize (lg_sl ([.ref h0, .long p0]) ++ List.replicate (3 - (lg_sl ([.ref h0, .long p0])).length) Slot.unset).toArray = ls at hl ⊢
  have hl : lv_has ls 3 [(0, .ref h0), (1, .long p0)] := hl
  refine lv_lload_n hx hb dX4_amount_0 rfl (lv_at hl 1 rfl) ?_
  refine lv_lconst (v := 0) hx hb dX4_amount_1 (by decide) ?_
  refine pq_lcmp_ge (tgt := 15) hx hb dX4_amount_2 dX4_amount_3 (by decide) (fun h1 => ?_) (fun h1 => ?_)
  · refine lv_lload_n hx hb dX4_amount_15 rfl (lv_at hl 1 rfl) ?_
    exact W.lret (v := p0) hx hb hr (fun t ht hW => ⟨congrArg (fun z => Outcome.returned (some (Value.long z))) (show _ = wh_amount nb p0 from Eq.symm (show wh_amount nb p0 = _ from (if_pos h1))), ht⟩) (fun q hq => absurd hq List.not_mem_nil) dX4_amount_16
  · refine lv_aload_n hx hb dX4_amount_6 rfl (lv_at hl 0 rfl) ?_
    refine lv_lload_n hx hb dX4_amount_7 rfl (lv_at hl 1 rfl) ?_
    refine lv_lneg hx hb dX4_amount_8 ?_
    refine pq_call (va_runU (C := RX4) (As := [.long (-p0)]) (rest := []) ⟨hx, hb, hml, hown, hts⟩ (mt_X2_heard_X4 l dC dI nb h0 (-p0)) (va_cwU 1 hts gX4_amount_X2_heard_u17X4 rfl rfl rfl rfl (by decide +kernel) ⟨Nat.le_of_ble_eq_true rfl, Nat.le_of_ble_eq_true rfl⟩) ⟨pq_blind, va_recv hK hP (ci := 3) (q0 := 0) rfl rfl, pq_pre hP hK hA⟩ rfl rfl hl.1 rfl (lv_room (Nat.le_of_ble_eq_true rfl)) dX4_amount_9 ⟨Nat.zero_le _, Nat.zero_le _⟩) ?_
    refine lv_goto (tgt := 16) hx hb dX4_amount_12 (by decide) ?_
    exact W.lret (v := (wh_heard nb (-p0))) hx hb hr (fun t ht hW => ⟨congrArg (fun z => Outcome.returned (some (Value.long z))) (show _ = wh_amount nb p0 from Eq.symm (show wh_amount nb p0 = _ from (if_neg h1))), ht⟩) (fun q hq => absurd hq List.not_mem_nil) dX4_amount_16
def wh_rank (nb : Bool) (p0 : Int64) : Int64 := p0
set_option maxHeartbeats 4000000 in
set_option maxRecDepth 100000 in
theorem mt_X4_rank (l : Launch) (dC : Nat → ClassId) (dI : Nat → Nat → Nat) (nb : Bool) (h0 : Nat) (p0 : Int64) : Met l yX4_rank wsX4_rank ({ frames := 0, cells := 0, slots := 0, locals := 0 }) (pq_Pc (dC, dI) h0 (3, wh_F nb) [.ref h0, .long p0]) (pq_V (.long (wh_rank nb p0))) 0 0 (fun _ => False) := by
  refine Met.ofW (cc := cX4_rank) (maxL := 3) (ret := (some .long)) (by decide) rfl ?_
  intro p e s m args below meth c s₁ B hml hv
  obtain ⟨rfl, hP, hK, hA⟩ := hv
  have hx := B.exec
  have hb := B.bytes
  have hr := B.returns
  have hts := atoms_spec (ws := wsX4_rank) B.pre
  have hown : s.vm.findClass RX4 = some m.cls := findClass_of_methodNamed B.named
  have hlocks := B.notSynchronized
  have hl := lv_entry ([.ref h0, .long p0]) (n := 3) (Nat.le_of_ble_eq_true rfl)
  rw [lg_entry_eq]
  generalize (lg_sl ([.ref h0, .long p0]) ++ List.replicate (3 - (lg_sl ([.ref h0, .long p0])).length) Slot.unset).toArray = ls at hl ⊢
  have hl : lv_has ls 3 [(0, .ref h0), (1, .long p0)] := hl
  refine lv_lload_n hx hb dX4_rank_0 rfl (lv_at hl 1 rfl) ?_
  exact W.lret (v := p0) hx hb hr (fun t ht hW => ⟨congrArg (fun z => Outcome.returned (some (Value.long z))) (show _ = wh_rank nb p0 from Eq.symm (show wh_rank nb p0 = _ from rfl)), ht⟩) (fun q hq => absurd hq List.not_mem_nil) dX4_rank_1
def wh_place (nb : Bool) (p0 : Int64) : Int64 := p0
set_option maxHeartbeats 4000000 in
set_option maxRecDepth 100000 in
theorem mt_X4_place (l : Launch) (dC : Nat → ClassId) (dI : Nat → Nat → Nat) (nb : Bool) (h0 : Nat) (p0 : Int64) : Met l yX4_place wsX4_place ({ frames := 0, cells := 0, slots := 0, locals := 0 }) (pq_Pc (dC, dI) h0 (3, wh_F nb) [.ref h0, .long p0]) (pq_V (.long (wh_place nb p0))) 0 0 (fun _ => False) := by
  refine Met.ofW (cc := cX4_place) (maxL := 3) (ret := (some .long)) (by decide) rfl ?_
  intro p e s m args below meth c s₁ B hml hv
  obtain ⟨rfl, hP, hK, hA⟩ := hv
  have hx := B.exec
  have hb := B.bytes
  have hr := B.returns
  have hts := atoms_spec (ws := wsX4_place) B.pre
  have hown : s.vm.findClass RX4 = some m.cls := findClass_of_methodNamed B.named
  have hlocks := B.notSynchronized
  have hl := lv_entry ([.ref h0, .long p0]) (n := 3) (Nat.le_of_ble_eq_true rfl)
  rw [lg_entry_eq]
  generalize (lg_sl ([.ref h0, .long p0]) ++ List.replicate (3 - (lg_sl ([.ref h0, .long p0])).length) Slot.unset).toArray = ls at hl ⊢
  have hl : lv_has ls 3 [(0, .ref h0), (1, .long p0)] := hl
  refine lv_lload_n hx hb dX4_place_0 rfl (lv_at hl 1 rfl) ?_
  exact W.lret (v := p0) hx hb hr (fun t ht hW => ⟨congrArg (fun z => Outcome.returned (some (Value.long z))) (show _ = wh_place nb p0 from Eq.symm (show wh_place nb p0 = _ from rfl)), ht⟩) (fun q hq => absurd hq List.not_mem_nil) dX4_place_1
def wh_addAmounts (nb : Bool) (p0 : Int64) (p1 : Int64) : Int64 := (wh_heard nb (p0 + p1))
set_option maxHeartbeats 4000000 in
set_option maxRecDepth 100000 in
theorem mt_X4_addAmounts (l : Launch) (dC : Nat → ClassId) (dI : Nat → Nat → Nat) (nb : Bool) (h0 : Nat) (p0 : Int64) (p1 : Int64) : Met l yX4_addAmounts wsX4_addAmounts ({ frames := 1, cells := 0, slots := 0, locals := 22 }) (pq_Pc (dC, dI) h0 (3, wh_F nb) [.ref h0, .long p0, .long p1]) (pq_V (.long (wh_addAmounts nb p0 p1))) 0 0 (fun _ => False) := by
  refine Met.ofW (cc := cX4_addAmounts) (maxL := 5) (ret := (some .long)) (by decide) rfl ?_
  intro p e s m args below meth c s₁ B hml hv
  obtain ⟨rfl, hP, hK, hA⟩ := hv
  have hx := B.exec
  have hb := B.bytes
  have hr := B.returns
  have hts := atoms_spec (ws := wsX4_addAmounts) B.pre
  have hown : s.vm.findClass RX4 = some m.cls := findClass_of_methodNamed B.named
  have hlocks := B.notSynchronized
  have hl := lv_entry ([.ref h0, .long p0, .long p1]) (n := 5) (Nat.le_of_ble_eq_true rfl)
  rw [lg_entry_eq]
  generalize (lg_sl ([.ref h0, .long p0, .long p1]) ++ List.replicate (5 - (lg_sl ([.ref h0, .long p0, .long p1])).length) Slot.unset).toArray = ls at hl ⊢
  have hl : lv_has ls 5 [(0, .ref h0), (1, .long p0), (3, .long p1)] := hl
  refine lv_aload_n hx hb dX4_addAmounts_0 rfl (lv_at hl 0 rfl) ?_
  refine lv_lload_n hx hb dX4_addAmounts_1 rfl (lv_at hl 1 rfl) ?_
  refine lv_lload_n hx hb dX4_addAmounts_2 rfl (lv_at hl 2 rfl) ?_
  refine lv_ladd hx hb dX4_addAmounts_3 ?_
  refine pq_call (va_runU (C := RX4) (As := [.long (p0 + p1)]) (rest := []) ⟨hx, hb, hml, hown, hts⟩ (mt_X2_heard_X4 l dC dI nb h0 (p0 + p1)) (va_cwU 1 hts gX4_addAmounts_X2_heard_u17X4 rfl rfl rfl rfl (by decide +kernel) ⟨Nat.le_of_ble_eq_true rfl, Nat.le_of_ble_eq_true rfl⟩) ⟨pq_blind, va_recv hK hP (ci := 3) (q0 := 0) rfl rfl, pq_pre hP hK hA⟩ rfl rfl hl.1 rfl (lv_room (Nat.le_of_ble_eq_true rfl)) dX4_addAmounts_4 ⟨Nat.zero_le _, Nat.zero_le _⟩) ?_
  exact W.lret (v := (wh_heard nb (p0 + p1))) hx hb hr (fun t ht hW => ⟨congrArg (fun z => Outcome.returned (some (Value.long z))) (show _ = wh_addAmounts nb p0 p1 from Eq.symm (show wh_addAmounts nb p0 p1 = _ from rfl)), ht⟩) (fun q hq => absurd hq List.not_mem_nil) dX4_addAmounts_7
def wh_apart (nb : Bool) (p0 : Int64) (p1 : Int64) : Int64 := (wh_amount nb (wh_heard nb (p0 - p1)))
set_option maxHeartbeats 4000000 in
set_option maxRecDepth 100000 in
theorem mt_X4_apart (l : Launch) (dC : Nat → ClassId) (dI : Nat → Nat → Nat) (nb : Bool) (h0 : Nat) (p0 : Int64) (p1 : Int64) : Met l yX4_apart wsX4_apart ({ frames := 2, cells := 0, slots := 0, locals := 44 }) (pq_Pc (dC, dI) h0 (3, wh_F nb) [.ref h0, .long p0, .long p1]) (pq_V (.long (wh_apart nb p0 p1))) 0 0 (fun _ => False) := by
  refine Met.ofW (cc := cX4_apart) (maxL := 5) (ret := (some .long)) (by decide) rfl ?_
  intro p e s m args below meth c s₁ B hml hv
  obtain ⟨rfl, hP, hK, hA⟩ := hv
  have hx := B.exec
  have hb := B.bytes
  have hr := B.returns
  have hts := atoms_spec (ws := wsX4_apart) B.pre
  have hown : s.vm.findClass RX4 = some m.cls := findClass_of_methodNamed B.named
  have hlocks := B.notSynchronized
  have hl := lv_entry ([.ref h0, .long p0, .long p1]) (n := 5) (Nat.le_of_ble_eq_true rfl)
  rw [lg_entry_eq]
  generalize (lg_sl ([.ref h0, .long p0, .long p1]) ++ List.replicate (5 - (lg_sl ([.ref h0, .long p0, .long p1])).length) Slot.unset).toArray = ls at hl ⊢
  have hl : lv_has ls 5 [(0, .ref h0), (1, .long p0), (3, .long p1)] := hl
  refine lv_aload_n hx hb dX4_apart_0 rfl (lv_at hl 0 rfl) ?_
  refine lv_aload_n hx hb dX4_apart_1 rfl (lv_at hl 0 rfl) ?_
  refine lv_lload_n hx hb dX4_apart_2 rfl (lv_at hl 1 rfl) ?_
  refine lv_lload_n hx hb dX4_apart_3 rfl (lv_at hl 2 rfl) ?_
  refine lv_lsub hx hb dX4_apart_4 ?_
  refine pq_call (va_runU (C := RX4) (As := [.long (p0 - p1)]) (rest := [.ref h0]) ⟨hx, hb, hml, hown, hts⟩ (mt_X2_heard_X4 l dC dI nb h0 (p0 - p1)) (va_cwU 1 hts gX4_apart_X2_heard_u17X4 rfl rfl rfl rfl (by decide +kernel) ⟨Nat.le_of_ble_eq_true rfl, Nat.le_of_ble_eq_true rfl⟩) ⟨pq_blind, va_recv hK hP (ci := 3) (q0 := 0) rfl rfl, pq_pre hP hK hA⟩ rfl rfl hl.1 rfl (lv_room (Nat.le_of_ble_eq_true rfl)) dX4_apart_5 ⟨Nat.zero_le _, Nat.zero_le _⟩) ?_
  refine pq_call (va_runV (C := RX4) (As := [.long (wh_heard nb (p0 - p1))]) (rest := []) ⟨hx, hb, hml, hown, hts⟩ (mt_X4_amount l dC dI nb h0 (wh_heard nb (p0 - p1))) (cwV 1 hts gX4_apart_X4_amount rfl rfl rfl (by decide +kernel) ⟨Nat.le_of_ble_eq_true rfl, Nat.le_of_ble_eq_true rfl⟩) ⟨pq_blind, va_recv hK hP (ci := 3) (q0 := 0) rfl rfl, pq_pre hP hK hA⟩ rfl rfl hl.1 rfl (lv_room (Nat.le_of_ble_eq_true rfl)) dX4_apart_8 ⟨Nat.zero_le _, Nat.zero_le _⟩) ?_
  exact W.lret (v := (wh_amount nb (wh_heard nb (p0 - p1)))) hx hb hr (fun t ht hW => ⟨congrArg (fun z => Outcome.returned (some (Value.long z))) (show _ = wh_apart nb p0 p1 from Eq.symm (show wh_apart nb p0 p1 = _ from rfl)), ht⟩) (fun q hq => absurd hq List.not_mem_nil) dX4_apart_11
def wh_asInt (nb : Bool) (p0 : Int64) : Int32 := (Int64.toInt32 (if (if p0 < 2147483647 then p0 else 2147483647) < (-2147483648) then (-2147483648) else (if p0 < 2147483647 then p0 else 2147483647)))
set_option maxHeartbeats 4000000 in
set_option maxRecDepth 100000 in
theorem mt_X4_asInt (l : Launch) (dC : Nat → ClassId) (dI : Nat → Nat → Nat) (nb : Bool) (h0 : Nat) (p0 : Int64) : Met l yX4_asInt wsX4_asInt ({ frames := 1, cells := 0, slots := 0, locals := 17 }) (pq_Pc (dC, dI) h0 (3, wh_F nb) [.ref h0, .long p0]) (pq_V (.int (wh_asInt nb p0))) 0 0 (fun _ => False) := by
  refine Met.ofW (cc := cX4_asInt) (maxL := 3) (ret := (some .int)) (by decide) rfl ?_
  intro p e s m args below meth c s₁ B hml hv
  obtain ⟨rfl, hP, hK, hA⟩ := hv
  have hx := B.exec
  have hb := B.bytes
  have hr := B.returns
  have hts := atoms_spec (ws := wsX4_asInt) B.pre
  have hown : s.vm.findClass RX4 = some m.cls := findClass_of_methodNamed B.named
  have hlocks := B.notSynchronized
  have hl := lv_entry ([.ref h0, .long p0]) (n := 3) (Nat.le_of_ble_eq_true rfl)
  rw [lg_entry_eq]
  generalize (lg_sl ([.ref h0, .long p0]) ++ List.replicate (3 - (lg_sl ([.ref h0, .long p0])).length) Slot.unset).toArray = ls at hl ⊢
  have hl : lv_has ls 3 [(0, .ref h0), (1, .long p0)] := hl
  refine lv_ldc2 hx hb hown (hts (.constantLong RX4 3 (-2147483648)) (by decide +kernel)) dX4_asInt_0 ?_
  refine lv_ldc2 hx hb hown (hts (.constantLong RX4 7 (2147483647)) (by decide +kernel)) dX4_asInt_3 ?_
  refine lv_lload_n hx hb dX4_asInt_6 rfl (lv_at hl 1 rfl) ?_
  refine va_mmin_long hx hb (hml.trans hl.1.symm) hown (hts (.methodLink RX4 26 Lib.MathLoose.min_long.x) (by decide +kernel)) (hts (.static Lib.MathLoose.min_long.x) (by decide +kernel)) (hts (.initialized "java/lang/Math") (by decide +kernel)) (hts (.code Lib.MathLoose.min_long.x Lib.MathLoose.min_long.code 4 (some .long)) (by decide +kernel)) (Nat.le_of_ble_eq_true rfl) (Nat.le_of_ble_eq_true rfl) (Nat.zero_le _) (Nat.zero_le _) dX4_asInt_7 ?_
  refine va_mmax_long hx hb (hml.trans hl.1.symm) hown (hts (.methodLink RX4 32 Lib.MathLoose.max_long.x) (by decide +kernel)) (hts (.static Lib.MathLoose.max_long.x) (by decide +kernel)) (hts (.initialized "java/lang/Math") (by decide +kernel)) (hts (.code Lib.MathLoose.max_long.x Lib.MathLoose.max_long.code 4 (some .long)) (by decide +kernel)) (Nat.le_of_ble_eq_true rfl) (Nat.le_of_ble_eq_true rfl) (Nat.zero_le _) (Nat.zero_le _) dX4_asInt_10 ?_
  refine lv_l2i (v := (Int64.toInt32 (if (if p0 < 2147483647 then p0 else 2147483647) < (-2147483648) then (-2147483648) else (if p0 < 2147483647 then p0 else 2147483647)))) hx hb dX4_asInt_13 rfl ?_
  exact W.iret (v := (Int64.toInt32 (if (if p0 < 2147483647 then p0 else 2147483647) < (-2147483648) then (-2147483648) else (if p0 < 2147483647 then p0 else 2147483647)))) hx hb hr (fun t ht hW => ⟨congrArg (fun z => Outcome.returned (some (Value.int z))) (show _ = wh_asInt nb p0 from Eq.symm (show wh_asInt nb p0 = _ from rfl)), ht⟩) (fun q hq => absurd hq List.not_mem_nil) dX4_asInt_14
def wh_afterFurtherStep (nb : Bool) (p0 : Int32) (p1 : Int64) (p2 : Int64) : Int64 := p1
set_option maxHeartbeats 4000000 in
set_option maxRecDepth 100000 in
theorem mt_X4_afterFurtherStep (l : Launch) (dC : Nat → ClassId) (dI : Nat → Nat → Nat) (nb : Bool) (h0 : Nat) (p0 : Int32) (p1 : Int64) (p2 : Int64) : Met l yX4_afterFurtherStep wsX4_afterFurtherStep ({ frames := 0, cells := 0, slots := 0, locals := 0 }) (pq_Pc (dC, dI) h0 (3, wh_F nb) [.ref h0, .int p0, .long p1, .long p2]) (pq_V (.long (wh_afterFurtherStep nb p0 p1 p2))) 0 0 (fun _ => False) := by
  refine Met.ofW (cc := cX4_afterFurtherStep) (maxL := 6) (ret := (some .long)) (by decide) rfl ?_
  intro p e s m args below meth c s₁ B hml hv
  obtain ⟨rfl, hP, hK, hA⟩ := hv
  have hx := B.exec
  have hb := B.bytes
  have hr := B.returns
  have hts := atoms_spec (ws := wsX4_afterFurtherStep) B.pre
  have hown : s.vm.findClass RX4 = some m.cls := findClass_of_methodNamed B.named
  have hlocks := B.notSynchronized
  have hl := lv_entry ([.ref h0, .int p0, .long p1, .long p2]) (n := 6) (Nat.le_of_ble_eq_true rfl)
  rw [lg_entry_eq]
  generalize (lg_sl ([.ref h0, .int p0, .long p1, .long p2]) ++ List.replicate (6 - (lg_sl ([.ref h0, .int p0, .long p1, .long p2])).length) Slot.unset).toArray = ls at hl ⊢
  have hl : lv_has ls 6 [(0, .ref h0), (1, .int p0), (2, .long p1), (4, .long p2)] := hl
  refine lv_lload_n hx hb dX4_afterFurtherStep_0 rfl (lv_at hl 2 rfl) ?_
  exact W.lret (v := p1) hx hb hr (fun t ht hW => ⟨congrArg (fun z => Outcome.returned (some (Value.long z))) (show _ = wh_afterFurtherStep nb p0 p1 p2 from Eq.symm (show wh_afterFurtherStep nb p0 p1 p2 = _ from rfl)), ht⟩) (fun q hq => absurd hq List.not_mem_nil) dX4_afterFurtherStep_1
def fl_greater (nb : Bool) (p0 : Int64) (p1 : Int64) : Int64 := if (fl_rank nb p0) < (fl_rank nb p1) then p1 else (p0)
set_option maxHeartbeats 4000000 in
set_option maxRecDepth 100000 in
theorem mt_X2_greater_X0 (l : Launch) (dC : Nat → ClassId) (dI : Nat → Nat → Nat) (nb : Bool) (h0 : Nat) (p0 : Int64) (p1 : Int64) : Met l yX2_greater wsX2_greater ({ frames := 2, cells := 0, slots := 0, locals := 44 }) (pq_Pc (dC, dI) h0 (0, fl_F nb) [.ref h0, .long p0, .long p1]) (pq_V (.long (fl_greater nb p0 p1))) 0 0 (fun _ => False) := by
  refine Met.ofW (cc := cX2_greater) (maxL := 5) (ret := (some .long)) (by decide) rfl ?_
  intro p e s m args below meth c s₁ B hml hv
  obtain ⟨rfl, hP, hK, hA⟩ := hv
  have hx := B.exec
  have hb := B.bytes
  have hr := B.returns
  have hts := atoms_spec (ws := wsX2_greater) B.pre
  have hown : s.vm.findClass RX2 = some m.cls := findClass_of_methodNamed B.named
  have hlocks := B.notSynchronized
  have hl := lv_entry ([.ref h0, .long p0, .long p1]) (n := 5) (Nat.le_of_ble_eq_true rfl)
  rw [lg_entry_eq]
  generalize (lg_sl ([.ref h0, .long p0, .long p1]) ++ List.replicate (5 - (lg_sl ([.ref h0, .long p0, .long p1])).length) Slot.unset).toArray = ls at hl ⊢
  have hl : lv_has ls 5 [(0, .ref h0), (1, .long p0), (3, .long p1)] := hl
  refine lv_aload_n hx hb dX2_greater_0 rfl (lv_at hl 0 rfl) ?_
  refine lv_lload_n hx hb dX2_greater_1 rfl (lv_at hl 1 rfl) ?_
  refine pq_call (va_runU (C := RX0) (As := [.long p0]) (rest := []) ⟨hx, hb, hml, hown, hts⟩ (mt_X0_rank l dC dI nb h0 p0) (va_cwA 1 hts gX2_greater_X0_rank_u29X0 rfl rfl rfl hA.2.2.2.1 (by decide +kernel) ⟨Nat.le_of_ble_eq_true rfl, Nat.le_of_ble_eq_true rfl⟩) ⟨pq_blind, va_recv hK hP (ci := 0) (q0 := 0) rfl rfl, pq_pre hP hK hA⟩ rfl rfl hl.1 rfl (lv_room (Nat.le_of_ble_eq_true rfl)) dX2_greater_2 ⟨Nat.zero_le _, Nat.zero_le _⟩) ?_
  refine lv_aload_n hx hb dX2_greater_5 rfl (lv_at hl 0 rfl) ?_
  refine lv_lload_n hx hb dX2_greater_6 rfl (lv_at hl 2 rfl) ?_
  refine pq_call (va_runU (C := RX0) (As := [.long p1]) (rest := [.long (fl_rank nb p0)]) ⟨hx, hb, hml, hown, hts⟩ (mt_X0_rank l dC dI nb h0 p1) (va_cwA 1 hts gX2_greater_X0_rank_u29X0 rfl rfl rfl hA.2.2.2.1 (by decide +kernel) ⟨Nat.le_of_ble_eq_true rfl, Nat.le_of_ble_eq_true rfl⟩) ⟨pq_blind, va_recv hK hP (ci := 0) (q0 := 0) rfl rfl, pq_pre hP hK hA⟩ rfl rfl hl.1 rfl (lv_room (Nat.le_of_ble_eq_true rfl)) dX2_greater_7 ⟨Nat.zero_le _, Nat.zero_le _⟩) ?_
  refine pq_lcmp_lt (tgt := 18) hx hb dX2_greater_10 dX2_greater_11 (by decide) (fun h1 => ?_) (fun h1 => ?_)
  · refine lv_lload_n hx hb dX2_greater_18 rfl (lv_at hl 2 rfl) ?_
    exact W.lret (v := p1) hx hb hr (fun t ht hW => ⟨congrArg (fun z => Outcome.returned (some (Value.long z))) (show _ = fl_greater nb p0 p1 from Eq.symm (show fl_greater nb p0 p1 = _ from (if_pos h1))), ht⟩) (fun q hq => absurd hq List.not_mem_nil) dX2_greater_19
  · refine lv_lload_n hx hb dX2_greater_14 rfl (lv_at hl 1 rfl) ?_
    refine lv_goto (tgt := 19) hx hb dX2_greater_15 (by decide) ?_
    exact W.lret (v := p0) hx hb hr (fun t ht hW => ⟨congrArg (fun z => Outcome.returned (some (Value.long z))) (show _ = fl_greater nb p0 p1 from Eq.symm (show fl_greater nb p0 p1 = _ from (if_neg h1))), ht⟩) (fun q hq => absurd hq List.not_mem_nil) dX2_greater_19
def fl_lesser (nb : Bool) (p0 : Int64) (p1 : Int64) : Int64 := if (fl_rank nb p1) < (fl_rank nb p0) then p1 else (p0)
set_option maxHeartbeats 4000000 in
set_option maxRecDepth 100000 in
theorem mt_X2_lesser_X0 (l : Launch) (dC : Nat → ClassId) (dI : Nat → Nat → Nat) (nb : Bool) (h0 : Nat) (p0 : Int64) (p1 : Int64) : Met l yX2_lesser wsX2_lesser ({ frames := 2, cells := 0, slots := 0, locals := 44 }) (pq_Pc (dC, dI) h0 (0, fl_F nb) [.ref h0, .long p0, .long p1]) (pq_V (.long (fl_lesser nb p0 p1))) 0 0 (fun _ => False) := by
  refine Met.ofW (cc := cX2_lesser) (maxL := 5) (ret := (some .long)) (by decide) rfl ?_
  intro p e s m args below meth c s₁ B hml hv
  obtain ⟨rfl, hP, hK, hA⟩ := hv
  have hx := B.exec
  have hb := B.bytes
  have hr := B.returns
  have hts := atoms_spec (ws := wsX2_lesser) B.pre
  have hown : s.vm.findClass RX2 = some m.cls := findClass_of_methodNamed B.named
  have hlocks := B.notSynchronized
  have hl := lv_entry ([.ref h0, .long p0, .long p1]) (n := 5) (Nat.le_of_ble_eq_true rfl)
  rw [lg_entry_eq]
  generalize (lg_sl ([.ref h0, .long p0, .long p1]) ++ List.replicate (5 - (lg_sl ([.ref h0, .long p0, .long p1])).length) Slot.unset).toArray = ls at hl ⊢
  have hl : lv_has ls 5 [(0, .ref h0), (1, .long p0), (3, .long p1)] := hl
  refine lv_aload_n hx hb dX2_lesser_0 rfl (lv_at hl 0 rfl) ?_
  refine lv_lload_n hx hb dX2_lesser_1 rfl (lv_at hl 1 rfl) ?_
  refine pq_call (va_runU (C := RX0) (As := [.long p0]) (rest := []) ⟨hx, hb, hml, hown, hts⟩ (mt_X0_rank l dC dI nb h0 p0) (va_cwA 1 hts gX2_lesser_X0_rank_u29X0 rfl rfl rfl hA.2.2.2.1 (by decide +kernel) ⟨Nat.le_of_ble_eq_true rfl, Nat.le_of_ble_eq_true rfl⟩) ⟨pq_blind, va_recv hK hP (ci := 0) (q0 := 0) rfl rfl, pq_pre hP hK hA⟩ rfl rfl hl.1 rfl (lv_room (Nat.le_of_ble_eq_true rfl)) dX2_lesser_2 ⟨Nat.zero_le _, Nat.zero_le _⟩) ?_
  refine lv_aload_n hx hb dX2_lesser_5 rfl (lv_at hl 0 rfl) ?_
  refine lv_lload_n hx hb dX2_lesser_6 rfl (lv_at hl 2 rfl) ?_
  refine pq_call (va_runU (C := RX0) (As := [.long p1]) (rest := [.long (fl_rank nb p0)]) ⟨hx, hb, hml, hown, hts⟩ (mt_X0_rank l dC dI nb h0 p1) (va_cwA 1 hts gX2_lesser_X0_rank_u29X0 rfl rfl rfl hA.2.2.2.1 (by decide +kernel) ⟨Nat.le_of_ble_eq_true rfl, Nat.le_of_ble_eq_true rfl⟩) ⟨pq_blind, va_recv hK hP (ci := 0) (q0 := 0) rfl rfl, pq_pre hP hK hA⟩ rfl rfl hl.1 rfl (lv_room (Nat.le_of_ble_eq_true rfl)) dX2_lesser_7 ⟨Nat.zero_le _, Nat.zero_le _⟩) ?_
  refine pq_lcmp_gt (tgt := 18) hx hb dX2_lesser_10 dX2_lesser_11 (by decide) (fun h1 => ?_) (fun h1 => ?_)
  · refine lv_lload_n hx hb dX2_lesser_18 rfl (lv_at hl 2 rfl) ?_
    exact W.lret (v := p1) hx hb hr (fun t ht hW => ⟨congrArg (fun z => Outcome.returned (some (Value.long z))) (show _ = fl_lesser nb p0 p1 from Eq.symm (show fl_lesser nb p0 p1 = _ from (if_pos h1))), ht⟩) (fun q hq => absurd hq List.not_mem_nil) dX2_lesser_19
  · refine lv_lload_n hx hb dX2_lesser_14 rfl (lv_at hl 1 rfl) ?_
    refine lv_goto (tgt := 19) hx hb dX2_lesser_15 (by decide) ?_
    exact W.lret (v := p0) hx hb hr (fun t ht hW => ⟨congrArg (fun z => Outcome.returned (some (Value.long z))) (show _ = fl_lesser nb p0 p1 from Eq.symm (show fl_lesser nb p0 p1 = _ from (if_neg h1))), ht⟩) (fun q hq => absurd hq List.not_mem_nil) dX2_lesser_19
def fl_isAbove (nb : Bool) (p0 : Int64) (p1 : Int64) : Int32 := if (fl_place nb p0) ≤ (fl_place nb p1) then 0 else (1)
set_option maxHeartbeats 4000000 in
set_option maxRecDepth 100000 in
theorem mt_X2_isAbove_X0 (l : Launch) (dC : Nat → ClassId) (dI : Nat → Nat → Nat) (nb : Bool) (h0 : Nat) (p0 : Int64) (p1 : Int64) : Met l yX2_isAbove wsX2_isAbove ({ frames := 2, cells := 0, slots := 0, locals := 44 }) (pq_Pc (dC, dI) h0 (0, fl_F nb) [.ref h0, .long p0, .long p1]) (pq_V (.int (fl_isAbove nb p0 p1))) 0 0 (fun _ => False) := by
  refine Met.ofW (cc := cX2_isAbove) (maxL := 5) (ret := (some .boolean)) (by decide) rfl ?_
  intro p e s m args below meth c s₁ B hml hv
  obtain ⟨rfl, hP, hK, hA⟩ := hv
  have hx := B.exec
  have hb := B.bytes
  have hr := B.returns
  have hts := atoms_spec (ws := wsX2_isAbove) B.pre
  have hown : s.vm.findClass RX2 = some m.cls := findClass_of_methodNamed B.named
  have hlocks := B.notSynchronized
  have hl := lv_entry ([.ref h0, .long p0, .long p1]) (n := 5) (Nat.le_of_ble_eq_true rfl)
  rw [lg_entry_eq]
  generalize (lg_sl ([.ref h0, .long p0, .long p1]) ++ List.replicate (5 - (lg_sl ([.ref h0, .long p0, .long p1])).length) Slot.unset).toArray = ls at hl ⊢
  have hl : lv_has ls 5 [(0, .ref h0), (1, .long p0), (3, .long p1)] := hl
  refine lv_aload_n hx hb dX2_isAbove_0 rfl (lv_at hl 0 rfl) ?_
  refine lv_lload_n hx hb dX2_isAbove_1 rfl (lv_at hl 1 rfl) ?_
  refine pq_call (va_runU (C := RX0) (As := [.long p0]) (rest := []) ⟨hx, hb, hml, hown, hts⟩ (mt_X0_place l dC dI nb h0 p0) (va_cwA 1 hts gX2_isAbove_X0_place_u33X0 rfl rfl rfl hA.2.2.2.2.1 (by decide +kernel) ⟨Nat.le_of_ble_eq_true rfl, Nat.le_of_ble_eq_true rfl⟩) ⟨pq_blind, va_recv hK hP (ci := 0) (q0 := 0) rfl rfl, pq_pre hP hK hA⟩ rfl rfl hl.1 rfl (lv_room (Nat.le_of_ble_eq_true rfl)) dX2_isAbove_2 ⟨Nat.zero_le _, Nat.zero_le _⟩) ?_
  refine lv_aload_n hx hb dX2_isAbove_5 rfl (lv_at hl 0 rfl) ?_
  refine lv_lload_n hx hb dX2_isAbove_6 rfl (lv_at hl 2 rfl) ?_
  refine pq_call (va_runU (C := RX0) (As := [.long p1]) (rest := [.long (fl_place nb p0)]) ⟨hx, hb, hml, hown, hts⟩ (mt_X0_place l dC dI nb h0 p1) (va_cwA 1 hts gX2_isAbove_X0_place_u33X0 rfl rfl rfl hA.2.2.2.2.1 (by decide +kernel) ⟨Nat.le_of_ble_eq_true rfl, Nat.le_of_ble_eq_true rfl⟩) ⟨pq_blind, va_recv hK hP (ci := 0) (q0 := 0) rfl rfl, pq_pre hP hK hA⟩ rfl rfl hl.1 rfl (lv_room (Nat.le_of_ble_eq_true rfl)) dX2_isAbove_7 ⟨Nat.zero_le _, Nat.zero_le _⟩) ?_
  refine pq_lcmp_le (tgt := 18) hx hb dX2_isAbove_10 dX2_isAbove_11 (by decide) (fun h1 => ?_) (fun h1 => ?_)
  · refine lv_iconst (v := 0) hx hb dX2_isAbove_18 (by decide) ?_
    exact W.zret (v := 0) hx hb hr (by first | rfl | exact pq_nz) (fun t ht hW => ⟨congrArg (fun z => Outcome.returned (some (Value.int z))) (show _ = fl_isAbove nb p0 p1 from Eq.symm (show fl_isAbove nb p0 p1 = _ from (if_pos h1))), ht⟩) (fun q hq => absurd hq List.not_mem_nil) dX2_isAbove_19
  · refine lv_iconst (v := 1) hx hb dX2_isAbove_14 (by decide) ?_
    refine lv_goto (tgt := 19) hx hb dX2_isAbove_15 (by decide) ?_
    exact W.zret (v := 1) hx hb hr (by first | rfl | exact pq_nz) (fun t ht hW => ⟨congrArg (fun z => Outcome.returned (some (Value.int z))) (show _ = fl_isAbove nb p0 p1 from Eq.symm (show fl_isAbove nb p0 p1 = _ from (if_neg h1))), ht⟩) (fun q hq => absurd hq List.not_mem_nil) dX2_isAbove_19
def fl_afterStep (nb : Bool) (p0 : Int32) (p1 : Int64) (p2 : Int64) : Int64 := if p0 = 0 then (fl_amount nb p1) else (if p0 = 1 then (fl_greater nb p1 p2) else (if p0 = 2 then (fl_lesser nb p1 p2) else ((fl_afterFurtherStep nb p0 p1 p2))))
set_option maxHeartbeats 4000000 in
set_option maxRecDepth 100000 in
theorem mt_X2_afterStep_X0 (l : Launch) (dC : Nat → ClassId) (dI : Nat → Nat → Nat) (nb : Bool) (h0 : Nat) (p0 : Int32) (p1 : Int64) (p2 : Int64) : Met l yX2_afterStep wsX2_afterStep ({ frames := 4, cells := 0, slots := 0, locals := 95 }) (pq_Pc (dC, dI) h0 (0, fl_F nb) [.ref h0, .int p0, .long p1, .long p2]) (pq_V (.long (fl_afterStep nb p0 p1 p2))) 0 0 (fun _ => False) := by
  refine Met.ofW (cc := cX2_afterStep) (maxL := 6) (ret := (some .long)) (by decide) rfl ?_
  intro p e s m args below meth c s₁ B hml hv
  obtain ⟨rfl, hP, hK, hA⟩ := hv
  have hx := B.exec
  have hb := B.bytes
  have hr := B.returns
  have hts := atoms_spec (ws := wsX2_afterStep) B.pre
  have hown : s.vm.findClass RX2 = some m.cls := findClass_of_methodNamed B.named
  have hlocks := B.notSynchronized
  have hl := lv_entry ([.ref h0, .int p0, .long p1, .long p2]) (n := 6) (Nat.le_of_ble_eq_true rfl)
  rw [lg_entry_eq]
  generalize (lg_sl ([.ref h0, .int p0, .long p1, .long p2]) ++ List.replicate (6 - (lg_sl ([.ref h0, .int p0, .long p1, .long p2])).length) Slot.unset).toArray = ls at hl ⊢
  have hl : lv_has ls 6 [(0, .ref h0), (1, .int p0), (2, .long p1), (4, .long p2)] := hl
  refine lv_iload_n hx hb dX2_afterStep_0 rfl (lv_at hl 1 rfl) ?_
  by_cases h1 : p0 = 0
  · refine lv_tableIn (off := 27) (tgt := 28) hx hb dX2_afterStep_1 (by rw [h1]; decide) (by rw [h1]; decide) (by rw [h1]; rfl) (by decide) ?_
    refine lv_aload_n hx hb dX2_afterStep_28 rfl (lv_at hl 0 rfl) ?_
    refine lv_lload_n hx hb dX2_afterStep_29 rfl (lv_at hl 2 rfl) ?_
    refine pq_call (va_runU (C := RX0) (As := [.long p1]) (rest := []) ⟨hx, hb, hml, hown, hts⟩ (mt_X0_amount l dC dI nb h0 p1) (va_cwA 1 hts gX2_afterStep_X0_amount_u36X0 rfl rfl rfl hA.2.2.1 (by decide +kernel) ⟨Nat.le_of_ble_eq_true rfl, Nat.le_of_ble_eq_true rfl⟩) ⟨pq_blind, va_recv hK hP (ci := 0) (q0 := 0) rfl rfl, pq_pre hP hK hA⟩ rfl rfl hl.1 rfl (lv_room (Nat.le_of_ble_eq_true rfl)) dX2_afterStep_30 ⟨Nat.zero_le _, Nat.zero_le _⟩) ?_
    exact W.lret (v := (fl_amount nb p1)) hx hb hr (fun t ht hW => ⟨congrArg (fun z => Outcome.returned (some (Value.long z))) (show _ = fl_afterStep nb p0 p1 p2 from Eq.symm (show fl_afterStep nb p0 p1 p2 = _ from (if_pos h1))), ht⟩) (fun q hq => absurd hq List.not_mem_nil) dX2_afterStep_33
  · by_cases h2 : p0 = 1
    · refine lv_tableIn (off := 33) (tgt := 34) hx hb dX2_afterStep_1 (by rw [h2]; decide) (by rw [h2]; decide) (by rw [h2]; rfl) (by decide) ?_
      refine lv_aload_n hx hb dX2_afterStep_34 rfl (lv_at hl 0 rfl) ?_
      refine lv_lload_n hx hb dX2_afterStep_35 rfl (lv_at hl 2 rfl) ?_
      refine lv_lload hx hb dX2_afterStep_36 (lv_at hl 3 rfl) ?_
      refine pq_call (va_runU (C := RX0) (As := [.long p1, .long p2]) (rest := []) ⟨hx, hb, hml, hown, hts⟩ (mt_X2_greater_X0 l dC dI nb h0 p1 p2) (va_cwU 2 hts gX2_afterStep_X2_greater_u39X0 rfl rfl rfl rfl (by decide +kernel) ⟨Nat.le_of_ble_eq_true rfl, Nat.le_of_ble_eq_true rfl⟩) ⟨pq_blind, va_recv hK hP (ci := 0) (q0 := 0) rfl rfl, pq_pre hP hK hA⟩ rfl rfl hl.1 rfl (lv_room (Nat.le_of_ble_eq_true rfl)) dX2_afterStep_38 ⟨Nat.zero_le _, Nat.zero_le _⟩) ?_
      exact W.lret (v := (fl_greater nb p1 p2)) hx hb hr (fun t ht hW => ⟨congrArg (fun z => Outcome.returned (some (Value.long z))) (show _ = fl_afterStep nb p0 p1 p2 from Eq.symm (show fl_afterStep nb p0 p1 p2 = _ from ((if_neg h1).trans (if_pos h2)))), ht⟩) (fun q hq => absurd hq List.not_mem_nil) dX2_afterStep_41
    · by_cases h3 : p0 = 2
      · refine lv_tableIn (off := 41) (tgt := 42) hx hb dX2_afterStep_1 (by rw [h3]; decide) (by rw [h3]; decide) (by rw [h3]; rfl) (by decide) ?_
        refine lv_aload_n hx hb dX2_afterStep_42 rfl (lv_at hl 0 rfl) ?_
        refine lv_lload_n hx hb dX2_afterStep_43 rfl (lv_at hl 2 rfl) ?_
        refine lv_lload hx hb dX2_afterStep_44 (lv_at hl 3 rfl) ?_
        refine pq_call (va_runU (C := RX0) (As := [.long p1, .long p2]) (rest := []) ⟨hx, hb, hml, hown, hts⟩ (mt_X2_lesser_X0 l dC dI nb h0 p1 p2) (va_cwU 2 hts gX2_afterStep_X2_lesser_u43X0 rfl rfl rfl rfl (by decide +kernel) ⟨Nat.le_of_ble_eq_true rfl, Nat.le_of_ble_eq_true rfl⟩) ⟨pq_blind, va_recv hK hP (ci := 0) (q0 := 0) rfl rfl, pq_pre hP hK hA⟩ rfl rfl hl.1 rfl (lv_room (Nat.le_of_ble_eq_true rfl)) dX2_afterStep_46 ⟨Nat.zero_le _, Nat.zero_le _⟩) ?_
        exact W.lret (v := (fl_lesser nb p1 p2)) hx hb hr (fun t ht hW => ⟨congrArg (fun z => Outcome.returned (some (Value.long z))) (show _ = fl_afterStep nb p0 p1 p2 from Eq.symm (show fl_afterStep nb p0 p1 p2 = _ from ((if_neg h1).trans ((if_neg h2).trans (if_pos h3))))), ht⟩) (fun q hq => absurd hq List.not_mem_nil) dX2_afterStep_49
      · refine lv_tableOut (tgt := 50) hx hb dX2_afterStep_1 (by have a0 := lv_neT h1 (a := 0) rfl; have a1 := lv_neT h2 (a := 1) rfl; have a2 := lv_neT h3 (a := 2) rfl; omega) (by decide) ?_
        refine lv_aload_n hx hb dX2_afterStep_50 rfl (lv_at hl 0 rfl) ?_
        refine lv_iload_n hx hb dX2_afterStep_51 rfl (lv_at hl 1 rfl) ?_
        refine lv_lload_n hx hb dX2_afterStep_52 rfl (lv_at hl 2 rfl) ?_
        refine lv_lload hx hb dX2_afterStep_53 (lv_at hl 3 rfl) ?_
        refine pq_call (va_runU (C := RX0) (As := [.int p0, .long p1, .long p2]) (rest := []) ⟨hx, hb, hml, hown, hts⟩ (mt_X0_afterFurtherStep l dC dI nb h0 p0 p1 p2) (va_cwA 3 hts gX2_afterStep_X0_afterFurtherStep_u46X0 rfl rfl rfl hA.2.2.2.2.2.2.2.2 (by decide +kernel) ⟨Nat.le_of_ble_eq_true rfl, Nat.le_of_ble_eq_true rfl⟩) ⟨pq_blind, va_recv hK hP (ci := 0) (q0 := 0) rfl rfl, pq_pre hP hK hA⟩ rfl rfl hl.1 rfl (lv_room (Nat.le_of_ble_eq_true rfl)) dX2_afterStep_55 ⟨Nat.zero_le _, Nat.zero_le _⟩) ?_
        exact W.lret (v := (fl_afterFurtherStep nb p0 p1 p2)) hx hb hr (fun t ht hW => ⟨congrArg (fun z => Outcome.returned (some (Value.long z))) (show _ = fl_afterStep nb p0 p1 p2 from Eq.symm (show fl_afterStep nb p0 p1 p2 = _ from ((if_neg h1).trans ((if_neg h2).trans (if_neg h3))))), ht⟩) (fun q hq => absurd hq List.not_mem_nil) dX2_afterStep_58
def wh_greater (nb : Bool) (p0 : Int64) (p1 : Int64) : Int64 := if (wh_rank nb p0) < (wh_rank nb p1) then p1 else (p0)
set_option maxHeartbeats 4000000 in
set_option maxRecDepth 100000 in
theorem mt_X2_greater_X4 (l : Launch) (dC : Nat → ClassId) (dI : Nat → Nat → Nat) (nb : Bool) (h0 : Nat) (p0 : Int64) (p1 : Int64) : Met l yX2_greater wsX2_greater ({ frames := 1, cells := 0, slots := 0, locals := 22 }) (pq_Pc (dC, dI) h0 (3, wh_F nb) [.ref h0, .long p0, .long p1]) (pq_V (.long (wh_greater nb p0 p1))) 0 0 (fun _ => False) := by
  refine Met.ofW (cc := cX2_greater) (maxL := 5) (ret := (some .long)) (by decide) rfl ?_
  intro p e s m args below meth c s₁ B hml hv
  obtain ⟨rfl, hP, hK, hA⟩ := hv
  have hx := B.exec
  have hb := B.bytes
  have hr := B.returns
  have hts := atoms_spec (ws := wsX2_greater) B.pre
  have hown : s.vm.findClass RX2 = some m.cls := findClass_of_methodNamed B.named
  have hlocks := B.notSynchronized
  have hl := lv_entry ([.ref h0, .long p0, .long p1]) (n := 5) (Nat.le_of_ble_eq_true rfl)
  rw [lg_entry_eq]
  generalize (lg_sl ([.ref h0, .long p0, .long p1]) ++ List.replicate (5 - (lg_sl ([.ref h0, .long p0, .long p1])).length) Slot.unset).toArray = ls at hl ⊢
  have hl : lv_has ls 5 [(0, .ref h0), (1, .long p0), (3, .long p1)] := hl
  refine lv_aload_n hx hb dX2_greater_0 rfl (lv_at hl 0 rfl) ?_
  refine lv_lload_n hx hb dX2_greater_1 rfl (lv_at hl 1 rfl) ?_
  refine pq_call (va_runU (C := RX4) (As := [.long p0]) (rest := []) ⟨hx, hb, hml, hown, hts⟩ (mt_X4_rank l dC dI nb h0 p0) (va_cwA 1 hts gX2_greater_X4_rank_u29X4 rfl rfl rfl hA.2.2.2.1 (by decide +kernel) ⟨Nat.le_of_ble_eq_true rfl, Nat.le_of_ble_eq_true rfl⟩) ⟨pq_blind, va_recv hK hP (ci := 3) (q0 := 0) rfl rfl, pq_pre hP hK hA⟩ rfl rfl hl.1 rfl (lv_room (Nat.le_of_ble_eq_true rfl)) dX2_greater_2 ⟨Nat.zero_le _, Nat.zero_le _⟩) ?_
  refine lv_aload_n hx hb dX2_greater_5 rfl (lv_at hl 0 rfl) ?_
  refine lv_lload_n hx hb dX2_greater_6 rfl (lv_at hl 2 rfl) ?_
  refine pq_call (va_runU (C := RX4) (As := [.long p1]) (rest := [.long (wh_rank nb p0)]) ⟨hx, hb, hml, hown, hts⟩ (mt_X4_rank l dC dI nb h0 p1) (va_cwA 1 hts gX2_greater_X4_rank_u29X4 rfl rfl rfl hA.2.2.2.1 (by decide +kernel) ⟨Nat.le_of_ble_eq_true rfl, Nat.le_of_ble_eq_true rfl⟩) ⟨pq_blind, va_recv hK hP (ci := 3) (q0 := 0) rfl rfl, pq_pre hP hK hA⟩ rfl rfl hl.1 rfl (lv_room (Nat.le_of_ble_eq_true rfl)) dX2_greater_7 ⟨Nat.zero_le _, Nat.zero_le _⟩) ?_
  refine pq_lcmp_lt (tgt := 18) hx hb dX2_greater_10 dX2_greater_11 (by decide) (fun h1 => ?_) (fun h1 => ?_)
  · refine lv_lload_n hx hb dX2_greater_18 rfl (lv_at hl 2 rfl) ?_
    exact W.lret (v := p1) hx hb hr (fun t ht hW => ⟨congrArg (fun z => Outcome.returned (some (Value.long z))) (show _ = wh_greater nb p0 p1 from Eq.symm (show wh_greater nb p0 p1 = _ from (if_pos h1))), ht⟩) (fun q hq => absurd hq List.not_mem_nil) dX2_greater_19
  · refine lv_lload_n hx hb dX2_greater_14 rfl (lv_at hl 1 rfl) ?_
    refine lv_goto (tgt := 19) hx hb dX2_greater_15 (by decide) ?_
    exact W.lret (v := p0) hx hb hr (fun t ht hW => ⟨congrArg (fun z => Outcome.returned (some (Value.long z))) (show _ = wh_greater nb p0 p1 from Eq.symm (show wh_greater nb p0 p1 = _ from (if_neg h1))), ht⟩) (fun q hq => absurd hq List.not_mem_nil) dX2_greater_19
def wh_lesser (nb : Bool) (p0 : Int64) (p1 : Int64) : Int64 := if (wh_rank nb p1) < (wh_rank nb p0) then p1 else (p0)
set_option maxHeartbeats 4000000 in
set_option maxRecDepth 100000 in
theorem mt_X2_lesser_X4 (l : Launch) (dC : Nat → ClassId) (dI : Nat → Nat → Nat) (nb : Bool) (h0 : Nat) (p0 : Int64) (p1 : Int64) : Met l yX2_lesser wsX2_lesser ({ frames := 1, cells := 0, slots := 0, locals := 22 }) (pq_Pc (dC, dI) h0 (3, wh_F nb) [.ref h0, .long p0, .long p1]) (pq_V (.long (wh_lesser nb p0 p1))) 0 0 (fun _ => False) := by
  refine Met.ofW (cc := cX2_lesser) (maxL := 5) (ret := (some .long)) (by decide) rfl ?_
  intro p e s m args below meth c s₁ B hml hv
  obtain ⟨rfl, hP, hK, hA⟩ := hv
  have hx := B.exec
  have hb := B.bytes
  have hr := B.returns
  have hts := atoms_spec (ws := wsX2_lesser) B.pre
  have hown : s.vm.findClass RX2 = some m.cls := findClass_of_methodNamed B.named
  have hlocks := B.notSynchronized
  have hl := lv_entry ([.ref h0, .long p0, .long p1]) (n := 5) (Nat.le_of_ble_eq_true rfl)
  rw [lg_entry_eq]
  generalize (lg_sl ([.ref h0, .long p0, .long p1]) ++ List.replicate (5 - (lg_sl ([.ref h0, .long p0, .long p1])).length) Slot.unset).toArray = ls at hl ⊢
  have hl : lv_has ls 5 [(0, .ref h0), (1, .long p0), (3, .long p1)] := hl
  refine lv_aload_n hx hb dX2_lesser_0 rfl (lv_at hl 0 rfl) ?_
  refine lv_lload_n hx hb dX2_lesser_1 rfl (lv_at hl 1 rfl) ?_
  refine pq_call (va_runU (C := RX4) (As := [.long p0]) (rest := []) ⟨hx, hb, hml, hown, hts⟩ (mt_X4_rank l dC dI nb h0 p0) (va_cwA 1 hts gX2_lesser_X4_rank_u29X4 rfl rfl rfl hA.2.2.2.1 (by decide +kernel) ⟨Nat.le_of_ble_eq_true rfl, Nat.le_of_ble_eq_true rfl⟩) ⟨pq_blind, va_recv hK hP (ci := 3) (q0 := 0) rfl rfl, pq_pre hP hK hA⟩ rfl rfl hl.1 rfl (lv_room (Nat.le_of_ble_eq_true rfl)) dX2_lesser_2 ⟨Nat.zero_le _, Nat.zero_le _⟩) ?_
  refine lv_aload_n hx hb dX2_lesser_5 rfl (lv_at hl 0 rfl) ?_
  refine lv_lload_n hx hb dX2_lesser_6 rfl (lv_at hl 2 rfl) ?_
  refine pq_call (va_runU (C := RX4) (As := [.long p1]) (rest := [.long (wh_rank nb p0)]) ⟨hx, hb, hml, hown, hts⟩ (mt_X4_rank l dC dI nb h0 p1) (va_cwA 1 hts gX2_lesser_X4_rank_u29X4 rfl rfl rfl hA.2.2.2.1 (by decide +kernel) ⟨Nat.le_of_ble_eq_true rfl, Nat.le_of_ble_eq_true rfl⟩) ⟨pq_blind, va_recv hK hP (ci := 3) (q0 := 0) rfl rfl, pq_pre hP hK hA⟩ rfl rfl hl.1 rfl (lv_room (Nat.le_of_ble_eq_true rfl)) dX2_lesser_7 ⟨Nat.zero_le _, Nat.zero_le _⟩) ?_
  refine pq_lcmp_gt (tgt := 18) hx hb dX2_lesser_10 dX2_lesser_11 (by decide) (fun h1 => ?_) (fun h1 => ?_)
  · refine lv_lload_n hx hb dX2_lesser_18 rfl (lv_at hl 2 rfl) ?_
    exact W.lret (v := p1) hx hb hr (fun t ht hW => ⟨congrArg (fun z => Outcome.returned (some (Value.long z))) (show _ = wh_lesser nb p0 p1 from Eq.symm (show wh_lesser nb p0 p1 = _ from (if_pos h1))), ht⟩) (fun q hq => absurd hq List.not_mem_nil) dX2_lesser_19
  · refine lv_lload_n hx hb dX2_lesser_14 rfl (lv_at hl 1 rfl) ?_
    refine lv_goto (tgt := 19) hx hb dX2_lesser_15 (by decide) ?_
    exact W.lret (v := p0) hx hb hr (fun t ht hW => ⟨congrArg (fun z => Outcome.returned (some (Value.long z))) (show _ = wh_lesser nb p0 p1 from Eq.symm (show wh_lesser nb p0 p1 = _ from (if_neg h1))), ht⟩) (fun q hq => absurd hq List.not_mem_nil) dX2_lesser_19
def wh_isAbove (nb : Bool) (p0 : Int64) (p1 : Int64) : Int32 := if (wh_place nb p0) ≤ (wh_place nb p1) then 0 else (1)
set_option maxHeartbeats 4000000 in
set_option maxRecDepth 100000 in
theorem mt_X2_isAbove_X4 (l : Launch) (dC : Nat → ClassId) (dI : Nat → Nat → Nat) (nb : Bool) (h0 : Nat) (p0 : Int64) (p1 : Int64) : Met l yX2_isAbove wsX2_isAbove ({ frames := 1, cells := 0, slots := 0, locals := 22 }) (pq_Pc (dC, dI) h0 (3, wh_F nb) [.ref h0, .long p0, .long p1]) (pq_V (.int (wh_isAbove nb p0 p1))) 0 0 (fun _ => False) := by
  refine Met.ofW (cc := cX2_isAbove) (maxL := 5) (ret := (some .boolean)) (by decide) rfl ?_
  intro p e s m args below meth c s₁ B hml hv
  obtain ⟨rfl, hP, hK, hA⟩ := hv
  have hx := B.exec
  have hb := B.bytes
  have hr := B.returns
  have hts := atoms_spec (ws := wsX2_isAbove) B.pre
  have hown : s.vm.findClass RX2 = some m.cls := findClass_of_methodNamed B.named
  have hlocks := B.notSynchronized
  have hl := lv_entry ([.ref h0, .long p0, .long p1]) (n := 5) (Nat.le_of_ble_eq_true rfl)
  rw [lg_entry_eq]
  generalize (lg_sl ([.ref h0, .long p0, .long p1]) ++ List.replicate (5 - (lg_sl ([.ref h0, .long p0, .long p1])).length) Slot.unset).toArray = ls at hl ⊢
  have hl : lv_has ls 5 [(0, .ref h0), (1, .long p0), (3, .long p1)] := hl
  refine lv_aload_n hx hb dX2_isAbove_0 rfl (lv_at hl 0 rfl) ?_
  refine lv_lload_n hx hb dX2_isAbove_1 rfl (lv_at hl 1 rfl) ?_
  refine pq_call (va_runU (C := RX4) (As := [.long p0]) (rest := []) ⟨hx, hb, hml, hown, hts⟩ (mt_X4_place l dC dI nb h0 p0) (va_cwA 1 hts gX2_isAbove_X4_place_u33X4 rfl rfl rfl hA.2.2.2.2.1 (by decide +kernel) ⟨Nat.le_of_ble_eq_true rfl, Nat.le_of_ble_eq_true rfl⟩) ⟨pq_blind, va_recv hK hP (ci := 3) (q0 := 0) rfl rfl, pq_pre hP hK hA⟩ rfl rfl hl.1 rfl (lv_room (Nat.le_of_ble_eq_true rfl)) dX2_isAbove_2 ⟨Nat.zero_le _, Nat.zero_le _⟩) ?_
  refine lv_aload_n hx hb dX2_isAbove_5 rfl (lv_at hl 0 rfl) ?_
  refine lv_lload_n hx hb dX2_isAbove_6 rfl (lv_at hl 2 rfl) ?_
  refine pq_call (va_runU (C := RX4) (As := [.long p1]) (rest := [.long (wh_place nb p0)]) ⟨hx, hb, hml, hown, hts⟩ (mt_X4_place l dC dI nb h0 p1) (va_cwA 1 hts gX2_isAbove_X4_place_u33X4 rfl rfl rfl hA.2.2.2.2.1 (by decide +kernel) ⟨Nat.le_of_ble_eq_true rfl, Nat.le_of_ble_eq_true rfl⟩) ⟨pq_blind, va_recv hK hP (ci := 3) (q0 := 0) rfl rfl, pq_pre hP hK hA⟩ rfl rfl hl.1 rfl (lv_room (Nat.le_of_ble_eq_true rfl)) dX2_isAbove_7 ⟨Nat.zero_le _, Nat.zero_le _⟩) ?_
  refine pq_lcmp_le (tgt := 18) hx hb dX2_isAbove_10 dX2_isAbove_11 (by decide) (fun h1 => ?_) (fun h1 => ?_)
  · refine lv_iconst (v := 0) hx hb dX2_isAbove_18 (by decide) ?_
    exact W.zret (v := 0) hx hb hr (by first | rfl | exact pq_nz) (fun t ht hW => ⟨congrArg (fun z => Outcome.returned (some (Value.int z))) (show _ = wh_isAbove nb p0 p1 from Eq.symm (show wh_isAbove nb p0 p1 = _ from (if_pos h1))), ht⟩) (fun q hq => absurd hq List.not_mem_nil) dX2_isAbove_19
  · refine lv_iconst (v := 1) hx hb dX2_isAbove_14 (by decide) ?_
    refine lv_goto (tgt := 19) hx hb dX2_isAbove_15 (by decide) ?_
    exact W.zret (v := 1) hx hb hr (by first | rfl | exact pq_nz) (fun t ht hW => ⟨congrArg (fun z => Outcome.returned (some (Value.int z))) (show _ = wh_isAbove nb p0 p1 from Eq.symm (show wh_isAbove nb p0 p1 = _ from (if_neg h1))), ht⟩) (fun q hq => absurd hq List.not_mem_nil) dX2_isAbove_19
def wh_afterStep (nb : Bool) (p0 : Int32) (p1 : Int64) (p2 : Int64) : Int64 := if p0 = 0 then (wh_amount nb p1) else (if p0 = 1 then (wh_greater nb p1 p2) else (if p0 = 2 then (wh_lesser nb p1 p2) else ((wh_afterFurtherStep nb p0 p1 p2))))
set_option maxHeartbeats 4000000 in
set_option maxRecDepth 100000 in
theorem mt_X2_afterStep_X4 (l : Launch) (dC : Nat → ClassId) (dI : Nat → Nat → Nat) (nb : Bool) (h0 : Nat) (p0 : Int32) (p1 : Int64) (p2 : Int64) : Met l yX2_afterStep wsX2_afterStep ({ frames := 2, cells := 0, slots := 0, locals := 46 }) (pq_Pc (dC, dI) h0 (3, wh_F nb) [.ref h0, .int p0, .long p1, .long p2]) (pq_V (.long (wh_afterStep nb p0 p1 p2))) 0 0 (fun _ => False) := by
  refine Met.ofW (cc := cX2_afterStep) (maxL := 6) (ret := (some .long)) (by decide) rfl ?_
  intro p e s m args below meth c s₁ B hml hv
  obtain ⟨rfl, hP, hK, hA⟩ := hv
  have hx := B.exec
  have hb := B.bytes
  have hr := B.returns
  have hts := atoms_spec (ws := wsX2_afterStep) B.pre
  have hown : s.vm.findClass RX2 = some m.cls := findClass_of_methodNamed B.named
  have hlocks := B.notSynchronized
  have hl := lv_entry ([.ref h0, .int p0, .long p1, .long p2]) (n := 6) (Nat.le_of_ble_eq_true rfl)
  rw [lg_entry_eq]
  generalize (lg_sl ([.ref h0, .int p0, .long p1, .long p2]) ++ List.replicate (6 - (lg_sl ([.ref h0, .int p0, .long p1, .long p2])).length) Slot.unset).toArray = ls at hl ⊢
  have hl : lv_has ls 6 [(0, .ref h0), (1, .int p0), (2, .long p1), (4, .long p2)] := hl
  refine lv_iload_n hx hb dX2_afterStep_0 rfl (lv_at hl 1 rfl) ?_
  by_cases h1 : p0 = 0
  · refine lv_tableIn (off := 27) (tgt := 28) hx hb dX2_afterStep_1 (by rw [h1]; decide) (by rw [h1]; decide) (by rw [h1]; rfl) (by decide) ?_
    refine lv_aload_n hx hb dX2_afterStep_28 rfl (lv_at hl 0 rfl) ?_
    refine lv_lload_n hx hb dX2_afterStep_29 rfl (lv_at hl 2 rfl) ?_
    refine pq_call (va_runU (C := RX4) (As := [.long p1]) (rest := []) ⟨hx, hb, hml, hown, hts⟩ (mt_X4_amount l dC dI nb h0 p1) (va_cwA 1 hts gX2_afterStep_X4_amount_u36X4 rfl rfl rfl hA.2.2.1 (by decide +kernel) ⟨Nat.le_of_ble_eq_true rfl, Nat.le_of_ble_eq_true rfl⟩) ⟨pq_blind, va_recv hK hP (ci := 3) (q0 := 0) rfl rfl, pq_pre hP hK hA⟩ rfl rfl hl.1 rfl (lv_room (Nat.le_of_ble_eq_true rfl)) dX2_afterStep_30 ⟨Nat.zero_le _, Nat.zero_le _⟩) ?_
    exact W.lret (v := (wh_amount nb p1)) hx hb hr (fun t ht hW => ⟨congrArg (fun z => Outcome.returned (some (Value.long z))) (show _ = wh_afterStep nb p0 p1 p2 from Eq.symm (show wh_afterStep nb p0 p1 p2 = _ from (if_pos h1))), ht⟩) (fun q hq => absurd hq List.not_mem_nil) dX2_afterStep_33
  · by_cases h2 : p0 = 1
    · refine lv_tableIn (off := 33) (tgt := 34) hx hb dX2_afterStep_1 (by rw [h2]; decide) (by rw [h2]; decide) (by rw [h2]; rfl) (by decide) ?_
      refine lv_aload_n hx hb dX2_afterStep_34 rfl (lv_at hl 0 rfl) ?_
      refine lv_lload_n hx hb dX2_afterStep_35 rfl (lv_at hl 2 rfl) ?_
      refine lv_lload hx hb dX2_afterStep_36 (lv_at hl 3 rfl) ?_
      refine pq_call (va_runU (C := RX4) (As := [.long p1, .long p2]) (rest := []) ⟨hx, hb, hml, hown, hts⟩ (mt_X2_greater_X4 l dC dI nb h0 p1 p2) (va_cwU 2 hts gX2_afterStep_X2_greater_u39X4 rfl rfl rfl rfl (by decide +kernel) ⟨Nat.le_of_ble_eq_true rfl, Nat.le_of_ble_eq_true rfl⟩) ⟨pq_blind, va_recv hK hP (ci := 3) (q0 := 0) rfl rfl, pq_pre hP hK hA⟩ rfl rfl hl.1 rfl (lv_room (Nat.le_of_ble_eq_true rfl)) dX2_afterStep_38 ⟨Nat.zero_le _, Nat.zero_le _⟩) ?_
      exact W.lret (v := (wh_greater nb p1 p2)) hx hb hr (fun t ht hW => ⟨congrArg (fun z => Outcome.returned (some (Value.long z))) (show _ = wh_afterStep nb p0 p1 p2 from Eq.symm (show wh_afterStep nb p0 p1 p2 = _ from ((if_neg h1).trans (if_pos h2)))), ht⟩) (fun q hq => absurd hq List.not_mem_nil) dX2_afterStep_41
    · by_cases h3 : p0 = 2
      · refine lv_tableIn (off := 41) (tgt := 42) hx hb dX2_afterStep_1 (by rw [h3]; decide) (by rw [h3]; decide) (by rw [h3]; rfl) (by decide) ?_
        refine lv_aload_n hx hb dX2_afterStep_42 rfl (lv_at hl 0 rfl) ?_
        refine lv_lload_n hx hb dX2_afterStep_43 rfl (lv_at hl 2 rfl) ?_
        refine lv_lload hx hb dX2_afterStep_44 (lv_at hl 3 rfl) ?_
        refine pq_call (va_runU (C := RX4) (As := [.long p1, .long p2]) (rest := []) ⟨hx, hb, hml, hown, hts⟩ (mt_X2_lesser_X4 l dC dI nb h0 p1 p2) (va_cwU 2 hts gX2_afterStep_X2_lesser_u43X4 rfl rfl rfl rfl (by decide +kernel) ⟨Nat.le_of_ble_eq_true rfl, Nat.le_of_ble_eq_true rfl⟩) ⟨pq_blind, va_recv hK hP (ci := 3) (q0 := 0) rfl rfl, pq_pre hP hK hA⟩ rfl rfl hl.1 rfl (lv_room (Nat.le_of_ble_eq_true rfl)) dX2_afterStep_46 ⟨Nat.zero_le _, Nat.zero_le _⟩) ?_
        exact W.lret (v := (wh_lesser nb p1 p2)) hx hb hr (fun t ht hW => ⟨congrArg (fun z => Outcome.returned (some (Value.long z))) (show _ = wh_afterStep nb p0 p1 p2 from Eq.symm (show wh_afterStep nb p0 p1 p2 = _ from ((if_neg h1).trans ((if_neg h2).trans (if_pos h3))))), ht⟩) (fun q hq => absurd hq List.not_mem_nil) dX2_afterStep_49
      · refine lv_tableOut (tgt := 50) hx hb dX2_afterStep_1 (by have a0 := lv_neT h1 (a := 0) rfl; have a1 := lv_neT h2 (a := 1) rfl; have a2 := lv_neT h3 (a := 2) rfl; omega) (by decide) ?_
        refine lv_aload_n hx hb dX2_afterStep_50 rfl (lv_at hl 0 rfl) ?_
        refine lv_iload_n hx hb dX2_afterStep_51 rfl (lv_at hl 1 rfl) ?_
        refine lv_lload_n hx hb dX2_afterStep_52 rfl (lv_at hl 2 rfl) ?_
        refine lv_lload hx hb dX2_afterStep_53 (lv_at hl 3 rfl) ?_
        refine pq_call (va_runU (C := RX4) (As := [.int p0, .long p1, .long p2]) (rest := []) ⟨hx, hb, hml, hown, hts⟩ (mt_X4_afterFurtherStep l dC dI nb h0 p0 p1 p2) (va_cwA 3 hts gX2_afterStep_X4_afterFurtherStep_u46X4 rfl rfl rfl hA.2.2.2.2.2.2.2.2 (by decide +kernel) ⟨Nat.le_of_ble_eq_true rfl, Nat.le_of_ble_eq_true rfl⟩) ⟨pq_blind, va_recv hK hP (ci := 3) (q0 := 0) rfl rfl, pq_pre hP hK hA⟩ rfl rfl hl.1 rfl (lv_room (Nat.le_of_ble_eq_true rfl)) dX2_afterStep_55 ⟨Nat.zero_le _, Nat.zero_le _⟩) ?_
        exact W.lret (v := (wh_afterFurtherStep nb p0 p1 p2)) hx hb hr (fun t ht hW => ⟨congrArg (fun z => Outcome.returned (some (Value.long z))) (show _ = wh_afterStep nb p0 p1 p2 from Eq.symm (show wh_afterStep nb p0 p1 p2 = _ from ((if_neg h1).trans ((if_neg h2).trans (if_neg h3))))), ht⟩) (fun q hq => absurd hq List.not_mem_nil) dX2_afterStep_58
