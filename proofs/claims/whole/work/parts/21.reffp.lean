def rf_single (p0 : Int64) : UInt32 := (Int32.toUInt32 (Int64.toInt32 p0))
set_option maxHeartbeats 4000000 in
set_option maxRecDepth 100000 in
theorem mt_X6_single (l : Launch) (p0 : Int64) (hg1 : vn_sni2f (Int64.toInt32 p0) = false) : Met l yX6_single wsX6_single ({ frames := 1, cells := 0, slots := 0, locals := 15 }) (va_Pc [.long p0] (fun _ => True)) (pq_V (.float (rf_single p0))) 0 0 (fun _ => False) := by
  refine Met.ofW (cc := cX6_single) (maxL := 2) (ret := (some .float)) (by decide) rfl ?_
  intro p e s m args below meth c s₁ B hml hv
  obtain ⟨rfl, -⟩ := hv
  have hx := B.exec
  have hb := B.bytes
  have hr := B.returns
  have hts := atoms_spec (ws := wsX6_single) B.pre
  have hown : s.vm.findClass RX6 = some m.cls := findClass_of_methodNamed B.named
  have hlocks := B.notSynchronized
  have hl := lv_entry ([.long p0]) (n := 2) (Nat.le_of_ble_eq_true rfl)
  rw [lg_entry_eq]
  generalize (lg_sl ([.long p0]) ++ List.replicate (2 - (lg_sl ([.long p0])).length) Slot.unset).toArray = ls at hl ⊢
  have hl : lv_has ls 2 [(0, .long p0)] := hl
  refine lv_lload_n hx hb dX6_single_0 rfl (lv_at hl 0 rfl) ?_
  refine lv_l2i (v := (Int64.toInt32 p0)) hx hb dX6_single_1 rfl ?_
  refine vn_i2f hx hb (hml.trans hl.1.symm) hown (hts (.methodLink RX6 134 ⟨"java/lang/Float", "intBitsToFloat", "(I)F"⟩) (by decide +kernel)) (hts (.native ⟨"java/lang/Float", "intBitsToFloat", "(I)F"⟩) (by decide +kernel)) (hts (.static ⟨"java/lang/Float", "intBitsToFloat", "(I)F"⟩) (by decide +kernel)) (hts (.initialized "java/lang/Float") (by decide +kernel)) (hg1) (Nat.le_of_ble_eq_true rfl) (Nat.le_of_ble_eq_true rfl) dX6_single_2 ?_
  exact W.fret (v := (Int32.toUInt32 (Int64.toInt32 p0))) hx hb hr (fun t ht hW => ⟨congrArg (fun z => Outcome.returned (some (Value.float z))) (show _ = rf_single p0 from Eq.symm (show rf_single p0 = _ from rfl)), ht⟩) (fun q hq => absurd hq List.not_mem_nil) dX6_single_5
def rf_real (p0 : Int64) : UInt64 := (Int64.toUInt64 p0)
set_option maxHeartbeats 4000000 in
set_option maxRecDepth 100000 in
theorem mt_X6_real (l : Launch) (p0 : Int64) (hg1 : vn_snl2d p0 = false) : Met l yX6_real wsX6_real ({ frames := 1, cells := 0, slots := 0, locals := 15 }) (va_Pc [.long p0] (fun _ => True)) (pq_V (.double (rf_real p0))) 0 0 (fun _ => False) := by
  refine Met.ofW (cc := cX6_real) (maxL := 2) (ret := (some .double)) (by decide) rfl ?_
  intro p e s m args below meth c s₁ B hml hv
  obtain ⟨rfl, -⟩ := hv
  have hx := B.exec
  have hb := B.bytes
  have hr := B.returns
  have hts := atoms_spec (ws := wsX6_real) B.pre
  have hown : s.vm.findClass RX6 = some m.cls := findClass_of_methodNamed B.named
  have hlocks := B.notSynchronized
  have hl := lv_entry ([.long p0]) (n := 2) (Nat.le_of_ble_eq_true rfl)
  rw [lg_entry_eq]
  generalize (lg_sl ([.long p0]) ++ List.replicate (2 - (lg_sl ([.long p0])).length) Slot.unset).toArray = ls at hl ⊢
  have hl : lv_has ls 2 [(0, .long p0)] := hl
  refine lv_lload_n hx hb dX6_real_0 rfl (lv_at hl 0 rfl) ?_
  refine vn_l2d hx hb (hml.trans hl.1.symm) hown (hts (.methodLink RX6 140 ⟨"java/lang/Double", "longBitsToDouble", "(J)D"⟩) (by decide +kernel)) (hts (.native ⟨"java/lang/Double", "longBitsToDouble", "(J)D"⟩) (by decide +kernel)) (hts (.static ⟨"java/lang/Double", "longBitsToDouble", "(J)D"⟩) (by decide +kernel)) (hts (.initialized "java/lang/Double") (by decide +kernel)) (hg1) (Nat.le_of_ble_eq_true rfl) (Nat.le_of_ble_eq_true rfl) dX6_real_1 ?_
  exact W.dret (v := (Int64.toUInt64 p0)) hx hb hr (fun t ht hW => ⟨congrArg (fun z => Outcome.returned (some (Value.double z))) (show _ = rf_real p0 from Eq.symm (show rf_real p0 = _ from rfl)), ht⟩) (fun q hq => absurd hq List.not_mem_nil) dX6_real_4
def jd_nanD (p0 : UInt64) : Int32 := if (Op.cmpValue (FP.dcmp p0 p0) CmpOp.l) = 0 then 0 else (1)
set_option maxHeartbeats 4000000 in
set_option maxRecDepth 100000 in
theorem mt_Jxe99ae_isNaN_b9ae7 (l : Launch) (p0 : UInt64) : Met l yJxe99ae_isNaN_b9ae7 wsJxe99ae_isNaN_b9ae7 ({ frames := 0, cells := 0, slots := 0, locals := 0 }) (va_Pc [.double p0] (fun _ => True)) (pq_V (.int (jd_nanD p0))) 0 0 (fun _ => False) := by
  refine Met.ofW (cc := cJxe99ae_isNaN_b9ae7) (maxL := 2) (ret := (some .boolean)) (by decide) rfl ?_
  intro p e s m args below meth c s₁ B hml hv
  obtain ⟨rfl, -⟩ := hv
  have hx := B.exec
  have hb := B.bytes
  have hr := B.returns
  have hts := atoms_spec (ws := wsJxe99ae_isNaN_b9ae7) B.pre
  have hown : s.vm.findClass RJxe99ae = some m.cls := findClass_of_methodNamed B.named
  have hlocks := B.notSynchronized
  have hl := lv_entry ([.double p0]) (n := 2) (Nat.le_of_ble_eq_true rfl)
  rw [lg_entry_eq]
  generalize (lg_sl ([.double p0]) ++ List.replicate (2 - (lg_sl ([.double p0])).length) Slot.unset).toArray = ls at hl ⊢
  have hl : lv_has ls 2 [(0, .double p0)] := hl
  refine lv_dload_n hx hb dJxe99ae_isNaN_b9ae7_0 rfl (lv_at hl 0 rfl) ?_
  refine lv_dload_n hx hb dJxe99ae_isNaN_b9ae7_1 rfl (lv_at hl 0 rfl) ?_
  refine lv_dcmp hx hb dJxe99ae_isNaN_b9ae7_2 ?_
  refine lv_if_eq (tgt := 10) hx hb dJxe99ae_isNaN_b9ae7_3 (by decide) (fun h1 => ?_) (fun h1 => ?_)
  · refine lv_iconst (v := 0) hx hb dJxe99ae_isNaN_b9ae7_10 (by decide) ?_
    exact W.zret (v := 0) hx hb hr (by first | rfl | exact pq_nz) (fun t ht hW => ⟨congrArg (fun z => Outcome.returned (some (Value.int z))) (show _ = jd_nanD p0 from Eq.symm (show jd_nanD p0 = _ from (if_pos h1))), ht⟩) (fun q hq => absurd hq List.not_mem_nil) dJxe99ae_isNaN_b9ae7_11
  · refine lv_iconst (v := 1) hx hb dJxe99ae_isNaN_b9ae7_6 (by decide) ?_
    refine lv_goto (tgt := 11) hx hb dJxe99ae_isNaN_b9ae7_7 (by decide) ?_
    exact W.zret (v := 1) hx hb hr (by first | rfl | exact pq_nz) (fun t ht hW => ⟨congrArg (fun z => Outcome.returned (some (Value.int z))) (show _ = jd_nanD p0 from Eq.symm (show jd_nanD p0 = _ from (if_neg h1))), ht⟩) (fun q hq => absurd hq List.not_mem_nil) dJxe99ae_isNaN_b9ae7_11
def jd_nanF (p0 : UInt32) : Int32 := if (Op.cmpValue (FP.fcmp p0 p0) CmpOp.l) = 0 then 0 else (1)
set_option maxHeartbeats 4000000 in
set_option maxRecDepth 100000 in
theorem mt_Jxf58ca_isNaN_12338 (l : Launch) (p0 : UInt32) : Met l yJxf58ca_isNaN_12338 wsJxf58ca_isNaN_12338 ({ frames := 0, cells := 0, slots := 0, locals := 0 }) (va_Pc [.float p0] (fun _ => True)) (pq_V (.int (jd_nanF p0))) 0 0 (fun _ => False) := by
  refine Met.ofW (cc := cJxf58ca_isNaN_12338) (maxL := 1) (ret := (some .boolean)) (by decide) rfl ?_
  intro p e s m args below meth c s₁ B hml hv
  obtain ⟨rfl, -⟩ := hv
  have hx := B.exec
  have hb := B.bytes
  have hr := B.returns
  have hts := atoms_spec (ws := wsJxf58ca_isNaN_12338) B.pre
  have hown : s.vm.findClass RJxf58ca = some m.cls := findClass_of_methodNamed B.named
  have hlocks := B.notSynchronized
  have hl := lv_entry ([.float p0]) (n := 1) (Nat.le_of_ble_eq_true rfl)
  rw [lg_entry_eq]
  generalize (lg_sl ([.float p0]) ++ List.replicate (1 - (lg_sl ([.float p0])).length) Slot.unset).toArray = ls at hl ⊢
  have hl : lv_has ls 1 [(0, .float p0)] := hl
  refine lv_fload_n hx hb dJxf58ca_isNaN_12338_0 rfl (lv_at hl 0 rfl) ?_
  refine lv_fload_n hx hb dJxf58ca_isNaN_12338_1 rfl (lv_at hl 0 rfl) ?_
  refine lv_fcmp hx hb dJxf58ca_isNaN_12338_2 ?_
  refine lv_if_eq (tgt := 10) hx hb dJxf58ca_isNaN_12338_3 (by decide) (fun h1 => ?_) (fun h1 => ?_)
  · refine lv_iconst (v := 0) hx hb dJxf58ca_isNaN_12338_10 (by decide) ?_
    exact W.zret (v := 0) hx hb hr (by first | rfl | exact pq_nz) (fun t ht hW => ⟨congrArg (fun z => Outcome.returned (some (Value.int z))) (show _ = jd_nanF p0 from Eq.symm (show jd_nanF p0 = _ from (if_pos h1))), ht⟩) (fun q hq => absurd hq List.not_mem_nil) dJxf58ca_isNaN_12338_11
  · refine lv_iconst (v := 1) hx hb dJxf58ca_isNaN_12338_6 (by decide) ?_
    refine lv_goto (tgt := 11) hx hb dJxf58ca_isNaN_12338_7 (by decide) ?_
    exact W.zret (v := 1) hx hb hr (by first | rfl | exact pq_nz) (fun t ht hW => ⟨congrArg (fun z => Outcome.returned (some (Value.int z))) (show _ = jd_nanF p0 from Eq.symm (show jd_nanF p0 = _ from (if_neg h1))), ht⟩) (fun q hq => absurd hq List.not_mem_nil) dJxf58ca_isNaN_12338_11
def jd_d2l (p0 : UInt64) : Int64 := if (jd_nanD p0) = 0 then (UInt64.toInt64 p0) else (9221120237041090560)
set_option maxHeartbeats 4000000 in
set_option maxRecDepth 100000 in
theorem mt_Jxe99ae_doubleToLongBits_ccdee (l : Launch) (p0 : UInt64) : Met l yJxe99ae_doubleToLongBits_ccdee wsJxe99ae_doubleToLongBits_ccdee ({ frames := 1, cells := 0, slots := 0, locals := 21 }) (va_Pc [.double p0] (fun _ => True)) (pq_V (.long (jd_d2l p0))) 0 0 (fun _ => False) := by
  refine Met.ofW (cc := cJxe99ae_doubleToLongBits_ccdee) (maxL := 2) (ret := (some .long)) (by decide) rfl ?_
  intro p e s m args below meth c s₁ B hml hv
  obtain ⟨rfl, -⟩ := hv
  have hx := B.exec
  have hb := B.bytes
  have hr := B.returns
  have hts := atoms_spec (ws := wsJxe99ae_doubleToLongBits_ccdee) B.pre
  have hown : s.vm.findClass RJxe99ae = some m.cls := findClass_of_methodNamed B.named
  have hlocks := B.notSynchronized
  have hl := lv_entry ([.double p0]) (n := 2) (Nat.le_of_ble_eq_true rfl)
  rw [lg_entry_eq]
  generalize (lg_sl ([.double p0]) ++ List.replicate (2 - (lg_sl ([.double p0])).length) Slot.unset).toArray = ls at hl ⊢
  have hl : lv_has ls 2 [(0, .double p0)] := hl
  refine lv_dload_n hx hb dJxe99ae_doubleToLongBits_ccdee_0 rfl (lv_at hl 0 rfl) ?_
  refine pq_call (va_runS (As := [.double p0]) (rest := []) ⟨hx, hb, hml, hown, hts⟩ (mt_Jxe99ae_isNaN_b9ae7 l p0) (va_cwS 1 hts gJxe99ae_doubleToLongBits_ccdee_Jxe99ae_isNaN_b9ae7 rfl rfl rfl (by decide +kernel) ⟨Nat.le_of_ble_eq_true rfl, Nat.le_of_ble_eq_true rfl⟩) ⟨fun a U g mk q => q, fun U hU hW => ⟨rfl, trivial⟩⟩ rfl rfl hl.1 rfl (lv_room (Nat.le_of_ble_eq_true rfl)) dJxe99ae_doubleToLongBits_ccdee_1 ⟨Nat.zero_le _, Nat.zero_le _⟩) ?_
  refine lv_if_ne (tgt := 12) hx hb dJxe99ae_doubleToLongBits_ccdee_4 (by decide) (fun h1 => ?_) (fun h1 => ?_)
  · refine lv_ldc2 hx hb hown (hts (.constantLong RJxe99ae 137 (9221120237041090560)) (by decide +kernel)) dJxe99ae_doubleToLongBits_ccdee_12 ?_
    exact W.lret (v := 9221120237041090560) hx hb hr (fun t ht hW => ⟨congrArg (fun z => Outcome.returned (some (Value.long z))) (show _ = jd_d2l p0 from Eq.symm (show jd_d2l p0 = _ from (if_neg h1))), ht⟩) (fun q hq => absurd hq List.not_mem_nil) dJxe99ae_doubleToLongBits_ccdee_15
  · refine lv_dload_n hx hb dJxe99ae_doubleToLongBits_ccdee_7 rfl (lv_at hl 0 rfl) ?_
    refine vn_d2l hx hb (hml.trans hl.1.symm) hown (hts (.methodLink RJxe99ae 134 ⟨"java/lang/Double", "doubleToRawLongBits", "(D)J"⟩) (by decide +kernel)) (hts (.native ⟨"java/lang/Double", "doubleToRawLongBits", "(D)J"⟩) (by decide +kernel)) (hts (.static ⟨"java/lang/Double", "doubleToRawLongBits", "(D)J"⟩) (by decide +kernel)) (hts (.initialized "java/lang/Double") (by decide +kernel)) (Nat.le_of_ble_eq_true rfl) (Nat.le_of_ble_eq_true rfl) dJxe99ae_doubleToLongBits_ccdee_8 ?_
    exact W.lret (v := (UInt64.toInt64 p0)) hx hb hr (fun t ht hW => ⟨congrArg (fun z => Outcome.returned (some (Value.long z))) (show _ = jd_d2l p0 from Eq.symm (show jd_d2l p0 = _ from (if_pos h1))), ht⟩) (fun q hq => absurd hq List.not_mem_nil) dJxe99ae_doubleToLongBits_ccdee_11
def jd_f2i (p0 : UInt32) : Int32 := if (jd_nanF p0) = 0 then (UInt32.toInt32 p0) else (2143289344)
set_option maxHeartbeats 4000000 in
set_option maxRecDepth 100000 in
theorem mt_Jxf58ca_floatToIntBits_5c35a (l : Launch) (p0 : UInt32) : Met l yJxf58ca_floatToIntBits_5c35a wsJxf58ca_floatToIntBits_5c35a ({ frames := 1, cells := 0, slots := 0, locals := 20 }) (va_Pc [.float p0] (fun _ => True)) (pq_V (.int (jd_f2i p0))) 0 0 (fun _ => False) := by
  refine Met.ofW (cc := cJxf58ca_floatToIntBits_5c35a) (maxL := 1) (ret := (some .int)) (by decide) rfl ?_
  intro p e s m args below meth c s₁ B hml hv
  obtain ⟨rfl, -⟩ := hv
  have hx := B.exec
  have hb := B.bytes
  have hr := B.returns
  have hts := atoms_spec (ws := wsJxf58ca_floatToIntBits_5c35a) B.pre
  have hown : s.vm.findClass RJxf58ca = some m.cls := findClass_of_methodNamed B.named
  have hlocks := B.notSynchronized
  have hl := lv_entry ([.float p0]) (n := 1) (Nat.le_of_ble_eq_true rfl)
  rw [lg_entry_eq]
  generalize (lg_sl ([.float p0]) ++ List.replicate (1 - (lg_sl ([.float p0])).length) Slot.unset).toArray = ls at hl ⊢
  have hl : lv_has ls 1 [(0, .float p0)] := hl
  refine lv_fload_n hx hb dJxf58ca_floatToIntBits_5c35a_0 rfl (lv_at hl 0 rfl) ?_
  refine pq_call (va_runS (As := [.float p0]) (rest := []) ⟨hx, hb, hml, hown, hts⟩ (mt_Jxf58ca_isNaN_12338 l p0) (va_cwS 1 hts gJxf58ca_floatToIntBits_5c35a_Jxf58ca_isNaN_12338 rfl rfl rfl (by decide +kernel) ⟨Nat.le_of_ble_eq_true rfl, Nat.le_of_ble_eq_true rfl⟩) ⟨fun a U g mk q => q, fun U hU hW => ⟨rfl, trivial⟩⟩ rfl rfl hl.1 rfl (lv_room (Nat.le_of_ble_eq_true rfl)) dJxf58ca_floatToIntBits_5c35a_1 ⟨Nat.zero_le _, Nat.zero_le _⟩) ?_
  refine lv_if_ne (tgt := 12) hx hb dJxf58ca_floatToIntBits_5c35a_4 (by decide) (fun h1 => ?_) (fun h1 => ?_)
  · refine lv_ldc hx hb hown (hts (.constant RJxf58ca 77 (2143289344)) (by decide +kernel)) dJxf58ca_floatToIntBits_5c35a_12 ?_
    exact W.iret (v := 2143289344) hx hb hr (fun t ht hW => ⟨congrArg (fun z => Outcome.returned (some (Value.int z))) (show _ = jd_f2i p0 from Eq.symm (show jd_f2i p0 = _ from (if_neg h1))), ht⟩) (fun q hq => absurd hq List.not_mem_nil) dJxf58ca_floatToIntBits_5c35a_14
  · refine lv_fload_n hx hb dJxf58ca_floatToIntBits_5c35a_7 rfl (lv_at hl 0 rfl) ?_
    refine vn_f2i hx hb (hml.trans hl.1.symm) hown (hts (.methodLink RJxf58ca 74 ⟨"java/lang/Float", "floatToRawIntBits", "(F)I"⟩) (by decide +kernel)) (hts (.native ⟨"java/lang/Float", "floatToRawIntBits", "(F)I"⟩) (by decide +kernel)) (hts (.static ⟨"java/lang/Float", "floatToRawIntBits", "(F)I"⟩) (by decide +kernel)) (hts (.initialized "java/lang/Float") (by decide +kernel)) (Nat.le_of_ble_eq_true rfl) (Nat.le_of_ble_eq_true rfl) dJxf58ca_floatToIntBits_5c35a_8 ?_
    exact W.iret (v := (UInt32.toInt32 p0)) hx hb hr (fun t ht hW => ⟨congrArg (fun z => Outcome.returned (some (Value.int z))) (show _ = jd_f2i p0 from Eq.symm (show jd_f2i p0 = _ from (if_pos h1))), ht⟩) (fun q hq => absurd hq List.not_mem_nil) dJxf58ca_floatToIntBits_5c35a_11
def rf_swing (p0 : Int32) (p1 : Int64) (p2 : Int64) : Int64 := if (rf_height p0 p1) = (rf_height p0 p2) then 0 else (if p0 = 2 then (rf_amount p0 (Int32.toInt64 (jd_f2i (FP.fsub (rf_single p1) (rf_single p2))))) else (if p0 = 3 then (rf_amount p0 (jd_d2l (FP.dsub (rf_real p1) (rf_real p2)))) else ((rf_amount p0 (rf_cut p0 (p1 - p2))))))
set_option maxHeartbeats 4000000 in
set_option maxRecDepth 100000 in
theorem mt_X6_swing (l : Launch) (p0 : Int32) (p1 : Int64) (p2 : Int64) (hg1 : ¬ ((rf_height p0 p1) = (rf_height p0 p2)) → ¬ (p0 = 2) → (p0 = 3) → (vn_snl2d p1 = false)) (hg2 : ¬ ((rf_height p0 p1) = (rf_height p0 p2)) → ¬ (p0 = 2) → (p0 = 3) → (vn_snl2d p2 = false)) (hg3 : ¬ ((rf_height p0 p1) = (rf_height p0 p2)) → ¬ (p0 = 2) → (p0 = 3) → vf_n64 (FP.dsub (rf_real p1) (rf_real p2))) (hg4 : ¬ ((rf_height p0 p1) = (rf_height p0 p2)) → (p0 = 2) → (vn_sni2f (Int64.toInt32 p1) = false)) (hg5 : ¬ ((rf_height p0 p1) = (rf_height p0 p2)) → (p0 = 2) → (vn_sni2f (Int64.toInt32 p2) = false)) (hg6 : ¬ ((rf_height p0 p1) = (rf_height p0 p2)) → (p0 = 2) → vf_n32 (FP.fsub (rf_single p1) (rf_single p2))) : Met l yX6_swing wsX6_swing ({ frames := 4, cells := 0, slots := 0, locals := 90 }) (va_Pc [.int p0, .long p1, .long p2] (fun _ => True)) (pq_V (.long (rf_swing p0 p1 p2))) 0 0 (fun _ => False) := by
  refine Met.ofW (cc := cX6_swing) (maxL := 5) (ret := (some .long)) (by decide) rfl ?_
  intro p e s m args below meth c s₁ B hml hv
  obtain ⟨rfl, -⟩ := hv
  have hx := B.exec
  have hb := B.bytes
  have hr := B.returns
  have hts := atoms_spec (ws := wsX6_swing) B.pre
  have hown : s.vm.findClass RX6 = some m.cls := findClass_of_methodNamed B.named
  have hlocks := B.notSynchronized
  have hl := lv_entry ([.int p0, .long p1, .long p2]) (n := 5) (Nat.le_of_ble_eq_true rfl)
  rw [lg_entry_eq]
  generalize (lg_sl ([.int p0, .long p1, .long p2]) ++ List.replicate (5 - (lg_sl ([.int p0, .long p1, .long p2])).length) Slot.unset).toArray = ls at hl ⊢
  have hl : lv_has ls 5 [(0, .int p0), (1, .long p1), (3, .long p2)] := hl
  refine lv_iload_n hx hb dX6_swing_0 rfl (lv_at hl 0 rfl) ?_
  refine lv_lload_n hx hb dX6_swing_1 rfl (lv_at hl 1 rfl) ?_
  refine pq_call (va_runS (As := [.int p0, .long p1]) (rest := []) ⟨hx, hb, hml, hown, hts⟩ (mt_X6_height l p0 p1) (va_cwS 2 hts gX6_swing_X6_height rfl rfl rfl (by decide +kernel) ⟨Nat.le_of_ble_eq_true rfl, Nat.le_of_ble_eq_true rfl⟩) ⟨fun a U g mk q => q, fun U hU hW => ⟨rfl, trivial⟩⟩ rfl rfl hl.1 rfl (lv_room (Nat.le_of_ble_eq_true rfl)) dX6_swing_2 ⟨Nat.zero_le _, Nat.zero_le _⟩) ?_
  refine lv_iload_n hx hb dX6_swing_5 rfl (lv_at hl 0 rfl) ?_
  refine lv_lload_n hx hb dX6_swing_6 rfl (lv_at hl 2 rfl) ?_
  refine pq_call (va_runS (As := [.int p0, .long p2]) (rest := [.long (rf_height p0 p1)]) ⟨hx, hb, hml, hown, hts⟩ (mt_X6_height l p0 p2) (va_cwS 2 hts gX6_swing_X6_height rfl rfl rfl (by decide +kernel) ⟨Nat.le_of_ble_eq_true rfl, Nat.le_of_ble_eq_true rfl⟩) ⟨fun a U g mk q => q, fun U hU hW => ⟨rfl, trivial⟩⟩ rfl rfl hl.1 rfl (lv_room (Nat.le_of_ble_eq_true rfl)) dX6_swing_7 ⟨Nat.zero_le _, Nat.zero_le _⟩) ?_
  refine pq_lcmp_ne (tgt := 16) hx hb dX6_swing_10 dX6_swing_11 (by decide) (fun h1 => ?_) (fun h1 => ?_)
  · refine lv_iload_n hx hb dX6_swing_16 rfl (lv_at hl 0 rfl) ?_
    refine lv_iconst (v := 2) hx hb dX6_swing_17 (by decide) ?_
    refine lv_icmp_ne (tgt := 39) hx hb dX6_swing_18 (by decide) (fun h2 => ?_) (fun h2 => ?_)
    · refine lv_iload_n hx hb dX6_swing_39 rfl (lv_at hl 0 rfl) ?_
      refine lv_iconst (v := 3) hx hb dX6_swing_40 (by decide) ?_
      refine lv_icmp_ne (tgt := 61) hx hb dX6_swing_41 (by decide) (fun h3 => ?_) (fun h3 => ?_)
      · refine lv_iload_n hx hb dX6_swing_61 rfl (lv_at hl 0 rfl) ?_
        refine lv_iload_n hx hb dX6_swing_62 rfl (lv_at hl 0 rfl) ?_
        refine lv_lload_n hx hb dX6_swing_63 rfl (lv_at hl 1 rfl) ?_
        refine lv_lload_n hx hb dX6_swing_64 rfl (lv_at hl 2 rfl) ?_
        refine lv_lsub hx hb dX6_swing_65 ?_
        refine pq_call (va_runS (As := [.int p0, .long (p1 - p2)]) (rest := [.int p0]) ⟨hx, hb, hml, hown, hts⟩ (mt_X6_cut l p0 (p1 - p2)) (va_cwS 2 hts gX6_swing_X6_cut rfl rfl rfl (by decide +kernel) ⟨Nat.le_of_ble_eq_true rfl, Nat.le_of_ble_eq_true rfl⟩) ⟨fun a U g mk q => q, fun U hU hW => ⟨rfl, trivial⟩⟩ rfl rfl hl.1 rfl (lv_room (Nat.le_of_ble_eq_true rfl)) dX6_swing_66 ⟨Nat.zero_le _, Nat.zero_le _⟩) ?_
        refine pq_call (va_runS (As := [.int p0, .long (rf_cut p0 (p1 - p2))]) (rest := []) ⟨hx, hb, hml, hown, hts⟩ (mt_X6_amount l p0 (rf_cut p0 (p1 - p2))) (va_cwS 2 hts gX6_swing_X6_amount rfl rfl rfl (by decide +kernel) ⟨Nat.le_of_ble_eq_true rfl, Nat.le_of_ble_eq_true rfl⟩) ⟨fun a U g mk q => q, fun U hU hW => ⟨rfl, trivial⟩⟩ rfl rfl hl.1 rfl (lv_room (Nat.le_of_ble_eq_true rfl)) dX6_swing_69 ⟨Nat.zero_le _, Nat.zero_le _⟩) ?_
        exact W.lret (v := (rf_amount p0 (rf_cut p0 (p1 - p2)))) hx hb hr (fun t ht hW => ⟨congrArg (fun z => Outcome.returned (some (Value.long z))) (show _ = rf_swing p0 p1 p2 from Eq.symm (show rf_swing p0 p1 p2 = _ from ((if_neg h1).trans ((if_neg h2).trans (if_neg h3))))), ht⟩) (fun q hq => absurd hq List.not_mem_nil) dX6_swing_72
      · refine lv_iload_n hx hb dX6_swing_44 rfl (lv_at hl 0 rfl) ?_
        refine lv_lload_n hx hb dX6_swing_45 rfl (lv_at hl 1 rfl) ?_
        refine pq_call (va_runS (As := [.long p1]) (rest := [.int p0]) ⟨hx, hb, hml, hown, hts⟩ (mt_X6_real l p1 (hg1 h1 h2 h3)) (va_cwS 1 hts gX6_swing_X6_real rfl rfl rfl (by decide +kernel) ⟨Nat.le_of_ble_eq_true rfl, Nat.le_of_ble_eq_true rfl⟩) ⟨fun a U g mk q => q, fun U hU hW => ⟨rfl, trivial⟩⟩ rfl rfl hl.1 rfl (lv_room (Nat.le_of_ble_eq_true rfl)) dX6_swing_46 ⟨Nat.zero_le _, Nat.zero_le _⟩) ?_
        refine lv_lload_n hx hb dX6_swing_49 rfl (lv_at hl 2 rfl) ?_
        refine pq_call (va_runS (As := [.long p2]) (rest := [.double (rf_real p1), .int p0]) ⟨hx, hb, hml, hown, hts⟩ (mt_X6_real l p2 (hg2 h1 h2 h3)) (va_cwS 1 hts gX6_swing_X6_real rfl rfl rfl (by decide +kernel) ⟨Nat.le_of_ble_eq_true rfl, Nat.le_of_ble_eq_true rfl⟩) ⟨fun a U g mk q => q, fun U hU hW => ⟨rfl, trivial⟩⟩ rfl rfl hl.1 rfl (lv_room (Nat.le_of_ble_eq_true rfl)) dX6_swing_50 ⟨Nat.zero_le _, Nat.zero_le _⟩) ?_
        refine lv_dsub hx hb dX6_swing_53 (hg3 h1 h2 h3) ?_
        refine pq_call (va_runS (As := [.double (FP.dsub (rf_real p1) (rf_real p2))]) (rest := [.int p0]) ⟨hx, hb, hml, hown, hts⟩ (mt_Jxe99ae_doubleToLongBits_ccdee l (FP.dsub (rf_real p1) (rf_real p2))) (va_cwS 1 hts gX6_swing_Jxe99ae_doubleToLongBits_ccdee rfl rfl rfl (by decide +kernel) ⟨Nat.le_of_ble_eq_true rfl, Nat.le_of_ble_eq_true rfl⟩) ⟨fun a U g mk q => q, fun U hU hW => ⟨rfl, trivial⟩⟩ rfl rfl hl.1 rfl (lv_room (Nat.le_of_ble_eq_true rfl)) dX6_swing_54 ⟨Nat.zero_le _, Nat.zero_le _⟩) ?_
        refine pq_call (va_runS (As := [.int p0, .long (jd_d2l (FP.dsub (rf_real p1) (rf_real p2)))]) (rest := []) ⟨hx, hb, hml, hown, hts⟩ (mt_X6_amount l p0 (jd_d2l (FP.dsub (rf_real p1) (rf_real p2)))) (va_cwS 2 hts gX6_swing_X6_amount rfl rfl rfl (by decide +kernel) ⟨Nat.le_of_ble_eq_true rfl, Nat.le_of_ble_eq_true rfl⟩) ⟨fun a U g mk q => q, fun U hU hW => ⟨rfl, trivial⟩⟩ rfl rfl hl.1 rfl (lv_room (Nat.le_of_ble_eq_true rfl)) dX6_swing_57 ⟨Nat.zero_le _, Nat.zero_le _⟩) ?_
        exact W.lret (v := (rf_amount p0 (jd_d2l (FP.dsub (rf_real p1) (rf_real p2))))) hx hb hr (fun t ht hW => ⟨congrArg (fun z => Outcome.returned (some (Value.long z))) (show _ = rf_swing p0 p1 p2 from Eq.symm (show rf_swing p0 p1 p2 = _ from ((if_neg h1).trans ((if_neg h2).trans (if_pos h3))))), ht⟩) (fun q hq => absurd hq List.not_mem_nil) dX6_swing_60
    · refine lv_iload_n hx hb dX6_swing_21 rfl (lv_at hl 0 rfl) ?_
      refine lv_lload_n hx hb dX6_swing_22 rfl (lv_at hl 1 rfl) ?_
      refine pq_call (va_runS (As := [.long p1]) (rest := [.int p0]) ⟨hx, hb, hml, hown, hts⟩ (mt_X6_single l p1 (hg4 h1 h2)) (va_cwS 1 hts gX6_swing_X6_single rfl rfl rfl (by decide +kernel) ⟨Nat.le_of_ble_eq_true rfl, Nat.le_of_ble_eq_true rfl⟩) ⟨fun a U g mk q => q, fun U hU hW => ⟨rfl, trivial⟩⟩ rfl rfl hl.1 rfl (lv_room (Nat.le_of_ble_eq_true rfl)) dX6_swing_23 ⟨Nat.zero_le _, Nat.zero_le _⟩) ?_
      refine lv_lload_n hx hb dX6_swing_26 rfl (lv_at hl 2 rfl) ?_
      refine pq_call (va_runS (As := [.long p2]) (rest := [.float (rf_single p1), .int p0]) ⟨hx, hb, hml, hown, hts⟩ (mt_X6_single l p2 (hg5 h1 h2)) (va_cwS 1 hts gX6_swing_X6_single rfl rfl rfl (by decide +kernel) ⟨Nat.le_of_ble_eq_true rfl, Nat.le_of_ble_eq_true rfl⟩) ⟨fun a U g mk q => q, fun U hU hW => ⟨rfl, trivial⟩⟩ rfl rfl hl.1 rfl (lv_room (Nat.le_of_ble_eq_true rfl)) dX6_swing_27 ⟨Nat.zero_le _, Nat.zero_le _⟩) ?_
      refine lv_fsub hx hb dX6_swing_30 (hg6 h1 h2) ?_
      refine pq_call (va_runS (As := [.float (FP.fsub (rf_single p1) (rf_single p2))]) (rest := [.int p0]) ⟨hx, hb, hml, hown, hts⟩ (mt_Jxf58ca_floatToIntBits_5c35a l (FP.fsub (rf_single p1) (rf_single p2))) (va_cwS 1 hts gX6_swing_Jxf58ca_floatToIntBits_5c35a rfl rfl rfl (by decide +kernel) ⟨Nat.le_of_ble_eq_true rfl, Nat.le_of_ble_eq_true rfl⟩) ⟨fun a U g mk q => q, fun U hU hW => ⟨rfl, trivial⟩⟩ rfl rfl hl.1 rfl (lv_room (Nat.le_of_ble_eq_true rfl)) dX6_swing_31 ⟨Nat.zero_le _, Nat.zero_le _⟩) ?_
      refine lv_i2l (v := (Int32.toInt64 (jd_f2i (FP.fsub (rf_single p1) (rf_single p2))))) hx hb dX6_swing_34 rfl ?_
      refine pq_call (va_runS (As := [.int p0, .long (Int32.toInt64 (jd_f2i (FP.fsub (rf_single p1) (rf_single p2))))]) (rest := []) ⟨hx, hb, hml, hown, hts⟩ (mt_X6_amount l p0 (Int32.toInt64 (jd_f2i (FP.fsub (rf_single p1) (rf_single p2))))) (va_cwS 2 hts gX6_swing_X6_amount rfl rfl rfl (by decide +kernel) ⟨Nat.le_of_ble_eq_true rfl, Nat.le_of_ble_eq_true rfl⟩) ⟨fun a U g mk q => q, fun U hU hW => ⟨rfl, trivial⟩⟩ rfl rfl hl.1 rfl (lv_room (Nat.le_of_ble_eq_true rfl)) dX6_swing_35 ⟨Nat.zero_le _, Nat.zero_le _⟩) ?_
      exact W.lret (v := (rf_amount p0 (Int32.toInt64 (jd_f2i (FP.fsub (rf_single p1) (rf_single p2)))))) hx hb hr (fun t ht hW => ⟨congrArg (fun z => Outcome.returned (some (Value.long z))) (show _ = rf_swing p0 p1 p2 from Eq.symm (show rf_swing p0 p1 p2 = _ from ((if_neg h1).trans (if_pos h2)))), ht⟩) (fun q hq => absurd hq List.not_mem_nil) dX6_swing_38
  · refine lv_lconst (v := 0) hx hb dX6_swing_14 (by decide) ?_
    exact W.lret (v := 0) hx hb hr (fun t ht hW => ⟨congrArg (fun z => Outcome.returned (some (Value.long z))) (show _ = rf_swing p0 p1 p2 from Eq.symm (show rf_swing p0 p1 p2 = _ from (if_pos h1))), ht⟩) (fun q hq => absurd hq List.not_mem_nil) dX6_swing_15
def rf_sum (p0 : Int32) (p1 : Int64) (p2 : Int64) : Int64 := if p0 = 2 then (Int32.toInt64 (jd_f2i (FP.fadd (rf_single p1) (rf_single p2)))) else (if p0 = 3 then (jd_d2l (FP.dadd (rf_real p1) (rf_real p2))) else ((rf_cut p0 (p1 + p2))))
set_option maxHeartbeats 4000000 in
set_option maxRecDepth 100000 in
theorem mt_X6_sum (l : Launch) (p0 : Int32) (p1 : Int64) (p2 : Int64) (hg1 : ¬ (p0 = 2) → (p0 = 3) → (vn_snl2d p1 = false)) (hg2 : ¬ (p0 = 2) → (p0 = 3) → (vn_snl2d p2 = false)) (hg3 : ¬ (p0 = 2) → (p0 = 3) → vf_n64 (FP.dadd (rf_real p1) (rf_real p2))) (hg4 : (p0 = 2) → (vn_sni2f (Int64.toInt32 p1) = false)) (hg5 : (p0 = 2) → (vn_sni2f (Int64.toInt32 p2) = false)) (hg6 : (p0 = 2) → vf_n32 (FP.fadd (rf_single p1) (rf_single p2))) : Met l yX6_sum wsX6_sum ({ frames := 2, cells := 0, slots := 0, locals := 42 }) (va_Pc [.int p0, .long p1, .long p2] (fun _ => True)) (pq_V (.long (rf_sum p0 p1 p2))) 0 0 (fun _ => False) := by
  refine Met.ofW (cc := cX6_sum) (maxL := 5) (ret := (some .long)) (by decide) rfl ?_
  intro p e s m args below meth c s₁ B hml hv
  obtain ⟨rfl, -⟩ := hv
  have hx := B.exec
  have hb := B.bytes
  have hr := B.returns
  have hts := atoms_spec (ws := wsX6_sum) B.pre
  have hown : s.vm.findClass RX6 = some m.cls := findClass_of_methodNamed B.named
  have hlocks := B.notSynchronized
  have hl := lv_entry ([.int p0, .long p1, .long p2]) (n := 5) (Nat.le_of_ble_eq_true rfl)
  rw [lg_entry_eq]
  generalize (lg_sl ([.int p0, .long p1, .long p2]) ++ List.replicate (5 - (lg_sl ([.int p0, .long p1, .long p2])).length) Slot.unset).toArray = ls at hl ⊢
  have hl : lv_has ls 5 [(0, .int p0), (1, .long p1), (3, .long p2)] := hl
  refine lv_iload_n hx hb dX6_sum_0 rfl (lv_at hl 0 rfl) ?_
  refine lv_iconst (v := 2) hx hb dX6_sum_1 (by decide) ?_
  refine lv_icmp_ne (tgt := 19) hx hb dX6_sum_2 (by decide) (fun h1 => ?_) (fun h1 => ?_)
  · refine lv_iload_n hx hb dX6_sum_19 rfl (lv_at hl 0 rfl) ?_
    refine lv_iconst (v := 3) hx hb dX6_sum_20 (by decide) ?_
    refine lv_icmp_ne (tgt := 37) hx hb dX6_sum_21 (by decide) (fun h2 => ?_) (fun h2 => ?_)
    · refine lv_iload_n hx hb dX6_sum_37 rfl (lv_at hl 0 rfl) ?_
      refine lv_lload_n hx hb dX6_sum_38 rfl (lv_at hl 1 rfl) ?_
      refine lv_lload_n hx hb dX6_sum_39 rfl (lv_at hl 2 rfl) ?_
      refine lv_ladd hx hb dX6_sum_40 ?_
      refine pq_call (va_runS (As := [.int p0, .long (p1 + p2)]) (rest := []) ⟨hx, hb, hml, hown, hts⟩ (mt_X6_cut l p0 (p1 + p2)) (va_cwS 2 hts gX6_sum_X6_cut rfl rfl rfl (by decide +kernel) ⟨Nat.le_of_ble_eq_true rfl, Nat.le_of_ble_eq_true rfl⟩) ⟨fun a U g mk q => q, fun U hU hW => ⟨rfl, trivial⟩⟩ rfl rfl hl.1 rfl (lv_room (Nat.le_of_ble_eq_true rfl)) dX6_sum_41 ⟨Nat.zero_le _, Nat.zero_le _⟩) ?_
      exact W.lret (v := (rf_cut p0 (p1 + p2))) hx hb hr (fun t ht hW => ⟨congrArg (fun z => Outcome.returned (some (Value.long z))) (show _ = rf_sum p0 p1 p2 from Eq.symm (show rf_sum p0 p1 p2 = _ from ((if_neg h1).trans (if_neg h2)))), ht⟩) (fun q hq => absurd hq List.not_mem_nil) dX6_sum_44
    · refine lv_lload_n hx hb dX6_sum_24 rfl (lv_at hl 1 rfl) ?_
      refine pq_call (va_runS (As := [.long p1]) (rest := []) ⟨hx, hb, hml, hown, hts⟩ (mt_X6_real l p1 (hg1 h1 h2)) (va_cwS 1 hts gX6_sum_X6_real rfl rfl rfl (by decide +kernel) ⟨Nat.le_of_ble_eq_true rfl, Nat.le_of_ble_eq_true rfl⟩) ⟨fun a U g mk q => q, fun U hU hW => ⟨rfl, trivial⟩⟩ rfl rfl hl.1 rfl (lv_room (Nat.le_of_ble_eq_true rfl)) dX6_sum_25 ⟨Nat.zero_le _, Nat.zero_le _⟩) ?_
      refine lv_lload_n hx hb dX6_sum_28 rfl (lv_at hl 2 rfl) ?_
      refine pq_call (va_runS (As := [.long p2]) (rest := [.double (rf_real p1)]) ⟨hx, hb, hml, hown, hts⟩ (mt_X6_real l p2 (hg2 h1 h2)) (va_cwS 1 hts gX6_sum_X6_real rfl rfl rfl (by decide +kernel) ⟨Nat.le_of_ble_eq_true rfl, Nat.le_of_ble_eq_true rfl⟩) ⟨fun a U g mk q => q, fun U hU hW => ⟨rfl, trivial⟩⟩ rfl rfl hl.1 rfl (lv_room (Nat.le_of_ble_eq_true rfl)) dX6_sum_29 ⟨Nat.zero_le _, Nat.zero_le _⟩) ?_
      refine lv_dadd hx hb dX6_sum_32 (hg3 h1 h2) ?_
      refine pq_call (va_runS (As := [.double (FP.dadd (rf_real p1) (rf_real p2))]) (rest := []) ⟨hx, hb, hml, hown, hts⟩ (mt_Jxe99ae_doubleToLongBits_ccdee l (FP.dadd (rf_real p1) (rf_real p2))) (va_cwS 1 hts gX6_sum_Jxe99ae_doubleToLongBits_ccdee rfl rfl rfl (by decide +kernel) ⟨Nat.le_of_ble_eq_true rfl, Nat.le_of_ble_eq_true rfl⟩) ⟨fun a U g mk q => q, fun U hU hW => ⟨rfl, trivial⟩⟩ rfl rfl hl.1 rfl (lv_room (Nat.le_of_ble_eq_true rfl)) dX6_sum_33 ⟨Nat.zero_le _, Nat.zero_le _⟩) ?_
      exact W.lret (v := (jd_d2l (FP.dadd (rf_real p1) (rf_real p2)))) hx hb hr (fun t ht hW => ⟨congrArg (fun z => Outcome.returned (some (Value.long z))) (show _ = rf_sum p0 p1 p2 from Eq.symm (show rf_sum p0 p1 p2 = _ from ((if_neg h1).trans (if_pos h2)))), ht⟩) (fun q hq => absurd hq List.not_mem_nil) dX6_sum_36
  · refine lv_lload_n hx hb dX6_sum_5 rfl (lv_at hl 1 rfl) ?_
    refine pq_call (va_runS (As := [.long p1]) (rest := []) ⟨hx, hb, hml, hown, hts⟩ (mt_X6_single l p1 (hg4 h1)) (va_cwS 1 hts gX6_sum_X6_single rfl rfl rfl (by decide +kernel) ⟨Nat.le_of_ble_eq_true rfl, Nat.le_of_ble_eq_true rfl⟩) ⟨fun a U g mk q => q, fun U hU hW => ⟨rfl, trivial⟩⟩ rfl rfl hl.1 rfl (lv_room (Nat.le_of_ble_eq_true rfl)) dX6_sum_6 ⟨Nat.zero_le _, Nat.zero_le _⟩) ?_
    refine lv_lload_n hx hb dX6_sum_9 rfl (lv_at hl 2 rfl) ?_
    refine pq_call (va_runS (As := [.long p2]) (rest := [.float (rf_single p1)]) ⟨hx, hb, hml, hown, hts⟩ (mt_X6_single l p2 (hg5 h1)) (va_cwS 1 hts gX6_sum_X6_single rfl rfl rfl (by decide +kernel) ⟨Nat.le_of_ble_eq_true rfl, Nat.le_of_ble_eq_true rfl⟩) ⟨fun a U g mk q => q, fun U hU hW => ⟨rfl, trivial⟩⟩ rfl rfl hl.1 rfl (lv_room (Nat.le_of_ble_eq_true rfl)) dX6_sum_10 ⟨Nat.zero_le _, Nat.zero_le _⟩) ?_
    refine lv_fadd hx hb dX6_sum_13 (hg6 h1) ?_
    refine pq_call (va_runS (As := [.float (FP.fadd (rf_single p1) (rf_single p2))]) (rest := []) ⟨hx, hb, hml, hown, hts⟩ (mt_Jxf58ca_floatToIntBits_5c35a l (FP.fadd (rf_single p1) (rf_single p2))) (va_cwS 1 hts gX6_sum_Jxf58ca_floatToIntBits_5c35a rfl rfl rfl (by decide +kernel) ⟨Nat.le_of_ble_eq_true rfl, Nat.le_of_ble_eq_true rfl⟩) ⟨fun a U g mk q => q, fun U hU hW => ⟨rfl, trivial⟩⟩ rfl rfl hl.1 rfl (lv_room (Nat.le_of_ble_eq_true rfl)) dX6_sum_14 ⟨Nat.zero_le _, Nat.zero_le _⟩) ?_
    refine lv_i2l (v := (Int32.toInt64 (jd_f2i (FP.fadd (rf_single p1) (rf_single p2))))) hx hb dX6_sum_17 rfl ?_
    exact W.lret (v := (Int32.toInt64 (jd_f2i (FP.fadd (rf_single p1) (rf_single p2))))) hx hb hr (fun t ht hW => ⟨congrArg (fun z => Outcome.returned (some (Value.long z))) (show _ = rf_sum p0 p1 p2 from Eq.symm (show rf_sum p0 p1 p2 = _ from (if_pos h1))), ht⟩) (fun q hq => absurd hq List.not_mem_nil) dX6_sum_18
