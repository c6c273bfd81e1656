theorem rq_end {α : Type} {D : va_G} {cyI cyJ : ClassId} {r : Nat} {ad : Nat → Nat} {con : α → Value} {u u' : rS α} {st t : State} {a : Array Value} (h : u = u') (hP : va_P D vwCl (rW cyI cyJ r ad u'.2.1 u'.2.2.1 u'.2.2.2) t.heap) (hF : va_F (rA r ad) st t) : rq_Q D cyI cyJ r ad con u a st (.returned (some (con u'.1))) t := by
  subst h
  exact ⟨rfl, hP, hF⟩
def rf_thrown (sc : Nat → Int32) (sI : Nat → Nat → Int32) (sJ : Nat → Nat → Int64) : Int32 := (sc 0)
set_option maxHeartbeats 4000000 in
set_option maxRecDepth 100000 in
theorem mr_thrown (l : Launch) (dC : Nat → ClassId) (dI : Nat → Nat → Nat) (cyI cyJ : ClassId) (r : Nat) (ad : Nat → Nat) (sc : Nat → Int32) (sI : Nat → Nat → Int32) (sJ : Nat → Nat → Int64) : Met l yX6_thrown wsX6_thrown ({ frames := 0, cells := 0, slots := 0, locals := 0 }) (rq_Pc (dC, dI) cyI cyJ r ad sc sI sJ [.ref r]) (pq_V (.int (rf_thrown sc sI sJ))) 0 0 (fun _ => False) := by
  refine Met.ofW (cc := cX6_thrown) (maxL := 1) (ret := (some .int)) (by decide) rfl ?_
  intro p e s m args below meth c s₁ B hml hv
  obtain ⟨rfl, hP, hK⟩ := hv
  have hx := B.exec
  have hb := B.bytes
  have hr := B.returns
  have hts := atoms_spec (ws := wsX6_thrown) B.pre
  have hown : s.vm.findClass RX6 = some m.cls := findClass_of_methodNamed B.named
  have hlocks := B.notSynchronized
  have hin : ∀ w ∈ wsX60, w ∈ wsX6_thrown := by decide +kernel
  have hl := lv_entry ([.ref r]) (n := 1) (Nat.le_of_ble_eq_true rfl)
  rw [lg_entry_eq]
  generalize (lg_sl ([.ref r]) ++ List.replicate (1 - (lg_sl ([.ref r])).length) Slot.unset).toArray = ls at hl ⊢
  have hl : lv_has ls 1 [(0, .ref r)] := hl
  refine lv_aload_n hx hb dX6_thrown_0 rfl (lv_at hl 0 rfl) ?_
  refine va_get (D := (dC, dI)) (ci := 5) (v := .int (sc 0)) (C := RX6) (T := TX6) (N := 19) hx hb hts hin hown hK hP 0 rfl rfl 0 (by decide) (hts (.fieldLink RX6 53 "WeatherMastModel" "thrown" "I") (by decide +kernel)) (fun _ h9 => h9) rfl dX6_thrown_1 ?_
  exact W.iret (v := (sc 0)) hx hb hr (fun t ht hW => ⟨congrArg (fun z => Outcome.returned (some (Value.int z))) (show _ = rf_thrown sc sI sJ from Eq.symm (show rf_thrown sc sI sJ = _ from rfl)), ht⟩) (fun q hq => absurd hq List.not_mem_nil) dX6_thrown_4
def rf_fail (sc : Nat → Int32) (sI : Nat → Nat → Int32) (sJ : Nat → Nat → Int64) (p0 : Int32) : rS Int32 := (0, (va_up sc 0 p0), sI, sJ)
set_option maxHeartbeats 4000000 in
set_option maxRecDepth 100000 in
theorem mr_fail (l : Launch) (dC : Nat → ClassId) (dI : Nat → Nat → Nat) (cyI cyJ : ClassId) (r : Nat) (ad : Nat → Nat) (sc : Nat → Int32) (sI : Nat → Nat → Int32) (sJ : Nat → Nat → Int64) (p0 : Int32) (hD : va_D (rA r ad) (rW cyI cyJ r ad sc sI sJ)) : Met l yX6_fail wsX6_fail ({ frames := 0, cells := 0, slots := 0, locals := 0 }) (rq_Pc (dC, dI) cyI cyJ r ad sc sI sJ [.ref r, .int p0]) (rq_Q (dC, dI) cyI cyJ r ad Value.int (rf_fail sc sI sJ p0)) 0 0 (rA r ad) := by
  refine Met.ofW (cc := cX6_fail) (maxL := 2) (ret := (some .int)) (by decide) rfl ?_
  intro p e s m args below meth c s₁ B hml hv
  obtain ⟨rfl, hP, hK⟩ := hv
  have hx := B.exec
  have hb := B.bytes
  have hr := B.returns
  have hts := atoms_spec (ws := wsX6_fail) B.pre
  have hown : s.vm.findClass RX6 = some m.cls := findClass_of_methodNamed B.named
  have hlocks := B.notSynchronized
  have hin : ∀ w ∈ wsX60, w ∈ wsX6_fail := by decide +kernel
  have hS : va_S (rA r ad) s.heap s.heap [] := va_S.rf
  have hl := lv_entry ([.ref r, .int p0]) (n := 2) (Nat.le_of_ble_eq_true rfl)
  rw [lg_entry_eq]
  generalize (lg_sl ([.ref r, .int p0]) ++ List.replicate (2 - (lg_sl ([.ref r, .int p0])).length) Slot.unset).toArray = ls at hl ⊢
  have hl : lv_has ls 2 [(0, .ref r), (1, .int p0)] := hl
  refine lv_aload_n hx hb dX6_fail_0 rfl (lv_at hl 0 rfl) ?_
  refine lv_iload_n hx hb dX6_fail_1 rfl (lv_at hl 1 rfl) ?_
  refine va_put (D := (dC, dI)) (ci := 5) (v := .int p0) (ty := .int) (C := RX6) (T := TX6) (N := 19) hx hb hts hin tyX6 tyX6_ok nmX6 hown hK hP hD hS 0 rfl rfl 0 (by decide) (hts (.fieldLink RX6 53 "WeatherMastModel" "thrown" "I") (by decide +kernel)) (fun _ h9 => h9) rfl (by decide +kernel) rfl rfl (Nat.le_of_ble_eq_true rfl) dX6_fail_2 (fun H locs hP hD hS => ?_)
  have hP : va_P (dC, dI) vwCl (rW cyI cyJ r ad (va_up sc 0 p0) sI sJ) H := hP
  have hD : va_D (rA r ad) (rW cyI cyJ r ad (va_up sc 0 p0) sI sJ) := hD
  refine lv_iconst (v := 0) hx hb dX6_fail_5 (by decide) ?_
  exact W.iret (v := 0) hx hb hr (fun t ht hW => rq_end (con := Value.int) (show rf_fail sc sI sJ p0 = (0, (va_up sc 0 p0), sI, sJ) from rfl) (by rw [ht]; exact hP) (hS.F ht)) hS.2.2 dX6_fail_6
def rf_isInstrument (sc : Nat → Int32) (sI : Nat → Nat → Int32) (sJ : Nat → Nat → Int64) (p0 : Int32) : Int32 := if p0 < 0 then 0 else (if (sc 1) ≤ p0 then 0 else (1))
set_option maxHeartbeats 4000000 in
set_option maxRecDepth 100000 in
theorem mr_isInstrument (l : Launch) (dC : Nat → ClassId) (dI : Nat → Nat → Nat) (cyI cyJ : ClassId) (r : Nat) (ad : Nat → Nat) (sc : Nat → Int32) (sI : Nat → Nat → Int32) (sJ : Nat → Nat → Int64) (p0 : Int32) : Met l yX6_isInstrument wsX6_isInstrument ({ frames := 0, cells := 0, slots := 0, locals := 0 }) (rq_Pc (dC, dI) cyI cyJ r ad sc sI sJ [.ref r, .int p0]) (pq_V (.int (rf_isInstrument sc sI sJ p0))) 0 0 (fun _ => False) := by
  refine Met.ofW (cc := cX6_isInstrument) (maxL := 2) (ret := (some .boolean)) (by decide) rfl ?_
  intro p e s m args below meth c s₁ B hml hv
  obtain ⟨rfl, hP, hK⟩ := hv
  have hx := B.exec
  have hb := B.bytes
  have hr := B.returns
  have hts := atoms_spec (ws := wsX6_isInstrument) B.pre
  have hown : s.vm.findClass RX6 = some m.cls := findClass_of_methodNamed B.named
  have hlocks := B.notSynchronized
  have hin : ∀ w ∈ wsX60, w ∈ wsX6_isInstrument := by decide +kernel
  have hl := lv_entry ([.ref r, .int p0]) (n := 2) (Nat.le_of_ble_eq_true rfl)
  rw [lg_entry_eq]
  generalize (lg_sl ([.ref r, .int p0]) ++ List.replicate (2 - (lg_sl ([.ref r, .int p0])).length) Slot.unset).toArray = ls at hl ⊢
  have hl : lv_has ls 2 [(0, .ref r), (1, .int p0)] := hl
  refine lv_iload_n hx hb dX6_isInstrument_0 rfl (lv_at hl 1 rfl) ?_
  refine lv_if_lt (tgt := 16) hx hb dX6_isInstrument_1 (by decide) (fun h1 => ?_) (fun h1 => ?_)
  · refine lv_iconst (v := 0) hx hb dX6_isInstrument_16 (by decide) ?_
    exact W.zret (v := 0) hx hb hr (by first | rfl | exact pq_nz) (fun t ht hW => ⟨congrArg (fun z => Outcome.returned (some (Value.int z))) (show _ = rf_isInstrument sc sI sJ p0 from Eq.symm (show rf_isInstrument sc sI sJ p0 = _ from (if_pos h1))), ht⟩) (fun q hq => absurd hq List.not_mem_nil) dX6_isInstrument_17
  · refine lv_iload_n hx hb dX6_isInstrument_4 rfl (lv_at hl 1 rfl) ?_
    refine lv_aload_n hx hb dX6_isInstrument_5 rfl (lv_at hl 0 rfl) ?_
    refine va_get (D := (dC, dI)) (ci := 5) (v := .int (sc 1)) (C := RX6) (T := TX6) (N := 19) hx hb hts hin hown hK hP 0 rfl rfl 1 (by decide) (hts (.fieldLink RX6 57 "WeatherMastModel" "instruments" "I") (by decide +kernel)) (fun _ h9 => h9) rfl dX6_isInstrument_6 ?_
    refine lv_icmp_ge (tgt := 16) hx hb dX6_isInstrument_9 (by decide) (fun h2 => ?_) (fun h2 => ?_)
    · refine lv_iconst (v := 0) hx hb dX6_isInstrument_16 (by decide) ?_
      exact W.zret (v := 0) hx hb hr (by first | rfl | exact pq_nz) (fun t ht hW => ⟨congrArg (fun z => Outcome.returned (some (Value.int z))) (show _ = rf_isInstrument sc sI sJ p0 from Eq.symm (show rf_isInstrument sc sI sJ p0 = _ from ((if_neg h1).trans (if_pos h2)))), ht⟩) (fun q hq => absurd hq List.not_mem_nil) dX6_isInstrument_17
    · refine lv_iconst (v := 1) hx hb dX6_isInstrument_12 (by decide) ?_
      refine lv_goto (tgt := 17) hx hb dX6_isInstrument_13 (by decide) ?_
      exact W.zret (v := 1) hx hb hr (by first | rfl | exact pq_nz) (fun t ht hW => ⟨congrArg (fun z => Outcome.returned (some (Value.int z))) (show _ = rf_isInstrument sc sI sJ p0 from Eq.symm (show rf_isInstrument sc sI sJ p0 = _ from ((if_neg h1).trans (if_neg h2)))), ht⟩) (fun q hq => absurd hq List.not_mem_nil) dX6_isInstrument_17
def rf_latest (sc : Nat → Int32) (sI : Nat → Nat → Int32) (sJ : Nat → Nat → Int64) (p0 : Int32) : Int64 := if ((sI 9) (Int32.toNatClampNeg p0)) = 0 then 0 else (((sJ 10) (Int32.toNatClampNeg ((16 * p0) + ((((sI 9) (Int32.toNatClampNeg p0)) - 1) - (((sI 9) (Int32.toNatClampNeg p0)) - 1) / 16 * 16)))))
set_option maxHeartbeats 4000000 in
set_option maxRecDepth 100000 in
theorem mr_latest (l : Launch) (dC : Nat → ClassId) (dI : Nat → Nat → Nat) (cyI cyJ : ClassId) (r : Nat) (ad : Nat → Nat) (sc : Nat → Int32) (sI : Nat → Nat → Int32) (sJ : Nat → Nat → Int64) (p0 : Int32) (hg1 : vp_in p0 8) (hg2 : ¬ (((sI 9) (Int32.toNatClampNeg p0)) = 0) → vp_in ((16 * p0) + ((((sI 9) (Int32.toNatClampNeg p0)) - 1) - (((sI 9) (Int32.toNatClampNeg p0)) - 1) / 16 * 16)) 128) : Met l yX6_latest wsX6_latest ({ frames := 0, cells := 0, slots := 0, locals := 0 }) (rq_Pc (dC, dI) cyI cyJ r ad sc sI sJ [.ref r, .int p0]) (pq_V (.long (rf_latest sc sI sJ p0))) 0 0 (fun _ => False) := by
  refine Met.ofW (cc := cX6_latest) (maxL := 2) (ret := (some .long)) (by decide) rfl ?_
  intro p e s m args below meth c s₁ B hml hv
  obtain ⟨rfl, hP, hK⟩ := hv
  have hx := B.exec
  have hb := B.bytes
  have hr := B.returns
  have hts := atoms_spec (ws := wsX6_latest) B.pre
  have hown : s.vm.findClass RX6 = some m.cls := findClass_of_methodNamed B.named
  have hlocks := B.notSynchronized
  have hin : ∀ w ∈ wsX60, w ∈ wsX6_latest := by decide +kernel
  have hl := lv_entry ([.ref r, .int p0]) (n := 2) (Nat.le_of_ble_eq_true rfl)
  rw [lg_entry_eq]
  generalize (lg_sl ([.ref r, .int p0]) ++ List.replicate (2 - (lg_sl ([.ref r, .int p0])).length) Slot.unset).toArray = ls at hl ⊢
  have hl : lv_has ls 2 [(0, .ref r), (1, .int p0)] := hl
  refine lv_aload_n hx hb dX6_latest_0 rfl (lv_at hl 0 rfl) ?_
  refine va_get (D := (dC, dI)) (ci := 5) (v := .ref (ad 9)) (C := RX6) (T := TX6) (N := 19) hx hb hts hin hown hK hP 0 rfl rfl 9 (by decide) (hts (.fieldLink RX6 32 "WeatherMastModel" "many" "[I") (by decide +kernel)) (fun _ h9 => h9) rfl dX6_latest_1 ?_
  refine lv_iload_n hx hb dX6_latest_4 rfl (lv_at hl 1 rfl) ?_
  refine va_iald (f := (sI 9)) hx hb hK hP 8 0 rfl rfl (hg1) dX6_latest_5 ?_
  refine lv_if_ne (tgt := 13) hx hb dX6_latest_6 (by decide) (fun h1 => ?_) (fun h1 => ?_)
  · refine lv_aload_n hx hb dX6_latest_13 rfl (lv_at hl 0 rfl) ?_
    refine va_get (D := (dC, dI)) (ci := 5) (v := .ref (ad 10)) (C := RX6) (T := TX6) (N := 19) hx hb hts hin hown hK hP 0 rfl rfl 10 (by decide) (hts (.fieldLink RX6 35 "WeatherMastModel" "kept" "[J") (by decide +kernel)) (fun _ h9 => h9) rfl dX6_latest_14 ?_
    refine lv_bipush (v := 16) hx hb dX6_latest_17 (by decide) ?_
    refine lv_iload_n hx hb dX6_latest_19 rfl (lv_at hl 1 rfl) ?_
    refine lv_imul hx hb dX6_latest_20 ?_
    refine lv_aload_n hx hb dX6_latest_21 rfl (lv_at hl 0 rfl) ?_
    refine va_get (D := (dC, dI)) (ci := 5) (v := .ref (ad 9)) (C := RX6) (T := TX6) (N := 19) hx hb hts hin hown hK hP 0 rfl rfl 9 (by decide) (hts (.fieldLink RX6 32 "WeatherMastModel" "many" "[I") (by decide +kernel)) (fun _ h9 => h9) rfl dX6_latest_22 ?_
    refine lv_iload_n hx hb dX6_latest_25 rfl (lv_at hl 1 rfl) ?_
    refine va_iald (f := (sI 9)) hx hb hK hP 8 0 rfl rfl (hg1) dX6_latest_26 ?_
    refine lv_iconst (v := 1) hx hb dX6_latest_27 (by decide) ?_
    refine lv_isub hx hb dX6_latest_28 ?_
    refine lv_bipush (v := 16) hx hb dX6_latest_29 (by decide) ?_
    refine lv_irem hx hb dX6_latest_31 (by decide) ?_
    refine lv_iadd hx hb dX6_latest_32 ?_
    refine va_lald (f := (sJ 10)) hx hb hK hP 9 1 rfl rfl (hg2 h1) dX6_latest_33 ?_
    exact W.lret (v := ((sJ 10) (Int32.toNatClampNeg ((16 * p0) + ((((sI 9) (Int32.toNatClampNeg p0)) - 1) - (((sI 9) (Int32.toNatClampNeg p0)) - 1) / 16 * 16))))) hx hb hr (fun t ht hW => ⟨congrArg (fun z => Outcome.returned (some (Value.long z))) (show _ = rf_latest sc sI sJ p0 from Eq.symm (show rf_latest sc sI sJ p0 = _ from (if_neg h1))), ht⟩) (fun q hq => absurd hq List.not_mem_nil) dX6_latest_34
  · refine lv_lconst (v := 0) hx hb dX6_latest_9 (by decide) ?_
    refine lv_goto (tgt := 34) hx hb dX6_latest_10 (by decide) ?_
    exact W.lret (v := 0) hx hb hr (fun t ht hW => ⟨congrArg (fun z => Outcome.returned (some (Value.long z))) (show _ = rf_latest sc sI sJ p0 from Eq.symm (show rf_latest sc sI sJ p0 = _ from (if_pos h1))), ht⟩) (fun q hq => absurd hq List.not_mem_nil) dX6_latest_34
def rf_link (sc : Nat → Int32) (sI : Nat → Nat → Int32) (sJ : Nat → Nat → Int64) (p0 : Int32) (p1 : Int32) (p2 : Int64) (p3 : Int32) : rS Int32 := if ((sI 3) (Int32.toNatClampNeg p0)) = 6 then (0, (va_up sc 0 3), sI, sJ) else ((((upd (sI 3) (Int32.toNatClampNeg p0) (((sI 3) (Int32.toNatClampNeg p0)) + 1)) (Int32.toNatClampNeg p0)), sc, (va_up (va_up (va_up sI 3 (upd (sI 3) (Int32.toNatClampNeg p0) (((sI 3) (Int32.toNatClampNeg p0)) + 1))) 4 (upd (sI 4) (Int32.toNatClampNeg ((6 * p0) + ((sI 3) (Int32.toNatClampNeg p0)))) p1)) 5 (upd (sI 5) (Int32.toNatClampNeg ((6 * p0) + ((sI 3) (Int32.toNatClampNeg p0)))) p3)), (va_up sJ 6 (vp_updL (sJ 6) (Int32.toNatClampNeg ((6 * p0) + ((sI 3) (Int32.toNatClampNeg p0)))) p2))))
set_option maxHeartbeats 4000000 in
set_option maxRecDepth 100000 in
theorem mr_link (l : Launch) (dC : Nat → ClassId) (dI : Nat → Nat → Nat) (cyI cyJ : ClassId) (r : Nat) (ad : Nat → Nat) (sc : Nat → Int32) (sI : Nat → Nat → Int32) (sJ : Nat → Nat → Int64) (p0 : Int32) (p1 : Int32) (p2 : Int64) (p3 : Int32) (hD : va_D (rA r ad) (rW cyI cyJ r ad sc sI sJ)) (hg1 : vp_in p0 8) (hg2 : ¬ (((sI 3) (Int32.toNatClampNeg p0)) = 6) → vp_in ((6 * p0) + ((sI 3) (Int32.toNatClampNeg p0))) 48) : Met l yX6_link wsX6_link ({ frames := 1, cells := 0, slots := 0, locals := 21 }) (rq_Pc (dC, dI) cyI cyJ r ad sc sI sJ [.ref r, .int p0, .int p1, .long p2, .int p3]) (rq_Q (dC, dI) cyI cyJ r ad Value.int (rf_link sc sI sJ p0 p1 p2 p3)) 0 0 (rA r ad) := by
  refine Met.ofW (cc := cX6_link) (maxL := 7) (ret := (some .int)) (by decide) rfl ?_
  intro p e s m args below meth c s₁ B hml hv
  obtain ⟨rfl, hP, hK⟩ := hv
  have hx := B.exec
  have hb := B.bytes
  have hr := B.returns
  have hts := atoms_spec (ws := wsX6_link) B.pre
  have hown : s.vm.findClass RX6 = some m.cls := findClass_of_methodNamed B.named
  have hlocks := B.notSynchronized
  have hin : ∀ w ∈ wsX60, w ∈ wsX6_link := by decide +kernel
  have hS : va_S (rA r ad) s.heap s.heap [] := va_S.rf
  have hl := lv_entry ([.ref r, .int p0, .int p1, .long p2, .int p3]) (n := 7) (Nat.le_of_ble_eq_true rfl)
  rw [lg_entry_eq]
  generalize (lg_sl ([.ref r, .int p0, .int p1, .long p2, .int p3]) ++ List.replicate (7 - (lg_sl ([.ref r, .int p0, .int p1, .long p2, .int p3])).length) Slot.unset).toArray = ls at hl ⊢
  have hl : lv_has ls 7 [(0, .ref r), (1, .int p0), (2, .int p1), (3, .long p2), (5, .int p3)] := hl
  refine lv_aload_n hx hb dX6_link_0 rfl (lv_at hl 0 rfl) ?_
  refine va_get (D := (dC, dI)) (ci := 5) (v := .ref (ad 3)) (C := RX6) (T := TX6) (N := 19) hx hb hts hin hown hK hP 0 rfl rfl 3 (by decide) (hts (.fieldLink RX6 13 "WeatherMastModel" "chains" "[I") (by decide +kernel)) (fun _ h9 => h9) rfl dX6_link_1 ?_
  refine lv_iload_n hx hb dX6_link_4 rfl (lv_at hl 1 rfl) ?_
  refine va_iald (f := (sI 3)) hx hb hK hP 2 0 rfl rfl (hg1) dX6_link_5 ?_
  refine lv_bipush (v := 6) hx hb dX6_link_6 (by decide) ?_
  refine lv_icmp_ne (tgt := 17) hx hb dX6_link_8 (by decide) (fun h1 => ?_) (fun h1 => ?_)
  · refine lv_bipush (v := 6) hx hb dX6_link_17 (by decide) ?_
    refine lv_iload_n hx hb dX6_link_19 rfl (lv_at hl 1 rfl) ?_
    refine lv_imul hx hb dX6_link_20 ?_
    refine lv_aload_n hx hb dX6_link_21 rfl (lv_at hl 0 rfl) ?_
    refine va_get (D := (dC, dI)) (ci := 5) (v := .ref (ad 3)) (C := RX6) (T := TX6) (N := 19) hx hb hts hin hown hK hP 0 rfl rfl 3 (by decide) (hts (.fieldLink RX6 13 "WeatherMastModel" "chains" "[I") (by decide +kernel)) (fun _ h9 => h9) rfl dX6_link_22 ?_
    refine lv_iload_n hx hb dX6_link_25 rfl (lv_at hl 1 rfl) ?_
    refine va_iald (f := (sI 3)) hx hb hK hP 2 0 rfl rfl (hg1) dX6_link_26 ?_
    refine lv_iadd hx hb dX6_link_27 ?_
    refine lv_istore (lv' := [(6, .int ((6 * p0) + ((sI 3) (Int32.toNatClampNeg p0)))), (0, .ref r), (1, .int p0), (2, .int p1), (3, .long p2), (5, .int p3)]) hx hb dX6_link_28 hl (by decide) rfl (fun ls hl => ?_)
    refine lv_aload_n hx hb dX6_link_30 rfl (lv_at hl 1 rfl) ?_
    refine va_get (D := (dC, dI)) (ci := 5) (v := .ref (ad 4)) (C := RX6) (T := TX6) (N := 19) hx hb hts hin hown hK hP 0 rfl rfl 4 (by decide) (hts (.fieldLink RX6 16 "WeatherMastModel" "steps" "[I") (by decide +kernel)) (fun _ h9 => h9) rfl dX6_link_31 ?_
    refine lv_iload hx hb dX6_link_34 (lv_at hl 0 rfl) ?_
    refine lv_iload_n hx hb dX6_link_36 rfl (lv_at hl 3 rfl) ?_
    refine va_iast (f := (sI 4)) hx hb hK hP hD hS 3 0 rfl rfl (hg2 h1) dX6_link_37 (fun H locs hP hD hS => ?_)
    have hP : va_P (dC, dI) vwCl (rW cyI cyJ r ad sc (va_up sI 4 (upd (sI 4) (Int32.toNatClampNeg ((6 * p0) + ((sI 3) (Int32.toNatClampNeg p0)))) p1)) sJ) H := hP
    have hD : va_D (rA r ad) (rW cyI cyJ r ad sc (va_up sI 4 (upd (sI 4) (Int32.toNatClampNeg ((6 * p0) + ((sI 3) (Int32.toNatClampNeg p0)))) p1)) sJ) := hD
    refine lv_aload_n hx hb dX6_link_38 rfl (lv_at hl 1 rfl) ?_
    refine va_get (D := (dC, dI)) (ci := 5) (v := .ref (ad 6)) (C := RX6) (T := TX6) (N := 19) hx hb hts hin hown hK hP 0 rfl rfl 6 (by decide) (hts (.fieldLink RX6 22 "WeatherMastModel" "told" "[J") (by decide +kernel)) (fun _ h9 => h9) rfl dX6_link_39 ?_
    refine lv_iload hx hb dX6_link_42 (lv_at hl 0 rfl) ?_
    refine lv_lload_n hx hb dX6_link_44 rfl (lv_at hl 4 rfl) ?_
    refine va_last (f := (sJ 6)) hx hb hK hP hD hS 5 1 rfl rfl (hg2 h1) dX6_link_45 (fun H locs hP hD hS => ?_)
    have hP : va_P (dC, dI) vwCl (rW cyI cyJ r ad sc (va_up sI 4 (upd (sI 4) (Int32.toNatClampNeg ((6 * p0) + ((sI 3) (Int32.toNatClampNeg p0)))) p1)) (va_up sJ 6 (vp_updL (sJ 6) (Int32.toNatClampNeg ((6 * p0) + ((sI 3) (Int32.toNatClampNeg p0)))) p2))) H := hP
    have hD : va_D (rA r ad) (rW cyI cyJ r ad sc (va_up sI 4 (upd (sI 4) (Int32.toNatClampNeg ((6 * p0) + ((sI 3) (Int32.toNatClampNeg p0)))) p1)) (va_up sJ 6 (vp_updL (sJ 6) (Int32.toNatClampNeg ((6 * p0) + ((sI 3) (Int32.toNatClampNeg p0)))) p2))) := hD
    refine lv_aload_n hx hb dX6_link_46 rfl (lv_at hl 1 rfl) ?_
    refine va_get (D := (dC, dI)) (ci := 5) (v := .ref (ad 5)) (C := RX6) (T := TX6) (N := 19) hx hb hts hin hown hK hP 0 rfl rfl 5 (by decide) (hts (.fieldLink RX6 19 "WeatherMastModel" "sources" "[I") (by decide +kernel)) (fun _ h9 => h9) rfl dX6_link_47 ?_
    refine lv_iload hx hb dX6_link_50 (lv_at hl 0 rfl) ?_
    refine lv_iload hx hb dX6_link_52 (lv_at hl 5 rfl) ?_
    refine va_iast (f := (sI 5)) hx hb hK hP hD hS 4 0 rfl rfl (hg2 h1) dX6_link_54 (fun H locs hP hD hS => ?_)
    have hP : va_P (dC, dI) vwCl (rW cyI cyJ r ad sc (va_up (va_up sI 4 (upd (sI 4) (Int32.toNatClampNeg ((6 * p0) + ((sI 3) (Int32.toNatClampNeg p0)))) p1)) 5 (upd (sI 5) (Int32.toNatClampNeg ((6 * p0) + ((sI 3) (Int32.toNatClampNeg p0)))) p3)) (va_up sJ 6 (vp_updL (sJ 6) (Int32.toNatClampNeg ((6 * p0) + ((sI 3) (Int32.toNatClampNeg p0)))) p2))) H := hP
    have hD : va_D (rA r ad) (rW cyI cyJ r ad sc (va_up (va_up sI 4 (upd (sI 4) (Int32.toNatClampNeg ((6 * p0) + ((sI 3) (Int32.toNatClampNeg p0)))) p1)) 5 (upd (sI 5) (Int32.toNatClampNeg ((6 * p0) + ((sI 3) (Int32.toNatClampNeg p0)))) p3)) (va_up sJ 6 (vp_updL (sJ 6) (Int32.toNatClampNeg ((6 * p0) + ((sI 3) (Int32.toNatClampNeg p0)))) p2))) := hD
    refine lv_aload_n hx hb dX6_link_55 rfl (lv_at hl 1 rfl) ?_
    refine va_get (D := (dC, dI)) (ci := 5) (v := .ref (ad 3)) (C := RX6) (T := TX6) (N := 19) hx hb hts hin hown hK hP 0 rfl rfl 3 (by decide) (hts (.fieldLink RX6 13 "WeatherMastModel" "chains" "[I") (by decide +kernel)) (fun _ h9 => h9) rfl dX6_link_56 ?_
    refine lv_iload_n hx hb dX6_link_59 rfl (lv_at hl 2 rfl) ?_
    refine lv_dup2_11 hx hb dX6_link_60 rfl rfl ?_
    refine va_iald (f := (sI 3)) hx hb hK hP 2 0 rfl rfl (hg1) dX6_link_61 ?_
    refine lv_iconst (v := 1) hx hb dX6_link_62 (by decide) ?_
    refine lv_iadd hx hb dX6_link_63 ?_
    refine va_iast (f := (sI 3)) hx hb hK hP hD hS 2 0 rfl rfl (hg1) dX6_link_64 (fun H locs hP hD hS => ?_)
    have hP : va_P (dC, dI) vwCl (rW cyI cyJ r ad sc (va_up (va_up (va_up sI 3 (upd (sI 3) (Int32.toNatClampNeg p0) (((sI 3) (Int32.toNatClampNeg p0)) + 1))) 4 (upd (sI 4) (Int32.toNatClampNeg ((6 * p0) + ((sI 3) (Int32.toNatClampNeg p0)))) p1)) 5 (upd (sI 5) (Int32.toNatClampNeg ((6 * p0) + ((sI 3) (Int32.toNatClampNeg p0)))) p3)) (va_up sJ 6 (vp_updL (sJ 6) (Int32.toNatClampNeg ((6 * p0) + ((sI 3) (Int32.toNatClampNeg p0)))) p2))) H := hP
    have hD : va_D (rA r ad) (rW cyI cyJ r ad sc (va_up (va_up (va_up sI 3 (upd (sI 3) (Int32.toNatClampNeg p0) (((sI 3) (Int32.toNatClampNeg p0)) + 1))) 4 (upd (sI 4) (Int32.toNatClampNeg ((6 * p0) + ((sI 3) (Int32.toNatClampNeg p0)))) p1)) 5 (upd (sI 5) (Int32.toNatClampNeg ((6 * p0) + ((sI 3) (Int32.toNatClampNeg p0)))) p3)) (va_up sJ 6 (vp_updL (sJ 6) (Int32.toNatClampNeg ((6 * p0) + ((sI 3) (Int32.toNatClampNeg p0)))) p2))) := hD
    refine lv_aload_n hx hb dX6_link_65 rfl (lv_at hl 1 rfl) ?_
    refine va_get (D := (dC, dI)) (ci := 5) (v := .ref (ad 3)) (C := RX6) (T := TX6) (N := 19) hx hb hts hin hown hK hP 0 rfl rfl 3 (by decide) (hts (.fieldLink RX6 13 "WeatherMastModel" "chains" "[I") (by decide +kernel)) (fun _ h9 => h9) rfl dX6_link_66 ?_
    refine lv_iload_n hx hb dX6_link_69 rfl (lv_at hl 2 rfl) ?_
    refine va_iald (f := (upd (sI 3) (Int32.toNatClampNeg p0) (((sI 3) (Int32.toNatClampNeg p0)) + 1))) hx hb hK hP 2 0 rfl rfl (hg1) dX6_link_70 ?_
    exact W.iret (v := ((upd (sI 3) (Int32.toNatClampNeg p0) (((sI 3) (Int32.toNatClampNeg p0)) + 1)) (Int32.toNatClampNeg p0))) hx hb hr (fun t ht hW => rq_end (con := Value.int) (show rf_link sc sI sJ p0 p1 p2 p3 = (((upd (sI 3) (Int32.toNatClampNeg p0) (((sI 3) (Int32.toNatClampNeg p0)) + 1)) (Int32.toNatClampNeg p0)), sc, (va_up (va_up (va_up sI 3 (upd (sI 3) (Int32.toNatClampNeg p0) (((sI 3) (Int32.toNatClampNeg p0)) + 1))) 4 (upd (sI 4) (Int32.toNatClampNeg ((6 * p0) + ((sI 3) (Int32.toNatClampNeg p0)))) p1)) 5 (upd (sI 5) (Int32.toNatClampNeg ((6 * p0) + ((sI 3) (Int32.toNatClampNeg p0)))) p3)), (va_up sJ 6 (vp_updL (sJ 6) (Int32.toNatClampNeg ((6 * p0) + ((sI 3) (Int32.toNatClampNeg p0)))) p2))) from (if_neg h1)) (by rw [ht]; exact hP) (hS.F ht)) hS.2.2 dX6_link_71
  · refine lv_aload_n hx hb dX6_link_11 rfl (lv_at hl 0 rfl) ?_
    refine lv_iconst (v := 3) hx hb dX6_link_12 (by decide) ?_
    refine rq_call (va_runV (C := RX6) (As := [.int 3]) (rest := []) ⟨hx, hb, hml, hown, hts⟩ (mr_fail l dC dI cyI cyJ r ad sc sI sJ 3 hD) (cwV 1 hts gX6_link_X6_fail rfl rfl rfl (by decide +kernel) ⟨Nat.le_of_ble_eq_true rfl, Nat.le_of_ble_eq_true rfl⟩) ⟨rq_blind, va_recv hK hP (ci := 5) (q0 := 0) rfl rfl, rq_pre hP hK⟩ rfl rfl hl.1 rfl (lv_room (Nat.le_of_ble_eq_true rfl)) dX6_link_13 ⟨Nat.zero_le _, Nat.zero_le _⟩) hS (fun q h => h) (fun H locs hP hz hk hS => ?_)
    have hD := pq_Dcongr (ws' := (rW cyI cyJ r ad (va_up sc 0 3) sI sJ)) hD rfl
    have hP : va_P (dC, dI) vwCl (rW cyI cyJ r ad (va_up sc 0 3) sI sJ) H := hP
    have hD : va_D (rA r ad) (rW cyI cyJ r ad (va_up sc 0 3) sI sJ) := hD
    exact W.iret (v := 0) hx hb hr (fun t ht hW => rq_end (con := Value.int) (show rf_link sc sI sJ p0 p1 p2 p3 = (0, (va_up sc 0 3), sI, sJ) from (if_pos h1)) (by rw [ht]; exact hP) (hS.F ht)) hS.2.2 dX6_link_16
def rf_count (sc : Nat → Int32) (sI : Nat → Nat → Int32) (sJ : Nat → Nat → Int64) (p0 : Int32) : rS Int32 := if p0 = 0 then ((sc 1), (va_up sc 0 0), sI, sJ) else (if p0 = 1 then ((sc 16), (va_up sc 0 0), sI, sJ) else (if p0 = 2 then ((sc 17), (va_up sc 0 0), sI, sJ) else (if p0 = 3 then ((sc 18), (va_up sc 0 0), sI, sJ) else (((-1), (va_up sc 0 0), sI, sJ)))))
set_option maxHeartbeats 4000000 in
set_option maxRecDepth 100000 in
theorem mr_count (l : Launch) (dC : Nat → ClassId) (dI : Nat → Nat → Nat) (cyI cyJ : ClassId) (r : Nat) (ad : Nat → Nat) (sc : Nat → Int32) (sI : Nat → Nat → Int32) (sJ : Nat → Nat → Int64) (p0 : Int32) (hD : va_D (rA r ad) (rW cyI cyJ r ad sc sI sJ)) : Met l yX6_count wsX6_count ({ frames := 0, cells := 0, slots := 0, locals := 0 }) (rq_Pc (dC, dI) cyI cyJ r ad sc sI sJ [.ref r, .int p0]) (rq_Q (dC, dI) cyI cyJ r ad Value.int (rf_count sc sI sJ p0)) 0 0 (rA r ad) := by
  refine Met.ofW (cc := cX6_count) (maxL := 2) (ret := (some .int)) (by decide) rfl ?_
  intro p e s m args below meth c s₁ B hml hv
  obtain ⟨rfl, hP, hK⟩ := hv
  have hx := B.exec
  have hb := B.bytes
  have hr := B.returns
  have hts := atoms_spec (ws := wsX6_count) B.pre
  have hown : s.vm.findClass RX6 = some m.cls := findClass_of_methodNamed B.named
  have hlocks := B.notSynchronized
  have hin : ∀ w ∈ wsX60, w ∈ wsX6_count := by decide +kernel
  have hS : va_S (rA r ad) s.heap s.heap [] := va_S.rf
  have hl := lv_entry ([.ref r, .int p0]) (n := 2) (Nat.le_of_ble_eq_true rfl)
  rw [lg_entry_eq]
  generalize (lg_sl ([.ref r, .int p0]) ++ List.replicate (2 - (lg_sl ([.ref r, .int p0])).length) Slot.unset).toArray = ls at hl ⊢
  have hl : lv_has ls 2 [(0, .ref r), (1, .int p0)] := hl
  refine lv_aload_n hx hb dX6_count_0 rfl (lv_at hl 0 rfl) ?_
  refine lv_iconst (v := 0) hx hb dX6_count_1 (by decide) ?_
  refine va_put (D := (dC, dI)) (ci := 5) (v := .int 0) (ty := .int) (C := RX6) (T := TX6) (N := 19) hx hb hts hin tyX6 tyX6_ok nmX6 hown hK hP hD hS 0 rfl rfl 0 (by decide) (hts (.fieldLink RX6 53 "WeatherMastModel" "thrown" "I") (by decide +kernel)) (fun _ h9 => h9) rfl (by decide +kernel) rfl rfl (Nat.le_of_ble_eq_true rfl) dX6_count_2 (fun H locs hP hD hS => ?_)
  have hP : va_P (dC, dI) vwCl (rW cyI cyJ r ad (va_up sc 0 0) sI sJ) H := hP
  have hD : va_D (rA r ad) (rW cyI cyJ r ad (va_up sc 0 0) sI sJ) := hD
  refine lv_iload_n hx hb dX6_count_5 rfl (lv_at hl 1 rfl) ?_
  by_cases h1 : p0 = 0
  · refine lv_tableIn (off := 30) (tgt := 36) hx hb dX6_count_6 (by rw [h1]; decide) (by rw [h1]; decide) (by rw [h1]; rfl) (by decide) ?_
    refine lv_aload_n hx hb dX6_count_36 rfl (lv_at hl 0 rfl) ?_
    refine va_get (D := (dC, dI)) (ci := 5) (v := .int (sc 1)) (C := RX6) (T := TX6) (N := 19) hx hb hts hin hown hK hP 0 rfl rfl 1 (by decide) (hts (.fieldLink RX6 57 "WeatherMastModel" "instruments" "I") (by decide +kernel)) (fun _ h9 => h9) rfl dX6_count_37 ?_
    exact W.iret (v := (sc 1)) hx hb hr (fun t ht hW => rq_end (con := Value.int) (show rf_count sc sI sJ p0 = ((sc 1), (va_up sc 0 0), sI, sJ) from (if_pos h1)) (by rw [ht]; exact hP) (hS.F ht)) hS.2.2 dX6_count_40
  · by_cases h2 : p0 = 1
    · refine lv_tableIn (off := 35) (tgt := 41) hx hb dX6_count_6 (by rw [h2]; decide) (by rw [h2]; decide) (by rw [h2]; rfl) (by decide) ?_
      refine lv_aload_n hx hb dX6_count_41 rfl (lv_at hl 0 rfl) ?_
      refine va_get (D := (dC, dI)) (ci := 5) (v := .int (sc 16)) (C := RX6) (T := TX6) (N := 19) hx hb hts hin hown hK hP 0 rfl rfl 16 (by decide) (hts (.fieldLink RX6 210 "WeatherMastModel" "readings" "I") (by decide +kernel)) (fun _ h9 => h9) rfl dX6_count_42 ?_
      exact W.iret (v := (sc 16)) hx hb hr (fun t ht hW => rq_end (con := Value.int) (show rf_count sc sI sJ p0 = ((sc 16), (va_up sc 0 0), sI, sJ) from ((if_neg h1).trans (if_pos h2))) (by rw [ht]; exact hP) (hS.F ht)) hS.2.2 dX6_count_45
    · by_cases h3 : p0 = 2
      · refine lv_tableIn (off := 40) (tgt := 46) hx hb dX6_count_6 (by rw [h3]; decide) (by rw [h3]; decide) (by rw [h3]; rfl) (by decide) ?_
        refine lv_aload_n hx hb dX6_count_46 rfl (lv_at hl 0 rfl) ?_
        refine va_get (D := (dC, dI)) (ci := 5) (v := .int (sc 17)) (C := RX6) (T := TX6) (N := 19) hx hb hts hin hown hK hP 0 rfl rfl 17 (by decide) (hts (.fieldLink RX6 213 "WeatherMastModel" "allAlarms" "I") (by decide +kernel)) (fun _ h9 => h9) rfl dX6_count_47 ?_
        exact W.iret (v := (sc 17)) hx hb hr (fun t ht hW => rq_end (con := Value.int) (show rf_count sc sI sJ p0 = ((sc 17), (va_up sc 0 0), sI, sJ) from ((if_neg h1).trans ((if_neg h2).trans (if_pos h3)))) (by rw [ht]; exact hP) (hS.F ht)) hS.2.2 dX6_count_50
      · by_cases h4 : p0 = 3
        · refine lv_tableIn (off := 45) (tgt := 51) hx hb dX6_count_6 (by rw [h4]; decide) (by rw [h4]; decide) (by rw [h4]; rfl) (by decide) ?_
          refine lv_aload_n hx hb dX6_count_51 rfl (lv_at hl 0 rfl) ?_
          refine va_get (D := (dC, dI)) (ci := 5) (v := .int (sc 18)) (C := RX6) (T := TX6) (N := 19) hx hb hts hin hown hK hP 0 rfl rfl 18 (by decide) (hts (.fieldLink RX6 198 "WeatherMastModel" "done" "I") (by decide +kernel)) (fun _ h9 => h9) rfl dX6_count_52 ?_
          exact W.iret (v := (sc 18)) hx hb hr (fun t ht hW => rq_end (con := Value.int) (show rf_count sc sI sJ p0 = ((sc 18), (va_up sc 0 0), sI, sJ) from ((if_neg h1).trans ((if_neg h2).trans ((if_neg h3).trans (if_pos h4))))) (by rw [ht]; exact hP) (hS.F ht)) hS.2.2 dX6_count_55
        · refine lv_tableOut (tgt := 56) hx hb dX6_count_6 (by have a0 := lv_neT h1 (a := 0) rfl; have a1 := lv_neT h2 (a := 1) rfl; have a2 := lv_neT h3 (a := 2) rfl; have a3 := lv_neT h4 (a := 3) rfl; omega) (by decide) ?_
          refine lv_iconst (v := (-1)) hx hb dX6_count_56 (by decide) ?_
          exact W.iret (v := (-1)) hx hb hr (fun t ht hW => rq_end (con := Value.int) (show rf_count sc sI sJ p0 = ((-1), (va_up sc 0 0), sI, sJ) from ((if_neg h1).trans ((if_neg h2).trans ((if_neg h3).trans (if_neg h4))))) (by rw [ht]; exact hP) (hS.F ht)) hS.2.2 dX6_count_57
def rf_forget (sc : Nat → Int32) (sI : Nat → Nat → Int32) (sJ : Nat → Nat → Int64) (p0 : Int32) : rS Int32 := if (rf_isInstrument (va_up sc 0 0) sI sJ p0) = 0 then (0, (va_up sc 0 1), sI, sJ) else ((((sI 9) (Int32.toNatClampNeg p0)), (va_up sc 0 0), (va_up sI 9 (upd (sI 9) (Int32.toNatClampNeg p0) 0)), sJ))
set_option maxHeartbeats 4000000 in
set_option maxRecDepth 100000 in
theorem mr_forget (l : Launch) (dC : Nat → ClassId) (dI : Nat → Nat → Nat) (cyI cyJ : ClassId) (r : Nat) (ad : Nat → Nat) (sc : Nat → Int32) (sI : Nat → Nat → Int32) (sJ : Nat → Nat → Int64) (p0 : Int32) (hD : va_D (rA r ad) (rW cyI cyJ r ad sc sI sJ)) (hg1 : ¬ ((rf_isInstrument (va_up sc 0 0) sI sJ p0) = 0) → vp_in p0 8) : Met l yX6_forget wsX6_forget ({ frames := 1, cells := 0, slots := 0, locals := 21 }) (rq_Pc (dC, dI) cyI cyJ r ad sc sI sJ [.ref r, .int p0]) (rq_Q (dC, dI) cyI cyJ r ad Value.int (rf_forget sc sI sJ p0)) 0 0 (rA r ad) := by
  refine Met.ofW (cc := cX6_forget) (maxL := 3) (ret := (some .int)) (by decide) rfl ?_
  intro p e s m args below meth c s₁ B hml hv
  obtain ⟨rfl, hP, hK⟩ := hv
  have hx := B.exec
  have hb := B.bytes
  have hr := B.returns
  have hts := atoms_spec (ws := wsX6_forget) B.pre
  have hown : s.vm.findClass RX6 = some m.cls := findClass_of_methodNamed B.named
  have hlocks := B.notSynchronized
  have hin : ∀ w ∈ wsX60, w ∈ wsX6_forget := by decide +kernel
  have hS : va_S (rA r ad) s.heap s.heap [] := va_S.rf
  have hl := lv_entry ([.ref r, .int p0]) (n := 3) (Nat.le_of_ble_eq_true rfl)
  rw [lg_entry_eq]
  generalize (lg_sl ([.ref r, .int p0]) ++ List.replicate (3 - (lg_sl ([.ref r, .int p0])).length) Slot.unset).toArray = ls at hl ⊢
  have hl : lv_has ls 3 [(0, .ref r), (1, .int p0)] := hl
  refine lv_aload_n hx hb dX6_forget_0 rfl (lv_at hl 0 rfl) ?_
  refine lv_iconst (v := 0) hx hb dX6_forget_1 (by decide) ?_
  refine va_put (D := (dC, dI)) (ci := 5) (v := .int 0) (ty := .int) (C := RX6) (T := TX6) (N := 19) hx hb hts hin tyX6 tyX6_ok nmX6 hown hK hP hD hS 0 rfl rfl 0 (by decide) (hts (.fieldLink RX6 53 "WeatherMastModel" "thrown" "I") (by decide +kernel)) (fun _ h9 => h9) rfl (by decide +kernel) rfl rfl (Nat.le_of_ble_eq_true rfl) dX6_forget_2 (fun H locs hP hD hS => ?_)
  have hP : va_P (dC, dI) vwCl (rW cyI cyJ r ad (va_up sc 0 0) sI sJ) H := hP
  have hD : va_D (rA r ad) (rW cyI cyJ r ad (va_up sc 0 0) sI sJ) := hD
  refine lv_aload_n hx hb dX6_forget_5 rfl (lv_at hl 0 rfl) ?_
  refine lv_iload_n hx hb dX6_forget_6 rfl (lv_at hl 1 rfl) ?_
  refine pq_call (va_runV (C := RX6) (As := [.int p0]) (rest := []) ⟨hx, hb, hml, hown, hts⟩ (mr_isInstrument l dC dI cyI cyJ r ad (va_up sc 0 0) sI sJ p0) (cwV 1 hts gX6_forget_X6_isInstrument rfl rfl rfl (by decide +kernel) ⟨Nat.le_of_ble_eq_true rfl, Nat.le_of_ble_eq_true rfl⟩) ⟨rq_blind, va_recv hK hP (ci := 5) (q0 := 0) rfl rfl, rq_pre hP hK⟩ rfl rfl hl.1 rfl (lv_room (Nat.le_of_ble_eq_true rfl)) dX6_forget_7 ⟨Nat.zero_le _, Nat.zero_le _⟩) ?_
  refine lv_if_ne (tgt := 19) hx hb dX6_forget_10 (by decide) (fun h1 => ?_) (fun h1 => ?_)
  · refine lv_aload_n hx hb dX6_forget_19 rfl (lv_at hl 0 rfl) ?_
    refine va_get (D := (dC, dI)) (ci := 5) (v := .ref (ad 9)) (C := RX6) (T := TX6) (N := 19) hx hb hts hin hown hK hP 0 rfl rfl 9 (by decide) (hts (.fieldLink RX6 32 "WeatherMastModel" "many" "[I") (by decide +kernel)) (fun _ h9 => h9) rfl dX6_forget_20 ?_
    refine lv_iload_n hx hb dX6_forget_23 rfl (lv_at hl 1 rfl) ?_
    refine va_iald (f := (sI 9)) hx hb hK hP 8 0 rfl rfl (hg1 h1) dX6_forget_24 ?_
    refine lv_istore_n (lv' := [(2, .int ((sI 9) (Int32.toNatClampNeg p0))), (0, .ref r), (1, .int p0)]) hx hb dX6_forget_25 rfl hl (by decide) rfl (fun ls hl => ?_)
    refine lv_aload_n hx hb dX6_forget_26 rfl (lv_at hl 1 rfl) ?_
    refine va_get (D := (dC, dI)) (ci := 5) (v := .ref (ad 9)) (C := RX6) (T := TX6) (N := 19) hx hb hts hin hown hK hP 0 rfl rfl 9 (by decide) (hts (.fieldLink RX6 32 "WeatherMastModel" "many" "[I") (by decide +kernel)) (fun _ h9 => h9) rfl dX6_forget_27 ?_
    refine lv_iload_n hx hb dX6_forget_30 rfl (lv_at hl 2 rfl) ?_
    refine lv_iconst (v := 0) hx hb dX6_forget_31 (by decide) ?_
    refine va_iast (f := (sI 9)) hx hb hK hP hD hS 8 0 rfl rfl (hg1 h1) dX6_forget_32 (fun H locs hP hD hS => ?_)
    have hP : va_P (dC, dI) vwCl (rW cyI cyJ r ad (va_up sc 0 0) (va_up sI 9 (upd (sI 9) (Int32.toNatClampNeg p0) 0)) sJ) H := hP
    have hD : va_D (rA r ad) (rW cyI cyJ r ad (va_up sc 0 0) (va_up sI 9 (upd (sI 9) (Int32.toNatClampNeg p0) 0)) sJ) := hD
    refine lv_iload_n hx hb dX6_forget_33 rfl (lv_at hl 0 rfl) ?_
    exact W.iret (v := ((sI 9) (Int32.toNatClampNeg p0))) hx hb hr (fun t ht hW => rq_end (con := Value.int) (show rf_forget sc sI sJ p0 = (((sI 9) (Int32.toNatClampNeg p0)), (va_up sc 0 0), (va_up sI 9 (upd (sI 9) (Int32.toNatClampNeg p0) 0)), sJ) from (if_neg h1)) (by rw [ht]; exact hP) (hS.F ht)) hS.2.2 dX6_forget_34
  · refine lv_aload_n hx hb dX6_forget_13 rfl (lv_at hl 0 rfl) ?_
    refine lv_iconst (v := 1) hx hb dX6_forget_14 (by decide) ?_
    refine rq_call (va_runV (C := RX6) (As := [.int 1]) (rest := []) ⟨hx, hb, hml, hown, hts⟩ (mr_fail l dC dI cyI cyJ r ad (va_up sc 0 0) sI sJ 1 hD) (cwV 1 hts gX6_forget_X6_fail rfl rfl rfl (by decide +kernel) ⟨Nat.le_of_ble_eq_true rfl, Nat.le_of_ble_eq_true rfl⟩) ⟨rq_blind, va_recv hK hP (ci := 5) (q0 := 0) rfl rfl, rq_pre hP hK⟩ rfl rfl hl.1 rfl (lv_room (Nat.le_of_ble_eq_true rfl)) dX6_forget_15 ⟨Nat.zero_le _, Nat.zero_le _⟩) hS (fun q h => h) (fun H locs hP hz hk hS => ?_)
    have hD := pq_Dcongr (ws' := (rW cyI cyJ r ad (va_up sc 0 1) sI sJ)) hD rfl
    have hP : va_P (dC, dI) vwCl (rW cyI cyJ r ad (va_up sc 0 1) sI sJ) H := hP
    have hD : va_D (rA r ad) (rW cyI cyJ r ad (va_up sc 0 1) sI sJ) := hD
    exact W.iret (v := 0) hx hb hr (fun t ht hW => rq_end (con := Value.int) (show rf_forget sc sI sJ p0 = (0, (va_up sc 0 1), sI, sJ) from (if_pos h1)) (by rw [ht]; exact hP) (hS.F ht)) hS.2.2 dX6_forget_18
def rf_alarms (sc : Nat → Int32) (sI : Nat → Nat → Int32) (sJ : Nat → Nat → Int64) (p0 : Int32) : rS Int32 := if (rf_isInstrument (va_up sc 0 0) sI sJ p0) = 0 then (0, (va_up sc 0 1), sI, sJ) else ((((sI 15) (Int32.toNatClampNeg p0)), (va_up sc 0 0), sI, sJ))
set_option maxHeartbeats 4000000 in
set_option maxRecDepth 100000 in
theorem mr_alarms (l : Launch) (dC : Nat → ClassId) (dI : Nat → Nat → Nat) (cyI cyJ : ClassId) (r : Nat) (ad : Nat → Nat) (sc : Nat → Int32) (sI : Nat → Nat → Int32) (sJ : Nat → Nat → Int64) (p0 : Int32) (hD : va_D (rA r ad) (rW cyI cyJ r ad sc sI sJ)) (hg1 : ¬ ((rf_isInstrument (va_up sc 0 0) sI sJ p0) = 0) → vp_in p0 8) : Met l yX6_alarms wsX6_alarms ({ frames := 1, cells := 0, slots := 0, locals := 21 }) (rq_Pc (dC, dI) cyI cyJ r ad sc sI sJ [.ref r, .int p0]) (rq_Q (dC, dI) cyI cyJ r ad Value.int (rf_alarms sc sI sJ p0)) 0 0 (rA r ad) := by
  refine Met.ofW (cc := cX6_alarms) (maxL := 2) (ret := (some .int)) (by decide) rfl ?_
  intro p e s m args below meth c s₁ B hml hv
  obtain ⟨rfl, hP, hK⟩ := hv
  have hx := B.exec
  have hb := B.bytes
  have hr := B.returns
  have hts := atoms_spec (ws := wsX6_alarms) B.pre
  have hown : s.vm.findClass RX6 = some m.cls := findClass_of_methodNamed B.named
  have hlocks := B.notSynchronized
  have hin : ∀ w ∈ wsX60, w ∈ wsX6_alarms := by decide +kernel
  have hS : va_S (rA r ad) s.heap s.heap [] := va_S.rf
  have hl := lv_entry ([.ref r, .int p0]) (n := 2) (Nat.le_of_ble_eq_true rfl)
  rw [lg_entry_eq]
  generalize (lg_sl ([.ref r, .int p0]) ++ List.replicate (2 - (lg_sl ([.ref r, .int p0])).length) Slot.unset).toArray = ls at hl ⊢
  have hl : lv_has ls 2 [(0, .ref r), (1, .int p0)] := hl
  refine lv_aload_n hx hb dX6_alarms_0 rfl (lv_at hl 0 rfl) ?_
  refine lv_iconst (v := 0) hx hb dX6_alarms_1 (by decide) ?_
  refine va_put (D := (dC, dI)) (ci := 5) (v := .int 0) (ty := .int) (C := RX6) (T := TX6) (N := 19) hx hb hts hin tyX6 tyX6_ok nmX6 hown hK hP hD hS 0 rfl rfl 0 (by decide) (hts (.fieldLink RX6 53 "WeatherMastModel" "thrown" "I") (by decide +kernel)) (fun _ h9 => h9) rfl (by decide +kernel) rfl rfl (Nat.le_of_ble_eq_true rfl) dX6_alarms_2 (fun H locs hP hD hS => ?_)
  have hP : va_P (dC, dI) vwCl (rW cyI cyJ r ad (va_up sc 0 0) sI sJ) H := hP
  have hD : va_D (rA r ad) (rW cyI cyJ r ad (va_up sc 0 0) sI sJ) := hD
  refine lv_aload_n hx hb dX6_alarms_5 rfl (lv_at hl 0 rfl) ?_
  refine lv_iload_n hx hb dX6_alarms_6 rfl (lv_at hl 1 rfl) ?_
  refine pq_call (va_runV (C := RX6) (As := [.int p0]) (rest := []) ⟨hx, hb, hml, hown, hts⟩ (mr_isInstrument l dC dI cyI cyJ r ad (va_up sc 0 0) sI sJ p0) (cwV 1 hts gX6_alarms_X6_isInstrument rfl rfl rfl (by decide +kernel) ⟨Nat.le_of_ble_eq_true rfl, Nat.le_of_ble_eq_true rfl⟩) ⟨rq_blind, va_recv hK hP (ci := 5) (q0 := 0) rfl rfl, rq_pre hP hK⟩ rfl rfl hl.1 rfl (lv_room (Nat.le_of_ble_eq_true rfl)) dX6_alarms_7 ⟨Nat.zero_le _, Nat.zero_le _⟩) ?_
  refine lv_if_eq (tgt := 22) hx hb dX6_alarms_10 (by decide) (fun h1 => ?_) (fun h1 => ?_)
  · refine lv_aload_n hx hb dX6_alarms_22 rfl (lv_at hl 0 rfl) ?_
    refine lv_iconst (v := 1) hx hb dX6_alarms_23 (by decide) ?_
    refine rq_call (va_runV (C := RX6) (As := [.int 1]) (rest := []) ⟨hx, hb, hml, hown, hts⟩ (mr_fail l dC dI cyI cyJ r ad (va_up sc 0 0) sI sJ 1 hD) (cwV 1 hts gX6_alarms_X6_fail rfl rfl rfl (by decide +kernel) ⟨Nat.le_of_ble_eq_true rfl, Nat.le_of_ble_eq_true rfl⟩) ⟨rq_blind, va_recv hK hP (ci := 5) (q0 := 0) rfl rfl, rq_pre hP hK⟩ rfl rfl hl.1 rfl (lv_room (Nat.le_of_ble_eq_true rfl)) dX6_alarms_24 ⟨Nat.zero_le _, Nat.zero_le _⟩) hS (fun q h => h) (fun H locs hP hz hk hS => ?_)
    have hD := pq_Dcongr (ws' := (rW cyI cyJ r ad (va_up sc 0 1) sI sJ)) hD rfl
    have hP : va_P (dC, dI) vwCl (rW cyI cyJ r ad (va_up sc 0 1) sI sJ) H := hP
    have hD : va_D (rA r ad) (rW cyI cyJ r ad (va_up sc 0 1) sI sJ) := hD
    exact W.iret (v := 0) hx hb hr (fun t ht hW => rq_end (con := Value.int) (show rf_alarms sc sI sJ p0 = (0, (va_up sc 0 1), sI, sJ) from (if_pos h1)) (by rw [ht]; exact hP) (hS.F ht)) hS.2.2 dX6_alarms_27
  · refine lv_aload_n hx hb dX6_alarms_13 rfl (lv_at hl 0 rfl) ?_
    refine va_get (D := (dC, dI)) (ci := 5) (v := .ref (ad 15)) (C := RX6) (T := TX6) (N := 19) hx hb hts hin hown hK hP 0 rfl rfl 15 (by decide) (hts (.fieldLink RX6 50 "WeatherMastModel" "alarms" "[I") (by decide +kernel)) (fun _ h9 => h9) rfl dX6_alarms_14 ?_
    refine lv_iload_n hx hb dX6_alarms_17 rfl (lv_at hl 1 rfl) ?_
    refine va_iald (f := (sI 15)) hx hb hK hP 14 0 rfl rfl (hg1 h1) dX6_alarms_18 ?_
    refine lv_goto (tgt := 27) hx hb dX6_alarms_19 (by decide) ?_
    exact W.iret (v := ((sI 15) (Int32.toNatClampNeg p0))) hx hb hr (fun t ht hW => rq_end (con := Value.int) (show rf_alarms sc sI sJ p0 = (((sI 15) (Int32.toNatClampNeg p0)), (va_up sc 0 0), sI, sJ) from (if_neg h1)) (by rw [ht]; exact hP) (hS.F ht)) hS.2.2 dX6_alarms_27
def rf_tell (sc : Nat → Int32) (sI : Nat → Nat → Int32) (sJ : Nat → Nat → Int64) (p0 : Int32) (p1 : Int32) : rS Int64 := if (rf_isInstrument (va_up sc 0 0) sI sJ p0) = 0 then ((Int32.toInt64 0), (va_up sc 0 1), sI, sJ) else (if p1 < 0 then ((Int32.toInt64 0), (va_up sc 0 2), sI, sJ) else (if p1 ≤ 3 then if ((sI 9) (Int32.toNatClampNeg p0)) = 0 then ((Int32.toInt64 0), (va_up sc 0 3), sI, sJ) else (if p1 = 0 then (((sJ 11) (Int32.toNatClampNeg p0)), (va_up sc 0 0), sI, sJ) else (if p1 = 1 then (((sJ 12) (Int32.toNatClampNeg p0)), (va_up sc 0 0), sI, sJ) else (if p1 = 2 then (((sJ 13) (Int32.toNatClampNeg p0)), (va_up sc 0 0), sI, sJ) else ((((sJ 14) (Int32.toNatClampNeg p0)), (va_up sc 0 0), sI, sJ))))) else (((Int32.toInt64 0), (va_up sc 0 2), sI, sJ))))
set_option maxHeartbeats 4000000 in
set_option maxRecDepth 100000 in
theorem mr_tell (l : Launch) (dC : Nat → ClassId) (dI : Nat → Nat → Nat) (cyI cyJ : ClassId) (r : Nat) (ad : Nat → Nat) (sc : Nat → Int32) (sI : Nat → Nat → Int32) (sJ : Nat → Nat → Int64) (p0 : Int32) (p1 : Int32) (hD : va_D (rA r ad) (rW cyI cyJ r ad sc sI sJ)) (hg1 : ¬ ((rf_isInstrument (va_up sc 0 0) sI sJ p0) = 0) → ¬ (p1 < 0) → (p1 ≤ 3) → vp_in p0 8) : Met l yX6_tell wsX6_tell ({ frames := 1, cells := 0, slots := 0, locals := 21 }) (rq_Pc (dC, dI) cyI cyJ r ad sc sI sJ [.ref r, .int p0, .int p1]) (rq_Q (dC, dI) cyI cyJ r ad Value.long (rf_tell sc sI sJ p0 p1)) 0 0 (rA r ad) := by
  refine Met.ofW (cc := cX6_tell) (maxL := 3) (ret := (some .long)) (by decide) rfl ?_
  intro p e s m args below meth c s₁ B hml hv
  obtain ⟨rfl, hP, hK⟩ := hv
  have hx := B.exec
  have hb := B.bytes
  have hr := B.returns
  have hts := atoms_spec (ws := wsX6_tell) B.pre
  have hown : s.vm.findClass RX6 = some m.cls := findClass_of_methodNamed B.named
  have hlocks := B.notSynchronized
  have hin : ∀ w ∈ wsX60, w ∈ wsX6_tell := by decide +kernel
  have hS : va_S (rA r ad) s.heap s.heap [] := va_S.rf
  have hl := lv_entry ([.ref r, .int p0, .int p1]) (n := 3) (Nat.le_of_ble_eq_true rfl)
  rw [lg_entry_eq]
  generalize (lg_sl ([.ref r, .int p0, .int p1]) ++ List.replicate (3 - (lg_sl ([.ref r, .int p0, .int p1])).length) Slot.unset).toArray = ls at hl ⊢
  have hl : lv_has ls 3 [(0, .ref r), (1, .int p0), (2, .int p1)] := hl
  refine lv_aload_n hx hb dX6_tell_0 rfl (lv_at hl 0 rfl) ?_
  refine lv_iconst (v := 0) hx hb dX6_tell_1 (by decide) ?_
  refine va_put (D := (dC, dI)) (ci := 5) (v := .int 0) (ty := .int) (C := RX6) (T := TX6) (N := 19) hx hb hts hin tyX6 tyX6_ok nmX6 hown hK hP hD hS 0 rfl rfl 0 (by decide) (hts (.fieldLink RX6 53 "WeatherMastModel" "thrown" "I") (by decide +kernel)) (fun _ h9 => h9) rfl (by decide +kernel) rfl rfl (Nat.le_of_ble_eq_true rfl) dX6_tell_2 (fun H locs hP hD hS => ?_)
  have hP : va_P (dC, dI) vwCl (rW cyI cyJ r ad (va_up sc 0 0) sI sJ) H := hP
  have hD : va_D (rA r ad) (rW cyI cyJ r ad (va_up sc 0 0) sI sJ) := hD
  refine lv_aload_n hx hb dX6_tell_5 rfl (lv_at hl 0 rfl) ?_
  refine lv_iload_n hx hb dX6_tell_6 rfl (lv_at hl 1 rfl) ?_
  refine pq_call (va_runV (C := RX6) (As := [.int p0]) (rest := []) ⟨hx, hb, hml, hown, hts⟩ (mr_isInstrument l dC dI cyI cyJ r ad (va_up sc 0 0) sI sJ p0) (cwV 1 hts gX6_tell_X6_isInstrument rfl rfl rfl (by decide +kernel) ⟨Nat.le_of_ble_eq_true rfl, Nat.le_of_ble_eq_true rfl⟩) ⟨rq_blind, va_recv hK hP (ci := 5) (q0 := 0) rfl rfl, rq_pre hP hK⟩ rfl rfl hl.1 rfl (lv_room (Nat.le_of_ble_eq_true rfl)) dX6_tell_7 ⟨Nat.zero_le _, Nat.zero_le _⟩) ?_
  refine lv_if_ne (tgt := 20) hx hb dX6_tell_10 (by decide) (fun h1 => ?_) (fun h1 => ?_)
  · refine lv_iload_n hx hb dX6_tell_20 rfl (lv_at hl 2 rfl) ?_
    refine lv_if_lt (tgt := 29) hx hb dX6_tell_21 (by decide) (fun h2 => ?_) (fun h2 => ?_)
    · refine lv_aload_n hx hb dX6_tell_29 rfl (lv_at hl 0 rfl) ?_
      refine lv_iconst (v := 2) hx hb dX6_tell_30 (by decide) ?_
      refine rq_call (va_runV (C := RX6) (As := [.int 2]) (rest := []) ⟨hx, hb, hml, hown, hts⟩ (mr_fail l dC dI cyI cyJ r ad (va_up sc 0 0) sI sJ 2 hD) (cwV 1 hts gX6_tell_X6_fail rfl rfl rfl (by decide +kernel) ⟨Nat.le_of_ble_eq_true rfl, Nat.le_of_ble_eq_true rfl⟩) ⟨rq_blind, va_recv hK hP (ci := 5) (q0 := 0) rfl rfl, rq_pre hP hK⟩ rfl rfl hl.1 rfl (lv_room (Nat.le_of_ble_eq_true rfl)) dX6_tell_31 ⟨Nat.zero_le _, Nat.zero_le _⟩) hS (fun q h => h) (fun H locs hP hz hk hS => ?_)
      have hD := pq_Dcongr (ws' := (rW cyI cyJ r ad (va_up sc 0 2) sI sJ)) hD rfl
      have hP : va_P (dC, dI) vwCl (rW cyI cyJ r ad (va_up sc 0 2) sI sJ) H := hP
      have hD : va_D (rA r ad) (rW cyI cyJ r ad (va_up sc 0 2) sI sJ) := hD
      refine lv_i2l (v := (Int32.toInt64 0)) hx hb dX6_tell_34 rfl ?_
      exact W.lret (v := (Int32.toInt64 0)) hx hb hr (fun t ht hW => rq_end (con := Value.long) (show rf_tell sc sI sJ p0 p1 = ((Int32.toInt64 0), (va_up sc 0 2), sI, sJ) from ((if_neg h1).trans (if_pos h2))) (by rw [ht]; exact hP) (hS.F ht)) hS.2.2 dX6_tell_35
    · refine lv_iload_n hx hb dX6_tell_24 rfl (lv_at hl 2 rfl) ?_
      refine lv_iconst (v := 3) hx hb dX6_tell_25 (by decide) ?_
      refine lv_icmp_le (tgt := 36) hx hb dX6_tell_26 (by decide) (fun h3 => ?_) (fun h3 => ?_)
      · refine lv_aload_n hx hb dX6_tell_36 rfl (lv_at hl 0 rfl) ?_
        refine va_get (D := (dC, dI)) (ci := 5) (v := .ref (ad 9)) (C := RX6) (T := TX6) (N := 19) hx hb hts hin hown hK hP 0 rfl rfl 9 (by decide) (hts (.fieldLink RX6 32 "WeatherMastModel" "many" "[I") (by decide +kernel)) (fun _ h9 => h9) rfl dX6_tell_37 ?_
        refine lv_iload_n hx hb dX6_tell_40 rfl (lv_at hl 1 rfl) ?_
        refine va_iald (f := (sI 9)) hx hb hK hP 8 0 rfl rfl (hg1 h1 h2 h3) dX6_tell_41 ?_
        refine lv_if_ne (tgt := 52) hx hb dX6_tell_42 (by decide) (fun h4 => ?_) (fun h4 => ?_)
        · refine lv_iload_n hx hb dX6_tell_52 rfl (lv_at hl 2 rfl) ?_
          refine lv_if_ne (tgt := 65) hx hb dX6_tell_53 (by decide) (fun h5 => ?_) (fun h5 => ?_)
          · refine lv_iload_n hx hb dX6_tell_65 rfl (lv_at hl 2 rfl) ?_
            refine lv_iconst (v := 1) hx hb dX6_tell_66 (by decide) ?_
            refine lv_icmp_ne (tgt := 79) hx hb dX6_tell_67 (by decide) (fun h6 => ?_) (fun h6 => ?_)
            · refine lv_iload_n hx hb dX6_tell_79 rfl (lv_at hl 2 rfl) ?_
              refine lv_iconst (v := 2) hx hb dX6_tell_80 (by decide) ?_
              refine lv_icmp_ne (tgt := 93) hx hb dX6_tell_81 (by decide) (fun h7 => ?_) (fun h7 => ?_)
              · refine lv_aload_n hx hb dX6_tell_93 rfl (lv_at hl 0 rfl) ?_
                refine va_get (D := (dC, dI)) (ci := 5) (v := .ref (ad 14)) (C := RX6) (T := TX6) (N := 19) hx hb hts hin hown hK hP 0 rfl rfl 14 (by decide) (hts (.fieldLink RX6 47 "WeatherMastModel" "sums" "[J") (by decide +kernel)) (fun _ h9 => h9) rfl dX6_tell_94 ?_
                refine lv_iload_n hx hb dX6_tell_97 rfl (lv_at hl 1 rfl) ?_
                refine va_lald (f := (sJ 14)) hx hb hK hP 13 1 rfl rfl (hg1 h1 h2 h3) dX6_tell_98 ?_
                exact W.lret (v := ((sJ 14) (Int32.toNatClampNeg p0))) hx hb hr (fun t ht hW => rq_end (con := Value.long) (show rf_tell sc sI sJ p0 p1 = (((sJ 14) (Int32.toNatClampNeg p0)), (va_up sc 0 0), sI, sJ) from ((if_neg h1).trans ((if_neg h2).trans ((if_pos h3).trans ((if_neg h4).trans ((if_neg h5).trans ((if_neg h6).trans (if_neg h7)))))))) (by rw [ht]; exact hP) (hS.F ht)) hS.2.2 dX6_tell_99
              · refine lv_aload_n hx hb dX6_tell_84 rfl (lv_at hl 0 rfl) ?_
                refine va_get (D := (dC, dI)) (ci := 5) (v := .ref (ad 13)) (C := RX6) (T := TX6) (N := 19) hx hb hts hin hown hK hP 0 rfl rfl 13 (by decide) (hts (.fieldLink RX6 44 "WeatherMastModel" "swings" "[J") (by decide +kernel)) (fun _ h9 => h9) rfl dX6_tell_85 ?_
                refine lv_iload_n hx hb dX6_tell_88 rfl (lv_at hl 1 rfl) ?_
                refine va_lald (f := (sJ 13)) hx hb hK hP 12 1 rfl rfl (hg1 h1 h2 h3) dX6_tell_89 ?_
                refine lv_goto (tgt := 99) hx hb dX6_tell_90 (by decide) ?_
                exact W.lret (v := ((sJ 13) (Int32.toNatClampNeg p0))) hx hb hr (fun t ht hW => rq_end (con := Value.long) (show rf_tell sc sI sJ p0 p1 = (((sJ 13) (Int32.toNatClampNeg p0)), (va_up sc 0 0), sI, sJ) from ((if_neg h1).trans ((if_neg h2).trans ((if_pos h3).trans ((if_neg h4).trans ((if_neg h5).trans ((if_neg h6).trans (if_pos h7)))))))) (by rw [ht]; exact hP) (hS.F ht)) hS.2.2 dX6_tell_99
            · refine lv_aload_n hx hb dX6_tell_70 rfl (lv_at hl 0 rfl) ?_
              refine va_get (D := (dC, dI)) (ci := 5) (v := .ref (ad 12)) (C := RX6) (T := TX6) (N := 19) hx hb hts hin hown hK hP 0 rfl rfl 12 (by decide) (hts (.fieldLink RX6 41 "WeatherMastModel" "greatests" "[J") (by decide +kernel)) (fun _ h9 => h9) rfl dX6_tell_71 ?_
              refine lv_iload_n hx hb dX6_tell_74 rfl (lv_at hl 1 rfl) ?_
              refine va_lald (f := (sJ 12)) hx hb hK hP 11 1 rfl rfl (hg1 h1 h2 h3) dX6_tell_75 ?_
              refine lv_goto (tgt := 99) hx hb dX6_tell_76 (by decide) ?_
              exact W.lret (v := ((sJ 12) (Int32.toNatClampNeg p0))) hx hb hr (fun t ht hW => rq_end (con := Value.long) (show rf_tell sc sI sJ p0 p1 = (((sJ 12) (Int32.toNatClampNeg p0)), (va_up sc 0 0), sI, sJ) from ((if_neg h1).trans ((if_neg h2).trans ((if_pos h3).trans ((if_neg h4).trans ((if_neg h5).trans (if_pos h6))))))) (by rw [ht]; exact hP) (hS.F ht)) hS.2.2 dX6_tell_99
          · refine lv_aload_n hx hb dX6_tell_56 rfl (lv_at hl 0 rfl) ?_
            refine va_get (D := (dC, dI)) (ci := 5) (v := .ref (ad 11)) (C := RX6) (T := TX6) (N := 19) hx hb hts hin hown hK hP 0 rfl rfl 11 (by decide) (hts (.fieldLink RX6 38 "WeatherMastModel" "leasts" "[J") (by decide +kernel)) (fun _ h9 => h9) rfl dX6_tell_57 ?_
            refine lv_iload_n hx hb dX6_tell_60 rfl (lv_at hl 1 rfl) ?_
            refine va_lald (f := (sJ 11)) hx hb hK hP 10 1 rfl rfl (hg1 h1 h2 h3) dX6_tell_61 ?_
            refine lv_goto (tgt := 99) hx hb dX6_tell_62 (by decide) ?_
            exact W.lret (v := ((sJ 11) (Int32.toNatClampNeg p0))) hx hb hr (fun t ht hW => rq_end (con := Value.long) (show rf_tell sc sI sJ p0 p1 = (((sJ 11) (Int32.toNatClampNeg p0)), (va_up sc 0 0), sI, sJ) from ((if_neg h1).trans ((if_neg h2).trans ((if_pos h3).trans ((if_neg h4).trans (if_pos h5)))))) (by rw [ht]; exact hP) (hS.F ht)) hS.2.2 dX6_tell_99
        · refine lv_aload_n hx hb dX6_tell_45 rfl (lv_at hl 0 rfl) ?_
          refine lv_iconst (v := 3) hx hb dX6_tell_46 (by decide) ?_
          refine rq_call (va_runV (C := RX6) (As := [.int 3]) (rest := []) ⟨hx, hb, hml, hown, hts⟩ (mr_fail l dC dI cyI cyJ r ad (va_up sc 0 0) sI sJ 3 hD) (cwV 1 hts gX6_tell_X6_fail rfl rfl rfl (by decide +kernel) ⟨Nat.le_of_ble_eq_true rfl, Nat.le_of_ble_eq_true rfl⟩) ⟨rq_blind, va_recv hK hP (ci := 5) (q0 := 0) rfl rfl, rq_pre hP hK⟩ rfl rfl hl.1 rfl (lv_room (Nat.le_of_ble_eq_true rfl)) dX6_tell_47 ⟨Nat.zero_le _, Nat.zero_le _⟩) hS (fun q h => h) (fun H locs hP hz hk hS => ?_)
          have hD := pq_Dcongr (ws' := (rW cyI cyJ r ad (va_up sc 0 3) sI sJ)) hD rfl
          have hP : va_P (dC, dI) vwCl (rW cyI cyJ r ad (va_up sc 0 3) sI sJ) H := hP
          have hD : va_D (rA r ad) (rW cyI cyJ r ad (va_up sc 0 3) sI sJ) := hD
          refine lv_i2l (v := (Int32.toInt64 0)) hx hb dX6_tell_50 rfl ?_
          exact W.lret (v := (Int32.toInt64 0)) hx hb hr (fun t ht hW => rq_end (con := Value.long) (show rf_tell sc sI sJ p0 p1 = ((Int32.toInt64 0), (va_up sc 0 3), sI, sJ) from ((if_neg h1).trans ((if_neg h2).trans ((if_pos h3).trans (if_pos h4))))) (by rw [ht]; exact hP) (hS.F ht)) hS.2.2 dX6_tell_51
      · refine lv_aload_n hx hb dX6_tell_29 rfl (lv_at hl 0 rfl) ?_
        refine lv_iconst (v := 2) hx hb dX6_tell_30 (by decide) ?_
        refine rq_call (va_runV (C := RX6) (As := [.int 2]) (rest := []) ⟨hx, hb, hml, hown, hts⟩ (mr_fail l dC dI cyI cyJ r ad (va_up sc 0 0) sI sJ 2 hD) (cwV 1 hts gX6_tell_X6_fail rfl rfl rfl (by decide +kernel) ⟨Nat.le_of_ble_eq_true rfl, Nat.le_of_ble_eq_true rfl⟩) ⟨rq_blind, va_recv hK hP (ci := 5) (q0 := 0) rfl rfl, rq_pre hP hK⟩ rfl rfl hl.1 rfl (lv_room (Nat.le_of_ble_eq_true rfl)) dX6_tell_31 ⟨Nat.zero_le _, Nat.zero_le _⟩) hS (fun q h => h) (fun H locs hP hz hk hS => ?_)
        have hD := pq_Dcongr (ws' := (rW cyI cyJ r ad (va_up sc 0 2) sI sJ)) hD rfl
        have hP : va_P (dC, dI) vwCl (rW cyI cyJ r ad (va_up sc 0 2) sI sJ) H := hP
        have hD : va_D (rA r ad) (rW cyI cyJ r ad (va_up sc 0 2) sI sJ) := hD
        refine lv_i2l (v := (Int32.toInt64 0)) hx hb dX6_tell_34 rfl ?_
        exact W.lret (v := (Int32.toInt64 0)) hx hb hr (fun t ht hW => rq_end (con := Value.long) (show rf_tell sc sI sJ p0 p1 = ((Int32.toInt64 0), (va_up sc 0 2), sI, sJ) from ((if_neg h1).trans ((if_neg h2).trans (if_neg h3)))) (by rw [ht]; exact hP) (hS.F ht)) hS.2.2 dX6_tell_35
  · refine lv_aload_n hx hb dX6_tell_13 rfl (lv_at hl 0 rfl) ?_
    refine lv_iconst (v := 1) hx hb dX6_tell_14 (by decide) ?_
    refine rq_call (va_runV (C := RX6) (As := [.int 1]) (rest := []) ⟨hx, hb, hml, hown, hts⟩ (mr_fail l dC dI cyI cyJ r ad (va_up sc 0 0) sI sJ 1 hD) (cwV 1 hts gX6_tell_X6_fail rfl rfl rfl (by decide +kernel) ⟨Nat.le_of_ble_eq_true rfl, Nat.le_of_ble_eq_true rfl⟩) ⟨rq_blind, va_recv hK hP (ci := 5) (q0 := 0) rfl rfl, rq_pre hP hK⟩ rfl rfl hl.1 rfl (lv_room (Nat.le_of_ble_eq_true rfl)) dX6_tell_15 ⟨Nat.zero_le _, Nat.zero_le _⟩) hS (fun q h => h) (fun H locs hP hz hk hS => ?_)
    have hD := pq_Dcongr (ws' := (rW cyI cyJ r ad (va_up sc 0 1) sI sJ)) hD rfl
    have hP : va_P (dC, dI) vwCl (rW cyI cyJ r ad (va_up sc 0 1) sI sJ) H := hP
    have hD : va_D (rA r ad) (rW cyI cyJ r ad (va_up sc 0 1) sI sJ) := hD
    refine lv_i2l (v := (Int32.toInt64 0)) hx hb dX6_tell_18 rfl ?_
    exact W.lret (v := (Int32.toInt64 0)) hx hb hr (fun t ht hW => rq_end (con := Value.long) (show rf_tell sc sI sJ p0 p1 = ((Int32.toInt64 0), (va_up sc 0 1), sI, sJ) from (if_pos h1)) (by rw [ht]; exact hP) (hS.F ht)) hS.2.2 dX6_tell_19
def rf_step (sc : Nat → Int32) (sI : Nat → Nat → Int32) (sJ : Nat → Nat → Int64) (p0 : Int32) (p1 : Int32) (p2 : Int64) : rS Int32 := if (rf_isInstrument (va_up sc 0 0) sI sJ p0) = 0 then (0, (va_up sc 0 1), sI, sJ) else (if (rf_isStep ((sI 2) (Int32.toNatClampNeg p0)) p1) = 0 then (0, (va_up sc 0 2), sI, sJ) else (if (rf_takes p1) = 0 then ((rf_link (va_up sc 0 0) sI sJ p0 p1 (rf_cut ((sI 2) (Int32.toNatClampNeg p0)) p2) (-1)).1, (rf_link (va_up sc 0 0) sI sJ p0 p1 (rf_cut ((sI 2) (Int32.toNatClampNeg p0)) p2) (-1)).2.1, (rf_link (va_up sc 0 0) sI sJ p0 p1 (rf_cut ((sI 2) (Int32.toNatClampNeg p0)) p2) (-1)).2.2.1, (rf_link (va_up sc 0 0) sI sJ p0 p1 (rf_cut ((sI 2) (Int32.toNatClampNeg p0)) p2) (-1)).2.2.2) else (if (rf_isNone ((sI 2) (Int32.toNatClampNeg p0)) p2) = 0 then ((rf_link (va_up sc 0 0) sI sJ p0 p1 (rf_cut ((sI 2) (Int32.toNatClampNeg p0)) p2) (-1)).1, (rf_link (va_up sc 0 0) sI sJ p0 p1 (rf_cut ((sI 2) (Int32.toNatClampNeg p0)) p2) (-1)).2.1, (rf_link (va_up sc 0 0) sI sJ p0 p1 (rf_cut ((sI 2) (Int32.toNatClampNeg p0)) p2) (-1)).2.2.1, (rf_link (va_up sc 0 0) sI sJ p0 p1 (rf_cut ((sI 2) (Int32.toNatClampNeg p0)) p2) (-1)).2.2.2) else ((0, (va_up sc 0 2), sI, sJ)))))
set_option maxHeartbeats 4000000 in
set_option maxRecDepth 100000 in
theorem mr_step (l : Launch) (dC : Nat → ClassId) (dI : Nat → Nat → Nat) (cyI cyJ : ClassId) (r : Nat) (ad : Nat → Nat) (sc : Nat → Int32) (sI : Nat → Nat → Int32) (sJ : Nat → Nat → Int64) (p0 : Int32) (p1 : Int32) (p2 : Int64) (hD : va_D (rA r ad) (rW cyI cyJ r ad sc sI sJ)) (hg1 : ¬ ((rf_isInstrument (va_up sc 0 0) sI sJ p0) = 0) → vp_in p0 8) (hg2 : ¬ ((rf_isInstrument (va_up sc 0 0) sI sJ p0) = 0) → ¬ ((rf_isStep ((sI 2) (Int32.toNatClampNeg p0)) p1) = 0) → ((rf_takes p1) = 0) → (vp_in p0 8)) (hg3 : ¬ ((rf_isInstrument (va_up sc 0 0) sI sJ p0) = 0) → ¬ ((rf_isStep ((sI 2) (Int32.toNatClampNeg p0)) p1) = 0) → ((rf_takes p1) = 0) → (¬ (((sI 3) (Int32.toNatClampNeg p0)) = 6) → vp_in ((6 * p0) + ((sI 3) (Int32.toNatClampNeg p0))) 48)) (hg4 : ¬ ((rf_isInstrument (va_up sc 0 0) sI sJ p0) = 0) → ¬ ((rf_isStep ((sI 2) (Int32.toNatClampNeg p0)) p1) = 0) → ¬ ((rf_takes p1) = 0) → ((rf_isNone ((sI 2) (Int32.toNatClampNeg p0)) p2) = 0) → (vp_in p0 8)) (hg5 : ¬ ((rf_isInstrument (va_up sc 0 0) sI sJ p0) = 0) → ¬ ((rf_isStep ((sI 2) (Int32.toNatClampNeg p0)) p1) = 0) → ¬ ((rf_takes p1) = 0) → ((rf_isNone ((sI 2) (Int32.toNatClampNeg p0)) p2) = 0) → (¬ (((sI 3) (Int32.toNatClampNeg p0)) = 6) → vp_in ((6 * p0) + ((sI 3) (Int32.toNatClampNeg p0))) 48)) : Met l yX6_step wsX6_step ({ frames := 3, cells := 0, slots := 0, locals := 66 }) (rq_Pc (dC, dI) cyI cyJ r ad sc sI sJ [.ref r, .int p0, .int p1, .long p2]) (rq_Q (dC, dI) cyI cyJ r ad Value.int (rf_step sc sI sJ p0 p1 p2)) 0 0 (rA r ad) := by
  refine Met.ofW (cc := cX6_step) (maxL := 6) (ret := (some .int)) (by decide) rfl ?_
  intro p e s m args below meth c s₁ B hml hv
  obtain ⟨rfl, hP, hK⟩ := hv
  have hx := B.exec
  have hb := B.bytes
  have hr := B.returns
  have hts := atoms_spec (ws := wsX6_step) B.pre
  have hown : s.vm.findClass RX6 = some m.cls := findClass_of_methodNamed B.named
  have hlocks := B.notSynchronized
  have hin : ∀ w ∈ wsX60, w ∈ wsX6_step := by decide +kernel
  have hS : va_S (rA r ad) s.heap s.heap [] := va_S.rf
  have hl := lv_entry ([.ref r, .int p0, .int p1, .long p2]) (n := 6) (Nat.le_of_ble_eq_true rfl)
  rw [lg_entry_eq]
  generalize (lg_sl ([.ref r, .int p0, .int p1, .long p2]) ++ List.replicate (6 - (lg_sl ([.ref r, .int p0, .int p1, .long p2])).length) Slot.unset).toArray = ls at hl ⊢
  have hl : lv_has ls 6 [(0, .ref r), (1, .int p0), (2, .int p1), (3, .long p2)] := hl
  refine lv_aload_n hx hb dX6_step_0 rfl (lv_at hl 0 rfl) ?_
  refine lv_iconst (v := 0) hx hb dX6_step_1 (by decide) ?_
  refine va_put (D := (dC, dI)) (ci := 5) (v := .int 0) (ty := .int) (C := RX6) (T := TX6) (N := 19) hx hb hts hin tyX6 tyX6_ok nmX6 hown hK hP hD hS 0 rfl rfl 0 (by decide) (hts (.fieldLink RX6 53 "WeatherMastModel" "thrown" "I") (by decide +kernel)) (fun _ h9 => h9) rfl (by decide +kernel) rfl rfl (Nat.le_of_ble_eq_true rfl) dX6_step_2 (fun H locs hP hD hS => ?_)
  have hP : va_P (dC, dI) vwCl (rW cyI cyJ r ad (va_up sc 0 0) sI sJ) H := hP
  have hD : va_D (rA r ad) (rW cyI cyJ r ad (va_up sc 0 0) sI sJ) := hD
  refine lv_aload_n hx hb dX6_step_5 rfl (lv_at hl 0 rfl) ?_
  refine lv_iload_n hx hb dX6_step_6 rfl (lv_at hl 1 rfl) ?_
  refine pq_call (va_runV (C := RX6) (As := [.int p0]) (rest := []) ⟨hx, hb, hml, hown, hts⟩ (mr_isInstrument l dC dI cyI cyJ r ad (va_up sc 0 0) sI sJ p0) (cwV 1 hts gX6_step_X6_isInstrument rfl rfl rfl (by decide +kernel) ⟨Nat.le_of_ble_eq_true rfl, Nat.le_of_ble_eq_true rfl⟩) ⟨rq_blind, va_recv hK hP (ci := 5) (q0 := 0) rfl rfl, rq_pre hP hK⟩ rfl rfl hl.1 rfl (lv_room (Nat.le_of_ble_eq_true rfl)) dX6_step_7 ⟨Nat.zero_le _, Nat.zero_le _⟩) ?_
  refine lv_if_ne (tgt := 19) hx hb dX6_step_10 (by decide) (fun h1 => ?_) (fun h1 => ?_)
  · refine lv_aload_n hx hb dX6_step_19 rfl (lv_at hl 0 rfl) ?_
    refine va_get (D := (dC, dI)) (ci := 5) (v := .ref (ad 2)) (C := RX6) (T := TX6) (N := 19) hx hb hts hin hown hK hP 0 rfl rfl 2 (by decide) (hts (.fieldLink RX6 7 "WeatherMastModel" "sorts" "[I") (by decide +kernel)) (fun _ h9 => h9) rfl dX6_step_20 ?_
    refine lv_iload_n hx hb dX6_step_23 rfl (lv_at hl 1 rfl) ?_
    refine va_iald (f := (sI 2)) hx hb hK hP 1 0 rfl rfl (hg1 h1) dX6_step_24 ?_
    refine lv_istore (lv' := [(5, .int ((sI 2) (Int32.toNatClampNeg p0))), (0, .ref r), (1, .int p0), (2, .int p1), (3, .long p2)]) hx hb dX6_step_25 hl (by decide) rfl (fun ls hl => ?_)
    refine lv_iload hx hb dX6_step_27 (lv_at hl 0 rfl) ?_
    refine lv_iload_n hx hb dX6_step_29 rfl (lv_at hl 3 rfl) ?_
    refine pq_call (va_runS (As := [.int ((sI 2) (Int32.toNatClampNeg p0)), .int p1]) (rest := []) ⟨hx, hb, hml, hown, hts⟩ (mt_X6_isStep l ((sI 2) (Int32.toNatClampNeg p0)) p1) (va_cwS 2 hts gX6_step_X6_isStep rfl rfl rfl (by decide +kernel) ⟨Nat.le_of_ble_eq_true rfl, Nat.le_of_ble_eq_true rfl⟩) ⟨fun a U g mk q => q, fun U hU hW => ⟨rfl, trivial⟩⟩ rfl rfl hl.1 rfl (lv_room (Nat.le_of_ble_eq_true rfl)) dX6_step_30 ⟨Nat.zero_le _, Nat.zero_le _⟩) ?_
    refine lv_if_eq (tgt := 52) hx hb dX6_step_33 (by decide) (fun h2 => ?_) (fun h2 => ?_)
    · refine lv_aload_n hx hb dX6_step_52 rfl (lv_at hl 1 rfl) ?_
      refine lv_iconst (v := 2) hx hb dX6_step_53 (by decide) ?_
      refine rq_call (va_runV (C := RX6) (As := [.int 2]) (rest := []) ⟨hx, hb, hml, hown, hts⟩ (mr_fail l dC dI cyI cyJ r ad (va_up sc 0 0) sI sJ 2 hD) (cwV 1 hts gX6_step_X6_fail rfl rfl rfl (by decide +kernel) ⟨Nat.le_of_ble_eq_true rfl, Nat.le_of_ble_eq_true rfl⟩) ⟨rq_blind, va_recv hK hP (ci := 5) (q0 := 0) rfl rfl, rq_pre hP hK⟩ rfl rfl hl.1 rfl (lv_room (Nat.le_of_ble_eq_true rfl)) dX6_step_54 ⟨Nat.zero_le _, Nat.zero_le _⟩) hS (fun q h => h) (fun H locs hP hz hk hS => ?_)
      have hD := pq_Dcongr (ws' := (rW cyI cyJ r ad (va_up sc 0 2) sI sJ)) hD rfl
      have hP : va_P (dC, dI) vwCl (rW cyI cyJ r ad (va_up sc 0 2) sI sJ) H := hP
      have hD : va_D (rA r ad) (rW cyI cyJ r ad (va_up sc 0 2) sI sJ) := hD
      exact W.iret (v := 0) hx hb hr (fun t ht hW => rq_end (con := Value.int) (show rf_step sc sI sJ p0 p1 p2 = (0, (va_up sc 0 2), sI, sJ) from ((if_neg h1).trans (if_pos h2))) (by rw [ht]; exact hP) (hS.F ht)) hS.2.2 dX6_step_57
    · refine lv_iload_n hx hb dX6_step_36 rfl (lv_at hl 3 rfl) ?_
      refine pq_call (va_runS (As := [.int p1]) (rest := []) ⟨hx, hb, hml, hown, hts⟩ (mt_X6_takes l p1) (va_cwS 1 hts gX6_step_X6_takes rfl rfl rfl (by decide +kernel) ⟨Nat.le_of_ble_eq_true rfl, Nat.le_of_ble_eq_true rfl⟩) ⟨fun a U g mk q => q, fun U hU hW => ⟨rfl, trivial⟩⟩ rfl rfl hl.1 rfl (lv_room (Nat.le_of_ble_eq_true rfl)) dX6_step_37 ⟨Nat.zero_le _, Nat.zero_le _⟩) ?_
      refine lv_if_eq (tgt := 58) hx hb dX6_step_40 (by decide) (fun h3 => ?_) (fun h3 => ?_)
      · refine lv_aload_n hx hb dX6_step_58 rfl (lv_at hl 1 rfl) ?_
        refine lv_iload_n hx hb dX6_step_59 rfl (lv_at hl 2 rfl) ?_
        refine lv_iload_n hx hb dX6_step_60 rfl (lv_at hl 3 rfl) ?_
        refine lv_iload hx hb dX6_step_61 (lv_at hl 0 rfl) ?_
        refine lv_lload_n hx hb dX6_step_63 rfl (lv_at hl 4 rfl) ?_
        refine pq_call (va_runS (As := [.int ((sI 2) (Int32.toNatClampNeg p0)), .long p2]) (rest := [.int p1, .int p0, .ref r]) ⟨hx, hb, hml, hown, hts⟩ (mt_X6_cut l ((sI 2) (Int32.toNatClampNeg p0)) p2) (va_cwS 2 hts gX6_step_X6_cut rfl rfl rfl (by decide +kernel) ⟨Nat.le_of_ble_eq_true rfl, Nat.le_of_ble_eq_true rfl⟩) ⟨fun a U g mk q => q, fun U hU hW => ⟨rfl, trivial⟩⟩ rfl rfl hl.1 rfl (lv_room (Nat.le_of_ble_eq_true rfl)) dX6_step_64 ⟨Nat.zero_le _, Nat.zero_le _⟩) ?_
        refine lv_iconst (v := (-1)) hx hb dX6_step_67 (by decide) ?_
        refine rq_call (va_runV (C := RX6) (As := [.int p0, .int p1, .long (rf_cut ((sI 2) (Int32.toNatClampNeg p0)) p2), .int (-1)]) (rest := []) ⟨hx, hb, hml, hown, hts⟩ (mr_link l dC dI cyI cyJ r ad (va_up sc 0 0) sI sJ p0 p1 (rf_cut ((sI 2) (Int32.toNatClampNeg p0)) p2) (-1) hD (hg2 h1 h2 h3) (hg3 h1 h2 h3)) (cwV 4 hts gX6_step_X6_link rfl rfl rfl (by decide +kernel) ⟨Nat.le_of_ble_eq_true rfl, Nat.le_of_ble_eq_true rfl⟩) ⟨rq_blind, va_recv hK hP (ci := 5) (q0 := 0) rfl rfl, rq_pre hP hK⟩ rfl rfl hl.1 rfl (lv_room (Nat.le_of_ble_eq_true rfl)) dX6_step_68 ⟨Nat.zero_le _, Nat.zero_le _⟩) hS (fun q h => h) (fun H locs hP hz hk hS => ?_)
        have hD := pq_Dcongr (ws' := (rW cyI cyJ r ad (rf_link (va_up sc 0 0) sI sJ p0 p1 (rf_cut ((sI 2) (Int32.toNatClampNeg p0)) p2) (-1)).2.1 (rf_link (va_up sc 0 0) sI sJ p0 p1 (rf_cut ((sI 2) (Int32.toNatClampNeg p0)) p2) (-1)).2.2.1 (rf_link (va_up sc 0 0) sI sJ p0 p1 (rf_cut ((sI 2) (Int32.toNatClampNeg p0)) p2) (-1)).2.2.2)) hD rfl
        have hP : va_P (dC, dI) vwCl (rW cyI cyJ r ad (rf_link (va_up sc 0 0) sI sJ p0 p1 (rf_cut ((sI 2) (Int32.toNatClampNeg p0)) p2) (-1)).2.1 (rf_link (va_up sc 0 0) sI sJ p0 p1 (rf_cut ((sI 2) (Int32.toNatClampNeg p0)) p2) (-1)).2.2.1 (rf_link (va_up sc 0 0) sI sJ p0 p1 (rf_cut ((sI 2) (Int32.toNatClampNeg p0)) p2) (-1)).2.2.2) H := hP
        have hD : va_D (rA r ad) (rW cyI cyJ r ad (rf_link (va_up sc 0 0) sI sJ p0 p1 (rf_cut ((sI 2) (Int32.toNatClampNeg p0)) p2) (-1)).2.1 (rf_link (va_up sc 0 0) sI sJ p0 p1 (rf_cut ((sI 2) (Int32.toNatClampNeg p0)) p2) (-1)).2.2.1 (rf_link (va_up sc 0 0) sI sJ p0 p1 (rf_cut ((sI 2) (Int32.toNatClampNeg p0)) p2) (-1)).2.2.2) := hD
        exact W.iret (v := (rf_link (va_up sc 0 0) sI sJ p0 p1 (rf_cut ((sI 2) (Int32.toNatClampNeg p0)) p2) (-1)).1) hx hb hr (fun t ht hW => rq_end (con := Value.int) (show rf_step sc sI sJ p0 p1 p2 = ((rf_link (va_up sc 0 0) sI sJ p0 p1 (rf_cut ((sI 2) (Int32.toNatClampNeg p0)) p2) (-1)).1, (rf_link (va_up sc 0 0) sI sJ p0 p1 (rf_cut ((sI 2) (Int32.toNatClampNeg p0)) p2) (-1)).2.1, (rf_link (va_up sc 0 0) sI sJ p0 p1 (rf_cut ((sI 2) (Int32.toNatClampNeg p0)) p2) (-1)).2.2.1, (rf_link (va_up sc 0 0) sI sJ p0 p1 (rf_cut ((sI 2) (Int32.toNatClampNeg p0)) p2) (-1)).2.2.2) from ((if_neg h1).trans ((if_neg h2).trans (if_pos h3)))) (by rw [ht]; exact hP) (hS.F ht)) hS.2.2 dX6_step_71
      · refine lv_iload hx hb dX6_step_43 (lv_at hl 0 rfl) ?_
        refine lv_lload_n hx hb dX6_step_45 rfl (lv_at hl 4 rfl) ?_
        refine pq_call (va_runS (As := [.int ((sI 2) (Int32.toNatClampNeg p0)), .long p2]) (rest := []) ⟨hx, hb, hml, hown, hts⟩ (mt_X6_isNone l ((sI 2) (Int32.toNatClampNeg p0)) p2) (va_cwS 2 hts gX6_step_X6_isNone rfl rfl rfl (by decide +kernel) ⟨Nat.le_of_ble_eq_true rfl, Nat.le_of_ble_eq_true rfl⟩) ⟨fun a U g mk q => q, fun U hU hW => ⟨rfl, trivial⟩⟩ rfl rfl hl.1 rfl (lv_room (Nat.le_of_ble_eq_true rfl)) dX6_step_46 ⟨Nat.zero_le _, Nat.zero_le _⟩) ?_
        refine lv_if_eq (tgt := 58) hx hb dX6_step_49 (by decide) (fun h4 => ?_) (fun h4 => ?_)
        · refine lv_aload_n hx hb dX6_step_58 rfl (lv_at hl 1 rfl) ?_
          refine lv_iload_n hx hb dX6_step_59 rfl (lv_at hl 2 rfl) ?_
          refine lv_iload_n hx hb dX6_step_60 rfl (lv_at hl 3 rfl) ?_
          refine lv_iload hx hb dX6_step_61 (lv_at hl 0 rfl) ?_
          refine lv_lload_n hx hb dX6_step_63 rfl (lv_at hl 4 rfl) ?_
          refine pq_call (va_runS (As := [.int ((sI 2) (Int32.toNatClampNeg p0)), .long p2]) (rest := [.int p1, .int p0, .ref r]) ⟨hx, hb, hml, hown, hts⟩ (mt_X6_cut l ((sI 2) (Int32.toNatClampNeg p0)) p2) (va_cwS 2 hts gX6_step_X6_cut rfl rfl rfl (by decide +kernel) ⟨Nat.le_of_ble_eq_true rfl, Nat.le_of_ble_eq_true rfl⟩) ⟨fun a U g mk q => q, fun U hU hW => ⟨rfl, trivial⟩⟩ rfl rfl hl.1 rfl (lv_room (Nat.le_of_ble_eq_true rfl)) dX6_step_64 ⟨Nat.zero_le _, Nat.zero_le _⟩) ?_
          refine lv_iconst (v := (-1)) hx hb dX6_step_67 (by decide) ?_
          refine rq_call (va_runV (C := RX6) (As := [.int p0, .int p1, .long (rf_cut ((sI 2) (Int32.toNatClampNeg p0)) p2), .int (-1)]) (rest := []) ⟨hx, hb, hml, hown, hts⟩ (mr_link l dC dI cyI cyJ r ad (va_up sc 0 0) sI sJ p0 p1 (rf_cut ((sI 2) (Int32.toNatClampNeg p0)) p2) (-1) hD (hg4 h1 h2 h3 h4) (hg5 h1 h2 h3 h4)) (cwV 4 hts gX6_step_X6_link rfl rfl rfl (by decide +kernel) ⟨Nat.le_of_ble_eq_true rfl, Nat.le_of_ble_eq_true rfl⟩) ⟨rq_blind, va_recv hK hP (ci := 5) (q0 := 0) rfl rfl, rq_pre hP hK⟩ rfl rfl hl.1 rfl (lv_room (Nat.le_of_ble_eq_true rfl)) dX6_step_68 ⟨Nat.zero_le _, Nat.zero_le _⟩) hS (fun q h => h) (fun H locs hP hz hk hS => ?_)
          have hD := pq_Dcongr (ws' := (rW cyI cyJ r ad (rf_link (va_up sc 0 0) sI sJ p0 p1 (rf_cut ((sI 2) (Int32.toNatClampNeg p0)) p2) (-1)).2.1 (rf_link (va_up sc 0 0) sI sJ p0 p1 (rf_cut ((sI 2) (Int32.toNatClampNeg p0)) p2) (-1)).2.2.1 (rf_link (va_up sc 0 0) sI sJ p0 p1 (rf_cut ((sI 2) (Int32.toNatClampNeg p0)) p2) (-1)).2.2.2)) hD rfl
          have hP : va_P (dC, dI) vwCl (rW cyI cyJ r ad (rf_link (va_up sc 0 0) sI sJ p0 p1 (rf_cut ((sI 2) (Int32.toNatClampNeg p0)) p2) (-1)).2.1 (rf_link (va_up sc 0 0) sI sJ p0 p1 (rf_cut ((sI 2) (Int32.toNatClampNeg p0)) p2) (-1)).2.2.1 (rf_link (va_up sc 0 0) sI sJ p0 p1 (rf_cut ((sI 2) (Int32.toNatClampNeg p0)) p2) (-1)).2.2.2) H := hP
          have hD : va_D (rA r ad) (rW cyI cyJ r ad (rf_link (va_up sc 0 0) sI sJ p0 p1 (rf_cut ((sI 2) (Int32.toNatClampNeg p0)) p2) (-1)).2.1 (rf_link (va_up sc 0 0) sI sJ p0 p1 (rf_cut ((sI 2) (Int32.toNatClampNeg p0)) p2) (-1)).2.2.1 (rf_link (va_up sc 0 0) sI sJ p0 p1 (rf_cut ((sI 2) (Int32.toNatClampNeg p0)) p2) (-1)).2.2.2) := hD
          exact W.iret (v := (rf_link (va_up sc 0 0) sI sJ p0 p1 (rf_cut ((sI 2) (Int32.toNatClampNeg p0)) p2) (-1)).1) hx hb hr (fun t ht hW => rq_end (con := Value.int) (show rf_step sc sI sJ p0 p1 p2 = ((rf_link (va_up sc 0 0) sI sJ p0 p1 (rf_cut ((sI 2) (Int32.toNatClampNeg p0)) p2) (-1)).1, (rf_link (va_up sc 0 0) sI sJ p0 p1 (rf_cut ((sI 2) (Int32.toNatClampNeg p0)) p2) (-1)).2.1, (rf_link (va_up sc 0 0) sI sJ p0 p1 (rf_cut ((sI 2) (Int32.toNatClampNeg p0)) p2) (-1)).2.2.1, (rf_link (va_up sc 0 0) sI sJ p0 p1 (rf_cut ((sI 2) (Int32.toNatClampNeg p0)) p2) (-1)).2.2.2) from ((if_neg h1).trans ((if_neg h2).trans ((if_neg h3).trans (if_pos h4))))) (by rw [ht]; exact hP) (hS.F ht)) hS.2.2 dX6_step_71
        · refine lv_aload_n hx hb dX6_step_52 rfl (lv_at hl 1 rfl) ?_
          refine lv_iconst (v := 2) hx hb dX6_step_53 (by decide) ?_
          refine rq_call (va_runV (C := RX6) (As := [.int 2]) (rest := []) ⟨hx, hb, hml, hown, hts⟩ (mr_fail l dC dI cyI cyJ r ad (va_up sc 0 0) sI sJ 2 hD) (cwV 1 hts gX6_step_X6_fail rfl rfl rfl (by decide +kernel) ⟨Nat.le_of_ble_eq_true rfl, Nat.le_of_ble_eq_true rfl⟩) ⟨rq_blind, va_recv hK hP (ci := 5) (q0 := 0) rfl rfl, rq_pre hP hK⟩ rfl rfl hl.1 rfl (lv_room (Nat.le_of_ble_eq_true rfl)) dX6_step_54 ⟨Nat.zero_le _, Nat.zero_le _⟩) hS (fun q h => h) (fun H locs hP hz hk hS => ?_)
          have hD := pq_Dcongr (ws' := (rW cyI cyJ r ad (va_up sc 0 2) sI sJ)) hD rfl
          have hP : va_P (dC, dI) vwCl (rW cyI cyJ r ad (va_up sc 0 2) sI sJ) H := hP
          have hD : va_D (rA r ad) (rW cyI cyJ r ad (va_up sc 0 2) sI sJ) := hD
          exact W.iret (v := 0) hx hb hr (fun t ht hW => rq_end (con := Value.int) (show rf_step sc sI sJ p0 p1 p2 = (0, (va_up sc 0 2), sI, sJ) from ((if_neg h1).trans ((if_neg h2).trans ((if_neg h3).trans (if_neg h4))))) (by rw [ht]; exact hP) (hS.F ht)) hS.2.2 dX6_step_57
  · refine lv_aload_n hx hb dX6_step_13 rfl (lv_at hl 0 rfl) ?_
    refine lv_iconst (v := 1) hx hb dX6_step_14 (by decide) ?_
    refine rq_call (va_runV (C := RX6) (As := [.int 1]) (rest := []) ⟨hx, hb, hml, hown, hts⟩ (mr_fail l dC dI cyI cyJ r ad (va_up sc 0 0) sI sJ 1 hD) (cwV 1 hts gX6_step_X6_fail rfl rfl rfl (by decide +kernel) ⟨Nat.le_of_ble_eq_true rfl, Nat.le_of_ble_eq_true rfl⟩) ⟨rq_blind, va_recv hK hP (ci := 5) (q0 := 0) rfl rfl, rq_pre hP hK⟩ rfl rfl hl.1 rfl (lv_room (Nat.le_of_ble_eq_true rfl)) dX6_step_15 ⟨Nat.zero_le _, Nat.zero_le _⟩) hS (fun q h => h) (fun H locs hP hz hk hS => ?_)
    have hD := pq_Dcongr (ws' := (rW cyI cyJ r ad (va_up sc 0 1) sI sJ)) hD rfl
    have hP : va_P (dC, dI) vwCl (rW cyI cyJ r ad (va_up sc 0 1) sI sJ) H := hP
    have hD : va_D (rA r ad) (rW cyI cyJ r ad (va_up sc 0 1) sI sJ) := hD
    exact W.iret (v := 0) hx hb hr (fun t ht hW => rq_end (con := Value.int) (show rf_step sc sI sJ p0 p1 p2 = (0, (va_up sc 0 1), sI, sJ) from (if_pos h1)) (by rw [ht]; exact hP) (hS.F ht)) hS.2.2 dX6_step_18
def rf_follow (sc : Nat → Int32) (sI : Nat → Nat → Int32) (sJ : Nat → Nat → Int64) (p0 : Int32) (p1 : Int32) (p2 : Int32) : rS Int32 := if (rf_isInstrument (va_up sc 0 0) sI sJ p0) = 0 then (0, (va_up sc 0 1), sI, sJ) else (if (rf_isInstrument (va_up sc 0 0) sI sJ p2) = 0 then (0, (va_up sc 0 1), sI, sJ) else (if (rf_isStep ((sI 2) (Int32.toNatClampNeg p0)) p1) = 0 then (0, (va_up sc 0 2), sI, sJ) else (if (rf_takes p1) = 0 then (0, (va_up sc 0 2), sI, sJ) else (if ((sI 2) (Int32.toNatClampNeg p2)) = ((sI 2) (Int32.toNatClampNeg p0)) then ((rf_link (va_up sc 0 0) sI sJ p0 p1 0 p2).1, (rf_link (va_up sc 0 0) sI sJ p0 p1 0 p2).2.1, (rf_link (va_up sc 0 0) sI sJ p0 p1 0 p2).2.2.1, (rf_link (va_up sc 0 0) sI sJ p0 p1 0 p2).2.2.2) else ((0, (va_up sc 0 2), sI, sJ))))))
set_option maxHeartbeats 4000000 in
set_option maxRecDepth 100000 in
theorem mr_follow (l : Launch) (dC : Nat → ClassId) (dI : Nat → Nat → Nat) (cyI cyJ : ClassId) (r : Nat) (ad : Nat → Nat) (sc : Nat → Int32) (sI : Nat → Nat → Int32) (sJ : Nat → Nat → Int64) (p0 : Int32) (p1 : Int32) (p2 : Int32) (hD : va_D (rA r ad) (rW cyI cyJ r ad sc sI sJ)) (hg1 : ¬ ((rf_isInstrument (va_up sc 0 0) sI sJ p0) = 0) → ¬ ((rf_isInstrument (va_up sc 0 0) sI sJ p2) = 0) → vp_in p0 8) (hg2 : ¬ ((rf_isInstrument (va_up sc 0 0) sI sJ p0) = 0) → ¬ ((rf_isInstrument (va_up sc 0 0) sI sJ p2) = 0) → ¬ ((rf_isStep ((sI 2) (Int32.toNatClampNeg p0)) p1) = 0) → ¬ ((rf_takes p1) = 0) → vp_in p2 8) (hg3 : ¬ ((rf_isInstrument (va_up sc 0 0) sI sJ p0) = 0) → ¬ ((rf_isInstrument (va_up sc 0 0) sI sJ p2) = 0) → ¬ ((rf_isStep ((sI 2) (Int32.toNatClampNeg p0)) p1) = 0) → ¬ ((rf_takes p1) = 0) → (((sI 2) (Int32.toNatClampNeg p2)) = ((sI 2) (Int32.toNatClampNeg p0))) → (vp_in p0 8)) (hg4 : ¬ ((rf_isInstrument (va_up sc 0 0) sI sJ p0) = 0) → ¬ ((rf_isInstrument (va_up sc 0 0) sI sJ p2) = 0) → ¬ ((rf_isStep ((sI 2) (Int32.toNatClampNeg p0)) p1) = 0) → ¬ ((rf_takes p1) = 0) → (((sI 2) (Int32.toNatClampNeg p2)) = ((sI 2) (Int32.toNatClampNeg p0))) → (¬ (((sI 3) (Int32.toNatClampNeg p0)) = 6) → vp_in ((6 * p0) + ((sI 3) (Int32.toNatClampNeg p0))) 48)) : Met l yX6_follow wsX6_follow ({ frames := 2, cells := 0, slots := 0, locals := 47 }) (rq_Pc (dC, dI) cyI cyJ r ad sc sI sJ [.ref r, .int p0, .int p1, .int p2]) (rq_Q (dC, dI) cyI cyJ r ad Value.int (rf_follow sc sI sJ p0 p1 p2)) 0 0 (rA r ad) := by
  refine Met.ofW (cc := cX6_follow) (maxL := 4) (ret := (some .int)) (by decide) rfl ?_
  intro p e s m args below meth c s₁ B hml hv
  obtain ⟨rfl, hP, hK⟩ := hv
  have hx := B.exec
  have hb := B.bytes
  have hr := B.returns
  have hts := atoms_spec (ws := wsX6_follow) B.pre
  have hown : s.vm.findClass RX6 = some m.cls := findClass_of_methodNamed B.named
  have hlocks := B.notSynchronized
  have hin : ∀ w ∈ wsX60, w ∈ wsX6_follow := by decide +kernel
  have hS : va_S (rA r ad) s.heap s.heap [] := va_S.rf
  have hl := lv_entry ([.ref r, .int p0, .int p1, .int p2]) (n := 4) (Nat.le_of_ble_eq_true rfl)
  rw [lg_entry_eq]
  generalize (lg_sl ([.ref r, .int p0, .int p1, .int p2]) ++ List.replicate (4 - (lg_sl ([.ref r, .int p0, .int p1, .int p2])).length) Slot.unset).toArray = ls at hl ⊢
  have hl : lv_has ls 4 [(0, .ref r), (1, .int p0), (2, .int p1), (3, .int p2)] := hl
  refine lv_aload_n hx hb dX6_follow_0 rfl (lv_at hl 0 rfl) ?_
  refine lv_iconst (v := 0) hx hb dX6_follow_1 (by decide) ?_
  refine va_put (D := (dC, dI)) (ci := 5) (v := .int 0) (ty := .int) (C := RX6) (T := TX6) (N := 19) hx hb hts hin tyX6 tyX6_ok nmX6 hown hK hP hD hS 0 rfl rfl 0 (by decide) (hts (.fieldLink RX6 53 "WeatherMastModel" "thrown" "I") (by decide +kernel)) (fun _ h9 => h9) rfl (by decide +kernel) rfl rfl (Nat.le_of_ble_eq_true rfl) dX6_follow_2 (fun H locs hP hD hS => ?_)
  have hP : va_P (dC, dI) vwCl (rW cyI cyJ r ad (va_up sc 0 0) sI sJ) H := hP
  have hD : va_D (rA r ad) (rW cyI cyJ r ad (va_up sc 0 0) sI sJ) := hD
  refine lv_aload_n hx hb dX6_follow_5 rfl (lv_at hl 0 rfl) ?_
  refine lv_iload_n hx hb dX6_follow_6 rfl (lv_at hl 1 rfl) ?_
  refine pq_call (va_runV (C := RX6) (As := [.int p0]) (rest := []) ⟨hx, hb, hml, hown, hts⟩ (mr_isInstrument l dC dI cyI cyJ r ad (va_up sc 0 0) sI sJ p0) (cwV 1 hts gX6_follow_X6_isInstrument rfl rfl rfl (by decide +kernel) ⟨Nat.le_of_ble_eq_true rfl, Nat.le_of_ble_eq_true rfl⟩) ⟨rq_blind, va_recv hK hP (ci := 5) (q0 := 0) rfl rfl, rq_pre hP hK⟩ rfl rfl hl.1 rfl (lv_room (Nat.le_of_ble_eq_true rfl)) dX6_follow_7 ⟨Nat.zero_le _, Nat.zero_le _⟩) ?_
  refine lv_if_eq (tgt := 21) hx hb dX6_follow_10 (by decide) (fun h1 => ?_) (fun h1 => ?_)
  · refine lv_aload_n hx hb dX6_follow_21 rfl (lv_at hl 0 rfl) ?_
    refine lv_iconst (v := 1) hx hb dX6_follow_22 (by decide) ?_
    refine rq_call (va_runV (C := RX6) (As := [.int 1]) (rest := []) ⟨hx, hb, hml, hown, hts⟩ (mr_fail l dC dI cyI cyJ r ad (va_up sc 0 0) sI sJ 1 hD) (cwV 1 hts gX6_follow_X6_fail rfl rfl rfl (by decide +kernel) ⟨Nat.le_of_ble_eq_true rfl, Nat.le_of_ble_eq_true rfl⟩) ⟨rq_blind, va_recv hK hP (ci := 5) (q0 := 0) rfl rfl, rq_pre hP hK⟩ rfl rfl hl.1 rfl (lv_room (Nat.le_of_ble_eq_true rfl)) dX6_follow_23 ⟨Nat.zero_le _, Nat.zero_le _⟩) hS (fun q h => h) (fun H locs hP hz hk hS => ?_)
    have hD := pq_Dcongr (ws' := (rW cyI cyJ r ad (va_up sc 0 1) sI sJ)) hD rfl
    have hP : va_P (dC, dI) vwCl (rW cyI cyJ r ad (va_up sc 0 1) sI sJ) H := hP
    have hD : va_D (rA r ad) (rW cyI cyJ r ad (va_up sc 0 1) sI sJ) := hD
    exact W.iret (v := 0) hx hb hr (fun t ht hW => rq_end (con := Value.int) (show rf_follow sc sI sJ p0 p1 p2 = (0, (va_up sc 0 1), sI, sJ) from (if_pos h1)) (by rw [ht]; exact hP) (hS.F ht)) hS.2.2 dX6_follow_26
  · refine lv_aload_n hx hb dX6_follow_13 rfl (lv_at hl 0 rfl) ?_
    refine lv_iload_n hx hb dX6_follow_14 rfl (lv_at hl 3 rfl) ?_
    refine pq_call (va_runV (C := RX6) (As := [.int p2]) (rest := []) ⟨hx, hb, hml, hown, hts⟩ (mr_isInstrument l dC dI cyI cyJ r ad (va_up sc 0 0) sI sJ p2) (cwV 1 hts gX6_follow_X6_isInstrument rfl rfl rfl (by decide +kernel) ⟨Nat.le_of_ble_eq_true rfl, Nat.le_of_ble_eq_true rfl⟩) ⟨rq_blind, va_recv hK hP (ci := 5) (q0 := 0) rfl rfl, rq_pre hP hK⟩ rfl rfl hl.1 rfl (lv_room (Nat.le_of_ble_eq_true rfl)) dX6_follow_15 ⟨Nat.zero_le _, Nat.zero_le _⟩) ?_
    refine lv_if_ne (tgt := 27) hx hb dX6_follow_18 (by decide) (fun h2 => ?_) (fun h2 => ?_)
    · refine lv_aload_n hx hb dX6_follow_27 rfl (lv_at hl 0 rfl) ?_
      refine va_get (D := (dC, dI)) (ci := 5) (v := .ref (ad 2)) (C := RX6) (T := TX6) (N := 19) hx hb hts hin hown hK hP 0 rfl rfl 2 (by decide) (hts (.fieldLink RX6 7 "WeatherMastModel" "sorts" "[I") (by decide +kernel)) (fun _ h9 => h9) rfl dX6_follow_28 ?_
      refine lv_iload_n hx hb dX6_follow_31 rfl (lv_at hl 1 rfl) ?_
      refine va_iald (f := (sI 2)) hx hb hK hP 1 0 rfl rfl (hg1 h1 h2) dX6_follow_32 ?_
      refine lv_iload_n hx hb dX6_follow_33 rfl (lv_at hl 2 rfl) ?_
      refine pq_call (va_runS (As := [.int ((sI 2) (Int32.toNatClampNeg p0)), .int p1]) (rest := []) ⟨hx, hb, hml, hown, hts⟩ (mt_X6_isStep l ((sI 2) (Int32.toNatClampNeg p0)) p1) (va_cwS 2 hts gX6_follow_X6_isStep rfl rfl rfl (by decide +kernel) ⟨Nat.le_of_ble_eq_true rfl, Nat.le_of_ble_eq_true rfl⟩) ⟨fun a U g mk q => q, fun U hU hW => ⟨rfl, trivial⟩⟩ rfl rfl hl.1 rfl (lv_room (Nat.le_of_ble_eq_true rfl)) dX6_follow_34 ⟨Nat.zero_le _, Nat.zero_le _⟩) ?_
      refine lv_if_eq (tgt := 62) hx hb dX6_follow_37 (by decide) (fun h3 => ?_) (fun h3 => ?_)
      · refine lv_aload_n hx hb dX6_follow_62 rfl (lv_at hl 0 rfl) ?_
        refine lv_iconst (v := 2) hx hb dX6_follow_63 (by decide) ?_
        refine rq_call (va_runV (C := RX6) (As := [.int 2]) (rest := []) ⟨hx, hb, hml, hown, hts⟩ (mr_fail l dC dI cyI cyJ r ad (va_up sc 0 0) sI sJ 2 hD) (cwV 1 hts gX6_follow_X6_fail rfl rfl rfl (by decide +kernel) ⟨Nat.le_of_ble_eq_true rfl, Nat.le_of_ble_eq_true rfl⟩) ⟨rq_blind, va_recv hK hP (ci := 5) (q0 := 0) rfl rfl, rq_pre hP hK⟩ rfl rfl hl.1 rfl (lv_room (Nat.le_of_ble_eq_true rfl)) dX6_follow_64 ⟨Nat.zero_le _, Nat.zero_le _⟩) hS (fun q h => h) (fun H locs hP hz hk hS => ?_)
        have hD := pq_Dcongr (ws' := (rW cyI cyJ r ad (va_up sc 0 2) sI sJ)) hD rfl
        have hP : va_P (dC, dI) vwCl (rW cyI cyJ r ad (va_up sc 0 2) sI sJ) H := hP
        have hD : va_D (rA r ad) (rW cyI cyJ r ad (va_up sc 0 2) sI sJ) := hD
        exact W.iret (v := 0) hx hb hr (fun t ht hW => rq_end (con := Value.int) (show rf_follow sc sI sJ p0 p1 p2 = (0, (va_up sc 0 2), sI, sJ) from ((if_neg h1).trans ((if_neg h2).trans (if_pos h3)))) (by rw [ht]; exact hP) (hS.F ht)) hS.2.2 dX6_follow_67
      · refine lv_iload_n hx hb dX6_follow_40 rfl (lv_at hl 2 rfl) ?_
        refine pq_call (va_runS (As := [.int p1]) (rest := []) ⟨hx, hb, hml, hown, hts⟩ (mt_X6_takes l p1) (va_cwS 1 hts gX6_follow_X6_takes rfl rfl rfl (by decide +kernel) ⟨Nat.le_of_ble_eq_true rfl, Nat.le_of_ble_eq_true rfl⟩) ⟨fun a U g mk q => q, fun U hU hW => ⟨rfl, trivial⟩⟩ rfl rfl hl.1 rfl (lv_room (Nat.le_of_ble_eq_true rfl)) dX6_follow_41 ⟨Nat.zero_le _, Nat.zero_le _⟩) ?_
        refine lv_if_eq (tgt := 62) hx hb dX6_follow_44 (by decide) (fun h4 => ?_) (fun h4 => ?_)
        · refine lv_aload_n hx hb dX6_follow_62 rfl (lv_at hl 0 rfl) ?_
          refine lv_iconst (v := 2) hx hb dX6_follow_63 (by decide) ?_
          refine rq_call (va_runV (C := RX6) (As := [.int 2]) (rest := []) ⟨hx, hb, hml, hown, hts⟩ (mr_fail l dC dI cyI cyJ r ad (va_up sc 0 0) sI sJ 2 hD) (cwV 1 hts gX6_follow_X6_fail rfl rfl rfl (by decide +kernel) ⟨Nat.le_of_ble_eq_true rfl, Nat.le_of_ble_eq_true rfl⟩) ⟨rq_blind, va_recv hK hP (ci := 5) (q0 := 0) rfl rfl, rq_pre hP hK⟩ rfl rfl hl.1 rfl (lv_room (Nat.le_of_ble_eq_true rfl)) dX6_follow_64 ⟨Nat.zero_le _, Nat.zero_le _⟩) hS (fun q h => h) (fun H locs hP hz hk hS => ?_)
          have hD := pq_Dcongr (ws' := (rW cyI cyJ r ad (va_up sc 0 2) sI sJ)) hD rfl
          have hP : va_P (dC, dI) vwCl (rW cyI cyJ r ad (va_up sc 0 2) sI sJ) H := hP
          have hD : va_D (rA r ad) (rW cyI cyJ r ad (va_up sc 0 2) sI sJ) := hD
          exact W.iret (v := 0) hx hb hr (fun t ht hW => rq_end (con := Value.int) (show rf_follow sc sI sJ p0 p1 p2 = (0, (va_up sc 0 2), sI, sJ) from ((if_neg h1).trans ((if_neg h2).trans ((if_neg h3).trans (if_pos h4))))) (by rw [ht]; exact hP) (hS.F ht)) hS.2.2 dX6_follow_67
        · refine lv_aload_n hx hb dX6_follow_47 rfl (lv_at hl 0 rfl) ?_
          refine va_get (D := (dC, dI)) (ci := 5) (v := .ref (ad 2)) (C := RX6) (T := TX6) (N := 19) hx hb hts hin hown hK hP 0 rfl rfl 2 (by decide) (hts (.fieldLink RX6 7 "WeatherMastModel" "sorts" "[I") (by decide +kernel)) (fun _ h9 => h9) rfl dX6_follow_48 ?_
          refine lv_iload_n hx hb dX6_follow_51 rfl (lv_at hl 3 rfl) ?_
          refine va_iald (f := (sI 2)) hx hb hK hP 1 0 rfl rfl (hg2 h1 h2 h3 h4) dX6_follow_52 ?_
          refine lv_aload_n hx hb dX6_follow_53 rfl (lv_at hl 0 rfl) ?_
          refine va_get (D := (dC, dI)) (ci := 5) (v := .ref (ad 2)) (C := RX6) (T := TX6) (N := 19) hx hb hts hin hown hK hP 0 rfl rfl 2 (by decide) (hts (.fieldLink RX6 7 "WeatherMastModel" "sorts" "[I") (by decide +kernel)) (fun _ h9 => h9) rfl dX6_follow_54 ?_
          refine lv_iload_n hx hb dX6_follow_57 rfl (lv_at hl 1 rfl) ?_
          refine va_iald (f := (sI 2)) hx hb hK hP 1 0 rfl rfl (hg1 h1 h2) dX6_follow_58 ?_
          refine lv_icmp_eq (tgt := 68) hx hb dX6_follow_59 (by decide) (fun h5 => ?_) (fun h5 => ?_)
          · refine lv_aload_n hx hb dX6_follow_68 rfl (lv_at hl 0 rfl) ?_
            refine lv_iload_n hx hb dX6_follow_69 rfl (lv_at hl 1 rfl) ?_
            refine lv_iload_n hx hb dX6_follow_70 rfl (lv_at hl 2 rfl) ?_
            refine lv_lconst (v := 0) hx hb dX6_follow_71 (by decide) ?_
            refine lv_iload_n hx hb dX6_follow_72 rfl (lv_at hl 3 rfl) ?_
            refine rq_call (va_runV (C := RX6) (As := [.int p0, .int p1, .long 0, .int p2]) (rest := []) ⟨hx, hb, hml, hown, hts⟩ (mr_link l dC dI cyI cyJ r ad (va_up sc 0 0) sI sJ p0 p1 0 p2 hD (hg3 h1 h2 h3 h4 h5) (hg4 h1 h2 h3 h4 h5)) (cwV 4 hts gX6_follow_X6_link rfl rfl rfl (by decide +kernel) ⟨Nat.le_of_ble_eq_true rfl, Nat.le_of_ble_eq_true rfl⟩) ⟨rq_blind, va_recv hK hP (ci := 5) (q0 := 0) rfl rfl, rq_pre hP hK⟩ rfl rfl hl.1 rfl (lv_room (Nat.le_of_ble_eq_true rfl)) dX6_follow_73 ⟨Nat.zero_le _, Nat.zero_le _⟩) hS (fun q h => h) (fun H locs hP hz hk hS => ?_)
            have hD := pq_Dcongr (ws' := (rW cyI cyJ r ad (rf_link (va_up sc 0 0) sI sJ p0 p1 0 p2).2.1 (rf_link (va_up sc 0 0) sI sJ p0 p1 0 p2).2.2.1 (rf_link (va_up sc 0 0) sI sJ p0 p1 0 p2).2.2.2)) hD rfl
            have hP : va_P (dC, dI) vwCl (rW cyI cyJ r ad (rf_link (va_up sc 0 0) sI sJ p0 p1 0 p2).2.1 (rf_link (va_up sc 0 0) sI sJ p0 p1 0 p2).2.2.1 (rf_link (va_up sc 0 0) sI sJ p0 p1 0 p2).2.2.2) H := hP
            have hD : va_D (rA r ad) (rW cyI cyJ r ad (rf_link (va_up sc 0 0) sI sJ p0 p1 0 p2).2.1 (rf_link (va_up sc 0 0) sI sJ p0 p1 0 p2).2.2.1 (rf_link (va_up sc 0 0) sI sJ p0 p1 0 p2).2.2.2) := hD
            exact W.iret (v := (rf_link (va_up sc 0 0) sI sJ p0 p1 0 p2).1) hx hb hr (fun t ht hW => rq_end (con := Value.int) (show rf_follow sc sI sJ p0 p1 p2 = ((rf_link (va_up sc 0 0) sI sJ p0 p1 0 p2).1, (rf_link (va_up sc 0 0) sI sJ p0 p1 0 p2).2.1, (rf_link (va_up sc 0 0) sI sJ p0 p1 0 p2).2.2.1, (rf_link (va_up sc 0 0) sI sJ p0 p1 0 p2).2.2.2) from ((if_neg h1).trans ((if_neg h2).trans ((if_neg h3).trans ((if_neg h4).trans (if_pos h5)))))) (by rw [ht]; exact hP) (hS.F ht)) hS.2.2 dX6_follow_76
          · refine lv_aload_n hx hb dX6_follow_62 rfl (lv_at hl 0 rfl) ?_
            refine lv_iconst (v := 2) hx hb dX6_follow_63 (by decide) ?_
            refine rq_call (va_runV (C := RX6) (As := [.int 2]) (rest := []) ⟨hx, hb, hml, hown, hts⟩ (mr_fail l dC dI cyI cyJ r ad (va_up sc 0 0) sI sJ 2 hD) (cwV 1 hts gX6_follow_X6_fail rfl rfl rfl (by decide +kernel) ⟨Nat.le_of_ble_eq_true rfl, Nat.le_of_ble_eq_true rfl⟩) ⟨rq_blind, va_recv hK hP (ci := 5) (q0 := 0) rfl rfl, rq_pre hP hK⟩ rfl rfl hl.1 rfl (lv_room (Nat.le_of_ble_eq_true rfl)) dX6_follow_64 ⟨Nat.zero_le _, Nat.zero_le _⟩) hS (fun q h => h) (fun H locs hP hz hk hS => ?_)
            have hD := pq_Dcongr (ws' := (rW cyI cyJ r ad (va_up sc 0 2) sI sJ)) hD rfl
            have hP : va_P (dC, dI) vwCl (rW cyI cyJ r ad (va_up sc 0 2) sI sJ) H := hP
            have hD : va_D (rA r ad) (rW cyI cyJ r ad (va_up sc 0 2) sI sJ) := hD
            exact W.iret (v := 0) hx hb hr (fun t ht hW => rq_end (con := Value.int) (show rf_follow sc sI sJ p0 p1 p2 = (0, (va_up sc 0 2), sI, sJ) from ((if_neg h1).trans ((if_neg h2).trans ((if_neg h3).trans ((if_neg h4).trans (if_neg h5)))))) (by rw [ht]; exact hP) (hS.F ht)) hS.2.2 dX6_follow_67
    · refine lv_aload_n hx hb dX6_follow_21 rfl (lv_at hl 0 rfl) ?_
      refine lv_iconst (v := 1) hx hb dX6_follow_22 (by decide) ?_
      refine rq_call (va_runV (C := RX6) (As := [.int 1]) (rest := []) ⟨hx, hb, hml, hown, hts⟩ (mr_fail l dC dI cyI cyJ r ad (va_up sc 0 0) sI sJ 1 hD) (cwV 1 hts gX6_follow_X6_fail rfl rfl rfl (by decide +kernel) ⟨Nat.le_of_ble_eq_true rfl, Nat.le_of_ble_eq_true rfl⟩) ⟨rq_blind, va_recv hK hP (ci := 5) (q0 := 0) rfl rfl, rq_pre hP hK⟩ rfl rfl hl.1 rfl (lv_room (Nat.le_of_ble_eq_true rfl)) dX6_follow_23 ⟨Nat.zero_le _, Nat.zero_le _⟩) hS (fun q h => h) (fun H locs hP hz hk hS => ?_)
      have hD := pq_Dcongr (ws' := (rW cyI cyJ r ad (va_up sc 0 1) sI sJ)) hD rfl
      have hP : va_P (dC, dI) vwCl (rW cyI cyJ r ad (va_up sc 0 1) sI sJ) H := hP
      have hD : va_D (rA r ad) (rW cyI cyJ r ad (va_up sc 0 1) sI sJ) := hD
      exact W.iret (v := 0) hx hb hr (fun t ht hW => rq_end (con := Value.int) (show rf_follow sc sI sJ p0 p1 p2 = (0, (va_up sc 0 1), sI, sJ) from ((if_neg h1).trans (if_pos h2))) (by rw [ht]; exact hP) (hS.F ht)) hS.2.2 dX6_follow_26
def rf_limits (sc : Nat → Int32) (sI : Nat → Nat → Int32) (sJ : Nat → Nat → Int64) (p0 : Int32) (p1 : Int64) (p2 : Int64) : rS Int32 := if (rf_isInstrument (va_up sc 0 0) sI sJ p0) = 0 then if (0 : Int32) ≤ 0 then (0, (va_up sc 0 1), sI, sJ) else ((1, (va_up sc 0 1), sI, sJ)) else (if (rf_isNone ((sI 2) (Int32.toNatClampNeg p0)) p1) = 0 then if (rf_isNone ((sI 2) (Int32.toNatClampNeg p0)) p2) = 0 then if (rf_isAbove ((sI 2) (Int32.toNatClampNeg p0)) ((vp_updL (sJ 7) (Int32.toNatClampNeg p0) (rf_cut ((sI 2) (Int32.toNatClampNeg p0)) p1)) (Int32.toNatClampNeg p0)) ((vp_updL (sJ 8) (Int32.toNatClampNeg p0) (rf_cut ((sI 2) (Int32.toNatClampNeg p0)) p2)) (Int32.toNatClampNeg p0))) = 0 then (1, (va_up sc 0 0), sI, (va_up (va_up sJ 7 (vp_updL (sJ 7) (Int32.toNatClampNeg p0) (rf_cut ((sI 2) (Int32.toNatClampNeg p0)) p1))) 8 (vp_updL (sJ 8) (Int32.toNatClampNeg p0) (rf_cut ((sI 2) (Int32.toNatClampNeg p0)) p2)))) else ((0, (va_up sc 0 0), sI, (va_up (va_up sJ 7 (vp_updL (sJ 7) (Int32.toNatClampNeg p0) (rf_cut ((sI 2) (Int32.toNatClampNeg p0)) p1))) 8 (vp_updL (sJ 8) (Int32.toNatClampNeg p0) (rf_cut ((sI 2) (Int32.toNatClampNeg p0)) p2))))) else (if (0 : Int32) ≤ 0 then (0, (va_up sc 0 2), sI, sJ) else ((1, (va_up sc 0 2), sI, sJ))) else (if (0 : Int32) ≤ 0 then (0, (va_up sc 0 2), sI, sJ) else ((1, (va_up sc 0 2), sI, sJ))))
set_option maxHeartbeats 4000000 in
set_option maxRecDepth 100000 in
theorem mr_limits (l : Launch) (dC : Nat → ClassId) (dI : Nat → Nat → Nat) (cyI cyJ : ClassId) (r : Nat) (ad : Nat → Nat) (sc : Nat → Int32) (sI : Nat → Nat → Int32) (sJ : Nat → Nat → Int64) (p0 : Int32) (p1 : Int64) (p2 : Int64) (hD : va_D (rA r ad) (rW cyI cyJ r ad sc sI sJ)) (hg1 : ¬ ((rf_isInstrument (va_up sc 0 0) sI sJ p0) = 0) → vp_in p0 8) : Met l yX6_limits wsX6_limits ({ frames := 5, cells := 0, slots := 0, locals := 114 }) (rq_Pc (dC, dI) cyI cyJ r ad sc sI sJ [.ref r, .int p0, .long p1, .long p2]) (rq_Q (dC, dI) cyI cyJ r ad Value.int (rf_limits sc sI sJ p0 p1 p2)) 0 0 (rA r ad) := by
  refine Met.ofW (cc := cX6_limits) (maxL := 7) (ret := (some .boolean)) (by decide) rfl ?_
  intro p e s m args below meth c s₁ B hml hv
  obtain ⟨rfl, hP, hK⟩ := hv
  have hx := B.exec
  have hb := B.bytes
  have hr := B.returns
  have hts := atoms_spec (ws := wsX6_limits) B.pre
  have hown : s.vm.findClass RX6 = some m.cls := findClass_of_methodNamed B.named
  have hlocks := B.notSynchronized
  have hin : ∀ w ∈ wsX60, w ∈ wsX6_limits := by decide +kernel
  have hS : va_S (rA r ad) s.heap s.heap [] := va_S.rf
  have hl := lv_entry ([.ref r, .int p0, .long p1, .long p2]) (n := 7) (Nat.le_of_ble_eq_true rfl)
  rw [lg_entry_eq]
  generalize (lg_sl ([.ref r, .int p0, .long p1, .long p2]) ++ List.replicate (7 - (lg_sl ([.ref r, .int p0, .long p1, .long p2])).length) Slot.unset).toArray = ls at hl ⊢
  have hl : lv_has ls 7 [(0, .ref r), (1, .int p0), (2, .long p1), (4, .long p2)] := hl
  refine lv_aload_n hx hb dX6_limits_0 rfl (lv_at hl 0 rfl) ?_
  refine lv_iconst (v := 0) hx hb dX6_limits_1 (by decide) ?_
  refine va_put (D := (dC, dI)) (ci := 5) (v := .int 0) (ty := .int) (C := RX6) (T := TX6) (N := 19) hx hb hts hin tyX6 tyX6_ok nmX6 hown hK hP hD hS 0 rfl rfl 0 (by decide) (hts (.fieldLink RX6 53 "WeatherMastModel" "thrown" "I") (by decide +kernel)) (fun _ h9 => h9) rfl (by decide +kernel) rfl rfl (Nat.le_of_ble_eq_true rfl) dX6_limits_2 (fun H locs hP hD hS => ?_)
  have hP : va_P (dC, dI) vwCl (rW cyI cyJ r ad (va_up sc 0 0) sI sJ) H := hP
  have hD : va_D (rA r ad) (rW cyI cyJ r ad (va_up sc 0 0) sI sJ) := hD
  refine lv_aload_n hx hb dX6_limits_5 rfl (lv_at hl 0 rfl) ?_
  refine lv_iload_n hx hb dX6_limits_6 rfl (lv_at hl 1 rfl) ?_
  refine pq_call (va_runV (C := RX6) (As := [.int p0]) (rest := []) ⟨hx, hb, hml, hown, hts⟩ (mr_isInstrument l dC dI cyI cyJ r ad (va_up sc 0 0) sI sJ p0) (cwV 1 hts gX6_limits_X6_isInstrument rfl rfl rfl (by decide +kernel) ⟨Nat.le_of_ble_eq_true rfl, Nat.le_of_ble_eq_true rfl⟩) ⟨rq_blind, va_recv hK hP (ci := 5) (q0 := 0) rfl rfl, rq_pre hP hK⟩ rfl rfl hl.1 rfl (lv_room (Nat.le_of_ble_eq_true rfl)) dX6_limits_7 ⟨Nat.zero_le _, Nat.zero_le _⟩) ?_
  refine lv_if_ne (tgt := 27) hx hb dX6_limits_10 (by decide) (fun h1 => ?_) (fun h1 => ?_)
  · refine lv_aload_n hx hb dX6_limits_27 rfl (lv_at hl 0 rfl) ?_
    refine va_get (D := (dC, dI)) (ci := 5) (v := .ref (ad 2)) (C := RX6) (T := TX6) (N := 19) hx hb hts hin hown hK hP 0 rfl rfl 2 (by decide) (hts (.fieldLink RX6 7 "WeatherMastModel" "sorts" "[I") (by decide +kernel)) (fun _ h9 => h9) rfl dX6_limits_28 ?_
    refine lv_iload_n hx hb dX6_limits_31 rfl (lv_at hl 1 rfl) ?_
    refine va_iald (f := (sI 2)) hx hb hK hP 1 0 rfl rfl (hg1 h1) dX6_limits_32 ?_
    refine lv_istore (lv' := [(6, .int ((sI 2) (Int32.toNatClampNeg p0))), (0, .ref r), (1, .int p0), (2, .long p1), (4, .long p2)]) hx hb dX6_limits_33 hl (by decide) rfl (fun ls hl => ?_)
    refine lv_iload hx hb dX6_limits_35 (lv_at hl 0 rfl) ?_
    refine lv_lload_n hx hb dX6_limits_37 rfl (lv_at hl 3 rfl) ?_
    refine pq_call (va_runS (As := [.int ((sI 2) (Int32.toNatClampNeg p0)), .long p1]) (rest := []) ⟨hx, hb, hml, hown, hts⟩ (mt_X6_isNone l ((sI 2) (Int32.toNatClampNeg p0)) p1) (va_cwS 2 hts gX6_limits_X6_isNone rfl rfl rfl (by decide +kernel) ⟨Nat.le_of_ble_eq_true rfl, Nat.le_of_ble_eq_true rfl⟩) ⟨fun a U g mk q => q, fun U hU hW => ⟨rfl, trivial⟩⟩ rfl rfl hl.1 rfl (lv_room (Nat.le_of_ble_eq_true rfl)) dX6_limits_38 ⟨Nat.zero_le _, Nat.zero_le _⟩) ?_
    refine lv_if_ne (tgt := 54) hx hb dX6_limits_41 (by decide) (fun h2 => ?_) (fun h2 => ?_)
    · refine lv_aload_n hx hb dX6_limits_54 rfl (lv_at hl 1 rfl) ?_
      refine lv_iconst (v := 2) hx hb dX6_limits_55 (by decide) ?_
      refine rq_call (va_runV (C := RX6) (As := [.int 2]) (rest := []) ⟨hx, hb, hml, hown, hts⟩ (mr_fail l dC dI cyI cyJ r ad (va_up sc 0 0) sI sJ 2 hD) (cwV 1 hts gX6_limits_X6_fail rfl rfl rfl (by decide +kernel) ⟨Nat.le_of_ble_eq_true rfl, Nat.le_of_ble_eq_true rfl⟩) ⟨rq_blind, va_recv hK hP (ci := 5) (q0 := 0) rfl rfl, rq_pre hP hK⟩ rfl rfl hl.1 rfl (lv_room (Nat.le_of_ble_eq_true rfl)) dX6_limits_56 ⟨Nat.zero_le _, Nat.zero_le _⟩) hS (fun q h => h) (fun H locs hP hz hk hS => ?_)
      have hD := pq_Dcongr (ws' := (rW cyI cyJ r ad (va_up sc 0 2) sI sJ)) hD rfl
      have hP : va_P (dC, dI) vwCl (rW cyI cyJ r ad (va_up sc 0 2) sI sJ) H := hP
      have hD : va_D (rA r ad) (rW cyI cyJ r ad (va_up sc 0 2) sI sJ) := hD
      refine lv_if_le (tgt := 66) hx hb dX6_limits_59 (by decide) (fun h3 => ?_) (fun h3 => ?_)
      · refine lv_iconst (v := 0) hx hb dX6_limits_66 (by decide) ?_
        exact W.zret (v := 0) hx hb hr (by first | rfl | exact pq_nz) (fun t ht hW => rq_end (con := Value.int) (show rf_limits sc sI sJ p0 p1 p2 = (0, (va_up sc 0 2), sI, sJ) from ((if_neg h1).trans ((if_neg h2).trans (if_pos h3)))) (by rw [ht]; exact hP) (hS.F ht)) hS.2.2 dX6_limits_67
      · refine lv_iconst (v := 1) hx hb dX6_limits_62 (by decide) ?_
        refine lv_goto (tgt := 67) hx hb dX6_limits_63 (by decide) ?_
        exact W.zret (v := 1) hx hb hr (by first | rfl | exact pq_nz) (fun t ht hW => rq_end (con := Value.int) (show rf_limits sc sI sJ p0 p1 p2 = (1, (va_up sc 0 2), sI, sJ) from ((if_neg h1).trans ((if_neg h2).trans (if_neg h3)))) (by rw [ht]; exact hP) (hS.F ht)) hS.2.2 dX6_limits_67
    · refine lv_iload hx hb dX6_limits_44 (lv_at hl 0 rfl) ?_
      refine lv_lload hx hb dX6_limits_46 (lv_at hl 4 rfl) ?_
      refine pq_call (va_runS (As := [.int ((sI 2) (Int32.toNatClampNeg p0)), .long p2]) (rest := []) ⟨hx, hb, hml, hown, hts⟩ (mt_X6_isNone l ((sI 2) (Int32.toNatClampNeg p0)) p2) (va_cwS 2 hts gX6_limits_X6_isNone rfl rfl rfl (by decide +kernel) ⟨Nat.le_of_ble_eq_true rfl, Nat.le_of_ble_eq_true rfl⟩) ⟨fun a U g mk q => q, fun U hU hW => ⟨rfl, trivial⟩⟩ rfl rfl hl.1 rfl (lv_room (Nat.le_of_ble_eq_true rfl)) dX6_limits_48 ⟨Nat.zero_le _, Nat.zero_le _⟩) ?_
      refine lv_if_eq (tgt := 68) hx hb dX6_limits_51 (by decide) (fun h4 => ?_) (fun h4 => ?_)
      · refine lv_aload_n hx hb dX6_limits_68 rfl (lv_at hl 1 rfl) ?_
        refine va_get (D := (dC, dI)) (ci := 5) (v := .ref (ad 7)) (C := RX6) (T := TX6) (N := 19) hx hb hts hin hown hK hP 0 rfl rfl 7 (by decide) (hts (.fieldLink RX6 26 "WeatherMastModel" "lows" "[J") (by decide +kernel)) (fun _ h9 => h9) rfl dX6_limits_69 ?_
        refine lv_iload_n hx hb dX6_limits_72 rfl (lv_at hl 2 rfl) ?_
        refine lv_iload hx hb dX6_limits_73 (lv_at hl 0 rfl) ?_
        refine lv_lload_n hx hb dX6_limits_75 rfl (lv_at hl 3 rfl) ?_
        refine pq_call (va_runS (As := [.int ((sI 2) (Int32.toNatClampNeg p0)), .long p1]) (rest := [.int p0, .ref (ad 7)]) ⟨hx, hb, hml, hown, hts⟩ (mt_X6_cut l ((sI 2) (Int32.toNatClampNeg p0)) p1) (va_cwS 2 hts gX6_limits_X6_cut rfl rfl rfl (by decide +kernel) ⟨Nat.le_of_ble_eq_true rfl, Nat.le_of_ble_eq_true rfl⟩) ⟨fun a U g mk q => q, fun U hU hW => ⟨rfl, trivial⟩⟩ rfl rfl hl.1 rfl (lv_room (Nat.le_of_ble_eq_true rfl)) dX6_limits_76 ⟨Nat.zero_le _, Nat.zero_le _⟩) ?_
        refine va_last (f := (sJ 7)) hx hb hK hP hD hS 6 1 rfl rfl (hg1 h1) dX6_limits_79 (fun H locs hP hD hS => ?_)
        have hP : va_P (dC, dI) vwCl (rW cyI cyJ r ad (va_up sc 0 0) sI (va_up sJ 7 (vp_updL (sJ 7) (Int32.toNatClampNeg p0) (rf_cut ((sI 2) (Int32.toNatClampNeg p0)) p1)))) H := hP
        have hD : va_D (rA r ad) (rW cyI cyJ r ad (va_up sc 0 0) sI (va_up sJ 7 (vp_updL (sJ 7) (Int32.toNatClampNeg p0) (rf_cut ((sI 2) (Int32.toNatClampNeg p0)) p1)))) := hD
        refine lv_aload_n hx hb dX6_limits_80 rfl (lv_at hl 1 rfl) ?_
        refine va_get (D := (dC, dI)) (ci := 5) (v := .ref (ad 8)) (C := RX6) (T := TX6) (N := 19) hx hb hts hin hown hK hP 0 rfl rfl 8 (by decide) (hts (.fieldLink RX6 29 "WeatherMastModel" "highs" "[J") (by decide +kernel)) (fun _ h9 => h9) rfl dX6_limits_81 ?_
        refine lv_iload_n hx hb dX6_limits_84 rfl (lv_at hl 2 rfl) ?_
        refine lv_iload hx hb dX6_limits_85 (lv_at hl 0 rfl) ?_
        refine lv_lload hx hb dX6_limits_87 (lv_at hl 4 rfl) ?_
        refine pq_call (va_runS (As := [.int ((sI 2) (Int32.toNatClampNeg p0)), .long p2]) (rest := [.int p0, .ref (ad 8)]) ⟨hx, hb, hml, hown, hts⟩ (mt_X6_cut l ((sI 2) (Int32.toNatClampNeg p0)) p2) (va_cwS 2 hts gX6_limits_X6_cut rfl rfl rfl (by decide +kernel) ⟨Nat.le_of_ble_eq_true rfl, Nat.le_of_ble_eq_true rfl⟩) ⟨fun a U g mk q => q, fun U hU hW => ⟨rfl, trivial⟩⟩ rfl rfl hl.1 rfl (lv_room (Nat.le_of_ble_eq_true rfl)) dX6_limits_89 ⟨Nat.zero_le _, Nat.zero_le _⟩) ?_
        refine va_last (f := (sJ 8)) hx hb hK hP hD hS 7 1 rfl rfl (hg1 h1) dX6_limits_92 (fun H locs hP hD hS => ?_)
        have hP : va_P (dC, dI) vwCl (rW cyI cyJ r ad (va_up sc 0 0) sI (va_up (va_up sJ 7 (vp_updL (sJ 7) (Int32.toNatClampNeg p0) (rf_cut ((sI 2) (Int32.toNatClampNeg p0)) p1))) 8 (vp_updL (sJ 8) (Int32.toNatClampNeg p0) (rf_cut ((sI 2) (Int32.toNatClampNeg p0)) p2)))) H := hP
        have hD : va_D (rA r ad) (rW cyI cyJ r ad (va_up sc 0 0) sI (va_up (va_up sJ 7 (vp_updL (sJ 7) (Int32.toNatClampNeg p0) (rf_cut ((sI 2) (Int32.toNatClampNeg p0)) p1))) 8 (vp_updL (sJ 8) (Int32.toNatClampNeg p0) (rf_cut ((sI 2) (Int32.toNatClampNeg p0)) p2)))) := hD
        refine lv_iload hx hb dX6_limits_93 (lv_at hl 0 rfl) ?_
        refine lv_aload_n hx hb dX6_limits_95 rfl (lv_at hl 1 rfl) ?_
        refine va_get (D := (dC, dI)) (ci := 5) (v := .ref (ad 7)) (C := RX6) (T := TX6) (N := 19) hx hb hts hin hown hK hP 0 rfl rfl 7 (by decide) (hts (.fieldLink RX6 26 "WeatherMastModel" "lows" "[J") (by decide +kernel)) (fun _ h9 => h9) rfl dX6_limits_96 ?_
        refine lv_iload_n hx hb dX6_limits_99 rfl (lv_at hl 2 rfl) ?_
        refine va_lald (f := (vp_updL (sJ 7) (Int32.toNatClampNeg p0) (rf_cut ((sI 2) (Int32.toNatClampNeg p0)) p1))) hx hb hK hP 6 1 rfl rfl (hg1 h1) dX6_limits_100 ?_
        refine lv_aload_n hx hb dX6_limits_101 rfl (lv_at hl 1 rfl) ?_
        refine va_get (D := (dC, dI)) (ci := 5) (v := .ref (ad 8)) (C := RX6) (T := TX6) (N := 19) hx hb hts hin hown hK hP 0 rfl rfl 8 (by decide) (hts (.fieldLink RX6 29 "WeatherMastModel" "highs" "[J") (by decide +kernel)) (fun _ h9 => h9) rfl dX6_limits_102 ?_
        refine lv_iload_n hx hb dX6_limits_105 rfl (lv_at hl 2 rfl) ?_
        refine va_lald (f := (vp_updL (sJ 8) (Int32.toNatClampNeg p0) (rf_cut ((sI 2) (Int32.toNatClampNeg p0)) p2))) hx hb hK hP 7 1 rfl rfl (hg1 h1) dX6_limits_106 ?_
        refine pq_call (va_runS (As := [.int ((sI 2) (Int32.toNatClampNeg p0)), .long ((vp_updL (sJ 7) (Int32.toNatClampNeg p0) (rf_cut ((sI 2) (Int32.toNatClampNeg p0)) p1)) (Int32.toNatClampNeg p0)), .long ((vp_updL (sJ 8) (Int32.toNatClampNeg p0) (rf_cut ((sI 2) (Int32.toNatClampNeg p0)) p2)) (Int32.toNatClampNeg p0))]) (rest := []) ⟨hx, hb, hml, hown, hts⟩ (mt_X6_isAbove l ((sI 2) (Int32.toNatClampNeg p0)) ((vp_updL (sJ 7) (Int32.toNatClampNeg p0) (rf_cut ((sI 2) (Int32.toNatClampNeg p0)) p1)) (Int32.toNatClampNeg p0)) ((vp_updL (sJ 8) (Int32.toNatClampNeg p0) (rf_cut ((sI 2) (Int32.toNatClampNeg p0)) p2)) (Int32.toNatClampNeg p0))) (va_cwS 3 hts gX6_limits_X6_isAbove rfl rfl rfl (by decide +kernel) ⟨Nat.le_of_ble_eq_true rfl, Nat.le_of_ble_eq_true rfl⟩) ⟨fun a U g mk q => q, fun U hU hW => ⟨rfl, trivial⟩⟩ rfl rfl hl.1 rfl (lv_room (Nat.le_of_ble_eq_true rfl)) dX6_limits_107 ⟨Nat.zero_le _, Nat.zero_le _⟩) ?_
        refine lv_if_ne (tgt := 117) hx hb dX6_limits_110 (by decide) (fun h5 => ?_) (fun h5 => ?_)
        · refine lv_iconst (v := 0) hx hb dX6_limits_117 (by decide) ?_
          exact W.zret (v := 0) hx hb hr (by first | rfl | exact pq_nz) (fun t ht hW => rq_end (con := Value.int) (show rf_limits sc sI sJ p0 p1 p2 = (0, (va_up sc 0 0), sI, (va_up (va_up sJ 7 (vp_updL (sJ 7) (Int32.toNatClampNeg p0) (rf_cut ((sI 2) (Int32.toNatClampNeg p0)) p1))) 8 (vp_updL (sJ 8) (Int32.toNatClampNeg p0) (rf_cut ((sI 2) (Int32.toNatClampNeg p0)) p2)))) from ((if_neg h1).trans ((if_pos h2).trans ((if_pos h4).trans (if_neg h5))))) (by rw [ht]; exact hP) (hS.F ht)) hS.2.2 dX6_limits_118
        · refine lv_iconst (v := 1) hx hb dX6_limits_113 (by decide) ?_
          refine lv_goto (tgt := 118) hx hb dX6_limits_114 (by decide) ?_
          exact W.zret (v := 1) hx hb hr (by first | rfl | exact pq_nz) (fun t ht hW => rq_end (con := Value.int) (show rf_limits sc sI sJ p0 p1 p2 = (1, (va_up sc 0 0), sI, (va_up (va_up sJ 7 (vp_updL (sJ 7) (Int32.toNatClampNeg p0) (rf_cut ((sI 2) (Int32.toNatClampNeg p0)) p1))) 8 (vp_updL (sJ 8) (Int32.toNatClampNeg p0) (rf_cut ((sI 2) (Int32.toNatClampNeg p0)) p2)))) from ((if_neg h1).trans ((if_pos h2).trans ((if_pos h4).trans (if_pos h5))))) (by rw [ht]; exact hP) (hS.F ht)) hS.2.2 dX6_limits_118
      · refine lv_aload_n hx hb dX6_limits_54 rfl (lv_at hl 1 rfl) ?_
        refine lv_iconst (v := 2) hx hb dX6_limits_55 (by decide) ?_
        refine rq_call (va_runV (C := RX6) (As := [.int 2]) (rest := []) ⟨hx, hb, hml, hown, hts⟩ (mr_fail l dC dI cyI cyJ r ad (va_up sc 0 0) sI sJ 2 hD) (cwV 1 hts gX6_limits_X6_fail rfl rfl rfl (by decide +kernel) ⟨Nat.le_of_ble_eq_true rfl, Nat.le_of_ble_eq_true rfl⟩) ⟨rq_blind, va_recv hK hP (ci := 5) (q0 := 0) rfl rfl, rq_pre hP hK⟩ rfl rfl hl.1 rfl (lv_room (Nat.le_of_ble_eq_true rfl)) dX6_limits_56 ⟨Nat.zero_le _, Nat.zero_le _⟩) hS (fun q h => h) (fun H locs hP hz hk hS => ?_)
        have hD := pq_Dcongr (ws' := (rW cyI cyJ r ad (va_up sc 0 2) sI sJ)) hD rfl
        have hP : va_P (dC, dI) vwCl (rW cyI cyJ r ad (va_up sc 0 2) sI sJ) H := hP
        have hD : va_D (rA r ad) (rW cyI cyJ r ad (va_up sc 0 2) sI sJ) := hD
        refine lv_if_le (tgt := 66) hx hb dX6_limits_59 (by decide) (fun h6 => ?_) (fun h6 => ?_)
        · refine lv_iconst (v := 0) hx hb dX6_limits_66 (by decide) ?_
          exact W.zret (v := 0) hx hb hr (by first | rfl | exact pq_nz) (fun t ht hW => rq_end (con := Value.int) (show rf_limits sc sI sJ p0 p1 p2 = (0, (va_up sc 0 2), sI, sJ) from ((if_neg h1).trans ((if_pos h2).trans ((if_neg h4).trans (if_pos h6))))) (by rw [ht]; exact hP) (hS.F ht)) hS.2.2 dX6_limits_67
        · refine lv_iconst (v := 1) hx hb dX6_limits_62 (by decide) ?_
          refine lv_goto (tgt := 67) hx hb dX6_limits_63 (by decide) ?_
          exact W.zret (v := 1) hx hb hr (by first | rfl | exact pq_nz) (fun t ht hW => rq_end (con := Value.int) (show rf_limits sc sI sJ p0 p1 p2 = (1, (va_up sc 0 2), sI, sJ) from ((if_neg h1).trans ((if_pos h2).trans ((if_neg h4).trans (if_neg h6))))) (by rw [ht]; exact hP) (hS.F ht)) hS.2.2 dX6_limits_67
  · refine lv_aload_n hx hb dX6_limits_13 rfl (lv_at hl 0 rfl) ?_
    refine lv_iconst (v := 1) hx hb dX6_limits_14 (by decide) ?_
    refine rq_call (va_runV (C := RX6) (As := [.int 1]) (rest := []) ⟨hx, hb, hml, hown, hts⟩ (mr_fail l dC dI cyI cyJ r ad (va_up sc 0 0) sI sJ 1 hD) (cwV 1 hts gX6_limits_X6_fail rfl rfl rfl (by decide +kernel) ⟨Nat.le_of_ble_eq_true rfl, Nat.le_of_ble_eq_true rfl⟩) ⟨rq_blind, va_recv hK hP (ci := 5) (q0 := 0) rfl rfl, rq_pre hP hK⟩ rfl rfl hl.1 rfl (lv_room (Nat.le_of_ble_eq_true rfl)) dX6_limits_15 ⟨Nat.zero_le _, Nat.zero_le _⟩) hS (fun q h => h) (fun H locs hP hz hk hS => ?_)
    have hD := pq_Dcongr (ws' := (rW cyI cyJ r ad (va_up sc 0 1) sI sJ)) hD rfl
    have hP : va_P (dC, dI) vwCl (rW cyI cyJ r ad (va_up sc 0 1) sI sJ) H := hP
    have hD : va_D (rA r ad) (rW cyI cyJ r ad (va_up sc 0 1) sI sJ) := hD
    refine lv_if_le (tgt := 25) hx hb dX6_limits_18 (by decide) (fun h7 => ?_) (fun h7 => ?_)
    · refine lv_iconst (v := 0) hx hb dX6_limits_25 (by decide) ?_
      exact W.zret (v := 0) hx hb hr (by first | rfl | exact pq_nz) (fun t ht hW => rq_end (con := Value.int) (show rf_limits sc sI sJ p0 p1 p2 = (0, (va_up sc 0 1), sI, sJ) from ((if_pos h1).trans (if_pos h7))) (by rw [ht]; exact hP) (hS.F ht)) hS.2.2 dX6_limits_26
    · refine lv_iconst (v := 1) hx hb dX6_limits_21 (by decide) ?_
      refine lv_goto (tgt := 26) hx hb dX6_limits_22 (by decide) ?_
      exact W.zret (v := 1) hx hb hr (by first | rfl | exact pq_nz) (fun t ht hW => rq_end (con := Value.int) (show rf_limits sc sI sJ p0 p1 p2 = (1, (va_up sc 0 1), sI, sJ) from ((if_pos h1).trans (if_neg h7))) (by rw [ht]; exact hP) (hS.F ht)) hS.2.2 dX6_limits_26
def rf_reading (sc : Nat → Int32) (sI : Nat → Nat → Int32) (sJ : Nat → Nat → Int64) (p0 : Int32) (p1 : Int32) : rS Int64 := if (rf_isInstrument (va_up sc 0 0) sI sJ p0) = 0 then ((Int32.toInt64 0), (va_up sc 0 1), sI, sJ) else (if p1 < 0 then ((Int32.toInt64 0), (va_up sc 0 2), sI, sJ) else (if ((sI 9) (Int32.toNatClampNeg p0)) ≤ p1 then ((Int32.toInt64 0), (va_up sc 0 2), sI, sJ) else (if p1 < 16 then (((sJ 10) (Int32.toNatClampNeg ((16 * p0) + (((((sI 9) (Int32.toNatClampNeg p0)) - 1) - p1) - ((((sI 9) (Int32.toNatClampNeg p0)) - 1) - p1) / 16 * 16)))), (va_up sc 0 0), sI, sJ) else (((Int32.toInt64 0), (va_up sc 0 2), sI, sJ)))))
set_option maxHeartbeats 4000000 in
set_option maxRecDepth 100000 in
theorem mr_reading (l : Launch) (dC : Nat → ClassId) (dI : Nat → Nat → Nat) (cyI cyJ : ClassId) (r : Nat) (ad : Nat → Nat) (sc : Nat → Int32) (sI : Nat → Nat → Int32) (sJ : Nat → Nat → Int64) (p0 : Int32) (p1 : Int32) (hD : va_D (rA r ad) (rW cyI cyJ r ad sc sI sJ)) (hg1 : ¬ ((rf_isInstrument (va_up sc 0 0) sI sJ p0) = 0) → vp_in p0 8) (hg2 : ¬ ((rf_isInstrument (va_up sc 0 0) sI sJ p0) = 0) → ¬ (p1 < 0) → ¬ (((sI 9) (Int32.toNatClampNeg p0)) ≤ p1) → (p1 < 16) → vp_in ((16 * p0) + (((((sI 9) (Int32.toNatClampNeg p0)) - 1) - p1) - ((((sI 9) (Int32.toNatClampNeg p0)) - 1) - p1) / 16 * 16)) 128) : Met l yX6_reading wsX6_reading ({ frames := 1, cells := 0, slots := 0, locals := 21 }) (rq_Pc (dC, dI) cyI cyJ r ad sc sI sJ [.ref r, .int p0, .int p1]) (rq_Q (dC, dI) cyI cyJ r ad Value.long (rf_reading sc sI sJ p0 p1)) 0 0 (rA r ad) := by
  refine Met.ofW (cc := cX6_reading) (maxL := 4) (ret := (some .long)) (by decide) rfl ?_
  intro p e s m args below meth c s₁ B hml hv
  obtain ⟨rfl, hP, hK⟩ := hv
  have hx := B.exec
  have hb := B.bytes
  have hr := B.returns
  have hts := atoms_spec (ws := wsX6_reading) B.pre
  have hown : s.vm.findClass RX6 = some m.cls := findClass_of_methodNamed B.named
  have hlocks := B.notSynchronized
  have hin : ∀ w ∈ wsX60, w ∈ wsX6_reading := by decide +kernel
  have hS : va_S (rA r ad) s.heap s.heap [] := va_S.rf
  have hl := lv_entry ([.ref r, .int p0, .int p1]) (n := 4) (Nat.le_of_ble_eq_true rfl)
  rw [lg_entry_eq]
  generalize (lg_sl ([.ref r, .int p0, .int p1]) ++ List.replicate (4 - (lg_sl ([.ref r, .int p0, .int p1])).length) Slot.unset).toArray = ls at hl ⊢
  have hl : lv_has ls 4 [(0, .ref r), (1, .int p0), (2, .int p1)] := hl
  refine lv_aload_n hx hb dX6_reading_0 rfl (lv_at hl 0 rfl) ?_
  refine lv_iconst (v := 0) hx hb dX6_reading_1 (by decide) ?_
  refine va_put (D := (dC, dI)) (ci := 5) (v := .int 0) (ty := .int) (C := RX6) (T := TX6) (N := 19) hx hb hts hin tyX6 tyX6_ok nmX6 hown hK hP hD hS 0 rfl rfl 0 (by decide) (hts (.fieldLink RX6 53 "WeatherMastModel" "thrown" "I") (by decide +kernel)) (fun _ h9 => h9) rfl (by decide +kernel) rfl rfl (Nat.le_of_ble_eq_true rfl) dX6_reading_2 (fun H locs hP hD hS => ?_)
  have hP : va_P (dC, dI) vwCl (rW cyI cyJ r ad (va_up sc 0 0) sI sJ) H := hP
  have hD : va_D (rA r ad) (rW cyI cyJ r ad (va_up sc 0 0) sI sJ) := hD
  refine lv_aload_n hx hb dX6_reading_5 rfl (lv_at hl 0 rfl) ?_
  refine lv_iload_n hx hb dX6_reading_6 rfl (lv_at hl 1 rfl) ?_
  refine pq_call (va_runV (C := RX6) (As := [.int p0]) (rest := []) ⟨hx, hb, hml, hown, hts⟩ (mr_isInstrument l dC dI cyI cyJ r ad (va_up sc 0 0) sI sJ p0) (cwV 1 hts gX6_reading_X6_isInstrument rfl rfl rfl (by decide +kernel) ⟨Nat.le_of_ble_eq_true rfl, Nat.le_of_ble_eq_true rfl⟩) ⟨rq_blind, va_recv hK hP (ci := 5) (q0 := 0) rfl rfl, rq_pre hP hK⟩ rfl rfl hl.1 rfl (lv_room (Nat.le_of_ble_eq_true rfl)) dX6_reading_7 ⟨Nat.zero_le _, Nat.zero_le _⟩) ?_
  refine lv_if_ne (tgt := 20) hx hb dX6_reading_10 (by decide) (fun h1 => ?_) (fun h1 => ?_)
  · refine lv_aload_n hx hb dX6_reading_20 rfl (lv_at hl 0 rfl) ?_
    refine va_get (D := (dC, dI)) (ci := 5) (v := .ref (ad 9)) (C := RX6) (T := TX6) (N := 19) hx hb hts hin hown hK hP 0 rfl rfl 9 (by decide) (hts (.fieldLink RX6 32 "WeatherMastModel" "many" "[I") (by decide +kernel)) (fun _ h9 => h9) rfl dX6_reading_21 ?_
    refine lv_iload_n hx hb dX6_reading_24 rfl (lv_at hl 1 rfl) ?_
    refine va_iald (f := (sI 9)) hx hb hK hP 8 0 rfl rfl (hg1 h1) dX6_reading_25 ?_
    refine lv_istore_n (lv' := [(3, .int ((sI 9) (Int32.toNatClampNeg p0))), (0, .ref r), (1, .int p0), (2, .int p1)]) hx hb dX6_reading_26 rfl hl (by decide) rfl (fun ls hl => ?_)
    refine lv_iload_n hx hb dX6_reading_27 rfl (lv_at hl 3 rfl) ?_
    refine lv_if_lt (tgt := 42) hx hb dX6_reading_28 (by decide) (fun h2 => ?_) (fun h2 => ?_)
    · refine lv_aload_n hx hb dX6_reading_42 rfl (lv_at hl 1 rfl) ?_
      refine lv_iconst (v := 2) hx hb dX6_reading_43 (by decide) ?_
      refine rq_call (va_runV (C := RX6) (As := [.int 2]) (rest := []) ⟨hx, hb, hml, hown, hts⟩ (mr_fail l dC dI cyI cyJ r ad (va_up sc 0 0) sI sJ 2 hD) (cwV 1 hts gX6_reading_X6_fail rfl rfl rfl (by decide +kernel) ⟨Nat.le_of_ble_eq_true rfl, Nat.le_of_ble_eq_true rfl⟩) ⟨rq_blind, va_recv hK hP (ci := 5) (q0 := 0) rfl rfl, rq_pre hP hK⟩ rfl rfl hl.1 rfl (lv_room (Nat.le_of_ble_eq_true rfl)) dX6_reading_44 ⟨Nat.zero_le _, Nat.zero_le _⟩) hS (fun q h => h) (fun H locs hP hz hk hS => ?_)
      have hD := pq_Dcongr (ws' := (rW cyI cyJ r ad (va_up sc 0 2) sI sJ)) hD rfl
      have hP : va_P (dC, dI) vwCl (rW cyI cyJ r ad (va_up sc 0 2) sI sJ) H := hP
      have hD : va_D (rA r ad) (rW cyI cyJ r ad (va_up sc 0 2) sI sJ) := hD
      refine lv_i2l (v := (Int32.toInt64 0)) hx hb dX6_reading_47 rfl ?_
      exact W.lret (v := (Int32.toInt64 0)) hx hb hr (fun t ht hW => rq_end (con := Value.long) (show rf_reading sc sI sJ p0 p1 = ((Int32.toInt64 0), (va_up sc 0 2), sI, sJ) from ((if_neg h1).trans (if_pos h2))) (by rw [ht]; exact hP) (hS.F ht)) hS.2.2 dX6_reading_48
    · refine lv_iload_n hx hb dX6_reading_31 rfl (lv_at hl 3 rfl) ?_
      refine lv_iload_n hx hb dX6_reading_32 rfl (lv_at hl 0 rfl) ?_
      refine lv_icmp_ge (tgt := 42) hx hb dX6_reading_33 (by decide) (fun h3 => ?_) (fun h3 => ?_)
      · refine lv_aload_n hx hb dX6_reading_42 rfl (lv_at hl 1 rfl) ?_
        refine lv_iconst (v := 2) hx hb dX6_reading_43 (by decide) ?_
        refine rq_call (va_runV (C := RX6) (As := [.int 2]) (rest := []) ⟨hx, hb, hml, hown, hts⟩ (mr_fail l dC dI cyI cyJ r ad (va_up sc 0 0) sI sJ 2 hD) (cwV 1 hts gX6_reading_X6_fail rfl rfl rfl (by decide +kernel) ⟨Nat.le_of_ble_eq_true rfl, Nat.le_of_ble_eq_true rfl⟩) ⟨rq_blind, va_recv hK hP (ci := 5) (q0 := 0) rfl rfl, rq_pre hP hK⟩ rfl rfl hl.1 rfl (lv_room (Nat.le_of_ble_eq_true rfl)) dX6_reading_44 ⟨Nat.zero_le _, Nat.zero_le _⟩) hS (fun q h => h) (fun H locs hP hz hk hS => ?_)
        have hD := pq_Dcongr (ws' := (rW cyI cyJ r ad (va_up sc 0 2) sI sJ)) hD rfl
        have hP : va_P (dC, dI) vwCl (rW cyI cyJ r ad (va_up sc 0 2) sI sJ) H := hP
        have hD : va_D (rA r ad) (rW cyI cyJ r ad (va_up sc 0 2) sI sJ) := hD
        refine lv_i2l (v := (Int32.toInt64 0)) hx hb dX6_reading_47 rfl ?_
        exact W.lret (v := (Int32.toInt64 0)) hx hb hr (fun t ht hW => rq_end (con := Value.long) (show rf_reading sc sI sJ p0 p1 = ((Int32.toInt64 0), (va_up sc 0 2), sI, sJ) from ((if_neg h1).trans ((if_neg h2).trans (if_pos h3)))) (by rw [ht]; exact hP) (hS.F ht)) hS.2.2 dX6_reading_48
      · refine lv_iload_n hx hb dX6_reading_36 rfl (lv_at hl 3 rfl) ?_
        refine lv_bipush (v := 16) hx hb dX6_reading_37 (by decide) ?_
        refine lv_icmp_lt (tgt := 49) hx hb dX6_reading_39 (by decide) (fun h4 => ?_) (fun h4 => ?_)
        · refine lv_aload_n hx hb dX6_reading_49 rfl (lv_at hl 1 rfl) ?_
          refine va_get (D := (dC, dI)) (ci := 5) (v := .ref (ad 10)) (C := RX6) (T := TX6) (N := 19) hx hb hts hin hown hK hP 0 rfl rfl 10 (by decide) (hts (.fieldLink RX6 35 "WeatherMastModel" "kept" "[J") (by decide +kernel)) (fun _ h9 => h9) rfl dX6_reading_50 ?_
          refine lv_bipush (v := 16) hx hb dX6_reading_53 (by decide) ?_
          refine lv_iload_n hx hb dX6_reading_55 rfl (lv_at hl 2 rfl) ?_
          refine lv_imul hx hb dX6_reading_56 ?_
          refine lv_iload_n hx hb dX6_reading_57 rfl (lv_at hl 0 rfl) ?_
          refine lv_iconst (v := 1) hx hb dX6_reading_58 (by decide) ?_
          refine lv_isub hx hb dX6_reading_59 ?_
          refine lv_iload_n hx hb dX6_reading_60 rfl (lv_at hl 3 rfl) ?_
          refine lv_isub hx hb dX6_reading_61 ?_
          refine lv_bipush (v := 16) hx hb dX6_reading_62 (by decide) ?_
          refine lv_irem hx hb dX6_reading_64 (by decide) ?_
          refine lv_iadd hx hb dX6_reading_65 ?_
          refine va_lald (f := (sJ 10)) hx hb hK hP 9 1 rfl rfl (hg2 h1 h2 h3 h4) dX6_reading_66 ?_
          exact W.lret (v := ((sJ 10) (Int32.toNatClampNeg ((16 * p0) + (((((sI 9) (Int32.toNatClampNeg p0)) - 1) - p1) - ((((sI 9) (Int32.toNatClampNeg p0)) - 1) - p1) / 16 * 16))))) hx hb hr (fun t ht hW => rq_end (con := Value.long) (show rf_reading sc sI sJ p0 p1 = (((sJ 10) (Int32.toNatClampNeg ((16 * p0) + (((((sI 9) (Int32.toNatClampNeg p0)) - 1) - p1) - ((((sI 9) (Int32.toNatClampNeg p0)) - 1) - p1) / 16 * 16)))), (va_up sc 0 0), sI, sJ) from ((if_neg h1).trans ((if_neg h2).trans ((if_neg h3).trans (if_pos h4))))) (by rw [ht]; exact hP) (hS.F ht)) hS.2.2 dX6_reading_67
        · refine lv_aload_n hx hb dX6_reading_42 rfl (lv_at hl 1 rfl) ?_
          refine lv_iconst (v := 2) hx hb dX6_reading_43 (by decide) ?_
          refine rq_call (va_runV (C := RX6) (As := [.int 2]) (rest := []) ⟨hx, hb, hml, hown, hts⟩ (mr_fail l dC dI cyI cyJ r ad (va_up sc 0 0) sI sJ 2 hD) (cwV 1 hts gX6_reading_X6_fail rfl rfl rfl (by decide +kernel) ⟨Nat.le_of_ble_eq_true rfl, Nat.le_of_ble_eq_true rfl⟩) ⟨rq_blind, va_recv hK hP (ci := 5) (q0 := 0) rfl rfl, rq_pre hP hK⟩ rfl rfl hl.1 rfl (lv_room (Nat.le_of_ble_eq_true rfl)) dX6_reading_44 ⟨Nat.zero_le _, Nat.zero_le _⟩) hS (fun q h => h) (fun H locs hP hz hk hS => ?_)
          have hD := pq_Dcongr (ws' := (rW cyI cyJ r ad (va_up sc 0 2) sI sJ)) hD rfl
          have hP : va_P (dC, dI) vwCl (rW cyI cyJ r ad (va_up sc 0 2) sI sJ) H := hP
          have hD : va_D (rA r ad) (rW cyI cyJ r ad (va_up sc 0 2) sI sJ) := hD
          refine lv_i2l (v := (Int32.toInt64 0)) hx hb dX6_reading_47 rfl ?_
          exact W.lret (v := (Int32.toInt64 0)) hx hb hr (fun t ht hW => rq_end (con := Value.long) (show rf_reading sc sI sJ p0 p1 = ((Int32.toInt64 0), (va_up sc 0 2), sI, sJ) from ((if_neg h1).trans ((if_neg h2).trans ((if_neg h3).trans (if_neg h4))))) (by rw [ht]; exact hP) (hS.F ht)) hS.2.2 dX6_reading_48
  · refine lv_aload_n hx hb dX6_reading_13 rfl (lv_at hl 0 rfl) ?_
    refine lv_iconst (v := 1) hx hb dX6_reading_14 (by decide) ?_
    refine rq_call (va_runV (C := RX6) (As := [.int 1]) (rest := []) ⟨hx, hb, hml, hown, hts⟩ (mr_fail l dC dI cyI cyJ r ad (va_up sc 0 0) sI sJ 1 hD) (cwV 1 hts gX6_reading_X6_fail rfl rfl rfl (by decide +kernel) ⟨Nat.le_of_ble_eq_true rfl, Nat.le_of_ble_eq_true rfl⟩) ⟨rq_blind, va_recv hK hP (ci := 5) (q0 := 0) rfl rfl, rq_pre hP hK⟩ rfl rfl hl.1 rfl (lv_room (Nat.le_of_ble_eq_true rfl)) dX6_reading_15 ⟨Nat.zero_le _, Nat.zero_le _⟩) hS (fun q h => h) (fun H locs hP hz hk hS => ?_)
    have hD := pq_Dcongr (ws' := (rW cyI cyJ r ad (va_up sc 0 1) sI sJ)) hD rfl
    have hP : va_P (dC, dI) vwCl (rW cyI cyJ r ad (va_up sc 0 1) sI sJ) H := hP
    have hD : va_D (rA r ad) (rW cyI cyJ r ad (va_up sc 0 1) sI sJ) := hD
    refine lv_i2l (v := (Int32.toInt64 0)) hx hb dX6_reading_18 rfl ?_
    exact W.lret (v := (Int32.toInt64 0)) hx hb hr (fun t ht hW => rq_end (con := Value.long) (show rf_reading sc sI sJ p0 p1 = ((Int32.toInt64 0), (va_up sc 0 1), sI, sJ) from (if_pos h1)) (by rw [ht]; exact hP) (hS.F ht)) hS.2.2 dX6_reading_19
def rf_mount (sc : Nat → Int32) (sI : Nat → Nat → Int32) (sJ : Nat → Nat → Int64) (p0 : Int32) : rS Int32 := if p0 < 0 then (0, (va_up sc 0 1), sI, sJ) else (if p0 ≤ 3 then if (sc 1) = 8 then (0, (va_up sc 0 2), sI, sJ) else (((sc 1), (va_up (va_up sc 0 0) 1 ((sc 1) + 1)), (va_up sI 2 (upd (sI 2) (Int32.toNatClampNeg (sc 1)) p0)), (va_up (va_up sJ 7 (vp_updL (sJ 7) (Int32.toNatClampNeg (sc 1)) (if p0 = 0 then ((-2147483648) : Int64) else (if p0 = 1 then ((-9223372036854775808) : Int64) else (rf_signed p0 (rf_endless p0) 1))))) 8 (vp_updL (sJ 8) (Int32.toNatClampNeg (sc 1)) (if p0 = 0 then (2147483647 : Int64) else (if p0 = 1 then (9223372036854775807 : Int64) else (rf_signed p0 (rf_endless p0) 0))))))) else ((0, (va_up sc 0 1), sI, sJ)))
set_option maxHeartbeats 4000000 in
set_option maxRecDepth 100000 in
theorem mr_mount (l : Launch) (dC : Nat → ClassId) (dI : Nat → Nat → Nat) (cyI cyJ : ClassId) (r : Nat) (ad : Nat → Nat) (sc : Nat → Int32) (sI : Nat → Nat → Int32) (sJ : Nat → Nat → Int64) (p0 : Int32) (hD : va_D (rA r ad) (rW cyI cyJ r ad sc sI sJ)) (hg1 : ¬ (p0 < 0) → (p0 ≤ 3) → ¬ ((sc 1) = 8) → vp_in (sc 1) 8) : Met l yX6_mount wsX6_mount ({ frames := 2, cells := 0, slots := 0, locals := 45 }) (rq_Pc (dC, dI) cyI cyJ r ad sc sI sJ [.ref r, .int p0]) (rq_Q (dC, dI) cyI cyJ r ad Value.int (rf_mount sc sI sJ p0)) 0 0 (rA r ad) := by
  refine Met.ofW (cc := cX6_mount) (maxL := 3) (ret := (some .int)) (by decide) rfl ?_
  intro p e s m args below meth c s₁ B hml hv
  obtain ⟨rfl, hP, hK⟩ := hv
  have hx := B.exec
  have hb := B.bytes
  have hr := B.returns
  have hts := atoms_spec (ws := wsX6_mount) B.pre
  have hown : s.vm.findClass RX6 = some m.cls := findClass_of_methodNamed B.named
  have hlocks := B.notSynchronized
  have hin : ∀ w ∈ wsX60, w ∈ wsX6_mount := by decide +kernel
  have hS : va_S (rA r ad) s.heap s.heap [] := va_S.rf
  have hl := lv_entry ([.ref r, .int p0]) (n := 3) (Nat.le_of_ble_eq_true rfl)
  rw [lg_entry_eq]
  generalize (lg_sl ([.ref r, .int p0]) ++ List.replicate (3 - (lg_sl ([.ref r, .int p0])).length) Slot.unset).toArray = ls at hl ⊢
  have hl : lv_has ls 3 [(0, .ref r), (1, .int p0)] := hl
  refine lv_aload_n hx hb dX6_mount_0 rfl (lv_at hl 0 rfl) ?_
  refine lv_iconst (v := 0) hx hb dX6_mount_1 (by decide) ?_
  refine va_put (D := (dC, dI)) (ci := 5) (v := .int 0) (ty := .int) (C := RX6) (T := TX6) (N := 19) hx hb hts hin tyX6 tyX6_ok nmX6 hown hK hP hD hS 0 rfl rfl 0 (by decide) (hts (.fieldLink RX6 53 "WeatherMastModel" "thrown" "I") (by decide +kernel)) (fun _ h9 => h9) rfl (by decide +kernel) rfl rfl (Nat.le_of_ble_eq_true rfl) dX6_mount_2 (fun H locs hP hD hS => ?_)
  have hP : va_P (dC, dI) vwCl (rW cyI cyJ r ad (va_up sc 0 0) sI sJ) H := hP
  have hD : va_D (rA r ad) (rW cyI cyJ r ad (va_up sc 0 0) sI sJ) := hD
  refine lv_iload_n hx hb dX6_mount_5 rfl (lv_at hl 1 rfl) ?_
  refine lv_if_lt (tgt := 14) hx hb dX6_mount_6 (by decide) (fun h1 => ?_) (fun h1 => ?_)
  · refine lv_aload_n hx hb dX6_mount_14 rfl (lv_at hl 0 rfl) ?_
    refine lv_iconst (v := 1) hx hb dX6_mount_15 (by decide) ?_
    refine rq_call (va_runV (C := RX6) (As := [.int 1]) (rest := []) ⟨hx, hb, hml, hown, hts⟩ (mr_fail l dC dI cyI cyJ r ad (va_up sc 0 0) sI sJ 1 hD) (cwV 1 hts gX6_mount_X6_fail rfl rfl rfl (by decide +kernel) ⟨Nat.le_of_ble_eq_true rfl, Nat.le_of_ble_eq_true rfl⟩) ⟨rq_blind, va_recv hK hP (ci := 5) (q0 := 0) rfl rfl, rq_pre hP hK⟩ rfl rfl hl.1 rfl (lv_room (Nat.le_of_ble_eq_true rfl)) dX6_mount_16 ⟨Nat.zero_le _, Nat.zero_le _⟩) hS (fun q h => h) (fun H locs hP hz hk hS => ?_)
    have hD := pq_Dcongr (ws' := (rW cyI cyJ r ad (va_up sc 0 1) sI sJ)) hD rfl
    have hP : va_P (dC, dI) vwCl (rW cyI cyJ r ad (va_up sc 0 1) sI sJ) H := hP
    have hD : va_D (rA r ad) (rW cyI cyJ r ad (va_up sc 0 1) sI sJ) := hD
    exact W.iret (v := 0) hx hb hr (fun t ht hW => rq_end (con := Value.int) (show rf_mount sc sI sJ p0 = (0, (va_up sc 0 1), sI, sJ) from (if_pos h1)) (by rw [ht]; exact hP) (hS.F ht)) hS.2.2 dX6_mount_19
  · refine lv_iload_n hx hb dX6_mount_9 rfl (lv_at hl 1 rfl) ?_
    refine lv_iconst (v := 3) hx hb dX6_mount_10 (by decide) ?_
    refine lv_icmp_le (tgt := 20) hx hb dX6_mount_11 (by decide) (fun h2 => ?_) (fun h2 => ?_)
    · refine lv_aload_n hx hb dX6_mount_20 rfl (lv_at hl 0 rfl) ?_
      refine va_get (D := (dC, dI)) (ci := 5) (v := .int (sc 1)) (C := RX6) (T := TX6) (N := 19) hx hb hts hin hown hK hP 0 rfl rfl 1 (by decide) (hts (.fieldLink RX6 57 "WeatherMastModel" "instruments" "I") (by decide +kernel)) (fun _ h9 => h9) rfl dX6_mount_21 ?_
      refine lv_bipush (v := 8) hx hb dX6_mount_24 (by decide) ?_
      refine lv_icmp_ne (tgt := 35) hx hb dX6_mount_26 (by decide) (fun h3 => ?_) (fun h3 => ?_)
      · refine lv_aload_n hx hb dX6_mount_35 rfl (lv_at hl 0 rfl) ?_
        refine va_get (D := (dC, dI)) (ci := 5) (v := .int (sc 1)) (C := RX6) (T := TX6) (N := 19) hx hb hts hin hown hK hP 0 rfl rfl 1 (by decide) (hts (.fieldLink RX6 57 "WeatherMastModel" "instruments" "I") (by decide +kernel)) (fun _ h9 => h9) rfl dX6_mount_36 ?_
        refine lv_istore_n (lv' := [(2, .int (sc 1)), (0, .ref r), (1, .int p0)]) hx hb dX6_mount_39 rfl hl (by decide) rfl (fun ls hl => ?_)
        refine lv_aload_n hx hb dX6_mount_40 rfl (lv_at hl 1 rfl) ?_
        refine lv_dup hx hb dX6_mount_41 rfl ?_
        refine va_get (D := (dC, dI)) (ci := 5) (v := .int (sc 1)) (C := RX6) (T := TX6) (N := 19) hx hb hts hin hown hK hP 0 rfl rfl 1 (by decide) (hts (.fieldLink RX6 57 "WeatherMastModel" "instruments" "I") (by decide +kernel)) (fun _ h9 => h9) rfl dX6_mount_42 ?_
        refine lv_iconst (v := 1) hx hb dX6_mount_45 (by decide) ?_
        refine lv_iadd hx hb dX6_mount_46 ?_
        refine va_put (D := (dC, dI)) (ci := 5) (v := .int ((sc 1) + 1)) (ty := .int) (C := RX6) (T := TX6) (N := 19) hx hb hts hin tyX6 tyX6_ok nmX6 hown hK hP hD hS 0 rfl rfl 1 (by decide) (hts (.fieldLink RX6 57 "WeatherMastModel" "instruments" "I") (by decide +kernel)) (fun _ h9 => h9) rfl (by decide +kernel) rfl rfl (Nat.le_of_ble_eq_true rfl) dX6_mount_47 (fun H locs hP hD hS => ?_)
        have hP : va_P (dC, dI) vwCl (rW cyI cyJ r ad (va_up (va_up sc 0 0) 1 ((sc 1) + 1)) sI sJ) H := hP
        have hD : va_D (rA r ad) (rW cyI cyJ r ad (va_up (va_up sc 0 0) 1 ((sc 1) + 1)) sI sJ) := hD
        refine lv_aload_n hx hb dX6_mount_50 rfl (lv_at hl 1 rfl) ?_
        refine va_get (D := (dC, dI)) (ci := 5) (v := .ref (ad 2)) (C := RX6) (T := TX6) (N := 19) hx hb hts hin hown hK hP 0 rfl rfl 2 (by decide) (hts (.fieldLink RX6 7 "WeatherMastModel" "sorts" "[I") (by decide +kernel)) (fun _ h9 => h9) rfl dX6_mount_51 ?_
        refine lv_iload_n hx hb dX6_mount_54 rfl (lv_at hl 0 rfl) ?_
        refine lv_iload_n hx hb dX6_mount_55 rfl (lv_at hl 2 rfl) ?_
        refine va_iast (f := (sI 2)) hx hb hK hP hD hS 1 0 rfl rfl (hg1 h1 h2 h3) dX6_mount_56 (fun H locs hP hD hS => ?_)
        have hP : va_P (dC, dI) vwCl (rW cyI cyJ r ad (va_up (va_up sc 0 0) 1 ((sc 1) + 1)) (va_up sI 2 (upd (sI 2) (Int32.toNatClampNeg (sc 1)) p0)) sJ) H := hP
        have hD : va_D (rA r ad) (rW cyI cyJ r ad (va_up (va_up sc 0 0) 1 ((sc 1) + 1)) (va_up sI 2 (upd (sI 2) (Int32.toNatClampNeg (sc 1)) p0)) sJ) := hD
        refine lv_aload_n hx hb dX6_mount_57 rfl (lv_at hl 1 rfl) ?_
        refine va_get (D := (dC, dI)) (ci := 5) (v := .ref (ad 7)) (C := RX6) (T := TX6) (N := 19) hx hb hts hin hown hK hP 0 rfl rfl 7 (by decide) (hts (.fieldLink RX6 26 "WeatherMastModel" "lows" "[J") (by decide +kernel)) (fun _ h9 => h9) rfl dX6_mount_58 ?_
        refine lv_iload_n hx hb dX6_mount_61 rfl (lv_at hl 0 rfl) ?_
        refine lv_iload_n hx hb dX6_mount_62 rfl (lv_at hl 2 rfl) ?_
        refine pq_cut (g2 := F0 m 92 ls [.long (if p0 = 0 then ((-2147483648) : Int64) else (if p0 = 1 then ((-9223372036854775808) : Int64) else (rf_signed p0 (rf_endless p0) 1))), .int (sc 1), .ref (ad 7)]) (fun K4 => ?_) ?_
        · refine lv_if_ne (tgt := 72) hx hb dX6_mount_63 (by decide) (fun h5 => ?_) (fun h5 => ?_)
          · refine lv_iload_n hx hb dX6_mount_72 rfl (lv_at hl 2 rfl) ?_
            refine lv_iconst (v := 1) hx hb dX6_mount_73 (by decide) ?_
            refine lv_icmp_ne (tgt := 83) hx hb dX6_mount_74 (by decide) (fun h6 => ?_) (fun h6 => ?_)
            · refine lv_iload_n hx hb dX6_mount_83 rfl (lv_at hl 2 rfl) ?_
              refine lv_iload_n hx hb dX6_mount_84 rfl (lv_at hl 2 rfl) ?_
              refine pq_call (va_runS (As := [.int p0]) (rest := [.int p0, .int (sc 1), .ref (ad 7)]) ⟨hx, hb, hml, hown, hts⟩ (mt_X6_endless l p0) (va_cwS 1 hts gX6_mount_X6_endless rfl rfl rfl (by decide +kernel) ⟨Nat.le_of_ble_eq_true rfl, Nat.le_of_ble_eq_true rfl⟩) ⟨fun a U g mk q => q, fun U hU hW => ⟨rfl, trivial⟩⟩ rfl rfl hl.1 rfl (lv_room (Nat.le_of_ble_eq_true rfl)) dX6_mount_85 ⟨Nat.zero_le _, Nat.zero_le _⟩) ?_
              refine lv_iconst (v := 1) hx hb dX6_mount_88 (by decide) ?_
              refine pq_call (va_runS (As := [.int p0, .long (rf_endless p0), .int 1]) (rest := [.int (sc 1), .ref (ad 7)]) ⟨hx, hb, hml, hown, hts⟩ (mt_X6_signed l p0 (rf_endless p0) 1) (va_cwS 3 hts gX6_mount_X6_signed rfl rfl rfl (by decide +kernel) ⟨Nat.le_of_ble_eq_true rfl, Nat.le_of_ble_eq_true rfl⟩) ⟨fun a U g mk q => q, fun U hU hW => ⟨rfl, trivial⟩⟩ rfl rfl hl.1 rfl (lv_room (Nat.le_of_ble_eq_true rfl)) dX6_mount_89 ⟨Nat.zero_le _, Nat.zero_le _⟩) ?_
              exact pq_conv K4 (congrArg Value.long ((if_neg h5).trans (if_neg h6)))
            · refine lv_ldc2 hx hb hown (hts (.constantLong RX6 62 (-9223372036854775808)) (by decide +kernel)) dX6_mount_77 ?_
              refine lv_goto (tgt := 92) hx hb dX6_mount_80 (by decide) ?_
              exact pq_conv K4 (congrArg Value.long ((if_neg h5).trans (if_pos h6)))
          · refine lv_ldc2 hx hb hown (hts (.constantLong RX6 164 (-2147483648)) (by decide +kernel)) dX6_mount_66 ?_
            refine lv_goto (tgt := 92) hx hb dX6_mount_69 (by decide) ?_
            exact pq_conv K4 (congrArg Value.long (if_pos h5))
        refine va_last (f := (sJ 7)) hx hb hK hP hD hS 6 1 rfl rfl (hg1 h1 h2 h3) dX6_mount_92 (fun H locs hP hD hS => ?_)
        have hP : va_P (dC, dI) vwCl (rW cyI cyJ r ad (va_up (va_up sc 0 0) 1 ((sc 1) + 1)) (va_up sI 2 (upd (sI 2) (Int32.toNatClampNeg (sc 1)) p0)) (va_up sJ 7 (vp_updL (sJ 7) (Int32.toNatClampNeg (sc 1)) (if p0 = 0 then ((-2147483648) : Int64) else (if p0 = 1 then ((-9223372036854775808) : Int64) else (rf_signed p0 (rf_endless p0) 1)))))) H := hP
        have hD : va_D (rA r ad) (rW cyI cyJ r ad (va_up (va_up sc 0 0) 1 ((sc 1) + 1)) (va_up sI 2 (upd (sI 2) (Int32.toNatClampNeg (sc 1)) p0)) (va_up sJ 7 (vp_updL (sJ 7) (Int32.toNatClampNeg (sc 1)) (if p0 = 0 then ((-2147483648) : Int64) else (if p0 = 1 then ((-9223372036854775808) : Int64) else (rf_signed p0 (rf_endless p0) 1)))))) := hD
        refine lv_aload_n hx hb dX6_mount_93 rfl (lv_at hl 1 rfl) ?_
        refine va_get (D := (dC, dI)) (ci := 5) (v := .ref (ad 8)) (C := RX6) (T := TX6) (N := 19) hx hb hts hin hown hK hP 0 rfl rfl 8 (by decide) (hts (.fieldLink RX6 29 "WeatherMastModel" "highs" "[J") (by decide +kernel)) (fun _ h9 => h9) rfl dX6_mount_94 ?_
        refine lv_iload_n hx hb dX6_mount_97 rfl (lv_at hl 0 rfl) ?_
        refine lv_iload_n hx hb dX6_mount_98 rfl (lv_at hl 2 rfl) ?_
        refine pq_cut (g2 := F0 m 128 ls [.long (if p0 = 0 then (2147483647 : Int64) else (if p0 = 1 then (9223372036854775807 : Int64) else (rf_signed p0 (rf_endless p0) 0))), .int (sc 1), .ref (ad 8)]) (fun K7 => ?_) ?_
        · refine lv_if_ne (tgt := 108) hx hb dX6_mount_99 (by decide) (fun h8 => ?_) (fun h8 => ?_)
          · refine lv_iload_n hx hb dX6_mount_108 rfl (lv_at hl 2 rfl) ?_
            refine lv_iconst (v := 1) hx hb dX6_mount_109 (by decide) ?_
            refine lv_icmp_ne (tgt := 119) hx hb dX6_mount_110 (by decide) (fun h9 => ?_) (fun h9 => ?_)
            · refine lv_iload_n hx hb dX6_mount_119 rfl (lv_at hl 2 rfl) ?_
              refine lv_iload_n hx hb dX6_mount_120 rfl (lv_at hl 2 rfl) ?_
              refine pq_call (va_runS (As := [.int p0]) (rest := [.int p0, .int (sc 1), .ref (ad 8)]) ⟨hx, hb, hml, hown, hts⟩ (mt_X6_endless l p0) (va_cwS 1 hts gX6_mount_X6_endless rfl rfl rfl (by decide +kernel) ⟨Nat.le_of_ble_eq_true rfl, Nat.le_of_ble_eq_true rfl⟩) ⟨fun a U g mk q => q, fun U hU hW => ⟨rfl, trivial⟩⟩ rfl rfl hl.1 rfl (lv_room (Nat.le_of_ble_eq_true rfl)) dX6_mount_121 ⟨Nat.zero_le _, Nat.zero_le _⟩) ?_
              refine lv_iconst (v := 0) hx hb dX6_mount_124 (by decide) ?_
              refine pq_call (va_runS (As := [.int p0, .long (rf_endless p0), .int 0]) (rest := [.int (sc 1), .ref (ad 8)]) ⟨hx, hb, hml, hown, hts⟩ (mt_X6_signed l p0 (rf_endless p0) 0) (va_cwS 3 hts gX6_mount_X6_signed rfl rfl rfl (by decide +kernel) ⟨Nat.le_of_ble_eq_true rfl, Nat.le_of_ble_eq_true rfl⟩) ⟨fun a U g mk q => q, fun U hU hW => ⟨rfl, trivial⟩⟩ rfl rfl hl.1 rfl (lv_room (Nat.le_of_ble_eq_true rfl)) dX6_mount_125 ⟨Nat.zero_le _, Nat.zero_le _⟩) ?_
              exact pq_conv K7 (congrArg Value.long ((if_neg h8).trans (if_neg h9)))
            · refine lv_ldc2 hx hb hown (hts (.constantLong RX6 168 (9223372036854775807)) (by decide +kernel)) dX6_mount_113 ?_
              refine lv_goto (tgt := 128) hx hb dX6_mount_116 (by decide) ?_
              exact pq_conv K7 (congrArg Value.long ((if_neg h8).trans (if_pos h9)))
          · refine lv_ldc2 hx hb hown (hts (.constantLong RX6 166 (2147483647)) (by decide +kernel)) dX6_mount_102 ?_
            refine lv_goto (tgt := 128) hx hb dX6_mount_105 (by decide) ?_
            exact pq_conv K7 (congrArg Value.long (if_pos h8))
        refine va_last (f := (sJ 8)) hx hb hK hP hD hS 7 1 rfl rfl (hg1 h1 h2 h3) dX6_mount_128 (fun H locs hP hD hS => ?_)
        have hP : va_P (dC, dI) vwCl (rW cyI cyJ r ad (va_up (va_up sc 0 0) 1 ((sc 1) + 1)) (va_up sI 2 (upd (sI 2) (Int32.toNatClampNeg (sc 1)) p0)) (va_up (va_up sJ 7 (vp_updL (sJ 7) (Int32.toNatClampNeg (sc 1)) (if p0 = 0 then ((-2147483648) : Int64) else (if p0 = 1 then ((-9223372036854775808) : Int64) else (rf_signed p0 (rf_endless p0) 1))))) 8 (vp_updL (sJ 8) (Int32.toNatClampNeg (sc 1)) (if p0 = 0 then (2147483647 : Int64) else (if p0 = 1 then (9223372036854775807 : Int64) else (rf_signed p0 (rf_endless p0) 0)))))) H := hP
        have hD : va_D (rA r ad) (rW cyI cyJ r ad (va_up (va_up sc 0 0) 1 ((sc 1) + 1)) (va_up sI 2 (upd (sI 2) (Int32.toNatClampNeg (sc 1)) p0)) (va_up (va_up sJ 7 (vp_updL (sJ 7) (Int32.toNatClampNeg (sc 1)) (if p0 = 0 then ((-2147483648) : Int64) else (if p0 = 1 then ((-9223372036854775808) : Int64) else (rf_signed p0 (rf_endless p0) 1))))) 8 (vp_updL (sJ 8) (Int32.toNatClampNeg (sc 1)) (if p0 = 0 then (2147483647 : Int64) else (if p0 = 1 then (9223372036854775807 : Int64) else (rf_signed p0 (rf_endless p0) 0)))))) := hD
        refine lv_iload_n hx hb dX6_mount_129 rfl (lv_at hl 0 rfl) ?_
        exact W.iret (v := (sc 1)) hx hb hr (fun t ht hW => rq_end (con := Value.int) (show rf_mount sc sI sJ p0 = ((sc 1), (va_up (va_up sc 0 0) 1 ((sc 1) + 1)), (va_up sI 2 (upd (sI 2) (Int32.toNatClampNeg (sc 1)) p0)), (va_up (va_up sJ 7 (vp_updL (sJ 7) (Int32.toNatClampNeg (sc 1)) (if p0 = 0 then ((-2147483648) : Int64) else (if p0 = 1 then ((-9223372036854775808) : Int64) else (rf_signed p0 (rf_endless p0) 1))))) 8 (vp_updL (sJ 8) (Int32.toNatClampNeg (sc 1)) (if p0 = 0 then (2147483647 : Int64) else (if p0 = 1 then (9223372036854775807 : Int64) else (rf_signed p0 (rf_endless p0) 0)))))) from ((if_neg h1).trans ((if_pos h2).trans (if_neg h3)))) (by rw [ht]; exact hP) (hS.F ht)) hS.2.2 dX6_mount_130
      · refine lv_aload_n hx hb dX6_mount_29 rfl (lv_at hl 0 rfl) ?_
        refine lv_iconst (v := 2) hx hb dX6_mount_30 (by decide) ?_
        refine rq_call (va_runV (C := RX6) (As := [.int 2]) (rest := []) ⟨hx, hb, hml, hown, hts⟩ (mr_fail l dC dI cyI cyJ r ad (va_up sc 0 0) sI sJ 2 hD) (cwV 1 hts gX6_mount_X6_fail rfl rfl rfl (by decide +kernel) ⟨Nat.le_of_ble_eq_true rfl, Nat.le_of_ble_eq_true rfl⟩) ⟨rq_blind, va_recv hK hP (ci := 5) (q0 := 0) rfl rfl, rq_pre hP hK⟩ rfl rfl hl.1 rfl (lv_room (Nat.le_of_ble_eq_true rfl)) dX6_mount_31 ⟨Nat.zero_le _, Nat.zero_le _⟩) hS (fun q h => h) (fun H locs hP hz hk hS => ?_)
        have hD := pq_Dcongr (ws' := (rW cyI cyJ r ad (va_up sc 0 2) sI sJ)) hD rfl
        have hP : va_P (dC, dI) vwCl (rW cyI cyJ r ad (va_up sc 0 2) sI sJ) H := hP
        have hD : va_D (rA r ad) (rW cyI cyJ r ad (va_up sc 0 2) sI sJ) := hD
        exact W.iret (v := 0) hx hb hr (fun t ht hW => rq_end (con := Value.int) (show rf_mount sc sI sJ p0 = (0, (va_up sc 0 2), sI, sJ) from ((if_neg h1).trans ((if_pos h2).trans (if_pos h3)))) (by rw [ht]; exact hP) (hS.F ht)) hS.2.2 dX6_mount_34
    · refine lv_aload_n hx hb dX6_mount_14 rfl (lv_at hl 0 rfl) ?_
      refine lv_iconst (v := 1) hx hb dX6_mount_15 (by decide) ?_
      refine rq_call (va_runV (C := RX6) (As := [.int 1]) (rest := []) ⟨hx, hb, hml, hown, hts⟩ (mr_fail l dC dI cyI cyJ r ad (va_up sc 0 0) sI sJ 1 hD) (cwV 1 hts gX6_mount_X6_fail rfl rfl rfl (by decide +kernel) ⟨Nat.le_of_ble_eq_true rfl, Nat.le_of_ble_eq_true rfl⟩) ⟨rq_blind, va_recv hK hP (ci := 5) (q0 := 0) rfl rfl, rq_pre hP hK⟩ rfl rfl hl.1 rfl (lv_room (Nat.le_of_ble_eq_true rfl)) dX6_mount_16 ⟨Nat.zero_le _, Nat.zero_le _⟩) hS (fun q h => h) (fun H locs hP hz hk hS => ?_)
      have hD := pq_Dcongr (ws' := (rW cyI cyJ r ad (va_up sc 0 1) sI sJ)) hD rfl
      have hP : va_P (dC, dI) vwCl (rW cyI cyJ r ad (va_up sc 0 1) sI sJ) H := hP
      have hD : va_D (rA r ad) (rW cyI cyJ r ad (va_up sc 0 1) sI sJ) := hD
      exact W.iret (v := 0) hx hb hr (fun t ht hW => rq_end (con := Value.int) (show rf_mount sc sI sJ p0 = (0, (va_up sc 0 1), sI, sJ) from ((if_neg h1).trans (if_neg h2))) (by rw [ht]; exact hP) (hS.F ht)) hS.2.2 dX6_mount_19
def rf_whole (sc : Nat → Int32) (sI : Nat → Nat → Int32) (sJ : Nat → Nat → Int64) (p0 : Int32) : rS Int32 := if (rf_isInstrument (va_up sc 0 0) sI sJ p0) = 0 then (0, (va_up sc 0 1), sI, sJ) else (if ((sI 9) (Int32.toNatClampNeg p0)) = 0 then (0, (va_up sc 0 2), sI, sJ) else (if ((sI 2) (Int32.toNatClampNeg p0)) = 2 then ((FP.f2i (rf_single (rf_latest (va_up sc 0 0) sI sJ p0))), (va_up sc 0 0), sI, sJ) else (if ((sI 2) (Int32.toNatClampNeg p0)) = 3 then ((FP.d2i (rf_real (rf_latest (va_up sc 0 0) sI sJ p0))), (va_up sc 0 0), sI, sJ) else (((Int64.toInt32 (if (-2147483648) ≤ (rf_latest (va_up sc 0 0) sI sJ p0) then (if (rf_latest (va_up sc 0 0) sI sJ p0) ≤ 2147483647 then (rf_latest (va_up sc 0 0) sI sJ p0) else (2147483647 : Int64)) else ((-2147483648) : Int64))), (va_up sc 0 0), sI, sJ)))))
set_option maxHeartbeats 4000000 in
set_option maxRecDepth 100000 in
theorem mr_whole (l : Launch) (dC : Nat → ClassId) (dI : Nat → Nat → Nat) (cyI cyJ : ClassId) (r : Nat) (ad : Nat → Nat) (sc : Nat → Int32) (sI : Nat → Nat → Int32) (sJ : Nat → Nat → Int64) (p0 : Int32) (hD : va_D (rA r ad) (rW cyI cyJ r ad sc sI sJ)) (hg1 : ¬ ((rf_isInstrument (va_up sc 0 0) sI sJ p0) = 0) → vp_in p0 8) (hg2 : ¬ ((rf_isInstrument (va_up sc 0 0) sI sJ p0) = 0) → ¬ (((sI 9) (Int32.toNatClampNeg p0)) = 0) → (vp_in p0 8)) (hg3 : ¬ ((rf_isInstrument (va_up sc 0 0) sI sJ p0) = 0) → ¬ (((sI 9) (Int32.toNatClampNeg p0)) = 0) → (¬ (((sI 9) (Int32.toNatClampNeg p0)) = 0) → vp_in ((16 * p0) + ((((sI 9) (Int32.toNatClampNeg p0)) - 1) - (((sI 9) (Int32.toNatClampNeg p0)) - 1) / 16 * 16)) 128)) (hg4 : ¬ ((rf_isInstrument (va_up sc 0 0) sI sJ p0) = 0) → ¬ (((sI 9) (Int32.toNatClampNeg p0)) = 0) → ¬ (((sI 2) (Int32.toNatClampNeg p0)) = 2) → (((sI 2) (Int32.toNatClampNeg p0)) = 3) → (vn_snl2d (rf_latest (va_up sc 0 0) sI sJ p0) = false)) (hg5 : ¬ ((rf_isInstrument (va_up sc 0 0) sI sJ p0) = 0) → ¬ (((sI 9) (Int32.toNatClampNeg p0)) = 0) → (((sI 2) (Int32.toNatClampNeg p0)) = 2) → (vn_sni2f (Int64.toInt32 (rf_latest (va_up sc 0 0) sI sJ p0)) = false)) : Met l yX6_whole wsX6_whole ({ frames := 2, cells := 0, slots := 0, locals := 36 }) (rq_Pc (dC, dI) cyI cyJ r ad sc sI sJ [.ref r, .int p0]) (rq_Q (dC, dI) cyI cyJ r ad Value.int (rf_whole sc sI sJ p0)) 0 0 (rA r ad) := by
  refine Met.ofW (cc := cX6_whole) (maxL := 4) (ret := (some .int)) (by decide) rfl ?_
  intro p e s m args below meth c s₁ B hml hv
  obtain ⟨rfl, hP, hK⟩ := hv
  have hx := B.exec
  have hb := B.bytes
  have hr := B.returns
  have hts := atoms_spec (ws := wsX6_whole) B.pre
  have hown : s.vm.findClass RX6 = some m.cls := findClass_of_methodNamed B.named
  have hlocks := B.notSynchronized
  have hin : ∀ w ∈ wsX60, w ∈ wsX6_whole := by decide +kernel
  have hS : va_S (rA r ad) s.heap s.heap [] := va_S.rf
  have hl := lv_entry ([.ref r, .int p0]) (n := 4) (Nat.le_of_ble_eq_true rfl)
  rw [lg_entry_eq]
  generalize (lg_sl ([.ref r, .int p0]) ++ List.replicate (4 - (lg_sl ([.ref r, .int p0])).length) Slot.unset).toArray = ls at hl ⊢
  have hl : lv_has ls 4 [(0, .ref r), (1, .int p0)] := hl
  refine lv_aload_n hx hb dX6_whole_0 rfl (lv_at hl 0 rfl) ?_
  refine lv_iconst (v := 0) hx hb dX6_whole_1 (by decide) ?_
  refine va_put (D := (dC, dI)) (ci := 5) (v := .int 0) (ty := .int) (C := RX6) (T := TX6) (N := 19) hx hb hts hin tyX6 tyX6_ok nmX6 hown hK hP hD hS 0 rfl rfl 0 (by decide) (hts (.fieldLink RX6 53 "WeatherMastModel" "thrown" "I") (by decide +kernel)) (fun _ h9 => h9) rfl (by decide +kernel) rfl rfl (Nat.le_of_ble_eq_true rfl) dX6_whole_2 (fun H locs hP hD hS => ?_)
  have hP : va_P (dC, dI) vwCl (rW cyI cyJ r ad (va_up sc 0 0) sI sJ) H := hP
  have hD : va_D (rA r ad) (rW cyI cyJ r ad (va_up sc 0 0) sI sJ) := hD
  refine lv_aload_n hx hb dX6_whole_5 rfl (lv_at hl 0 rfl) ?_
  refine lv_iload_n hx hb dX6_whole_6 rfl (lv_at hl 1 rfl) ?_
  refine pq_call (va_runV (C := RX6) (As := [.int p0]) (rest := []) ⟨hx, hb, hml, hown, hts⟩ (mr_isInstrument l dC dI cyI cyJ r ad (va_up sc 0 0) sI sJ p0) (cwV 1 hts gX6_whole_X6_isInstrument rfl rfl rfl (by decide +kernel) ⟨Nat.le_of_ble_eq_true rfl, Nat.le_of_ble_eq_true rfl⟩) ⟨rq_blind, va_recv hK hP (ci := 5) (q0 := 0) rfl rfl, rq_pre hP hK⟩ rfl rfl hl.1 rfl (lv_room (Nat.le_of_ble_eq_true rfl)) dX6_whole_7 ⟨Nat.zero_le _, Nat.zero_le _⟩) ?_
  refine lv_if_ne (tgt := 19) hx hb dX6_whole_10 (by decide) (fun h1 => ?_) (fun h1 => ?_)
  · refine lv_aload_n hx hb dX6_whole_19 rfl (lv_at hl 0 rfl) ?_
    refine va_get (D := (dC, dI)) (ci := 5) (v := .ref (ad 9)) (C := RX6) (T := TX6) (N := 19) hx hb hts hin hown hK hP 0 rfl rfl 9 (by decide) (hts (.fieldLink RX6 32 "WeatherMastModel" "many" "[I") (by decide +kernel)) (fun _ h9 => h9) rfl dX6_whole_20 ?_
    refine lv_iload_n hx hb dX6_whole_23 rfl (lv_at hl 1 rfl) ?_
    refine va_iald (f := (sI 9)) hx hb hK hP 8 0 rfl rfl (hg1 h1) dX6_whole_24 ?_
    refine lv_if_ne (tgt := 34) hx hb dX6_whole_25 (by decide) (fun h2 => ?_) (fun h2 => ?_)
    · refine lv_aload_n hx hb dX6_whole_34 rfl (lv_at hl 0 rfl) ?_
      refine lv_iload_n hx hb dX6_whole_35 rfl (lv_at hl 1 rfl) ?_
      refine pq_call (va_runV (C := RX6) (As := [.int p0]) (rest := []) ⟨hx, hb, hml, hown, hts⟩ (mr_latest l dC dI cyI cyJ r ad (va_up sc 0 0) sI sJ p0 (hg2 h1 h2) (hg3 h1 h2)) (cwV 1 hts gX6_whole_X6_latest rfl rfl rfl (by decide +kernel) ⟨Nat.le_of_ble_eq_true rfl, Nat.le_of_ble_eq_true rfl⟩) ⟨rq_blind, va_recv hK hP (ci := 5) (q0 := 0) rfl rfl, rq_pre hP hK⟩ rfl rfl hl.1 rfl (lv_room (Nat.le_of_ble_eq_true rfl)) dX6_whole_36 ⟨Nat.zero_le _, Nat.zero_le _⟩) ?_
      refine lv_lstore_n (lv' := [(2, .long (rf_latest (va_up sc 0 0) sI sJ p0)), (0, .ref r), (1, .int p0)]) hx hb dX6_whole_39 rfl hl (by decide) rfl (fun ls hl => ?_)
      refine lv_aload_n hx hb dX6_whole_40 rfl (lv_at hl 1 rfl) ?_
      refine va_get (D := (dC, dI)) (ci := 5) (v := .ref (ad 2)) (C := RX6) (T := TX6) (N := 19) hx hb hts hin hown hK hP 0 rfl rfl 2 (by decide) (hts (.fieldLink RX6 7 "WeatherMastModel" "sorts" "[I") (by decide +kernel)) (fun _ h9 => h9) rfl dX6_whole_41 ?_
      refine lv_iload_n hx hb dX6_whole_44 rfl (lv_at hl 2 rfl) ?_
      refine va_iald (f := (sI 2)) hx hb hK hP 1 0 rfl rfl (hg1 h1) dX6_whole_45 ?_
      refine lv_iconst (v := 2) hx hb dX6_whole_46 (by decide) ?_
      refine lv_icmp_ne (tgt := 56) hx hb dX6_whole_47 (by decide) (fun h3 => ?_) (fun h3 => ?_)
      · refine lv_aload_n hx hb dX6_whole_56 rfl (lv_at hl 1 rfl) ?_
        refine va_get (D := (dC, dI)) (ci := 5) (v := .ref (ad 2)) (C := RX6) (T := TX6) (N := 19) hx hb hts hin hown hK hP 0 rfl rfl 2 (by decide) (hts (.fieldLink RX6 7 "WeatherMastModel" "sorts" "[I") (by decide +kernel)) (fun _ h9 => h9) rfl dX6_whole_57 ?_
        refine lv_iload_n hx hb dX6_whole_60 rfl (lv_at hl 2 rfl) ?_
        refine va_iald (f := (sI 2)) hx hb hK hP 1 0 rfl rfl (hg1 h1) dX6_whole_61 ?_
        refine lv_iconst (v := 3) hx hb dX6_whole_62 (by decide) ?_
        refine lv_icmp_ne (tgt := 72) hx hb dX6_whole_63 (by decide) (fun h4 => ?_) (fun h4 => ?_)
        · refine lv_lload_n hx hb dX6_whole_72 rfl (lv_at hl 0 rfl) ?_
          refine lv_ldc2 hx hb hown (hts (.constantLong RX6 164 (-2147483648)) (by decide +kernel)) dX6_whole_73 ?_
          refine pq_cut (g2 := F0 m 101 ls [.long (if (-2147483648) ≤ (rf_latest (va_up sc 0 0) sI sJ p0) then (if (rf_latest (va_up sc 0 0) sI sJ p0) ≤ 2147483647 then (rf_latest (va_up sc 0 0) sI sJ p0) else (2147483647 : Int64)) else ((-2147483648) : Int64))]) (fun K5 => ?_) ?_
          · refine pq_lcmp_ge (tgt := 86) hx hb dX6_whole_76 dX6_whole_77 (by decide) (fun h6 => ?_) (fun h6 => ?_)
            · refine lv_lload_n hx hb dX6_whole_86 rfl (lv_at hl 0 rfl) ?_
              refine lv_ldc2 hx hb hown (hts (.constantLong RX6 166 (2147483647)) (by decide +kernel)) dX6_whole_87 ?_
              refine pq_lcmp_le (tgt := 100) hx hb dX6_whole_90 dX6_whole_91 (by decide) (fun h7 => ?_) (fun h7 => ?_)
              · refine lv_lload_n hx hb dX6_whole_100 rfl (lv_at hl 0 rfl) ?_
                exact pq_conv K5 (congrArg Value.long ((if_pos h6).trans (if_pos h7)))
              · refine lv_ldc2 hx hb hown (hts (.constantLong RX6 166 (2147483647)) (by decide +kernel)) dX6_whole_94 ?_
                refine lv_goto (tgt := 101) hx hb dX6_whole_97 (by decide) ?_
                exact pq_conv K5 (congrArg Value.long ((if_pos h6).trans (if_neg h7)))
            · refine lv_ldc2 hx hb hown (hts (.constantLong RX6 164 (-2147483648)) (by decide +kernel)) dX6_whole_80 ?_
              refine lv_goto (tgt := 101) hx hb dX6_whole_83 (by decide) ?_
              exact pq_conv K5 (congrArg Value.long (if_neg h6))
          refine lv_l2i (v := (Int64.toInt32 (if (-2147483648) ≤ (rf_latest (va_up sc 0 0) sI sJ p0) then (if (rf_latest (va_up sc 0 0) sI sJ p0) ≤ 2147483647 then (rf_latest (va_up sc 0 0) sI sJ p0) else (2147483647 : Int64)) else ((-2147483648) : Int64)))) hx hb dX6_whole_101 rfl ?_
          exact W.iret (v := (Int64.toInt32 (if (-2147483648) ≤ (rf_latest (va_up sc 0 0) sI sJ p0) then (if (rf_latest (va_up sc 0 0) sI sJ p0) ≤ 2147483647 then (rf_latest (va_up sc 0 0) sI sJ p0) else (2147483647 : Int64)) else ((-2147483648) : Int64)))) hx hb hr (fun t ht hW => rq_end (con := Value.int) (show rf_whole sc sI sJ p0 = ((Int64.toInt32 (if (-2147483648) ≤ (rf_latest (va_up sc 0 0) sI sJ p0) then (if (rf_latest (va_up sc 0 0) sI sJ p0) ≤ 2147483647 then (rf_latest (va_up sc 0 0) sI sJ p0) else (2147483647 : Int64)) else ((-2147483648) : Int64))), (va_up sc 0 0), sI, sJ) from ((if_neg h1).trans ((if_neg h2).trans ((if_neg h3).trans (if_neg h4))))) (by rw [ht]; exact hP) (hS.F ht)) hS.2.2 dX6_whole_102
        · refine lv_lload_n hx hb dX6_whole_66 rfl (lv_at hl 0 rfl) ?_
          refine pq_call (va_runS (As := [.long (rf_latest (va_up sc 0 0) sI sJ p0)]) (rest := []) ⟨hx, hb, hml, hown, hts⟩ (mt_X6_real l (rf_latest (va_up sc 0 0) sI sJ p0) (hg4 h1 h2 h3 h4)) (va_cwS 1 hts gX6_whole_X6_real rfl rfl rfl (by decide +kernel) ⟨Nat.le_of_ble_eq_true rfl, Nat.le_of_ble_eq_true rfl⟩) ⟨fun a U g mk q => q, fun U hU hW => ⟨rfl, trivial⟩⟩ rfl rfl hl.1 rfl (lv_room (Nat.le_of_ble_eq_true rfl)) dX6_whole_67 ⟨Nat.zero_le _, Nat.zero_le _⟩) ?_
          refine lv_d2i hx hb dX6_whole_70 ?_
          exact W.iret (v := (FP.d2i (rf_real (rf_latest (va_up sc 0 0) sI sJ p0)))) hx hb hr (fun t ht hW => rq_end (con := Value.int) (show rf_whole sc sI sJ p0 = ((FP.d2i (rf_real (rf_latest (va_up sc 0 0) sI sJ p0))), (va_up sc 0 0), sI, sJ) from ((if_neg h1).trans ((if_neg h2).trans ((if_neg h3).trans (if_pos h4))))) (by rw [ht]; exact hP) (hS.F ht)) hS.2.2 dX6_whole_71
      · refine lv_lload_n hx hb dX6_whole_50 rfl (lv_at hl 0 rfl) ?_
        refine pq_call (va_runS (As := [.long (rf_latest (va_up sc 0 0) sI sJ p0)]) (rest := []) ⟨hx, hb, hml, hown, hts⟩ (mt_X6_single l (rf_latest (va_up sc 0 0) sI sJ p0) (hg5 h1 h2 h3)) (va_cwS 1 hts gX6_whole_X6_single rfl rfl rfl (by decide +kernel) ⟨Nat.le_of_ble_eq_true rfl, Nat.le_of_ble_eq_true rfl⟩) ⟨fun a U g mk q => q, fun U hU hW => ⟨rfl, trivial⟩⟩ rfl rfl hl.1 rfl (lv_room (Nat.le_of_ble_eq_true rfl)) dX6_whole_51 ⟨Nat.zero_le _, Nat.zero_le _⟩) ?_
        refine lv_f2i hx hb dX6_whole_54 ?_
        exact W.iret (v := (FP.f2i (rf_single (rf_latest (va_up sc 0 0) sI sJ p0)))) hx hb hr (fun t ht hW => rq_end (con := Value.int) (show rf_whole sc sI sJ p0 = ((FP.f2i (rf_single (rf_latest (va_up sc 0 0) sI sJ p0))), (va_up sc 0 0), sI, sJ) from ((if_neg h1).trans ((if_neg h2).trans (if_pos h3)))) (by rw [ht]; exact hP) (hS.F ht)) hS.2.2 dX6_whole_55
    · refine lv_aload_n hx hb dX6_whole_28 rfl (lv_at hl 0 rfl) ?_
      refine lv_iconst (v := 2) hx hb dX6_whole_29 (by decide) ?_
      refine rq_call (va_runV (C := RX6) (As := [.int 2]) (rest := []) ⟨hx, hb, hml, hown, hts⟩ (mr_fail l dC dI cyI cyJ r ad (va_up sc 0 0) sI sJ 2 hD) (cwV 1 hts gX6_whole_X6_fail rfl rfl rfl (by decide +kernel) ⟨Nat.le_of_ble_eq_true rfl, Nat.le_of_ble_eq_true rfl⟩) ⟨rq_blind, va_recv hK hP (ci := 5) (q0 := 0) rfl rfl, rq_pre hP hK⟩ rfl rfl hl.1 rfl (lv_room (Nat.le_of_ble_eq_true rfl)) dX6_whole_30 ⟨Nat.zero_le _, Nat.zero_le _⟩) hS (fun q h => h) (fun H locs hP hz hk hS => ?_)
      have hD := pq_Dcongr (ws' := (rW cyI cyJ r ad (va_up sc 0 2) sI sJ)) hD rfl
      have hP : va_P (dC, dI) vwCl (rW cyI cyJ r ad (va_up sc 0 2) sI sJ) H := hP
      have hD : va_D (rA r ad) (rW cyI cyJ r ad (va_up sc 0 2) sI sJ) := hD
      exact W.iret (v := 0) hx hb hr (fun t ht hW => rq_end (con := Value.int) (show rf_whole sc sI sJ p0 = (0, (va_up sc 0 2), sI, sJ) from ((if_neg h1).trans (if_pos h2))) (by rw [ht]; exact hP) (hS.F ht)) hS.2.2 dX6_whole_33
  · refine lv_aload_n hx hb dX6_whole_13 rfl (lv_at hl 0 rfl) ?_
    refine lv_iconst (v := 1) hx hb dX6_whole_14 (by decide) ?_
    refine rq_call (va_runV (C := RX6) (As := [.int 1]) (rest := []) ⟨hx, hb, hml, hown, hts⟩ (mr_fail l dC dI cyI cyJ r ad (va_up sc 0 0) sI sJ 1 hD) (cwV 1 hts gX6_whole_X6_fail rfl rfl rfl (by decide +kernel) ⟨Nat.le_of_ble_eq_true rfl, Nat.le_of_ble_eq_true rfl⟩) ⟨rq_blind, va_recv hK hP (ci := 5) (q0 := 0) rfl rfl, rq_pre hP hK⟩ rfl rfl hl.1 rfl (lv_room (Nat.le_of_ble_eq_true rfl)) dX6_whole_15 ⟨Nat.zero_le _, Nat.zero_le _⟩) hS (fun q h => h) (fun H locs hP hz hk hS => ?_)
    have hD := pq_Dcongr (ws' := (rW cyI cyJ r ad (va_up sc 0 1) sI sJ)) hD rfl
    have hP : va_P (dC, dI) vwCl (rW cyI cyJ r ad (va_up sc 0 1) sI sJ) H := hP
    have hD : va_D (rA r ad) (rW cyI cyJ r ad (va_up sc 0 1) sI sJ) := hD
    exact W.iret (v := 0) hx hb hr (fun t ht hW => rq_end (con := Value.int) (show rf_whole sc sI sJ p0 = (0, (va_up sc 0 1), sI, sJ) from (if_pos h1)) (by rw [ht]; exact hP) (hS.F ht)) hS.2.2 dX6_whole_18
