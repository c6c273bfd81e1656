/-! the reference's cells: the object at r, its arrays at ad 2 .. ad 15; what they hold: sc (its numbers), sI (its rows of ints), sJ (its rows of longs), by the fields' places -/
abbrev rT (cyI cyJ : ClassId) : List (ClassId × FieldType) := [(cyI, .int), (cyJ, .long)]
def rW (cyI cyJ : ClassId) (r : Nat) (ad : Nat → Nat) (sc : Nat → Int32) (sI : Nat → Nat → Int32) (sJ : Nat → Nat → Int64) : va_W := [(r, .inr (5, [.int (sc 0), .int (sc 1), .ref (ad 2), .ref (ad 3), .ref (ad 4), .ref (ad 5), .ref (ad 6), .ref (ad 7), .ref (ad 8), .ref (ad 9), .ref (ad 10), .ref (ad 11), .ref (ad 12), .ref (ad 13), .ref (ad 14), .ref (ad 15), .int (sc 16), .int (sc 17), .int (sc 18)])),
  (ad 2, .inl (cyI, 8, .inl (sI 2))), (ad 3, .inl (cyI, 8, .inl (sI 3))), (ad 4, .inl (cyI, 48, .inl (sI 4))), (ad 5, .inl (cyI, 48, .inl (sI 5))), (ad 6, .inl (cyJ, 48, .inr (.inl (sJ 6)))), (ad 7, .inl (cyJ, 8, .inr (.inl (sJ 7)))), (ad 8, .inl (cyJ, 8, .inr (.inl (sJ 8)))), (ad 9, .inl (cyI, 8, .inl (sI 9))), (ad 10, .inl (cyJ, 128, .inr (.inl (sJ 10)))), (ad 11, .inl (cyJ, 8, .inr (.inl (sJ 11)))), (ad 12, .inl (cyJ, 8, .inr (.inl (sJ 12)))), (ad 13, .inl (cyJ, 8, .inr (.inl (sJ 13)))), (ad 14, .inl (cyJ, 8, .inr (.inl (sJ 14)))), (ad 15, .inl (cyI, 8, .inl (sI 15)))]
def rA (r : Nat) (ad : Nat → Nat) : Nat → Prop := fun q => q = r ∨ ∃ k : Nat, k < 16 ∧ q = ad k
theorem pq_Dcongr {A : Nat → Prop} {ws ws' : va_W} (h : va_D A ws) (e : ws'.map Prod.fst = ws.map Prod.fst) : va_D A ws' := by
  have key : ∀ (i : Nat) (p : Nat × va_E), ws'[i]? = some p → ∃ p', ws[i]? = some p' ∧ p'.1 = p.1 := by
    intro i p hp
    have h1 : (ws'.map Prod.fst)[i]? = some p.1 := by rw [List.getElem?_map, hp]; rfl
    rw [e, List.getElem?_map] at h1
    cases h2 : ws[i]? with
    | none => rw [h2] at h1; cases h1
    | some p' => rw [h2] at h1; exact ⟨p', rfl, Option.some.inj h1⟩
  refine ⟨fun i j p q hi hj e1 => ?_, fun k q hk => ?_⟩
  · obtain ⟨p', a1, a2⟩ := key i p hi
    obtain ⟨q', b1, b2⟩ := key j q hj
    exact h.1 i j p' q' a1 b1 (by rw [a2, b2, e1])
  · obtain ⟨q', b1, b2⟩ := key k q hk
    rw [← b2]; exact h.2 k q' b1
/-- what a method of the reference's begins with -/
def rq_Pc (D : va_G) (cyI cyJ : ClassId) (r : Nat) (ad : Nat → Nat) (sc : Nat → Int32) (sI : Nat → Nat → Int32) (sJ : Nat → Nat → Int64) (av : List Value) : Array Value → State → Prop := va_Pc av (fun U => va_P D vwCl (rW cyI cyJ r ad sc sI sJ) U.heap ∧ va_K D vwCl (rT cyI cyJ) U)
theorem rq_blind {D : va_G} {cyI cyJ : ClassId} {r : Nat} {ad : Nat → Nat} {sc : Nat → Int32} {sI : Nat → Nat → Int32} {sJ : Nat → Nat → Int64} {av : List Value} : FrameBlind (rq_Pc D cyI cyJ r ad sc sI sJ av) := by
  intro a U g mk q
  obtain ⟨q0, qP, qK⟩ := q
  exact ⟨q0, qP, va_K.moved (u := U) (U := U.calling g mk a) (Vm.Alike.refl U.vm) qK⟩
theorem rq_pre {D : va_G} {cyI cyJ : ClassId} {r : Nat} {ad : Nat → Nat} {sc : Nat → Int32} {sI : Nat → Nat → Int32} {sJ : Nat → Nat → Int64} {av : List Value} {s : State} {H : Heap} (hP : va_P D vwCl (rW cyI cyJ r ad sc sI sJ) H) (hK : va_K D vwCl (rT cyI cyJ) s) (U : State) (hU : U.heap = H) (hW : s.WarmedH U.vm) : rq_Pc D cyI cyJ r ad sc sI sJ av av.toArray U :=
  ⟨rfl, by rw [hU]; exact hP, va_K.moved hW.alike hK⟩
abbrev rS (α : Type) : Type := α × (Nat → Int32) × (Nat → Nat → Int32) × (Nat → Nat → Int64)
/-- its end: the answer and what the cells hold, u -/
def rq_Q {α : Type} (D : va_G) (cyI cyJ : ClassId) (r : Nat) (ad : Nat → Nat) (con : α → Value) (u : rS α) : Array Value → State → Outcome → State → Prop := fun _ st o t => o = .returned (some (con u.1)) ∧ va_P D vwCl (rW cyI cyJ r ad u.2.1 u.2.2.1 u.2.2.2) t.heap ∧ va_F (rA r ad) st t
theorem rq_call {p : Program} {l : Launch} {e : Env} {R : Room} {s : State} {m : MethodId} {args : Array Value} {below : List Frame} {meth : Method} {c : Code} {H : Heap} {locs : List Loc} {cells slots : Nat} {Q : State → Prop} {pc : Nat} {ls : Array Slot} {rest st0 : List Value} {a : Array Value} {A0 : Nat → Prop} {H0 : Heap} {α : Type} {con : α → Value} {u : rS α} {D : va_G} {cyI cyJ : ClassId} {r : Nat} {ad : Nat → Nat}
    (hr : va_Run p l e R s m args below meth c H locs cells slots 0 0 (F0 m pc ls st0) rest (rq_Q D cyI cyJ r ad con u a) (rA r ad)) (hS : va_S A0 H0 H locs) (hA : ∀ q, rA r ad q → A0 q)
    (kk : ∀ (H1 : Heap) (locs1 : List Loc), va_P D vwCl (rW cyI cyJ r ad u.2.1 u.2.2.1 u.2.2.2) H1 → H.size ≤ H1.size → (∀ q : Nat, q < H.size → ¬ rA r ad q → H1[q]? = H[q]?) → va_S A0 H0 H1 locs1 → W p l e R s m args below meth c H1 locs1 cells slots Q (F0 m (pc + 3) ls (con u.1 :: rest))) : W p l e R s m args below meth c H locs cells slots Q (F0 m pc ls st0) := by
  intro T hT X
  obtain ⟨v, st₀, t, T', L, h0, X', hL, e1, e2, ⟨hv, hp, hz, hk⟩, st⟩ := hr T hT X
  cases hv
  rw [h0] at hz hk
  obtain ⟨t2, a1, b1⟩ := kk T'.heap (locs ++ L) (by rw [e1]; exact hp) (by rw [e1]; exact hz) (fun q h1 h2 => by rw [e1]; exact hk q h1 h2)
    ⟨Nat.le_trans hS.1 (by rw [e1]; exact hz), fun q h1 h2 => by rw [e1, hk q (Nat.lt_of_lt_of_le h1 hS.1) (fun z => h2 (hA q z))]; exact hS.2.1 q h1 h2, fun q hq => by
      rcases List.mem_append.mp hq with h | h
      · exact hS.2.2 q h
      · exact hA _ (hL q h)⟩ T' rfl X'
  exact ⟨t2, st t2 a1, b1⟩
/-- an index that is looked at against a number of at most 8 -/
theorem rb_ix {n x : Int32} (hn : n.toInt ≤ 8) (h0 : ¬ x < 0) (h1 : ¬ n ≤ x) : vp_in x 8 := by
  rw [vp_in_iff]
  rw [Int32.lt_iff_toInt_lt, Int32.toInt_zero] at h0
  rw [Int32.le_iff_toInt_le] at h1
  omega
