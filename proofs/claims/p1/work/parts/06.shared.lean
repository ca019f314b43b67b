set_option maxHeartbeats 4000000 in
set_option maxRecDepth 100000 in
/-- checkRange(value, least, most) -/
theorem c_X10_checkRange (l : Launch) (hf : l.stackTraces = false) (dC : Nat → ClassId) (dI : Nat → Nat → Nat) (ad sa : Nat → Nat) (x : Int32) (lo : Int32) (hi : Int32) (sz : Nat) : vx_Met l yX10_checkRange wq_X10_checkRange ({ frames := 8, cells := 1, slots := 6, locals := 200 }) (va_Pc [.int x, .int lo, .int hi] (fun U => U.heap.size = sz ∧ va_P (dC, dI) vwCl [] U.heap ∧ va_K (dC, dI) vwCl [] U ∧ va_D (fun _ => True) [] ∧ GG (va_A [] sz) ad sa U U.heap)) (va_Qv (fun (u : Unit) => lo ≤ x ∧ x ≤ hi) (fun (u : Unit) t => va_P (dC, dI) vwCl [] t.heap ∧ va_K (dC, dI) vwCl [] t ∧ va_D (va_A [] sz) []) (va_A [] sz)) (vx_X (fun _ : Unit => True) (fun E _ _ => (fun E => E = xIA ∧ ¬ (lo ≤ x ∧ x ≤ hi)) E) (va_A [] sz)) 1 6 (va_A [] sz) := by
  refine vx_ofW (cc := cX10_checkRange) (maxL := 3) (ret := none) (by decide) rfl ?_
  intro p e s m args below meth c s₁ B hml hnt hv
  obtain ⟨rfl, hsz, hP, hK, hD0, hG⟩ := hv
  have hx := B.exec
  have hb := B.bytes
  have hr := B.returns
  have hts := atoms_spec (ws := wq_X10_checkRange) B.pre
  have htU : ∀ w ∈ UW, w.before _ s = true := fun w h => hts w (List.mem_cons_of_mem _ h)
  have hown : s.vm.findClass RX10 = some m.cls := findClass_of_methodNamed B.named
  have hlocks := B.notSynchronized
  have atA : ∀ w ∈ (vx_atS RX10 238 xIA ["java/lang/RuntimeException", "java/lang/Exception"]).filter goodWord, w.before _ s = true := fun w h => htU w (uat_A w h)
  subst hsz
  have hD := hD0.self (sz := s.heap.size)
  generalize hAe : va_A [] s.heap.size = A at hD hG ⊢
  have hA : ∀ q : Nat, s.heap.size ≤ q → A q := fun q h => by rw [← hAe]; exact Or.inr h
  have hS : va_S A s.heap s.heap [] := va_S.rf
  have hl := lv_entry ([.int x, .int lo, .int hi]) (n := 3) (Nat.le_of_ble_eq_true rfl)
  rw [lg_entry_eq]
  generalize (lg_sl ([.int x, .int lo, .int hi]) ++ List.replicate (3 - (lg_sl ([.int x, .int lo, .int hi])).length) Slot.unset).toArray = ls at hl ⊢
  have hl : lv_has ls 3 [(0, .int x), (1, .int lo), (2, .int hi)] := hl
  refine lv_iload_n hx hb dX10_checkRange_0 rfl (lv_at hl 0 rfl) ?_
  refine lv_iload_n hx hb dX10_checkRange_1 rfl (lv_at hl 1 rfl) ?_
  refine lv_icmp_lt (tgt := 10) hx hb dX10_checkRange_2 (by decide) (fun c_1 => ?_) (fun c_1 => ?_)
  · exact vx_throwS hx hb hf (names := ["java/lang/RuntimeException", "java/lang/Exception"]) (A := A) hown (by decide) (by decide) (htU _ u_446) (htU _ u_104) (hG.tx 7 rfl) (at_h hG 0 rfl atA at_2A) at_gA hG.2.1 hG.2.2.1 hS (by rw [hml]; exact hl.1) dX10_checkRange_10 dX10_checkRange_13 dX10_checkRange_14 dX10_checkRange_16 dX10_checkRange_19 (fun x h => (hnt x h).elim) (Nat.le_of_ble_eq_true rfl) (Nat.le_of_ble_eq_true rfl) (Nat.le_of_ble_eq_true rfl) (Nat.le_of_ble_eq_true rfl) hlocks (fun t ha h1 h2 => ⟨(), trivial, ⟨rfl, fun h9 => absurd h9.1 (Int32.not_le.mpr c_1)⟩, ⟨Nat.le_trans hS.1 h1, fun q h3 h4 => (h2 q (Nat.lt_of_lt_of_le h3 hS.1)).trans (hS.2.1 q h3 h4)⟩⟩) hS.2.2 (Nat.le_of_ble_eq_true rfl) (Nat.le_of_ble_eq_true rfl)
  · refine lv_iload_n hx hb dX10_checkRange_5 rfl (lv_at hl 0 rfl) ?_
    refine lv_iload_n hx hb dX10_checkRange_6 rfl (lv_at hl 2 rfl) ?_
    refine lv_icmp_le (tgt := 20) hx hb dX10_checkRange_7 (by decide) (fun c_2 => ?_) (fun c_2 => ?_)
    · have hP9 := hP.sub (ws' := []) [] rfl
      have hD9 := hD.sub (ws' := []) [] (by decide) rfl
      have hK9 := hK.sub (tys' := []) [] rfl
      refine W.widen (k := 1) (n := 6) (Nat.le_of_ble_eq_true rfl) (Nat.le_of_ble_eq_true rfl) ?_
      refine vx_ret ?_
      exact W.vret hx hb hr (fun t ht hW => ⟨⟨(), rfl, ⟨Int32.not_lt.mp c_1, c_2⟩, ⟨by rw [ht]; exact hP9, va_K.moved hW.alike hK9, hD9⟩⟩, hS.F ht⟩) hS.2.2 dX10_checkRange_20
    · exact vx_throwS hx hb hf (names := ["java/lang/RuntimeException", "java/lang/Exception"]) (A := A) hown (by decide) (by decide) (htU _ u_446) (htU _ u_104) (hG.tx 7 rfl) (at_h hG 0 rfl atA at_2A) at_gA hG.2.1 hG.2.2.1 hS (by rw [hml]; exact hl.1) dX10_checkRange_10 dX10_checkRange_13 dX10_checkRange_14 dX10_checkRange_16 dX10_checkRange_19 (fun x h => (hnt x h).elim) (Nat.le_of_ble_eq_true rfl) (Nat.le_of_ble_eq_true rfl) (Nat.le_of_ble_eq_true rfl) (Nat.le_of_ble_eq_true rfl) hlocks (fun t ha h1 h2 => ⟨(), trivial, ⟨rfl, fun h9 => c_2 h9.2⟩, ⟨Nat.le_trans hS.1 h1, fun q h3 h4 => (h2 q (Nat.lt_of_lt_of_le h3 hS.1)).trans (hS.2.1 q h3 h4)⟩⟩) hS.2.2 (Nat.le_of_ble_eq_true rfl) (Nat.le_of_ble_eq_true rfl)

set_option maxHeartbeats 4000000 in
set_option maxRecDepth 100000 in
/-- nodeOf(node): there is none -/
theorem c_X10_nodeOf (l : Launch) (hf : l.stackTraces = false) (dC : Nat → ClassId) (dI : Nat → Nat → Nat) (ad sa : Nat → Nat) (h : Nat) (v : Nat → Nat) (us : Nat → Nat) (cN : ClassId) (x : Int32) (sz : Nat) : vx_Met l yX10_nodeOf wq_X10_nodeOf ({ frames := 8, cells := 1, slots := 6, locals := 200 }) (va_Pc [.ref h, .int x] (fun U => U.heap.size = sz ∧ va_P (dC, dI) vwCl [(h, .inr (11, [.ref (v 0), .int 0, .ref (v 2), .ref (v 3), .ref (v 4), .ref (v 5), .ref (v 6)])), (v 0, .inl (cN, 60, .inr (.inr (.inr (.inr (fun _ => none)))))), (v 6, .inr (8, [.int 0, .int 0, .int 0, .int 0, .long 0, .int 0, .int 0, .ref (us 7), .ref (us 8), .ref (us 9), .ref (us 10), .int 0, .ref (us 12), .ref (us 13), .ref (us 14)]))] U.heap ∧ va_K (dC, dI) vwCl [(cN, .object RX4)] U ∧ va_D (fun _ => True) [(h, .inr (11, [.ref (v 0), .int 0, .ref (v 2), .ref (v 3), .ref (v 4), .ref (v 5), .ref (v 6)])), (v 0, .inl (cN, 60, .inr (.inr (.inr (.inr (fun _ => none)))))), (v 6, .inr (8, [.int 0, .int 0, .int 0, .int 0, .long 0, .int 0, .int 0, .ref (us 7), .ref (us 8), .ref (us 9), .ref (us 10), .int 0, .ref (us 12), .ref (us 13), .ref (us 14)]))] ∧ GG (va_A [(h, .inr (11, [.ref (v 0), .int 0, .ref (v 2), .ref (v 3), .ref (v 4), .ref (v 5), .ref (v 6)])), (v 0, .inl (cN, 60, .inr (.inr (.inr (.inr (fun _ => none)))))), (v 6, .inr (8, [.int 0, .int 0, .int 0, .int 0, .long 0, .int 0, .int 0, .ref (us 7), .ref (us 8), .ref (us 9), .ref (us 10), .int 0, .ref (us 12), .ref (us 13), .ref (us 14)]))] sz) ad sa U U.heap)) (va_Qq (fun (r : Option Nat) (u : Unit) => False) (fun (u : Unit) t => va_P (dC, dI) vwCl [] t.heap ∧ va_K (dC, dI) vwCl [] t ∧ va_D (va_A [(h, .inr (11, [.ref (v 0), .int 0, .ref (v 2), .ref (v 3), .ref (v 4), .ref (v 5), .ref (v 6)])), (v 0, .inl (cN, 60, .inr (.inr (.inr (.inr (fun _ => none)))))), (v 6, .inr (8, [.int 0, .int 0, .int 0, .int 0, .long 0, .int 0, .int 0, .ref (us 7), .ref (us 8), .ref (us 9), .ref (us 10), .int 0, .ref (us 12), .ref (us 13), .ref (us 14)]))] sz) []) (va_A [(h, .inr (11, [.ref (v 0), .int 0, .ref (v 2), .ref (v 3), .ref (v 4), .ref (v 5), .ref (v 6)])), (v 0, .inl (cN, 60, .inr (.inr (.inr (.inr (fun _ => none)))))), (v 6, .inr (8, [.int 0, .int 0, .int 0, .int 0, .long 0, .int 0, .int 0, .ref (us 7), .ref (us 8), .ref (us 9), .ref (us 10), .int 0, .ref (us 12), .ref (us 13), .ref (us 14)]))] sz)) (vx_X (fun _ : Unit => True) (fun E _ _ => (fun E => E = xIO ∧ True) E) (va_A [(h, .inr (11, [.ref (v 0), .int 0, .ref (v 2), .ref (v 3), .ref (v 4), .ref (v 5), .ref (v 6)])), (v 0, .inl (cN, 60, .inr (.inr (.inr (.inr (fun _ => none)))))), (v 6, .inr (8, [.int 0, .int 0, .int 0, .int 0, .long 0, .int 0, .int 0, .ref (us 7), .ref (us 8), .ref (us 9), .ref (us 10), .int 0, .ref (us 12), .ref (us 13), .ref (us 14)]))] sz)) 1 6 (va_A [(h, .inr (11, [.ref (v 0), .int 0, .ref (v 2), .ref (v 3), .ref (v 4), .ref (v 5), .ref (v 6)])), (v 0, .inl (cN, 60, .inr (.inr (.inr (.inr (fun _ => none)))))), (v 6, .inr (8, [.int 0, .int 0, .int 0, .int 0, .long 0, .int 0, .int 0, .ref (us 7), .ref (us 8), .ref (us 9), .ref (us 10), .int 0, .ref (us 12), .ref (us 13), .ref (us 14)]))] sz) := by
  refine vx_ofW (cc := cX10_nodeOf) (maxL := 3) (ret := (some (.object "LayoutPress$Node"))) (by decide) rfl ?_
  intro p e s m args below meth c s₁ B hml hnt hv
  obtain ⟨rfl, hsz, hP, hK, hD0, hG⟩ := hv
  have hx := B.exec
  have hb := B.bytes
  have hr := B.returns
  have hts := atoms_spec (ws := wq_X10_nodeOf) B.pre
  have htU : ∀ w ∈ UW, w.before _ s = true := fun w h => hts w (List.mem_cons_of_mem _ h)
  have hown : s.vm.findClass RX10 = some m.cls := findClass_of_methodNamed B.named
  have hlocks := B.notSynchronized
  have tX10 : ∀ w ∈ wsX100, w.before _ s = true := fun w h => htU w (uX_X10 w h)
  have atO : ∀ w ∈ (vx_atS RX10 212 xIO ["java/lang/RuntimeException", "java/lang/Exception"]).filter goodWord, w.before _ s = true := fun w h => htU w (uat_O w h)
  subst hsz
  have hD := hD0.self (sz := s.heap.size)
  generalize hAe : va_A [(h, .inr (11, [.ref (v 0), .int 0, .ref (v 2), .ref (v 3), .ref (v 4), .ref (v 5), .ref (v 6)])), (v 0, .inl (cN, 60, .inr (.inr (.inr (.inr (fun _ => none)))))), (v 6, .inr (8, [.int 0, .int 0, .int 0, .int 0, .long 0, .int 0, .int 0, .ref (us 7), .ref (us 8), .ref (us 9), .ref (us 10), .int 0, .ref (us 12), .ref (us 13), .ref (us 14)]))] s.heap.size = A at hD hG ⊢
  have hA : ∀ q : Nat, s.heap.size ≤ q → A q := fun q h => by rw [← hAe]; exact Or.inr h
  have hS : va_S A s.heap s.heap [] := va_S.rf
  have hl := lv_entry ([.ref h, .int x]) (n := 3) (Nat.le_of_ble_eq_true rfl)
  rw [lg_entry_eq]
  generalize (lg_sl ([.ref h, .int x]) ++ List.replicate (3 - (lg_sl ([.ref h, .int x])).length) Slot.unset).toArray = ls at hl ⊢
  have hl : lv_has ls 3 [(0, .ref h), (1, .int x)] := hl
  refine lv_iload_n hx hb dX10_nodeOf_0 rfl (lv_at hl 1 rfl) ?_
  refine lv_if_lt (tgt := 21) hx hb dX10_nodeOf_1 (by decide) (fun c_1 => ?_) (fun c_1 => ?_)
  · exact vx_throwS hx hb hf (names := ["java/lang/RuntimeException", "java/lang/Exception"]) (A := A) hown (by decide) (by decide) (htU _ u_691) (htU _ u_109) (hG.tx 10 rfl) (at_h hG 2 rfl atO at_2O) at_gO hG.2.1 hG.2.2.1 hS (by rw [hml]; exact hl.1) dX10_nodeOf_21 dX10_nodeOf_24 dX10_nodeOf_25 dX10_nodeOf_27 dX10_nodeOf_30 (fun x h => (hnt x h).elim) (Nat.le_of_ble_eq_true rfl) (Nat.le_of_ble_eq_true rfl) (Nat.le_of_ble_eq_true rfl) (Nat.le_of_ble_eq_true rfl) hlocks (fun t ha h1 h2 => ⟨(), trivial, ⟨rfl, trivial⟩, ⟨Nat.le_trans hS.1 h1, fun q h3 h4 => (h2 q (Nat.lt_of_lt_of_le h3 hS.1)).trans (hS.2.1 q h3 h4)⟩⟩) hS.2.2 (Nat.le_of_ble_eq_true rfl) (Nat.le_of_ble_eq_true rfl)
  · refine lv_iload_n hx hb dX10_nodeOf_4 rfl (lv_at hl 1 rfl) ?_
    refine lv_aload_n hx hb dX10_nodeOf_5 rfl (lv_at hl 0 rfl) ?_
    refine va_get (D := (dC, dI)) (ci := 11) (v := .int 0) (C := RX10) (T := TX10) (N := 7) hx hb tX10 (fun _ h9 => h9) hown hK hP 0 rfl rfl 1 (by decide) (htU _ u_401) (fun _ h9 => h9) rfl dX10_nodeOf_6 ?_
    refine lv_icmp_ge (tgt := 21) hx hb dX10_nodeOf_9 (by decide) (fun c_2 => ?_) (fun c_2 => ?_)
    · exact vx_throwS hx hb hf (names := ["java/lang/RuntimeException", "java/lang/Exception"]) (A := A) hown (by decide) (by decide) (htU _ u_691) (htU _ u_109) (hG.tx 10 rfl) (at_h hG 2 rfl atO at_2O) at_gO hG.2.1 hG.2.2.1 hS (by rw [hml]; exact hl.1) dX10_nodeOf_21 dX10_nodeOf_24 dX10_nodeOf_25 dX10_nodeOf_27 dX10_nodeOf_30 (fun x h => (hnt x h).elim) (Nat.le_of_ble_eq_true rfl) (Nat.le_of_ble_eq_true rfl) (Nat.le_of_ble_eq_true rfl) (Nat.le_of_ble_eq_true rfl) hlocks (fun t ha h1 h2 => ⟨(), trivial, ⟨rfl, trivial⟩, ⟨Nat.le_trans hS.1 h1, fun q h3 h4 => (h2 q (Nat.lt_of_lt_of_le h3 hS.1)).trans (hS.2.1 q h3 h4)⟩⟩) hS.2.2 (Nat.le_of_ble_eq_true rfl) (Nat.le_of_ble_eq_true rfl)
    · exact absurd (Int32.not_lt.mp c_1) c_2

set_option maxHeartbeats 4000000 in
set_option maxRecDepth 100000 in
/-- checkLine(line): there is none -/
theorem c_X10_checkLine (l : Launch) (hf : l.stackTraces = false) (dC : Nat → ClassId) (dI : Nat → Nat → Nat) (ad sa : Nat → Nat) (h : Nat) (v : Nat → Nat) (us : Nat → Nat) (cN : ClassId) (x : Int32) (sz : Nat) : vx_Met l yX10_checkLine wq_X10_checkLine ({ frames := 8, cells := 1, slots := 6, locals := 200 }) (va_Pc [.ref h, .int x] (fun U => U.heap.size = sz ∧ va_P (dC, dI) vwCl [(h, .inr (11, [.ref (v 0), .int 0, .ref (v 2), .ref (v 3), .ref (v 4), .ref (v 5), .ref (v 6)])), (v 0, .inl (cN, 60, .inr (.inr (.inr (.inr (fun _ => none)))))), (v 6, .inr (8, [.int 0, .int 0, .int 0, .int 0, .long 0, .int 0, .int 0, .ref (us 7), .ref (us 8), .ref (us 9), .ref (us 10), .int 0, .ref (us 12), .ref (us 13), .ref (us 14)]))] U.heap ∧ va_K (dC, dI) vwCl [(cN, .object RX4)] U ∧ va_D (fun _ => True) [(h, .inr (11, [.ref (v 0), .int 0, .ref (v 2), .ref (v 3), .ref (v 4), .ref (v 5), .ref (v 6)])), (v 0, .inl (cN, 60, .inr (.inr (.inr (.inr (fun _ => none)))))), (v 6, .inr (8, [.int 0, .int 0, .int 0, .int 0, .long 0, .int 0, .int 0, .ref (us 7), .ref (us 8), .ref (us 9), .ref (us 10), .int 0, .ref (us 12), .ref (us 13), .ref (us 14)]))] ∧ GG (va_A [(h, .inr (11, [.ref (v 0), .int 0, .ref (v 2), .ref (v 3), .ref (v 4), .ref (v 5), .ref (v 6)])), (v 0, .inl (cN, 60, .inr (.inr (.inr (.inr (fun _ => none)))))), (v 6, .inr (8, [.int 0, .int 0, .int 0, .int 0, .long 0, .int 0, .int 0, .ref (us 7), .ref (us 8), .ref (us 9), .ref (us 10), .int 0, .ref (us 12), .ref (us 13), .ref (us 14)]))] sz) ad sa U U.heap)) (va_Qv (fun (u : Unit) => False) (fun (u : Unit) t => va_P (dC, dI) vwCl [] t.heap ∧ va_K (dC, dI) vwCl [] t ∧ va_D (va_A [(h, .inr (11, [.ref (v 0), .int 0, .ref (v 2), .ref (v 3), .ref (v 4), .ref (v 5), .ref (v 6)])), (v 0, .inl (cN, 60, .inr (.inr (.inr (.inr (fun _ => none)))))), (v 6, .inr (8, [.int 0, .int 0, .int 0, .int 0, .long 0, .int 0, .int 0, .ref (us 7), .ref (us 8), .ref (us 9), .ref (us 10), .int 0, .ref (us 12), .ref (us 13), .ref (us 14)]))] sz) []) (va_A [(h, .inr (11, [.ref (v 0), .int 0, .ref (v 2), .ref (v 3), .ref (v 4), .ref (v 5), .ref (v 6)])), (v 0, .inl (cN, 60, .inr (.inr (.inr (.inr (fun _ => none)))))), (v 6, .inr (8, [.int 0, .int 0, .int 0, .int 0, .long 0, .int 0, .int 0, .ref (us 7), .ref (us 8), .ref (us 9), .ref (us 10), .int 0, .ref (us 12), .ref (us 13), .ref (us 14)]))] sz)) (vx_X (fun _ : Unit => True) (fun E _ _ => (fun E => E = xIO ∧ True) E) (va_A [(h, .inr (11, [.ref (v 0), .int 0, .ref (v 2), .ref (v 3), .ref (v 4), .ref (v 5), .ref (v 6)])), (v 0, .inl (cN, 60, .inr (.inr (.inr (.inr (fun _ => none)))))), (v 6, .inr (8, [.int 0, .int 0, .int 0, .int 0, .long 0, .int 0, .int 0, .ref (us 7), .ref (us 8), .ref (us 9), .ref (us 10), .int 0, .ref (us 12), .ref (us 13), .ref (us 14)]))] sz)) 1 6 (va_A [(h, .inr (11, [.ref (v 0), .int 0, .ref (v 2), .ref (v 3), .ref (v 4), .ref (v 5), .ref (v 6)])), (v 0, .inl (cN, 60, .inr (.inr (.inr (.inr (fun _ => none)))))), (v 6, .inr (8, [.int 0, .int 0, .int 0, .int 0, .long 0, .int 0, .int 0, .ref (us 7), .ref (us 8), .ref (us 9), .ref (us 10), .int 0, .ref (us 12), .ref (us 13), .ref (us 14)]))] sz) := by
  refine vx_ofW (cc := cX10_checkLine) (maxL := 2) (ret := none) (by decide) rfl ?_
  intro p e s m args below meth c s₁ B hml hnt hv
  obtain ⟨rfl, hsz, hP, hK, hD0, hG⟩ := hv
  have hx := B.exec
  have hb := B.bytes
  have hr := B.returns
  have hts := atoms_spec (ws := wq_X10_checkLine) B.pre
  have htU : ∀ w ∈ UW, w.before _ s = true := fun w h => hts w (List.mem_cons_of_mem _ h)
  have hown : s.vm.findClass RX10 = some m.cls := findClass_of_methodNamed B.named
  have hlocks := B.notSynchronized
  have tX10 : ∀ w ∈ wsX100, w.before _ s = true := fun w h => htU w (uX_X10 w h)
  have tX7 : ∀ w ∈ wsX70, w.before _ s = true := fun w h => htU w (uX_X7 w h)
  have atO : ∀ w ∈ (vx_atS RX10 212 xIO ["java/lang/RuntimeException", "java/lang/Exception"]).filter goodWord, w.before _ s = true := fun w h => htU w (uat_O w h)
  subst hsz
  have hD := hD0.self (sz := s.heap.size)
  generalize hAe : va_A [(h, .inr (11, [.ref (v 0), .int 0, .ref (v 2), .ref (v 3), .ref (v 4), .ref (v 5), .ref (v 6)])), (v 0, .inl (cN, 60, .inr (.inr (.inr (.inr (fun _ => none)))))), (v 6, .inr (8, [.int 0, .int 0, .int 0, .int 0, .long 0, .int 0, .int 0, .ref (us 7), .ref (us 8), .ref (us 9), .ref (us 10), .int 0, .ref (us 12), .ref (us 13), .ref (us 14)]))] s.heap.size = A at hD hG ⊢
  have hA : ∀ q : Nat, s.heap.size ≤ q → A q := fun q h => by rw [← hAe]; exact Or.inr h
  have hS : va_S A s.heap s.heap [] := va_S.rf
  have hl := lv_entry ([.ref h, .int x]) (n := 2) (Nat.le_of_ble_eq_true rfl)
  rw [lg_entry_eq]
  generalize (lg_sl ([.ref h, .int x]) ++ List.replicate (2 - (lg_sl ([.ref h, .int x])).length) Slot.unset).toArray = ls at hl ⊢
  have hl : lv_has ls 2 [(0, .ref h), (1, .int x)] := hl
  refine lv_iload_n hx hb dX10_checkLine_0 rfl (lv_at hl 1 rfl) ?_
  refine lv_if_lt (tgt := 15) hx hb dX10_checkLine_1 (by decide) (fun c_1 => ?_) (fun c_1 => ?_)
  · exact vx_throwS hx hb hf (names := ["java/lang/RuntimeException", "java/lang/Exception"]) (A := A) hown (by decide) (by decide) (htU _ u_691) (htU _ u_109) (hG.tx 8 rfl) (at_h hG 2 rfl atO at_2O) at_gO hG.2.1 hG.2.2.1 hS (by rw [hml]; exact hl.1) dX10_checkLine_15 dX10_checkLine_18 dX10_checkLine_19 dX10_checkLine_21 dX10_checkLine_24 (fun x h => (hnt x h).elim) (Nat.le_of_ble_eq_true rfl) (Nat.le_of_ble_eq_true rfl) (Nat.le_of_ble_eq_true rfl) (Nat.le_of_ble_eq_true rfl) hlocks (fun t ha h1 h2 => ⟨(), trivial, ⟨rfl, trivial⟩, ⟨Nat.le_trans hS.1 h1, fun q h3 h4 => (h2 q (Nat.lt_of_lt_of_le h3 hS.1)).trans (hS.2.1 q h3 h4)⟩⟩) hS.2.2 (Nat.le_of_ble_eq_true rfl) (Nat.le_of_ble_eq_true rfl)
  · refine lv_iload_n hx hb dX10_checkLine_4 rfl (lv_at hl 1 rfl) ?_
    refine lv_aload_n hx hb dX10_checkLine_5 rfl (lv_at hl 0 rfl) ?_
    refine va_get (D := (dC, dI)) (ci := 11) (v := .ref (v 6)) (C := RX10) (T := TX10) (N := 7) hx hb tX10 (fun _ h9 => h9) hown hK hP 0 rfl rfl 6 (by decide) (htU _ u_406) (fun _ h9 => h9) rfl dX10_checkLine_6 ?_
    refine va_getN (D := (dC, dI)) (ci := 8) (v := .int 0) (C := RX7) (T := TX7) (N := 15) hx hb tX7 (fun _ h9 => h9) hown hK hP 2 rfl rfl 0 (by decide) (va_Nw.use rfl (hG.ne 0 rfl)) (fun _ h9 => h9) rfl dX10_checkLine_9 ?_
    refine lv_icmp_lt (tgt := 25) hx hb dX10_checkLine_12 (by decide) (fun c_2 => ?_) (fun c_2 => ?_)
    · exact absurd c_2 c_1
    · exact vx_throwS hx hb hf (names := ["java/lang/RuntimeException", "java/lang/Exception"]) (A := A) hown (by decide) (by decide) (htU _ u_691) (htU _ u_109) (hG.tx 8 rfl) (at_h hG 2 rfl atO at_2O) at_gO hG.2.1 hG.2.2.1 hS (by rw [hml]; exact hl.1) dX10_checkLine_15 dX10_checkLine_18 dX10_checkLine_19 dX10_checkLine_21 dX10_checkLine_24 (fun x h => (hnt x h).elim) (Nat.le_of_ble_eq_true rfl) (Nat.le_of_ble_eq_true rfl) (Nat.le_of_ble_eq_true rfl) (Nat.le_of_ble_eq_true rfl) hlocks (fun t ha h1 h2 => ⟨(), trivial, ⟨rfl, trivial⟩, ⟨Nat.le_trans hS.1 h1, fun q h3 h4 => (h2 q (Nat.lt_of_lt_of_le h3 hS.1)).trans (hS.2.1 q h3 h4)⟩⟩) hS.2.2 (Nat.le_of_ble_eq_true rfl) (Nat.le_of_ble_eq_true rfl)

set_option maxHeartbeats 4000000 in
set_option maxRecDepth 100000 in
/-- checkColumn(line, column) -/
theorem c_X10_checkColumn (l : Launch) (hf : l.stackTraces = false) (dC : Nat → ClassId) (dI : Nat → Nat → Nat) (ad sa : Nat → Nat) (h : Nat) (v : Nat → Nat) (us : Nat → Nat) (cN : ClassId) (x : Int32) (y : Int32) (sz : Nat) : vx_Met l yX10_checkColumn wq_X10_checkColumn ({ frames := 9, cells := 1, slots := 6, locals := 221 }) (va_Pc [.ref h, .int x, .int y] (fun U => U.heap.size = sz ∧ va_P (dC, dI) vwCl [(h, .inr (11, [.ref (v 0), .int 0, .ref (v 2), .ref (v 3), .ref (v 4), .ref (v 5), .ref (v 6)])), (v 0, .inl (cN, 60, .inr (.inr (.inr (.inr (fun _ => none)))))), (v 6, .inr (8, [.int 0, .int 0, .int 0, .int 0, .long 0, .int 0, .int 0, .ref (us 7), .ref (us 8), .ref (us 9), .ref (us 10), .int 0, .ref (us 12), .ref (us 13), .ref (us 14)]))] U.heap ∧ va_K (dC, dI) vwCl [(cN, .object RX4)] U ∧ va_D (fun _ => True) [(h, .inr (11, [.ref (v 0), .int 0, .ref (v 2), .ref (v 3), .ref (v 4), .ref (v 5), .ref (v 6)])), (v 0, .inl (cN, 60, .inr (.inr (.inr (.inr (fun _ => none)))))), (v 6, .inr (8, [.int 0, .int 0, .int 0, .int 0, .long 0, .int 0, .int 0, .ref (us 7), .ref (us 8), .ref (us 9), .ref (us 10), .int 0, .ref (us 12), .ref (us 13), .ref (us 14)]))] ∧ GG (va_A [(h, .inr (11, [.ref (v 0), .int 0, .ref (v 2), .ref (v 3), .ref (v 4), .ref (v 5), .ref (v 6)])), (v 0, .inl (cN, 60, .inr (.inr (.inr (.inr (fun _ => none)))))), (v 6, .inr (8, [.int 0, .int 0, .int 0, .int 0, .long 0, .int 0, .int 0, .ref (us 7), .ref (us 8), .ref (us 9), .ref (us 10), .int 0, .ref (us 12), .ref (us 13), .ref (us 14)]))] sz) ad sa U U.heap)) (va_Qv (fun (u : Unit) => False) (fun (u : Unit) t => va_P (dC, dI) vwCl [] t.heap ∧ va_K (dC, dI) vwCl [] t ∧ va_D (va_A [(h, .inr (11, [.ref (v 0), .int 0, .ref (v 2), .ref (v 3), .ref (v 4), .ref (v 5), .ref (v 6)])), (v 0, .inl (cN, 60, .inr (.inr (.inr (.inr (fun _ => none)))))), (v 6, .inr (8, [.int 0, .int 0, .int 0, .int 0, .long 0, .int 0, .int 0, .ref (us 7), .ref (us 8), .ref (us 9), .ref (us 10), .int 0, .ref (us 12), .ref (us 13), .ref (us 14)]))] sz) []) (va_A [(h, .inr (11, [.ref (v 0), .int 0, .ref (v 2), .ref (v 3), .ref (v 4), .ref (v 5), .ref (v 6)])), (v 0, .inl (cN, 60, .inr (.inr (.inr (.inr (fun _ => none)))))), (v 6, .inr (8, [.int 0, .int 0, .int 0, .int 0, .long 0, .int 0, .int 0, .ref (us 7), .ref (us 8), .ref (us 9), .ref (us 10), .int 0, .ref (us 12), .ref (us 13), .ref (us 14)]))] sz)) (vx_X (fun _ : Unit => True) (fun E _ _ => (fun E => E = xIO ∧ True) E) (va_A [(h, .inr (11, [.ref (v 0), .int 0, .ref (v 2), .ref (v 3), .ref (v 4), .ref (v 5), .ref (v 6)])), (v 0, .inl (cN, 60, .inr (.inr (.inr (.inr (fun _ => none)))))), (v 6, .inr (8, [.int 0, .int 0, .int 0, .int 0, .long 0, .int 0, .int 0, .ref (us 7), .ref (us 8), .ref (us 9), .ref (us 10), .int 0, .ref (us 12), .ref (us 13), .ref (us 14)]))] sz)) 1 6 (va_A [(h, .inr (11, [.ref (v 0), .int 0, .ref (v 2), .ref (v 3), .ref (v 4), .ref (v 5), .ref (v 6)])), (v 0, .inl (cN, 60, .inr (.inr (.inr (.inr (fun _ => none)))))), (v 6, .inr (8, [.int 0, .int 0, .int 0, .int 0, .long 0, .int 0, .int 0, .ref (us 7), .ref (us 8), .ref (us 9), .ref (us 10), .int 0, .ref (us 12), .ref (us 13), .ref (us 14)]))] sz) := by
  refine vx_ofW (cc := cX10_checkColumn) (maxL := 3) (ret := none) (by decide) rfl ?_
  intro p e s m args below meth c s₁ B hml hnt hv
  obtain ⟨rfl, hsz, hP, hK, hD0, hG⟩ := hv
  have hx := B.exec
  have hb := B.bytes
  have hr := B.returns
  have hts := atoms_spec (ws := wq_X10_checkColumn) B.pre
  have htU : ∀ w ∈ UW, w.before _ s = true := fun w h => hts w (List.mem_cons_of_mem _ h)
  have hown : s.vm.findClass RX10 = some m.cls := findClass_of_methodNamed B.named
  have hlocks := B.notSynchronized
  have tX10 : ∀ w ∈ wsX100, w.before _ s = true := fun w h => htU w (uX_X10 w h)
  have atO : ∀ w ∈ (vx_atS RX10 212 xIO ["java/lang/RuntimeException", "java/lang/Exception"]).filter goodWord, w.before _ s = true := fun w h => htU w (uat_O w h)
  subst hsz
  have hD := hD0.self (sz := s.heap.size)
  generalize hAe : va_A [(h, .inr (11, [.ref (v 0), .int 0, .ref (v 2), .ref (v 3), .ref (v 4), .ref (v 5), .ref (v 6)])), (v 0, .inl (cN, 60, .inr (.inr (.inr (.inr (fun _ => none)))))), (v 6, .inr (8, [.int 0, .int 0, .int 0, .int 0, .long 0, .int 0, .int 0, .ref (us 7), .ref (us 8), .ref (us 9), .ref (us 10), .int 0, .ref (us 12), .ref (us 13), .ref (us 14)]))] s.heap.size = A at hD hG ⊢
  have hA : ∀ q : Nat, s.heap.size ≤ q → A q := fun q h => by rw [← hAe]; exact Or.inr h
  have hS : va_S A s.heap s.heap [] := va_S.rf
  have hl := lv_entry ([.ref h, .int x, .int y]) (n := 3) (Nat.le_of_ble_eq_true rfl)
  rw [lg_entry_eq]
  generalize (lg_sl ([.ref h, .int x, .int y]) ++ List.replicate (3 - (lg_sl ([.ref h, .int x, .int y])).length) Slot.unset).toArray = ls at hl ⊢
  have hl : lv_has ls 3 [(0, .ref h), (1, .int x), (2, .int y)] := hl
  refine lv_aload_n hx hb dX10_checkColumn_0 rfl (lv_at hl 0 rfl) ?_
  refine lv_iload_n hx hb dX10_checkColumn_1 rfl (lv_at hl 1 rfl) ?_
  have hPc := hP.sub (ws' := [(h, .inr (11, [.ref (v 0), .int 0, .ref (v 2), .ref (v 3), .ref (v 4), .ref (v 5), .ref (v 6)])), (v 0, .inl (cN, 60, .inr (.inr (.inr (.inr (fun _ => none)))))), (v 6, .inr (8, [.int 0, .int 0, .int 0, .int 0, .long 0, .int 0, .int 0, .ref (us 7), .ref (us 8), .ref (us 9), .ref (us 10), .int 0, .ref (us 12), .ref (us 13), .ref (us 14)]))]) [0, 1, 2] rfl
  have hDc := hD.sub (ws' := [(h, .inr (11, [.ref (v 0), .int 0, .ref (v 2), .ref (v 3), .ref (v 4), .ref (v 5), .ref (v 6)])), (v 0, .inl (cN, 60, .inr (.inr (.inr (.inr (fun _ => none)))))), (v 6, .inr (8, [.int 0, .int 0, .int 0, .int 0, .long 0, .int 0, .int 0, .ref (us 7), .ref (us 8), .ref (us 9), .ref (us 10), .int 0, .ref (us 12), .ref (us 13), .ref (us 14)]))]) [0, 1, 2] (by decide) rfl
  have hKc := hK.sub (tys' := [(cN, .object RX4)]) [0] rfl
  have hFc := va_free (wc := [(h, .inr (11, [.ref (v 0), .int 0, .ref (v 2), .ref (v 3), .ref (v 4), .ref (v 5), .ref (v 6)])), (v 0, .inl (cN, 60, .inr (.inr (.inr (.inr (fun _ => none)))))), (v 6, .inr (8, [.int 0, .int 0, .int 0, .int 0, .long 0, .int 0, .int 0, .ref (us 7), .ref (us 8), .ref (us 9), .ref (us 10), .int 0, .ref (us 12), .ref (us 13), .ref (us 14)]))]) hD hS hA [0, 1, 2] rfl
  refine vx_callv (vx_runV (As := [.int x]) (rest := []) ⟨hx, hb, hml, hown, htU⟩ (c_X10_checkLine l hf dC dI ad sa h v us cN x s.heap.size) (cwV 1 htU (gq_V u_1544 u_1546 u_40 u_91 u_1547) rfl rfl rfl (by decide +kernel) ⟨(Nat.le_of_ble_eq_true rfl), (Nat.le_of_ble_eq_true rfl)⟩) ⟨(fun a U g mk q => by obtain ⟨q0, q1, qP, qK, qD, qG⟩ := q; exact ⟨q0, q1, qP, va_K.moved (u := U) (U := U.calling g mk a) (Vm.Alike.refl U.vm) qK, qD, GG.blind qG⟩), va_recv hKc hPc (ci := 11) (q0 := 0) rfl rfl, fun U hU hW => ⟨rfl, by rw [hU], by rw [hU]; exact hPc, va_K.moved hW.alike hKc, hDc.weaken (fun _ _ _ _ => trivial), GG.go hG hS hFc hU hW⟩⟩ rfl rfl hl.1 rfl (lv_room (Nat.le_of_ble_eq_true rfl)) dX10_checkColumn_2 ⟨(Nat.le_of_ble_eq_true rfl), (Nat.le_of_ble_eq_true rfl)⟩) hS (fun q _ h => hFc q h) hFc (fun q _ h => hFc q h) (fun E ce q9 _ t H locs ht hvm hpx hB hz1 hk1 hS hce hcv hcl => ?_) (fun u_2 t H locs ht hvm hw hB hz1 hk1 hS => ?_)
  · exact vx_out (fun x h => (hnt x h).elim) hlocks hce hcv hcl (fun t ht ha => ⟨(), trivial, hB, hS.F ht⟩) hS.2.2 (Nat.le_of_ble_eq_true rfl) (Nat.le_of_ble_eq_true rfl)
  · exact False.elim hw

set_option maxHeartbeats 4000000 in
set_option maxRecDepth 100000 in
/-- add(node): the first one is number 0 -/
theorem c_X10_add (l : Launch) (hf : l.stackTraces = false) (dC : Nat → ClassId) (dI : Nat → Nat → Nat) (ad sa : Nat → Nat) (h : Nat) (v : Nat → Nat) (us : Nat → Nat) (cN : ClassId) (n : Nat) (k : Nat) (x : Int32) (fw : Int32) (b : Int32) (d : Int32) (tr : Int32) (nu : Int32) (wi : Int64) (sz : Nat) : Met l yX10_add wq_X10_add ({ frames := 10, cells := 0, slots := 0, locals := 241 }) (va_Pc [.ref h, .ref n] (fun U => U.heap.size = sz ∧ va_P (dC, dI) vwCl [(h, .inr (11, [.ref (v 0), .int 0, .ref (v 2), .ref (v 3), .ref (v 4), .ref (v 5), .ref (v 6)])), (v 0, .inl (cN, 60, .inr (.inr (.inr (.inr (fun _ => none)))))), (v 6, .inr (8, [.int 0, .int 0, .int 0, .int 0, .long 0, .int 0, .int 0, .ref (us 7), .ref (us 8), .ref (us 9), .ref (us 10), .int 0, .ref (us 12), .ref (us 13), .ref (us 14)])), (n, .inr (5, [.ref k, .int x, .null, .null, .int nu, .int 1, .int fw, .int b, .int d, .int 0, .int 0, .int 1, .int 1, .long wi, .int tr]))] U.heap ∧ va_K (dC, dI) vwCl [(cN, .object RX4)] U ∧ va_D (fun _ => True) [(h, .inr (11, [.ref (v 0), .int 0, .ref (v 2), .ref (v 3), .ref (v 4), .ref (v 5), .ref (v 6)])), (v 0, .inl (cN, 60, .inr (.inr (.inr (.inr (fun _ => none)))))), (v 6, .inr (8, [.int 0, .int 0, .int 0, .int 0, .long 0, .int 0, .int 0, .ref (us 7), .ref (us 8), .ref (us 9), .ref (us 10), .int 0, .ref (us 12), .ref (us 13), .ref (us 14)])), (n, .inr (5, [.ref k, .int x, .null, .null, .int nu, .int 1, .int fw, .int b, .int d, .int 0, .int 0, .int 1, .int 1, .long wi, .int tr]))] ∧ GG (va_A [(h, .inr (11, [.ref (v 0), .int 0, .ref (v 2), .ref (v 3), .ref (v 4), .ref (v 5), .ref (v 6)])), (v 0, .inl (cN, 60, .inr (.inr (.inr (.inr (fun _ => none)))))), (v 6, .inr (8, [.int 0, .int 0, .int 0, .int 0, .long 0, .int 0, .int 0, .ref (us 7), .ref (us 8), .ref (us 9), .ref (us 10), .int 0, .ref (us 12), .ref (us 13), .ref (us 14)])), (n, .inr (5, [.ref k, .int x, .null, .null, .int nu, .int 1, .int fw, .int b, .int d, .int 0, .int 0, .int 1, .int 1, .long wi, .int tr]))] sz) ad sa U U.heap)) (va_Qi (fun (r : Int32) (u : Unit) => r = 0) (fun (u : Unit) t => va_P (dC, dI) vwCl [] t.heap ∧ va_K (dC, dI) vwCl [] t ∧ va_D (va_A [(h, .inr (11, [.ref (v 0), .int 0, .ref (v 2), .ref (v 3), .ref (v 4), .ref (v 5), .ref (v 6)])), (v 0, .inl (cN, 60, .inr (.inr (.inr (.inr (fun _ => none)))))), (v 6, .inr (8, [.int 0, .int 0, .int 0, .int 0, .long 0, .int 0, .int 0, .ref (us 7), .ref (us 8), .ref (us 9), .ref (us 10), .int 0, .ref (us 12), .ref (us 13), .ref (us 14)])), (n, .inr (5, [.ref k, .int x, .null, .null, .int nu, .int 1, .int fw, .int b, .int d, .int 0, .int 0, .int 1, .int 1, .long wi, .int tr]))] sz) []) (va_A [(h, .inr (11, [.ref (v 0), .int 0, .ref (v 2), .ref (v 3), .ref (v 4), .ref (v 5), .ref (v 6)])), (v 0, .inl (cN, 60, .inr (.inr (.inr (.inr (fun _ => none)))))), (v 6, .inr (8, [.int 0, .int 0, .int 0, .int 0, .long 0, .int 0, .int 0, .ref (us 7), .ref (us 8), .ref (us 9), .ref (us 10), .int 0, .ref (us 12), .ref (us 13), .ref (us 14)])), (n, .inr (5, [.ref k, .int x, .null, .null, .int nu, .int 1, .int fw, .int b, .int d, .int 0, .int 0, .int 1, .int 1, .long wi, .int tr]))] sz)) 0 0 (va_A [(h, .inr (11, [.ref (v 0), .int 0, .ref (v 2), .ref (v 3), .ref (v 4), .ref (v 5), .ref (v 6)])), (v 0, .inl (cN, 60, .inr (.inr (.inr (.inr (fun _ => none)))))), (v 6, .inr (8, [.int 0, .int 0, .int 0, .int 0, .long 0, .int 0, .int 0, .ref (us 7), .ref (us 8), .ref (us 9), .ref (us 10), .int 0, .ref (us 12), .ref (us 13), .ref (us 14)])), (n, .inr (5, [.ref k, .int x, .null, .null, .int nu, .int 1, .int fw, .int b, .int d, .int 0, .int 0, .int 1, .int 1, .long wi, .int tr]))] sz) := by
  refine Met.ofW (cc := cX10_add) (maxL := 2) (ret := (some .int)) (by decide) rfl ?_
  intro p e s m args below meth c s₁ B hml hv
  obtain ⟨rfl, hsz, hP, hK, hD0, hG⟩ := hv
  have hx := B.exec
  have hb := B.bytes
  have hr := B.returns
  have hts := atoms_spec (ws := wq_X10_add) B.pre
  have htU : ∀ w ∈ UW, w.before _ s = true := fun w h => hts w (List.mem_cons_of_mem _ h)
  have hown : s.vm.findClass RX10 = some m.cls := findClass_of_methodNamed B.named
  have hlocks := B.notSynchronized
  have tX10 : ∀ w ∈ wsX100, w.before _ s = true := fun w h => htU w (uX_X10 w h)
  have tX4 : ∀ w ∈ wsX40, w.before _ s = true := fun w h => htU w (uX_X4 w h)
  have atS : ∀ w ∈ (vx_atS RX10 130 xIS ["java/lang/RuntimeException", "java/lang/Exception"]).filter goodWord, w.before _ s = true := fun w h => htU w (uat_S w h)
  subst hsz
  have hD := hD0.self (sz := s.heap.size)
  generalize hAe : va_A [(h, .inr (11, [.ref (v 0), .int 0, .ref (v 2), .ref (v 3), .ref (v 4), .ref (v 5), .ref (v 6)])), (v 0, .inl (cN, 60, .inr (.inr (.inr (.inr (fun _ => none)))))), (v 6, .inr (8, [.int 0, .int 0, .int 0, .int 0, .long 0, .int 0, .int 0, .ref (us 7), .ref (us 8), .ref (us 9), .ref (us 10), .int 0, .ref (us 12), .ref (us 13), .ref (us 14)])), (n, .inr (5, [.ref k, .int x, .null, .null, .int nu, .int 1, .int fw, .int b, .int d, .int 0, .int 0, .int 1, .int 1, .long wi, .int tr]))] s.heap.size = A at hD hG ⊢
  have hA : ∀ q : Nat, s.heap.size ≤ q → A q := fun q h => by rw [← hAe]; exact Or.inr h
  have hS : va_S A s.heap s.heap [] := va_S.rf
  have hl := lv_entry ([.ref h, .ref n]) (n := 2) (Nat.le_of_ble_eq_true rfl)
  rw [lg_entry_eq]
  generalize (lg_sl ([.ref h, .ref n]) ++ List.replicate (2 - (lg_sl ([.ref h, .ref n])).length) Slot.unset).toArray = ls at hl ⊢
  have hl : lv_has ls 2 [(0, .ref h), (1, .ref n)] := hl
  refine lv_aload_n hx hb dX10_add_0 rfl (lv_at hl 0 rfl) ?_
  refine va_get (D := (dC, dI)) (ci := 11) (v := .int 0) (C := RX10) (T := TX10) (N := 7) hx hb tX10 (fun _ h9 => h9) hown hK hP 0 rfl rfl 1 (by decide) (htU _ u_401) (fun _ h9 => h9) rfl dX10_add_1 ?_
  refine lv_aload_n hx hb dX10_add_4 rfl (lv_at hl 0 rfl) ?_
  refine va_get (D := (dC, dI)) (ci := 11) (v := .ref (v 0)) (C := RX10) (T := TX10) (N := 7) hx hb tX10 (fun _ h9 => h9) hown hK hP 0 rfl rfl 0 (by decide) (htU _ u_400) (fun _ h9 => h9) rfl dX10_add_5 ?_
  refine va_alen (D := (dC, dI)) hx hb hK hP 1 0 rfl rfl (v := 60) (by decide) dX10_add_8 ?_
  refine lv_icmp_lt (tgt := 22) hx hb dX10_add_9 (by decide) (fun c_1 => ?_) (fun c_1 => ?_)
  · refine lv_aload_n hx hb dX10_add_22 rfl (lv_at hl 1 rfl) ?_
    refine va_getN (D := (dC, dI)) (ci := 5) (v := .int 1) (C := RX4) (T := TX4) (N := 15) hx hb tX4 (fun _ h9 => h9) hown hK hP 3 rfl rfl 5 (by decide) (va_Nw.use rfl (hG.ne 3 rfl)) (fun _ h9 => h9) rfl dX10_add_23 ?_
    refine lv_bipush (v := 30) hx hb dX10_add_26 (by decide) ?_
    refine lv_icmp_gt (tgt := 40) hx hb dX10_add_28 (by decide) (fun c_2 => ?_) (fun c_2 => ?_)
    · exact absurd c_2 (by decide)
    · refine lv_aload_n hx hb dX10_add_31 rfl (lv_at hl 1 rfl) ?_
      refine va_getN (D := (dC, dI)) (ci := 5) (v := .int 0) (C := RX4) (T := TX4) (N := 15) hx hb tX4 (fun _ h9 => h9) hown hK hP 3 rfl rfl 9 (by decide) (va_Nw.use rfl (hG.ne 4 rfl)) (fun _ h9 => h9) rfl dX10_add_32 ?_
      refine lv_bipush (v := 30) hx hb dX10_add_35 (by decide) ?_
      refine lv_icmp_le (tgt := 50) hx hb dX10_add_37 (by decide) (fun c_3 => ?_) (fun c_3 => ?_)
      · refine lv_aload_n hx hb dX10_add_50 rfl (lv_at hl 1 rfl) ?_
        refine lv_aload_n hx hb dX10_add_51 rfl (lv_at hl 0 rfl) ?_
        refine va_get (D := (dC, dI)) (ci := 11) (v := .int 0) (C := RX10) (T := TX10) (N := 7) hx hb tX10 (fun _ h9 => h9) hown hK hP 0 rfl rfl 1 (by decide) (htU _ u_401) (fun _ h9 => h9) rfl dX10_add_52 ?_
        have hPc := hP.sub (ws' := [(n, .inr (5, [.ref k, .int x, .null, .null, .int nu, .int 1, .int fw, .int b, .int d, .int 0, .int 0, .int 1, .int 1, .long wi, .int tr]))]) [3] rfl
        have hDc := hD.sub (ws' := [(n, .inr (5, [.ref k, .int x, .null, .null, .int nu, .int 1, .int fw, .int b, .int d, .int 0, .int 0, .int 1, .int 1, .long wi, .int tr]))]) [3] (by decide) rfl
        have hKc := hK.sub (tys' := []) [] rfl
        have hFc := va_free (wc := [(n, .inr (5, [.ref k, .int x, .null, .null, .int nu, .int 1, .int fw, .int b, .int d, .int 0, .int 0, .int 1, .int 1, .long wi, .int tr]))]) hD hS hA [3] rfl
        refine va_callv (va_runV (As := [.int 0]) (rest := []) ⟨hx, hb, hml, hown, htU⟩ (c_X4_take l hf dC dI ad sa n k x fw b d tr nu wi 0 s.heap.size) (cwV 1 htU (gq_V u_628 u_629 u_630 u_105 u_631) rfl rfl rfl (by decide +kernel) ⟨(Nat.le_of_ble_eq_true rfl), (Nat.le_of_ble_eq_true rfl)⟩) ⟨(fun a U g mk q => by obtain ⟨q0, q1, qP, qK, qD, qG⟩ := q; exact ⟨q0, q1, qP, va_K.moved (u := U) (U := U.calling g mk a) (Vm.Alike.refl U.vm) qK, qD, GG.blind qG⟩), va_recv hKc hPc (ci := 5) (q0 := 0) rfl rfl, fun U hU hW => ⟨rfl, by rw [hU], by rw [hU]; exact hPc, va_K.moved hW.alike hKc, hDc.weaken (fun _ _ _ _ => trivial), GG.go hG hS hFc hU hW⟩⟩ rfl rfl hl.1 rfl (lv_room (Nat.le_of_ble_eq_true rfl)) dX10_add_55 ⟨(Nat.le_of_ble_eq_true rfl), (Nat.le_of_ble_eq_true rfl)⟩) hS (fun q _ h => hFc q h) hFc (fun u_5 t H locs ht hvm hw hB hz1 hk1 hS => ?_)
        obtain ⟨hP1, hK1, hD1⟩ := hB
        rw [ht] at hP1
        have hK1 := va_K.moved hvm.symm hK1
        try dsimp only at hw hP1 hK1 hD1
        have hK := (hK.sub (tys' := [(cN, .object RX4)]) [0] rfl).app hK1
        have hK : va_K (dC, dI) vwCl [(cN, .object RX4)] s := hK
        obtain ⟨hP, hD⟩ := va_join (wr := [(h, .inr (11, [.ref (v 0), .int 0, .ref (v 2), .ref (v 3), .ref (v 4), .ref (v 5), .ref (v 6)])), (v 0, .inl (cN, 60, .inr (.inr (.inr (.inr (fun _ => none)))))), (v 6, .inr (8, [.int 0, .int 0, .int 0, .int 0, .long 0, .int 0, .int 0, .ref (us 7), .ref (us 8), .ref (us 9), .ref (us 10), .int 0, .ref (us 12), .ref (us 13), .ref (us 14)]))]) (w1 := [(n, .inr (5, [.ref k, .int x, .null, .null, .int 0, .int 1, .int fw, .int b, .int d, .int 0, .int 0, .int 1, .int 1, .long u_5, .int tr]))]) hP hD [3] [0, 1, 2] rfl rfl (by decide) (by decide) hk1 hFc hP1 hD1
        have hP : va_P (dC, dI) vwCl [(h, .inr (11, [.ref (v 0), .int 0, .ref (v 2), .ref (v 3), .ref (v 4), .ref (v 5), .ref (v 6)])), (v 0, .inl (cN, 60, .inr (.inr (.inr (.inr (fun _ => none)))))), (v 6, .inr (8, [.int 0, .int 0, .int 0, .int 0, .long 0, .int 0, .int 0, .ref (us 7), .ref (us 8), .ref (us 9), .ref (us 10), .int 0, .ref (us 12), .ref (us 13), .ref (us 14)])), (n, .inr (5, [.ref k, .int x, .null, .null, .int 0, .int 1, .int fw, .int b, .int d, .int 0, .int 0, .int 1, .int 1, .long u_5, .int tr]))] H := hP
        have hD : va_D A [(h, .inr (11, [.ref (v 0), .int 0, .ref (v 2), .ref (v 3), .ref (v 4), .ref (v 5), .ref (v 6)])), (v 0, .inl (cN, 60, .inr (.inr (.inr (.inr (fun _ => none)))))), (v 6, .inr (8, [.int 0, .int 0, .int 0, .int 0, .long 0, .int 0, .int 0, .ref (us 7), .ref (us 8), .ref (us 9), .ref (us 10), .int 0, .ref (us 12), .ref (us 13), .ref (us 14)])), (n, .inr (5, [.ref k, .int x, .null, .null, .int 0, .int 1, .int fw, .int b, .int d, .int 0, .int 0, .int 1, .int 1, .long u_5, .int tr]))] := hD
        refine lv_aload_n hx hb dX10_add_58 rfl (lv_at hl 0 rfl) ?_
        refine va_get (D := (dC, dI)) (ci := 11) (v := .ref (v 0)) (C := RX10) (T := TX10) (N := 7) hx hb tX10 (fun _ h9 => h9) hown hK hP 0 rfl rfl 0 (by decide) (htU _ u_400) (fun _ h9 => h9) rfl dX10_add_59 ?_
        refine lv_aload_n hx hb dX10_add_62 rfl (lv_at hl 0 rfl) ?_
        refine va_get (D := (dC, dI)) (ci := 11) (v := .int 0) (C := RX10) (T := TX10) (N := 7) hx hb tX10 (fun _ h9 => h9) hown hK hP 0 rfl rfl 1 (by decide) (htU _ u_401) (fun _ h9 => h9) rfl dX10_add_63 ?_
        refine lv_aload_n hx hb dX10_add_66 rfl (lv_at hl 1 rfl) ?_
        refine va_astq (D := (dC, dI)) hx hb hK hP hD hS 1 0 3 5 (r := (RX4, TX4, 15)) rfl rfl rfl rfl (by unfold vp_in; decide) dX10_add_67 (fun H locs hP hD hS => ?_)
        have hP : va_P (dC, dI) vwCl [(h, .inr (11, [.ref (v 0), .int 0, .ref (v 2), .ref (v 3), .ref (v 4), .ref (v 5), .ref (v 6)])), (v 0, .inl (cN, 60, .inr (.inr (.inr (.inr (va_up (fun _ => none) (0 : Int32).toNatClampNeg (some n))))))), (v 6, .inr (8, [.int 0, .int 0, .int 0, .int 0, .long 0, .int 0, .int 0, .ref (us 7), .ref (us 8), .ref (us 9), .ref (us 10), .int 0, .ref (us 12), .ref (us 13), .ref (us 14)])), (n, .inr (5, [.ref k, .int x, .null, .null, .int 0, .int 1, .int fw, .int b, .int d, .int 0, .int 0, .int 1, .int 1, .long u_5, .int tr]))] H := hP
        have hD : va_D A [(h, .inr (11, [.ref (v 0), .int 0, .ref (v 2), .ref (v 3), .ref (v 4), .ref (v 5), .ref (v 6)])), (v 0, .inl (cN, 60, .inr (.inr (.inr (.inr (va_up (fun _ => none) (0 : Int32).toNatClampNeg (some n))))))), (v 6, .inr (8, [.int 0, .int 0, .int 0, .int 0, .long 0, .int 0, .int 0, .ref (us 7), .ref (us 8), .ref (us 9), .ref (us 10), .int 0, .ref (us 12), .ref (us 13), .ref (us 14)])), (n, .inr (5, [.ref k, .int x, .null, .null, .int 0, .int 1, .int fw, .int b, .int d, .int 0, .int 0, .int 1, .int 1, .long u_5, .int tr]))] := hD
        refine lv_aload_n hx hb dX10_add_68 rfl (lv_at hl 0 rfl) ?_
        refine lv_dup hx hb dX10_add_69 rfl ?_
        refine va_get (D := (dC, dI)) (ci := 11) (v := .int 0) (C := RX10) (T := TX10) (N := 7) hx hb tX10 (fun _ h9 => h9) hown hK hP 0 rfl rfl 1 (by decide) (htU _ u_401) (fun _ h9 => h9) rfl dX10_add_70 ?_
        refine lv_iconst (v := 1) hx hb dX10_add_73 (by decide) ?_
        refine lv_iadd hx hb dX10_add_74 ?_
        refine lv_topi (fun f_6 ef_6 => ?_)
        obtain rfl : f_6 = 1 := ef_6.trans (by decide)
        refine va_put (D := (dC, dI)) (ci := 11) (v := .int 1) (ty := tyX10 1) (C := RX10) (T := TX10) (N := 7) hx hb tX10 (fun _ h9 => h9) tyX10 tyX10_ok nmX10 hown hK hP hD hS 0 rfl rfl 1 (by decide) (htU _ u_401) (fun _ h9 => h9) rfl (tyX10_ok 1 (by decide)) rfl rfl (Nat.le_of_ble_eq_true rfl) dX10_add_75 (fun H locs hP hD hS => ?_)
        have hP : va_P (dC, dI) vwCl [(h, .inr (11, [.ref (v 0), .int 1, .ref (v 2), .ref (v 3), .ref (v 4), .ref (v 5), .ref (v 6)])), (v 0, .inl (cN, 60, .inr (.inr (.inr (.inr (va_up (fun _ => none) (0 : Int32).toNatClampNeg (some n))))))), (v 6, .inr (8, [.int 0, .int 0, .int 0, .int 0, .long 0, .int 0, .int 0, .ref (us 7), .ref (us 8), .ref (us 9), .ref (us 10), .int 0, .ref (us 12), .ref (us 13), .ref (us 14)])), (n, .inr (5, [.ref k, .int x, .null, .null, .int 0, .int 1, .int fw, .int b, .int d, .int 0, .int 0, .int 1, .int 1, .long u_5, .int tr]))] H := hP
        have hD : va_D A [(h, .inr (11, [.ref (v 0), .int 1, .ref (v 2), .ref (v 3), .ref (v 4), .ref (v 5), .ref (v 6)])), (v 0, .inl (cN, 60, .inr (.inr (.inr (.inr (va_up (fun _ => none) (0 : Int32).toNatClampNeg (some n))))))), (v 6, .inr (8, [.int 0, .int 0, .int 0, .int 0, .long 0, .int 0, .int 0, .ref (us 7), .ref (us 8), .ref (us 9), .ref (us 10), .int 0, .ref (us 12), .ref (us 13), .ref (us 14)])), (n, .inr (5, [.ref k, .int x, .null, .null, .int 0, .int 1, .int fw, .int b, .int d, .int 0, .int 0, .int 1, .int 1, .long u_5, .int tr]))] := hD
        refine lv_aload_n hx hb dX10_add_78 rfl (lv_at hl 1 rfl) ?_
        refine va_getN (D := (dC, dI)) (ci := 5) (v := .int 0) (C := RX4) (T := TX4) (N := 15) hx hb tX4 (fun _ h9 => h9) hown hK hP 3 rfl rfl 4 (by decide) (va_Nw.use rfl (hG.ne 2 rfl)) (fun _ h9 => h9) rfl dX10_add_79 ?_
        have hP9 := hP.sub (ws' := []) [] rfl
        have hD9 := hD.sub (ws' := []) [] (by decide) rfl
        have hK9 := hK.sub (tys' := []) [] rfl
        refine W.widen (k := 0) (n := 0) (Nat.le_of_ble_eq_true rfl) (Nat.le_of_ble_eq_true rfl) ?_
        exact W.iret (v := 0) hx hb hr (fun t ht hW => ⟨⟨0, (), rfl, rfl, ⟨by rw [ht]; exact hP9, va_K.moved hW.alike hK9, hD9⟩⟩, hS.F ht⟩) hS.2.2 dX10_add_82
      · exact absurd (by decide) c_3
  · exact absurd (by decide) c_1
