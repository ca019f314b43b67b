set_option maxHeartbeats 4000000 in
set_option maxRecDepth 100000 in
/-- Kind.endsLine() -/
theorem c_X3_endsLine (l : Launch) (hf : l.stackTraces = false) (dC : Nat → ClassId) (dI : Nat → Nat → Nat) (ad sa : Nat → Nat) (i : Nat) (hi : i < 16) (sz : Nat) : Met l yX3_endsLine wq_X3_endsLine ({ frames := 8, cells := 0, slots := 0, locals := 200 }) (va_Pc [.ref (ad i)] (fun U => U.heap.size = sz ∧ va_P (dC, dI) vwCl [] U.heap ∧ va_K (dC, dI) vwCl [] U ∧ va_D (fun _ => True) [] ∧ GG (va_A [] sz) ad sa U U.heap)) (va_Qi (fun (r : Int32) (u : Unit) => r = bI (i = 2 ∨ i = 3 ∨ i = 4)) (fun (u : Unit) t => va_P (dC, dI) vwCl [] t.heap ∧ va_K (dC, dI) vwCl [] t ∧ va_D (va_A [] sz) []) (va_A [] sz)) 0 0 (va_A [] sz) := by
  refine Met.ofW (cc := cX3_endsLine) (maxL := 1) (ret := (some .boolean)) (by decide) rfl ?_
  intro p e s m args below meth c s₁ B hml hv
  obtain ⟨rfl, hsz, hP, hK, hD0, hG⟩ := hv
  have hx := B.exec
  have hb := B.bytes
  have hr := B.returns
  have hts := atoms_spec (ws := wq_X3_endsLine) B.pre
  have htU : ∀ w ∈ UW, w.before _ s = true := fun w h => hts w (List.mem_cons_of_mem _ h)
  have hown : s.vm.findClass RX3 = some m.cls := findClass_of_methodNamed B.named
  have hlocks := B.notSynchronized
  subst hsz
  have hD := hD0.self (sz := s.heap.size)
  generalize hAe : va_A [] s.heap.size = A at hD hG ⊢
  have hA : ∀ q : Nat, s.heap.size ≤ q → A q := fun q h => by rw [← hAe]; exact Or.inr h
  have hS : va_S A s.heap s.heap [] := va_S.rf
  have hl := lv_entry ([.ref (ad i)]) (n := 1) (Nat.le_of_ble_eq_true rfl)
  rw [lg_entry_eq]
  generalize (lg_sl ([.ref (ad i)]) ++ List.replicate (1 - (lg_sl ([.ref (ad i)])).length) Slot.unset).toArray = ls at hl ⊢
  have hl : lv_has ls 1 [(0, .ref (ad i))] := hl
  refine lv_aload_n hx hb dX3_endsLine_0 rfl (lv_at hl 0 rfl) ?_
  refine va_gets hx hb (hG.1.1 2 (by decide)).1 hS hown (htU _ u_526) (fun _ h9 => h9) dX3_endsLine_1 ?_
  refine lv_acmp_eq (rx := some (ad i)) (ry := some (ad 2)) (tgt := 21) hx hb dX3_endsLine_4 (by decide) (fun c_1 => ?_) (fun c_1 => ?_)
  · have c_1 : i = 2 := (kd_inj hG.1 hi (by decide)).mp c_1
    refine lv_iconst (v := 1) hx hb dX3_endsLine_21 (by decide) ?_
    refine lv_goto (tgt := 26) hx hb dX3_endsLine_22 (by decide) ?_
    have hP9 := hP.sub (ws' := []) [] rfl
    have hD9 := hD.sub (ws' := []) [] (by decide) rfl
    have hK9 := hK.sub (tys' := []) [] rfl
    refine W.widen (k := 0) (n := 0) (Nat.le_of_ble_eq_true rfl) (Nat.le_of_ble_eq_true rfl) ?_
    exact W.zret (v := 1) hx hb hr rfl (fun t ht hW => ⟨⟨1, (), rfl, (by simp [bI, c_1]), ⟨by rw [ht]; exact hP9, va_K.moved hW.alike hK9, hD9⟩⟩, hS.F ht⟩) hS.2.2 dX3_endsLine_26
  · have c_1 : ¬ i = 2 := fun h => c_1 ((kd_inj hG.1 hi (by decide)).mpr h) 
    refine lv_aload_n hx hb dX3_endsLine_7 rfl (lv_at hl 0 rfl) ?_
    refine va_gets hx hb (hG.1.1 3 (by decide)).1 hS hown (htU _ u_528) (fun _ h9 => h9) dX3_endsLine_8 ?_
    refine lv_acmp_eq (rx := some (ad i)) (ry := some (ad 3)) (tgt := 21) hx hb dX3_endsLine_11 (by decide) (fun c_2 => ?_) (fun c_2 => ?_)
    · have c_2 : i = 3 := (kd_inj hG.1 hi (by decide)).mp c_2
      refine lv_iconst (v := 1) hx hb dX3_endsLine_21 (by decide) ?_
      refine lv_goto (tgt := 26) hx hb dX3_endsLine_22 (by decide) ?_
      have hP9 := hP.sub (ws' := []) [] rfl
      have hD9 := hD.sub (ws' := []) [] (by decide) rfl
      have hK9 := hK.sub (tys' := []) [] rfl
      refine W.widen (k := 0) (n := 0) (Nat.le_of_ble_eq_true rfl) (Nat.le_of_ble_eq_true rfl) ?_
      exact W.zret (v := 1) hx hb hr rfl (fun t ht hW => ⟨⟨1, (), rfl, (by simp [bI, c_1, c_2]), ⟨by rw [ht]; exact hP9, va_K.moved hW.alike hK9, hD9⟩⟩, hS.F ht⟩) hS.2.2 dX3_endsLine_26
    · have c_2 : ¬ i = 3 := fun h => c_2 ((kd_inj hG.1 hi (by decide)).mpr h) 
      refine lv_aload_n hx hb dX3_endsLine_14 rfl (lv_at hl 0 rfl) ?_
      refine va_gets hx hb (hG.1.1 4 (by decide)).1 hS hown (htU _ u_530) (fun _ h9 => h9) dX3_endsLine_15 ?_
      refine lv_acmp_ne (rx := some (ad i)) (ry := some (ad 4)) (tgt := 25) hx hb dX3_endsLine_18 (by decide) (fun c_3 => ?_) (fun c_3 => ?_)
      · have c_3 : ¬ i = 4 := fun h => c_3 ((kd_inj hG.1 hi (by decide)).mpr h) 
        refine lv_iconst (v := 0) hx hb dX3_endsLine_25 (by decide) ?_
        have hP9 := hP.sub (ws' := []) [] rfl
        have hD9 := hD.sub (ws' := []) [] (by decide) rfl
        have hK9 := hK.sub (tys' := []) [] rfl
        refine W.widen (k := 0) (n := 0) (Nat.le_of_ble_eq_true rfl) (Nat.le_of_ble_eq_true rfl) ?_
        exact W.zret (v := 0) hx hb hr rfl (fun t ht hW => ⟨⟨0, (), rfl, (by simp [bI, c_1, c_2, c_3]), ⟨by rw [ht]; exact hP9, va_K.moved hW.alike hK9, hD9⟩⟩, hS.F ht⟩) hS.2.2 dX3_endsLine_26
      · have c_3 : i = 4 := (kd_inj hG.1 hi (by decide)).mp c_3
        refine lv_iconst (v := 1) hx hb dX3_endsLine_21 (by decide) ?_
        refine lv_goto (tgt := 26) hx hb dX3_endsLine_22 (by decide) ?_
        have hP9 := hP.sub (ws' := []) [] rfl
        have hD9 := hD.sub (ws' := []) [] (by decide) rfl
        have hK9 := hK.sub (tys' := []) [] rfl
        refine W.widen (k := 0) (n := 0) (Nat.le_of_ble_eq_true rfl) (Nat.le_of_ble_eq_true rfl) ?_
        exact W.zret (v := 1) hx hb hr rfl (fun t ht hW => ⟨⟨1, (), rfl, (by simp [bI, c_1, c_2, c_3]), ⟨by rw [ht]; exact hP9, va_K.moved hW.alike hK9, hD9⟩⟩, hS.F ht⟩) hS.2.2 dX3_endsLine_26

set_option maxHeartbeats 4000000 in
set_option maxRecDepth 100000 in
/-- Node.traitsOfLeaf(kind, value) -/
theorem c_X4_traitsOfLeaf (l : Launch) (hf : l.stackTraces = false) (dC : Nat → ClassId) (dI : Nat → Nat → Nat) (ad sa : Nat → Nat) (i : Nat) (x : Int32) (hi : i < 16) (sz : Nat) : Met l yX4_traitsOfLeaf wq_X4_traitsOfLeaf ({ frames := 9, cells := 0, slots := 0, locals := 220 }) (va_Pc [.ref (ad i), .int x] (fun U => U.heap.size = sz ∧ va_P (dC, dI) vwCl [] U.heap ∧ va_K (dC, dI) vwCl [] U ∧ va_D (fun _ => True) [] ∧ GG (va_A [] sz) ad sa U U.heap)) (va_Qi (fun (r : Int32) (u : Unit) => True) (fun (u : Unit) t => va_P (dC, dI) vwCl [] t.heap ∧ va_K (dC, dI) vwCl [] t ∧ va_D (va_A [] sz) []) (va_A [] sz)) 0 0 (va_A [] sz) := by
  refine Met.ofW (cc := cX4_traitsOfLeaf) (maxL := 2) (ret := (some .int)) (by decide) rfl ?_
  intro p e s m args below meth c s₁ B hml hv
  obtain ⟨rfl, hsz, hP, hK, hD0, hG⟩ := hv
  have hx := B.exec
  have hb := B.bytes
  have hr := B.returns
  have hts := atoms_spec (ws := wq_X4_traitsOfLeaf) B.pre
  have htU : ∀ w ∈ UW, w.before _ s = true := fun w h => hts w (List.mem_cons_of_mem _ h)
  have hown : s.vm.findClass RX4 = some m.cls := findClass_of_methodNamed B.named
  have hlocks := B.notSynchronized
  subst hsz
  have hD := hD0.self (sz := s.heap.size)
  generalize hAe : va_A [] s.heap.size = A at hD hG ⊢
  have hA : ∀ q : Nat, s.heap.size ≤ q → A q := fun q h => by rw [← hAe]; exact Or.inr h
  have hS : va_S A s.heap s.heap [] := va_S.rf
  have hl := lv_entry ([.ref (ad i), .int x]) (n := 2) (Nat.le_of_ble_eq_true rfl)
  rw [lg_entry_eq]
  generalize (lg_sl ([.ref (ad i), .int x]) ++ List.replicate (2 - (lg_sl ([.ref (ad i), .int x])).length) Slot.unset).toArray = ls at hl ⊢
  have hl : lv_has ls 2 [(0, .ref (ad i)), (1, .int x)] := hl
  refine lv_aload_n hx hb dX4_traitsOfLeaf_0 rfl (lv_at hl 0 rfl) ?_
  refine va_gets hx hb (hG.1.1 5 (by decide)).1 hS hown (htU _ u_535) (fun _ h9 => h9) dX4_traitsOfLeaf_1 ?_
  refine lv_acmp_ne (rx := some (ad i)) (ry := some (ad 5)) (tgt := 18) hx hb dX4_traitsOfLeaf_4 (by decide) (fun c_1 => ?_) (fun c_1 => ?_)
  · have c_1 : ¬ i = 5 := fun h => c_1 ((kd_inj hG.1 hi (by decide)).mpr h) 
    refine lv_aload_n hx hb dX4_traitsOfLeaf_18 rfl (lv_at hl 0 rfl) ?_
    have hPc := hP.sub (ws' := []) [] rfl
    have hDc := hD.sub (ws' := []) [] (by decide) rfl
    have hKc := hK.sub (tys' := []) [] rfl
    have hFc := va_free (wc := []) hD hS hA [] rfl
    refine va_calli (va_runV (As := []) (rest := []) ⟨hx, hb, hml, hown, htU⟩ (c_X3_endsLine l hf dC dI ad sa i hi s.heap.size) (cwV 0 htU (gq_V u_522 u_523 u_524 u_107 u_525) rfl rfl rfl (by decide +kernel) ⟨(Nat.le_of_ble_eq_true rfl), (Nat.le_of_ble_eq_true rfl)⟩) ⟨(fun a U g mk q => by obtain ⟨q0, q1, qP, qK, qD, qG⟩ := q; exact ⟨q0, q1, qP, va_K.moved (u := U) (U := U.calling g mk a) (Vm.Alike.refl U.vm) qK, qD, GG.blind qG⟩), va_recvE hG.1 (i := i) hi hS, fun U hU hW => ⟨rfl, by rw [hU], by rw [hU]; exact hPc, va_K.moved hW.alike hKc, hDc.weaken (fun _ _ _ _ => trivial), GG.go hG hS hFc hU hW⟩⟩ rfl rfl hl.1 rfl (lv_room (Nat.le_of_ble_eq_true rfl)) dX4_traitsOfLeaf_19 ⟨(Nat.le_of_ble_eq_true rfl), (Nat.le_of_ble_eq_true rfl)⟩) hS (fun q _ h => hFc q h) hFc (fun r_2 u_3 t H locs ht hvm hw hB hz1 hk1 hS => ?_)
    obtain ⟨hP1, hK1, hD1⟩ := hB
    rw [ht] at hP1
    have hK1 := va_K.moved hvm.symm hK1
    try dsimp only at hw hP1 hK1 hD1
    have hK := (hK.sub (tys' := []) [] rfl).app hK1
    have hK : va_K (dC, dI) vwCl [] s := hK
    obtain ⟨hP, hD⟩ := va_join (wr := []) (w1 := []) hP hD [] [] rfl rfl (by decide) (by decide) hk1 hFc hP1 hD1
    have hP : va_P (dC, dI) vwCl [] H := hP
    have hD : va_D A [] := hD
    refine lv_if_eq (tgt := 29) hx hb dX4_traitsOfLeaf_22 (by decide) (fun c_4 => ?_) (fun c_4 => ?_)
    · refine lv_iconst (v := 1) hx hb dX4_traitsOfLeaf_29 (by decide) ?_
      have hP9 := hP.sub (ws' := []) [] rfl
      have hD9 := hD.sub (ws' := []) [] (by decide) rfl
      have hK9 := hK.sub (tys' := []) [] rfl
      refine W.widen (k := 0) (n := 0) (Nat.le_of_ble_eq_true rfl) (Nat.le_of_ble_eq_true rfl) ?_
      exact W.iret (v := 1) hx hb hr (fun t ht hW => ⟨⟨1, (), rfl, trivial, ⟨by rw [ht]; exact hP9, va_K.moved hW.alike hK9, hD9⟩⟩, hS.F ht⟩) hS.2.2 dX4_traitsOfLeaf_30
    · refine lv_iconst (v := 0) hx hb dX4_traitsOfLeaf_25 (by decide) ?_
      refine lv_goto (tgt := 30) hx hb dX4_traitsOfLeaf_26 (by decide) ?_
      have hP9 := hP.sub (ws' := []) [] rfl
      have hD9 := hD.sub (ws' := []) [] (by decide) rfl
      have hK9 := hK.sub (tys' := []) [] rfl
      refine W.widen (k := 0) (n := 0) (Nat.le_of_ble_eq_true rfl) (Nat.le_of_ble_eq_true rfl) ?_
      exact W.iret (v := 0) hx hb hr (fun t ht hW => ⟨⟨0, (), rfl, trivial, ⟨by rw [ht]; exact hP9, va_K.moved hW.alike hK9, hD9⟩⟩, hS.F ht⟩) hS.2.2 dX4_traitsOfLeaf_30
  · have c_1 : i = 5 := (kd_inj hG.1 hi (by decide)).mp c_1
    refine lv_iload_n hx hb dX4_traitsOfLeaf_7 rfl (lv_at hl 1 rfl) ?_
    refine lv_iconst (v := 1) hx hb dX4_traitsOfLeaf_8 (by decide) ?_
    refine lv_icmp_le (tgt := 16) hx hb dX4_traitsOfLeaf_9 (by decide) (fun c_5 => ?_) (fun c_5 => ?_)
    · refine lv_iconst (v := 0) hx hb dX4_traitsOfLeaf_16 (by decide) ?_
      have hP9 := hP.sub (ws' := []) [] rfl
      have hD9 := hD.sub (ws' := []) [] (by decide) rfl
      have hK9 := hK.sub (tys' := []) [] rfl
      refine W.widen (k := 0) (n := 0) (Nat.le_of_ble_eq_true rfl) (Nat.le_of_ble_eq_true rfl) ?_
      exact W.iret (v := 0) hx hb hr (fun t ht hW => ⟨⟨0, (), rfl, trivial, ⟨by rw [ht]; exact hP9, va_K.moved hW.alike hK9, hD9⟩⟩, hS.F ht⟩) hS.2.2 dX4_traitsOfLeaf_17
    · refine lv_iconst (v := 2) hx hb dX4_traitsOfLeaf_12 (by decide) ?_
      refine lv_goto (tgt := 17) hx hb dX4_traitsOfLeaf_13 (by decide) ?_
      have hP9 := hP.sub (ws' := []) [] rfl
      have hD9 := hD.sub (ws' := []) [] (by decide) rfl
      have hK9 := hK.sub (tys' := []) [] rfl
      refine W.widen (k := 0) (n := 0) (Nat.le_of_ble_eq_true rfl) (Nat.le_of_ble_eq_true rfl) ?_
      exact W.iret (v := 2) hx hb hr (fun t ht hW => ⟨⟨2, (), rfl, trivial, ⟨by rw [ht]; exact hP9, va_K.moved hW.alike hK9, hD9⟩⟩, hS.F ht⟩) hS.2.2 dX4_traitsOfLeaf_17

set_option maxHeartbeats 4000000 in
set_option maxRecDepth 100000 in
/-- Node(kind, value, flatWidth) -/
theorem c_X4_init (l : Launch) (hf : l.stackTraces = false) (dC : Nat → ClassId) (dI : Nat → Nat → Nat) (ad sa : Nat → Nat) (h : Nat) (i : Nat) (x : Int32) (fw : Int32) (hi : i < 16) (sz : Nat) : Met l yX4_init wq_X4_init ({ frames := 10, cells := 0, slots := 0, locals := 241 }) (va_Pc [.ref h, .ref (ad i), .int x, .int fw] (fun U => U.heap.size = sz ∧ va_P (dC, dI) vwCl [(h, .inr (5, [.null, .int 0, .null, .null, .int 0, .int 0, .int 0, .int 0, .int 0, .int 0, .int 0, .int 0, .int 0, .long 0, .int 0]))] U.heap ∧ va_K (dC, dI) vwCl [] U ∧ va_D (fun _ => True) [(h, .inr (5, [.null, .int 0, .null, .null, .int 0, .int 0, .int 0, .int 0, .int 0, .int 0, .int 0, .int 0, .int 0, .long 0, .int 0]))] ∧ GG (va_A [(h, .inr (5, [.null, .int 0, .null, .null, .int 0, .int 0, .int 0, .int 0, .int 0, .int 0, .int 0, .int 0, .int 0, .long 0, .int 0]))] sz) ad sa U U.heap)) (va_Qv (fun (u : Int32 × Int32 × Int32) => True) (fun (u : Int32 × Int32 × Int32) t => va_P (dC, dI) vwCl [(h, .inr (5, [.ref (ad i), .int x, .null, .null, .int 0, .int 1, .int fw, .int u.1, .int u.2.1, .int 0, .int 0, .int 1, .int 1, .long 0, .int u.2.2]))] t.heap ∧ va_K (dC, dI) vwCl [] t ∧ va_D (va_A [(h, .inr (5, [.null, .int 0, .null, .null, .int 0, .int 0, .int 0, .int 0, .int 0, .int 0, .int 0, .int 0, .int 0, .long 0, .int 0]))] sz) [(h, .inr (5, [.ref (ad i), .int x, .null, .null, .int 0, .int 1, .int fw, .int u.1, .int u.2.1, .int 0, .int 0, .int 1, .int 1, .long 0, .int u.2.2]))]) (va_A [(h, .inr (5, [.null, .int 0, .null, .null, .int 0, .int 0, .int 0, .int 0, .int 0, .int 0, .int 0, .int 0, .int 0, .long 0, .int 0]))] sz)) 0 0 (va_A [(h, .inr (5, [.null, .int 0, .null, .null, .int 0, .int 0, .int 0, .int 0, .int 0, .int 0, .int 0, .int 0, .int 0, .long 0, .int 0]))] sz) := by
  refine Met.ofW (cc := cX4_init) (maxL := 4) (ret := none) (by decide) rfl ?_
  intro p e s m args below meth c s₁ B hml hv
  obtain ⟨rfl, hsz, hP, hK, hD0, hG⟩ := hv
  have hx := B.exec
  have hb := B.bytes
  have hr := B.returns
  have hts := atoms_spec (ws := wq_X4_init) B.pre
  have htU : ∀ w ∈ UW, w.before _ s = true := fun w h => hts w (List.mem_cons_of_mem _ h)
  have hown : s.vm.findClass RX4 = some m.cls := findClass_of_methodNamed B.named
  have hlocks := B.notSynchronized
  have hin : meth.name = "<init>" := (name_of_methodNamed B.named B.method).1
  have tX4 : ∀ w ∈ wsX40, w.before _ s = true := fun w h => htU w (uX_X4 w h)
  subst hsz
  have hD := hD0.self (sz := s.heap.size)
  generalize hAe : va_A [(h, .inr (5, [.null, .int 0, .null, .null, .int 0, .int 0, .int 0, .int 0, .int 0, .int 0, .int 0, .int 0, .int 0, .long 0, .int 0]))] s.heap.size = A at hD hG ⊢
  have hA : ∀ q : Nat, s.heap.size ≤ q → A q := fun q h => by rw [← hAe]; exact Or.inr h
  have hS : va_S A s.heap s.heap [] := va_S.rf
  have hl := lv_entry ([.ref h, .ref (ad i), .int x, .int fw]) (n := 4) (Nat.le_of_ble_eq_true rfl)
  rw [lg_entry_eq]
  generalize (lg_sl ([.ref h, .ref (ad i), .int x, .int fw]) ++ List.replicate (4 - (lg_sl ([.ref h, .ref (ad i), .int x, .int fw])).length) Slot.unset).toArray = ls at hl ⊢
  have hl : lv_has ls 4 [(0, .ref h), (1, .ref (ad i)), (2, .int x), (3, .int fw)] := hl
  refine lv_aload_n hx hb dX4_init_0 rfl (lv_at hl 0 rfl) ?_
  refine W.objInit hx hb hown (htU _ u_521) (htU _ u_129) (htU _ u_130) rfl (by rw [hml]; exact hl.1) rfl dX4_init_1 (Nat.le_of_ble_eq_true rfl) (Nat.le_of_ble_eq_true rfl) ?_
  refine W.eq (g2 := F0 m 4 ls []) rfl ?_
  refine lv_aload_n hx hb dX4_init_4 rfl (lv_at hl 0 rfl) ?_
  refine lv_aload_n hx hb dX4_init_5 rfl (lv_at hl 1 rfl) ?_
  refine va_putF (D := (dC, dI)) (ci := 5) (v := .ref (ad i)) (ty := tyX4 0) (C := RX4) (T := TX4) (N := 15) hx hb tX4 (fun _ h9 => h9) tyX4 tyX4_ok nmX4 hown hK hP hD hS 0 rfl rfl 0 (by decide) (htU _ u_537) (fun _ h9 => h9) rfl hin rfl (tyX4_ok 0 (by decide)) rfl rfl (Nat.le_of_ble_eq_true rfl) dX4_init_6 (fun H locs hP hD hS => ?_)
  have hP : va_P (dC, dI) vwCl [(h, .inr (5, [.ref (ad i), .int 0, .null, .null, .int 0, .int 0, .int 0, .int 0, .int 0, .int 0, .int 0, .int 0, .int 0, .long 0, .int 0]))] H := hP
  have hD : va_D A [(h, .inr (5, [.ref (ad i), .int 0, .null, .null, .int 0, .int 0, .int 0, .int 0, .int 0, .int 0, .int 0, .int 0, .int 0, .long 0, .int 0]))] := hD
  refine lv_aload_n hx hb dX4_init_9 rfl (lv_at hl 0 rfl) ?_
  refine lv_iload_n hx hb dX4_init_10 rfl (lv_at hl 2 rfl) ?_
  refine va_putF (D := (dC, dI)) (ci := 5) (v := .int x) (ty := tyX4 1) (C := RX4) (T := TX4) (N := 15) hx hb tX4 (fun _ h9 => h9) tyX4 tyX4_ok nmX4 hown hK hP hD hS 0 rfl rfl 1 (by decide) (htU _ u_542) (fun _ h9 => h9) rfl hin rfl (tyX4_ok 1 (by decide)) rfl rfl (Nat.le_of_ble_eq_true rfl) dX4_init_11 (fun H locs hP hD hS => ?_)
  have hP : va_P (dC, dI) vwCl [(h, .inr (5, [.ref (ad i), .int x, .null, .null, .int 0, .int 0, .int 0, .int 0, .int 0, .int 0, .int 0, .int 0, .int 0, .long 0, .int 0]))] H := hP
  have hD : va_D A [(h, .inr (5, [.ref (ad i), .int x, .null, .null, .int 0, .int 0, .int 0, .int 0, .int 0, .int 0, .int 0, .int 0, .int 0, .long 0, .int 0]))] := hD
  refine lv_aload_n hx hb dX4_init_14 rfl (lv_at hl 0 rfl) ?_
  refine lv_null hx hb dX4_init_15 ?_
  refine va_putF (D := (dC, dI)) (ci := 5) (v := .null) (ty := tyX4 2) (C := RX4) (T := TX4) (N := 15) hx hb tX4 (fun _ h9 => h9) tyX4 tyX4_ok nmX4 hown hK hP hD hS 0 rfl rfl 2 (by decide) (htU _ u_546) (fun _ h9 => h9) rfl hin rfl (tyX4_ok 2 (by decide)) rfl rfl (Nat.le_of_ble_eq_true rfl) dX4_init_16 (fun H locs hP hD hS => ?_)
  have hP : va_P (dC, dI) vwCl [(h, .inr (5, [.ref (ad i), .int x, .null, .null, .int 0, .int 0, .int 0, .int 0, .int 0, .int 0, .int 0, .int 0, .int 0, .long 0, .int 0]))] H := hP
  have hD : va_D A [(h, .inr (5, [.ref (ad i), .int x, .null, .null, .int 0, .int 0, .int 0, .int 0, .int 0, .int 0, .int 0, .int 0, .int 0, .long 0, .int 0]))] := hD
  refine lv_aload_n hx hb dX4_init_19 rfl (lv_at hl 0 rfl) ?_
  refine lv_null hx hb dX4_init_20 ?_
  refine va_putF (D := (dC, dI)) (ci := 5) (v := .null) (ty := tyX4 3) (C := RX4) (T := TX4) (N := 15) hx hb tX4 (fun _ h9 => h9) tyX4 tyX4_ok nmX4 hown hK hP hD hS 0 rfl rfl 3 (by decide) (htU _ u_549) (fun _ h9 => h9) rfl hin rfl (tyX4_ok 3 (by decide)) rfl rfl (Nat.le_of_ble_eq_true rfl) dX4_init_21 (fun H locs hP hD hS => ?_)
  have hP : va_P (dC, dI) vwCl [(h, .inr (5, [.ref (ad i), .int x, .null, .null, .int 0, .int 0, .int 0, .int 0, .int 0, .int 0, .int 0, .int 0, .int 0, .long 0, .int 0]))] H := hP
  have hD : va_D A [(h, .inr (5, [.ref (ad i), .int x, .null, .null, .int 0, .int 0, .int 0, .int 0, .int 0, .int 0, .int 0, .int 0, .int 0, .long 0, .int 0]))] := hD
  refine lv_aload_n hx hb dX4_init_24 rfl (lv_at hl 0 rfl) ?_
  refine lv_iconst (v := 1) hx hb dX4_init_25 (by decide) ?_
  refine va_put (D := (dC, dI)) (ci := 5) (v := .int 1) (ty := tyX4 5) (C := RX4) (T := TX4) (N := 15) hx hb tX4 (fun _ h9 => h9) tyX4 tyX4_ok nmX4 hown hK hP hD hS 0 rfl rfl 5 (by decide) (htU _ u_555) (fun _ h9 => h9) rfl (tyX4_ok 5 (by decide)) rfl rfl (Nat.le_of_ble_eq_true rfl) dX4_init_26 (fun H locs hP hD hS => ?_)
  have hP : va_P (dC, dI) vwCl [(h, .inr (5, [.ref (ad i), .int x, .null, .null, .int 0, .int 1, .int 0, .int 0, .int 0, .int 0, .int 0, .int 0, .int 0, .long 0, .int 0]))] H := hP
  have hD : va_D A [(h, .inr (5, [.ref (ad i), .int x, .null, .null, .int 0, .int 1, .int 0, .int 0, .int 0, .int 0, .int 0, .int 0, .int 0, .long 0, .int 0]))] := hD
  refine lv_aload_n hx hb dX4_init_29 rfl (lv_at hl 0 rfl) ?_
  refine lv_iload_n hx hb dX4_init_30 rfl (lv_at hl 3 rfl) ?_
  refine va_put (D := (dC, dI)) (ci := 5) (v := .int fw) (ty := tyX4 6) (C := RX4) (T := TX4) (N := 15) hx hb tX4 (fun _ h9 => h9) tyX4 tyX4_ok nmX4 hown hK hP hD hS 0 rfl rfl 6 (by decide) (htU _ u_557) (fun _ h9 => h9) rfl (tyX4_ok 6 (by decide)) rfl rfl (Nat.le_of_ble_eq_true rfl) dX4_init_31 (fun H locs hP hD hS => ?_)
  have hP : va_P (dC, dI) vwCl [(h, .inr (5, [.ref (ad i), .int x, .null, .null, .int 0, .int 1, .int fw, .int 0, .int 0, .int 0, .int 0, .int 0, .int 0, .long 0, .int 0]))] H := hP
  have hD : va_D A [(h, .inr (5, [.ref (ad i), .int x, .null, .null, .int 0, .int 1, .int fw, .int 0, .int 0, .int 0, .int 0, .int 0, .int 0, .long 0, .int 0]))] := hD
  refine lv_aload_n hx hb dX4_init_34 rfl (lv_at hl 0 rfl) ?_
  refine lv_aload_n hx hb dX4_init_35 rfl (lv_at hl 1 rfl) ?_
  refine gg_getE hx hb hG.1 (i := i) hi hS hown (q := (RX3, "notInCells", "Z", kd_nc)) (List.mem_of_getElem? (i := 0) rfl) (va_Nw.use rfl (hG.ne 5 rfl)) (fun _ h9 => h9) dX4_init_36 ?_
  refine va_put (D := (dC, dI)) (ci := 5) (v := .int (kd_nc.getD i 0)) (ty := tyX4 7) (C := RX4) (T := TX4) (N := 15) hx hb tX4 (fun _ h9 => h9) tyX4 tyX4_ok nmX4 hown hK hP hD hS 0 rfl rfl 7 (by decide) (htU _ u_562) (fun _ h9 => h9) rfl (tyX4_ok 7 (by decide)) (kd_ncB i hi).1 (kd_ncB i hi).2 (Nat.le_of_ble_eq_true rfl) dX4_init_39 (fun H locs hP hD hS => ?_)
  have hP : va_P (dC, dI) vwCl [(h, .inr (5, [.ref (ad i), .int x, .null, .null, .int 0, .int 1, .int fw, .int (kd_nc.getD i 0), .int 0, .int 0, .int 0, .int 0, .int 0, .long 0, .int 0]))] H := hP
  have hD : va_D A [(h, .inr (5, [.ref (ad i), .int x, .null, .null, .int 0, .int 1, .int fw, .int (kd_nc.getD i 0), .int 0, .int 0, .int 0, .int 0, .int 0, .long 0, .int 0]))] := hD
  refine lv_aload_n hx hb dX4_init_42 rfl (lv_at hl 0 rfl) ?_
  refine lv_aload_n hx hb dX4_init_43 rfl (lv_at hl 1 rfl) ?_
  have hPc := hP.sub (ws' := []) [] rfl
  have hDc := hD.sub (ws' := []) [] (by decide) rfl
  have hKc := hK.sub (tys' := []) [] rfl
  have hFc := va_free (wc := []) hD hS hA [] rfl
  refine va_calli (va_runV (As := []) (rest := [.ref h]) ⟨hx, hb, hml, hown, htU⟩ (c_X3_endsLine l hf dC dI ad sa i hi H.size) (cwV 0 htU (gq_V u_522 u_523 u_524 u_107 u_525) rfl rfl rfl (by decide +kernel) ⟨(Nat.le_of_ble_eq_true rfl), (Nat.le_of_ble_eq_true rfl)⟩) ⟨(fun a U g mk q => by obtain ⟨q0, q1, qP, qK, qD, qG⟩ := q; exact ⟨q0, q1, qP, va_K.moved (u := U) (U := U.calling g mk a) (Vm.Alike.refl U.vm) qK, qD, GG.blind qG⟩), va_recvE hG.1 (i := i) hi hS, fun U hU hW => ⟨rfl, by rw [hU], by rw [hU]; exact hPc, va_K.moved hW.alike hKc, hDc.weaken (fun _ _ _ _ => trivial), GG.go hG hS hFc hU hW⟩⟩ rfl rfl hl.1 rfl (lv_room (Nat.le_of_ble_eq_true rfl)) dX4_init_44 ⟨(Nat.le_of_ble_eq_true rfl), (Nat.le_of_ble_eq_true rfl)⟩) hS (fun q _ h => hFc q h) hFc (fun r_1 u_2 t H locs ht hvm hw hB hz1 hk1 hS => ?_)
  obtain ⟨hP1, hK1, hD1⟩ := hB
  rw [ht] at hP1
  have hK1 := va_K.moved hvm.symm hK1
  try dsimp only at hw hP1 hK1 hD1
  have hK := (hK.sub (tys' := []) [] rfl).app hK1
  have hK : va_K (dC, dI) vwCl [] s := hK
  obtain ⟨hP, hD⟩ := va_join (wr := [(h, .inr (5, [.ref (ad i), .int x, .null, .null, .int 0, .int 1, .int fw, .int (kd_nc.getD i 0), .int 0, .int 0, .int 0, .int 0, .int 0, .long 0, .int 0]))]) (w1 := []) hP hD [] [0] rfl rfl (by decide) (by decide) hk1 hFc hP1 hD1
  have hP : va_P (dC, dI) vwCl [(h, .inr (5, [.ref (ad i), .int x, .null, .null, .int 0, .int 1, .int fw, .int (kd_nc.getD i 0), .int 0, .int 0, .int 0, .int 0, .int 0, .long 0, .int 0]))] H := hP
  have hD : va_D A [(h, .inr (5, [.ref (ad i), .int x, .null, .null, .int 0, .int 1, .int fw, .int (kd_nc.getD i 0), .int 0, .int 0, .int 0, .int 0, .int 0, .long 0, .int 0]))] := hD
  have hw_i := hw; dsimp only [bI] at hw_i
  refine va_put (D := (dC, dI)) (ci := 5) (v := .int r_1) (ty := tyX4 8) (C := RX4) (T := TX4) (N := 15) hx hb tX4 (fun _ h9 => h9) tyX4 tyX4_ok nmX4 hown hK hP hD hS 0 rfl rfl 8 (by decide) (htU _ u_564) (fun _ h9 => h9) rfl (tyX4_ok 8 (by decide)) (by rw [hw_i]; exact kd_b.1) (by rw [hw_i]; exact kd_b.2) (Nat.le_of_ble_eq_true rfl) dX4_init_47 (fun H locs hP hD hS => ?_)
  have hP : va_P (dC, dI) vwCl [(h, .inr (5, [.ref (ad i), .int x, .null, .null, .int 0, .int 1, .int fw, .int (kd_nc.getD i 0), .int r_1, .int 0, .int 0, .int 0, .int 0, .long 0, .int 0]))] H := hP
  have hD : va_D A [(h, .inr (5, [.ref (ad i), .int x, .null, .null, .int 0, .int 1, .int fw, .int (kd_nc.getD i 0), .int r_1, .int 0, .int 0, .int 0, .int 0, .long 0, .int 0]))] := hD
  refine lv_aload_n hx hb dX4_init_50 rfl (lv_at hl 0 rfl) ?_
  refine lv_aload_n hx hb dX4_init_51 rfl (lv_at hl 1 rfl) ?_
  refine lv_iload_n hx hb dX4_init_52 rfl (lv_at hl 2 rfl) ?_
  have hPc := hP.sub (ws' := []) [] rfl
  have hDc := hD.sub (ws' := []) [] (by decide) rfl
  have hKc := hK.sub (tys' := []) [] rfl
  have hFc := va_free (wc := []) hD hS hA [] rfl
  refine va_calli (va_runS (As := [.ref (ad i), .int x]) (rest := [.ref h]) ⟨hx, hb, hml, hown, htU⟩ (c_X4_traitsOfLeaf l hf dC dI ad sa i x hi H.size) (va_cwS 2 htU (gq_S u_532 u_533 u_105 u_534) rfl rfl rfl (by decide +kernel) ⟨(Nat.le_of_ble_eq_true rfl), (Nat.le_of_ble_eq_true rfl)⟩) ⟨(fun a U g mk q => by obtain ⟨q0, q1, qP, qK, qD, qG⟩ := q; exact ⟨q0, q1, qP, va_K.moved (u := U) (U := U.calling g mk a) (Vm.Alike.refl U.vm) qK, qD, GG.blind qG⟩), fun U hU hW => ⟨rfl, by rw [hU], by rw [hU]; exact hPc, va_K.moved hW.alike hKc, hDc.weaken (fun _ _ _ _ => trivial), GG.go hG hS hFc hU hW⟩⟩ rfl rfl hl.1 rfl (lv_room (Nat.le_of_ble_eq_true rfl)) dX4_init_53 ⟨(Nat.le_of_ble_eq_true rfl), (Nat.le_of_ble_eq_true rfl)⟩) hS (fun q _ h => hFc q h) hFc (fun r_3 u_4 t H locs ht hvm hw hB hz1 hk1 hS => ?_)
  obtain ⟨hP1, hK1, hD1⟩ := hB
  rw [ht] at hP1
  have hK1 := va_K.moved hvm.symm hK1
  try dsimp only at hw hP1 hK1 hD1
  have hK := (hK.sub (tys' := []) [] rfl).app hK1
  have hK : va_K (dC, dI) vwCl [] s := hK
  obtain ⟨hP, hD⟩ := va_join (wr := [(h, .inr (5, [.ref (ad i), .int x, .null, .null, .int 0, .int 1, .int fw, .int (kd_nc.getD i 0), .int r_1, .int 0, .int 0, .int 0, .int 0, .long 0, .int 0]))]) (w1 := []) hP hD [] [0] rfl rfl (by decide) (by decide) hk1 hFc hP1 hD1
  have hP : va_P (dC, dI) vwCl [(h, .inr (5, [.ref (ad i), .int x, .null, .null, .int 0, .int 1, .int fw, .int (kd_nc.getD i 0), .int r_1, .int 0, .int 0, .int 0, .int 0, .long 0, .int 0]))] H := hP
  have hD : va_D A [(h, .inr (5, [.ref (ad i), .int x, .null, .null, .int 0, .int 1, .int fw, .int (kd_nc.getD i 0), .int r_1, .int 0, .int 0, .int 0, .int 0, .long 0, .int 0]))] := hD
  refine va_put (D := (dC, dI)) (ci := 5) (v := .int r_3) (ty := tyX4 14) (C := RX4) (T := TX4) (N := 15) hx hb tX4 (fun _ h9 => h9) tyX4 tyX4_ok nmX4 hown hK hP hD hS 0 rfl rfl 14 (by decide) (htU _ u_574) (fun _ h9 => h9) rfl (tyX4_ok 14 (by decide)) rfl rfl (Nat.le_of_ble_eq_true rfl) dX4_init_56 (fun H locs hP hD hS => ?_)
  have hP : va_P (dC, dI) vwCl [(h, .inr (5, [.ref (ad i), .int x, .null, .null, .int 0, .int 1, .int fw, .int (kd_nc.getD i 0), .int r_1, .int 0, .int 0, .int 0, .int 0, .long 0, .int r_3]))] H := hP
  have hD : va_D A [(h, .inr (5, [.ref (ad i), .int x, .null, .null, .int 0, .int 1, .int fw, .int (kd_nc.getD i 0), .int r_1, .int 0, .int 0, .int 0, .int 0, .long 0, .int r_3]))] := hD
  refine lv_aload_n hx hb dX4_init_59 rfl (lv_at hl 0 rfl) ?_
  refine lv_iconst (v := 1) hx hb dX4_init_60 (by decide) ?_
  refine va_put (D := (dC, dI)) (ci := 5) (v := .int 1) (ty := tyX4 11) (C := RX4) (T := TX4) (N := 15) hx hb tX4 (fun _ h9 => h9) tyX4 tyX4_ok nmX4 hown hK hP hD hS 0 rfl rfl 11 (by decide) (htU _ u_569) (fun _ h9 => h9) rfl (tyX4_ok 11 (by decide)) rfl rfl (Nat.le_of_ble_eq_true rfl) dX4_init_61 (fun H locs hP hD hS => ?_)
  have hP : va_P (dC, dI) vwCl [(h, .inr (5, [.ref (ad i), .int x, .null, .null, .int 0, .int 1, .int fw, .int (kd_nc.getD i 0), .int r_1, .int 0, .int 0, .int 1, .int 0, .long 0, .int r_3]))] H := hP
  have hD : va_D A [(h, .inr (5, [.ref (ad i), .int x, .null, .null, .int 0, .int 1, .int fw, .int (kd_nc.getD i 0), .int r_1, .int 0, .int 0, .int 1, .int 0, .long 0, .int r_3]))] := hD
  refine lv_aload_n hx hb dX4_init_64 rfl (lv_at hl 0 rfl) ?_
  refine lv_iconst (v := 1) hx hb dX4_init_65 (by decide) ?_
  refine va_put (D := (dC, dI)) (ci := 5) (v := .int 1) (ty := tyX4 12) (C := RX4) (T := TX4) (N := 15) hx hb tX4 (fun _ h9 => h9) tyX4 tyX4_ok nmX4 hown hK hP hD hS 0 rfl rfl 12 (by decide) (htU _ u_571) (fun _ h9 => h9) rfl (tyX4_ok 12 (by decide)) rfl rfl (Nat.le_of_ble_eq_true rfl) dX4_init_66 (fun H locs hP hD hS => ?_)
  have hP : va_P (dC, dI) vwCl [(h, .inr (5, [.ref (ad i), .int x, .null, .null, .int 0, .int 1, .int fw, .int (kd_nc.getD i 0), .int r_1, .int 0, .int 0, .int 1, .int 1, .long 0, .int r_3]))] H := hP
  have hD : va_D A [(h, .inr (5, [.ref (ad i), .int x, .null, .null, .int 0, .int 1, .int fw, .int (kd_nc.getD i 0), .int r_1, .int 0, .int 0, .int 1, .int 1, .long 0, .int r_3]))] := hD
  have hP9 := hP.sub (ws' := [(h, .inr (5, [.ref (ad i), .int x, .null, .null, .int 0, .int 1, .int fw, .int (kd_nc.getD i 0), .int r_1, .int 0, .int 0, .int 1, .int 1, .long 0, .int r_3]))]) [0] rfl
  have hD9 := hD.sub (ws' := [(h, .inr (5, [.ref (ad i), .int x, .null, .null, .int 0, .int 1, .int fw, .int (kd_nc.getD i 0), .int r_1, .int 0, .int 0, .int 1, .int 1, .long 0, .int r_3]))]) [0] (by decide) rfl
  have hK9 := hK.sub (tys' := []) [] rfl
  refine W.widen (k := 0) (n := 0) (Nat.le_of_ble_eq_true rfl) (Nat.le_of_ble_eq_true rfl) ?_
  exact W.vret hx hb hr (fun t ht hW => ⟨⟨(kd_nc.getD i 0, r_1, r_3), rfl, trivial, ⟨by rw [ht]; exact hP9, va_K.moved hW.alike hK9, hD9⟩⟩, hS.F ht⟩) hS.2.2 dX4_init_69

set_option maxHeartbeats 4000000 in
set_option maxRecDepth 100000 in
/-- Node.bit() -/
theorem c_X4_bit (l : Launch) (hf : l.stackTraces = false) (dC : Nat → ClassId) (dI : Nat → Nat → Nat) (ad sa : Nat → Nat) (h : Nat) (k : Nat) (x : Int32) (fw : Int32) (b : Int32) (d : Int32) (tr : Int32) (nu : Int32) (wi : Int64) (sz : Nat) : Met l yX4_bit wq_X4_bit ({ frames := 8, cells := 0, slots := 0, locals := 200 }) (va_Pc [.ref h] (fun U => U.heap.size = sz ∧ va_P (dC, dI) vwCl [(h, .inr (5, [.ref k, .int x, .null, .null, .int nu, .int 1, .int fw, .int b, .int d, .int 0, .int 0, .int 1, .int 1, .long wi, .int tr]))] U.heap ∧ va_K (dC, dI) vwCl [] U ∧ va_D (fun _ => True) [(h, .inr (5, [.ref k, .int x, .null, .null, .int nu, .int 1, .int fw, .int b, .int d, .int 0, .int 0, .int 1, .int 1, .long wi, .int tr]))] ∧ GG (va_A [(h, .inr (5, [.ref k, .int x, .null, .null, .int nu, .int 1, .int fw, .int b, .int d, .int 0, .int 0, .int 1, .int 1, .long wi, .int tr]))] sz) ad sa U U.heap)) (va_Ql (fun (r : Int64) (u : Unit) => True) (fun (u : Unit) t => va_P (dC, dI) vwCl [(h, .inr (5, [.ref k, .int x, .null, .null, .int nu, .int 1, .int fw, .int b, .int d, .int 0, .int 0, .int 1, .int 1, .long wi, .int tr]))] t.heap ∧ va_K (dC, dI) vwCl [] t ∧ va_D (va_A [(h, .inr (5, [.ref k, .int x, .null, .null, .int nu, .int 1, .int fw, .int b, .int d, .int 0, .int 0, .int 1, .int 1, .long wi, .int tr]))] sz) [(h, .inr (5, [.ref k, .int x, .null, .null, .int nu, .int 1, .int fw, .int b, .int d, .int 0, .int 0, .int 1, .int 1, .long wi, .int tr]))]) (va_A [(h, .inr (5, [.ref k, .int x, .null, .null, .int nu, .int 1, .int fw, .int b, .int d, .int 0, .int 0, .int 1, .int 1, .long wi, .int tr]))] sz)) 0 0 (va_A [(h, .inr (5, [.ref k, .int x, .null, .null, .int nu, .int 1, .int fw, .int b, .int d, .int 0, .int 0, .int 1, .int 1, .long wi, .int tr]))] sz) := by
  refine Met.ofW (cc := cX4_bit) (maxL := 1) (ret := (some .long)) (by decide) rfl ?_
  intro p e s m args below meth c s₁ B hml hv
  obtain ⟨rfl, hsz, hP, hK, hD0, hG⟩ := hv
  have hx := B.exec
  have hb := B.bytes
  have hr := B.returns
  have hts := atoms_spec (ws := wq_X4_bit) B.pre
  have htU : ∀ w ∈ UW, w.before _ s = true := fun w h => hts w (List.mem_cons_of_mem _ h)
  have hown : s.vm.findClass RX4 = some m.cls := findClass_of_methodNamed B.named
  have hlocks := B.notSynchronized
  have tX4 : ∀ w ∈ wsX40, w.before _ s = true := fun w h => htU w (uX_X4 w h)
  subst hsz
  have hD := hD0.self (sz := s.heap.size)
  generalize hAe : va_A [(h, .inr (5, [.ref k, .int x, .null, .null, .int nu, .int 1, .int fw, .int b, .int d, .int 0, .int 0, .int 1, .int 1, .long wi, .int tr]))] s.heap.size = A at hD hG ⊢
  have hA : ∀ q : Nat, s.heap.size ≤ q → A q := fun q h => by rw [← hAe]; exact Or.inr h
  have hS : va_S A s.heap s.heap [] := va_S.rf
  have hl := lv_entry ([.ref h]) (n := 1) (Nat.le_of_ble_eq_true rfl)
  rw [lg_entry_eq]
  generalize (lg_sl ([.ref h]) ++ List.replicate (1 - (lg_sl ([.ref h])).length) Slot.unset).toArray = ls at hl ⊢
  have hl : lv_has ls 1 [(0, .ref h)] := hl
  refine lv_lconst (v := 1) hx hb dX4_bit_0 (by decide) ?_
  refine lv_aload_n hx hb dX4_bit_1 rfl (lv_at hl 0 rfl) ?_
  refine va_get (D := (dC, dI)) (ci := 5) (v := .int nu) (C := RX4) (T := TX4) (N := 15) hx hb tX4 (fun _ h9 => h9) hown hK hP 0 rfl rfl 4 (by decide) (htU _ u_553) (fun _ h9 => h9) rfl dX4_bit_2 ?_
  refine lv_lshl (v := (1 : Int64) <<< ((nu : Int32).toInt64 &&& 63)) hx hb dX4_bit_5 rfl ?_
  have hP9 := hP.sub (ws' := [(h, .inr (5, [.ref k, .int x, .null, .null, .int nu, .int 1, .int fw, .int b, .int d, .int 0, .int 0, .int 1, .int 1, .long wi, .int tr]))]) [0] rfl
  have hD9 := hD.sub (ws' := [(h, .inr (5, [.ref k, .int x, .null, .null, .int nu, .int 1, .int fw, .int b, .int d, .int 0, .int 0, .int 1, .int 1, .long wi, .int tr]))]) [0] (by decide) rfl
  have hK9 := hK.sub (tys' := []) [] rfl
  refine W.widen (k := 0) (n := 0) (Nat.le_of_ble_eq_true rfl) (Nat.le_of_ble_eq_true rfl) ?_
  exact W.lret (v := (1 : Int64) <<< ((nu : Int32).toInt64 &&& 63)) hx hb hr (fun t ht hW => ⟨⟨(1 : Int64) <<< ((nu : Int32).toInt64 &&& 63), (), rfl, trivial, ⟨by rw [ht]; exact hP9, va_K.moved hW.alike hK9, hD9⟩⟩, hS.F ht⟩) hS.2.2 dX4_bit_6

set_option maxHeartbeats 4000000 in
set_option maxRecDepth 100000 in
/-- Node.take(place) -/
theorem c_X4_take (l : Launch) (hf : l.stackTraces = false) (dC : Nat → ClassId) (dI : Nat → Nat → Nat) (ad sa : Nat → Nat) (h : Nat) (k : Nat) (x : Int32) (fw : Int32) (b : Int32) (d : Int32) (tr : Int32) (nu : Int32) (wi : Int64) (y : Int32) (sz : Nat) : Met l yX4_take wq_X4_take ({ frames := 9, cells := 0, slots := 0, locals := 220 }) (va_Pc [.ref h, .int y] (fun U => U.heap.size = sz ∧ va_P (dC, dI) vwCl [(h, .inr (5, [.ref k, .int x, .null, .null, .int nu, .int 1, .int fw, .int b, .int d, .int 0, .int 0, .int 1, .int 1, .long wi, .int tr]))] U.heap ∧ va_K (dC, dI) vwCl [] U ∧ va_D (fun _ => True) [(h, .inr (5, [.ref k, .int x, .null, .null, .int nu, .int 1, .int fw, .int b, .int d, .int 0, .int 0, .int 1, .int 1, .long wi, .int tr]))] ∧ GG (va_A [(h, .inr (5, [.ref k, .int x, .null, .null, .int nu, .int 1, .int fw, .int b, .int d, .int 0, .int 0, .int 1, .int 1, .long wi, .int tr]))] sz) ad sa U U.heap)) (va_Qv (fun (u : Int64) => True) (fun (u : Int64) t => va_P (dC, dI) vwCl [(h, .inr (5, [.ref k, .int x, .null, .null, .int y, .int 1, .int fw, .int b, .int d, .int 0, .int 0, .int 1, .int 1, .long u, .int tr]))] t.heap ∧ va_K (dC, dI) vwCl [] t ∧ va_D (va_A [(h, .inr (5, [.ref k, .int x, .null, .null, .int nu, .int 1, .int fw, .int b, .int d, .int 0, .int 0, .int 1, .int 1, .long wi, .int tr]))] sz) [(h, .inr (5, [.ref k, .int x, .null, .null, .int y, .int 1, .int fw, .int b, .int d, .int 0, .int 0, .int 1, .int 1, .long u, .int tr]))]) (va_A [(h, .inr (5, [.ref k, .int x, .null, .null, .int nu, .int 1, .int fw, .int b, .int d, .int 0, .int 0, .int 1, .int 1, .long wi, .int tr]))] sz)) 0 0 (va_A [(h, .inr (5, [.ref k, .int x, .null, .null, .int nu, .int 1, .int fw, .int b, .int d, .int 0, .int 0, .int 1, .int 1, .long wi, .int tr]))] sz) := by
  refine Met.ofW (cc := cX4_take) (maxL := 2) (ret := none) (by decide) rfl ?_
  intro p e s m args below meth c s₁ B hml hv
  obtain ⟨rfl, hsz, hP, hK, hD0, hG⟩ := hv
  have hx := B.exec
  have hb := B.bytes
  have hr := B.returns
  have hts := atoms_spec (ws := wq_X4_take) B.pre
  have htU : ∀ w ∈ UW, w.before _ s = true := fun w h => hts w (List.mem_cons_of_mem _ h)
  have hown : s.vm.findClass RX4 = some m.cls := findClass_of_methodNamed B.named
  have hlocks := B.notSynchronized
  have tX4 : ∀ w ∈ wsX40, w.before _ s = true := fun w h => htU w (uX_X4 w h)
  subst hsz
  have hD := hD0.self (sz := s.heap.size)
  generalize hAe : va_A [(h, .inr (5, [.ref k, .int x, .null, .null, .int nu, .int 1, .int fw, .int b, .int d, .int 0, .int 0, .int 1, .int 1, .long wi, .int tr]))] s.heap.size = A at hD hG ⊢
  have hA : ∀ q : Nat, s.heap.size ≤ q → A q := fun q h => by rw [← hAe]; exact Or.inr h
  have hS : va_S A s.heap s.heap [] := va_S.rf
  have hl := lv_entry ([.ref h, .int y]) (n := 2) (Nat.le_of_ble_eq_true rfl)
  rw [lg_entry_eq]
  generalize (lg_sl ([.ref h, .int y]) ++ List.replicate (2 - (lg_sl ([.ref h, .int y])).length) Slot.unset).toArray = ls at hl ⊢
  have hl : lv_has ls 2 [(0, .ref h), (1, .int y)] := hl
  refine lv_aload_n hx hb dX4_take_0 rfl (lv_at hl 0 rfl) ?_
  refine lv_iload_n hx hb dX4_take_1 rfl (lv_at hl 1 rfl) ?_
  refine va_put (D := (dC, dI)) (ci := 5) (v := .int y) (ty := tyX4 4) (C := RX4) (T := TX4) (N := 15) hx hb tX4 (fun _ h9 => h9) tyX4 tyX4_ok nmX4 hown hK hP hD hS 0 rfl rfl 4 (by decide) (htU _ u_553) (fun _ h9 => h9) rfl (tyX4_ok 4 (by decide)) rfl rfl (Nat.le_of_ble_eq_true rfl) dX4_take_2 (fun H locs hP hD hS => ?_)
  have hP : va_P (dC, dI) vwCl [(h, .inr (5, [.ref k, .int x, .null, .null, .int y, .int 1, .int fw, .int b, .int d, .int 0, .int 0, .int 1, .int 1, .long wi, .int tr]))] H := hP
  have hD : va_D A [(h, .inr (5, [.ref k, .int x, .null, .null, .int y, .int 1, .int fw, .int b, .int d, .int 0, .int 0, .int 1, .int 1, .long wi, .int tr]))] := hD
  refine lv_aload_n hx hb dX4_take_5 rfl (lv_at hl 0 rfl) ?_
  refine lv_aload_n hx hb dX4_take_6 rfl (lv_at hl 0 rfl) ?_
  refine va_get (D := (dC, dI)) (ci := 5) (v := .long wi) (C := RX4) (T := TX4) (N := 15) hx hb tX4 (fun _ h9 => h9) hown hK hP 0 rfl rfl 13 (by decide) (htU _ u_573) (fun _ h9 => h9) rfl dX4_take_7 ?_
  refine lv_aload_n hx hb dX4_take_10 rfl (lv_at hl 0 rfl) ?_
  have hPc := hP.sub (ws' := [(h, .inr (5, [.ref k, .int x, .null, .null, .int y, .int 1, .int fw, .int b, .int d, .int 0, .int 0, .int 1, .int 1, .long wi, .int tr]))]) [0] rfl
  have hDc := hD.sub (ws' := [(h, .inr (5, [.ref k, .int x, .null, .null, .int y, .int 1, .int fw, .int b, .int d, .int 0, .int 0, .int 1, .int 1, .long wi, .int tr]))]) [0] (by decide) rfl
  have hKc := hK.sub (tys' := []) [] rfl
  have hFc := va_free (wc := [(h, .inr (5, [.ref k, .int x, .null, .null, .int y, .int 1, .int fw, .int b, .int d, .int 0, .int 0, .int 1, .int 1, .long wi, .int tr]))]) hD hS hA [0] rfl
  refine va_calll (va_runV (As := []) (rest := [.long wi, .ref h]) ⟨hx, hb, hml, hown, htU⟩ (c_X4_bit l hf dC dI ad sa h k x fw b d tr y wi H.size) (cwV 0 htU (gq_V u_632 u_633 u_634 u_105 u_635) rfl rfl rfl (by decide +kernel) ⟨(Nat.le_of_ble_eq_true rfl), (Nat.le_of_ble_eq_true rfl)⟩) ⟨(fun a U g mk q => by obtain ⟨q0, q1, qP, qK, qD, qG⟩ := q; exact ⟨q0, q1, qP, va_K.moved (u := U) (U := U.calling g mk a) (Vm.Alike.refl U.vm) qK, qD, GG.blind qG⟩), va_recv hKc hPc (ci := 5) (q0 := 0) rfl rfl, fun U hU hW => ⟨rfl, by rw [hU], by rw [hU]; exact hPc, va_K.moved hW.alike hKc, hDc.weaken (fun _ _ _ _ => trivial), GG.go hG hS hFc hU hW⟩⟩ rfl rfl hl.1 rfl (lv_room (Nat.le_of_ble_eq_true rfl)) dX4_take_11 ⟨(Nat.le_of_ble_eq_true rfl), (Nat.le_of_ble_eq_true rfl)⟩) hS (fun q _ h => hFc q h) hFc (fun r_1 u_2 t H locs ht hvm hw hB hz1 hk1 hS => ?_)
  obtain ⟨hP1, hK1, hD1⟩ := hB
  rw [ht] at hP1
  have hK1 := va_K.moved hvm.symm hK1
  try dsimp only at hw hP1 hK1 hD1
  have hK := (hK.sub (tys' := []) [] rfl).app hK1
  have hK : va_K (dC, dI) vwCl [] s := hK
  obtain ⟨hP, hD⟩ := va_join (wr := []) (w1 := [(h, .inr (5, [.ref k, .int x, .null, .null, .int y, .int 1, .int fw, .int b, .int d, .int 0, .int 0, .int 1, .int 1, .long wi, .int tr]))]) hP hD [0] [] rfl rfl (by decide) (by decide) hk1 hFc hP1 hD1
  have hP : va_P (dC, dI) vwCl [(h, .inr (5, [.ref k, .int x, .null, .null, .int y, .int 1, .int fw, .int b, .int d, .int 0, .int 0, .int 1, .int 1, .long wi, .int tr]))] H := hP
  have hD : va_D A [(h, .inr (5, [.ref k, .int x, .null, .null, .int y, .int 1, .int fw, .int b, .int d, .int 0, .int 0, .int 1, .int 1, .long wi, .int tr]))] := hD
  refine lv_lor hx hb dX4_take_14 ?_
  refine va_put (D := (dC, dI)) (ci := 5) (v := .long (wi ||| r_1)) (ty := tyX4 13) (C := RX4) (T := TX4) (N := 15) hx hb tX4 (fun _ h9 => h9) tyX4 tyX4_ok nmX4 hown hK hP hD hS 0 rfl rfl 13 (by decide) (htU _ u_573) (fun _ h9 => h9) rfl (tyX4_ok 13 (by decide)) rfl rfl (Nat.le_of_ble_eq_true rfl) dX4_take_15 (fun H locs hP hD hS => ?_)
  have hP : va_P (dC, dI) vwCl [(h, .inr (5, [.ref k, .int x, .null, .null, .int y, .int 1, .int fw, .int b, .int d, .int 0, .int 0, .int 1, .int 1, .long (wi ||| r_1), .int tr]))] H := hP
  have hD : va_D A [(h, .inr (5, [.ref k, .int x, .null, .null, .int y, .int 1, .int fw, .int b, .int d, .int 0, .int 0, .int 1, .int 1, .long (wi ||| r_1), .int tr]))] := hD
  have hP9 := hP.sub (ws' := [(h, .inr (5, [.ref k, .int x, .null, .null, .int y, .int 1, .int fw, .int b, .int d, .int 0, .int 0, .int 1, .int 1, .long (wi ||| r_1), .int tr]))]) [0] rfl
  have hD9 := hD.sub (ws' := [(h, .inr (5, [.ref k, .int x, .null, .null, .int y, .int 1, .int fw, .int b, .int d, .int 0, .int 0, .int 1, .int 1, .long (wi ||| r_1), .int tr]))]) [0] (by decide) rfl
  have hK9 := hK.sub (tys' := []) [] rfl
  refine W.widen (k := 0) (n := 0) (Nat.le_of_ble_eq_true rfl) (Nat.le_of_ble_eq_true rfl) ?_
  exact W.vret hx hb hr (fun t ht hW => ⟨⟨wi ||| r_1, rfl, trivial, ⟨by rw [ht]; exact hP9, va_K.moved hW.alike hK9, hD9⟩⟩, hS.F ht⟩) hS.2.2 dX4_take_18
