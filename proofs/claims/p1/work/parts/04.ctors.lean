set_option maxHeartbeats 4000000 in
set_option maxRecDepth 100000 in
/-- Terms() -/
theorem c_X9_init (l : Launch) (hf : l.stackTraces = false) (dC : Nat → ClassId) (dI : Nat → Nat → Nat) (ad sa : Nat → Nat) (h : Nat) (sz : Nat) : Met l yX9_init wq_X9_init ({ frames := 8, cells := 1, slots := 20, locals := 200 }) (va_Pc [.ref h] (fun U => U.heap.size = sz ∧ va_P (dC, dI) vwCl [(h, .inr (10, [.int 0, .int 0, .int 0, .null]))] U.heap ∧ va_K (dC, dI) vwCl [] U ∧ va_D (fun _ => True) [(h, .inr (10, [.int 0, .int 0, .int 0, .null]))] ∧ GG (va_A [(h, .inr (10, [.int 0, .int 0, .int 0, .null]))] sz) ad sa U U.heap)) (va_Qv (fun (u : Unit) => True) (fun (u : Unit) t => va_P (dC, dI) vwCl [] t.heap ∧ va_K (dC, dI) vwCl [] t ∧ va_D (va_A [(h, .inr (10, [.int 0, .int 0, .int 0, .null]))] sz) []) (va_A [(h, .inr (10, [.int 0, .int 0, .int 0, .null]))] sz)) 1 20 (va_A [(h, .inr (10, [.int 0, .int 0, .int 0, .null]))] sz) := by
  refine Met.ofW (cc := cX9_init) (maxL := 1) (ret := none) (by decide) rfl ?_
  intro p e s m args below meth c s₁ B hml hv
  obtain ⟨rfl, hsz, hP, hK, hD0, hG⟩ := hv
  have hx := B.exec
  have hb := B.bytes
  have hr := B.returns
  have hts := atoms_spec (ws := wq_X9_init) B.pre
  have htU : ∀ w ∈ UW, w.before _ s = true := fun w h => hts w (List.mem_cons_of_mem _ h)
  have hown : s.vm.findClass RX9 = some m.cls := findClass_of_methodNamed B.named
  have hlocks := B.notSynchronized
  have hin : meth.name = "<init>" := (name_of_methodNamed B.named B.method).1
  have tX9 : ∀ w ∈ wsX90, w.before _ s = true := fun w h => htU w (uX_X9 w h)
  subst hsz
  have hD := hD0.self (sz := s.heap.size)
  generalize hAe : va_A [(h, .inr (10, [.int 0, .int 0, .int 0, .null]))] s.heap.size = A at hD hG ⊢
  have hA : ∀ q : Nat, s.heap.size ≤ q → A q := fun q h => by rw [← hAe]; exact Or.inr h
  have hS : va_S A s.heap s.heap [] := va_S.rf
  have hl := lv_entry ([.ref h]) (n := 1) (Nat.le_of_ble_eq_true rfl)
  rw [lg_entry_eq]
  generalize (lg_sl ([.ref h]) ++ List.replicate (1 - (lg_sl ([.ref h])).length) Slot.unset).toArray = ls at hl ⊢
  have hl : lv_has ls 1 [(0, .ref h)] := hl
  refine lv_aload_n hx hb dX9_init_0 rfl (lv_at hl 0 rfl) ?_
  refine W.objInit hx hb hown (htU _ u_138) (htU _ u_129) (htU _ u_130) rfl (by rw [hml]; exact hl.1) rfl dX9_init_1 (Nat.le_of_ble_eq_true rfl) (Nat.le_of_ble_eq_true rfl) ?_
  refine W.eq (g2 := F0 m 4 ls []) rfl ?_
  refine lv_aload_n hx hb dX9_init_4 rfl (lv_at hl 0 rfl) ?_
  refine lv_bipush (v := 20) hx hb dX9_init_5 (by decide) ?_
  refine va_newa (atype := .int) (ty := .int) (N' := 20) (a0 := (20, .inl (fun _ => 0))) hx hb (htU _ u_153) rfl hK hP hD hS hA (fun _ => rfl) (by decide) (by decide) (Nat.le_of_ble_eq_true rfl) (Nat.le_of_ble_eq_true rfl) (Nat.le_of_ble_eq_true rfl) dX9_init_7 (fun q_1 cA_1 H hK hP hD hS => ?_)
  have hK : va_K (dC, dI) vwCl [(cA_1, .int)] s := hK
  have hP : va_P (dC, dI) vwCl [(h, .inr (10, [.int 0, .int 0, .int 0, .null])), (q_1, .inl (cA_1, 20, .inl (fun _ => 0)))] H := hP
  have hD : va_D A [(h, .inr (10, [.int 0, .int 0, .int 0, .null])), (q_1, .inl (cA_1, 20, .inl (fun _ => 0)))] := hD
  refine va_putF (D := (dC, dI)) (ci := 10) (v := .ref q_1) (ty := tyX9 3) (C := RX9) (T := TX9) (N := 4) hx hb tX9 (fun _ h9 => h9) tyX9 tyX9_ok nmX9 hown hK hP hD hS 0 rfl rfl 3 (by decide) (htU _ u_143) (fun _ h9 => h9) rfl hin rfl (tyX9_ok 3 (by decide)) rfl rfl (Nat.le_of_ble_eq_true rfl) dX9_init_9 (fun H locs hP hD hS => ?_)
  have hP : va_P (dC, dI) vwCl [(h, .inr (10, [.int 0, .int 0, .int 0, .ref q_1])), (q_1, .inl (cA_1, 20, .inl (fun _ => 0)))] H := hP
  have hD : va_D A [(h, .inr (10, [.int 0, .int 0, .int 0, .ref q_1])), (q_1, .inl (cA_1, 20, .inl (fun _ => 0)))] := hD
  have hP9 := hP.sub (ws' := []) [] rfl
  have hD9 := hD.sub (ws' := []) [] (by decide) rfl
  have hK9 := hK.sub (tys' := []) [] rfl
  refine W.widen (k := 1) (n := 20) (Nat.le_of_ble_eq_true rfl) (Nat.le_of_ble_eq_true rfl) ?_
  exact W.vret hx hb hr (fun t ht hW => ⟨⟨(), rfl, trivial, ⟨by rw [ht]; exact hP9, va_K.moved hW.alike hK9, hD9⟩⟩, hS.F ht⟩) hS.2.2 dX9_init_12

set_option maxHeartbeats 4000000 in
set_option maxRecDepth 100000 in
/-- Held() -/
theorem c_X2_init (l : Launch) (hf : l.stackTraces = false) (dC : Nat → ClassId) (dI : Nat → Nat → Nat) (ad sa : Nat → Nat) (h : Nat) (sz : Nat) : Met l yX2_init wq_X2_init ({ frames := 8, cells := 4, slots := 439, locals := 200 }) (va_Pc [.ref h] (fun U => U.heap.size = sz ∧ va_P (dC, dI) vwCl [(h, .inr (4, [.int 0, .null, .null, .null, .null, .int 0]))] U.heap ∧ va_K (dC, dI) vwCl [] U ∧ va_D (fun _ => True) [(h, .inr (4, [.int 0, .null, .null, .null, .null, .int 0]))] ∧ GG (va_A [(h, .inr (4, [.int 0, .null, .null, .null, .null, .int 0]))] sz) ad sa U U.heap)) (va_Qv (fun (u : Unit) => True) (fun (u : Unit) t => va_P (dC, dI) vwCl [] t.heap ∧ va_K (dC, dI) vwCl [] t ∧ va_D (va_A [(h, .inr (4, [.int 0, .null, .null, .null, .null, .int 0]))] sz) []) (va_A [(h, .inr (4, [.int 0, .null, .null, .null, .null, .int 0]))] sz)) 4 439 (va_A [(h, .inr (4, [.int 0, .null, .null, .null, .null, .int 0]))] sz) := by
  refine Met.ofW (cc := cX2_init) (maxL := 1) (ret := none) (by decide) rfl ?_
  intro p e s m args below meth c s₁ B hml hv
  obtain ⟨rfl, hsz, hP, hK, hD0, hG⟩ := hv
  have hx := B.exec
  have hb := B.bytes
  have hr := B.returns
  have hts := atoms_spec (ws := wq_X2_init) B.pre
  have htU : ∀ w ∈ UW, w.before _ s = true := fun w h => hts w (List.mem_cons_of_mem _ h)
  have hown : s.vm.findClass RX2 = some m.cls := findClass_of_methodNamed B.named
  have hlocks := B.notSynchronized
  have hin : meth.name = "<init>" := (name_of_methodNamed B.named B.method).1
  have tX2 : ∀ w ∈ wsX20, w.before _ s = true := fun w h => htU w (uX_X2 w h)
  subst hsz
  have hD := hD0.self (sz := s.heap.size)
  generalize hAe : va_A [(h, .inr (4, [.int 0, .null, .null, .null, .null, .int 0]))] s.heap.size = A at hD hG ⊢
  have hA : ∀ q : Nat, s.heap.size ≤ q → A q := fun q h => by rw [← hAe]; exact Or.inr h
  have hS : va_S A s.heap s.heap [] := va_S.rf
  have hl := lv_entry ([.ref h]) (n := 1) (Nat.le_of_ble_eq_true rfl)
  rw [lg_entry_eq]
  generalize (lg_sl ([.ref h]) ++ List.replicate (1 - (lg_sl ([.ref h])).length) Slot.unset).toArray = ls at hl ⊢
  have hl : lv_has ls 1 [(0, .ref h)] := hl
  refine lv_aload_n hx hb dX2_init_0 rfl (lv_at hl 0 rfl) ?_
  refine W.objInit hx hb hown (htU _ u_165) (htU _ u_129) (htU _ u_130) rfl (by rw [hml]; exact hl.1) rfl dX2_init_1 (Nat.le_of_ble_eq_true rfl) (Nat.le_of_ble_eq_true rfl) ?_
  refine W.eq (g2 := F0 m 4 ls []) rfl ?_
  refine lv_aload_n hx hb dX2_init_4 rfl (lv_at hl 0 rfl) ?_
  refine lv_bipush (v := 61) hx hb dX2_init_5 (by decide) ?_
  refine va_newa (atype := .int) (ty := .int) (N' := 61) (a0 := (61, .inl (fun _ => 0))) hx hb (htU _ u_153) rfl hK hP hD hS hA (fun _ => rfl) (by decide) (by decide) (Nat.le_of_ble_eq_true rfl) (Nat.le_of_ble_eq_true rfl) (Nat.le_of_ble_eq_true rfl) dX2_init_7 (fun q_1 cA_1 H hK hP hD hS => ?_)
  have hK : va_K (dC, dI) vwCl [(cA_1, .int)] s := hK
  have hP : va_P (dC, dI) vwCl [(h, .inr (4, [.int 0, .null, .null, .null, .null, .int 0])), (q_1, .inl (cA_1, 61, .inl (fun _ => 0)))] H := hP
  have hD : va_D A [(h, .inr (4, [.int 0, .null, .null, .null, .null, .int 0])), (q_1, .inl (cA_1, 61, .inl (fun _ => 0)))] := hD
  refine va_putF (D := (dC, dI)) (ci := 4) (v := .ref q_1) (ty := tyX2 1) (C := RX2) (T := TX2) (N := 6) hx hb tX2 (fun _ h9 => h9) tyX2 tyX2_ok nmX2 hown hK hP hD hS 0 rfl rfl 1 (by decide) (htU _ u_167) (fun _ h9 => h9) rfl hin rfl (tyX2_ok 1 (by decide)) rfl rfl (Nat.le_of_ble_eq_true rfl) dX2_init_9 (fun H locs hP hD hS => ?_)
  have hP : va_P (dC, dI) vwCl [(h, .inr (4, [.int 0, .ref q_1, .null, .null, .null, .int 0])), (q_1, .inl (cA_1, 61, .inl (fun _ => 0)))] H := hP
  have hD : va_D A [(h, .inr (4, [.int 0, .ref q_1, .null, .null, .null, .int 0])), (q_1, .inl (cA_1, 61, .inl (fun _ => 0)))] := hD
  refine lv_aload_n hx hb dX2_init_12 rfl (lv_at hl 0 rfl) ?_
  refine lv_bipush (v := 61) hx hb dX2_init_13 (by decide) ?_
  refine va_newa (atype := .int) (ty := .int) (N' := 61) (a0 := (61, .inl (fun _ => 0))) hx hb (htU _ u_153) rfl hK hP hD hS hA (fun _ => rfl) (by decide) (by decide) (Nat.le_of_ble_eq_true rfl) (Nat.le_of_ble_eq_true rfl) (Nat.le_of_ble_eq_true rfl) dX2_init_15 (fun q_2 cA_2 H hK hP hD hS => ?_)
  have e_q_2 : cA_2 = cA_1 := gg_same hK 1 0 (b := .int) rfl rfl (fun _ => rfl)
  rw [e_q_2] at hP hD
  have hK := hK.sub (tys' := [(cA_1, .int)]) [0] rfl
  have hP : va_P (dC, dI) vwCl [(h, .inr (4, [.int 0, .ref q_1, .null, .null, .null, .int 0])), (q_1, .inl (cA_1, 61, .inl (fun _ => 0))), (q_2, .inl (cA_1, 61, .inl (fun _ => 0)))] H := hP
  have hD : va_D A [(h, .inr (4, [.int 0, .ref q_1, .null, .null, .null, .int 0])), (q_1, .inl (cA_1, 61, .inl (fun _ => 0))), (q_2, .inl (cA_1, 61, .inl (fun _ => 0)))] := hD
  refine va_putF (D := (dC, dI)) (ci := 4) (v := .ref q_2) (ty := tyX2 2) (C := RX2) (T := TX2) (N := 6) hx hb tX2 (fun _ h9 => h9) tyX2 tyX2_ok nmX2 hown hK hP hD hS 0 rfl rfl 2 (by decide) (htU _ u_168) (fun _ h9 => h9) rfl hin rfl (tyX2_ok 2 (by decide)) rfl rfl (Nat.le_of_ble_eq_true rfl) dX2_init_17 (fun H locs hP hD hS => ?_)
  have hP : va_P (dC, dI) vwCl [(h, .inr (4, [.int 0, .ref q_1, .ref q_2, .null, .null, .int 0])), (q_1, .inl (cA_1, 61, .inl (fun _ => 0))), (q_2, .inl (cA_1, 61, .inl (fun _ => 0)))] H := hP
  have hD : va_D A [(h, .inr (4, [.int 0, .ref q_1, .ref q_2, .null, .null, .int 0])), (q_1, .inl (cA_1, 61, .inl (fun _ => 0))), (q_2, .inl (cA_1, 61, .inl (fun _ => 0)))] := hD
  refine lv_aload_n hx hb dX2_init_20 rfl (lv_at hl 0 rfl) ?_
  refine lv_sipush (v := 256) hx hb dX2_init_21 (by decide) ?_
  refine va_newa (atype := .int) (ty := .int) (N' := 256) (a0 := (256, .inl (fun _ => 0))) hx hb (htU _ u_153) rfl hK hP hD hS hA (fun _ => rfl) (by decide) (by decide) (Nat.le_of_ble_eq_true rfl) (Nat.le_of_ble_eq_true rfl) (Nat.le_of_ble_eq_true rfl) dX2_init_24 (fun q_3 cA_3 H hK hP hD hS => ?_)
  have e_q_3 : cA_3 = cA_1 := gg_same hK 1 0 (b := .int) rfl rfl (fun _ => rfl)
  rw [e_q_3] at hP hD
  have hK := hK.sub (tys' := [(cA_1, .int)]) [0] rfl
  have hP : va_P (dC, dI) vwCl [(h, .inr (4, [.int 0, .ref q_1, .ref q_2, .null, .null, .int 0])), (q_1, .inl (cA_1, 61, .inl (fun _ => 0))), (q_2, .inl (cA_1, 61, .inl (fun _ => 0))), (q_3, .inl (cA_1, 256, .inl (fun _ => 0)))] H := hP
  have hD : va_D A [(h, .inr (4, [.int 0, .ref q_1, .ref q_2, .null, .null, .int 0])), (q_1, .inl (cA_1, 61, .inl (fun _ => 0))), (q_2, .inl (cA_1, 61, .inl (fun _ => 0))), (q_3, .inl (cA_1, 256, .inl (fun _ => 0)))] := hD
  refine va_putF (D := (dC, dI)) (ci := 4) (v := .ref q_3) (ty := tyX2 3) (C := RX2) (T := TX2) (N := 6) hx hb tX2 (fun _ h9 => h9) tyX2 tyX2_ok nmX2 hown hK hP hD hS 0 rfl rfl 3 (by decide) (htU _ u_169) (fun _ h9 => h9) rfl hin rfl (tyX2_ok 3 (by decide)) rfl rfl (Nat.le_of_ble_eq_true rfl) dX2_init_26 (fun H locs hP hD hS => ?_)
  have hP : va_P (dC, dI) vwCl [(h, .inr (4, [.int 0, .ref q_1, .ref q_2, .ref q_3, .null, .int 0])), (q_1, .inl (cA_1, 61, .inl (fun _ => 0))), (q_2, .inl (cA_1, 61, .inl (fun _ => 0))), (q_3, .inl (cA_1, 256, .inl (fun _ => 0)))] H := hP
  have hD : va_D A [(h, .inr (4, [.int 0, .ref q_1, .ref q_2, .ref q_3, .null, .int 0])), (q_1, .inl (cA_1, 61, .inl (fun _ => 0))), (q_2, .inl (cA_1, 61, .inl (fun _ => 0))), (q_3, .inl (cA_1, 256, .inl (fun _ => 0)))] := hD
  refine lv_aload_n hx hb dX2_init_29 rfl (lv_at hl 0 rfl) ?_
  refine lv_bipush (v := 61) hx hb dX2_init_30 (by decide) ?_
  refine va_newa (atype := .int) (ty := .int) (N' := 61) (a0 := (61, .inl (fun _ => 0))) hx hb (htU _ u_153) rfl hK hP hD hS hA (fun _ => rfl) (by decide) (by decide) (Nat.le_of_ble_eq_true rfl) (Nat.le_of_ble_eq_true rfl) (Nat.le_of_ble_eq_true rfl) dX2_init_32 (fun q_4 cA_4 H hK hP hD hS => ?_)
  have e_q_4 : cA_4 = cA_1 := gg_same hK 1 0 (b := .int) rfl rfl (fun _ => rfl)
  rw [e_q_4] at hP hD
  have hK := hK.sub (tys' := [(cA_1, .int)]) [0] rfl
  have hP : va_P (dC, dI) vwCl [(h, .inr (4, [.int 0, .ref q_1, .ref q_2, .ref q_3, .null, .int 0])), (q_1, .inl (cA_1, 61, .inl (fun _ => 0))), (q_2, .inl (cA_1, 61, .inl (fun _ => 0))), (q_3, .inl (cA_1, 256, .inl (fun _ => 0))), (q_4, .inl (cA_1, 61, .inl (fun _ => 0)))] H := hP
  have hD : va_D A [(h, .inr (4, [.int 0, .ref q_1, .ref q_2, .ref q_3, .null, .int 0])), (q_1, .inl (cA_1, 61, .inl (fun _ => 0))), (q_2, .inl (cA_1, 61, .inl (fun _ => 0))), (q_3, .inl (cA_1, 256, .inl (fun _ => 0))), (q_4, .inl (cA_1, 61, .inl (fun _ => 0)))] := hD
  refine va_putF (D := (dC, dI)) (ci := 4) (v := .ref q_4) (ty := tyX2 4) (C := RX2) (T := TX2) (N := 6) hx hb tX2 (fun _ h9 => h9) tyX2 tyX2_ok nmX2 hown hK hP hD hS 0 rfl rfl 4 (by decide) (htU _ u_170) (fun _ h9 => h9) rfl hin rfl (tyX2_ok 4 (by decide)) rfl rfl (Nat.le_of_ble_eq_true rfl) dX2_init_34 (fun H locs hP hD hS => ?_)
  have hP : va_P (dC, dI) vwCl [(h, .inr (4, [.int 0, .ref q_1, .ref q_2, .ref q_3, .ref q_4, .int 0])), (q_1, .inl (cA_1, 61, .inl (fun _ => 0))), (q_2, .inl (cA_1, 61, .inl (fun _ => 0))), (q_3, .inl (cA_1, 256, .inl (fun _ => 0))), (q_4, .inl (cA_1, 61, .inl (fun _ => 0)))] H := hP
  have hD : va_D A [(h, .inr (4, [.int 0, .ref q_1, .ref q_2, .ref q_3, .ref q_4, .int 0])), (q_1, .inl (cA_1, 61, .inl (fun _ => 0))), (q_2, .inl (cA_1, 61, .inl (fun _ => 0))), (q_3, .inl (cA_1, 256, .inl (fun _ => 0))), (q_4, .inl (cA_1, 61, .inl (fun _ => 0)))] := hD
  have hP9 := hP.sub (ws' := []) [] rfl
  have hD9 := hD.sub (ws' := []) [] (by decide) rfl
  have hK9 := hK.sub (tys' := []) [] rfl
  refine W.widen (k := 4) (n := 439) (Nat.le_of_ble_eq_true rfl) (Nat.le_of_ble_eq_true rfl) ?_
  exact W.vret hx hb hr (fun t ht hW => ⟨⟨(), rfl, trivial, ⟨by rw [ht]; exact hP9, va_K.moved hW.alike hK9, hD9⟩⟩, hS.F ht⟩) hS.2.2 dX2_init_37

set_option maxHeartbeats 4000000 in
set_option maxRecDepth 100000 in
/-- States(held) -/
theorem c_X8_init (l : Launch) (hf : l.stackTraces = false) (dC : Nat → ClassId) (dI : Nat → Nat → Nat) (ad sa : Nat → Nat) (h : Nat) (x1 : Nat) (sz : Nat) : Met l yX8_init wq_X8_init ({ frames := 8, cells := 12, slots := 384, locals := 200 }) (va_Pc [.ref h, .ref x1] (fun U => U.heap.size = sz ∧ va_P (dC, dI) vwCl [(h, .inr (9, [.null, .int 0, .int 0, .long 0, .long 0, .null, .null, .null, .null, .null, .null, .null, .null, .null, .null, .null, .null, .int 0]))] U.heap ∧ va_K (dC, dI) vwCl [] U ∧ va_D (fun _ => True) [(h, .inr (9, [.null, .int 0, .int 0, .long 0, .long 0, .null, .null, .null, .null, .null, .null, .null, .null, .null, .null, .null, .null, .int 0]))] ∧ GG (va_A [(h, .inr (9, [.null, .int 0, .int 0, .long 0, .long 0, .null, .null, .null, .null, .null, .null, .null, .null, .null, .null, .null, .null, .int 0]))] sz) ad sa U U.heap)) (va_Qv (fun (u : Unit) => True) (fun (u : Unit) t => va_P (dC, dI) vwCl [] t.heap ∧ va_K (dC, dI) vwCl [] t ∧ va_D (va_A [(h, .inr (9, [.null, .int 0, .int 0, .long 0, .long 0, .null, .null, .null, .null, .null, .null, .null, .null, .null, .null, .null, .null, .int 0]))] sz) []) (va_A [(h, .inr (9, [.null, .int 0, .int 0, .long 0, .long 0, .null, .null, .null, .null, .null, .null, .null, .null, .null, .null, .null, .null, .int 0]))] sz)) 12 384 (va_A [(h, .inr (9, [.null, .int 0, .int 0, .long 0, .long 0, .null, .null, .null, .null, .null, .null, .null, .null, .null, .null, .null, .null, .int 0]))] sz) := by
  refine Met.ofW (cc := cX8_init) (maxL := 2) (ret := none) (by decide) rfl ?_
  intro p e s m args below meth c s₁ B hml hv
  obtain ⟨rfl, hsz, hP, hK, hD0, hG⟩ := hv
  have hx := B.exec
  have hb := B.bytes
  have hr := B.returns
  have hts := atoms_spec (ws := wq_X8_init) B.pre
  have htU : ∀ w ∈ UW, w.before _ s = true := fun w h => hts w (List.mem_cons_of_mem _ h)
  have hown : s.vm.findClass RX8 = some m.cls := findClass_of_methodNamed B.named
  have hlocks := B.notSynchronized
  have hin : meth.name = "<init>" := (name_of_methodNamed B.named B.method).1
  have tX8 : ∀ w ∈ wsX80, w.before _ s = true := fun w h => htU w (uX_X8 w h)
  subst hsz
  have hD := hD0.self (sz := s.heap.size)
  generalize hAe : va_A [(h, .inr (9, [.null, .int 0, .int 0, .long 0, .long 0, .null, .null, .null, .null, .null, .null, .null, .null, .null, .null, .null, .null, .int 0]))] s.heap.size = A at hD hG ⊢
  have hA : ∀ q : Nat, s.heap.size ≤ q → A q := fun q h => by rw [← hAe]; exact Or.inr h
  have hS : va_S A s.heap s.heap [] := va_S.rf
  have hl := lv_entry ([.ref h, .ref x1]) (n := 2) (Nat.le_of_ble_eq_true rfl)
  rw [lg_entry_eq]
  generalize (lg_sl ([.ref h, .ref x1]) ++ List.replicate (2 - (lg_sl ([.ref h, .ref x1])).length) Slot.unset).toArray = ls at hl ⊢
  have hl : lv_has ls 2 [(0, .ref h), (1, .ref x1)] := hl
  refine lv_aload_n hx hb dX8_init_0 rfl (lv_at hl 0 rfl) ?_
  refine W.objInit hx hb hown (htU _ u_190) (htU _ u_129) (htU _ u_130) rfl (by rw [hml]; exact hl.1) rfl dX8_init_1 (Nat.le_of_ble_eq_true rfl) (Nat.le_of_ble_eq_true rfl) ?_
  refine W.eq (g2 := F0 m 4 ls []) rfl ?_
  refine lv_aload_n hx hb dX8_init_4 rfl (lv_at hl 0 rfl) ?_
  refine lv_aload_n hx hb dX8_init_5 rfl (lv_at hl 1 rfl) ?_
  refine va_putF (D := (dC, dI)) (ci := 9) (v := .ref x1) (ty := tyX8 0) (C := RX8) (T := TX8) (N := 18) hx hb tX8 (fun _ h9 => h9) tyX8 tyX8_ok nmX8 hown hK hP hD hS 0 rfl rfl 0 (by decide) (htU _ u_191) (fun _ h9 => h9) rfl hin rfl (tyX8_ok 0 (by decide)) rfl rfl (Nat.le_of_ble_eq_true rfl) dX8_init_6 (fun H locs hP hD hS => ?_)
  have hP : va_P (dC, dI) vwCl [(h, .inr (9, [.ref x1, .int 0, .int 0, .long 0, .long 0, .null, .null, .null, .null, .null, .null, .null, .null, .null, .null, .null, .null, .int 0]))] H := hP
  have hD : va_D A [(h, .inr (9, [.ref x1, .int 0, .int 0, .long 0, .long 0, .null, .null, .null, .null, .null, .null, .null, .null, .null, .null, .null, .null, .int 0]))] := hD
  refine lv_aload_n hx hb dX8_init_9 rfl (lv_at hl 0 rfl) ?_
  refine lv_bipush (v := 32) hx hb dX8_init_10 (by decide) ?_
  refine va_newa (atype := .int) (ty := .int) (N' := 32) (a0 := (32, .inl (fun _ => 0))) hx hb (htU _ u_153) rfl hK hP hD hS hA (fun _ => rfl) (by decide) (by decide) (Nat.le_of_ble_eq_true rfl) (Nat.le_of_ble_eq_true rfl) (Nat.le_of_ble_eq_true rfl) dX8_init_12 (fun q_1 cA_1 H hK hP hD hS => ?_)
  have hK : va_K (dC, dI) vwCl [(cA_1, .int)] s := hK
  have hP : va_P (dC, dI) vwCl [(h, .inr (9, [.ref x1, .int 0, .int 0, .long 0, .long 0, .null, .null, .null, .null, .null, .null, .null, .null, .null, .null, .null, .null, .int 0])), (q_1, .inl (cA_1, 32, .inl (fun _ => 0)))] H := hP
  have hD : va_D A [(h, .inr (9, [.ref x1, .int 0, .int 0, .long 0, .long 0, .null, .null, .null, .null, .null, .null, .null, .null, .null, .null, .null, .null, .int 0])), (q_1, .inl (cA_1, 32, .inl (fun _ => 0)))] := hD
  refine va_put (D := (dC, dI)) (ci := 9) (v := .ref q_1) (ty := tyX8 5) (C := RX8) (T := TX8) (N := 18) hx hb tX8 (fun _ h9 => h9) tyX8 tyX8_ok nmX8 hown hK hP hD hS 0 rfl rfl 5 (by decide) (htU _ u_200) (fun _ h9 => h9) rfl (tyX8_ok 5 (by decide)) rfl rfl (Nat.le_of_ble_eq_true rfl) dX8_init_14 (fun H locs hP hD hS => ?_)
  have hP : va_P (dC, dI) vwCl [(h, .inr (9, [.ref x1, .int 0, .int 0, .long 0, .long 0, .ref q_1, .null, .null, .null, .null, .null, .null, .null, .null, .null, .null, .null, .int 0])), (q_1, .inl (cA_1, 32, .inl (fun _ => 0)))] H := hP
  have hD : va_D A [(h, .inr (9, [.ref x1, .int 0, .int 0, .long 0, .long 0, .ref q_1, .null, .null, .null, .null, .null, .null, .null, .null, .null, .null, .null, .int 0])), (q_1, .inl (cA_1, 32, .inl (fun _ => 0)))] := hD
  refine lv_aload_n hx hb dX8_init_17 rfl (lv_at hl 0 rfl) ?_
  refine lv_bipush (v := 32) hx hb dX8_init_18 (by decide) ?_
  refine va_newa (atype := .int) (ty := .int) (N' := 32) (a0 := (32, .inl (fun _ => 0))) hx hb (htU _ u_153) rfl hK hP hD hS hA (fun _ => rfl) (by decide) (by decide) (Nat.le_of_ble_eq_true rfl) (Nat.le_of_ble_eq_true rfl) (Nat.le_of_ble_eq_true rfl) dX8_init_20 (fun q_2 cA_2 H hK hP hD hS => ?_)
  have e_q_2 : cA_2 = cA_1 := gg_same hK 1 0 (b := .int) rfl rfl (fun _ => rfl)
  rw [e_q_2] at hP hD
  have hK := hK.sub (tys' := [(cA_1, .int)]) [0] rfl
  have hP : va_P (dC, dI) vwCl [(h, .inr (9, [.ref x1, .int 0, .int 0, .long 0, .long 0, .ref q_1, .null, .null, .null, .null, .null, .null, .null, .null, .null, .null, .null, .int 0])), (q_1, .inl (cA_1, 32, .inl (fun _ => 0))), (q_2, .inl (cA_1, 32, .inl (fun _ => 0)))] H := hP
  have hD : va_D A [(h, .inr (9, [.ref x1, .int 0, .int 0, .long 0, .long 0, .ref q_1, .null, .null, .null, .null, .null, .null, .null, .null, .null, .null, .null, .int 0])), (q_1, .inl (cA_1, 32, .inl (fun _ => 0))), (q_2, .inl (cA_1, 32, .inl (fun _ => 0)))] := hD
  refine va_put (D := (dC, dI)) (ci := 9) (v := .ref q_2) (ty := tyX8 6) (C := RX8) (T := TX8) (N := 18) hx hb tX8 (fun _ h9 => h9) tyX8 tyX8_ok nmX8 hown hK hP hD hS 0 rfl rfl 6 (by decide) (htU _ u_201) (fun _ h9 => h9) rfl (tyX8_ok 6 (by decide)) rfl rfl (Nat.le_of_ble_eq_true rfl) dX8_init_22 (fun H locs hP hD hS => ?_)
  have hP : va_P (dC, dI) vwCl [(h, .inr (9, [.ref x1, .int 0, .int 0, .long 0, .long 0, .ref q_1, .ref q_2, .null, .null, .null, .null, .null, .null, .null, .null, .null, .null, .int 0])), (q_1, .inl (cA_1, 32, .inl (fun _ => 0))), (q_2, .inl (cA_1, 32, .inl (fun _ => 0)))] H := hP
  have hD : va_D A [(h, .inr (9, [.ref x1, .int 0, .int 0, .long 0, .long 0, .ref q_1, .ref q_2, .null, .null, .null, .null, .null, .null, .null, .null, .null, .null, .int 0])), (q_1, .inl (cA_1, 32, .inl (fun _ => 0))), (q_2, .inl (cA_1, 32, .inl (fun _ => 0)))] := hD
  refine lv_aload_n hx hb dX8_init_25 rfl (lv_at hl 0 rfl) ?_
  refine lv_bipush (v := 32) hx hb dX8_init_26 (by decide) ?_
  refine va_newa (atype := .int) (ty := .int) (N' := 32) (a0 := (32, .inl (fun _ => 0))) hx hb (htU _ u_153) rfl hK hP hD hS hA (fun _ => rfl) (by decide) (by decide) (Nat.le_of_ble_eq_true rfl) (Nat.le_of_ble_eq_true rfl) (Nat.le_of_ble_eq_true rfl) dX8_init_28 (fun q_3 cA_3 H hK hP hD hS => ?_)
  have e_q_3 : cA_3 = cA_1 := gg_same hK 1 0 (b := .int) rfl rfl (fun _ => rfl)
  rw [e_q_3] at hP hD
  have hK := hK.sub (tys' := [(cA_1, .int)]) [0] rfl
  have hP : va_P (dC, dI) vwCl [(h, .inr (9, [.ref x1, .int 0, .int 0, .long 0, .long 0, .ref q_1, .ref q_2, .null, .null, .null, .null, .null, .null, .null, .null, .null, .null, .int 0])), (q_1, .inl (cA_1, 32, .inl (fun _ => 0))), (q_2, .inl (cA_1, 32, .inl (fun _ => 0))), (q_3, .inl (cA_1, 32, .inl (fun _ => 0)))] H := hP
  have hD : va_D A [(h, .inr (9, [.ref x1, .int 0, .int 0, .long 0, .long 0, .ref q_1, .ref q_2, .null, .null, .null, .null, .null, .null, .null, .null, .null, .null, .int 0])), (q_1, .inl (cA_1, 32, .inl (fun _ => 0))), (q_2, .inl (cA_1, 32, .inl (fun _ => 0))), (q_3, .inl (cA_1, 32, .inl (fun _ => 0)))] := hD
  refine va_put (D := (dC, dI)) (ci := 9) (v := .ref q_3) (ty := tyX8 7) (C := RX8) (T := TX8) (N := 18) hx hb tX8 (fun _ h9 => h9) tyX8 tyX8_ok nmX8 hown hK hP hD hS 0 rfl rfl 7 (by decide) (htU _ u_203) (fun _ h9 => h9) rfl (tyX8_ok 7 (by decide)) rfl rfl (Nat.le_of_ble_eq_true rfl) dX8_init_30 (fun H locs hP hD hS => ?_)
  have hP : va_P (dC, dI) vwCl [(h, .inr (9, [.ref x1, .int 0, .int 0, .long 0, .long 0, .ref q_1, .ref q_2, .ref q_3, .null, .null, .null, .null, .null, .null, .null, .null, .null, .int 0])), (q_1, .inl (cA_1, 32, .inl (fun _ => 0))), (q_2, .inl (cA_1, 32, .inl (fun _ => 0))), (q_3, .inl (cA_1, 32, .inl (fun _ => 0)))] H := hP
  have hD : va_D A [(h, .inr (9, [.ref x1, .int 0, .int 0, .long 0, .long 0, .ref q_1, .ref q_2, .ref q_3, .null, .null, .null, .null, .null, .null, .null, .null, .null, .int 0])), (q_1, .inl (cA_1, 32, .inl (fun _ => 0))), (q_2, .inl (cA_1, 32, .inl (fun _ => 0))), (q_3, .inl (cA_1, 32, .inl (fun _ => 0)))] := hD
  refine lv_aload_n hx hb dX8_init_33 rfl (lv_at hl 0 rfl) ?_
  refine lv_bipush (v := 32) hx hb dX8_init_34 (by decide) ?_
  refine va_newa (atype := .int) (ty := .int) (N' := 32) (a0 := (32, .inl (fun _ => 0))) hx hb (htU _ u_153) rfl hK hP hD hS hA (fun _ => rfl) (by decide) (by decide) (Nat.le_of_ble_eq_true rfl) (Nat.le_of_ble_eq_true rfl) (Nat.le_of_ble_eq_true rfl) dX8_init_36 (fun q_4 cA_4 H hK hP hD hS => ?_)
  have e_q_4 : cA_4 = cA_1 := gg_same hK 1 0 (b := .int) rfl rfl (fun _ => rfl)
  rw [e_q_4] at hP hD
  have hK := hK.sub (tys' := [(cA_1, .int)]) [0] rfl
  have hP : va_P (dC, dI) vwCl [(h, .inr (9, [.ref x1, .int 0, .int 0, .long 0, .long 0, .ref q_1, .ref q_2, .ref q_3, .null, .null, .null, .null, .null, .null, .null, .null, .null, .int 0])), (q_1, .inl (cA_1, 32, .inl (fun _ => 0))), (q_2, .inl (cA_1, 32, .inl (fun _ => 0))), (q_3, .inl (cA_1, 32, .inl (fun _ => 0))), (q_4, .inl (cA_1, 32, .inl (fun _ => 0)))] H := hP
  have hD : va_D A [(h, .inr (9, [.ref x1, .int 0, .int 0, .long 0, .long 0, .ref q_1, .ref q_2, .ref q_3, .null, .null, .null, .null, .null, .null, .null, .null, .null, .int 0])), (q_1, .inl (cA_1, 32, .inl (fun _ => 0))), (q_2, .inl (cA_1, 32, .inl (fun _ => 0))), (q_3, .inl (cA_1, 32, .inl (fun _ => 0))), (q_4, .inl (cA_1, 32, .inl (fun _ => 0)))] := hD
  refine va_put (D := (dC, dI)) (ci := 9) (v := .ref q_4) (ty := tyX8 8) (C := RX8) (T := TX8) (N := 18) hx hb tX8 (fun _ h9 => h9) tyX8 tyX8_ok nmX8 hown hK hP hD hS 0 rfl rfl 8 (by decide) (htU _ u_205) (fun _ h9 => h9) rfl (tyX8_ok 8 (by decide)) rfl rfl (Nat.le_of_ble_eq_true rfl) dX8_init_38 (fun H locs hP hD hS => ?_)
  have hP : va_P (dC, dI) vwCl [(h, .inr (9, [.ref x1, .int 0, .int 0, .long 0, .long 0, .ref q_1, .ref q_2, .ref q_3, .ref q_4, .null, .null, .null, .null, .null, .null, .null, .null, .int 0])), (q_1, .inl (cA_1, 32, .inl (fun _ => 0))), (q_2, .inl (cA_1, 32, .inl (fun _ => 0))), (q_3, .inl (cA_1, 32, .inl (fun _ => 0))), (q_4, .inl (cA_1, 32, .inl (fun _ => 0)))] H := hP
  have hD : va_D A [(h, .inr (9, [.ref x1, .int 0, .int 0, .long 0, .long 0, .ref q_1, .ref q_2, .ref q_3, .ref q_4, .null, .null, .null, .null, .null, .null, .null, .null, .int 0])), (q_1, .inl (cA_1, 32, .inl (fun _ => 0))), (q_2, .inl (cA_1, 32, .inl (fun _ => 0))), (q_3, .inl (cA_1, 32, .inl (fun _ => 0))), (q_4, .inl (cA_1, 32, .inl (fun _ => 0)))] := hD
  refine lv_aload_n hx hb dX8_init_41 rfl (lv_at hl 0 rfl) ?_
  refine lv_bipush (v := 32) hx hb dX8_init_42 (by decide) ?_
  refine va_newa (atype := .long) (ty := .long) (N' := 32) (a0 := (32, .inr (.inl (fun _ => 0)))) hx hb (htU _ u_257) rfl hK hP hD hS hA (fun _ => rfl) (by decide) (by decide) (Nat.le_of_ble_eq_true rfl) (Nat.le_of_ble_eq_true rfl) (Nat.le_of_ble_eq_true rfl) dX8_init_44 (fun q_5 cA_5 H hK hP hD hS => ?_)
  have hK : va_K (dC, dI) vwCl [(cA_1, .int), (cA_5, .long)] s := hK
  have hP : va_P (dC, dI) vwCl [(h, .inr (9, [.ref x1, .int 0, .int 0, .long 0, .long 0, .ref q_1, .ref q_2, .ref q_3, .ref q_4, .null, .null, .null, .null, .null, .null, .null, .null, .int 0])), (q_1, .inl (cA_1, 32, .inl (fun _ => 0))), (q_2, .inl (cA_1, 32, .inl (fun _ => 0))), (q_3, .inl (cA_1, 32, .inl (fun _ => 0))), (q_4, .inl (cA_1, 32, .inl (fun _ => 0))), (q_5, .inl (cA_5, 32, .inr (.inl (fun _ => 0))))] H := hP
  have hD : va_D A [(h, .inr (9, [.ref x1, .int 0, .int 0, .long 0, .long 0, .ref q_1, .ref q_2, .ref q_3, .ref q_4, .null, .null, .null, .null, .null, .null, .null, .null, .int 0])), (q_1, .inl (cA_1, 32, .inl (fun _ => 0))), (q_2, .inl (cA_1, 32, .inl (fun _ => 0))), (q_3, .inl (cA_1, 32, .inl (fun _ => 0))), (q_4, .inl (cA_1, 32, .inl (fun _ => 0))), (q_5, .inl (cA_5, 32, .inr (.inl (fun _ => 0))))] := hD
  refine va_put (D := (dC, dI)) (ci := 9) (v := .ref q_5) (ty := tyX8 9) (C := RX8) (T := TX8) (N := 18) hx hb tX8 (fun _ h9 => h9) tyX8 tyX8_ok nmX8 hown hK hP hD hS 0 rfl rfl 9 (by decide) (htU _ u_207) (fun _ h9 => h9) rfl (tyX8_ok 9 (by decide)) rfl rfl (Nat.le_of_ble_eq_true rfl) dX8_init_46 (fun H locs hP hD hS => ?_)
  have hP : va_P (dC, dI) vwCl [(h, .inr (9, [.ref x1, .int 0, .int 0, .long 0, .long 0, .ref q_1, .ref q_2, .ref q_3, .ref q_4, .ref q_5, .null, .null, .null, .null, .null, .null, .null, .int 0])), (q_1, .inl (cA_1, 32, .inl (fun _ => 0))), (q_2, .inl (cA_1, 32, .inl (fun _ => 0))), (q_3, .inl (cA_1, 32, .inl (fun _ => 0))), (q_4, .inl (cA_1, 32, .inl (fun _ => 0))), (q_5, .inl (cA_5, 32, .inr (.inl (fun _ => 0))))] H := hP
  have hD : va_D A [(h, .inr (9, [.ref x1, .int 0, .int 0, .long 0, .long 0, .ref q_1, .ref q_2, .ref q_3, .ref q_4, .ref q_5, .null, .null, .null, .null, .null, .null, .null, .int 0])), (q_1, .inl (cA_1, 32, .inl (fun _ => 0))), (q_2, .inl (cA_1, 32, .inl (fun _ => 0))), (q_3, .inl (cA_1, 32, .inl (fun _ => 0))), (q_4, .inl (cA_1, 32, .inl (fun _ => 0))), (q_5, .inl (cA_5, 32, .inr (.inl (fun _ => 0))))] := hD
  refine lv_aload_n hx hb dX8_init_49 rfl (lv_at hl 0 rfl) ?_
  refine lv_bipush (v := 32) hx hb dX8_init_50 (by decide) ?_
  refine va_newa (atype := .long) (ty := .long) (N' := 32) (a0 := (32, .inr (.inl (fun _ => 0)))) hx hb (htU _ u_257) rfl hK hP hD hS hA (fun _ => rfl) (by decide) (by decide) (Nat.le_of_ble_eq_true rfl) (Nat.le_of_ble_eq_true rfl) (Nat.le_of_ble_eq_true rfl) dX8_init_52 (fun q_6 cA_6 H hK hP hD hS => ?_)
  have e_q_6 : cA_6 = cA_5 := gg_same hK 2 1 (b := .long) rfl rfl (fun _ => rfl)
  rw [e_q_6] at hP hD
  have hK := hK.sub (tys' := [(cA_1, .int), (cA_5, .long)]) [0, 1] rfl
  have hP : va_P (dC, dI) vwCl [(h, .inr (9, [.ref x1, .int 0, .int 0, .long 0, .long 0, .ref q_1, .ref q_2, .ref q_3, .ref q_4, .ref q_5, .null, .null, .null, .null, .null, .null, .null, .int 0])), (q_1, .inl (cA_1, 32, .inl (fun _ => 0))), (q_2, .inl (cA_1, 32, .inl (fun _ => 0))), (q_3, .inl (cA_1, 32, .inl (fun _ => 0))), (q_4, .inl (cA_1, 32, .inl (fun _ => 0))), (q_5, .inl (cA_5, 32, .inr (.inl (fun _ => 0)))), (q_6, .inl (cA_5, 32, .inr (.inl (fun _ => 0))))] H := hP
  have hD : va_D A [(h, .inr (9, [.ref x1, .int 0, .int 0, .long 0, .long 0, .ref q_1, .ref q_2, .ref q_3, .ref q_4, .ref q_5, .null, .null, .null, .null, .null, .null, .null, .int 0])), (q_1, .inl (cA_1, 32, .inl (fun _ => 0))), (q_2, .inl (cA_1, 32, .inl (fun _ => 0))), (q_3, .inl (cA_1, 32, .inl (fun _ => 0))), (q_4, .inl (cA_1, 32, .inl (fun _ => 0))), (q_5, .inl (cA_5, 32, .inr (.inl (fun _ => 0)))), (q_6, .inl (cA_5, 32, .inr (.inl (fun _ => 0))))] := hD
  refine va_put (D := (dC, dI)) (ci := 9) (v := .ref q_6) (ty := tyX8 10) (C := RX8) (T := TX8) (N := 18) hx hb tX8 (fun _ h9 => h9) tyX8 tyX8_ok nmX8 hown hK hP hD hS 0 rfl rfl 10 (by decide) (htU _ u_209) (fun _ h9 => h9) rfl (tyX8_ok 10 (by decide)) rfl rfl (Nat.le_of_ble_eq_true rfl) dX8_init_54 (fun H locs hP hD hS => ?_)
  have hP : va_P (dC, dI) vwCl [(h, .inr (9, [.ref x1, .int 0, .int 0, .long 0, .long 0, .ref q_1, .ref q_2, .ref q_3, .ref q_4, .ref q_5, .ref q_6, .null, .null, .null, .null, .null, .null, .int 0])), (q_1, .inl (cA_1, 32, .inl (fun _ => 0))), (q_2, .inl (cA_1, 32, .inl (fun _ => 0))), (q_3, .inl (cA_1, 32, .inl (fun _ => 0))), (q_4, .inl (cA_1, 32, .inl (fun _ => 0))), (q_5, .inl (cA_5, 32, .inr (.inl (fun _ => 0)))), (q_6, .inl (cA_5, 32, .inr (.inl (fun _ => 0))))] H := hP
  have hD : va_D A [(h, .inr (9, [.ref x1, .int 0, .int 0, .long 0, .long 0, .ref q_1, .ref q_2, .ref q_3, .ref q_4, .ref q_5, .ref q_6, .null, .null, .null, .null, .null, .null, .int 0])), (q_1, .inl (cA_1, 32, .inl (fun _ => 0))), (q_2, .inl (cA_1, 32, .inl (fun _ => 0))), (q_3, .inl (cA_1, 32, .inl (fun _ => 0))), (q_4, .inl (cA_1, 32, .inl (fun _ => 0))), (q_5, .inl (cA_5, 32, .inr (.inl (fun _ => 0)))), (q_6, .inl (cA_5, 32, .inr (.inl (fun _ => 0))))] := hD
  refine lv_aload_n hx hb dX8_init_57 rfl (lv_at hl 0 rfl) ?_
  refine lv_bipush (v := 32) hx hb dX8_init_58 (by decide) ?_
  refine va_newa (atype := .int) (ty := .int) (N' := 32) (a0 := (32, .inl (fun _ => 0))) hx hb (htU _ u_153) rfl hK hP hD hS hA (fun _ => rfl) (by decide) (by decide) (Nat.le_of_ble_eq_true rfl) (Nat.le_of_ble_eq_true rfl) (Nat.le_of_ble_eq_true rfl) dX8_init_60 (fun q_7 cA_7 H hK hP hD hS => ?_)
  have e_q_7 : cA_7 = cA_1 := gg_same hK 2 0 (b := .int) rfl rfl (fun _ => rfl)
  rw [e_q_7] at hP hD
  have hK := hK.sub (tys' := [(cA_1, .int), (cA_5, .long)]) [0, 1] rfl
  have hP : va_P (dC, dI) vwCl [(h, .inr (9, [.ref x1, .int 0, .int 0, .long 0, .long 0, .ref q_1, .ref q_2, .ref q_3, .ref q_4, .ref q_5, .ref q_6, .null, .null, .null, .null, .null, .null, .int 0])), (q_1, .inl (cA_1, 32, .inl (fun _ => 0))), (q_2, .inl (cA_1, 32, .inl (fun _ => 0))), (q_3, .inl (cA_1, 32, .inl (fun _ => 0))), (q_4, .inl (cA_1, 32, .inl (fun _ => 0))), (q_5, .inl (cA_5, 32, .inr (.inl (fun _ => 0)))), (q_6, .inl (cA_5, 32, .inr (.inl (fun _ => 0)))), (q_7, .inl (cA_1, 32, .inl (fun _ => 0)))] H := hP
  have hD : va_D A [(h, .inr (9, [.ref x1, .int 0, .int 0, .long 0, .long 0, .ref q_1, .ref q_2, .ref q_3, .ref q_4, .ref q_5, .ref q_6, .null, .null, .null, .null, .null, .null, .int 0])), (q_1, .inl (cA_1, 32, .inl (fun _ => 0))), (q_2, .inl (cA_1, 32, .inl (fun _ => 0))), (q_3, .inl (cA_1, 32, .inl (fun _ => 0))), (q_4, .inl (cA_1, 32, .inl (fun _ => 0))), (q_5, .inl (cA_5, 32, .inr (.inl (fun _ => 0)))), (q_6, .inl (cA_5, 32, .inr (.inl (fun _ => 0)))), (q_7, .inl (cA_1, 32, .inl (fun _ => 0)))] := hD
  refine va_put (D := (dC, dI)) (ci := 9) (v := .ref q_7) (ty := tyX8 11) (C := RX8) (T := TX8) (N := 18) hx hb tX8 (fun _ h9 => h9) tyX8 tyX8_ok nmX8 hown hK hP hD hS 0 rfl rfl 11 (by decide) (htU _ u_211) (fun _ h9 => h9) rfl (tyX8_ok 11 (by decide)) rfl rfl (Nat.le_of_ble_eq_true rfl) dX8_init_62 (fun H locs hP hD hS => ?_)
  have hP : va_P (dC, dI) vwCl [(h, .inr (9, [.ref x1, .int 0, .int 0, .long 0, .long 0, .ref q_1, .ref q_2, .ref q_3, .ref q_4, .ref q_5, .ref q_6, .ref q_7, .null, .null, .null, .null, .null, .int 0])), (q_1, .inl (cA_1, 32, .inl (fun _ => 0))), (q_2, .inl (cA_1, 32, .inl (fun _ => 0))), (q_3, .inl (cA_1, 32, .inl (fun _ => 0))), (q_4, .inl (cA_1, 32, .inl (fun _ => 0))), (q_5, .inl (cA_5, 32, .inr (.inl (fun _ => 0)))), (q_6, .inl (cA_5, 32, .inr (.inl (fun _ => 0)))), (q_7, .inl (cA_1, 32, .inl (fun _ => 0)))] H := hP
  have hD : va_D A [(h, .inr (9, [.ref x1, .int 0, .int 0, .long 0, .long 0, .ref q_1, .ref q_2, .ref q_3, .ref q_4, .ref q_5, .ref q_6, .ref q_7, .null, .null, .null, .null, .null, .int 0])), (q_1, .inl (cA_1, 32, .inl (fun _ => 0))), (q_2, .inl (cA_1, 32, .inl (fun _ => 0))), (q_3, .inl (cA_1, 32, .inl (fun _ => 0))), (q_4, .inl (cA_1, 32, .inl (fun _ => 0))), (q_5, .inl (cA_5, 32, .inr (.inl (fun _ => 0)))), (q_6, .inl (cA_5, 32, .inr (.inl (fun _ => 0)))), (q_7, .inl (cA_1, 32, .inl (fun _ => 0)))] := hD
  refine lv_aload_n hx hb dX8_init_65 rfl (lv_at hl 0 rfl) ?_
  refine lv_bipush (v := 32) hx hb dX8_init_66 (by decide) ?_
  refine va_newa (atype := .int) (ty := .int) (N' := 32) (a0 := (32, .inl (fun _ => 0))) hx hb (htU _ u_153) rfl hK hP hD hS hA (fun _ => rfl) (by decide) (by decide) (Nat.le_of_ble_eq_true rfl) (Nat.le_of_ble_eq_true rfl) (Nat.le_of_ble_eq_true rfl) dX8_init_68 (fun q_8 cA_8 H hK hP hD hS => ?_)
  have e_q_8 : cA_8 = cA_1 := gg_same hK 2 0 (b := .int) rfl rfl (fun _ => rfl)
  rw [e_q_8] at hP hD
  have hK := hK.sub (tys' := [(cA_1, .int), (cA_5, .long)]) [0, 1] rfl
  have hP : va_P (dC, dI) vwCl [(h, .inr (9, [.ref x1, .int 0, .int 0, .long 0, .long 0, .ref q_1, .ref q_2, .ref q_3, .ref q_4, .ref q_5, .ref q_6, .ref q_7, .null, .null, .null, .null, .null, .int 0])), (q_1, .inl (cA_1, 32, .inl (fun _ => 0))), (q_2, .inl (cA_1, 32, .inl (fun _ => 0))), (q_3, .inl (cA_1, 32, .inl (fun _ => 0))), (q_4, .inl (cA_1, 32, .inl (fun _ => 0))), (q_5, .inl (cA_5, 32, .inr (.inl (fun _ => 0)))), (q_6, .inl (cA_5, 32, .inr (.inl (fun _ => 0)))), (q_7, .inl (cA_1, 32, .inl (fun _ => 0))), (q_8, .inl (cA_1, 32, .inl (fun _ => 0)))] H := hP
  have hD : va_D A [(h, .inr (9, [.ref x1, .int 0, .int 0, .long 0, .long 0, .ref q_1, .ref q_2, .ref q_3, .ref q_4, .ref q_5, .ref q_6, .ref q_7, .null, .null, .null, .null, .null, .int 0])), (q_1, .inl (cA_1, 32, .inl (fun _ => 0))), (q_2, .inl (cA_1, 32, .inl (fun _ => 0))), (q_3, .inl (cA_1, 32, .inl (fun _ => 0))), (q_4, .inl (cA_1, 32, .inl (fun _ => 0))), (q_5, .inl (cA_5, 32, .inr (.inl (fun _ => 0)))), (q_6, .inl (cA_5, 32, .inr (.inl (fun _ => 0)))), (q_7, .inl (cA_1, 32, .inl (fun _ => 0))), (q_8, .inl (cA_1, 32, .inl (fun _ => 0)))] := hD
  refine va_put (D := (dC, dI)) (ci := 9) (v := .ref q_8) (ty := tyX8 12) (C := RX8) (T := TX8) (N := 18) hx hb tX8 (fun _ h9 => h9) tyX8 tyX8_ok nmX8 hown hK hP hD hS 0 rfl rfl 12 (by decide) (htU _ u_213) (fun _ h9 => h9) rfl (tyX8_ok 12 (by decide)) rfl rfl (Nat.le_of_ble_eq_true rfl) dX8_init_70 (fun H locs hP hD hS => ?_)
  have hP : va_P (dC, dI) vwCl [(h, .inr (9, [.ref x1, .int 0, .int 0, .long 0, .long 0, .ref q_1, .ref q_2, .ref q_3, .ref q_4, .ref q_5, .ref q_6, .ref q_7, .ref q_8, .null, .null, .null, .null, .int 0])), (q_1, .inl (cA_1, 32, .inl (fun _ => 0))), (q_2, .inl (cA_1, 32, .inl (fun _ => 0))), (q_3, .inl (cA_1, 32, .inl (fun _ => 0))), (q_4, .inl (cA_1, 32, .inl (fun _ => 0))), (q_5, .inl (cA_5, 32, .inr (.inl (fun _ => 0)))), (q_6, .inl (cA_5, 32, .inr (.inl (fun _ => 0)))), (q_7, .inl (cA_1, 32, .inl (fun _ => 0))), (q_8, .inl (cA_1, 32, .inl (fun _ => 0)))] H := hP
  have hD : va_D A [(h, .inr (9, [.ref x1, .int 0, .int 0, .long 0, .long 0, .ref q_1, .ref q_2, .ref q_3, .ref q_4, .ref q_5, .ref q_6, .ref q_7, .ref q_8, .null, .null, .null, .null, .int 0])), (q_1, .inl (cA_1, 32, .inl (fun _ => 0))), (q_2, .inl (cA_1, 32, .inl (fun _ => 0))), (q_3, .inl (cA_1, 32, .inl (fun _ => 0))), (q_4, .inl (cA_1, 32, .inl (fun _ => 0))), (q_5, .inl (cA_5, 32, .inr (.inl (fun _ => 0)))), (q_6, .inl (cA_5, 32, .inr (.inl (fun _ => 0)))), (q_7, .inl (cA_1, 32, .inl (fun _ => 0))), (q_8, .inl (cA_1, 32, .inl (fun _ => 0)))] := hD
  refine lv_aload_n hx hb dX8_init_73 rfl (lv_at hl 0 rfl) ?_
  refine lv_bipush (v := 32) hx hb dX8_init_74 (by decide) ?_
  refine va_newa (atype := .long) (ty := .long) (N' := 32) (a0 := (32, .inr (.inl (fun _ => 0)))) hx hb (htU _ u_257) rfl hK hP hD hS hA (fun _ => rfl) (by decide) (by decide) (Nat.le_of_ble_eq_true rfl) (Nat.le_of_ble_eq_true rfl) (Nat.le_of_ble_eq_true rfl) dX8_init_76 (fun q_9 cA_9 H hK hP hD hS => ?_)
  have e_q_9 : cA_9 = cA_5 := gg_same hK 2 1 (b := .long) rfl rfl (fun _ => rfl)
  rw [e_q_9] at hP hD
  have hK := hK.sub (tys' := [(cA_1, .int), (cA_5, .long)]) [0, 1] rfl
  have hP : va_P (dC, dI) vwCl [(h, .inr (9, [.ref x1, .int 0, .int 0, .long 0, .long 0, .ref q_1, .ref q_2, .ref q_3, .ref q_4, .ref q_5, .ref q_6, .ref q_7, .ref q_8, .null, .null, .null, .null, .int 0])), (q_1, .inl (cA_1, 32, .inl (fun _ => 0))), (q_2, .inl (cA_1, 32, .inl (fun _ => 0))), (q_3, .inl (cA_1, 32, .inl (fun _ => 0))), (q_4, .inl (cA_1, 32, .inl (fun _ => 0))), (q_5, .inl (cA_5, 32, .inr (.inl (fun _ => 0)))), (q_6, .inl (cA_5, 32, .inr (.inl (fun _ => 0)))), (q_7, .inl (cA_1, 32, .inl (fun _ => 0))), (q_8, .inl (cA_1, 32, .inl (fun _ => 0))), (q_9, .inl (cA_5, 32, .inr (.inl (fun _ => 0))))] H := hP
  have hD : va_D A [(h, .inr (9, [.ref x1, .int 0, .int 0, .long 0, .long 0, .ref q_1, .ref q_2, .ref q_3, .ref q_4, .ref q_5, .ref q_6, .ref q_7, .ref q_8, .null, .null, .null, .null, .int 0])), (q_1, .inl (cA_1, 32, .inl (fun _ => 0))), (q_2, .inl (cA_1, 32, .inl (fun _ => 0))), (q_3, .inl (cA_1, 32, .inl (fun _ => 0))), (q_4, .inl (cA_1, 32, .inl (fun _ => 0))), (q_5, .inl (cA_5, 32, .inr (.inl (fun _ => 0)))), (q_6, .inl (cA_5, 32, .inr (.inl (fun _ => 0)))), (q_7, .inl (cA_1, 32, .inl (fun _ => 0))), (q_8, .inl (cA_1, 32, .inl (fun _ => 0))), (q_9, .inl (cA_5, 32, .inr (.inl (fun _ => 0))))] := hD
  refine va_put (D := (dC, dI)) (ci := 9) (v := .ref q_9) (ty := tyX8 13) (C := RX8) (T := TX8) (N := 18) hx hb tX8 (fun _ h9 => h9) tyX8 tyX8_ok nmX8 hown hK hP hD hS 0 rfl rfl 13 (by decide) (htU _ u_215) (fun _ h9 => h9) rfl (tyX8_ok 13 (by decide)) rfl rfl (Nat.le_of_ble_eq_true rfl) dX8_init_78 (fun H locs hP hD hS => ?_)
  have hP : va_P (dC, dI) vwCl [(h, .inr (9, [.ref x1, .int 0, .int 0, .long 0, .long 0, .ref q_1, .ref q_2, .ref q_3, .ref q_4, .ref q_5, .ref q_6, .ref q_7, .ref q_8, .ref q_9, .null, .null, .null, .int 0])), (q_1, .inl (cA_1, 32, .inl (fun _ => 0))), (q_2, .inl (cA_1, 32, .inl (fun _ => 0))), (q_3, .inl (cA_1, 32, .inl (fun _ => 0))), (q_4, .inl (cA_1, 32, .inl (fun _ => 0))), (q_5, .inl (cA_5, 32, .inr (.inl (fun _ => 0)))), (q_6, .inl (cA_5, 32, .inr (.inl (fun _ => 0)))), (q_7, .inl (cA_1, 32, .inl (fun _ => 0))), (q_8, .inl (cA_1, 32, .inl (fun _ => 0))), (q_9, .inl (cA_5, 32, .inr (.inl (fun _ => 0))))] H := hP
  have hD : va_D A [(h, .inr (9, [.ref x1, .int 0, .int 0, .long 0, .long 0, .ref q_1, .ref q_2, .ref q_3, .ref q_4, .ref q_5, .ref q_6, .ref q_7, .ref q_8, .ref q_9, .null, .null, .null, .int 0])), (q_1, .inl (cA_1, 32, .inl (fun _ => 0))), (q_2, .inl (cA_1, 32, .inl (fun _ => 0))), (q_3, .inl (cA_1, 32, .inl (fun _ => 0))), (q_4, .inl (cA_1, 32, .inl (fun _ => 0))), (q_5, .inl (cA_5, 32, .inr (.inl (fun _ => 0)))), (q_6, .inl (cA_5, 32, .inr (.inl (fun _ => 0)))), (q_7, .inl (cA_1, 32, .inl (fun _ => 0))), (q_8, .inl (cA_1, 32, .inl (fun _ => 0))), (q_9, .inl (cA_5, 32, .inr (.inl (fun _ => 0))))] := hD
  refine lv_aload_n hx hb dX8_init_81 rfl (lv_at hl 0 rfl) ?_
  refine lv_bipush (v := 32) hx hb dX8_init_82 (by decide) ?_
  refine va_newa (atype := .int) (ty := .int) (N' := 32) (a0 := (32, .inl (fun _ => 0))) hx hb (htU _ u_153) rfl hK hP hD hS hA (fun _ => rfl) (by decide) (by decide) (Nat.le_of_ble_eq_true rfl) (Nat.le_of_ble_eq_true rfl) (Nat.le_of_ble_eq_true rfl) dX8_init_84 (fun q_10 cA_10 H hK hP hD hS => ?_)
  have e_q_10 : cA_10 = cA_1 := gg_same hK 2 0 (b := .int) rfl rfl (fun _ => rfl)
  rw [e_q_10] at hP hD
  have hK := hK.sub (tys' := [(cA_1, .int), (cA_5, .long)]) [0, 1] rfl
  have hP : va_P (dC, dI) vwCl [(h, .inr (9, [.ref x1, .int 0, .int 0, .long 0, .long 0, .ref q_1, .ref q_2, .ref q_3, .ref q_4, .ref q_5, .ref q_6, .ref q_7, .ref q_8, .ref q_9, .null, .null, .null, .int 0])), (q_1, .inl (cA_1, 32, .inl (fun _ => 0))), (q_2, .inl (cA_1, 32, .inl (fun _ => 0))), (q_3, .inl (cA_1, 32, .inl (fun _ => 0))), (q_4, .inl (cA_1, 32, .inl (fun _ => 0))), (q_5, .inl (cA_5, 32, .inr (.inl (fun _ => 0)))), (q_6, .inl (cA_5, 32, .inr (.inl (fun _ => 0)))), (q_7, .inl (cA_1, 32, .inl (fun _ => 0))), (q_8, .inl (cA_1, 32, .inl (fun _ => 0))), (q_9, .inl (cA_5, 32, .inr (.inl (fun _ => 0)))), (q_10, .inl (cA_1, 32, .inl (fun _ => 0)))] H := hP
  have hD : va_D A [(h, .inr (9, [.ref x1, .int 0, .int 0, .long 0, .long 0, .ref q_1, .ref q_2, .ref q_3, .ref q_4, .ref q_5, .ref q_6, .ref q_7, .ref q_8, .ref q_9, .null, .null, .null, .int 0])), (q_1, .inl (cA_1, 32, .inl (fun _ => 0))), (q_2, .inl (cA_1, 32, .inl (fun _ => 0))), (q_3, .inl (cA_1, 32, .inl (fun _ => 0))), (q_4, .inl (cA_1, 32, .inl (fun _ => 0))), (q_5, .inl (cA_5, 32, .inr (.inl (fun _ => 0)))), (q_6, .inl (cA_5, 32, .inr (.inl (fun _ => 0)))), (q_7, .inl (cA_1, 32, .inl (fun _ => 0))), (q_8, .inl (cA_1, 32, .inl (fun _ => 0))), (q_9, .inl (cA_5, 32, .inr (.inl (fun _ => 0)))), (q_10, .inl (cA_1, 32, .inl (fun _ => 0)))] := hD
  refine va_put (D := (dC, dI)) (ci := 9) (v := .ref q_10) (ty := tyX8 14) (C := RX8) (T := TX8) (N := 18) hx hb tX8 (fun _ h9 => h9) tyX8 tyX8_ok nmX8 hown hK hP hD hS 0 rfl rfl 14 (by decide) (htU _ u_216) (fun _ h9 => h9) rfl (tyX8_ok 14 (by decide)) rfl rfl (Nat.le_of_ble_eq_true rfl) dX8_init_86 (fun H locs hP hD hS => ?_)
  have hP : va_P (dC, dI) vwCl [(h, .inr (9, [.ref x1, .int 0, .int 0, .long 0, .long 0, .ref q_1, .ref q_2, .ref q_3, .ref q_4, .ref q_5, .ref q_6, .ref q_7, .ref q_8, .ref q_9, .ref q_10, .null, .null, .int 0])), (q_1, .inl (cA_1, 32, .inl (fun _ => 0))), (q_2, .inl (cA_1, 32, .inl (fun _ => 0))), (q_3, .inl (cA_1, 32, .inl (fun _ => 0))), (q_4, .inl (cA_1, 32, .inl (fun _ => 0))), (q_5, .inl (cA_5, 32, .inr (.inl (fun _ => 0)))), (q_6, .inl (cA_5, 32, .inr (.inl (fun _ => 0)))), (q_7, .inl (cA_1, 32, .inl (fun _ => 0))), (q_8, .inl (cA_1, 32, .inl (fun _ => 0))), (q_9, .inl (cA_5, 32, .inr (.inl (fun _ => 0)))), (q_10, .inl (cA_1, 32, .inl (fun _ => 0)))] H := hP
  have hD : va_D A [(h, .inr (9, [.ref x1, .int 0, .int 0, .long 0, .long 0, .ref q_1, .ref q_2, .ref q_3, .ref q_4, .ref q_5, .ref q_6, .ref q_7, .ref q_8, .ref q_9, .ref q_10, .null, .null, .int 0])), (q_1, .inl (cA_1, 32, .inl (fun _ => 0))), (q_2, .inl (cA_1, 32, .inl (fun _ => 0))), (q_3, .inl (cA_1, 32, .inl (fun _ => 0))), (q_4, .inl (cA_1, 32, .inl (fun _ => 0))), (q_5, .inl (cA_5, 32, .inr (.inl (fun _ => 0)))), (q_6, .inl (cA_5, 32, .inr (.inl (fun _ => 0)))), (q_7, .inl (cA_1, 32, .inl (fun _ => 0))), (q_8, .inl (cA_1, 32, .inl (fun _ => 0))), (q_9, .inl (cA_5, 32, .inr (.inl (fun _ => 0)))), (q_10, .inl (cA_1, 32, .inl (fun _ => 0)))] := hD
  refine lv_aload_n hx hb dX8_init_89 rfl (lv_at hl 0 rfl) ?_
  refine lv_bipush (v := 32) hx hb dX8_init_90 (by decide) ?_
  refine va_newa (atype := .int) (ty := .int) (N' := 32) (a0 := (32, .inl (fun _ => 0))) hx hb (htU _ u_153) rfl hK hP hD hS hA (fun _ => rfl) (by decide) (by decide) (Nat.le_of_ble_eq_true rfl) (Nat.le_of_ble_eq_true rfl) (Nat.le_of_ble_eq_true rfl) dX8_init_92 (fun q_11 cA_11 H hK hP hD hS => ?_)
  have e_q_11 : cA_11 = cA_1 := gg_same hK 2 0 (b := .int) rfl rfl (fun _ => rfl)
  rw [e_q_11] at hP hD
  have hK := hK.sub (tys' := [(cA_1, .int), (cA_5, .long)]) [0, 1] rfl
  have hP : va_P (dC, dI) vwCl [(h, .inr (9, [.ref x1, .int 0, .int 0, .long 0, .long 0, .ref q_1, .ref q_2, .ref q_3, .ref q_4, .ref q_5, .ref q_6, .ref q_7, .ref q_8, .ref q_9, .ref q_10, .null, .null, .int 0])), (q_1, .inl (cA_1, 32, .inl (fun _ => 0))), (q_2, .inl (cA_1, 32, .inl (fun _ => 0))), (q_3, .inl (cA_1, 32, .inl (fun _ => 0))), (q_4, .inl (cA_1, 32, .inl (fun _ => 0))), (q_5, .inl (cA_5, 32, .inr (.inl (fun _ => 0)))), (q_6, .inl (cA_5, 32, .inr (.inl (fun _ => 0)))), (q_7, .inl (cA_1, 32, .inl (fun _ => 0))), (q_8, .inl (cA_1, 32, .inl (fun _ => 0))), (q_9, .inl (cA_5, 32, .inr (.inl (fun _ => 0)))), (q_10, .inl (cA_1, 32, .inl (fun _ => 0))), (q_11, .inl (cA_1, 32, .inl (fun _ => 0)))] H := hP
  have hD : va_D A [(h, .inr (9, [.ref x1, .int 0, .int 0, .long 0, .long 0, .ref q_1, .ref q_2, .ref q_3, .ref q_4, .ref q_5, .ref q_6, .ref q_7, .ref q_8, .ref q_9, .ref q_10, .null, .null, .int 0])), (q_1, .inl (cA_1, 32, .inl (fun _ => 0))), (q_2, .inl (cA_1, 32, .inl (fun _ => 0))), (q_3, .inl (cA_1, 32, .inl (fun _ => 0))), (q_4, .inl (cA_1, 32, .inl (fun _ => 0))), (q_5, .inl (cA_5, 32, .inr (.inl (fun _ => 0)))), (q_6, .inl (cA_5, 32, .inr (.inl (fun _ => 0)))), (q_7, .inl (cA_1, 32, .inl (fun _ => 0))), (q_8, .inl (cA_1, 32, .inl (fun _ => 0))), (q_9, .inl (cA_5, 32, .inr (.inl (fun _ => 0)))), (q_10, .inl (cA_1, 32, .inl (fun _ => 0))), (q_11, .inl (cA_1, 32, .inl (fun _ => 0)))] := hD
  refine va_put (D := (dC, dI)) (ci := 9) (v := .ref q_11) (ty := tyX8 15) (C := RX8) (T := TX8) (N := 18) hx hb tX8 (fun _ h9 => h9) tyX8 tyX8_ok nmX8 hown hK hP hD hS 0 rfl rfl 15 (by decide) (htU _ u_217) (fun _ h9 => h9) rfl (tyX8_ok 15 (by decide)) rfl rfl (Nat.le_of_ble_eq_true rfl) dX8_init_94 (fun H locs hP hD hS => ?_)
  have hP : va_P (dC, dI) vwCl [(h, .inr (9, [.ref x1, .int 0, .int 0, .long 0, .long 0, .ref q_1, .ref q_2, .ref q_3, .ref q_4, .ref q_5, .ref q_6, .ref q_7, .ref q_8, .ref q_9, .ref q_10, .ref q_11, .null, .int 0])), (q_1, .inl (cA_1, 32, .inl (fun _ => 0))), (q_2, .inl (cA_1, 32, .inl (fun _ => 0))), (q_3, .inl (cA_1, 32, .inl (fun _ => 0))), (q_4, .inl (cA_1, 32, .inl (fun _ => 0))), (q_5, .inl (cA_5, 32, .inr (.inl (fun _ => 0)))), (q_6, .inl (cA_5, 32, .inr (.inl (fun _ => 0)))), (q_7, .inl (cA_1, 32, .inl (fun _ => 0))), (q_8, .inl (cA_1, 32, .inl (fun _ => 0))), (q_9, .inl (cA_5, 32, .inr (.inl (fun _ => 0)))), (q_10, .inl (cA_1, 32, .inl (fun _ => 0))), (q_11, .inl (cA_1, 32, .inl (fun _ => 0)))] H := hP
  have hD : va_D A [(h, .inr (9, [.ref x1, .int 0, .int 0, .long 0, .long 0, .ref q_1, .ref q_2, .ref q_3, .ref q_4, .ref q_5, .ref q_6, .ref q_7, .ref q_8, .ref q_9, .ref q_10, .ref q_11, .null, .int 0])), (q_1, .inl (cA_1, 32, .inl (fun _ => 0))), (q_2, .inl (cA_1, 32, .inl (fun _ => 0))), (q_3, .inl (cA_1, 32, .inl (fun _ => 0))), (q_4, .inl (cA_1, 32, .inl (fun _ => 0))), (q_5, .inl (cA_5, 32, .inr (.inl (fun _ => 0)))), (q_6, .inl (cA_5, 32, .inr (.inl (fun _ => 0)))), (q_7, .inl (cA_1, 32, .inl (fun _ => 0))), (q_8, .inl (cA_1, 32, .inl (fun _ => 0))), (q_9, .inl (cA_5, 32, .inr (.inl (fun _ => 0)))), (q_10, .inl (cA_1, 32, .inl (fun _ => 0))), (q_11, .inl (cA_1, 32, .inl (fun _ => 0)))] := hD
  refine lv_aload_n hx hb dX8_init_97 rfl (lv_at hl 0 rfl) ?_
  refine lv_bipush (v := 32) hx hb dX8_init_98 (by decide) ?_
  refine va_newa (atype := .int) (ty := .int) (N' := 32) (a0 := (32, .inl (fun _ => 0))) hx hb (htU _ u_153) rfl hK hP hD hS hA (fun _ => rfl) (by decide) (by decide) (Nat.le_of_ble_eq_true rfl) (Nat.le_of_ble_eq_true rfl) (Nat.le_of_ble_eq_true rfl) dX8_init_100 (fun q_12 cA_12 H hK hP hD hS => ?_)
  have e_q_12 : cA_12 = cA_1 := gg_same hK 2 0 (b := .int) rfl rfl (fun _ => rfl)
  rw [e_q_12] at hP hD
  have hK := hK.sub (tys' := [(cA_1, .int), (cA_5, .long)]) [0, 1] rfl
  have hP : va_P (dC, dI) vwCl [(h, .inr (9, [.ref x1, .int 0, .int 0, .long 0, .long 0, .ref q_1, .ref q_2, .ref q_3, .ref q_4, .ref q_5, .ref q_6, .ref q_7, .ref q_8, .ref q_9, .ref q_10, .ref q_11, .null, .int 0])), (q_1, .inl (cA_1, 32, .inl (fun _ => 0))), (q_2, .inl (cA_1, 32, .inl (fun _ => 0))), (q_3, .inl (cA_1, 32, .inl (fun _ => 0))), (q_4, .inl (cA_1, 32, .inl (fun _ => 0))), (q_5, .inl (cA_5, 32, .inr (.inl (fun _ => 0)))), (q_6, .inl (cA_5, 32, .inr (.inl (fun _ => 0)))), (q_7, .inl (cA_1, 32, .inl (fun _ => 0))), (q_8, .inl (cA_1, 32, .inl (fun _ => 0))), (q_9, .inl (cA_5, 32, .inr (.inl (fun _ => 0)))), (q_10, .inl (cA_1, 32, .inl (fun _ => 0))), (q_11, .inl (cA_1, 32, .inl (fun _ => 0))), (q_12, .inl (cA_1, 32, .inl (fun _ => 0)))] H := hP
  have hD : va_D A [(h, .inr (9, [.ref x1, .int 0, .int 0, .long 0, .long 0, .ref q_1, .ref q_2, .ref q_3, .ref q_4, .ref q_5, .ref q_6, .ref q_7, .ref q_8, .ref q_9, .ref q_10, .ref q_11, .null, .int 0])), (q_1, .inl (cA_1, 32, .inl (fun _ => 0))), (q_2, .inl (cA_1, 32, .inl (fun _ => 0))), (q_3, .inl (cA_1, 32, .inl (fun _ => 0))), (q_4, .inl (cA_1, 32, .inl (fun _ => 0))), (q_5, .inl (cA_5, 32, .inr (.inl (fun _ => 0)))), (q_6, .inl (cA_5, 32, .inr (.inl (fun _ => 0)))), (q_7, .inl (cA_1, 32, .inl (fun _ => 0))), (q_8, .inl (cA_1, 32, .inl (fun _ => 0))), (q_9, .inl (cA_5, 32, .inr (.inl (fun _ => 0)))), (q_10, .inl (cA_1, 32, .inl (fun _ => 0))), (q_11, .inl (cA_1, 32, .inl (fun _ => 0))), (q_12, .inl (cA_1, 32, .inl (fun _ => 0)))] := hD
  refine va_put (D := (dC, dI)) (ci := 9) (v := .ref q_12) (ty := tyX8 16) (C := RX8) (T := TX8) (N := 18) hx hb tX8 (fun _ h9 => h9) tyX8 tyX8_ok nmX8 hown hK hP hD hS 0 rfl rfl 16 (by decide) (htU _ u_218) (fun _ h9 => h9) rfl (tyX8_ok 16 (by decide)) rfl rfl (Nat.le_of_ble_eq_true rfl) dX8_init_102 (fun H locs hP hD hS => ?_)
  have hP : va_P (dC, dI) vwCl [(h, .inr (9, [.ref x1, .int 0, .int 0, .long 0, .long 0, .ref q_1, .ref q_2, .ref q_3, .ref q_4, .ref q_5, .ref q_6, .ref q_7, .ref q_8, .ref q_9, .ref q_10, .ref q_11, .ref q_12, .int 0])), (q_1, .inl (cA_1, 32, .inl (fun _ => 0))), (q_2, .inl (cA_1, 32, .inl (fun _ => 0))), (q_3, .inl (cA_1, 32, .inl (fun _ => 0))), (q_4, .inl (cA_1, 32, .inl (fun _ => 0))), (q_5, .inl (cA_5, 32, .inr (.inl (fun _ => 0)))), (q_6, .inl (cA_5, 32, .inr (.inl (fun _ => 0)))), (q_7, .inl (cA_1, 32, .inl (fun _ => 0))), (q_8, .inl (cA_1, 32, .inl (fun _ => 0))), (q_9, .inl (cA_5, 32, .inr (.inl (fun _ => 0)))), (q_10, .inl (cA_1, 32, .inl (fun _ => 0))), (q_11, .inl (cA_1, 32, .inl (fun _ => 0))), (q_12, .inl (cA_1, 32, .inl (fun _ => 0)))] H := hP
  have hD : va_D A [(h, .inr (9, [.ref x1, .int 0, .int 0, .long 0, .long 0, .ref q_1, .ref q_2, .ref q_3, .ref q_4, .ref q_5, .ref q_6, .ref q_7, .ref q_8, .ref q_9, .ref q_10, .ref q_11, .ref q_12, .int 0])), (q_1, .inl (cA_1, 32, .inl (fun _ => 0))), (q_2, .inl (cA_1, 32, .inl (fun _ => 0))), (q_3, .inl (cA_1, 32, .inl (fun _ => 0))), (q_4, .inl (cA_1, 32, .inl (fun _ => 0))), (q_5, .inl (cA_5, 32, .inr (.inl (fun _ => 0)))), (q_6, .inl (cA_5, 32, .inr (.inl (fun _ => 0)))), (q_7, .inl (cA_1, 32, .inl (fun _ => 0))), (q_8, .inl (cA_1, 32, .inl (fun _ => 0))), (q_9, .inl (cA_5, 32, .inr (.inl (fun _ => 0)))), (q_10, .inl (cA_1, 32, .inl (fun _ => 0))), (q_11, .inl (cA_1, 32, .inl (fun _ => 0))), (q_12, .inl (cA_1, 32, .inl (fun _ => 0)))] := hD
  refine lv_aload_n hx hb dX8_init_105 rfl (lv_at hl 0 rfl) ?_
  refine lv_bipush (v := 32) hx hb dX8_init_106 (by decide) ?_
  refine va_put (D := (dC, dI)) (ci := 9) (v := .int 32) (ty := tyX8 17) (C := RX8) (T := TX8) (N := 18) hx hb tX8 (fun _ h9 => h9) tyX8 tyX8_ok nmX8 hown hK hP hD hS 0 rfl rfl 17 (by decide) (htU _ u_219) (fun _ h9 => h9) rfl (tyX8_ok 17 (by decide)) rfl rfl (Nat.le_of_ble_eq_true rfl) dX8_init_108 (fun H locs hP hD hS => ?_)
  have hP : va_P (dC, dI) vwCl [(h, .inr (9, [.ref x1, .int 0, .int 0, .long 0, .long 0, .ref q_1, .ref q_2, .ref q_3, .ref q_4, .ref q_5, .ref q_6, .ref q_7, .ref q_8, .ref q_9, .ref q_10, .ref q_11, .ref q_12, .int 32])), (q_1, .inl (cA_1, 32, .inl (fun _ => 0))), (q_2, .inl (cA_1, 32, .inl (fun _ => 0))), (q_3, .inl (cA_1, 32, .inl (fun _ => 0))), (q_4, .inl (cA_1, 32, .inl (fun _ => 0))), (q_5, .inl (cA_5, 32, .inr (.inl (fun _ => 0)))), (q_6, .inl (cA_5, 32, .inr (.inl (fun _ => 0)))), (q_7, .inl (cA_1, 32, .inl (fun _ => 0))), (q_8, .inl (cA_1, 32, .inl (fun _ => 0))), (q_9, .inl (cA_5, 32, .inr (.inl (fun _ => 0)))), (q_10, .inl (cA_1, 32, .inl (fun _ => 0))), (q_11, .inl (cA_1, 32, .inl (fun _ => 0))), (q_12, .inl (cA_1, 32, .inl (fun _ => 0)))] H := hP
  have hD : va_D A [(h, .inr (9, [.ref x1, .int 0, .int 0, .long 0, .long 0, .ref q_1, .ref q_2, .ref q_3, .ref q_4, .ref q_5, .ref q_6, .ref q_7, .ref q_8, .ref q_9, .ref q_10, .ref q_11, .ref q_12, .int 32])), (q_1, .inl (cA_1, 32, .inl (fun _ => 0))), (q_2, .inl (cA_1, 32, .inl (fun _ => 0))), (q_3, .inl (cA_1, 32, .inl (fun _ => 0))), (q_4, .inl (cA_1, 32, .inl (fun _ => 0))), (q_5, .inl (cA_5, 32, .inr (.inl (fun _ => 0)))), (q_6, .inl (cA_5, 32, .inr (.inl (fun _ => 0)))), (q_7, .inl (cA_1, 32, .inl (fun _ => 0))), (q_8, .inl (cA_1, 32, .inl (fun _ => 0))), (q_9, .inl (cA_5, 32, .inr (.inl (fun _ => 0)))), (q_10, .inl (cA_1, 32, .inl (fun _ => 0))), (q_11, .inl (cA_1, 32, .inl (fun _ => 0))), (q_12, .inl (cA_1, 32, .inl (fun _ => 0)))] := hD
  have hP9 := hP.sub (ws' := []) [] rfl
  have hD9 := hD.sub (ws' := []) [] (by decide) rfl
  have hK9 := hK.sub (tys' := []) [] rfl
  refine W.widen (k := 12) (n := 384) (Nat.le_of_ble_eq_true rfl) (Nat.le_of_ble_eq_true rfl) ?_
  exact W.vret hx hb hr (fun t ht hW => ⟨⟨(), rfl, trivial, ⟨by rw [ht]; exact hP9, va_K.moved hW.alike hK9, hD9⟩⟩, hS.F ht⟩) hS.2.2 dX8_init_111

set_option maxHeartbeats 4000000 in
set_option maxRecDepth 100000 in
/-- Search(terms) -/
theorem c_X6_init (l : Launch) (hf : l.stackTraces = false) (dC : Nat → ClassId) (dI : Nat → Nat → Nat) (ad sa : Nat → Nat) (h : Nat) (x1 : Nat) (sz : Nat) : Met l yX6_init wq_X6_init ({ frames := 9, cells := 18, slots := 847, locals := 221 }) (va_Pc [.ref h, .ref x1] (fun U => U.heap.size = sz ∧ va_P (dC, dI) vwCl [(h, .inr (7, [.null, .null, .null, .int 0, .int 0, .int 0]))] U.heap ∧ va_K (dC, dI) vwCl [] U ∧ va_D (fun _ => True) [(h, .inr (7, [.null, .null, .null, .int 0, .int 0, .int 0]))] ∧ GG (va_A [(h, .inr (7, [.null, .null, .null, .int 0, .int 0, .int 0]))] sz) ad sa U U.heap)) (va_Qv (fun (u : Unit) => True) (fun (u : Unit) t => va_P (dC, dI) vwCl [] t.heap ∧ va_K (dC, dI) vwCl [] t ∧ va_D (va_A [(h, .inr (7, [.null, .null, .null, .int 0, .int 0, .int 0]))] sz) []) (va_A [(h, .inr (7, [.null, .null, .null, .int 0, .int 0, .int 0]))] sz)) 18 847 (va_A [(h, .inr (7, [.null, .null, .null, .int 0, .int 0, .int 0]))] sz) := by
  refine Met.ofW (cc := cX6_init) (maxL := 2) (ret := none) (by decide) rfl ?_
  intro p e s m args below meth c s₁ B hml hv
  obtain ⟨rfl, hsz, hP, hK, hD0, hG⟩ := hv
  have hx := B.exec
  have hb := B.bytes
  have hr := B.returns
  have hts := atoms_spec (ws := wq_X6_init) B.pre
  have htU : ∀ w ∈ UW, w.before _ s = true := fun w h => hts w (List.mem_cons_of_mem _ h)
  have hown : s.vm.findClass RX6 = some m.cls := findClass_of_methodNamed B.named
  have hlocks := B.notSynchronized
  have hin : meth.name = "<init>" := (name_of_methodNamed B.named B.method).1
  have tX6 : ∀ w ∈ wsX60, w.before _ s = true := fun w h => htU w (uX_X6 w h)
  have tX2 : ∀ w ∈ wsX20, w.before _ s = true := fun w h => htU w (uX_X2 w h)
  have tX8 : ∀ w ∈ wsX80, w.before _ s = true := fun w h => htU w (uX_X8 w h)
  subst hsz
  have hD := hD0.self (sz := s.heap.size)
  generalize hAe : va_A [(h, .inr (7, [.null, .null, .null, .int 0, .int 0, .int 0]))] s.heap.size = A at hD hG ⊢
  have hA : ∀ q : Nat, s.heap.size ≤ q → A q := fun q h => by rw [← hAe]; exact Or.inr h
  have hS : va_S A s.heap s.heap [] := va_S.rf
  have hl := lv_entry ([.ref h, .ref x1]) (n := 2) (Nat.le_of_ble_eq_true rfl)
  rw [lg_entry_eq]
  generalize (lg_sl ([.ref h, .ref x1]) ++ List.replicate (2 - (lg_sl ([.ref h, .ref x1])).length) Slot.unset).toArray = ls at hl ⊢
  have hl : lv_has ls 2 [(0, .ref h), (1, .ref x1)] := hl
  refine lv_aload_n hx hb dX6_init_0 rfl (lv_at hl 0 rfl) ?_
  refine W.objInit hx hb hown (htU _ u_159) (htU _ u_129) (htU _ u_130) rfl (by rw [hml]; exact hl.1) rfl dX6_init_1 (Nat.le_of_ble_eq_true rfl) (Nat.le_of_ble_eq_true rfl) ?_
  refine W.eq (g2 := F0 m 4 ls []) rfl ?_
  refine lv_aload_n hx hb dX6_init_4 rfl (lv_at hl 0 rfl) ?_
  refine lv_aload_n hx hb dX6_init_5 rfl (lv_at hl 1 rfl) ?_
  refine va_putF (D := (dC, dI)) (ci := 7) (v := .ref x1) (ty := tyX6 0) (C := RX6) (T := TX6) (N := 6) hx hb tX6 (fun _ h9 => h9) tyX6 tyX6_ok nmX6 hown hK hP hD hS 0 rfl rfl 0 (by decide) (htU _ u_258) (fun _ h9 => h9) rfl hin rfl (tyX6_ok 0 (by decide)) rfl rfl (Nat.le_of_ble_eq_true rfl) dX6_init_6 (fun H locs hP hD hS => ?_)
  have hP : va_P (dC, dI) vwCl [(h, .inr (7, [.ref x1, .null, .null, .int 0, .int 0, .int 0]))] H := hP
  have hD : va_D A [(h, .inr (7, [.ref x1, .null, .null, .int 0, .int 0, .int 0]))] := hD
  refine lv_aload_n hx hb dX6_init_9 rfl (lv_at hl 0 rfl) ?_
  refine va_new (ci := 4) (fs := [.int 0, .null, .null, .null, .null, .int 0]) (C := RX2) (T := TX2) (N := 6) hx hb tX2 (fun _ h9 => h9) tyX2 tyX2_ok hown (htU _ u_160) (htU _ u_161) (htU _ u_94) hK hP hD hS hA rfl (by first | decide +kernel | (intro j hj; match j, hj with | 0, _ => rfl | 1, _ => rfl | 2, _ => rfl | 3, _ => rfl | 4, _ => rfl | 5, _ => rfl | j + 6, hj => exact absurd hj (by omega))) (Nat.le_of_ble_eq_true rfl) (Nat.le_of_ble_eq_true rfl) dX6_init_10 (fun q_1 H hP hD hS => ?_)
  have hP : va_P (dC, dI) vwCl [(h, .inr (7, [.ref x1, .null, .null, .int 0, .int 0, .int 0])), (q_1, .inr (4, [.int 0, .null, .null, .null, .null, .int 0]))] H := hP
  have hD : va_D A [(h, .inr (7, [.ref x1, .null, .null, .int 0, .int 0, .int 0])), (q_1, .inr (4, [.int 0, .null, .null, .null, .null, .int 0]))] := hD
  refine lv_dup hx hb dX6_init_13 rfl ?_
  have hPc := hP.sub (ws' := [(q_1, .inr (4, [.int 0, .null, .null, .null, .null, .int 0]))]) [1] rfl
  have hDc := hD.sub (ws' := [(q_1, .inr (4, [.int 0, .null, .null, .null, .null, .int 0]))]) [1] (by decide) rfl
  have hKc := hK.sub (tys' := []) [] rfl
  have hFc := va_free (wc := [(q_1, .inr (4, [.int 0, .null, .null, .null, .null, .int 0]))]) hD hS hA [1] rfl
  refine va_callv (va_runI (As := []) (rest := [.ref q_1, .ref h]) ⟨hx, hb, hml, hown, htU⟩ (c_X2_init l hf dC dI ad sa q_1 H.size) (cwI 0 htU (gq_I u_164) rfl rfl rfl (htU _ u_94) (htU _ u_162) (htU _ u_163) rfl (by decide +kernel) ⟨(Nat.le_of_ble_eq_true rfl), (Nat.le_of_ble_eq_true rfl)⟩) ⟨(fun a U g mk q => by obtain ⟨q0, q1, qP, qK, qD, qG⟩ := q; exact ⟨q0, q1, qP, va_K.moved (u := U) (U := U.calling g mk a) (Vm.Alike.refl U.vm) qK, qD, GG.blind qG⟩), fun U hU hW => ⟨rfl, by rw [hU], by rw [hU]; exact hPc, va_K.moved hW.alike hKc, hDc.weaken (fun _ _ _ _ => trivial), GG.go hG hS hFc hU hW⟩⟩ rfl rfl hl.1 rfl (lv_room (Nat.le_of_ble_eq_true rfl)) dX6_init_14 ⟨(Nat.le_of_ble_eq_true rfl), (Nat.le_of_ble_eq_true rfl)⟩) hS (fun q _ h => hFc q h) hFc (fun u_3 t H locs ht hvm hw hB hz1 hk1 hS => ?_)
  obtain ⟨hP1, hK1, hD1⟩ := hB
  rw [ht] at hP1
  have hK1 := va_K.moved hvm.symm hK1
  try dsimp only at hw hP1 hK1 hD1
  have hK := (hK.sub (tys' := []) [] rfl).app hK1
  have hK : va_K (dC, dI) vwCl [] s := hK
  obtain ⟨hP, hD⟩ := va_join (wr := [(h, .inr (7, [.ref x1, .null, .null, .int 0, .int 0, .int 0]))]) (w1 := []) hP hD [1] [0] rfl rfl (by decide) (by decide) hk1 hFc hP1 hD1
  have hP : va_P (dC, dI) vwCl [(h, .inr (7, [.ref x1, .null, .null, .int 0, .int 0, .int 0]))] H := hP
  have hD : va_D A [(h, .inr (7, [.ref x1, .null, .null, .int 0, .int 0, .int 0]))] := hD
  refine va_putF (D := (dC, dI)) (ci := 7) (v := .ref q_1) (ty := tyX6 2) (C := RX6) (T := TX6) (N := 6) hx hb tX6 (fun _ h9 => h9) tyX6 tyX6_ok nmX6 hown hK hP hD hS 0 rfl rfl 2 (by decide) (htU _ u_260) (fun _ h9 => h9) rfl hin rfl (tyX6_ok 2 (by decide)) rfl rfl (Nat.le_of_ble_eq_true rfl) dX6_init_17 (fun H locs hP hD hS => ?_)
  have hP : va_P (dC, dI) vwCl [(h, .inr (7, [.ref x1, .null, .ref q_1, .int 0, .int 0, .int 0]))] H := hP
  have hD : va_D A [(h, .inr (7, [.ref x1, .null, .ref q_1, .int 0, .int 0, .int 0]))] := hD
  refine lv_aload_n hx hb dX6_init_20 rfl (lv_at hl 0 rfl) ?_
  refine va_new (ci := 9) (fs := [.null, .int 0, .int 0, .long 0, .long 0, .null, .null, .null, .null, .null, .null, .null, .null, .null, .null, .null, .null, .int 0]) (C := RX8) (T := TX8) (N := 18) hx hb tX8 (fun _ h9 => h9) tyX8 tyX8_ok hown (htU _ u_185) (htU _ u_186) (htU _ u_95) hK hP hD hS hA rfl (by first | decide +kernel | (intro j hj; match j, hj with | 0, _ => rfl | 1, _ => rfl | 2, _ => rfl | 3, _ => rfl | 4, _ => rfl | 5, _ => rfl | 6, _ => rfl | 7, _ => rfl | 8, _ => rfl | 9, _ => rfl | 10, _ => rfl | 11, _ => rfl | 12, _ => rfl | 13, _ => rfl | 14, _ => rfl | 15, _ => rfl | 16, _ => rfl | 17, _ => rfl | j + 18, hj => exact absurd hj (by omega))) (Nat.le_of_ble_eq_true rfl) (Nat.le_of_ble_eq_true rfl) dX6_init_21 (fun q_4 H hP hD hS => ?_)
  have hP : va_P (dC, dI) vwCl [(h, .inr (7, [.ref x1, .null, .ref q_1, .int 0, .int 0, .int 0])), (q_4, .inr (9, [.null, .int 0, .int 0, .long 0, .long 0, .null, .null, .null, .null, .null, .null, .null, .null, .null, .null, .null, .null, .int 0]))] H := hP
  have hD : va_D A [(h, .inr (7, [.ref x1, .null, .ref q_1, .int 0, .int 0, .int 0])), (q_4, .inr (9, [.null, .int 0, .int 0, .long 0, .long 0, .null, .null, .null, .null, .null, .null, .null, .null, .null, .null, .null, .null, .int 0]))] := hD
  refine lv_dup hx hb dX6_init_24 rfl ?_
  refine lv_aload_n hx hb dX6_init_25 rfl (lv_at hl 0 rfl) ?_
  refine va_get (D := (dC, dI)) (ci := 7) (v := .ref q_1) (C := RX6) (T := TX6) (N := 6) hx hb tX6 (fun _ h9 => h9) hown hK hP 0 rfl rfl 2 (by decide) (htU _ u_260) (fun _ h9 => h9) rfl dX6_init_26 ?_
  have hPc := hP.sub (ws' := [(q_4, .inr (9, [.null, .int 0, .int 0, .long 0, .long 0, .null, .null, .null, .null, .null, .null, .null, .null, .null, .null, .null, .null, .int 0]))]) [1] rfl
  have hDc := hD.sub (ws' := [(q_4, .inr (9, [.null, .int 0, .int 0, .long 0, .long 0, .null, .null, .null, .null, .null, .null, .null, .null, .null, .null, .null, .null, .int 0]))]) [1] (by decide) rfl
  have hKc := hK.sub (tys' := []) [] rfl
  have hFc := va_free (wc := [(q_4, .inr (9, [.null, .int 0, .int 0, .long 0, .long 0, .null, .null, .null, .null, .null, .null, .null, .null, .null, .null, .null, .null, .int 0]))]) hD hS hA [1] rfl
  refine va_callv (va_runI (As := [.ref q_1]) (rest := [.ref q_4, .ref h]) ⟨hx, hb, hml, hown, htU⟩ (c_X8_init l hf dC dI ad sa q_4 q_1 H.size) (cwI 1 htU (gq_I u_189) rfl rfl rfl (htU _ u_95) (htU _ u_187) (htU _ u_188) rfl (by decide +kernel) ⟨(Nat.le_of_ble_eq_true rfl), (Nat.le_of_ble_eq_true rfl)⟩) ⟨(fun a U g mk q => by obtain ⟨q0, q1, qP, qK, qD, qG⟩ := q; exact ⟨q0, q1, qP, va_K.moved (u := U) (U := U.calling g mk a) (Vm.Alike.refl U.vm) qK, qD, GG.blind qG⟩), fun U hU hW => ⟨rfl, by rw [hU], by rw [hU]; exact hPc, va_K.moved hW.alike hKc, hDc.weaken (fun _ _ _ _ => trivial), GG.go hG hS hFc hU hW⟩⟩ rfl rfl hl.1 rfl (lv_room (Nat.le_of_ble_eq_true rfl)) dX6_init_29 ⟨(Nat.le_of_ble_eq_true rfl), (Nat.le_of_ble_eq_true rfl)⟩) hS (fun q _ h => hFc q h) hFc (fun u_6 t H locs ht hvm hw hB hz1 hk1 hS => ?_)
  obtain ⟨hP1, hK1, hD1⟩ := hB
  rw [ht] at hP1
  have hK1 := va_K.moved hvm.symm hK1
  try dsimp only at hw hP1 hK1 hD1
  have hK := (hK.sub (tys' := []) [] rfl).app hK1
  have hK : va_K (dC, dI) vwCl [] s := hK
  obtain ⟨hP, hD⟩ := va_join (wr := [(h, .inr (7, [.ref x1, .null, .ref q_1, .int 0, .int 0, .int 0]))]) (w1 := []) hP hD [1] [0] rfl rfl (by decide) (by decide) hk1 hFc hP1 hD1
  have hP : va_P (dC, dI) vwCl [(h, .inr (7, [.ref x1, .null, .ref q_1, .int 0, .int 0, .int 0]))] H := hP
  have hD : va_D A [(h, .inr (7, [.ref x1, .null, .ref q_1, .int 0, .int 0, .int 0]))] := hD
  refine va_putF (D := (dC, dI)) (ci := 7) (v := .ref q_4) (ty := tyX6 1) (C := RX6) (T := TX6) (N := 6) hx hb tX6 (fun _ h9 => h9) tyX6 tyX6_ok nmX6 hown hK hP hD hS 0 rfl rfl 1 (by decide) (htU _ u_259) (fun _ h9 => h9) rfl hin rfl (tyX6_ok 1 (by decide)) rfl rfl (Nat.le_of_ble_eq_true rfl) dX6_init_32 (fun H locs hP hD hS => ?_)
  have hP : va_P (dC, dI) vwCl [(h, .inr (7, [.ref x1, .ref q_4, .ref q_1, .int 0, .int 0, .int 0]))] H := hP
  have hD : va_D A [(h, .inr (7, [.ref x1, .ref q_4, .ref q_1, .int 0, .int 0, .int 0]))] := hD
  have hP9 := hP.sub (ws' := []) [] rfl
  have hD9 := hD.sub (ws' := []) [] (by decide) rfl
  have hK9 := hK.sub (tys' := []) [] rfl
  refine W.widen (k := 18) (n := 847) (Nat.le_of_ble_eq_true rfl) (Nat.le_of_ble_eq_true rfl) ?_
  exact W.vret hx hb hr (fun t ht hW => ⟨⟨(), rfl, trivial, ⟨by rw [ht]; exact hP9, va_K.moved hW.alike hK9, hD9⟩⟩, hS.F ht⟩) hS.2.2 dX6_init_35

set_option maxHeartbeats 4000000 in
set_option maxRecDepth 100000 in
/-- Sheet(): nothing is printed -/
theorem c_X7_init (l : Launch) (hf : l.stackTraces = false) (dC : Nat → ClassId) (dI : Nat → Nat → Nat) (ad sa : Nat → Nat) (h : Nat) (sz : Nat) : Met l yX7_init wq_X7_init ({ frames := 9, cells := 7, slots := 243, locals := 223 }) (va_Pc [.ref h] (fun U => U.heap.size = sz ∧ va_P (dC, dI) vwCl [(h, .inr (8, [.int 0, .int 0, .int 0, .int 0, .long 0, .int 0, .int 0, .null, .null, .null, .null, .int 0, .null, .null, .null]))] U.heap ∧ va_K (dC, dI) vwCl [] U ∧ va_D (fun _ => True) [(h, .inr (8, [.int 0, .int 0, .int 0, .int 0, .long 0, .int 0, .int 0, .null, .null, .null, .null, .int 0, .null, .null, .null]))] ∧ GG (va_A [(h, .inr (8, [.int 0, .int 0, .int 0, .int 0, .long 0, .int 0, .int 0, .null, .null, .null, .null, .int 0, .null, .null, .null]))] sz) ad sa U U.heap)) (va_Qv (fun (u : Nat → Nat) => True) (fun (u : Nat → Nat) t => va_P (dC, dI) vwCl [(h, .inr (8, [.int 0, .int 0, .int 0, .int 0, .long 0, .int 0, .int 0, .ref (u 7), .ref (u 8), .ref (u 9), .ref (u 10), .int 0, .ref (u 12), .ref (u 13), .ref (u 14)]))] t.heap ∧ va_K (dC, dI) vwCl [] t ∧ va_D (va_A [(h, .inr (8, [.int 0, .int 0, .int 0, .int 0, .long 0, .int 0, .int 0, .null, .null, .null, .null, .int 0, .null, .null, .null]))] sz) [(h, .inr (8, [.int 0, .int 0, .int 0, .int 0, .long 0, .int 0, .int 0, .ref (u 7), .ref (u 8), .ref (u 9), .ref (u 10), .int 0, .ref (u 12), .ref (u 13), .ref (u 14)]))]) (va_A [(h, .inr (8, [.int 0, .int 0, .int 0, .int 0, .long 0, .int 0, .int 0, .null, .null, .null, .null, .int 0, .null, .null, .null]))] sz)) 7 243 (va_A [(h, .inr (8, [.int 0, .int 0, .int 0, .int 0, .long 0, .int 0, .int 0, .null, .null, .null, .null, .int 0, .null, .null, .null]))] sz) := by
  refine Met.ofW (cc := cX7_init) (maxL := 1) (ret := none) (by decide) rfl ?_
  intro p e s m args below meth c s₁ B hml hv
  obtain ⟨rfl, hsz, hP, hK, hD0, hG⟩ := hv
  have hx := B.exec
  have hb := B.bytes
  have hr := B.returns
  have hts := atoms_spec (ws := wq_X7_init) B.pre
  have htU : ∀ w ∈ UW, w.before _ s = true := fun w h => hts w (List.mem_cons_of_mem _ h)
  have hown : s.vm.findClass RX7 = some m.cls := findClass_of_methodNamed B.named
  have hlocks := B.notSynchronized
  have hin : meth.name = "<init>" := (name_of_methodNamed B.named B.method).1
  have tX7 : ∀ w ∈ wsX70, w.before _ s = true := fun w h => htU w (uX_X7 w h)
  subst hsz
  have hD := hD0.self (sz := s.heap.size)
  generalize hAe : va_A [(h, .inr (8, [.int 0, .int 0, .int 0, .int 0, .long 0, .int 0, .int 0, .null, .null, .null, .null, .int 0, .null, .null, .null]))] s.heap.size = A at hD hG ⊢
  have hA : ∀ q : Nat, s.heap.size ≤ q → A q := fun q h => by rw [← hAe]; exact Or.inr h
  have hS : va_S A s.heap s.heap [] := va_S.rf
  have hl := lv_entry ([.ref h]) (n := 1) (Nat.le_of_ble_eq_true rfl)
  rw [lg_entry_eq]
  generalize (lg_sl ([.ref h]) ++ List.replicate (1 - (lg_sl ([.ref h])).length) Slot.unset).toArray = ls at hl ⊢
  have hl : lv_has ls 1 [(0, .ref h)] := hl
  refine lv_aload_n hx hb dX7_init_0 rfl (lv_at hl 0 rfl) ?_
  refine W.objInit hx hb hown (htU _ u_290) (htU _ u_129) (htU _ u_130) rfl (by rw [hml]; exact hl.1) rfl dX7_init_1 (Nat.le_of_ble_eq_true rfl) (Nat.le_of_ble_eq_true rfl) ?_
  refine W.eq (g2 := F0 m 4 ls []) rfl ?_
  refine lv_aload_n hx hb dX7_init_4 rfl (lv_at hl 0 rfl) ?_
  refine lv_bipush (v := 31) hx hb dX7_init_5 (by decide) ?_
  refine va_newa (atype := .int) (ty := .int) (N' := 31) (a0 := (31, .inl (fun _ => 0))) hx hb (htU _ u_153) rfl hK hP hD hS hA (fun _ => rfl) (by decide) (by decide) (Nat.le_of_ble_eq_true rfl) (Nat.le_of_ble_eq_true rfl) (Nat.le_of_ble_eq_true rfl) dX7_init_7 (fun q_1 cA_1 H hK hP hD hS => ?_)
  have hK : va_K (dC, dI) vwCl [(cA_1, .int)] s := hK
  have hP : va_P (dC, dI) vwCl [(h, .inr (8, [.int 0, .int 0, .int 0, .int 0, .long 0, .int 0, .int 0, .null, .null, .null, .null, .int 0, .null, .null, .null])), (q_1, .inl (cA_1, 31, .inl (fun _ => 0)))] H := hP
  have hD : va_D A [(h, .inr (8, [.int 0, .int 0, .int 0, .int 0, .long 0, .int 0, .int 0, .null, .null, .null, .null, .int 0, .null, .null, .null])), (q_1, .inl (cA_1, 31, .inl (fun _ => 0)))] := hD
  refine va_putF (D := (dC, dI)) (ci := 8) (v := .ref q_1) (ty := tyX7 7) (C := RX7) (T := TX7) (N := 15) hx hb tX7 (fun _ h9 => h9) tyX7 tyX7_ok nmX7 hown hK hP hD hS 0 rfl rfl 7 (by decide) (htU _ u_314) (fun _ h9 => h9) rfl hin rfl (tyX7_ok 7 (by decide)) rfl rfl (Nat.le_of_ble_eq_true rfl) dX7_init_9 (fun H locs hP hD hS => ?_)
  have hP : va_P (dC, dI) vwCl [(h, .inr (8, [.int 0, .int 0, .int 0, .int 0, .long 0, .int 0, .int 0, .ref q_1, .null, .null, .null, .int 0, .null, .null, .null])), (q_1, .inl (cA_1, 31, .inl (fun _ => 0)))] H := hP
  have hD : va_D A [(h, .inr (8, [.int 0, .int 0, .int 0, .int 0, .long 0, .int 0, .int 0, .ref q_1, .null, .null, .null, .int 0, .null, .null, .null])), (q_1, .inl (cA_1, 31, .inl (fun _ => 0)))] := hD
  refine lv_aload_n hx hb dX7_init_12 rfl (lv_at hl 0 rfl) ?_
  refine lv_bipush (v := 31) hx hb dX7_init_13 (by decide) ?_
  refine va_newa (atype := .int) (ty := .int) (N' := 31) (a0 := (31, .inl (fun _ => 0))) hx hb (htU _ u_153) rfl hK hP hD hS hA (fun _ => rfl) (by decide) (by decide) (Nat.le_of_ble_eq_true rfl) (Nat.le_of_ble_eq_true rfl) (Nat.le_of_ble_eq_true rfl) dX7_init_15 (fun q_2 cA_2 H hK hP hD hS => ?_)
  have e_q_2 : cA_2 = cA_1 := gg_same hK 1 0 (b := .int) rfl rfl (fun _ => rfl)
  rw [e_q_2] at hP hD
  have hK := hK.sub (tys' := [(cA_1, .int)]) [0] rfl
  have hP : va_P (dC, dI) vwCl [(h, .inr (8, [.int 0, .int 0, .int 0, .int 0, .long 0, .int 0, .int 0, .ref q_1, .null, .null, .null, .int 0, .null, .null, .null])), (q_1, .inl (cA_1, 31, .inl (fun _ => 0))), (q_2, .inl (cA_1, 31, .inl (fun _ => 0)))] H := hP
  have hD : va_D A [(h, .inr (8, [.int 0, .int 0, .int 0, .int 0, .long 0, .int 0, .int 0, .ref q_1, .null, .null, .null, .int 0, .null, .null, .null])), (q_1, .inl (cA_1, 31, .inl (fun _ => 0))), (q_2, .inl (cA_1, 31, .inl (fun _ => 0)))] := hD
  refine va_putF (D := (dC, dI)) (ci := 8) (v := .ref q_2) (ty := tyX7 8) (C := RX7) (T := TX7) (N := 15) hx hb tX7 (fun _ h9 => h9) tyX7 tyX7_ok nmX7 hown hK hP hD hS 0 rfl rfl 8 (by decide) (htU _ u_315) (fun _ h9 => h9) rfl hin rfl (tyX7_ok 8 (by decide)) rfl rfl (Nat.le_of_ble_eq_true rfl) dX7_init_17 (fun H locs hP hD hS => ?_)
  have hP : va_P (dC, dI) vwCl [(h, .inr (8, [.int 0, .int 0, .int 0, .int 0, .long 0, .int 0, .int 0, .ref q_1, .ref q_2, .null, .null, .int 0, .null, .null, .null])), (q_1, .inl (cA_1, 31, .inl (fun _ => 0))), (q_2, .inl (cA_1, 31, .inl (fun _ => 0)))] H := hP
  have hD : va_D A [(h, .inr (8, [.int 0, .int 0, .int 0, .int 0, .long 0, .int 0, .int 0, .ref q_1, .ref q_2, .null, .null, .int 0, .null, .null, .null])), (q_1, .inl (cA_1, 31, .inl (fun _ => 0))), (q_2, .inl (cA_1, 31, .inl (fun _ => 0)))] := hD
  refine lv_aload_n hx hb dX7_init_20 rfl (lv_at hl 0 rfl) ?_
  refine lv_bipush (v := 31) hx hb dX7_init_21 (by decide) ?_
  refine va_newa (atype := .int) (ty := .int) (N' := 31) (a0 := (31, .inl (fun _ => 0))) hx hb (htU _ u_153) rfl hK hP hD hS hA (fun _ => rfl) (by decide) (by decide) (Nat.le_of_ble_eq_true rfl) (Nat.le_of_ble_eq_true rfl) (Nat.le_of_ble_eq_true rfl) dX7_init_23 (fun q_3 cA_3 H hK hP hD hS => ?_)
  have e_q_3 : cA_3 = cA_1 := gg_same hK 1 0 (b := .int) rfl rfl (fun _ => rfl)
  rw [e_q_3] at hP hD
  have hK := hK.sub (tys' := [(cA_1, .int)]) [0] rfl
  have hP : va_P (dC, dI) vwCl [(h, .inr (8, [.int 0, .int 0, .int 0, .int 0, .long 0, .int 0, .int 0, .ref q_1, .ref q_2, .null, .null, .int 0, .null, .null, .null])), (q_1, .inl (cA_1, 31, .inl (fun _ => 0))), (q_2, .inl (cA_1, 31, .inl (fun _ => 0))), (q_3, .inl (cA_1, 31, .inl (fun _ => 0)))] H := hP
  have hD : va_D A [(h, .inr (8, [.int 0, .int 0, .int 0, .int 0, .long 0, .int 0, .int 0, .ref q_1, .ref q_2, .null, .null, .int 0, .null, .null, .null])), (q_1, .inl (cA_1, 31, .inl (fun _ => 0))), (q_2, .inl (cA_1, 31, .inl (fun _ => 0))), (q_3, .inl (cA_1, 31, .inl (fun _ => 0)))] := hD
  refine va_putF (D := (dC, dI)) (ci := 8) (v := .ref q_3) (ty := tyX7 9) (C := RX7) (T := TX7) (N := 15) hx hb tX7 (fun _ h9 => h9) tyX7 tyX7_ok nmX7 hown hK hP hD hS 0 rfl rfl 9 (by decide) (htU _ u_316) (fun _ h9 => h9) rfl hin rfl (tyX7_ok 9 (by decide)) rfl rfl (Nat.le_of_ble_eq_true rfl) dX7_init_25 (fun H locs hP hD hS => ?_)
  have hP : va_P (dC, dI) vwCl [(h, .inr (8, [.int 0, .int 0, .int 0, .int 0, .long 0, .int 0, .int 0, .ref q_1, .ref q_2, .ref q_3, .null, .int 0, .null, .null, .null])), (q_1, .inl (cA_1, 31, .inl (fun _ => 0))), (q_2, .inl (cA_1, 31, .inl (fun _ => 0))), (q_3, .inl (cA_1, 31, .inl (fun _ => 0)))] H := hP
  have hD : va_D A [(h, .inr (8, [.int 0, .int 0, .int 0, .int 0, .long 0, .int 0, .int 0, .ref q_1, .ref q_2, .ref q_3, .null, .int 0, .null, .null, .null])), (q_1, .inl (cA_1, 31, .inl (fun _ => 0))), (q_2, .inl (cA_1, 31, .inl (fun _ => 0))), (q_3, .inl (cA_1, 31, .inl (fun _ => 0)))] := hD
  refine lv_aload_n hx hb dX7_init_28 rfl (lv_at hl 0 rfl) ?_
  refine lv_bipush (v := 60) hx hb dX7_init_29 (by decide) ?_
  refine va_newa (atype := .int) (ty := .int) (N' := 60) (a0 := (60, .inl (fun _ => 0))) hx hb (htU _ u_153) rfl hK hP hD hS hA (fun _ => rfl) (by decide) (by decide) (Nat.le_of_ble_eq_true rfl) (Nat.le_of_ble_eq_true rfl) (Nat.le_of_ble_eq_true rfl) dX7_init_31 (fun q_4 cA_4 H hK hP hD hS => ?_)
  have e_q_4 : cA_4 = cA_1 := gg_same hK 1 0 (b := .int) rfl rfl (fun _ => rfl)
  rw [e_q_4] at hP hD
  have hK := hK.sub (tys' := [(cA_1, .int)]) [0] rfl
  have hP : va_P (dC, dI) vwCl [(h, .inr (8, [.int 0, .int 0, .int 0, .int 0, .long 0, .int 0, .int 0, .ref q_1, .ref q_2, .ref q_3, .null, .int 0, .null, .null, .null])), (q_1, .inl (cA_1, 31, .inl (fun _ => 0))), (q_2, .inl (cA_1, 31, .inl (fun _ => 0))), (q_3, .inl (cA_1, 31, .inl (fun _ => 0))), (q_4, .inl (cA_1, 60, .inl (fun _ => 0)))] H := hP
  have hD : va_D A [(h, .inr (8, [.int 0, .int 0, .int 0, .int 0, .long 0, .int 0, .int 0, .ref q_1, .ref q_2, .ref q_3, .null, .int 0, .null, .null, .null])), (q_1, .inl (cA_1, 31, .inl (fun _ => 0))), (q_2, .inl (cA_1, 31, .inl (fun _ => 0))), (q_3, .inl (cA_1, 31, .inl (fun _ => 0))), (q_4, .inl (cA_1, 60, .inl (fun _ => 0)))] := hD
  refine va_putF (D := (dC, dI)) (ci := 8) (v := .ref q_4) (ty := tyX7 10) (C := RX7) (T := TX7) (N := 15) hx hb tX7 (fun _ h9 => h9) tyX7 tyX7_ok nmX7 hown hK hP hD hS 0 rfl rfl 10 (by decide) (htU _ u_317) (fun _ h9 => h9) rfl hin rfl (tyX7_ok 10 (by decide)) rfl rfl (Nat.le_of_ble_eq_true rfl) dX7_init_33 (fun H locs hP hD hS => ?_)
  have hP : va_P (dC, dI) vwCl [(h, .inr (8, [.int 0, .int 0, .int 0, .int 0, .long 0, .int 0, .int 0, .ref q_1, .ref q_2, .ref q_3, .ref q_4, .int 0, .null, .null, .null])), (q_1, .inl (cA_1, 31, .inl (fun _ => 0))), (q_2, .inl (cA_1, 31, .inl (fun _ => 0))), (q_3, .inl (cA_1, 31, .inl (fun _ => 0))), (q_4, .inl (cA_1, 60, .inl (fun _ => 0)))] H := hP
  have hD : va_D A [(h, .inr (8, [.int 0, .int 0, .int 0, .int 0, .long 0, .int 0, .int 0, .ref q_1, .ref q_2, .ref q_3, .ref q_4, .int 0, .null, .null, .null])), (q_1, .inl (cA_1, 31, .inl (fun _ => 0))), (q_2, .inl (cA_1, 31, .inl (fun _ => 0))), (q_3, .inl (cA_1, 31, .inl (fun _ => 0))), (q_4, .inl (cA_1, 60, .inl (fun _ => 0)))] := hD
  refine lv_aload_n hx hb dX7_init_36 rfl (lv_at hl 0 rfl) ?_
  refine va_get (D := (dC, dI)) (ci := 8) (v := .ref q_4) (C := RX7) (T := TX7) (N := 15) hx hb tX7 (fun _ h9 => h9) hown hK hP 0 rfl rfl 10 (by decide) (htU _ u_317) (fun _ h9 => h9) rfl dX7_init_37 ?_
  refine lv_iconst (v := (-1)) hx hb dX7_init_40 (by decide) ?_
  have hPc := hP.sub (ws' := [(q_4, .inl (cA_1, 60, .inl (fun _ => 0)))]) [4] rfl
  have hDc := hD.sub (ws' := [(q_4, .inl (cA_1, 60, .inl (fun _ => 0)))]) [4] (by decide) rfl
  have hKc := hK.sub (tys' := [(cA_1, .int)]) [0] rfl
  have hFc := va_free (wc := [(q_4, .inl (cA_1, 60, .inl (fun _ => 0)))]) hD hS hA [4] rfl
  refine va_callv (va_runS (As := [.ref q_4, .int (-1)]) (rest := []) ⟨hx, hb, hml, hown, htU⟩ (c_J7_fill_53178 l hf dC dI ad sa q_4 cA_1 60 (fun _ => 0) (-1) (by decide) H.size) (va_cwS 2 htU (gq_S u_291 u_292 u_98 u_293) rfl rfl rfl (by decide +kernel) ⟨(Nat.le_of_ble_eq_true rfl), (Nat.le_of_ble_eq_true rfl)⟩) ⟨(fun a U g mk q => by obtain ⟨q0, q1, qP, qK, qD, qG⟩ := q; exact ⟨q0, q1, qP, va_K.moved (u := U) (U := U.calling g mk a) (Vm.Alike.refl U.vm) qK, qD, GG.blind qG⟩), fun U hU hW => ⟨rfl, by rw [hU], by rw [hU]; exact hPc, va_K.moved hW.alike hKc, hDc.weaken (fun _ _ _ _ => trivial), GG.go hG hS hFc hU hW⟩⟩ rfl rfl hl.1 rfl (lv_room (Nat.le_of_ble_eq_true rfl)) dX7_init_41 ⟨(Nat.le_of_ble_eq_true rfl), (Nat.le_of_ble_eq_true rfl)⟩) hS (fun q _ h => hFc q h) hFc (fun u_6 t H locs ht hvm hw hB hz1 hk1 hS => ?_)
  obtain ⟨hP1, hK1, hD1⟩ := hB
  rw [ht] at hP1
  have hK1 := va_K.moved hvm.symm hK1
  try dsimp only at hw hP1 hK1 hD1
  have hK := (hK.sub (tys' := [(cA_1, .int)]) [0] rfl).app hK1
  have hK : va_K (dC, dI) vwCl [(cA_1, .int)] s := hK
  obtain ⟨hP, hD⟩ := va_join (wr := [(h, .inr (8, [.int 0, .int 0, .int 0, .int 0, .long 0, .int 0, .int 0, .ref q_1, .ref q_2, .ref q_3, .ref q_4, .int 0, .null, .null, .null])), (q_1, .inl (cA_1, 31, .inl (fun _ => 0))), (q_2, .inl (cA_1, 31, .inl (fun _ => 0))), (q_3, .inl (cA_1, 31, .inl (fun _ => 0)))]) (w1 := []) hP hD [4] [0, 1, 2, 3] rfl rfl (by decide) (by decide) hk1 hFc hP1 hD1
  have hP : va_P (dC, dI) vwCl [(h, .inr (8, [.int 0, .int 0, .int 0, .int 0, .long 0, .int 0, .int 0, .ref q_1, .ref q_2, .ref q_3, .ref q_4, .int 0, .null, .null, .null])), (q_1, .inl (cA_1, 31, .inl (fun _ => 0))), (q_2, .inl (cA_1, 31, .inl (fun _ => 0))), (q_3, .inl (cA_1, 31, .inl (fun _ => 0)))] H := hP
  have hD : va_D A [(h, .inr (8, [.int 0, .int 0, .int 0, .int 0, .long 0, .int 0, .int 0, .ref q_1, .ref q_2, .ref q_3, .ref q_4, .int 0, .null, .null, .null])), (q_1, .inl (cA_1, 31, .inl (fun _ => 0))), (q_2, .inl (cA_1, 31, .inl (fun _ => 0))), (q_3, .inl (cA_1, 31, .inl (fun _ => 0)))] := hD
  refine lv_aload_n hx hb dX7_init_44 rfl (lv_at hl 0 rfl) ?_
  refine lv_bipush (v := 30) hx hb dX7_init_45 (by decide) ?_
  refine va_newq hx hb hown (htU _ u_294) hG.2.2.2.2.2.2.2.1 hK hP hD hS hA (n := 30) (N' := 30) (by decide) (by decide) (Nat.le_of_ble_eq_true rfl) (Nat.le_of_ble_eq_true rfl) (Nat.le_of_ble_eq_true rfl) dX7_init_47 (fun q_7 cA_7 H hK hP hD hS => ?_)
  have hP : va_P (dC, dI) vwCl [(h, .inr (8, [.int 0, .int 0, .int 0, .int 0, .long 0, .int 0, .int 0, .ref q_1, .ref q_2, .ref q_3, .ref q_4, .int 0, .null, .null, .null])), (q_1, .inl (cA_1, 31, .inl (fun _ => 0))), (q_2, .inl (cA_1, 31, .inl (fun _ => 0))), (q_3, .inl (cA_1, 31, .inl (fun _ => 0))), (q_7, .inl (cA_7, 30, .inr (.inr (.inr (.inr (fun _ => none))))))] H := hP
  have hD : va_D A [(h, .inr (8, [.int 0, .int 0, .int 0, .int 0, .long 0, .int 0, .int 0, .ref q_1, .ref q_2, .ref q_3, .ref q_4, .int 0, .null, .null, .null])), (q_1, .inl (cA_1, 31, .inl (fun _ => 0))), (q_2, .inl (cA_1, 31, .inl (fun _ => 0))), (q_3, .inl (cA_1, 31, .inl (fun _ => 0))), (q_7, .inl (cA_7, 30, .inr (.inr (.inr (.inr (fun _ => none))))))] := hD
  have hK : va_K (dC, dI) vwCl [(cA_1, .int), (cA_7, .object RX4)] s := hK
  refine va_putF (D := (dC, dI)) (ci := 8) (v := .ref q_7) (ty := tyX7 12) (C := RX7) (T := TX7) (N := 15) hx hb tX7 (fun _ h9 => h9) tyX7 tyX7_ok nmX7 hown hK hP hD hS 0 rfl rfl 12 (by decide) (htU _ u_319) (fun _ h9 => h9) rfl hin rfl (tyX7_ok 12 (by decide)) rfl rfl (Nat.le_of_ble_eq_true rfl) dX7_init_50 (fun H locs hP hD hS => ?_)
  have hP : va_P (dC, dI) vwCl [(h, .inr (8, [.int 0, .int 0, .int 0, .int 0, .long 0, .int 0, .int 0, .ref q_1, .ref q_2, .ref q_3, .ref q_4, .int 0, .ref q_7, .null, .null])), (q_1, .inl (cA_1, 31, .inl (fun _ => 0))), (q_2, .inl (cA_1, 31, .inl (fun _ => 0))), (q_3, .inl (cA_1, 31, .inl (fun _ => 0))), (q_7, .inl (cA_7, 30, .inr (.inr (.inr (.inr (fun _ => none))))))] H := hP
  have hD : va_D A [(h, .inr (8, [.int 0, .int 0, .int 0, .int 0, .long 0, .int 0, .int 0, .ref q_1, .ref q_2, .ref q_3, .ref q_4, .int 0, .ref q_7, .null, .null])), (q_1, .inl (cA_1, 31, .inl (fun _ => 0))), (q_2, .inl (cA_1, 31, .inl (fun _ => 0))), (q_3, .inl (cA_1, 31, .inl (fun _ => 0))), (q_7, .inl (cA_7, 30, .inr (.inr (.inr (.inr (fun _ => none))))))] := hD
  refine lv_aload_n hx hb dX7_init_53 rfl (lv_at hl 0 rfl) ?_
  refine lv_bipush (v := 30) hx hb dX7_init_54 (by decide) ?_
  refine va_newa (atype := .int) (ty := .int) (N' := 30) (a0 := (30, .inl (fun _ => 0))) hx hb (htU _ u_153) rfl hK hP hD hS hA (fun _ => rfl) (by decide) (by decide) (Nat.le_of_ble_eq_true rfl) (Nat.le_of_ble_eq_true rfl) (Nat.le_of_ble_eq_true rfl) dX7_init_56 (fun q_8 cA_8 H hK hP hD hS => ?_)
  have e_q_8 : cA_8 = cA_1 := gg_same hK 2 0 (b := .int) rfl rfl (fun _ => rfl)
  rw [e_q_8] at hP hD
  have hK := hK.sub (tys' := [(cA_1, .int), (cA_7, .object RX4)]) [0, 1] rfl
  have hP : va_P (dC, dI) vwCl [(h, .inr (8, [.int 0, .int 0, .int 0, .int 0, .long 0, .int 0, .int 0, .ref q_1, .ref q_2, .ref q_3, .ref q_4, .int 0, .ref q_7, .null, .null])), (q_1, .inl (cA_1, 31, .inl (fun _ => 0))), (q_2, .inl (cA_1, 31, .inl (fun _ => 0))), (q_3, .inl (cA_1, 31, .inl (fun _ => 0))), (q_7, .inl (cA_7, 30, .inr (.inr (.inr (.inr (fun _ => none)))))), (q_8, .inl (cA_1, 30, .inl (fun _ => 0)))] H := hP
  have hD : va_D A [(h, .inr (8, [.int 0, .int 0, .int 0, .int 0, .long 0, .int 0, .int 0, .ref q_1, .ref q_2, .ref q_3, .ref q_4, .int 0, .ref q_7, .null, .null])), (q_1, .inl (cA_1, 31, .inl (fun _ => 0))), (q_2, .inl (cA_1, 31, .inl (fun _ => 0))), (q_3, .inl (cA_1, 31, .inl (fun _ => 0))), (q_7, .inl (cA_7, 30, .inr (.inr (.inr (.inr (fun _ => none)))))), (q_8, .inl (cA_1, 30, .inl (fun _ => 0)))] := hD
  refine va_putF (D := (dC, dI)) (ci := 8) (v := .ref q_8) (ty := tyX7 13) (C := RX7) (T := TX7) (N := 15) hx hb tX7 (fun _ h9 => h9) tyX7 tyX7_ok nmX7 hown hK hP hD hS 0 rfl rfl 13 (by decide) (htU _ u_320) (fun _ h9 => h9) rfl hin rfl (tyX7_ok 13 (by decide)) rfl rfl (Nat.le_of_ble_eq_true rfl) dX7_init_58 (fun H locs hP hD hS => ?_)
  have hP : va_P (dC, dI) vwCl [(h, .inr (8, [.int 0, .int 0, .int 0, .int 0, .long 0, .int 0, .int 0, .ref q_1, .ref q_2, .ref q_3, .ref q_4, .int 0, .ref q_7, .ref q_8, .null])), (q_1, .inl (cA_1, 31, .inl (fun _ => 0))), (q_2, .inl (cA_1, 31, .inl (fun _ => 0))), (q_3, .inl (cA_1, 31, .inl (fun _ => 0))), (q_7, .inl (cA_7, 30, .inr (.inr (.inr (.inr (fun _ => none)))))), (q_8, .inl (cA_1, 30, .inl (fun _ => 0)))] H := hP
  have hD : va_D A [(h, .inr (8, [.int 0, .int 0, .int 0, .int 0, .long 0, .int 0, .int 0, .ref q_1, .ref q_2, .ref q_3, .ref q_4, .int 0, .ref q_7, .ref q_8, .null])), (q_1, .inl (cA_1, 31, .inl (fun _ => 0))), (q_2, .inl (cA_1, 31, .inl (fun _ => 0))), (q_3, .inl (cA_1, 31, .inl (fun _ => 0))), (q_7, .inl (cA_7, 30, .inr (.inr (.inr (.inr (fun _ => none)))))), (q_8, .inl (cA_1, 30, .inl (fun _ => 0)))] := hD
  refine lv_aload_n hx hb dX7_init_61 rfl (lv_at hl 0 rfl) ?_
  refine lv_bipush (v := 30) hx hb dX7_init_62 (by decide) ?_
  refine va_newa (atype := .int) (ty := .int) (N' := 30) (a0 := (30, .inl (fun _ => 0))) hx hb (htU _ u_153) rfl hK hP hD hS hA (fun _ => rfl) (by decide) (by decide) (Nat.le_of_ble_eq_true rfl) (Nat.le_of_ble_eq_true rfl) (Nat.le_of_ble_eq_true rfl) dX7_init_64 (fun q_9 cA_9 H hK hP hD hS => ?_)
  have e_q_9 : cA_9 = cA_1 := gg_same hK 2 0 (b := .int) rfl rfl (fun _ => rfl)
  rw [e_q_9] at hP hD
  have hK := hK.sub (tys' := [(cA_1, .int), (cA_7, .object RX4)]) [0, 1] rfl
  have hP : va_P (dC, dI) vwCl [(h, .inr (8, [.int 0, .int 0, .int 0, .int 0, .long 0, .int 0, .int 0, .ref q_1, .ref q_2, .ref q_3, .ref q_4, .int 0, .ref q_7, .ref q_8, .null])), (q_1, .inl (cA_1, 31, .inl (fun _ => 0))), (q_2, .inl (cA_1, 31, .inl (fun _ => 0))), (q_3, .inl (cA_1, 31, .inl (fun _ => 0))), (q_7, .inl (cA_7, 30, .inr (.inr (.inr (.inr (fun _ => none)))))), (q_8, .inl (cA_1, 30, .inl (fun _ => 0))), (q_9, .inl (cA_1, 30, .inl (fun _ => 0)))] H := hP
  have hD : va_D A [(h, .inr (8, [.int 0, .int 0, .int 0, .int 0, .long 0, .int 0, .int 0, .ref q_1, .ref q_2, .ref q_3, .ref q_4, .int 0, .ref q_7, .ref q_8, .null])), (q_1, .inl (cA_1, 31, .inl (fun _ => 0))), (q_2, .inl (cA_1, 31, .inl (fun _ => 0))), (q_3, .inl (cA_1, 31, .inl (fun _ => 0))), (q_7, .inl (cA_7, 30, .inr (.inr (.inr (.inr (fun _ => none)))))), (q_8, .inl (cA_1, 30, .inl (fun _ => 0))), (q_9, .inl (cA_1, 30, .inl (fun _ => 0)))] := hD
  refine va_putF (D := (dC, dI)) (ci := 8) (v := .ref q_9) (ty := tyX7 14) (C := RX7) (T := TX7) (N := 15) hx hb tX7 (fun _ h9 => h9) tyX7 tyX7_ok nmX7 hown hK hP hD hS 0 rfl rfl 14 (by decide) (htU _ u_321) (fun _ h9 => h9) rfl hin rfl (tyX7_ok 14 (by decide)) rfl rfl (Nat.le_of_ble_eq_true rfl) dX7_init_66 (fun H locs hP hD hS => ?_)
  have hP : va_P (dC, dI) vwCl [(h, .inr (8, [.int 0, .int 0, .int 0, .int 0, .long 0, .int 0, .int 0, .ref q_1, .ref q_2, .ref q_3, .ref q_4, .int 0, .ref q_7, .ref q_8, .ref q_9])), (q_1, .inl (cA_1, 31, .inl (fun _ => 0))), (q_2, .inl (cA_1, 31, .inl (fun _ => 0))), (q_3, .inl (cA_1, 31, .inl (fun _ => 0))), (q_7, .inl (cA_7, 30, .inr (.inr (.inr (.inr (fun _ => none)))))), (q_8, .inl (cA_1, 30, .inl (fun _ => 0))), (q_9, .inl (cA_1, 30, .inl (fun _ => 0)))] H := hP
  have hD : va_D A [(h, .inr (8, [.int 0, .int 0, .int 0, .int 0, .long 0, .int 0, .int 0, .ref q_1, .ref q_2, .ref q_3, .ref q_4, .int 0, .ref q_7, .ref q_8, .ref q_9])), (q_1, .inl (cA_1, 31, .inl (fun _ => 0))), (q_2, .inl (cA_1, 31, .inl (fun _ => 0))), (q_3, .inl (cA_1, 31, .inl (fun _ => 0))), (q_7, .inl (cA_7, 30, .inr (.inr (.inr (.inr (fun _ => none)))))), (q_8, .inl (cA_1, 30, .inl (fun _ => 0))), (q_9, .inl (cA_1, 30, .inl (fun _ => 0)))] := hD
  have hP9 := hP.sub (ws' := [(h, .inr (8, [.int 0, .int 0, .int 0, .int 0, .long 0, .int 0, .int 0, .ref q_1, .ref q_2, .ref q_3, .ref q_4, .int 0, .ref q_7, .ref q_8, .ref q_9]))]) [0] rfl
  have hD9 := hD.sub (ws' := [(h, .inr (8, [.int 0, .int 0, .int 0, .int 0, .long 0, .int 0, .int 0, .ref q_1, .ref q_2, .ref q_3, .ref q_4, .int 0, .ref q_7, .ref q_8, .ref q_9]))]) [0] (by decide) rfl
  have hK9 := hK.sub (tys' := []) [] rfl
  refine W.widen (k := 7) (n := 243) (Nat.le_of_ble_eq_true rfl) (Nat.le_of_ble_eq_true rfl) ?_
  exact W.vret hx hb hr (fun t ht hW => ⟨⟨(fun k => match k with | 7 => q_1 | 8 => q_2 | 9 => q_3 | 10 => q_4 | 12 => q_7 | 13 => q_8 | 14 => q_9 | _ => 0), rfl, trivial, ⟨by rw [ht]; exact hP9, va_K.moved hW.alike hK9, hD9⟩⟩, hS.F ht⟩) hS.2.2 dX7_init_69

set_option maxHeartbeats 4000000 in
set_option maxRecDepth 100000 in
/-- Hand(terms) -/
theorem c_X1_init (l : Launch) (hf : l.stackTraces = false) (dC : Nat → ClassId) (dI : Nat → Nat → Nat) (ad sa : Nat → Nat) (h : Nat) (x1 : Nat) (sz : Nat) : Met l yX1_init wq_X1_init ({ frames := 10, cells := 8, slots := 258, locals := 243 }) (va_Pc [.ref h, .ref x1] (fun U => U.heap.size = sz ∧ va_P (dC, dI) vwCl [(h, .inr (3, [.null, .null, .int 0, .int 0, .int 0, .int 0, .int 0]))] U.heap ∧ va_K (dC, dI) vwCl [] U ∧ va_D (fun _ => True) [(h, .inr (3, [.null, .null, .int 0, .int 0, .int 0, .int 0, .int 0]))] ∧ GG (va_A [(h, .inr (3, [.null, .null, .int 0, .int 0, .int 0, .int 0, .int 0]))] sz) ad sa U U.heap)) (va_Qv (fun (u : Unit) => True) (fun (u : Unit) t => va_P (dC, dI) vwCl [] t.heap ∧ va_K (dC, dI) vwCl [] t ∧ va_D (va_A [(h, .inr (3, [.null, .null, .int 0, .int 0, .int 0, .int 0, .int 0]))] sz) []) (va_A [(h, .inr (3, [.null, .null, .int 0, .int 0, .int 0, .int 0, .int 0]))] sz)) 8 258 (va_A [(h, .inr (3, [.null, .null, .int 0, .int 0, .int 0, .int 0, .int 0]))] sz) := by
  refine Met.ofW (cc := cX1_init) (maxL := 2) (ret := none) (by decide) rfl ?_
  intro p e s m args below meth c s₁ B hml hv
  obtain ⟨rfl, hsz, hP, hK, hD0, hG⟩ := hv
  have hx := B.exec
  have hb := B.bytes
  have hr := B.returns
  have hts := atoms_spec (ws := wq_X1_init) B.pre
  have htU : ∀ w ∈ UW, w.before _ s = true := fun w h => hts w (List.mem_cons_of_mem _ h)
  have hown : s.vm.findClass RX1 = some m.cls := findClass_of_methodNamed B.named
  have hlocks := B.notSynchronized
  have hin : meth.name = "<init>" := (name_of_methodNamed B.named B.method).1
  have tX1 : ∀ w ∈ wsX10, w.before _ s = true := fun w h => htU w (uX_X1 w h)
  have tX7 : ∀ w ∈ wsX70, w.before _ s = true := fun w h => htU w (uX_X7 w h)
  subst hsz
  have hD := hD0.self (sz := s.heap.size)
  generalize hAe : va_A [(h, .inr (3, [.null, .null, .int 0, .int 0, .int 0, .int 0, .int 0]))] s.heap.size = A at hD hG ⊢
  have hA : ∀ q : Nat, s.heap.size ≤ q → A q := fun q h => by rw [← hAe]; exact Or.inr h
  have hS : va_S A s.heap s.heap [] := va_S.rf
  have hl := lv_entry ([.ref h, .ref x1]) (n := 2) (Nat.le_of_ble_eq_true rfl)
  rw [lg_entry_eq]
  generalize (lg_sl ([.ref h, .ref x1]) ++ List.replicate (2 - (lg_sl ([.ref h, .ref x1])).length) Slot.unset).toArray = ls at hl ⊢
  have hl : lv_has ls 2 [(0, .ref h), (1, .ref x1)] := hl
  refine lv_aload_n hx hb dX1_init_0 rfl (lv_at hl 0 rfl) ?_
  refine W.objInit hx hb hown (htU _ u_284) (htU _ u_129) (htU _ u_130) rfl (by rw [hml]; exact hl.1) rfl dX1_init_1 (Nat.le_of_ble_eq_true rfl) (Nat.le_of_ble_eq_true rfl) ?_
  refine W.eq (g2 := F0 m 4 ls []) rfl ?_
  refine lv_aload_n hx hb dX1_init_4 rfl (lv_at hl 0 rfl) ?_
  refine lv_aload_n hx hb dX1_init_5 rfl (lv_at hl 1 rfl) ?_
  refine va_putF (D := (dC, dI)) (ci := 3) (v := .ref x1) (ty := tyX1 0) (C := RX1) (T := TX1) (N := 7) hx hb tX1 (fun _ h9 => h9) tyX1 tyX1_ok nmX1 hown hK hP hD hS 0 rfl rfl 0 (by decide) (htU _ u_353) (fun _ h9 => h9) rfl hin rfl (tyX1_ok 0 (by decide)) rfl rfl (Nat.le_of_ble_eq_true rfl) dX1_init_6 (fun H locs hP hD hS => ?_)
  have hP : va_P (dC, dI) vwCl [(h, .inr (3, [.ref x1, .null, .int 0, .int 0, .int 0, .int 0, .int 0]))] H := hP
  have hD : va_D A [(h, .inr (3, [.ref x1, .null, .int 0, .int 0, .int 0, .int 0, .int 0]))] := hD
  refine lv_aload_n hx hb dX1_init_9 rfl (lv_at hl 0 rfl) ?_
  refine va_new (ci := 8) (fs := [.int 0, .int 0, .int 0, .int 0, .long 0, .int 0, .int 0, .null, .null, .null, .null, .int 0, .null, .null, .null]) (C := RX7) (T := TX7) (N := 15) hx hb tX7 (fun _ h9 => h9) tyX7 tyX7_ok hown (htU _ u_285) (htU _ u_286) (htU _ u_97) hK hP hD hS hA rfl (by first | decide +kernel | (intro j hj; match j, hj with | 0, _ => rfl | 1, _ => rfl | 2, _ => rfl | 3, _ => rfl | 4, _ => rfl | 5, _ => rfl | 6, _ => rfl | 7, _ => rfl | 8, _ => rfl | 9, _ => rfl | 10, _ => rfl | 11, _ => rfl | 12, _ => rfl | 13, _ => rfl | 14, _ => rfl | j + 15, hj => exact absurd hj (by omega))) (Nat.le_of_ble_eq_true rfl) (Nat.le_of_ble_eq_true rfl) dX1_init_10 (fun q_1 H hP hD hS => ?_)
  have hP : va_P (dC, dI) vwCl [(h, .inr (3, [.ref x1, .null, .int 0, .int 0, .int 0, .int 0, .int 0])), (q_1, .inr (8, [.int 0, .int 0, .int 0, .int 0, .long 0, .int 0, .int 0, .null, .null, .null, .null, .int 0, .null, .null, .null]))] H := hP
  have hD : va_D A [(h, .inr (3, [.ref x1, .null, .int 0, .int 0, .int 0, .int 0, .int 0])), (q_1, .inr (8, [.int 0, .int 0, .int 0, .int 0, .long 0, .int 0, .int 0, .null, .null, .null, .null, .int 0, .null, .null, .null]))] := hD
  refine lv_dup hx hb dX1_init_13 rfl ?_
  have hPc := hP.sub (ws' := [(q_1, .inr (8, [.int 0, .int 0, .int 0, .int 0, .long 0, .int 0, .int 0, .null, .null, .null, .null, .int 0, .null, .null, .null]))]) [1] rfl
  have hDc := hD.sub (ws' := [(q_1, .inr (8, [.int 0, .int 0, .int 0, .int 0, .long 0, .int 0, .int 0, .null, .null, .null, .null, .int 0, .null, .null, .null]))]) [1] (by decide) rfl
  have hKc := hK.sub (tys' := []) [] rfl
  have hFc := va_free (wc := [(q_1, .inr (8, [.int 0, .int 0, .int 0, .int 0, .long 0, .int 0, .int 0, .null, .null, .null, .null, .int 0, .null, .null, .null]))]) hD hS hA [1] rfl
  refine va_callv (va_runI (As := []) (rest := [.ref q_1, .ref h]) ⟨hx, hb, hml, hown, htU⟩ (c_X7_init l hf dC dI ad sa q_1 H.size) (cwI 0 htU (gq_I u_289) rfl rfl rfl (htU _ u_97) (htU _ u_287) (htU _ u_288) rfl (by decide +kernel) ⟨(Nat.le_of_ble_eq_true rfl), (Nat.le_of_ble_eq_true rfl)⟩) ⟨(fun a U g mk q => by obtain ⟨q0, q1, qP, qK, qD, qG⟩ := q; exact ⟨q0, q1, qP, va_K.moved (u := U) (U := U.calling g mk a) (Vm.Alike.refl U.vm) qK, qD, GG.blind qG⟩), fun U hU hW => ⟨rfl, by rw [hU], by rw [hU]; exact hPc, va_K.moved hW.alike hKc, hDc.weaken (fun _ _ _ _ => trivial), GG.go hG hS hFc hU hW⟩⟩ rfl rfl hl.1 rfl (lv_room (Nat.le_of_ble_eq_true rfl)) dX1_init_14 ⟨(Nat.le_of_ble_eq_true rfl), (Nat.le_of_ble_eq_true rfl)⟩) hS (fun q _ h => hFc q h) hFc (fun u_3 t H locs ht hvm hw hB hz1 hk1 hS => ?_)
  obtain ⟨hP1, hK1, hD1⟩ := hB
  rw [ht] at hP1
  have hK1 := va_K.moved hvm.symm hK1
  try dsimp only at hw hP1 hK1 hD1
  have hK := (hK.sub (tys' := []) [] rfl).app hK1
  have hK : va_K (dC, dI) vwCl [] s := hK
  obtain ⟨hP, hD⟩ := va_join (wr := [(h, .inr (3, [.ref x1, .null, .int 0, .int 0, .int 0, .int 0, .int 0]))]) (w1 := [(q_1, .inr (8, [.int 0, .int 0, .int 0, .int 0, .long 0, .int 0, .int 0, .ref (u_3 7), .ref (u_3 8), .ref (u_3 9), .ref (u_3 10), .int 0, .ref (u_3 12), .ref (u_3 13), .ref (u_3 14)]))]) hP hD [1] [0] rfl rfl (by decide) (by decide) hk1 hFc hP1 hD1
  have hP : va_P (dC, dI) vwCl [(h, .inr (3, [.ref x1, .null, .int 0, .int 0, .int 0, .int 0, .int 0])), (q_1, .inr (8, [.int 0, .int 0, .int 0, .int 0, .long 0, .int 0, .int 0, .ref (u_3 7), .ref (u_3 8), .ref (u_3 9), .ref (u_3 10), .int 0, .ref (u_3 12), .ref (u_3 13), .ref (u_3 14)]))] H := hP
  have hD : va_D A [(h, .inr (3, [.ref x1, .null, .int 0, .int 0, .int 0, .int 0, .int 0])), (q_1, .inr (8, [.int 0, .int 0, .int 0, .int 0, .long 0, .int 0, .int 0, .ref (u_3 7), .ref (u_3 8), .ref (u_3 9), .ref (u_3 10), .int 0, .ref (u_3 12), .ref (u_3 13), .ref (u_3 14)]))] := hD
  refine va_put (D := (dC, dI)) (ci := 3) (v := .ref q_1) (ty := tyX1 1) (C := RX1) (T := TX1) (N := 7) hx hb tX1 (fun _ h9 => h9) tyX1 tyX1_ok nmX1 hown hK hP hD hS 0 rfl rfl 1 (by decide) (htU _ u_354) (fun _ h9 => h9) rfl (tyX1_ok 1 (by decide)) rfl rfl (Nat.le_of_ble_eq_true rfl) dX1_init_17 (fun H locs hP hD hS => ?_)
  have hP : va_P (dC, dI) vwCl [(h, .inr (3, [.ref x1, .ref q_1, .int 0, .int 0, .int 0, .int 0, .int 0])), (q_1, .inr (8, [.int 0, .int 0, .int 0, .int 0, .long 0, .int 0, .int 0, .ref (u_3 7), .ref (u_3 8), .ref (u_3 9), .ref (u_3 10), .int 0, .ref (u_3 12), .ref (u_3 13), .ref (u_3 14)]))] H := hP
  have hD : va_D A [(h, .inr (3, [.ref x1, .ref q_1, .int 0, .int 0, .int 0, .int 0, .int 0])), (q_1, .inr (8, [.int 0, .int 0, .int 0, .int 0, .long 0, .int 0, .int 0, .ref (u_3 7), .ref (u_3 8), .ref (u_3 9), .ref (u_3 10), .int 0, .ref (u_3 12), .ref (u_3 13), .ref (u_3 14)]))] := hD
  have hP9 := hP.sub (ws' := []) [] rfl
  have hD9 := hD.sub (ws' := []) [] (by decide) rfl
  have hK9 := hK.sub (tys' := []) [] rfl
  refine W.widen (k := 8) (n := 258) (Nat.le_of_ble_eq_true rfl) (Nat.le_of_ble_eq_true rfl) ?_
  exact W.vret hx hb hr (fun t ht hW => ⟨⟨(), rfl, trivial, ⟨by rw [ht]; exact hP9, va_K.moved hW.alike hK9, hD9⟩⟩, hS.F ht⟩) hS.2.2 dX1_init_20

set_option maxHeartbeats 4000000 in
set_option maxRecDepth 100000 in
/-- Pages() -/
theorem c_X5_init (l : Launch) (hf : l.stackTraces = false) (dC : Nat → ClassId) (dI : Nat → Nat → Nat) (ad sa : Nat → Nat) (h : Nat) (sz : Nat) : Met l yX5_init wq_X5_init ({ frames := 8, cells := 4, slots := 127, locals := 200 }) (va_Pc [.ref h] (fun U => U.heap.size = sz ∧ va_P (dC, dI) vwCl [(h, .inr (6, [.int 0, .null, .null, .null, .null]))] U.heap ∧ va_K (dC, dI) vwCl [] U ∧ va_D (fun _ => True) [(h, .inr (6, [.int 0, .null, .null, .null, .null]))] ∧ GG (va_A [(h, .inr (6, [.int 0, .null, .null, .null, .null]))] sz) ad sa U U.heap)) (va_Qv (fun (u : Unit) => True) (fun (u : Unit) t => va_P (dC, dI) vwCl [] t.heap ∧ va_K (dC, dI) vwCl [] t ∧ va_D (va_A [(h, .inr (6, [.int 0, .null, .null, .null, .null]))] sz) []) (va_A [(h, .inr (6, [.int 0, .null, .null, .null, .null]))] sz)) 4 127 (va_A [(h, .inr (6, [.int 0, .null, .null, .null, .null]))] sz) := by
  refine Met.ofW (cc := cX5_init) (maxL := 1) (ret := none) (by decide) rfl ?_
  intro p e s m args below meth c s₁ B hml hv
  obtain ⟨rfl, hsz, hP, hK, hD0, hG⟩ := hv
  have hx := B.exec
  have hb := B.bytes
  have hr := B.returns
  have hts := atoms_spec (ws := wq_X5_init) B.pre
  have htU : ∀ w ∈ UW, w.before _ s = true := fun w h => hts w (List.mem_cons_of_mem _ h)
  have hown : s.vm.findClass RX5 = some m.cls := findClass_of_methodNamed B.named
  have hlocks := B.notSynchronized
  have hin : meth.name = "<init>" := (name_of_methodNamed B.named B.method).1
  have tX5 : ∀ w ∈ wsX50, w.before _ s = true := fun w h => htU w (uX_X5 w h)
  subst hsz
  have hD := hD0.self (sz := s.heap.size)
  generalize hAe : va_A [(h, .inr (6, [.int 0, .null, .null, .null, .null]))] s.heap.size = A at hD hG ⊢
  have hA : ∀ q : Nat, s.heap.size ≤ q → A q := fun q h => by rw [← hAe]; exact Or.inr h
  have hS : va_S A s.heap s.heap [] := va_S.rf
  have hl := lv_entry ([.ref h]) (n := 1) (Nat.le_of_ble_eq_true rfl)
  rw [lg_entry_eq]
  generalize (lg_sl ([.ref h]) ++ List.replicate (1 - (lg_sl ([.ref h])).length) Slot.unset).toArray = ls at hl ⊢
  have hl : lv_has ls 1 [(0, .ref h)] := hl
  refine lv_aload_n hx hb dX5_init_0 rfl (lv_at hl 0 rfl) ?_
  refine W.objInit hx hb hown (htU _ u_380) (htU _ u_129) (htU _ u_130) rfl (by rw [hml]; exact hl.1) rfl dX5_init_1 (Nat.le_of_ble_eq_true rfl) (Nat.le_of_ble_eq_true rfl) ?_
  refine W.eq (g2 := F0 m 4 ls []) rfl ?_
  refine lv_aload_n hx hb dX5_init_4 rfl (lv_at hl 0 rfl) ?_
  refine lv_bipush (v := 31) hx hb dX5_init_5 (by decide) ?_
  refine va_newa (atype := .int) (ty := .int) (N' := 31) (a0 := (31, .inl (fun _ => 0))) hx hb (htU _ u_153) rfl hK hP hD hS hA (fun _ => rfl) (by decide) (by decide) (Nat.le_of_ble_eq_true rfl) (Nat.le_of_ble_eq_true rfl) (Nat.le_of_ble_eq_true rfl) dX5_init_7 (fun q_1 cA_1 H hK hP hD hS => ?_)
  have hK : va_K (dC, dI) vwCl [(cA_1, .int)] s := hK
  have hP : va_P (dC, dI) vwCl [(h, .inr (6, [.int 0, .null, .null, .null, .null])), (q_1, .inl (cA_1, 31, .inl (fun _ => 0)))] H := hP
  have hD : va_D A [(h, .inr (6, [.int 0, .null, .null, .null, .null])), (q_1, .inl (cA_1, 31, .inl (fun _ => 0)))] := hD
  refine va_putF (D := (dC, dI)) (ci := 6) (v := .ref q_1) (ty := tyX5 1) (C := RX5) (T := TX5) (N := 5) hx hb tX5 (fun _ h9 => h9) tyX5 tyX5_ok nmX5 hown hK hP hD hS 0 rfl rfl 1 (by decide) (htU _ u_383) (fun _ h9 => h9) rfl hin rfl (tyX5_ok 1 (by decide)) rfl rfl (Nat.le_of_ble_eq_true rfl) dX5_init_9 (fun H locs hP hD hS => ?_)
  have hP : va_P (dC, dI) vwCl [(h, .inr (6, [.int 0, .ref q_1, .null, .null, .null])), (q_1, .inl (cA_1, 31, .inl (fun _ => 0)))] H := hP
  have hD : va_D A [(h, .inr (6, [.int 0, .ref q_1, .null, .null, .null])), (q_1, .inl (cA_1, 31, .inl (fun _ => 0)))] := hD
  refine lv_aload_n hx hb dX5_init_12 rfl (lv_at hl 0 rfl) ?_
  refine lv_bipush (v := 32) hx hb dX5_init_13 (by decide) ?_
  refine va_newa (atype := .int) (ty := .int) (N' := 32) (a0 := (32, .inl (fun _ => 0))) hx hb (htU _ u_153) rfl hK hP hD hS hA (fun _ => rfl) (by decide) (by decide) (Nat.le_of_ble_eq_true rfl) (Nat.le_of_ble_eq_true rfl) (Nat.le_of_ble_eq_true rfl) dX5_init_15 (fun q_2 cA_2 H hK hP hD hS => ?_)
  have e_q_2 : cA_2 = cA_1 := gg_same hK 1 0 (b := .int) rfl rfl (fun _ => rfl)
  rw [e_q_2] at hP hD
  have hK := hK.sub (tys' := [(cA_1, .int)]) [0] rfl
  have hP : va_P (dC, dI) vwCl [(h, .inr (6, [.int 0, .ref q_1, .null, .null, .null])), (q_1, .inl (cA_1, 31, .inl (fun _ => 0))), (q_2, .inl (cA_1, 32, .inl (fun _ => 0)))] H := hP
  have hD : va_D A [(h, .inr (6, [.int 0, .ref q_1, .null, .null, .null])), (q_1, .inl (cA_1, 31, .inl (fun _ => 0))), (q_2, .inl (cA_1, 32, .inl (fun _ => 0)))] := hD
  refine va_putF (D := (dC, dI)) (ci := 6) (v := .ref q_2) (ty := tyX5 2) (C := RX5) (T := TX5) (N := 5) hx hb tX5 (fun _ h9 => h9) tyX5 tyX5_ok nmX5 hown hK hP hD hS 0 rfl rfl 2 (by decide) (htU _ u_384) (fun _ h9 => h9) rfl hin rfl (tyX5_ok 2 (by decide)) rfl rfl (Nat.le_of_ble_eq_true rfl) dX5_init_17 (fun H locs hP hD hS => ?_)
  have hP : va_P (dC, dI) vwCl [(h, .inr (6, [.int 0, .ref q_1, .ref q_2, .null, .null])), (q_1, .inl (cA_1, 31, .inl (fun _ => 0))), (q_2, .inl (cA_1, 32, .inl (fun _ => 0)))] H := hP
  have hD : va_D A [(h, .inr (6, [.int 0, .ref q_1, .ref q_2, .null, .null])), (q_1, .inl (cA_1, 31, .inl (fun _ => 0))), (q_2, .inl (cA_1, 32, .inl (fun _ => 0)))] := hD
  refine lv_aload_n hx hb dX5_init_20 rfl (lv_at hl 0 rfl) ?_
  refine lv_bipush (v := 32) hx hb dX5_init_21 (by decide) ?_
  refine va_newa (atype := .int) (ty := .int) (N' := 32) (a0 := (32, .inl (fun _ => 0))) hx hb (htU _ u_153) rfl hK hP hD hS hA (fun _ => rfl) (by decide) (by decide) (Nat.le_of_ble_eq_true rfl) (Nat.le_of_ble_eq_true rfl) (Nat.le_of_ble_eq_true rfl) dX5_init_23 (fun q_3 cA_3 H hK hP hD hS => ?_)
  have e_q_3 : cA_3 = cA_1 := gg_same hK 1 0 (b := .int) rfl rfl (fun _ => rfl)
  rw [e_q_3] at hP hD
  have hK := hK.sub (tys' := [(cA_1, .int)]) [0] rfl
  have hP : va_P (dC, dI) vwCl [(h, .inr (6, [.int 0, .ref q_1, .ref q_2, .null, .null])), (q_1, .inl (cA_1, 31, .inl (fun _ => 0))), (q_2, .inl (cA_1, 32, .inl (fun _ => 0))), (q_3, .inl (cA_1, 32, .inl (fun _ => 0)))] H := hP
  have hD : va_D A [(h, .inr (6, [.int 0, .ref q_1, .ref q_2, .null, .null])), (q_1, .inl (cA_1, 31, .inl (fun _ => 0))), (q_2, .inl (cA_1, 32, .inl (fun _ => 0))), (q_3, .inl (cA_1, 32, .inl (fun _ => 0)))] := hD
  refine va_putF (D := (dC, dI)) (ci := 6) (v := .ref q_3) (ty := tyX5 3) (C := RX5) (T := TX5) (N := 5) hx hb tX5 (fun _ h9 => h9) tyX5 tyX5_ok nmX5 hown hK hP hD hS 0 rfl rfl 3 (by decide) (htU _ u_385) (fun _ h9 => h9) rfl hin rfl (tyX5_ok 3 (by decide)) rfl rfl (Nat.le_of_ble_eq_true rfl) dX5_init_25 (fun H locs hP hD hS => ?_)
  have hP : va_P (dC, dI) vwCl [(h, .inr (6, [.int 0, .ref q_1, .ref q_2, .ref q_3, .null])), (q_1, .inl (cA_1, 31, .inl (fun _ => 0))), (q_2, .inl (cA_1, 32, .inl (fun _ => 0))), (q_3, .inl (cA_1, 32, .inl (fun _ => 0)))] H := hP
  have hD : va_D A [(h, .inr (6, [.int 0, .ref q_1, .ref q_2, .ref q_3, .null])), (q_1, .inl (cA_1, 31, .inl (fun _ => 0))), (q_2, .inl (cA_1, 32, .inl (fun _ => 0))), (q_3, .inl (cA_1, 32, .inl (fun _ => 0)))] := hD
  refine lv_aload_n hx hb dX5_init_28 rfl (lv_at hl 0 rfl) ?_
  refine lv_bipush (v := 32) hx hb dX5_init_29 (by decide) ?_
  refine va_newa (atype := .int) (ty := .int) (N' := 32) (a0 := (32, .inl (fun _ => 0))) hx hb (htU _ u_153) rfl hK hP hD hS hA (fun _ => rfl) (by decide) (by decide) (Nat.le_of_ble_eq_true rfl) (Nat.le_of_ble_eq_true rfl) (Nat.le_of_ble_eq_true rfl) dX5_init_31 (fun q_4 cA_4 H hK hP hD hS => ?_)
  have e_q_4 : cA_4 = cA_1 := gg_same hK 1 0 (b := .int) rfl rfl (fun _ => rfl)
  rw [e_q_4] at hP hD
  have hK := hK.sub (tys' := [(cA_1, .int)]) [0] rfl
  have hP : va_P (dC, dI) vwCl [(h, .inr (6, [.int 0, .ref q_1, .ref q_2, .ref q_3, .null])), (q_1, .inl (cA_1, 31, .inl (fun _ => 0))), (q_2, .inl (cA_1, 32, .inl (fun _ => 0))), (q_3, .inl (cA_1, 32, .inl (fun _ => 0))), (q_4, .inl (cA_1, 32, .inl (fun _ => 0)))] H := hP
  have hD : va_D A [(h, .inr (6, [.int 0, .ref q_1, .ref q_2, .ref q_3, .null])), (q_1, .inl (cA_1, 31, .inl (fun _ => 0))), (q_2, .inl (cA_1, 32, .inl (fun _ => 0))), (q_3, .inl (cA_1, 32, .inl (fun _ => 0))), (q_4, .inl (cA_1, 32, .inl (fun _ => 0)))] := hD
  refine va_putF (D := (dC, dI)) (ci := 6) (v := .ref q_4) (ty := tyX5 4) (C := RX5) (T := TX5) (N := 5) hx hb tX5 (fun _ h9 => h9) tyX5 tyX5_ok nmX5 hown hK hP hD hS 0 rfl rfl 4 (by decide) (htU _ u_386) (fun _ h9 => h9) rfl hin rfl (tyX5_ok 4 (by decide)) rfl rfl (Nat.le_of_ble_eq_true rfl) dX5_init_33 (fun H locs hP hD hS => ?_)
  have hP : va_P (dC, dI) vwCl [(h, .inr (6, [.int 0, .ref q_1, .ref q_2, .ref q_3, .ref q_4])), (q_1, .inl (cA_1, 31, .inl (fun _ => 0))), (q_2, .inl (cA_1, 32, .inl (fun _ => 0))), (q_3, .inl (cA_1, 32, .inl (fun _ => 0))), (q_4, .inl (cA_1, 32, .inl (fun _ => 0)))] H := hP
  have hD : va_D A [(h, .inr (6, [.int 0, .ref q_1, .ref q_2, .ref q_3, .ref q_4])), (q_1, .inl (cA_1, 31, .inl (fun _ => 0))), (q_2, .inl (cA_1, 32, .inl (fun _ => 0))), (q_3, .inl (cA_1, 32, .inl (fun _ => 0))), (q_4, .inl (cA_1, 32, .inl (fun _ => 0)))] := hD
  have hP9 := hP.sub (ws' := []) [] rfl
  have hD9 := hD.sub (ws' := []) [] (by decide) rfl
  have hK9 := hK.sub (tys' := []) [] rfl
  refine W.widen (k := 4) (n := 127) (Nat.le_of_ble_eq_true rfl) (Nat.le_of_ble_eq_true rfl) ?_
  exact W.vret hx hb hr (fun t ht hW => ⟨⟨(), rfl, trivial, ⟨by rw [ht]; exact hP9, va_K.moved hW.alike hK9, hD9⟩⟩, hS.F ht⟩) hS.2.2 dX5_init_36

set_option maxHeartbeats 4000000 in
set_option maxRecDepth 100000 in
/-- LayoutPress(): no nodes, nothing printed -/
theorem c_X10_init (l : Launch) (hf : l.stackTraces = false) (dC : Nat → ClassId) (dI : Nat → Nat → Nat) (ad sa : Nat → Nat) (h : Nat) (sz : Nat) : Met l yX10_init wq_X10_init ({ frames := 11, cells := 44, slots := 1592, locals := 264 }) (va_Pc [.ref h] (fun U => U.heap.size = sz ∧ va_P (dC, dI) vwCl [(h, .inr (11, [.null, .int 0, .null, .null, .null, .null, .null]))] U.heap ∧ va_K (dC, dI) vwCl [] U ∧ va_D (fun _ => True) [(h, .inr (11, [.null, .int 0, .null, .null, .null, .null, .null]))] ∧ GG (va_A [(h, .inr (11, [.null, .int 0, .null, .null, .null, .null, .null]))] sz) ad sa U U.heap)) (va_Qv (fun (u : (Nat → Nat) × (Nat → Nat) × ClassId) => True) (fun (u : (Nat → Nat) × (Nat → Nat) × ClassId) t => va_P (dC, dI) vwCl [(h, .inr (11, [.ref (u.1 0), .int 0, .ref (u.1 2), .ref (u.1 3), .ref (u.1 4), .ref (u.1 5), .ref (u.1 6)])), (u.1 0, .inl (u.2.2, 60, .inr (.inr (.inr (.inr (fun _ => none)))))), (u.1 6, .inr (8, [.int 0, .int 0, .int 0, .int 0, .long 0, .int 0, .int 0, .ref (u.2.1 7), .ref (u.2.1 8), .ref (u.2.1 9), .ref (u.2.1 10), .int 0, .ref (u.2.1 12), .ref (u.2.1 13), .ref (u.2.1 14)]))] t.heap ∧ va_K (dC, dI) vwCl [(u.2.2, .object RX4)] t ∧ va_D (va_A [(h, .inr (11, [.null, .int 0, .null, .null, .null, .null, .null]))] sz) [(h, .inr (11, [.ref (u.1 0), .int 0, .ref (u.1 2), .ref (u.1 3), .ref (u.1 4), .ref (u.1 5), .ref (u.1 6)])), (u.1 0, .inl (u.2.2, 60, .inr (.inr (.inr (.inr (fun _ => none)))))), (u.1 6, .inr (8, [.int 0, .int 0, .int 0, .int 0, .long 0, .int 0, .int 0, .ref (u.2.1 7), .ref (u.2.1 8), .ref (u.2.1 9), .ref (u.2.1 10), .int 0, .ref (u.2.1 12), .ref (u.2.1 13), .ref (u.2.1 14)]))]) (va_A [(h, .inr (11, [.null, .int 0, .null, .null, .null, .null, .null]))] sz)) 44 1592 (va_A [(h, .inr (11, [.null, .int 0, .null, .null, .null, .null, .null]))] sz) := by
  refine Met.ofW (cc := cX10_init) (maxL := 1) (ret := none) (by decide) rfl ?_
  intro p e s m args below meth c s₁ B hml hv
  obtain ⟨rfl, hsz, hP, hK, hD0, hG⟩ := hv
  have hx := B.exec
  have hb := B.bytes
  have hr := B.returns
  have hts := atoms_spec (ws := wq_X10_init) B.pre
  have htU : ∀ w ∈ UW, w.before _ s = true := fun w h => hts w (List.mem_cons_of_mem _ h)
  have hown : s.vm.findClass RX10 = some m.cls := findClass_of_methodNamed B.named
  have hlocks := B.notSynchronized
  have hin : meth.name = "<init>" := (name_of_methodNamed B.named B.method).1
  have tX10 : ∀ w ∈ wsX100, w.before _ s = true := fun w h => htU w (uX_X10 w h)
  have tX9 : ∀ w ∈ wsX90, w.before _ s = true := fun w h => htU w (uX_X9 w h)
  have tX6 : ∀ w ∈ wsX60, w.before _ s = true := fun w h => htU w (uX_X6 w h)
  have tX1 : ∀ w ∈ wsX10, w.before _ s = true := fun w h => htU w (uX_X1 w h)
  have tX5 : ∀ w ∈ wsX50, w.before _ s = true := fun w h => htU w (uX_X5 w h)
  have tX7 : ∀ w ∈ wsX70, w.before _ s = true := fun w h => htU w (uX_X7 w h)
  subst hsz
  have hD := hD0.self (sz := s.heap.size)
  generalize hAe : va_A [(h, .inr (11, [.null, .int 0, .null, .null, .null, .null, .null]))] s.heap.size = A at hD hG ⊢
  have hA : ∀ q : Nat, s.heap.size ≤ q → A q := fun q h => by rw [← hAe]; exact Or.inr h
  have hS : va_S A s.heap s.heap [] := va_S.rf
  have hl := lv_entry ([.ref h]) (n := 1) (Nat.le_of_ble_eq_true rfl)
  rw [lg_entry_eq]
  generalize (lg_sl ([.ref h]) ++ List.replicate (1 - (lg_sl ([.ref h])).length) Slot.unset).toArray = ls at hl ⊢
  have hl : lv_has ls 1 [(0, .ref h)] := hl
  refine lv_aload_n hx hb dX10_init_0 rfl (lv_at hl 0 rfl) ?_
  refine W.objInit hx hb hown (htU _ u_128) (htU _ u_129) (htU _ u_130) rfl (by rw [hml]; exact hl.1) rfl dX10_init_1 (Nat.le_of_ble_eq_true rfl) (Nat.le_of_ble_eq_true rfl) ?_
  refine W.eq (g2 := F0 m 4 ls []) rfl ?_
  refine lv_aload_n hx hb dX10_init_4 rfl (lv_at hl 0 rfl) ?_
  refine lv_bipush (v := 60) hx hb dX10_init_5 (by decide) ?_
  refine va_newq hx hb hown (htU _ u_131) hG.2.2.2.2.2.2.2.1 hK hP hD hS hA (n := 60) (N' := 60) (by decide) (by decide) (Nat.le_of_ble_eq_true rfl) (Nat.le_of_ble_eq_true rfl) (Nat.le_of_ble_eq_true rfl) dX10_init_7 (fun q_1 cA_1 H hK hP hD hS => ?_)
  have hP : va_P (dC, dI) vwCl [(h, .inr (11, [.null, .int 0, .null, .null, .null, .null, .null])), (q_1, .inl (cA_1, 60, .inr (.inr (.inr (.inr (fun _ => none))))))] H := hP
  have hD : va_D A [(h, .inr (11, [.null, .int 0, .null, .null, .null, .null, .null])), (q_1, .inl (cA_1, 60, .inr (.inr (.inr (.inr (fun _ => none))))))] := hD
  have hK : va_K (dC, dI) vwCl [(cA_1, .object RX4)] s := hK
  refine va_putF (D := (dC, dI)) (ci := 11) (v := .ref q_1) (ty := tyX10 0) (C := RX10) (T := TX10) (N := 7) hx hb tX10 (fun _ h9 => h9) tyX10 tyX10_ok nmX10 hown hK hP hD hS 0 rfl rfl 0 (by decide) (htU _ u_400) (fun _ h9 => h9) rfl hin rfl (tyX10_ok 0 (by decide)) rfl rfl (Nat.le_of_ble_eq_true rfl) dX10_init_10 (fun H locs hP hD hS => ?_)
  have hP : va_P (dC, dI) vwCl [(h, .inr (11, [.ref q_1, .int 0, .null, .null, .null, .null, .null])), (q_1, .inl (cA_1, 60, .inr (.inr (.inr (.inr (fun _ => none))))))] H := hP
  have hD : va_D A [(h, .inr (11, [.ref q_1, .int 0, .null, .null, .null, .null, .null])), (q_1, .inl (cA_1, 60, .inr (.inr (.inr (.inr (fun _ => none))))))] := hD
  refine lv_aload_n hx hb dX10_init_13 rfl (lv_at hl 0 rfl) ?_
  refine lv_iconst (v := 0) hx hb dX10_init_14 (by decide) ?_
  refine va_put (D := (dC, dI)) (ci := 11) (v := .int 0) (ty := tyX10 1) (C := RX10) (T := TX10) (N := 7) hx hb tX10 (fun _ h9 => h9) tyX10 tyX10_ok nmX10 hown hK hP hD hS 0 rfl rfl 1 (by decide) (htU _ u_401) (fun _ h9 => h9) rfl (tyX10_ok 1 (by decide)) rfl rfl (Nat.le_of_ble_eq_true rfl) dX10_init_15 (fun H locs hP hD hS => ?_)
  have hP : va_P (dC, dI) vwCl [(h, .inr (11, [.ref q_1, .int 0, .null, .null, .null, .null, .null])), (q_1, .inl (cA_1, 60, .inr (.inr (.inr (.inr (fun _ => none))))))] H := hP
  have hD : va_D A [(h, .inr (11, [.ref q_1, .int 0, .null, .null, .null, .null, .null])), (q_1, .inl (cA_1, 60, .inr (.inr (.inr (.inr (fun _ => none))))))] := hD
  refine lv_aload_n hx hb dX10_init_18 rfl (lv_at hl 0 rfl) ?_
  refine va_new (ci := 10) (fs := [.int 0, .int 0, .int 0, .null]) (C := RX9) (T := TX9) (N := 4) hx hb tX9 (fun _ h9 => h9) tyX9 tyX9_ok hown (htU _ u_133) (htU _ u_134) (htU _ u_92) hK hP hD hS hA rfl (by first | decide +kernel | (intro j hj; match j, hj with | 0, _ => rfl | 1, _ => rfl | 2, _ => rfl | 3, _ => rfl | j + 4, hj => exact absurd hj (by omega))) (Nat.le_of_ble_eq_true rfl) (Nat.le_of_ble_eq_true rfl) dX10_init_19 (fun q_2 H hP hD hS => ?_)
  have hP : va_P (dC, dI) vwCl [(h, .inr (11, [.ref q_1, .int 0, .null, .null, .null, .null, .null])), (q_1, .inl (cA_1, 60, .inr (.inr (.inr (.inr (fun _ => none)))))), (q_2, .inr (10, [.int 0, .int 0, .int 0, .null]))] H := hP
  have hD : va_D A [(h, .inr (11, [.ref q_1, .int 0, .null, .null, .null, .null, .null])), (q_1, .inl (cA_1, 60, .inr (.inr (.inr (.inr (fun _ => none)))))), (q_2, .inr (10, [.int 0, .int 0, .int 0, .null]))] := hD
  refine lv_dup hx hb dX10_init_22 rfl ?_
  have hPc := hP.sub (ws' := [(q_2, .inr (10, [.int 0, .int 0, .int 0, .null]))]) [2] rfl
  have hDc := hD.sub (ws' := [(q_2, .inr (10, [.int 0, .int 0, .int 0, .null]))]) [2] (by decide) rfl
  have hKc := hK.sub (tys' := []) [] rfl
  have hFc := va_free (wc := [(q_2, .inr (10, [.int 0, .int 0, .int 0, .null]))]) hD hS hA [2] rfl
  refine va_callv (va_runI (As := []) (rest := [.ref q_2, .ref h]) ⟨hx, hb, hml, hown, htU⟩ (c_X9_init l hf dC dI ad sa q_2 H.size) (cwI 0 htU (gq_I u_137) rfl rfl rfl (htU _ u_92) (htU _ u_135) (htU _ u_136) rfl (by decide +kernel) ⟨(Nat.le_of_ble_eq_true rfl), (Nat.le_of_ble_eq_true rfl)⟩) ⟨(fun a U g mk q => by obtain ⟨q0, q1, qP, qK, qD, qG⟩ := q; exact ⟨q0, q1, qP, va_K.moved (u := U) (U := U.calling g mk a) (Vm.Alike.refl U.vm) qK, qD, GG.blind qG⟩), fun U hU hW => ⟨rfl, by rw [hU], by rw [hU]; exact hPc, va_K.moved hW.alike hKc, hDc.weaken (fun _ _ _ _ => trivial), GG.go hG hS hFc hU hW⟩⟩ rfl rfl hl.1 rfl (lv_room (Nat.le_of_ble_eq_true rfl)) dX10_init_23 ⟨(Nat.le_of_ble_eq_true rfl), (Nat.le_of_ble_eq_true rfl)⟩) hS (fun q _ h => hFc q h) hFc (fun u_4 t H locs ht hvm hw hB hz1 hk1 hS => ?_)
  obtain ⟨hP1, hK1, hD1⟩ := hB
  rw [ht] at hP1
  have hK1 := va_K.moved hvm.symm hK1
  try dsimp only at hw hP1 hK1 hD1
  have hK := (hK.sub (tys' := [(cA_1, .object RX4)]) [0] rfl).app hK1
  have hK : va_K (dC, dI) vwCl [(cA_1, .object RX4)] s := hK
  obtain ⟨hP, hD⟩ := va_join (wr := [(h, .inr (11, [.ref q_1, .int 0, .null, .null, .null, .null, .null])), (q_1, .inl (cA_1, 60, .inr (.inr (.inr (.inr (fun _ => none))))))]) (w1 := []) hP hD [2] [0, 1] rfl rfl (by decide) (by decide) hk1 hFc hP1 hD1
  have hP : va_P (dC, dI) vwCl [(h, .inr (11, [.ref q_1, .int 0, .null, .null, .null, .null, .null])), (q_1, .inl (cA_1, 60, .inr (.inr (.inr (.inr (fun _ => none))))))] H := hP
  have hD : va_D A [(h, .inr (11, [.ref q_1, .int 0, .null, .null, .null, .null, .null])), (q_1, .inl (cA_1, 60, .inr (.inr (.inr (.inr (fun _ => none))))))] := hD
  refine va_putF (D := (dC, dI)) (ci := 11) (v := .ref q_2) (ty := tyX10 2) (C := RX10) (T := TX10) (N := 7) hx hb tX10 (fun _ h9 => h9) tyX10 tyX10_ok nmX10 hown hK hP hD hS 0 rfl rfl 2 (by decide) (htU _ u_402) (fun _ h9 => h9) rfl hin rfl (tyX10_ok 2 (by decide)) rfl rfl (Nat.le_of_ble_eq_true rfl) dX10_init_26 (fun H locs hP hD hS => ?_)
  have hP : va_P (dC, dI) vwCl [(h, .inr (11, [.ref q_1, .int 0, .ref q_2, .null, .null, .null, .null])), (q_1, .inl (cA_1, 60, .inr (.inr (.inr (.inr (fun _ => none))))))] H := hP
  have hD : va_D A [(h, .inr (11, [.ref q_1, .int 0, .ref q_2, .null, .null, .null, .null])), (q_1, .inl (cA_1, 60, .inr (.inr (.inr (.inr (fun _ => none))))))] := hD
  refine lv_aload_n hx hb dX10_init_29 rfl (lv_at hl 0 rfl) ?_
  refine va_new (ci := 7) (fs := [.null, .null, .null, .int 0, .int 0, .int 0]) (C := RX6) (T := TX6) (N := 6) hx hb tX6 (fun _ h9 => h9) tyX6 tyX6_ok hown (htU _ u_154) (htU _ u_155) (htU _ u_93) hK hP hD hS hA rfl (by first | decide +kernel | (intro j hj; match j, hj with | 0, _ => rfl | 1, _ => rfl | 2, _ => rfl | 3, _ => rfl | 4, _ => rfl | 5, _ => rfl | j + 6, hj => exact absurd hj (by omega))) (Nat.le_of_ble_eq_true rfl) (Nat.le_of_ble_eq_true rfl) dX10_init_30 (fun q_5 H hP hD hS => ?_)
  have hP : va_P (dC, dI) vwCl [(h, .inr (11, [.ref q_1, .int 0, .ref q_2, .null, .null, .null, .null])), (q_1, .inl (cA_1, 60, .inr (.inr (.inr (.inr (fun _ => none)))))), (q_5, .inr (7, [.null, .null, .null, .int 0, .int 0, .int 0]))] H := hP
  have hD : va_D A [(h, .inr (11, [.ref q_1, .int 0, .ref q_2, .null, .null, .null, .null])), (q_1, .inl (cA_1, 60, .inr (.inr (.inr (.inr (fun _ => none)))))), (q_5, .inr (7, [.null, .null, .null, .int 0, .int 0, .int 0]))] := hD
  refine lv_dup hx hb dX10_init_33 rfl ?_
  refine lv_aload_n hx hb dX10_init_34 rfl (lv_at hl 0 rfl) ?_
  refine va_get (D := (dC, dI)) (ci := 11) (v := .ref q_2) (C := RX10) (T := TX10) (N := 7) hx hb tX10 (fun _ h9 => h9) hown hK hP 0 rfl rfl 2 (by decide) (htU _ u_402) (fun _ h9 => h9) rfl dX10_init_35 ?_
  have hPc := hP.sub (ws' := [(q_5, .inr (7, [.null, .null, .null, .int 0, .int 0, .int 0]))]) [2] rfl
  have hDc := hD.sub (ws' := [(q_5, .inr (7, [.null, .null, .null, .int 0, .int 0, .int 0]))]) [2] (by decide) rfl
  have hKc := hK.sub (tys' := []) [] rfl
  have hFc := va_free (wc := [(q_5, .inr (7, [.null, .null, .null, .int 0, .int 0, .int 0]))]) hD hS hA [2] rfl
  refine va_callv (va_runI (As := [.ref q_2]) (rest := [.ref q_5, .ref h]) ⟨hx, hb, hml, hown, htU⟩ (c_X6_init l hf dC dI ad sa q_5 q_2 H.size) (cwI 1 htU (gq_I u_158) rfl rfl rfl (htU _ u_93) (htU _ u_156) (htU _ u_157) rfl (by decide +kernel) ⟨(Nat.le_of_ble_eq_true rfl), (Nat.le_of_ble_eq_true rfl)⟩) ⟨(fun a U g mk q => by obtain ⟨q0, q1, qP, qK, qD, qG⟩ := q; exact ⟨q0, q1, qP, va_K.moved (u := U) (U := U.calling g mk a) (Vm.Alike.refl U.vm) qK, qD, GG.blind qG⟩), fun U hU hW => ⟨rfl, by rw [hU], by rw [hU]; exact hPc, va_K.moved hW.alike hKc, hDc.weaken (fun _ _ _ _ => trivial), GG.go hG hS hFc hU hW⟩⟩ rfl rfl hl.1 rfl (lv_room (Nat.le_of_ble_eq_true rfl)) dX10_init_38 ⟨(Nat.le_of_ble_eq_true rfl), (Nat.le_of_ble_eq_true rfl)⟩) hS (fun q _ h => hFc q h) hFc (fun u_7 t H locs ht hvm hw hB hz1 hk1 hS => ?_)
  obtain ⟨hP1, hK1, hD1⟩ := hB
  rw [ht] at hP1
  have hK1 := va_K.moved hvm.symm hK1
  try dsimp only at hw hP1 hK1 hD1
  have hK := (hK.sub (tys' := [(cA_1, .object RX4)]) [0] rfl).app hK1
  have hK : va_K (dC, dI) vwCl [(cA_1, .object RX4)] s := hK
  obtain ⟨hP, hD⟩ := va_join (wr := [(h, .inr (11, [.ref q_1, .int 0, .ref q_2, .null, .null, .null, .null])), (q_1, .inl (cA_1, 60, .inr (.inr (.inr (.inr (fun _ => none))))))]) (w1 := []) hP hD [2] [0, 1] rfl rfl (by decide) (by decide) hk1 hFc hP1 hD1
  have hP : va_P (dC, dI) vwCl [(h, .inr (11, [.ref q_1, .int 0, .ref q_2, .null, .null, .null, .null])), (q_1, .inl (cA_1, 60, .inr (.inr (.inr (.inr (fun _ => none))))))] H := hP
  have hD : va_D A [(h, .inr (11, [.ref q_1, .int 0, .ref q_2, .null, .null, .null, .null])), (q_1, .inl (cA_1, 60, .inr (.inr (.inr (.inr (fun _ => none))))))] := hD
  refine va_putF (D := (dC, dI)) (ci := 11) (v := .ref q_5) (ty := tyX10 3) (C := RX10) (T := TX10) (N := 7) hx hb tX10 (fun _ h9 => h9) tyX10 tyX10_ok nmX10 hown hK hP hD hS 0 rfl rfl 3 (by decide) (htU _ u_403) (fun _ h9 => h9) rfl hin rfl (tyX10_ok 3 (by decide)) rfl rfl (Nat.le_of_ble_eq_true rfl) dX10_init_41 (fun H locs hP hD hS => ?_)
  have hP : va_P (dC, dI) vwCl [(h, .inr (11, [.ref q_1, .int 0, .ref q_2, .ref q_5, .null, .null, .null])), (q_1, .inl (cA_1, 60, .inr (.inr (.inr (.inr (fun _ => none))))))] H := hP
  have hD : va_D A [(h, .inr (11, [.ref q_1, .int 0, .ref q_2, .ref q_5, .null, .null, .null])), (q_1, .inl (cA_1, 60, .inr (.inr (.inr (.inr (fun _ => none))))))] := hD
  refine lv_aload_n hx hb dX10_init_44 rfl (lv_at hl 0 rfl) ?_
  refine va_new (ci := 3) (fs := [.null, .null, .int 0, .int 0, .int 0, .int 0, .int 0]) (C := RX1) (T := TX1) (N := 7) hx hb tX1 (fun _ h9 => h9) tyX1 tyX1_ok hown (htU _ u_279) (htU _ u_280) (htU _ u_96) hK hP hD hS hA rfl (by first | decide +kernel | (intro j hj; match j, hj with | 0, _ => rfl | 1, _ => rfl | 2, _ => rfl | 3, _ => rfl | 4, _ => rfl | 5, _ => rfl | 6, _ => rfl | j + 7, hj => exact absurd hj (by omega))) (Nat.le_of_ble_eq_true rfl) (Nat.le_of_ble_eq_true rfl) dX10_init_45 (fun q_8 H hP hD hS => ?_)
  have hP : va_P (dC, dI) vwCl [(h, .inr (11, [.ref q_1, .int 0, .ref q_2, .ref q_5, .null, .null, .null])), (q_1, .inl (cA_1, 60, .inr (.inr (.inr (.inr (fun _ => none)))))), (q_8, .inr (3, [.null, .null, .int 0, .int 0, .int 0, .int 0, .int 0]))] H := hP
  have hD : va_D A [(h, .inr (11, [.ref q_1, .int 0, .ref q_2, .ref q_5, .null, .null, .null])), (q_1, .inl (cA_1, 60, .inr (.inr (.inr (.inr (fun _ => none)))))), (q_8, .inr (3, [.null, .null, .int 0, .int 0, .int 0, .int 0, .int 0]))] := hD
  refine lv_dup hx hb dX10_init_48 rfl ?_
  refine lv_aload_n hx hb dX10_init_49 rfl (lv_at hl 0 rfl) ?_
  refine va_get (D := (dC, dI)) (ci := 11) (v := .ref q_2) (C := RX10) (T := TX10) (N := 7) hx hb tX10 (fun _ h9 => h9) hown hK hP 0 rfl rfl 2 (by decide) (htU _ u_402) (fun _ h9 => h9) rfl dX10_init_50 ?_
  have hPc := hP.sub (ws' := [(q_8, .inr (3, [.null, .null, .int 0, .int 0, .int 0, .int 0, .int 0]))]) [2] rfl
  have hDc := hD.sub (ws' := [(q_8, .inr (3, [.null, .null, .int 0, .int 0, .int 0, .int 0, .int 0]))]) [2] (by decide) rfl
  have hKc := hK.sub (tys' := []) [] rfl
  have hFc := va_free (wc := [(q_8, .inr (3, [.null, .null, .int 0, .int 0, .int 0, .int 0, .int 0]))]) hD hS hA [2] rfl
  refine va_callv (va_runI (As := [.ref q_2]) (rest := [.ref q_8, .ref h]) ⟨hx, hb, hml, hown, htU⟩ (c_X1_init l hf dC dI ad sa q_8 q_2 H.size) (cwI 1 htU (gq_I u_283) rfl rfl rfl (htU _ u_96) (htU _ u_281) (htU _ u_282) rfl (by decide +kernel) ⟨(Nat.le_of_ble_eq_true rfl), (Nat.le_of_ble_eq_true rfl)⟩) ⟨(fun a U g mk q => by obtain ⟨q0, q1, qP, qK, qD, qG⟩ := q; exact ⟨q0, q1, qP, va_K.moved (u := U) (U := U.calling g mk a) (Vm.Alike.refl U.vm) qK, qD, GG.blind qG⟩), fun U hU hW => ⟨rfl, by rw [hU], by rw [hU]; exact hPc, va_K.moved hW.alike hKc, hDc.weaken (fun _ _ _ _ => trivial), GG.go hG hS hFc hU hW⟩⟩ rfl rfl hl.1 rfl (lv_room (Nat.le_of_ble_eq_true rfl)) dX10_init_53 ⟨(Nat.le_of_ble_eq_true rfl), (Nat.le_of_ble_eq_true rfl)⟩) hS (fun q _ h => hFc q h) hFc (fun u_10 t H locs ht hvm hw hB hz1 hk1 hS => ?_)
  obtain ⟨hP1, hK1, hD1⟩ := hB
  rw [ht] at hP1
  have hK1 := va_K.moved hvm.symm hK1
  try dsimp only at hw hP1 hK1 hD1
  have hK := (hK.sub (tys' := [(cA_1, .object RX4)]) [0] rfl).app hK1
  have hK : va_K (dC, dI) vwCl [(cA_1, .object RX4)] s := hK
  obtain ⟨hP, hD⟩ := va_join (wr := [(h, .inr (11, [.ref q_1, .int 0, .ref q_2, .ref q_5, .null, .null, .null])), (q_1, .inl (cA_1, 60, .inr (.inr (.inr (.inr (fun _ => none))))))]) (w1 := []) hP hD [2] [0, 1] rfl rfl (by decide) (by decide) hk1 hFc hP1 hD1
  have hP : va_P (dC, dI) vwCl [(h, .inr (11, [.ref q_1, .int 0, .ref q_2, .ref q_5, .null, .null, .null])), (q_1, .inl (cA_1, 60, .inr (.inr (.inr (.inr (fun _ => none))))))] H := hP
  have hD : va_D A [(h, .inr (11, [.ref q_1, .int 0, .ref q_2, .ref q_5, .null, .null, .null])), (q_1, .inl (cA_1, 60, .inr (.inr (.inr (.inr (fun _ => none))))))] := hD
  refine va_putF (D := (dC, dI)) (ci := 11) (v := .ref q_8) (ty := tyX10 4) (C := RX10) (T := TX10) (N := 7) hx hb tX10 (fun _ h9 => h9) tyX10 tyX10_ok nmX10 hown hK hP hD hS 0 rfl rfl 4 (by decide) (htU _ u_404) (fun _ h9 => h9) rfl hin rfl (tyX10_ok 4 (by decide)) rfl rfl (Nat.le_of_ble_eq_true rfl) dX10_init_56 (fun H locs hP hD hS => ?_)
  have hP : va_P (dC, dI) vwCl [(h, .inr (11, [.ref q_1, .int 0, .ref q_2, .ref q_5, .ref q_8, .null, .null])), (q_1, .inl (cA_1, 60, .inr (.inr (.inr (.inr (fun _ => none))))))] H := hP
  have hD : va_D A [(h, .inr (11, [.ref q_1, .int 0, .ref q_2, .ref q_5, .ref q_8, .null, .null])), (q_1, .inl (cA_1, 60, .inr (.inr (.inr (.inr (fun _ => none))))))] := hD
  refine lv_aload_n hx hb dX10_init_59 rfl (lv_at hl 0 rfl) ?_
  refine va_new (ci := 6) (fs := [.int 0, .null, .null, .null, .null]) (C := RX5) (T := TX5) (N := 5) hx hb tX5 (fun _ h9 => h9) tyX5 tyX5_ok hown (htU _ u_375) (htU _ u_376) (htU _ u_99) hK hP hD hS hA rfl (by first | decide +kernel | (intro j hj; match j, hj with | 0, _ => rfl | 1, _ => rfl | 2, _ => rfl | 3, _ => rfl | 4, _ => rfl | j + 5, hj => exact absurd hj (by omega))) (Nat.le_of_ble_eq_true rfl) (Nat.le_of_ble_eq_true rfl) dX10_init_60 (fun q_11 H hP hD hS => ?_)
  have hP : va_P (dC, dI) vwCl [(h, .inr (11, [.ref q_1, .int 0, .ref q_2, .ref q_5, .ref q_8, .null, .null])), (q_1, .inl (cA_1, 60, .inr (.inr (.inr (.inr (fun _ => none)))))), (q_11, .inr (6, [.int 0, .null, .null, .null, .null]))] H := hP
  have hD : va_D A [(h, .inr (11, [.ref q_1, .int 0, .ref q_2, .ref q_5, .ref q_8, .null, .null])), (q_1, .inl (cA_1, 60, .inr (.inr (.inr (.inr (fun _ => none)))))), (q_11, .inr (6, [.int 0, .null, .null, .null, .null]))] := hD
  refine lv_dup hx hb dX10_init_63 rfl ?_
  have hPc := hP.sub (ws' := [(q_11, .inr (6, [.int 0, .null, .null, .null, .null]))]) [2] rfl
  have hDc := hD.sub (ws' := [(q_11, .inr (6, [.int 0, .null, .null, .null, .null]))]) [2] (by decide) rfl
  have hKc := hK.sub (tys' := []) [] rfl
  have hFc := va_free (wc := [(q_11, .inr (6, [.int 0, .null, .null, .null, .null]))]) hD hS hA [2] rfl
  refine va_callv (va_runI (As := []) (rest := [.ref q_11, .ref h]) ⟨hx, hb, hml, hown, htU⟩ (c_X5_init l hf dC dI ad sa q_11 H.size) (cwI 0 htU (gq_I u_379) rfl rfl rfl (htU _ u_99) (htU _ u_377) (htU _ u_378) rfl (by decide +kernel) ⟨(Nat.le_of_ble_eq_true rfl), (Nat.le_of_ble_eq_true rfl)⟩) ⟨(fun a U g mk q => by obtain ⟨q0, q1, qP, qK, qD, qG⟩ := q; exact ⟨q0, q1, qP, va_K.moved (u := U) (U := U.calling g mk a) (Vm.Alike.refl U.vm) qK, qD, GG.blind qG⟩), fun U hU hW => ⟨rfl, by rw [hU], by rw [hU]; exact hPc, va_K.moved hW.alike hKc, hDc.weaken (fun _ _ _ _ => trivial), GG.go hG hS hFc hU hW⟩⟩ rfl rfl hl.1 rfl (lv_room (Nat.le_of_ble_eq_true rfl)) dX10_init_64 ⟨(Nat.le_of_ble_eq_true rfl), (Nat.le_of_ble_eq_true rfl)⟩) hS (fun q _ h => hFc q h) hFc (fun u_13 t H locs ht hvm hw hB hz1 hk1 hS => ?_)
  obtain ⟨hP1, hK1, hD1⟩ := hB
  rw [ht] at hP1
  have hK1 := va_K.moved hvm.symm hK1
  try dsimp only at hw hP1 hK1 hD1
  have hK := (hK.sub (tys' := [(cA_1, .object RX4)]) [0] rfl).app hK1
  have hK : va_K (dC, dI) vwCl [(cA_1, .object RX4)] s := hK
  obtain ⟨hP, hD⟩ := va_join (wr := [(h, .inr (11, [.ref q_1, .int 0, .ref q_2, .ref q_5, .ref q_8, .null, .null])), (q_1, .inl (cA_1, 60, .inr (.inr (.inr (.inr (fun _ => none))))))]) (w1 := []) hP hD [2] [0, 1] rfl rfl (by decide) (by decide) hk1 hFc hP1 hD1
  have hP : va_P (dC, dI) vwCl [(h, .inr (11, [.ref q_1, .int 0, .ref q_2, .ref q_5, .ref q_8, .null, .null])), (q_1, .inl (cA_1, 60, .inr (.inr (.inr (.inr (fun _ => none))))))] H := hP
  have hD : va_D A [(h, .inr (11, [.ref q_1, .int 0, .ref q_2, .ref q_5, .ref q_8, .null, .null])), (q_1, .inl (cA_1, 60, .inr (.inr (.inr (.inr (fun _ => none))))))] := hD
  refine va_putF (D := (dC, dI)) (ci := 11) (v := .ref q_11) (ty := tyX10 5) (C := RX10) (T := TX10) (N := 7) hx hb tX10 (fun _ h9 => h9) tyX10 tyX10_ok nmX10 hown hK hP hD hS 0 rfl rfl 5 (by decide) (htU _ u_405) (fun _ h9 => h9) rfl hin rfl (tyX10_ok 5 (by decide)) rfl rfl (Nat.le_of_ble_eq_true rfl) dX10_init_67 (fun H locs hP hD hS => ?_)
  have hP : va_P (dC, dI) vwCl [(h, .inr (11, [.ref q_1, .int 0, .ref q_2, .ref q_5, .ref q_8, .ref q_11, .null])), (q_1, .inl (cA_1, 60, .inr (.inr (.inr (.inr (fun _ => none))))))] H := hP
  have hD : va_D A [(h, .inr (11, [.ref q_1, .int 0, .ref q_2, .ref q_5, .ref q_8, .ref q_11, .null])), (q_1, .inl (cA_1, 60, .inr (.inr (.inr (.inr (fun _ => none))))))] := hD
  refine lv_aload_n hx hb dX10_init_70 rfl (lv_at hl 0 rfl) ?_
  refine va_new (ci := 8) (fs := [.int 0, .int 0, .int 0, .int 0, .long 0, .int 0, .int 0, .null, .null, .null, .null, .int 0, .null, .null, .null]) (C := RX7) (T := TX7) (N := 15) hx hb tX7 (fun _ h9 => h9) tyX7 tyX7_ok hown (htU _ u_398) (htU _ u_286) (htU _ u_97) hK hP hD hS hA rfl (by first | decide +kernel | (intro j hj; match j, hj with | 0, _ => rfl | 1, _ => rfl | 2, _ => rfl | 3, _ => rfl | 4, _ => rfl | 5, _ => rfl | 6, _ => rfl | 7, _ => rfl | 8, _ => rfl | 9, _ => rfl | 10, _ => rfl | 11, _ => rfl | 12, _ => rfl | 13, _ => rfl | 14, _ => rfl | j + 15, hj => exact absurd hj (by omega))) (Nat.le_of_ble_eq_true rfl) (Nat.le_of_ble_eq_true rfl) dX10_init_71 (fun q_14 H hP hD hS => ?_)
  have hP : va_P (dC, dI) vwCl [(h, .inr (11, [.ref q_1, .int 0, .ref q_2, .ref q_5, .ref q_8, .ref q_11, .null])), (q_1, .inl (cA_1, 60, .inr (.inr (.inr (.inr (fun _ => none)))))), (q_14, .inr (8, [.int 0, .int 0, .int 0, .int 0, .long 0, .int 0, .int 0, .null, .null, .null, .null, .int 0, .null, .null, .null]))] H := hP
  have hD : va_D A [(h, .inr (11, [.ref q_1, .int 0, .ref q_2, .ref q_5, .ref q_8, .ref q_11, .null])), (q_1, .inl (cA_1, 60, .inr (.inr (.inr (.inr (fun _ => none)))))), (q_14, .inr (8, [.int 0, .int 0, .int 0, .int 0, .long 0, .int 0, .int 0, .null, .null, .null, .null, .int 0, .null, .null, .null]))] := hD
  refine lv_dup hx hb dX10_init_74 rfl ?_
  have hPc := hP.sub (ws' := [(q_14, .inr (8, [.int 0, .int 0, .int 0, .int 0, .long 0, .int 0, .int 0, .null, .null, .null, .null, .int 0, .null, .null, .null]))]) [2] rfl
  have hDc := hD.sub (ws' := [(q_14, .inr (8, [.int 0, .int 0, .int 0, .int 0, .long 0, .int 0, .int 0, .null, .null, .null, .null, .int 0, .null, .null, .null]))]) [2] (by decide) rfl
  have hKc := hK.sub (tys' := []) [] rfl
  have hFc := va_free (wc := [(q_14, .inr (8, [.int 0, .int 0, .int 0, .int 0, .long 0, .int 0, .int 0, .null, .null, .null, .null, .int 0, .null, .null, .null]))]) hD hS hA [2] rfl
  refine va_callv (va_runI (As := []) (rest := [.ref q_14, .ref h]) ⟨hx, hb, hml, hown, htU⟩ (c_X7_init l hf dC dI ad sa q_14 H.size) (cwI 0 htU (gq_I u_289) rfl rfl rfl (htU _ u_97) (htU _ u_399) (htU _ u_288) rfl (by decide +kernel) ⟨(Nat.le_of_ble_eq_true rfl), (Nat.le_of_ble_eq_true rfl)⟩) ⟨(fun a U g mk q => by obtain ⟨q0, q1, qP, qK, qD, qG⟩ := q; exact ⟨q0, q1, qP, va_K.moved (u := U) (U := U.calling g mk a) (Vm.Alike.refl U.vm) qK, qD, GG.blind qG⟩), fun U hU hW => ⟨rfl, by rw [hU], by rw [hU]; exact hPc, va_K.moved hW.alike hKc, hDc.weaken (fun _ _ _ _ => trivial), GG.go hG hS hFc hU hW⟩⟩ rfl rfl hl.1 rfl (lv_room (Nat.le_of_ble_eq_true rfl)) dX10_init_75 ⟨(Nat.le_of_ble_eq_true rfl), (Nat.le_of_ble_eq_true rfl)⟩) hS (fun q _ h => hFc q h) hFc (fun u_16 t H locs ht hvm hw hB hz1 hk1 hS => ?_)
  obtain ⟨hP1, hK1, hD1⟩ := hB
  rw [ht] at hP1
  have hK1 := va_K.moved hvm.symm hK1
  try dsimp only at hw hP1 hK1 hD1
  have hK := (hK.sub (tys' := [(cA_1, .object RX4)]) [0] rfl).app hK1
  have hK : va_K (dC, dI) vwCl [(cA_1, .object RX4)] s := hK
  obtain ⟨hP, hD⟩ := va_join (wr := [(h, .inr (11, [.ref q_1, .int 0, .ref q_2, .ref q_5, .ref q_8, .ref q_11, .null])), (q_1, .inl (cA_1, 60, .inr (.inr (.inr (.inr (fun _ => none))))))]) (w1 := [(q_14, .inr (8, [.int 0, .int 0, .int 0, .int 0, .long 0, .int 0, .int 0, .ref (u_16 7), .ref (u_16 8), .ref (u_16 9), .ref (u_16 10), .int 0, .ref (u_16 12), .ref (u_16 13), .ref (u_16 14)]))]) hP hD [2] [0, 1] rfl rfl (by decide) (by decide) hk1 hFc hP1 hD1
  have hP : va_P (dC, dI) vwCl [(h, .inr (11, [.ref q_1, .int 0, .ref q_2, .ref q_5, .ref q_8, .ref q_11, .null])), (q_1, .inl (cA_1, 60, .inr (.inr (.inr (.inr (fun _ => none)))))), (q_14, .inr (8, [.int 0, .int 0, .int 0, .int 0, .long 0, .int 0, .int 0, .ref (u_16 7), .ref (u_16 8), .ref (u_16 9), .ref (u_16 10), .int 0, .ref (u_16 12), .ref (u_16 13), .ref (u_16 14)]))] H := hP
  have hD : va_D A [(h, .inr (11, [.ref q_1, .int 0, .ref q_2, .ref q_5, .ref q_8, .ref q_11, .null])), (q_1, .inl (cA_1, 60, .inr (.inr (.inr (.inr (fun _ => none)))))), (q_14, .inr (8, [.int 0, .int 0, .int 0, .int 0, .long 0, .int 0, .int 0, .ref (u_16 7), .ref (u_16 8), .ref (u_16 9), .ref (u_16 10), .int 0, .ref (u_16 12), .ref (u_16 13), .ref (u_16 14)]))] := hD
  refine va_put (D := (dC, dI)) (ci := 11) (v := .ref q_14) (ty := tyX10 6) (C := RX10) (T := TX10) (N := 7) hx hb tX10 (fun _ h9 => h9) tyX10 tyX10_ok nmX10 hown hK hP hD hS 0 rfl rfl 6 (by decide) (htU _ u_406) (fun _ h9 => h9) rfl (tyX10_ok 6 (by decide)) rfl rfl (Nat.le_of_ble_eq_true rfl) dX10_init_78 (fun H locs hP hD hS => ?_)
  have hP : va_P (dC, dI) vwCl [(h, .inr (11, [.ref q_1, .int 0, .ref q_2, .ref q_5, .ref q_8, .ref q_11, .ref q_14])), (q_1, .inl (cA_1, 60, .inr (.inr (.inr (.inr (fun _ => none)))))), (q_14, .inr (8, [.int 0, .int 0, .int 0, .int 0, .long 0, .int 0, .int 0, .ref (u_16 7), .ref (u_16 8), .ref (u_16 9), .ref (u_16 10), .int 0, .ref (u_16 12), .ref (u_16 13), .ref (u_16 14)]))] H := hP
  have hD : va_D A [(h, .inr (11, [.ref q_1, .int 0, .ref q_2, .ref q_5, .ref q_8, .ref q_11, .ref q_14])), (q_1, .inl (cA_1, 60, .inr (.inr (.inr (.inr (fun _ => none)))))), (q_14, .inr (8, [.int 0, .int 0, .int 0, .int 0, .long 0, .int 0, .int 0, .ref (u_16 7), .ref (u_16 8), .ref (u_16 9), .ref (u_16 10), .int 0, .ref (u_16 12), .ref (u_16 13), .ref (u_16 14)]))] := hD
  have hP9 := hP.sub (ws' := [(h, .inr (11, [.ref q_1, .int 0, .ref q_2, .ref q_5, .ref q_8, .ref q_11, .ref q_14])), (q_1, .inl (cA_1, 60, .inr (.inr (.inr (.inr (fun _ => none)))))), (q_14, .inr (8, [.int 0, .int 0, .int 0, .int 0, .long 0, .int 0, .int 0, .ref (u_16 7), .ref (u_16 8), .ref (u_16 9), .ref (u_16 10), .int 0, .ref (u_16 12), .ref (u_16 13), .ref (u_16 14)]))]) [0, 1, 2] rfl
  have hD9 := hD.sub (ws' := [(h, .inr (11, [.ref q_1, .int 0, .ref q_2, .ref q_5, .ref q_8, .ref q_11, .ref q_14])), (q_1, .inl (cA_1, 60, .inr (.inr (.inr (.inr (fun _ => none)))))), (q_14, .inr (8, [.int 0, .int 0, .int 0, .int 0, .long 0, .int 0, .int 0, .ref (u_16 7), .ref (u_16 8), .ref (u_16 9), .ref (u_16 10), .int 0, .ref (u_16 12), .ref (u_16 13), .ref (u_16 14)]))]) [0, 1, 2] (by decide) rfl
  have hK9 := hK.sub (tys' := [(cA_1, .object RX4)]) [0] rfl
  refine W.widen (k := 44) (n := 1592) (Nat.le_of_ble_eq_true rfl) (Nat.le_of_ble_eq_true rfl) ?_
  exact W.vret hx hb hr (fun t ht hW => ⟨⟨((fun k => match k with | 0 => q_1 | 2 => q_2 | 3 => q_5 | 4 => q_8 | 5 => q_11 | 6 => q_14 | _ => 0), (fun k => match k with | 7 => u_16 7 | 8 => u_16 8 | 9 => u_16 9 | 10 => u_16 10 | 12 => u_16 12 | 13 => u_16 13 | 14 => u_16 14 | _ => 0), cA_1), rfl, trivial, ⟨by rw [ht]; exact hP9, va_K.moved hW.alike hK9, hD9⟩⟩, hS.F ht⟩) hS.2.2 dX10_init_81
