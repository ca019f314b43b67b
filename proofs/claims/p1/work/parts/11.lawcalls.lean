set_option maxHeartbeats 4000000 in
set_option maxRecDepth 100000 in
/-- the law's text -/
theorem c_L_text (l : Launch) (hf : l.stackTraces = false) (dC : Nat → ClassId) (dI : Nat → Nat → Nat) (ad sa : Nat → Nat) (h : Nat) (v : Nat → Nat) (us : Nat → Nat) (cN : ClassId) (o : Nat) (cL : ClassId) (p0 : Int32) (p1 : Int32) (sz : Nat) : vx_Met l yL_text wq_L_text ({ frames := 12, cells := 3, slots := 27, locals := 286 }) (va_Pc [.ref h, .int p0, .int p1, .ref o] (fun U => U.heap.size = sz ∧ va_P (dC, dI) vwCl [(h, .inr (11, [.ref (v 0), .int 0, .ref (v 2), .ref (v 3), .ref (v 4), .ref (v 5), .ref (v 6)])), (v 0, .inl (cN, 60, .inr (.inr (.inr (.inr (fun _ => none)))))), (v 6, .inr (8, [.int 0, .int 0, .int 0, .int 0, .long 0, .int 0, .int 0, .ref (us 7), .ref (us 8), .ref (us 9), .ref (us 10), .int 0, .ref (us 12), .ref (us 13), .ref (us 14)])), (o, .inl (cL, 1, .inr (.inl (fun _ => 0))))] U.heap ∧ va_K (dC, dI) vwCl [(cN, .object RX4), (cL, .long)] U ∧ va_D (fun _ => True) [(h, .inr (11, [.ref (v 0), .int 0, .ref (v 2), .ref (v 3), .ref (v 4), .ref (v 5), .ref (v 6)])), (v 0, .inl (cN, 60, .inr (.inr (.inr (.inr (fun _ => none)))))), (v 6, .inr (8, [.int 0, .int 0, .int 0, .int 0, .long 0, .int 0, .int 0, .ref (us 7), .ref (us 8), .ref (us 9), .ref (us 10), .int 0, .ref (us 12), .ref (us 13), .ref (us 14)])), (o, .inl (cL, 1, .inr (.inl (fun _ => 0))))] ∧ GG (va_A [(h, .inr (11, [.ref (v 0), .int 0, .ref (v 2), .ref (v 3), .ref (v 4), .ref (v 5), .ref (v 6)])), (v 0, .inl (cN, 60, .inr (.inr (.inr (.inr (fun _ => none)))))), (v 6, .inr (8, [.int 0, .int 0, .int 0, .int 0, .long 0, .int 0, .int 0, .ref (us 7), .ref (us 8), .ref (us 9), .ref (us 10), .int 0, .ref (us 12), .ref (us 13), .ref (us 14)])), (o, .inl (cL, 1, .inr (.inl (fun _ => 0))))] sz) ad sa U U.heap)) (va_Qi (fun (r : Int32) (u : Nat → Int64) => r = kIf ((0 ≤ p0 ∧ p0 ≤ 25) ∧ (1 ≤ p1 ∧ p1 ≤ 20)) ∧ u 0 = 0) (fun (u : Nat → Int64) t => va_P (dC, dI) vwCl [(o, .inl (cL, 1, .inr (.inl u)))] t.heap ∧ va_K (dC, dI) vwCl [(cL, .long)] t ∧ va_D (va_A [(h, .inr (11, [.ref (v 0), .int 0, .ref (v 2), .ref (v 3), .ref (v 4), .ref (v 5), .ref (v 6)])), (v 0, .inl (cN, 60, .inr (.inr (.inr (.inr (fun _ => none)))))), (v 6, .inr (8, [.int 0, .int 0, .int 0, .int 0, .long 0, .int 0, .int 0, .ref (us 7), .ref (us 8), .ref (us 9), .ref (us 10), .int 0, .ref (us 12), .ref (us 13), .ref (us 14)])), (o, .inl (cL, 1, .inr (.inl (fun _ => 0))))] sz) [(o, .inl (cL, 1, .inr (.inl u)))]) (va_A [(h, .inr (11, [.ref (v 0), .int 0, .ref (v 2), .ref (v 3), .ref (v 4), .ref (v 5), .ref (v 6)])), (v 0, .inl (cN, 60, .inr (.inr (.inr (.inr (fun _ => none)))))), (v 6, .inr (8, [.int 0, .int 0, .int 0, .int 0, .long 0, .int 0, .int 0, .ref (us 7), .ref (us 8), .ref (us 9), .ref (us 10), .int 0, .ref (us 12), .ref (us 13), .ref (us 14)])), (o, .inl (cL, 1, .inr (.inl (fun _ => 0))))] sz)) (vx_X (fun _ : Unit => True) (fun _ _ _ => False) (va_A [(h, .inr (11, [.ref (v 0), .int 0, .ref (v 2), .ref (v 3), .ref (v 4), .ref (v 5), .ref (v 6)])), (v 0, .inl (cN, 60, .inr (.inr (.inr (.inr (fun _ => none)))))), (v 6, .inr (8, [.int 0, .int 0, .int 0, .int 0, .long 0, .int 0, .int 0, .ref (us 7), .ref (us 8), .ref (us 9), .ref (us 10), .int 0, .ref (us 12), .ref (us 13), .ref (us 14)])), (o, .inl (cL, 1, .inr (.inl (fun _ => 0))))] sz)) 3 27 (va_A [(h, .inr (11, [.ref (v 0), .int 0, .ref (v 2), .ref (v 3), .ref (v 4), .ref (v 5), .ref (v 6)])), (v 0, .inl (cN, 60, .inr (.inr (.inr (.inr (fun _ => none)))))), (v 6, .inr (8, [.int 0, .int 0, .int 0, .int 0, .long 0, .int 0, .int 0, .ref (us 7), .ref (us 8), .ref (us 9), .ref (us 10), .int 0, .ref (us 12), .ref (us 13), .ref (us 14)])), (o, .inl (cL, 1, .inr (.inl (fun _ => 0))))] sz) := by
  refine vx_ofWH (cc := cL_text) (maxL := 5) (ret := (some .int)) (hh :=  [(0, 10, 13, 13), (0, 10, 17, 15)]) (by decide) rfl ?_
  intro p e s m args below meth c s₁ B hml hv
  obtain ⟨rfl, hsz, hP, hK, hD0, hG⟩ := hv
  have hx := B.exec
  have hb := B.bytes
  have hr := B.returns
  have hts := atoms_spec (ws := wq_L_text) B.pre
  have htU : ∀ w ∈ UW, w.before _ s = true := fun w h => hts w (List.mem_cons_of_mem _ h)
  have hown : s.vm.findClass RL = some m.cls := findClass_of_methodNamed B.named
  have hlocks := B.notSynchronized
  have hT : c.exceptionTable.toList = tableOf  [(0, 10, 13, 13), (0, 10, 17, 15)] := vx_table (x := yL_text) B (hts _ List.mem_cons_self)
  subst hsz
  have hD := hD0.self (sz := s.heap.size)
  generalize hAe : va_A [(h, .inr (11, [.ref (v 0), .int 0, .ref (v 2), .ref (v 3), .ref (v 4), .ref (v 5), .ref (v 6)])), (v 0, .inl (cN, 60, .inr (.inr (.inr (.inr (fun _ => none)))))), (v 6, .inr (8, [.int 0, .int 0, .int 0, .int 0, .long 0, .int 0, .int 0, .ref (us 7), .ref (us 8), .ref (us 9), .ref (us 10), .int 0, .ref (us 12), .ref (us 13), .ref (us 14)])), (o, .inl (cL, 1, .inr (.inl (fun _ => 0))))] s.heap.size = A at hD hG ⊢
  have hA : ∀ q : Nat, s.heap.size ≤ q → A q := fun q h => by rw [← hAe]; exact Or.inr h
  have hS : va_S A s.heap s.heap [] := va_S.rf
  have hl := lv_entry ([.ref h, .int p0, .int p1, .ref o]) (n := 5) (Nat.le_of_ble_eq_true rfl)
  rw [lg_entry_eq]
  generalize (lg_sl ([.ref h, .int p0, .int p1, .ref o]) ++ List.replicate (5 - (lg_sl ([.ref h, .int p0, .int p1, .ref o])).length) Slot.unset).toArray = ls at hl ⊢
  have hl : lv_has ls 5 [(0, .ref h), (1, .int p0), (2, .int p1), (3, .ref o)] := hl
  refine lv_aload_n hx hb dL_text_0 rfl (lv_at hl 3 rfl) ?_
  refine lv_iconst (v := 0) hx hb dL_text_1 (by decide) ?_
  refine lv_aload_n hx hb dL_text_2 rfl (lv_at hl 0 rfl) ?_
  refine lv_iload_n hx hb dL_text_3 rfl (lv_at hl 1 rfl) ?_
  refine lv_iload_n hx hb dL_text_4 rfl (lv_at hl 2 rfl) ?_
  have hPc := hP.sub (ws' := [(h, .inr (11, [.ref (v 0), .int 0, .ref (v 2), .ref (v 3), .ref (v 4), .ref (v 5), .ref (v 6)])), (v 0, .inl (cN, 60, .inr (.inr (.inr (.inr (fun _ => none)))))), (v 6, .inr (8, [.int 0, .int 0, .int 0, .int 0, .long 0, .int 0, .int 0, .ref (us 7), .ref (us 8), .ref (us 9), .ref (us 10), .int 0, .ref (us 12), .ref (us 13), .ref (us 14)]))]) [0, 1, 2] rfl
  have hDc := hD.sub (ws' := [(h, .inr (11, [.ref (v 0), .int 0, .ref (v 2), .ref (v 3), .ref (v 4), .ref (v 5), .ref (v 6)])), (v 0, .inl (cN, 60, .inr (.inr (.inr (.inr (fun _ => none)))))), (v 6, .inr (8, [.int 0, .int 0, .int 0, .int 0, .long 0, .int 0, .int 0, .ref (us 7), .ref (us 8), .ref (us 9), .ref (us 10), .int 0, .ref (us 12), .ref (us 13), .ref (us 14)]))]) [0, 1, 2] (by decide) rfl
  have hKc := hK.sub (tys' := [(cN, .object RX4)]) [0] rfl
  have hFc := va_free (wc := [(h, .inr (11, [.ref (v 0), .int 0, .ref (v 2), .ref (v 3), .ref (v 4), .ref (v 5), .ref (v 6)])), (v 0, .inl (cN, 60, .inr (.inr (.inr (.inr (fun _ => none)))))), (v 6, .inr (8, [.int 0, .int 0, .int 0, .int 0, .long 0, .int 0, .int 0, .ref (us 7), .ref (us 8), .ref (us 9), .ref (us 10), .int 0, .ref (us 12), .ref (us 13), .ref (us 14)]))]) hD hS hA [0, 1, 2] rfl
  refine vx_calli (vx_runV (As := [.int p0, .int p1]) (rest := [.int 0, .ref o]) ⟨hx, hb, hml, hown, htU⟩ (c_X10_text l hf dC dI ad sa h v us cN p0 p1 s.heap.size) (cwV 2 htU (gq_V u_439 u_440 u_441 u_91 u_442) rfl rfl rfl (by decide +kernel) ⟨(Nat.le_of_ble_eq_true rfl), (Nat.le_of_ble_eq_true rfl)⟩) ⟨(fun a U g mk q => by obtain ⟨q0, q1, qP, qK, qD, qG⟩ := q; exact ⟨q0, q1, qP, va_K.moved (u := U) (U := U.calling g mk a) (Vm.Alike.refl U.vm) qK, qD, GG.blind qG⟩), va_recv hKc hPc (ci := 11) (q0 := 0) rfl rfl, fun U hU hW => ⟨rfl, by rw [hU], by rw [hU]; exact hPc, va_K.moved hW.alike hKc, hDc.weaken (fun _ _ _ _ => trivial), GG.go hG hS hFc hU hW⟩⟩ rfl rfl hl.1 rfl (lv_room (Nat.le_of_ble_eq_true rfl)) dL_text_5 ⟨(Nat.le_of_ble_eq_true rfl), (Nat.le_of_ble_eq_true rfl)⟩) hS (fun q _ h => hFc q h) hFc (fun q _ h => hFc q h) (fun E ce q9 _ t H locs ht hvm hpx hB hz1 hk1 hS hce hcv hcl => ?_) (fun r_1 u_2 t H locs ht hvm hw hB hz1 hk1 hS => ?_)
  · obtain ⟨rfl, hxc⟩ := hB
    refine vx_catch (own := RL) (name := xIA) hown [] ⟨0, 10, 13, 13⟩ [⟨0, 10, 17, 15⟩] (hT.trans rfl) (fun z hz => absurd hz List.not_mem_nil) rfl (by decide) (htU _ u_437) (va_Nw.use rfl (hG.ca 0 rfl)) hce hcv hcl ?_
    obtain ⟨hP, hD⟩ := va_join (wr := [(o, .inl (cL, 1, .inr (.inl (fun _ => 0))))]) (w1 := []) hP hD [0, 1, 2] [3] rfl rfl (by decide) (by decide) hk1 hFc (fun k q h => by simp at h) ⟨fun i j p q h => by simp at h, fun k q h => by simp at h⟩
    have hP : va_P (dC, dI) vwCl [(o, .inl (cL, 1, .inr (.inl (fun _ => 0))))] H := hP
    have hD : va_D A [(o, .inl (cL, 1, .inr (.inl (fun _ => 0))))] := hD
    refine lv_astore (lv' := [(4, .ref q9), (0, .ref h), (1, .int p0), (2, .int p1), (3, .ref o)]) hx hb dL_text_13 hl (by decide) rfl (fun ls hl => ?_)
    refine lv_iconst (v := 1) hx hb dL_text_15 (by decide) ?_
    have hP9 := hP.sub (ws' := [(o, .inl (cL, 1, .inr (.inl (fun _ => 0))))]) [0] rfl
    have hD9 := hD.sub (ws' := [(o, .inl (cL, 1, .inr (.inl (fun _ => 0))))]) [0] (by decide) rfl
    have hK9 := hK.sub (tys' := [(cL, .long)]) [1] rfl
    refine W.widen (k := 3) (n := 27) (Nat.le_of_ble_eq_true rfl) (Nat.le_of_ble_eq_true rfl) ?_
    refine vx_ret ?_
    exact W.iret (v := 1) hx hb hr (fun t ht hW => ⟨⟨1, (fun _ => 0), rfl, ⟨(kIf_f hxc).symm, rfl⟩, ⟨by rw [ht]; exact hP9, va_K.moved hW.alike hK9, hD9⟩⟩, hS.F ht⟩) hS.2.2 dL_text_16
  · obtain ⟨hP1, hK1, hD1⟩ := hB
    rw [ht] at hP1
    have hK1 := va_K.moved hvm.symm hK1
    try dsimp only at hw hP1 hK1 hD1
    have hK := (hK.sub (tys' := [(cN, .object RX4), (cL, .long)]) [0, 1] rfl).app hK1
    have hK : va_K (dC, dI) vwCl [(cN, .object RX4), (cL, .long)] s := hK
    obtain ⟨hP, hD⟩ := va_join (wr := [(o, .inl (cL, 1, .inr (.inl (fun _ => 0))))]) (w1 := []) hP hD [0, 1, 2] [3] rfl rfl (by decide) (by decide) hk1 hFc hP1 hD1
    have hP : va_P (dC, dI) vwCl [(o, .inl (cL, 1, .inr (.inl (fun _ => 0))))] H := hP
    have hD : va_D A [(o, .inl (cL, 1, .inr (.inl (fun _ => 0))))] := hD
    obtain ⟨ok_r_1, rfl⟩ := hw
    refine lv_i2l (v := 0) hx hb dL_text_8 (by decide) ?_
    refine va_last (D := (dC, dI)) hx hb hK hP hD hS 0 1 rfl rfl (by unfold vp_in; decide) dL_text_9 (fun H locs hP hD hS => ?_)
    have hP : va_P (dC, dI) vwCl [(o, .inl (cL, 1, .inr (.inl (vp_updL (fun _ => 0) (0 : Int32).toNatClampNeg 0))))] H := hP
    have hD : va_D A [(o, .inl (cL, 1, .inr (.inl (vp_updL (fun _ => 0) (0 : Int32).toNatClampNeg 0))))] := hD
    refine lv_goto (tgt := 21) hx hb dL_text_10 (by decide) ?_
    refine lv_iconst (v := 0) hx hb dL_text_21 (by decide) ?_
    have hP9 := hP.sub (ws' := [(o, .inl (cL, 1, .inr (.inl (vp_updL (fun _ => 0) (0 : Int32).toNatClampNeg 0))))]) [0] rfl
    have hD9 := hD.sub (ws' := [(o, .inl (cL, 1, .inr (.inl (vp_updL (fun _ => 0) (0 : Int32).toNatClampNeg 0))))]) [0] (by decide) rfl
    have hK9 := hK.sub (tys' := [(cL, .long)]) [1] rfl
    refine W.widen (k := 3) (n := 27) (Nat.le_of_ble_eq_true rfl) (Nat.le_of_ble_eq_true rfl) ?_
    refine vx_ret ?_
    exact W.iret (v := 0) hx hb hr (fun t ht hW => ⟨⟨0, (vp_updL (fun _ => 0) (0 : Int32).toNatClampNeg 0), rfl, ⟨(kIf_t ok_r_1).symm, rfl⟩, ⟨by rw [ht]; exact hP9, va_K.moved hW.alike hK9, hD9⟩⟩, hS.F ht⟩) hS.2.2 dL_text_22

set_option maxHeartbeats 4000000 in
set_option maxRecDepth 100000 in
/-- the law's remark -/
theorem c_L_remark (l : Launch) (hf : l.stackTraces = false) (dC : Nat → ClassId) (dI : Nat → Nat → Nat) (ad sa : Nat → Nat) (h : Nat) (v : Nat → Nat) (us : Nat → Nat) (cN : ClassId) (o : Nat) (cL : ClassId) (p0 : Int32) (p1 : Int32) (sz : Nat) : vx_Met l yL_remark wq_L_remark ({ frames := 12, cells := 3, slots := 27, locals := 286 }) (va_Pc [.ref h, .int p0, .int p1, .ref o] (fun U => U.heap.size = sz ∧ va_P (dC, dI) vwCl [(h, .inr (11, [.ref (v 0), .int 0, .ref (v 2), .ref (v 3), .ref (v 4), .ref (v 5), .ref (v 6)])), (v 0, .inl (cN, 60, .inr (.inr (.inr (.inr (fun _ => none)))))), (v 6, .inr (8, [.int 0, .int 0, .int 0, .int 0, .long 0, .int 0, .int 0, .ref (us 7), .ref (us 8), .ref (us 9), .ref (us 10), .int 0, .ref (us 12), .ref (us 13), .ref (us 14)])), (o, .inl (cL, 1, .inr (.inl (fun _ => 0))))] U.heap ∧ va_K (dC, dI) vwCl [(cN, .object RX4), (cL, .long)] U ∧ va_D (fun _ => True) [(h, .inr (11, [.ref (v 0), .int 0, .ref (v 2), .ref (v 3), .ref (v 4), .ref (v 5), .ref (v 6)])), (v 0, .inl (cN, 60, .inr (.inr (.inr (.inr (fun _ => none)))))), (v 6, .inr (8, [.int 0, .int 0, .int 0, .int 0, .long 0, .int 0, .int 0, .ref (us 7), .ref (us 8), .ref (us 9), .ref (us 10), .int 0, .ref (us 12), .ref (us 13), .ref (us 14)])), (o, .inl (cL, 1, .inr (.inl (fun _ => 0))))] ∧ GG (va_A [(h, .inr (11, [.ref (v 0), .int 0, .ref (v 2), .ref (v 3), .ref (v 4), .ref (v 5), .ref (v 6)])), (v 0, .inl (cN, 60, .inr (.inr (.inr (.inr (fun _ => none)))))), (v 6, .inr (8, [.int 0, .int 0, .int 0, .int 0, .long 0, .int 0, .int 0, .ref (us 7), .ref (us 8), .ref (us 9), .ref (us 10), .int 0, .ref (us 12), .ref (us 13), .ref (us 14)])), (o, .inl (cL, 1, .inr (.inl (fun _ => 0))))] sz) ad sa U U.heap)) (va_Qi (fun (r : Int32) (u : Nat → Int64) => r = kIf ((0 ≤ p0 ∧ p0 ≤ 25) ∧ (1 ≤ p1 ∧ p1 ≤ 20)) ∧ u 0 = 0) (fun (u : Nat → Int64) t => va_P (dC, dI) vwCl [(o, .inl (cL, 1, .inr (.inl u)))] t.heap ∧ va_K (dC, dI) vwCl [(cL, .long)] t ∧ va_D (va_A [(h, .inr (11, [.ref (v 0), .int 0, .ref (v 2), .ref (v 3), .ref (v 4), .ref (v 5), .ref (v 6)])), (v 0, .inl (cN, 60, .inr (.inr (.inr (.inr (fun _ => none)))))), (v 6, .inr (8, [.int 0, .int 0, .int 0, .int 0, .long 0, .int 0, .int 0, .ref (us 7), .ref (us 8), .ref (us 9), .ref (us 10), .int 0, .ref (us 12), .ref (us 13), .ref (us 14)])), (o, .inl (cL, 1, .inr (.inl (fun _ => 0))))] sz) [(o, .inl (cL, 1, .inr (.inl u)))]) (va_A [(h, .inr (11, [.ref (v 0), .int 0, .ref (v 2), .ref (v 3), .ref (v 4), .ref (v 5), .ref (v 6)])), (v 0, .inl (cN, 60, .inr (.inr (.inr (.inr (fun _ => none)))))), (v 6, .inr (8, [.int 0, .int 0, .int 0, .int 0, .long 0, .int 0, .int 0, .ref (us 7), .ref (us 8), .ref (us 9), .ref (us 10), .int 0, .ref (us 12), .ref (us 13), .ref (us 14)])), (o, .inl (cL, 1, .inr (.inl (fun _ => 0))))] sz)) (vx_X (fun _ : Unit => True) (fun _ _ _ => False) (va_A [(h, .inr (11, [.ref (v 0), .int 0, .ref (v 2), .ref (v 3), .ref (v 4), .ref (v 5), .ref (v 6)])), (v 0, .inl (cN, 60, .inr (.inr (.inr (.inr (fun _ => none)))))), (v 6, .inr (8, [.int 0, .int 0, .int 0, .int 0, .long 0, .int 0, .int 0, .ref (us 7), .ref (us 8), .ref (us 9), .ref (us 10), .int 0, .ref (us 12), .ref (us 13), .ref (us 14)])), (o, .inl (cL, 1, .inr (.inl (fun _ => 0))))] sz)) 3 27 (va_A [(h, .inr (11, [.ref (v 0), .int 0, .ref (v 2), .ref (v 3), .ref (v 4), .ref (v 5), .ref (v 6)])), (v 0, .inl (cN, 60, .inr (.inr (.inr (.inr (fun _ => none)))))), (v 6, .inr (8, [.int 0, .int 0, .int 0, .int 0, .long 0, .int 0, .int 0, .ref (us 7), .ref (us 8), .ref (us 9), .ref (us 10), .int 0, .ref (us 12), .ref (us 13), .ref (us 14)])), (o, .inl (cL, 1, .inr (.inl (fun _ => 0))))] sz) := by
  refine vx_ofWH (cc := cL_remark) (maxL := 5) (ret := (some .int)) (hh :=  [(0, 10, 13, 13), (0, 10, 17, 15)]) (by decide) rfl ?_
  intro p e s m args below meth c s₁ B hml hv
  obtain ⟨rfl, hsz, hP, hK, hD0, hG⟩ := hv
  have hx := B.exec
  have hb := B.bytes
  have hr := B.returns
  have hts := atoms_spec (ws := wq_L_remark) B.pre
  have htU : ∀ w ∈ UW, w.before _ s = true := fun w h => hts w (List.mem_cons_of_mem _ h)
  have hown : s.vm.findClass RL = some m.cls := findClass_of_methodNamed B.named
  have hlocks := B.notSynchronized
  have hT : c.exceptionTable.toList = tableOf  [(0, 10, 13, 13), (0, 10, 17, 15)] := vx_table (x := yL_remark) B (hts _ List.mem_cons_self)
  subst hsz
  have hD := hD0.self (sz := s.heap.size)
  generalize hAe : va_A [(h, .inr (11, [.ref (v 0), .int 0, .ref (v 2), .ref (v 3), .ref (v 4), .ref (v 5), .ref (v 6)])), (v 0, .inl (cN, 60, .inr (.inr (.inr (.inr (fun _ => none)))))), (v 6, .inr (8, [.int 0, .int 0, .int 0, .int 0, .long 0, .int 0, .int 0, .ref (us 7), .ref (us 8), .ref (us 9), .ref (us 10), .int 0, .ref (us 12), .ref (us 13), .ref (us 14)])), (o, .inl (cL, 1, .inr (.inl (fun _ => 0))))] s.heap.size = A at hD hG ⊢
  have hA : ∀ q : Nat, s.heap.size ≤ q → A q := fun q h => by rw [← hAe]; exact Or.inr h
  have hS : va_S A s.heap s.heap [] := va_S.rf
  have hl := lv_entry ([.ref h, .int p0, .int p1, .ref o]) (n := 5) (Nat.le_of_ble_eq_true rfl)
  rw [lg_entry_eq]
  generalize (lg_sl ([.ref h, .int p0, .int p1, .ref o]) ++ List.replicate (5 - (lg_sl ([.ref h, .int p0, .int p1, .ref o])).length) Slot.unset).toArray = ls at hl ⊢
  have hl : lv_has ls 5 [(0, .ref h), (1, .int p0), (2, .int p1), (3, .ref o)] := hl
  refine lv_aload_n hx hb dL_remark_0 rfl (lv_at hl 3 rfl) ?_
  refine lv_iconst (v := 0) hx hb dL_remark_1 (by decide) ?_
  refine lv_aload_n hx hb dL_remark_2 rfl (lv_at hl 0 rfl) ?_
  refine lv_iload_n hx hb dL_remark_3 rfl (lv_at hl 1 rfl) ?_
  refine lv_iload_n hx hb dL_remark_4 rfl (lv_at hl 2 rfl) ?_
  have hPc := hP.sub (ws' := [(h, .inr (11, [.ref (v 0), .int 0, .ref (v 2), .ref (v 3), .ref (v 4), .ref (v 5), .ref (v 6)])), (v 0, .inl (cN, 60, .inr (.inr (.inr (.inr (fun _ => none)))))), (v 6, .inr (8, [.int 0, .int 0, .int 0, .int 0, .long 0, .int 0, .int 0, .ref (us 7), .ref (us 8), .ref (us 9), .ref (us 10), .int 0, .ref (us 12), .ref (us 13), .ref (us 14)]))]) [0, 1, 2] rfl
  have hDc := hD.sub (ws' := [(h, .inr (11, [.ref (v 0), .int 0, .ref (v 2), .ref (v 3), .ref (v 4), .ref (v 5), .ref (v 6)])), (v 0, .inl (cN, 60, .inr (.inr (.inr (.inr (fun _ => none)))))), (v 6, .inr (8, [.int 0, .int 0, .int 0, .int 0, .long 0, .int 0, .int 0, .ref (us 7), .ref (us 8), .ref (us 9), .ref (us 10), .int 0, .ref (us 12), .ref (us 13), .ref (us 14)]))]) [0, 1, 2] (by decide) rfl
  have hKc := hK.sub (tys' := [(cN, .object RX4)]) [0] rfl
  have hFc := va_free (wc := [(h, .inr (11, [.ref (v 0), .int 0, .ref (v 2), .ref (v 3), .ref (v 4), .ref (v 5), .ref (v 6)])), (v 0, .inl (cN, 60, .inr (.inr (.inr (.inr (fun _ => none)))))), (v 6, .inr (8, [.int 0, .int 0, .int 0, .int 0, .long 0, .int 0, .int 0, .ref (us 7), .ref (us 8), .ref (us 9), .ref (us 10), .int 0, .ref (us 12), .ref (us 13), .ref (us 14)]))]) hD hS hA [0, 1, 2] rfl
  refine vx_calli (vx_runV (As := [.int p0, .int p1]) (rest := [.int 0, .ref o]) ⟨hx, hb, hml, hown, htU⟩ (c_X10_remark l hf dC dI ad sa h v us cN p0 p1 s.heap.size) (cwV 2 htU (gq_V u_639 u_640 u_641 u_91 u_642) rfl rfl rfl (by decide +kernel) ⟨(Nat.le_of_ble_eq_true rfl), (Nat.le_of_ble_eq_true rfl)⟩) ⟨(fun a U g mk q => by obtain ⟨q0, q1, qP, qK, qD, qG⟩ := q; exact ⟨q0, q1, qP, va_K.moved (u := U) (U := U.calling g mk a) (Vm.Alike.refl U.vm) qK, qD, GG.blind qG⟩), va_recv hKc hPc (ci := 11) (q0 := 0) rfl rfl, fun U hU hW => ⟨rfl, by rw [hU], by rw [hU]; exact hPc, va_K.moved hW.alike hKc, hDc.weaken (fun _ _ _ _ => trivial), GG.go hG hS hFc hU hW⟩⟩ rfl rfl hl.1 rfl (lv_room (Nat.le_of_ble_eq_true rfl)) dL_remark_5 ⟨(Nat.le_of_ble_eq_true rfl), (Nat.le_of_ble_eq_true rfl)⟩) hS (fun q _ h => hFc q h) hFc (fun q _ h => hFc q h) (fun E ce q9 _ t H locs ht hvm hpx hB hz1 hk1 hS hce hcv hcl => ?_) (fun r_1 u_2 t H locs ht hvm hw hB hz1 hk1 hS => ?_)
  · obtain ⟨rfl, hxc⟩ := hB
    refine vx_catch (own := RL) (name := xIA) hown [] ⟨0, 10, 13, 13⟩ [⟨0, 10, 17, 15⟩] (hT.trans rfl) (fun z hz => absurd hz List.not_mem_nil) rfl (by decide) (htU _ u_437) (va_Nw.use rfl (hG.ca 0 rfl)) hce hcv hcl ?_
    obtain ⟨hP, hD⟩ := va_join (wr := [(o, .inl (cL, 1, .inr (.inl (fun _ => 0))))]) (w1 := []) hP hD [0, 1, 2] [3] rfl rfl (by decide) (by decide) hk1 hFc (fun k q h => by simp at h) ⟨fun i j p q h => by simp at h, fun k q h => by simp at h⟩
    have hP : va_P (dC, dI) vwCl [(o, .inl (cL, 1, .inr (.inl (fun _ => 0))))] H := hP
    have hD : va_D A [(o, .inl (cL, 1, .inr (.inl (fun _ => 0))))] := hD
    refine lv_astore (lv' := [(4, .ref q9), (0, .ref h), (1, .int p0), (2, .int p1), (3, .ref o)]) hx hb dL_remark_13 hl (by decide) rfl (fun ls hl => ?_)
    refine lv_iconst (v := 1) hx hb dL_remark_15 (by decide) ?_
    have hP9 := hP.sub (ws' := [(o, .inl (cL, 1, .inr (.inl (fun _ => 0))))]) [0] rfl
    have hD9 := hD.sub (ws' := [(o, .inl (cL, 1, .inr (.inl (fun _ => 0))))]) [0] (by decide) rfl
    have hK9 := hK.sub (tys' := [(cL, .long)]) [1] rfl
    refine W.widen (k := 3) (n := 27) (Nat.le_of_ble_eq_true rfl) (Nat.le_of_ble_eq_true rfl) ?_
    refine vx_ret ?_
    exact W.iret (v := 1) hx hb hr (fun t ht hW => ⟨⟨1, (fun _ => 0), rfl, ⟨(kIf_f hxc).symm, rfl⟩, ⟨by rw [ht]; exact hP9, va_K.moved hW.alike hK9, hD9⟩⟩, hS.F ht⟩) hS.2.2 dL_remark_16
  · obtain ⟨hP1, hK1, hD1⟩ := hB
    rw [ht] at hP1
    have hK1 := va_K.moved hvm.symm hK1
    try dsimp only at hw hP1 hK1 hD1
    have hK := (hK.sub (tys' := [(cN, .object RX4), (cL, .long)]) [0, 1] rfl).app hK1
    have hK : va_K (dC, dI) vwCl [(cN, .object RX4), (cL, .long)] s := hK
    obtain ⟨hP, hD⟩ := va_join (wr := [(o, .inl (cL, 1, .inr (.inl (fun _ => 0))))]) (w1 := []) hP hD [0, 1, 2] [3] rfl rfl (by decide) (by decide) hk1 hFc hP1 hD1
    have hP : va_P (dC, dI) vwCl [(o, .inl (cL, 1, .inr (.inl (fun _ => 0))))] H := hP
    have hD : va_D A [(o, .inl (cL, 1, .inr (.inl (fun _ => 0))))] := hD
    obtain ⟨ok_r_1, rfl⟩ := hw
    refine lv_i2l (v := 0) hx hb dL_remark_8 (by decide) ?_
    refine va_last (D := (dC, dI)) hx hb hK hP hD hS 0 1 rfl rfl (by unfold vp_in; decide) dL_remark_9 (fun H locs hP hD hS => ?_)
    have hP : va_P (dC, dI) vwCl [(o, .inl (cL, 1, .inr (.inl (vp_updL (fun _ => 0) (0 : Int32).toNatClampNeg 0))))] H := hP
    have hD : va_D A [(o, .inl (cL, 1, .inr (.inl (vp_updL (fun _ => 0) (0 : Int32).toNatClampNeg 0))))] := hD
    refine lv_goto (tgt := 21) hx hb dL_remark_10 (by decide) ?_
    refine lv_iconst (v := 0) hx hb dL_remark_21 (by decide) ?_
    have hP9 := hP.sub (ws' := [(o, .inl (cL, 1, .inr (.inl (vp_updL (fun _ => 0) (0 : Int32).toNatClampNeg 0))))]) [0] rfl
    have hD9 := hD.sub (ws' := [(o, .inl (cL, 1, .inr (.inl (vp_updL (fun _ => 0) (0 : Int32).toNatClampNeg 0))))]) [0] (by decide) rfl
    have hK9 := hK.sub (tys' := [(cL, .long)]) [1] rfl
    refine W.widen (k := 3) (n := 27) (Nat.le_of_ble_eq_true rfl) (Nat.le_of_ble_eq_true rfl) ?_
    refine vx_ret ?_
    exact W.iret (v := 0) hx hb hr (fun t ht hW => ⟨⟨0, (vp_updL (fun _ => 0) (0 : Int32).toNatClampNeg 0), rfl, ⟨(kIf_t ok_r_1).symm, rfl⟩, ⟨by rw [ht]; exact hP9, va_K.moved hW.alike hK9, hD9⟩⟩, hS.F ht⟩) hS.2.2 dL_remark_22

set_option maxHeartbeats 4000000 in
set_option maxRecDepth 100000 in
/-- the law's line -/
theorem c_L_line (l : Launch) (hf : l.stackTraces = false) (dC : Nat → ClassId) (dI : Nat → Nat → Nat) (ad sa : Nat → Nat) (h : Nat) (v : Nat → Nat) (us : Nat → Nat) (cN : ClassId) (o : Nat) (cL : ClassId) (sz : Nat) : vx_Met l yL_line wq_L_line ({ frames := 12, cells := 1, slots := 15, locals := 284 }) (va_Pc [.ref h, .ref o] (fun U => U.heap.size = sz ∧ va_P (dC, dI) vwCl [(h, .inr (11, [.ref (v 0), .int 0, .ref (v 2), .ref (v 3), .ref (v 4), .ref (v 5), .ref (v 6)])), (v 0, .inl (cN, 60, .inr (.inr (.inr (.inr (fun _ => none)))))), (v 6, .inr (8, [.int 0, .int 0, .int 0, .int 0, .long 0, .int 0, .int 0, .ref (us 7), .ref (us 8), .ref (us 9), .ref (us 10), .int 0, .ref (us 12), .ref (us 13), .ref (us 14)])), (o, .inl (cL, 1, .inr (.inl (fun _ => 0))))] U.heap ∧ va_K (dC, dI) vwCl [(cN, .object RX4), (cL, .long)] U ∧ va_D (fun _ => True) [(h, .inr (11, [.ref (v 0), .int 0, .ref (v 2), .ref (v 3), .ref (v 4), .ref (v 5), .ref (v 6)])), (v 0, .inl (cN, 60, .inr (.inr (.inr (.inr (fun _ => none)))))), (v 6, .inr (8, [.int 0, .int 0, .int 0, .int 0, .long 0, .int 0, .int 0, .ref (us 7), .ref (us 8), .ref (us 9), .ref (us 10), .int 0, .ref (us 12), .ref (us 13), .ref (us 14)])), (o, .inl (cL, 1, .inr (.inl (fun _ => 0))))] ∧ GG (va_A [(h, .inr (11, [.ref (v 0), .int 0, .ref (v 2), .ref (v 3), .ref (v 4), .ref (v 5), .ref (v 6)])), (v 0, .inl (cN, 60, .inr (.inr (.inr (.inr (fun _ => none)))))), (v 6, .inr (8, [.int 0, .int 0, .int 0, .int 0, .long 0, .int 0, .int 0, .ref (us 7), .ref (us 8), .ref (us 9), .ref (us 10), .int 0, .ref (us 12), .ref (us 13), .ref (us 14)])), (o, .inl (cL, 1, .inr (.inl (fun _ => 0))))] sz) ad sa U U.heap)) (va_Qi (fun (r : Int32) (u : Nat → Int64) => r = 0 ∧ u 0 = 0) (fun (u : Nat → Int64) t => va_P (dC, dI) vwCl [(o, .inl (cL, 1, .inr (.inl u)))] t.heap ∧ va_K (dC, dI) vwCl [(cL, .long)] t ∧ va_D (va_A [(h, .inr (11, [.ref (v 0), .int 0, .ref (v 2), .ref (v 3), .ref (v 4), .ref (v 5), .ref (v 6)])), (v 0, .inl (cN, 60, .inr (.inr (.inr (.inr (fun _ => none)))))), (v 6, .inr (8, [.int 0, .int 0, .int 0, .int 0, .long 0, .int 0, .int 0, .ref (us 7), .ref (us 8), .ref (us 9), .ref (us 10), .int 0, .ref (us 12), .ref (us 13), .ref (us 14)])), (o, .inl (cL, 1, .inr (.inl (fun _ => 0))))] sz) [(o, .inl (cL, 1, .inr (.inl u)))]) (va_A [(h, .inr (11, [.ref (v 0), .int 0, .ref (v 2), .ref (v 3), .ref (v 4), .ref (v 5), .ref (v 6)])), (v 0, .inl (cN, 60, .inr (.inr (.inr (.inr (fun _ => none)))))), (v 6, .inr (8, [.int 0, .int 0, .int 0, .int 0, .long 0, .int 0, .int 0, .ref (us 7), .ref (us 8), .ref (us 9), .ref (us 10), .int 0, .ref (us 12), .ref (us 13), .ref (us 14)])), (o, .inl (cL, 1, .inr (.inl (fun _ => 0))))] sz)) (vx_X (fun _ : Unit => True) (fun _ _ _ => False) (va_A [(h, .inr (11, [.ref (v 0), .int 0, .ref (v 2), .ref (v 3), .ref (v 4), .ref (v 5), .ref (v 6)])), (v 0, .inl (cN, 60, .inr (.inr (.inr (.inr (fun _ => none)))))), (v 6, .inr (8, [.int 0, .int 0, .int 0, .int 0, .long 0, .int 0, .int 0, .ref (us 7), .ref (us 8), .ref (us 9), .ref (us 10), .int 0, .ref (us 12), .ref (us 13), .ref (us 14)])), (o, .inl (cL, 1, .inr (.inl (fun _ => 0))))] sz)) 1 15 (va_A [(h, .inr (11, [.ref (v 0), .int 0, .ref (v 2), .ref (v 3), .ref (v 4), .ref (v 5), .ref (v 6)])), (v 0, .inl (cN, 60, .inr (.inr (.inr (.inr (fun _ => none)))))), (v 6, .inr (8, [.int 0, .int 0, .int 0, .int 0, .long 0, .int 0, .int 0, .ref (us 7), .ref (us 8), .ref (us 9), .ref (us 10), .int 0, .ref (us 12), .ref (us 13), .ref (us 14)])), (o, .inl (cL, 1, .inr (.inl (fun _ => 0))))] sz) := by
  refine vx_ofWH (cc := cL_line) (maxL := 3) (ret := (some .int)) (hh :=  [(0, 8, 11, 15)]) (by decide) rfl ?_
  intro p e s m args below meth c s₁ B hml hv
  obtain ⟨rfl, hsz, hP, hK, hD0, hG⟩ := hv
  have hx := B.exec
  have hb := B.bytes
  have hr := B.returns
  have hts := atoms_spec (ws := wq_L_line) B.pre
  have htU : ∀ w ∈ UW, w.before _ s = true := fun w h => hts w (List.mem_cons_of_mem _ h)
  have hown : s.vm.findClass RL = some m.cls := findClass_of_methodNamed B.named
  have hlocks := B.notSynchronized
  have hT : c.exceptionTable.toList = tableOf  [(0, 8, 11, 15)] := vx_table (x := yL_line) B (hts _ List.mem_cons_self)
  subst hsz
  have hD := hD0.self (sz := s.heap.size)
  generalize hAe : va_A [(h, .inr (11, [.ref (v 0), .int 0, .ref (v 2), .ref (v 3), .ref (v 4), .ref (v 5), .ref (v 6)])), (v 0, .inl (cN, 60, .inr (.inr (.inr (.inr (fun _ => none)))))), (v 6, .inr (8, [.int 0, .int 0, .int 0, .int 0, .long 0, .int 0, .int 0, .ref (us 7), .ref (us 8), .ref (us 9), .ref (us 10), .int 0, .ref (us 12), .ref (us 13), .ref (us 14)])), (o, .inl (cL, 1, .inr (.inl (fun _ => 0))))] s.heap.size = A at hD hG ⊢
  have hA : ∀ q : Nat, s.heap.size ≤ q → A q := fun q h => by rw [← hAe]; exact Or.inr h
  have hS : va_S A s.heap s.heap [] := va_S.rf
  have hl := lv_entry ([.ref h, .ref o]) (n := 3) (Nat.le_of_ble_eq_true rfl)
  rw [lg_entry_eq]
  generalize (lg_sl ([.ref h, .ref o]) ++ List.replicate (3 - (lg_sl ([.ref h, .ref o])).length) Slot.unset).toArray = ls at hl ⊢
  have hl : lv_has ls 3 [(0, .ref h), (1, .ref o)] := hl
  refine lv_aload_n hx hb dL_line_0 rfl (lv_at hl 1 rfl) ?_
  refine lv_iconst (v := 0) hx hb dL_line_1 (by decide) ?_
  refine lv_aload_n hx hb dL_line_2 rfl (lv_at hl 0 rfl) ?_
  have hPc := hP.sub (ws' := [(h, .inr (11, [.ref (v 0), .int 0, .ref (v 2), .ref (v 3), .ref (v 4), .ref (v 5), .ref (v 6)])), (v 0, .inl (cN, 60, .inr (.inr (.inr (.inr (fun _ => none)))))), (v 6, .inr (8, [.int 0, .int 0, .int 0, .int 0, .long 0, .int 0, .int 0, .ref (us 7), .ref (us 8), .ref (us 9), .ref (us 10), .int 0, .ref (us 12), .ref (us 13), .ref (us 14)]))]) [0, 1, 2] rfl
  have hDc := hD.sub (ws' := [(h, .inr (11, [.ref (v 0), .int 0, .ref (v 2), .ref (v 3), .ref (v 4), .ref (v 5), .ref (v 6)])), (v 0, .inl (cN, 60, .inr (.inr (.inr (.inr (fun _ => none)))))), (v 6, .inr (8, [.int 0, .int 0, .int 0, .int 0, .long 0, .int 0, .int 0, .ref (us 7), .ref (us 8), .ref (us 9), .ref (us 10), .int 0, .ref (us 12), .ref (us 13), .ref (us 14)]))]) [0, 1, 2] (by decide) rfl
  have hKc := hK.sub (tys' := [(cN, .object RX4)]) [0] rfl
  have hFc := va_free (wc := [(h, .inr (11, [.ref (v 0), .int 0, .ref (v 2), .ref (v 3), .ref (v 4), .ref (v 5), .ref (v 6)])), (v 0, .inl (cN, 60, .inr (.inr (.inr (.inr (fun _ => none)))))), (v 6, .inr (8, [.int 0, .int 0, .int 0, .int 0, .long 0, .int 0, .int 0, .ref (us 7), .ref (us 8), .ref (us 9), .ref (us 10), .int 0, .ref (us 12), .ref (us 13), .ref (us 14)]))]) hD hS hA [0, 1, 2] rfl
  refine va_calli (va_runV (As := []) (rest := [.int 0, .ref o]) ⟨hx, hb, hml, hown, htU⟩ (c_X10_line l hf dC dI ad sa h v us cN s.heap.size) (cwV 0 htU (gq_V u_648 u_649 u_650 u_91 u_651) rfl rfl rfl (by decide +kernel) ⟨(Nat.le_of_ble_eq_true rfl), (Nat.le_of_ble_eq_true rfl)⟩) ⟨(fun a U g mk q => by obtain ⟨q0, q1, qP, qK, qD, qG⟩ := q; exact ⟨q0, q1, qP, va_K.moved (u := U) (U := U.calling g mk a) (Vm.Alike.refl U.vm) qK, qD, GG.blind qG⟩), va_recv hKc hPc (ci := 11) (q0 := 0) rfl rfl, fun U hU hW => ⟨rfl, by rw [hU], by rw [hU]; exact hPc, va_K.moved hW.alike hKc, hDc.weaken (fun _ _ _ _ => trivial), GG.go hG hS hFc hU hW⟩⟩ rfl rfl hl.1 rfl (lv_room (Nat.le_of_ble_eq_true rfl)) dL_line_3 ⟨(Nat.le_of_ble_eq_true rfl), (Nat.le_of_ble_eq_true rfl)⟩) hS (fun q _ h => hFc q h) hFc (fun r_1 u_2 t H locs ht hvm hw hB hz1 hk1 hS => ?_)
  obtain ⟨hP1, hK1, hD1⟩ := hB
  rw [ht] at hP1
  have hK1 := va_K.moved hvm.symm hK1
  try dsimp only at hw hP1 hK1 hD1
  have hK := (hK.sub (tys' := [(cN, .object RX4), (cL, .long)]) [0, 1] rfl).app hK1
  have hK : va_K (dC, dI) vwCl [(cN, .object RX4), (cL, .long)] s := hK
  obtain ⟨hP, hD⟩ := va_join (wr := [(o, .inl (cL, 1, .inr (.inl (fun _ => 0))))]) (w1 := []) hP hD [0, 1, 2] [3] rfl rfl (by decide) (by decide) hk1 hFc hP1 hD1
  have hP : va_P (dC, dI) vwCl [(o, .inl (cL, 1, .inr (.inl (fun _ => 0))))] H := hP
  have hD : va_D A [(o, .inl (cL, 1, .inr (.inl (fun _ => 0))))] := hD
  obtain rfl := hw
  refine lv_i2l (v := 0) hx hb dL_line_6 (by decide) ?_
  refine va_last (D := (dC, dI)) hx hb hK hP hD hS 0 1 rfl rfl (by unfold vp_in; decide) dL_line_7 (fun H locs hP hD hS => ?_)
  have hP : va_P (dC, dI) vwCl [(o, .inl (cL, 1, .inr (.inl (vp_updL (fun _ => 0) (0 : Int32).toNatClampNeg 0))))] H := hP
  have hD : va_D A [(o, .inl (cL, 1, .inr (.inl (vp_updL (fun _ => 0) (0 : Int32).toNatClampNeg 0))))] := hD
  refine lv_goto (tgt := 14) hx hb dL_line_8 (by decide) ?_
  refine lv_iconst (v := 0) hx hb dL_line_14 (by decide) ?_
  have hP9 := hP.sub (ws' := [(o, .inl (cL, 1, .inr (.inl (vp_updL (fun _ => 0) (0 : Int32).toNatClampNeg 0))))]) [0] rfl
  have hD9 := hD.sub (ws' := [(o, .inl (cL, 1, .inr (.inl (vp_updL (fun _ => 0) (0 : Int32).toNatClampNeg 0))))]) [0] (by decide) rfl
  have hK9 := hK.sub (tys' := [(cL, .long)]) [1] rfl
  refine W.widen (k := 1) (n := 15) (Nat.le_of_ble_eq_true rfl) (Nat.le_of_ble_eq_true rfl) ?_
  refine vx_ret ?_
  exact W.iret (v := 0) hx hb hr (fun t ht hW => ⟨⟨0, (vp_updL (fun _ => 0) (0 : Int32).toNatClampNeg 0), rfl, ⟨rfl, rfl⟩, ⟨by rw [ht]; exact hP9, va_K.moved hW.alike hK9, hD9⟩⟩, hS.F ht⟩) hS.2.2 dL_line_15

set_option maxHeartbeats 4000000 in
set_option maxRecDepth 100000 in
/-- the law's soft -/
theorem c_L_soft (l : Launch) (hf : l.stackTraces = false) (dC : Nat → ClassId) (dI : Nat → Nat → Nat) (ad sa : Nat → Nat) (h : Nat) (v : Nat → Nat) (us : Nat → Nat) (cN : ClassId) (o : Nat) (cL : ClassId) (sz : Nat) : vx_Met l yL_soft wq_L_soft ({ frames := 12, cells := 1, slots := 15, locals := 284 }) (va_Pc [.ref h, .ref o] (fun U => U.heap.size = sz ∧ va_P (dC, dI) vwCl [(h, .inr (11, [.ref (v 0), .int 0, .ref (v 2), .ref (v 3), .ref (v 4), .ref (v 5), .ref (v 6)])), (v 0, .inl (cN, 60, .inr (.inr (.inr (.inr (fun _ => none)))))), (v 6, .inr (8, [.int 0, .int 0, .int 0, .int 0, .long 0, .int 0, .int 0, .ref (us 7), .ref (us 8), .ref (us 9), .ref (us 10), .int 0, .ref (us 12), .ref (us 13), .ref (us 14)])), (o, .inl (cL, 1, .inr (.inl (fun _ => 0))))] U.heap ∧ va_K (dC, dI) vwCl [(cN, .object RX4), (cL, .long)] U ∧ va_D (fun _ => True) [(h, .inr (11, [.ref (v 0), .int 0, .ref (v 2), .ref (v 3), .ref (v 4), .ref (v 5), .ref (v 6)])), (v 0, .inl (cN, 60, .inr (.inr (.inr (.inr (fun _ => none)))))), (v 6, .inr (8, [.int 0, .int 0, .int 0, .int 0, .long 0, .int 0, .int 0, .ref (us 7), .ref (us 8), .ref (us 9), .ref (us 10), .int 0, .ref (us 12), .ref (us 13), .ref (us 14)])), (o, .inl (cL, 1, .inr (.inl (fun _ => 0))))] ∧ GG (va_A [(h, .inr (11, [.ref (v 0), .int 0, .ref (v 2), .ref (v 3), .ref (v 4), .ref (v 5), .ref (v 6)])), (v 0, .inl (cN, 60, .inr (.inr (.inr (.inr (fun _ => none)))))), (v 6, .inr (8, [.int 0, .int 0, .int 0, .int 0, .long 0, .int 0, .int 0, .ref (us 7), .ref (us 8), .ref (us 9), .ref (us 10), .int 0, .ref (us 12), .ref (us 13), .ref (us 14)])), (o, .inl (cL, 1, .inr (.inl (fun _ => 0))))] sz) ad sa U U.heap)) (va_Qi (fun (r : Int32) (u : Nat → Int64) => r = 0 ∧ u 0 = 0) (fun (u : Nat → Int64) t => va_P (dC, dI) vwCl [(o, .inl (cL, 1, .inr (.inl u)))] t.heap ∧ va_K (dC, dI) vwCl [(cL, .long)] t ∧ va_D (va_A [(h, .inr (11, [.ref (v 0), .int 0, .ref (v 2), .ref (v 3), .ref (v 4), .ref (v 5), .ref (v 6)])), (v 0, .inl (cN, 60, .inr (.inr (.inr (.inr (fun _ => none)))))), (v 6, .inr (8, [.int 0, .int 0, .int 0, .int 0, .long 0, .int 0, .int 0, .ref (us 7), .ref (us 8), .ref (us 9), .ref (us 10), .int 0, .ref (us 12), .ref (us 13), .ref (us 14)])), (o, .inl (cL, 1, .inr (.inl (fun _ => 0))))] sz) [(o, .inl (cL, 1, .inr (.inl u)))]) (va_A [(h, .inr (11, [.ref (v 0), .int 0, .ref (v 2), .ref (v 3), .ref (v 4), .ref (v 5), .ref (v 6)])), (v 0, .inl (cN, 60, .inr (.inr (.inr (.inr (fun _ => none)))))), (v 6, .inr (8, [.int 0, .int 0, .int 0, .int 0, .long 0, .int 0, .int 0, .ref (us 7), .ref (us 8), .ref (us 9), .ref (us 10), .int 0, .ref (us 12), .ref (us 13), .ref (us 14)])), (o, .inl (cL, 1, .inr (.inl (fun _ => 0))))] sz)) (vx_X (fun _ : Unit => True) (fun _ _ _ => False) (va_A [(h, .inr (11, [.ref (v 0), .int 0, .ref (v 2), .ref (v 3), .ref (v 4), .ref (v 5), .ref (v 6)])), (v 0, .inl (cN, 60, .inr (.inr (.inr (.inr (fun _ => none)))))), (v 6, .inr (8, [.int 0, .int 0, .int 0, .int 0, .long 0, .int 0, .int 0, .ref (us 7), .ref (us 8), .ref (us 9), .ref (us 10), .int 0, .ref (us 12), .ref (us 13), .ref (us 14)])), (o, .inl (cL, 1, .inr (.inl (fun _ => 0))))] sz)) 1 15 (va_A [(h, .inr (11, [.ref (v 0), .int 0, .ref (v 2), .ref (v 3), .ref (v 4), .ref (v 5), .ref (v 6)])), (v 0, .inl (cN, 60, .inr (.inr (.inr (.inr (fun _ => none)))))), (v 6, .inr (8, [.int 0, .int 0, .int 0, .int 0, .long 0, .int 0, .int 0, .ref (us 7), .ref (us 8), .ref (us 9), .ref (us 10), .int 0, .ref (us 12), .ref (us 13), .ref (us 14)])), (o, .inl (cL, 1, .inr (.inl (fun _ => 0))))] sz) := by
  refine vx_ofWH (cc := cL_soft) (maxL := 3) (ret := (some .int)) (hh :=  [(0, 8, 11, 15)]) (by decide) rfl ?_
  intro p e s m args below meth c s₁ B hml hv
  obtain ⟨rfl, hsz, hP, hK, hD0, hG⟩ := hv
  have hx := B.exec
  have hb := B.bytes
  have hr := B.returns
  have hts := atoms_spec (ws := wq_L_soft) B.pre
  have htU : ∀ w ∈ UW, w.before _ s = true := fun w h => hts w (List.mem_cons_of_mem _ h)
  have hown : s.vm.findClass RL = some m.cls := findClass_of_methodNamed B.named
  have hlocks := B.notSynchronized
  have hT : c.exceptionTable.toList = tableOf  [(0, 8, 11, 15)] := vx_table (x := yL_soft) B (hts _ List.mem_cons_self)
  subst hsz
  have hD := hD0.self (sz := s.heap.size)
  generalize hAe : va_A [(h, .inr (11, [.ref (v 0), .int 0, .ref (v 2), .ref (v 3), .ref (v 4), .ref (v 5), .ref (v 6)])), (v 0, .inl (cN, 60, .inr (.inr (.inr (.inr (fun _ => none)))))), (v 6, .inr (8, [.int 0, .int 0, .int 0, .int 0, .long 0, .int 0, .int 0, .ref (us 7), .ref (us 8), .ref (us 9), .ref (us 10), .int 0, .ref (us 12), .ref (us 13), .ref (us 14)])), (o, .inl (cL, 1, .inr (.inl (fun _ => 0))))] s.heap.size = A at hD hG ⊢
  have hA : ∀ q : Nat, s.heap.size ≤ q → A q := fun q h => by rw [← hAe]; exact Or.inr h
  have hS : va_S A s.heap s.heap [] := va_S.rf
  have hl := lv_entry ([.ref h, .ref o]) (n := 3) (Nat.le_of_ble_eq_true rfl)
  rw [lg_entry_eq]
  generalize (lg_sl ([.ref h, .ref o]) ++ List.replicate (3 - (lg_sl ([.ref h, .ref o])).length) Slot.unset).toArray = ls at hl ⊢
  have hl : lv_has ls 3 [(0, .ref h), (1, .ref o)] := hl
  refine lv_aload_n hx hb dL_soft_0 rfl (lv_at hl 1 rfl) ?_
  refine lv_iconst (v := 0) hx hb dL_soft_1 (by decide) ?_
  refine lv_aload_n hx hb dL_soft_2 rfl (lv_at hl 0 rfl) ?_
  have hPc := hP.sub (ws' := [(h, .inr (11, [.ref (v 0), .int 0, .ref (v 2), .ref (v 3), .ref (v 4), .ref (v 5), .ref (v 6)])), (v 0, .inl (cN, 60, .inr (.inr (.inr (.inr (fun _ => none)))))), (v 6, .inr (8, [.int 0, .int 0, .int 0, .int 0, .long 0, .int 0, .int 0, .ref (us 7), .ref (us 8), .ref (us 9), .ref (us 10), .int 0, .ref (us 12), .ref (us 13), .ref (us 14)]))]) [0, 1, 2] rfl
  have hDc := hD.sub (ws' := [(h, .inr (11, [.ref (v 0), .int 0, .ref (v 2), .ref (v 3), .ref (v 4), .ref (v 5), .ref (v 6)])), (v 0, .inl (cN, 60, .inr (.inr (.inr (.inr (fun _ => none)))))), (v 6, .inr (8, [.int 0, .int 0, .int 0, .int 0, .long 0, .int 0, .int 0, .ref (us 7), .ref (us 8), .ref (us 9), .ref (us 10), .int 0, .ref (us 12), .ref (us 13), .ref (us 14)]))]) [0, 1, 2] (by decide) rfl
  have hKc := hK.sub (tys' := [(cN, .object RX4)]) [0] rfl
  have hFc := va_free (wc := [(h, .inr (11, [.ref (v 0), .int 0, .ref (v 2), .ref (v 3), .ref (v 4), .ref (v 5), .ref (v 6)])), (v 0, .inl (cN, 60, .inr (.inr (.inr (.inr (fun _ => none)))))), (v 6, .inr (8, [.int 0, .int 0, .int 0, .int 0, .long 0, .int 0, .int 0, .ref (us 7), .ref (us 8), .ref (us 9), .ref (us 10), .int 0, .ref (us 12), .ref (us 13), .ref (us 14)]))]) hD hS hA [0, 1, 2] rfl
  refine va_calli (va_runV (As := []) (rest := [.int 0, .ref o]) ⟨hx, hb, hml, hown, htU⟩ (c_X10_soft l hf dC dI ad sa h v us cN s.heap.size) (cwV 0 htU (gq_V u_656 u_657 u_658 u_91 u_659) rfl rfl rfl (by decide +kernel) ⟨(Nat.le_of_ble_eq_true rfl), (Nat.le_of_ble_eq_true rfl)⟩) ⟨(fun a U g mk q => by obtain ⟨q0, q1, qP, qK, qD, qG⟩ := q; exact ⟨q0, q1, qP, va_K.moved (u := U) (U := U.calling g mk a) (Vm.Alike.refl U.vm) qK, qD, GG.blind qG⟩), va_recv hKc hPc (ci := 11) (q0 := 0) rfl rfl, fun U hU hW => ⟨rfl, by rw [hU], by rw [hU]; exact hPc, va_K.moved hW.alike hKc, hDc.weaken (fun _ _ _ _ => trivial), GG.go hG hS hFc hU hW⟩⟩ rfl rfl hl.1 rfl (lv_room (Nat.le_of_ble_eq_true rfl)) dL_soft_3 ⟨(Nat.le_of_ble_eq_true rfl), (Nat.le_of_ble_eq_true rfl)⟩) hS (fun q _ h => hFc q h) hFc (fun r_1 u_2 t H locs ht hvm hw hB hz1 hk1 hS => ?_)
  obtain ⟨hP1, hK1, hD1⟩ := hB
  rw [ht] at hP1
  have hK1 := va_K.moved hvm.symm hK1
  try dsimp only at hw hP1 hK1 hD1
  have hK := (hK.sub (tys' := [(cN, .object RX4), (cL, .long)]) [0, 1] rfl).app hK1
  have hK : va_K (dC, dI) vwCl [(cN, .object RX4), (cL, .long)] s := hK
  obtain ⟨hP, hD⟩ := va_join (wr := [(o, .inl (cL, 1, .inr (.inl (fun _ => 0))))]) (w1 := []) hP hD [0, 1, 2] [3] rfl rfl (by decide) (by decide) hk1 hFc hP1 hD1
  have hP : va_P (dC, dI) vwCl [(o, .inl (cL, 1, .inr (.inl (fun _ => 0))))] H := hP
  have hD : va_D A [(o, .inl (cL, 1, .inr (.inl (fun _ => 0))))] := hD
  obtain rfl := hw
  refine lv_i2l (v := 0) hx hb dL_soft_6 (by decide) ?_
  refine va_last (D := (dC, dI)) hx hb hK hP hD hS 0 1 rfl rfl (by unfold vp_in; decide) dL_soft_7 (fun H locs hP hD hS => ?_)
  have hP : va_P (dC, dI) vwCl [(o, .inl (cL, 1, .inr (.inl (vp_updL (fun _ => 0) (0 : Int32).toNatClampNeg 0))))] H := hP
  have hD : va_D A [(o, .inl (cL, 1, .inr (.inl (vp_updL (fun _ => 0) (0 : Int32).toNatClampNeg 0))))] := hD
  refine lv_goto (tgt := 14) hx hb dL_soft_8 (by decide) ?_
  refine lv_iconst (v := 0) hx hb dL_soft_14 (by decide) ?_
  have hP9 := hP.sub (ws' := [(o, .inl (cL, 1, .inr (.inl (vp_updL (fun _ => 0) (0 : Int32).toNatClampNeg 0))))]) [0] rfl
  have hD9 := hD.sub (ws' := [(o, .inl (cL, 1, .inr (.inl (vp_updL (fun _ => 0) (0 : Int32).toNatClampNeg 0))))]) [0] (by decide) rfl
  have hK9 := hK.sub (tys' := [(cL, .long)]) [1] rfl
  refine W.widen (k := 1) (n := 15) (Nat.le_of_ble_eq_true rfl) (Nat.le_of_ble_eq_true rfl) ?_
  refine vx_ret ?_
  exact W.iret (v := 0) hx hb hr (fun t ht hW => ⟨⟨0, (vp_updL (fun _ => 0) (0 : Int32).toNatClampNeg 0), rfl, ⟨rfl, rfl⟩, ⟨by rw [ht]; exact hP9, va_K.moved hW.alike hK9, hD9⟩⟩, hS.F ht⟩) hS.2.2 dL_soft_15

set_option maxHeartbeats 4000000 in
set_option maxRecDepth 100000 in
/-- the law's hard -/
theorem c_L_hard (l : Launch) (hf : l.stackTraces = false) (dC : Nat → ClassId) (dI : Nat → Nat → Nat) (ad sa : Nat → Nat) (h : Nat) (v : Nat → Nat) (us : Nat → Nat) (cN : ClassId) (o : Nat) (cL : ClassId) (sz : Nat) : vx_Met l yL_hard wq_L_hard ({ frames := 12, cells := 1, slots := 15, locals := 284 }) (va_Pc [.ref h, .ref o] (fun U => U.heap.size = sz ∧ va_P (dC, dI) vwCl [(h, .inr (11, [.ref (v 0), .int 0, .ref (v 2), .ref (v 3), .ref (v 4), .ref (v 5), .ref (v 6)])), (v 0, .inl (cN, 60, .inr (.inr (.inr (.inr (fun _ => none)))))), (v 6, .inr (8, [.int 0, .int 0, .int 0, .int 0, .long 0, .int 0, .int 0, .ref (us 7), .ref (us 8), .ref (us 9), .ref (us 10), .int 0, .ref (us 12), .ref (us 13), .ref (us 14)])), (o, .inl (cL, 1, .inr (.inl (fun _ => 0))))] U.heap ∧ va_K (dC, dI) vwCl [(cN, .object RX4), (cL, .long)] U ∧ va_D (fun _ => True) [(h, .inr (11, [.ref (v 0), .int 0, .ref (v 2), .ref (v 3), .ref (v 4), .ref (v 5), .ref (v 6)])), (v 0, .inl (cN, 60, .inr (.inr (.inr (.inr (fun _ => none)))))), (v 6, .inr (8, [.int 0, .int 0, .int 0, .int 0, .long 0, .int 0, .int 0, .ref (us 7), .ref (us 8), .ref (us 9), .ref (us 10), .int 0, .ref (us 12), .ref (us 13), .ref (us 14)])), (o, .inl (cL, 1, .inr (.inl (fun _ => 0))))] ∧ GG (va_A [(h, .inr (11, [.ref (v 0), .int 0, .ref (v 2), .ref (v 3), .ref (v 4), .ref (v 5), .ref (v 6)])), (v 0, .inl (cN, 60, .inr (.inr (.inr (.inr (fun _ => none)))))), (v 6, .inr (8, [.int 0, .int 0, .int 0, .int 0, .long 0, .int 0, .int 0, .ref (us 7), .ref (us 8), .ref (us 9), .ref (us 10), .int 0, .ref (us 12), .ref (us 13), .ref (us 14)])), (o, .inl (cL, 1, .inr (.inl (fun _ => 0))))] sz) ad sa U U.heap)) (va_Qi (fun (r : Int32) (u : Nat → Int64) => r = 0 ∧ u 0 = 0) (fun (u : Nat → Int64) t => va_P (dC, dI) vwCl [(o, .inl (cL, 1, .inr (.inl u)))] t.heap ∧ va_K (dC, dI) vwCl [(cL, .long)] t ∧ va_D (va_A [(h, .inr (11, [.ref (v 0), .int 0, .ref (v 2), .ref (v 3), .ref (v 4), .ref (v 5), .ref (v 6)])), (v 0, .inl (cN, 60, .inr (.inr (.inr (.inr (fun _ => none)))))), (v 6, .inr (8, [.int 0, .int 0, .int 0, .int 0, .long 0, .int 0, .int 0, .ref (us 7), .ref (us 8), .ref (us 9), .ref (us 10), .int 0, .ref (us 12), .ref (us 13), .ref (us 14)])), (o, .inl (cL, 1, .inr (.inl (fun _ => 0))))] sz) [(o, .inl (cL, 1, .inr (.inl u)))]) (va_A [(h, .inr (11, [.ref (v 0), .int 0, .ref (v 2), .ref (v 3), .ref (v 4), .ref (v 5), .ref (v 6)])), (v 0, .inl (cN, 60, .inr (.inr (.inr (.inr (fun _ => none)))))), (v 6, .inr (8, [.int 0, .int 0, .int 0, .int 0, .long 0, .int 0, .int 0, .ref (us 7), .ref (us 8), .ref (us 9), .ref (us 10), .int 0, .ref (us 12), .ref (us 13), .ref (us 14)])), (o, .inl (cL, 1, .inr (.inl (fun _ => 0))))] sz)) (vx_X (fun _ : Unit => True) (fun _ _ _ => False) (va_A [(h, .inr (11, [.ref (v 0), .int 0, .ref (v 2), .ref (v 3), .ref (v 4), .ref (v 5), .ref (v 6)])), (v 0, .inl (cN, 60, .inr (.inr (.inr (.inr (fun _ => none)))))), (v 6, .inr (8, [.int 0, .int 0, .int 0, .int 0, .long 0, .int 0, .int 0, .ref (us 7), .ref (us 8), .ref (us 9), .ref (us 10), .int 0, .ref (us 12), .ref (us 13), .ref (us 14)])), (o, .inl (cL, 1, .inr (.inl (fun _ => 0))))] sz)) 1 15 (va_A [(h, .inr (11, [.ref (v 0), .int 0, .ref (v 2), .ref (v 3), .ref (v 4), .ref (v 5), .ref (v 6)])), (v 0, .inl (cN, 60, .inr (.inr (.inr (.inr (fun _ => none)))))), (v 6, .inr (8, [.int 0, .int 0, .int 0, .int 0, .long 0, .int 0, .int 0, .ref (us 7), .ref (us 8), .ref (us 9), .ref (us 10), .int 0, .ref (us 12), .ref (us 13), .ref (us 14)])), (o, .inl (cL, 1, .inr (.inl (fun _ => 0))))] sz) := by
  refine vx_ofWH (cc := cL_hard) (maxL := 3) (ret := (some .int)) (hh :=  [(0, 8, 11, 15)]) (by decide) rfl ?_
  intro p e s m args below meth c s₁ B hml hv
  obtain ⟨rfl, hsz, hP, hK, hD0, hG⟩ := hv
  have hx := B.exec
  have hb := B.bytes
  have hr := B.returns
  have hts := atoms_spec (ws := wq_L_hard) B.pre
  have htU : ∀ w ∈ UW, w.before _ s = true := fun w h => hts w (List.mem_cons_of_mem _ h)
  have hown : s.vm.findClass RL = some m.cls := findClass_of_methodNamed B.named
  have hlocks := B.notSynchronized
  have hT : c.exceptionTable.toList = tableOf  [(0, 8, 11, 15)] := vx_table (x := yL_hard) B (hts _ List.mem_cons_self)
  subst hsz
  have hD := hD0.self (sz := s.heap.size)
  generalize hAe : va_A [(h, .inr (11, [.ref (v 0), .int 0, .ref (v 2), .ref (v 3), .ref (v 4), .ref (v 5), .ref (v 6)])), (v 0, .inl (cN, 60, .inr (.inr (.inr (.inr (fun _ => none)))))), (v 6, .inr (8, [.int 0, .int 0, .int 0, .int 0, .long 0, .int 0, .int 0, .ref (us 7), .ref (us 8), .ref (us 9), .ref (us 10), .int 0, .ref (us 12), .ref (us 13), .ref (us 14)])), (o, .inl (cL, 1, .inr (.inl (fun _ => 0))))] s.heap.size = A at hD hG ⊢
  have hA : ∀ q : Nat, s.heap.size ≤ q → A q := fun q h => by rw [← hAe]; exact Or.inr h
  have hS : va_S A s.heap s.heap [] := va_S.rf
  have hl := lv_entry ([.ref h, .ref o]) (n := 3) (Nat.le_of_ble_eq_true rfl)
  rw [lg_entry_eq]
  generalize (lg_sl ([.ref h, .ref o]) ++ List.replicate (3 - (lg_sl ([.ref h, .ref o])).length) Slot.unset).toArray = ls at hl ⊢
  have hl : lv_has ls 3 [(0, .ref h), (1, .ref o)] := hl
  refine lv_aload_n hx hb dL_hard_0 rfl (lv_at hl 1 rfl) ?_
  refine lv_iconst (v := 0) hx hb dL_hard_1 (by decide) ?_
  refine lv_aload_n hx hb dL_hard_2 rfl (lv_at hl 0 rfl) ?_
  have hPc := hP.sub (ws' := [(h, .inr (11, [.ref (v 0), .int 0, .ref (v 2), .ref (v 3), .ref (v 4), .ref (v 5), .ref (v 6)])), (v 0, .inl (cN, 60, .inr (.inr (.inr (.inr (fun _ => none)))))), (v 6, .inr (8, [.int 0, .int 0, .int 0, .int 0, .long 0, .int 0, .int 0, .ref (us 7), .ref (us 8), .ref (us 9), .ref (us 10), .int 0, .ref (us 12), .ref (us 13), .ref (us 14)]))]) [0, 1, 2] rfl
  have hDc := hD.sub (ws' := [(h, .inr (11, [.ref (v 0), .int 0, .ref (v 2), .ref (v 3), .ref (v 4), .ref (v 5), .ref (v 6)])), (v 0, .inl (cN, 60, .inr (.inr (.inr (.inr (fun _ => none)))))), (v 6, .inr (8, [.int 0, .int 0, .int 0, .int 0, .long 0, .int 0, .int 0, .ref (us 7), .ref (us 8), .ref (us 9), .ref (us 10), .int 0, .ref (us 12), .ref (us 13), .ref (us 14)]))]) [0, 1, 2] (by decide) rfl
  have hKc := hK.sub (tys' := [(cN, .object RX4)]) [0] rfl
  have hFc := va_free (wc := [(h, .inr (11, [.ref (v 0), .int 0, .ref (v 2), .ref (v 3), .ref (v 4), .ref (v 5), .ref (v 6)])), (v 0, .inl (cN, 60, .inr (.inr (.inr (.inr (fun _ => none)))))), (v 6, .inr (8, [.int 0, .int 0, .int 0, .int 0, .long 0, .int 0, .int 0, .ref (us 7), .ref (us 8), .ref (us 9), .ref (us 10), .int 0, .ref (us 12), .ref (us 13), .ref (us 14)]))]) hD hS hA [0, 1, 2] rfl
  refine va_calli (va_runV (As := []) (rest := [.int 0, .ref o]) ⟨hx, hb, hml, hown, htU⟩ (c_X10_hard l hf dC dI ad sa h v us cN s.heap.size) (cwV 0 htU (gq_V u_664 u_665 u_666 u_91 u_667) rfl rfl rfl (by decide +kernel) ⟨(Nat.le_of_ble_eq_true rfl), (Nat.le_of_ble_eq_true rfl)⟩) ⟨(fun a U g mk q => by obtain ⟨q0, q1, qP, qK, qD, qG⟩ := q; exact ⟨q0, q1, qP, va_K.moved (u := U) (U := U.calling g mk a) (Vm.Alike.refl U.vm) qK, qD, GG.blind qG⟩), va_recv hKc hPc (ci := 11) (q0 := 0) rfl rfl, fun U hU hW => ⟨rfl, by rw [hU], by rw [hU]; exact hPc, va_K.moved hW.alike hKc, hDc.weaken (fun _ _ _ _ => trivial), GG.go hG hS hFc hU hW⟩⟩ rfl rfl hl.1 rfl (lv_room (Nat.le_of_ble_eq_true rfl)) dL_hard_3 ⟨(Nat.le_of_ble_eq_true rfl), (Nat.le_of_ble_eq_true rfl)⟩) hS (fun q _ h => hFc q h) hFc (fun r_1 u_2 t H locs ht hvm hw hB hz1 hk1 hS => ?_)
  obtain ⟨hP1, hK1, hD1⟩ := hB
  rw [ht] at hP1
  have hK1 := va_K.moved hvm.symm hK1
  try dsimp only at hw hP1 hK1 hD1
  have hK := (hK.sub (tys' := [(cN, .object RX4), (cL, .long)]) [0, 1] rfl).app hK1
  have hK : va_K (dC, dI) vwCl [(cN, .object RX4), (cL, .long)] s := hK
  obtain ⟨hP, hD⟩ := va_join (wr := [(o, .inl (cL, 1, .inr (.inl (fun _ => 0))))]) (w1 := []) hP hD [0, 1, 2] [3] rfl rfl (by decide) (by decide) hk1 hFc hP1 hD1
  have hP : va_P (dC, dI) vwCl [(o, .inl (cL, 1, .inr (.inl (fun _ => 0))))] H := hP
  have hD : va_D A [(o, .inl (cL, 1, .inr (.inl (fun _ => 0))))] := hD
  obtain rfl := hw
  refine lv_i2l (v := 0) hx hb dL_hard_6 (by decide) ?_
  refine va_last (D := (dC, dI)) hx hb hK hP hD hS 0 1 rfl rfl (by unfold vp_in; decide) dL_hard_7 (fun H locs hP hD hS => ?_)
  have hP : va_P (dC, dI) vwCl [(o, .inl (cL, 1, .inr (.inl (vp_updL (fun _ => 0) (0 : Int32).toNatClampNeg 0))))] H := hP
  have hD : va_D A [(o, .inl (cL, 1, .inr (.inl (vp_updL (fun _ => 0) (0 : Int32).toNatClampNeg 0))))] := hD
  refine lv_goto (tgt := 14) hx hb dL_hard_8 (by decide) ?_
  refine lv_iconst (v := 0) hx hb dL_hard_14 (by decide) ?_
  have hP9 := hP.sub (ws' := [(o, .inl (cL, 1, .inr (.inl (vp_updL (fun _ => 0) (0 : Int32).toNatClampNeg 0))))]) [0] rfl
  have hD9 := hD.sub (ws' := [(o, .inl (cL, 1, .inr (.inl (vp_updL (fun _ => 0) (0 : Int32).toNatClampNeg 0))))]) [0] (by decide) rfl
  have hK9 := hK.sub (tys' := [(cL, .long)]) [1] rfl
  refine W.widen (k := 1) (n := 15) (Nat.le_of_ble_eq_true rfl) (Nat.le_of_ble_eq_true rfl) ?_
  refine vx_ret ?_
  exact W.iret (v := 0) hx hb hr (fun t ht hW => ⟨⟨0, (vp_updL (fun _ => 0) (0 : Int32).toNatClampNeg 0), rfl, ⟨rfl, rfl⟩, ⟨by rw [ht]; exact hP9, va_K.moved hW.alike hK9, hD9⟩⟩, hS.F ht⟩) hS.2.2 dL_hard_15

set_option maxHeartbeats 4000000 in
set_option maxRecDepth 100000 in
/-- the law's tab -/
theorem c_L_tab (l : Launch) (hf : l.stackTraces = false) (dC : Nat → ClassId) (dI : Nat → Nat → Nat) (ad sa : Nat → Nat) (h : Nat) (v : Nat → Nat) (us : Nat → Nat) (cN : ClassId) (o : Nat) (cL : ClassId) (p0 : Int32) (sz : Nat) : vx_Met l yL_tab wq_L_tab ({ frames := 12, cells := 2, slots := 21, locals := 285 }) (va_Pc [.ref h, .int p0, .ref o] (fun U => U.heap.size = sz ∧ va_P (dC, dI) vwCl [(h, .inr (11, [.ref (v 0), .int 0, .ref (v 2), .ref (v 3), .ref (v 4), .ref (v 5), .ref (v 6)])), (v 0, .inl (cN, 60, .inr (.inr (.inr (.inr (fun _ => none)))))), (v 6, .inr (8, [.int 0, .int 0, .int 0, .int 0, .long 0, .int 0, .int 0, .ref (us 7), .ref (us 8), .ref (us 9), .ref (us 10), .int 0, .ref (us 12), .ref (us 13), .ref (us 14)])), (o, .inl (cL, 1, .inr (.inl (fun _ => 0))))] U.heap ∧ va_K (dC, dI) vwCl [(cN, .object RX4), (cL, .long)] U ∧ va_D (fun _ => True) [(h, .inr (11, [.ref (v 0), .int 0, .ref (v 2), .ref (v 3), .ref (v 4), .ref (v 5), .ref (v 6)])), (v 0, .inl (cN, 60, .inr (.inr (.inr (.inr (fun _ => none)))))), (v 6, .inr (8, [.int 0, .int 0, .int 0, .int 0, .long 0, .int 0, .int 0, .ref (us 7), .ref (us 8), .ref (us 9), .ref (us 10), .int 0, .ref (us 12), .ref (us 13), .ref (us 14)])), (o, .inl (cL, 1, .inr (.inl (fun _ => 0))))] ∧ GG (va_A [(h, .inr (11, [.ref (v 0), .int 0, .ref (v 2), .ref (v 3), .ref (v 4), .ref (v 5), .ref (v 6)])), (v 0, .inl (cN, 60, .inr (.inr (.inr (.inr (fun _ => none)))))), (v 6, .inr (8, [.int 0, .int 0, .int 0, .int 0, .long 0, .int 0, .int 0, .ref (us 7), .ref (us 8), .ref (us 9), .ref (us 10), .int 0, .ref (us 12), .ref (us 13), .ref (us 14)])), (o, .inl (cL, 1, .inr (.inl (fun _ => 0))))] sz) ad sa U U.heap)) (va_Qi (fun (r : Int32) (u : Nat → Int64) => r = kIf ((0 ≤ p0 ∧ p0 ≤ 80)) ∧ u 0 = 0) (fun (u : Nat → Int64) t => va_P (dC, dI) vwCl [(o, .inl (cL, 1, .inr (.inl u)))] t.heap ∧ va_K (dC, dI) vwCl [(cL, .long)] t ∧ va_D (va_A [(h, .inr (11, [.ref (v 0), .int 0, .ref (v 2), .ref (v 3), .ref (v 4), .ref (v 5), .ref (v 6)])), (v 0, .inl (cN, 60, .inr (.inr (.inr (.inr (fun _ => none)))))), (v 6, .inr (8, [.int 0, .int 0, .int 0, .int 0, .long 0, .int 0, .int 0, .ref (us 7), .ref (us 8), .ref (us 9), .ref (us 10), .int 0, .ref (us 12), .ref (us 13), .ref (us 14)])), (o, .inl (cL, 1, .inr (.inl (fun _ => 0))))] sz) [(o, .inl (cL, 1, .inr (.inl u)))]) (va_A [(h, .inr (11, [.ref (v 0), .int 0, .ref (v 2), .ref (v 3), .ref (v 4), .ref (v 5), .ref (v 6)])), (v 0, .inl (cN, 60, .inr (.inr (.inr (.inr (fun _ => none)))))), (v 6, .inr (8, [.int 0, .int 0, .int 0, .int 0, .long 0, .int 0, .int 0, .ref (us 7), .ref (us 8), .ref (us 9), .ref (us 10), .int 0, .ref (us 12), .ref (us 13), .ref (us 14)])), (o, .inl (cL, 1, .inr (.inl (fun _ => 0))))] sz)) (vx_X (fun _ : Unit => True) (fun _ _ _ => False) (va_A [(h, .inr (11, [.ref (v 0), .int 0, .ref (v 2), .ref (v 3), .ref (v 4), .ref (v 5), .ref (v 6)])), (v 0, .inl (cN, 60, .inr (.inr (.inr (.inr (fun _ => none)))))), (v 6, .inr (8, [.int 0, .int 0, .int 0, .int 0, .long 0, .int 0, .int 0, .ref (us 7), .ref (us 8), .ref (us 9), .ref (us 10), .int 0, .ref (us 12), .ref (us 13), .ref (us 14)])), (o, .inl (cL, 1, .inr (.inl (fun _ => 0))))] sz)) 2 21 (va_A [(h, .inr (11, [.ref (v 0), .int 0, .ref (v 2), .ref (v 3), .ref (v 4), .ref (v 5), .ref (v 6)])), (v 0, .inl (cN, 60, .inr (.inr (.inr (.inr (fun _ => none)))))), (v 6, .inr (8, [.int 0, .int 0, .int 0, .int 0, .long 0, .int 0, .int 0, .ref (us 7), .ref (us 8), .ref (us 9), .ref (us 10), .int 0, .ref (us 12), .ref (us 13), .ref (us 14)])), (o, .inl (cL, 1, .inr (.inl (fun _ => 0))))] sz) := by
  refine vx_ofWH (cc := cL_tab) (maxL := 4) (ret := (some .int)) (hh :=  [(0, 9, 12, 13), (0, 9, 15, 15)]) (by decide) rfl ?_
  intro p e s m args below meth c s₁ B hml hv
  obtain ⟨rfl, hsz, hP, hK, hD0, hG⟩ := hv
  have hx := B.exec
  have hb := B.bytes
  have hr := B.returns
  have hts := atoms_spec (ws := wq_L_tab) B.pre
  have htU : ∀ w ∈ UW, w.before _ s = true := fun w h => hts w (List.mem_cons_of_mem _ h)
  have hown : s.vm.findClass RL = some m.cls := findClass_of_methodNamed B.named
  have hlocks := B.notSynchronized
  have hT : c.exceptionTable.toList = tableOf  [(0, 9, 12, 13), (0, 9, 15, 15)] := vx_table (x := yL_tab) B (hts _ List.mem_cons_self)
  subst hsz
  have hD := hD0.self (sz := s.heap.size)
  generalize hAe : va_A [(h, .inr (11, [.ref (v 0), .int 0, .ref (v 2), .ref (v 3), .ref (v 4), .ref (v 5), .ref (v 6)])), (v 0, .inl (cN, 60, .inr (.inr (.inr (.inr (fun _ => none)))))), (v 6, .inr (8, [.int 0, .int 0, .int 0, .int 0, .long 0, .int 0, .int 0, .ref (us 7), .ref (us 8), .ref (us 9), .ref (us 10), .int 0, .ref (us 12), .ref (us 13), .ref (us 14)])), (o, .inl (cL, 1, .inr (.inl (fun _ => 0))))] s.heap.size = A at hD hG ⊢
  have hA : ∀ q : Nat, s.heap.size ≤ q → A q := fun q h => by rw [← hAe]; exact Or.inr h
  have hS : va_S A s.heap s.heap [] := va_S.rf
  have hl := lv_entry ([.ref h, .int p0, .ref o]) (n := 4) (Nat.le_of_ble_eq_true rfl)
  rw [lg_entry_eq]
  generalize (lg_sl ([.ref h, .int p0, .ref o]) ++ List.replicate (4 - (lg_sl ([.ref h, .int p0, .ref o])).length) Slot.unset).toArray = ls at hl ⊢
  have hl : lv_has ls 4 [(0, .ref h), (1, .int p0), (2, .ref o)] := hl
  refine lv_aload_n hx hb dL_tab_0 rfl (lv_at hl 2 rfl) ?_
  refine lv_iconst (v := 0) hx hb dL_tab_1 (by decide) ?_
  refine lv_aload_n hx hb dL_tab_2 rfl (lv_at hl 0 rfl) ?_
  refine lv_iload_n hx hb dL_tab_3 rfl (lv_at hl 1 rfl) ?_
  have hPc := hP.sub (ws' := [(h, .inr (11, [.ref (v 0), .int 0, .ref (v 2), .ref (v 3), .ref (v 4), .ref (v 5), .ref (v 6)])), (v 0, .inl (cN, 60, .inr (.inr (.inr (.inr (fun _ => none)))))), (v 6, .inr (8, [.int 0, .int 0, .int 0, .int 0, .long 0, .int 0, .int 0, .ref (us 7), .ref (us 8), .ref (us 9), .ref (us 10), .int 0, .ref (us 12), .ref (us 13), .ref (us 14)]))]) [0, 1, 2] rfl
  have hDc := hD.sub (ws' := [(h, .inr (11, [.ref (v 0), .int 0, .ref (v 2), .ref (v 3), .ref (v 4), .ref (v 5), .ref (v 6)])), (v 0, .inl (cN, 60, .inr (.inr (.inr (.inr (fun _ => none)))))), (v 6, .inr (8, [.int 0, .int 0, .int 0, .int 0, .long 0, .int 0, .int 0, .ref (us 7), .ref (us 8), .ref (us 9), .ref (us 10), .int 0, .ref (us 12), .ref (us 13), .ref (us 14)]))]) [0, 1, 2] (by decide) rfl
  have hKc := hK.sub (tys' := [(cN, .object RX4)]) [0] rfl
  have hFc := va_free (wc := [(h, .inr (11, [.ref (v 0), .int 0, .ref (v 2), .ref (v 3), .ref (v 4), .ref (v 5), .ref (v 6)])), (v 0, .inl (cN, 60, .inr (.inr (.inr (.inr (fun _ => none)))))), (v 6, .inr (8, [.int 0, .int 0, .int 0, .int 0, .long 0, .int 0, .int 0, .ref (us 7), .ref (us 8), .ref (us 9), .ref (us 10), .int 0, .ref (us 12), .ref (us 13), .ref (us 14)]))]) hD hS hA [0, 1, 2] rfl
  refine vx_calli (vx_runV (As := [.int p0]) (rest := [.int 0, .ref o]) ⟨hx, hb, hml, hown, htU⟩ (c_X10_tab l hf dC dI ad sa h v us cN p0 s.heap.size) (cwV 1 htU (gq_V u_672 u_673 u_674 u_91 u_675) rfl rfl rfl (by decide +kernel) ⟨(Nat.le_of_ble_eq_true rfl), (Nat.le_of_ble_eq_true rfl)⟩) ⟨(fun a U g mk q => by obtain ⟨q0, q1, qP, qK, qD, qG⟩ := q; exact ⟨q0, q1, qP, va_K.moved (u := U) (U := U.calling g mk a) (Vm.Alike.refl U.vm) qK, qD, GG.blind qG⟩), va_recv hKc hPc (ci := 11) (q0 := 0) rfl rfl, fun U hU hW => ⟨rfl, by rw [hU], by rw [hU]; exact hPc, va_K.moved hW.alike hKc, hDc.weaken (fun _ _ _ _ => trivial), GG.go hG hS hFc hU hW⟩⟩ rfl rfl hl.1 rfl (lv_room (Nat.le_of_ble_eq_true rfl)) dL_tab_4 ⟨(Nat.le_of_ble_eq_true rfl), (Nat.le_of_ble_eq_true rfl)⟩) hS (fun q _ h => hFc q h) hFc (fun q _ h => hFc q h) (fun E ce q9 _ t H locs ht hvm hpx hB hz1 hk1 hS hce hcv hcl => ?_) (fun r_1 u_2 t H locs ht hvm hw hB hz1 hk1 hS => ?_)
  · obtain ⟨rfl, hxc⟩ := hB
    refine vx_catch (own := RL) (name := xIA) hown [] ⟨0, 9, 12, 13⟩ [⟨0, 9, 15, 15⟩] (hT.trans rfl) (fun z hz => absurd hz List.not_mem_nil) rfl (by decide) (htU _ u_437) (va_Nw.use rfl (hG.ca 0 rfl)) hce hcv hcl ?_
    obtain ⟨hP, hD⟩ := va_join (wr := [(o, .inl (cL, 1, .inr (.inl (fun _ => 0))))]) (w1 := []) hP hD [0, 1, 2] [3] rfl rfl (by decide) (by decide) hk1 hFc (fun k q h => by simp at h) ⟨fun i j p q h => by simp at h, fun k q h => by simp at h⟩
    have hP : va_P (dC, dI) vwCl [(o, .inl (cL, 1, .inr (.inl (fun _ => 0))))] H := hP
    have hD : va_D A [(o, .inl (cL, 1, .inr (.inl (fun _ => 0))))] := hD
    refine lv_astore_n (lv' := [(3, .ref q9), (0, .ref h), (1, .int p0), (2, .ref o)]) hx hb dL_tab_12 rfl hl (by decide) rfl (fun ls hl => ?_)
    refine lv_iconst (v := 1) hx hb dL_tab_13 (by decide) ?_
    have hP9 := hP.sub (ws' := [(o, .inl (cL, 1, .inr (.inl (fun _ => 0))))]) [0] rfl
    have hD9 := hD.sub (ws' := [(o, .inl (cL, 1, .inr (.inl (fun _ => 0))))]) [0] (by decide) rfl
    have hK9 := hK.sub (tys' := [(cL, .long)]) [1] rfl
    refine W.widen (k := 2) (n := 21) (Nat.le_of_ble_eq_true rfl) (Nat.le_of_ble_eq_true rfl) ?_
    refine vx_ret ?_
    exact W.iret (v := 1) hx hb hr (fun t ht hW => ⟨⟨1, (fun _ => 0), rfl, ⟨(kIf_f hxc).symm, rfl⟩, ⟨by rw [ht]; exact hP9, va_K.moved hW.alike hK9, hD9⟩⟩, hS.F ht⟩) hS.2.2 dL_tab_14
  · obtain ⟨hP1, hK1, hD1⟩ := hB
    rw [ht] at hP1
    have hK1 := va_K.moved hvm.symm hK1
    try dsimp only at hw hP1 hK1 hD1
    have hK := (hK.sub (tys' := [(cN, .object RX4), (cL, .long)]) [0, 1] rfl).app hK1
    have hK : va_K (dC, dI) vwCl [(cN, .object RX4), (cL, .long)] s := hK
    obtain ⟨hP, hD⟩ := va_join (wr := [(o, .inl (cL, 1, .inr (.inl (fun _ => 0))))]) (w1 := []) hP hD [0, 1, 2] [3] rfl rfl (by decide) (by decide) hk1 hFc hP1 hD1
    have hP : va_P (dC, dI) vwCl [(o, .inl (cL, 1, .inr (.inl (fun _ => 0))))] H := hP
    have hD : va_D A [(o, .inl (cL, 1, .inr (.inl (fun _ => 0))))] := hD
    obtain ⟨ok_r_1, rfl⟩ := hw
    refine lv_i2l (v := 0) hx hb dL_tab_7 (by decide) ?_
    refine va_last (D := (dC, dI)) hx hb hK hP hD hS 0 1 rfl rfl (by unfold vp_in; decide) dL_tab_8 (fun H locs hP hD hS => ?_)
    have hP : va_P (dC, dI) vwCl [(o, .inl (cL, 1, .inr (.inl (vp_updL (fun _ => 0) (0 : Int32).toNatClampNeg 0))))] H := hP
    have hD : va_D A [(o, .inl (cL, 1, .inr (.inl (vp_updL (fun _ => 0) (0 : Int32).toNatClampNeg 0))))] := hD
    refine lv_goto (tgt := 18) hx hb dL_tab_9 (by decide) ?_
    refine lv_iconst (v := 0) hx hb dL_tab_18 (by decide) ?_
    have hP9 := hP.sub (ws' := [(o, .inl (cL, 1, .inr (.inl (vp_updL (fun _ => 0) (0 : Int32).toNatClampNeg 0))))]) [0] rfl
    have hD9 := hD.sub (ws' := [(o, .inl (cL, 1, .inr (.inl (vp_updL (fun _ => 0) (0 : Int32).toNatClampNeg 0))))]) [0] (by decide) rfl
    have hK9 := hK.sub (tys' := [(cL, .long)]) [1] rfl
    refine W.widen (k := 2) (n := 21) (Nat.le_of_ble_eq_true rfl) (Nat.le_of_ble_eq_true rfl) ?_
    refine vx_ret ?_
    exact W.iret (v := 0) hx hb hr (fun t ht hW => ⟨⟨0, (vp_updL (fun _ => 0) (0 : Int32).toNatClampNeg 0), rfl, ⟨(kIf_t ok_r_1).symm, rfl⟩, ⟨by rw [ht]; exact hP9, va_K.moved hW.alike hK9, hD9⟩⟩, hS.F ht⟩) hS.2.2 dL_tab_19

set_option maxHeartbeats 4000000 in
set_option maxRecDepth 100000 in
/-- the law's pair -/
theorem c_L_pair (l : Launch) (hf : l.stackTraces = false) (dC : Nat → ClassId) (dI : Nat → Nat → Nat) (ad sa : Nat → Nat) (h : Nat) (v : Nat → Nat) (us : Nat → Nat) (cN : ClassId) (o : Nat) (cL : ClassId) (p0 : Int32) (p1 : Int32) (sz : Nat) : vx_Met l yL_pair wq_L_pair ({ frames := 10, cells := 2, slots := 21, locals := 244 }) (va_Pc [.ref h, .int p0, .int p1, .ref o] (fun U => U.heap.size = sz ∧ va_P (dC, dI) vwCl [(h, .inr (11, [.ref (v 0), .int 0, .ref (v 2), .ref (v 3), .ref (v 4), .ref (v 5), .ref (v 6)])), (v 0, .inl (cN, 60, .inr (.inr (.inr (.inr (fun _ => none)))))), (v 6, .inr (8, [.int 0, .int 0, .int 0, .int 0, .long 0, .int 0, .int 0, .ref (us 7), .ref (us 8), .ref (us 9), .ref (us 10), .int 0, .ref (us 12), .ref (us 13), .ref (us 14)])), (o, .inl (cL, 1, .inr (.inl (fun _ => 0))))] U.heap ∧ va_K (dC, dI) vwCl [(cN, .object RX4), (cL, .long)] U ∧ va_D (fun _ => True) [(h, .inr (11, [.ref (v 0), .int 0, .ref (v 2), .ref (v 3), .ref (v 4), .ref (v 5), .ref (v 6)])), (v 0, .inl (cN, 60, .inr (.inr (.inr (.inr (fun _ => none)))))), (v 6, .inr (8, [.int 0, .int 0, .int 0, .int 0, .long 0, .int 0, .int 0, .ref (us 7), .ref (us 8), .ref (us 9), .ref (us 10), .int 0, .ref (us 12), .ref (us 13), .ref (us 14)])), (o, .inl (cL, 1, .inr (.inl (fun _ => 0))))] ∧ GG (va_A [(h, .inr (11, [.ref (v 0), .int 0, .ref (v 2), .ref (v 3), .ref (v 4), .ref (v 5), .ref (v 6)])), (v 0, .inl (cN, 60, .inr (.inr (.inr (.inr (fun _ => none)))))), (v 6, .inr (8, [.int 0, .int 0, .int 0, .int 0, .long 0, .int 0, .int 0, .ref (us 7), .ref (us 8), .ref (us 9), .ref (us 10), .int 0, .ref (us 12), .ref (us 13), .ref (us 14)])), (o, .inl (cL, 1, .inr (.inl (fun _ => 0))))] sz) ad sa U U.heap)) (va_Qi (fun (r : Int32) (u : Nat → Int64) => r = 1 ∧ u 0 = 0) (fun (u : Nat → Int64) t => va_P (dC, dI) vwCl [(o, .inl (cL, 1, .inr (.inl u)))] t.heap ∧ va_K (dC, dI) vwCl [(cL, .long)] t ∧ va_D (va_A [(h, .inr (11, [.ref (v 0), .int 0, .ref (v 2), .ref (v 3), .ref (v 4), .ref (v 5), .ref (v 6)])), (v 0, .inl (cN, 60, .inr (.inr (.inr (.inr (fun _ => none)))))), (v 6, .inr (8, [.int 0, .int 0, .int 0, .int 0, .long 0, .int 0, .int 0, .ref (us 7), .ref (us 8), .ref (us 9), .ref (us 10), .int 0, .ref (us 12), .ref (us 13), .ref (us 14)])), (o, .inl (cL, 1, .inr (.inl (fun _ => 0))))] sz) [(o, .inl (cL, 1, .inr (.inl u)))]) (va_A [(h, .inr (11, [.ref (v 0), .int 0, .ref (v 2), .ref (v 3), .ref (v 4), .ref (v 5), .ref (v 6)])), (v 0, .inl (cN, 60, .inr (.inr (.inr (.inr (fun _ => none)))))), (v 6, .inr (8, [.int 0, .int 0, .int 0, .int 0, .long 0, .int 0, .int 0, .ref (us 7), .ref (us 8), .ref (us 9), .ref (us 10), .int 0, .ref (us 12), .ref (us 13), .ref (us 14)])), (o, .inl (cL, 1, .inr (.inl (fun _ => 0))))] sz)) (vx_X (fun _ : Unit => True) (fun _ _ _ => False) (va_A [(h, .inr (11, [.ref (v 0), .int 0, .ref (v 2), .ref (v 3), .ref (v 4), .ref (v 5), .ref (v 6)])), (v 0, .inl (cN, 60, .inr (.inr (.inr (.inr (fun _ => none)))))), (v 6, .inr (8, [.int 0, .int 0, .int 0, .int 0, .long 0, .int 0, .int 0, .ref (us 7), .ref (us 8), .ref (us 9), .ref (us 10), .int 0, .ref (us 12), .ref (us 13), .ref (us 14)])), (o, .inl (cL, 1, .inr (.inl (fun _ => 0))))] sz)) 2 21 (va_A [(h, .inr (11, [.ref (v 0), .int 0, .ref (v 2), .ref (v 3), .ref (v 4), .ref (v 5), .ref (v 6)])), (v 0, .inl (cN, 60, .inr (.inr (.inr (.inr (fun _ => none)))))), (v 6, .inr (8, [.int 0, .int 0, .int 0, .int 0, .long 0, .int 0, .int 0, .ref (us 7), .ref (us 8), .ref (us 9), .ref (us 10), .int 0, .ref (us 12), .ref (us 13), .ref (us 14)])), (o, .inl (cL, 1, .inr (.inl (fun _ => 0))))] sz) := by
  refine vx_ofWH (cc := cL_pair) (maxL := 5) (ret := (some .int)) (hh :=  [(0, 10, 13, 37), (0, 10, 17, 15)]) (by decide) rfl ?_
  intro p e s m args below meth c s₁ B hml hv
  obtain ⟨rfl, hsz, hP, hK, hD0, hG⟩ := hv
  have hx := B.exec
  have hb := B.bytes
  have hr := B.returns
  have hts := atoms_spec (ws := wq_L_pair) B.pre
  have htU : ∀ w ∈ UW, w.before _ s = true := fun w h => hts w (List.mem_cons_of_mem _ h)
  have hown : s.vm.findClass RL = some m.cls := findClass_of_methodNamed B.named
  have hlocks := B.notSynchronized
  have hT : c.exceptionTable.toList = tableOf  [(0, 10, 13, 37), (0, 10, 17, 15)] := vx_table (x := yL_pair) B (hts _ List.mem_cons_self)
  subst hsz
  have hD := hD0.self (sz := s.heap.size)
  generalize hAe : va_A [(h, .inr (11, [.ref (v 0), .int 0, .ref (v 2), .ref (v 3), .ref (v 4), .ref (v 5), .ref (v 6)])), (v 0, .inl (cN, 60, .inr (.inr (.inr (.inr (fun _ => none)))))), (v 6, .inr (8, [.int 0, .int 0, .int 0, .int 0, .long 0, .int 0, .int 0, .ref (us 7), .ref (us 8), .ref (us 9), .ref (us 10), .int 0, .ref (us 12), .ref (us 13), .ref (us 14)])), (o, .inl (cL, 1, .inr (.inl (fun _ => 0))))] s.heap.size = A at hD hG ⊢
  have hA : ∀ q : Nat, s.heap.size ≤ q → A q := fun q h => by rw [← hAe]; exact Or.inr h
  have hS : va_S A s.heap s.heap [] := va_S.rf
  have hl := lv_entry ([.ref h, .int p0, .int p1, .ref o]) (n := 5) (Nat.le_of_ble_eq_true rfl)
  rw [lg_entry_eq]
  generalize (lg_sl ([.ref h, .int p0, .int p1, .ref o]) ++ List.replicate (5 - (lg_sl ([.ref h, .int p0, .int p1, .ref o])).length) Slot.unset).toArray = ls at hl ⊢
  have hl : lv_has ls 5 [(0, .ref h), (1, .int p0), (2, .int p1), (3, .ref o)] := hl
  refine lv_aload_n hx hb dL_pair_0 rfl (lv_at hl 3 rfl) ?_
  refine lv_iconst (v := 0) hx hb dL_pair_1 (by decide) ?_
  refine lv_aload_n hx hb dL_pair_2 rfl (lv_at hl 0 rfl) ?_
  refine lv_iload_n hx hb dL_pair_3 rfl (lv_at hl 1 rfl) ?_
  refine lv_iload_n hx hb dL_pair_4 rfl (lv_at hl 2 rfl) ?_
  have hPc := hP.sub (ws' := [(h, .inr (11, [.ref (v 0), .int 0, .ref (v 2), .ref (v 3), .ref (v 4), .ref (v 5), .ref (v 6)])), (v 0, .inl (cN, 60, .inr (.inr (.inr (.inr (fun _ => none)))))), (v 6, .inr (8, [.int 0, .int 0, .int 0, .int 0, .long 0, .int 0, .int 0, .ref (us 7), .ref (us 8), .ref (us 9), .ref (us 10), .int 0, .ref (us 12), .ref (us 13), .ref (us 14)]))]) [0, 1, 2] rfl
  have hDc := hD.sub (ws' := [(h, .inr (11, [.ref (v 0), .int 0, .ref (v 2), .ref (v 3), .ref (v 4), .ref (v 5), .ref (v 6)])), (v 0, .inl (cN, 60, .inr (.inr (.inr (.inr (fun _ => none)))))), (v 6, .inr (8, [.int 0, .int 0, .int 0, .int 0, .long 0, .int 0, .int 0, .ref (us 7), .ref (us 8), .ref (us 9), .ref (us 10), .int 0, .ref (us 12), .ref (us 13), .ref (us 14)]))]) [0, 1, 2] (by decide) rfl
  have hKc := hK.sub (tys' := [(cN, .object RX4)]) [0] rfl
  have hFc := va_free (wc := [(h, .inr (11, [.ref (v 0), .int 0, .ref (v 2), .ref (v 3), .ref (v 4), .ref (v 5), .ref (v 6)])), (v 0, .inl (cN, 60, .inr (.inr (.inr (.inr (fun _ => none)))))), (v 6, .inr (8, [.int 0, .int 0, .int 0, .int 0, .long 0, .int 0, .int 0, .ref (us 7), .ref (us 8), .ref (us 9), .ref (us 10), .int 0, .ref (us 12), .ref (us 13), .ref (us 14)]))]) hD hS hA [0, 1, 2] rfl
  refine vx_calli (vx_runV (As := [.int p0, .int p1]) (rest := [.int 0, .ref o]) ⟨hx, hb, hml, hown, htU⟩ (c_X10_pair l hf dC dI ad sa h v us cN p0 p1 s.heap.size) (cwV 2 htU (gq_V u_681 u_682 u_683 u_91 u_684) rfl rfl rfl (by decide +kernel) ⟨(Nat.le_of_ble_eq_true rfl), (Nat.le_of_ble_eq_true rfl)⟩) ⟨(fun a U g mk q => by obtain ⟨q0, q1, qP, qK, qD, qG⟩ := q; exact ⟨q0, q1, qP, va_K.moved (u := U) (U := U.calling g mk a) (Vm.Alike.refl U.vm) qK, qD, GG.blind qG⟩), va_recv hKc hPc (ci := 11) (q0 := 0) rfl rfl, fun U hU hW => ⟨rfl, by rw [hU], by rw [hU]; exact hPc, va_K.moved hW.alike hKc, hDc.weaken (fun _ _ _ _ => trivial), GG.go hG hS hFc hU hW⟩⟩ rfl rfl hl.1 rfl (lv_room (Nat.le_of_ble_eq_true rfl)) dL_pair_5 ⟨(Nat.le_of_ble_eq_true rfl), (Nat.le_of_ble_eq_true rfl)⟩) hS (fun q _ h => hFc q h) hFc (fun q _ h => hFc q h) (fun E ce q9 _ t H locs ht hvm hpx hB hz1 hk1 hS hce hcv hcl => ?_) (fun r_1 u_2 t H locs ht hvm hw hB hz1 hk1 hS => ?_)
  · obtain ⟨rfl, hxc⟩ := hB
    refine vx_catch (own := RL) (name := xIO) hown [] ⟨0, 10, 13, 37⟩ [⟨0, 10, 17, 15⟩] (hT.trans rfl) (fun z hz => absurd hz List.not_mem_nil) rfl (by decide) (htU _ u_680) (va_Nw.use rfl (hG.ca 2 rfl)) hce hcv hcl ?_
    obtain ⟨hP, hD⟩ := va_join (wr := [(o, .inl (cL, 1, .inr (.inl (fun _ => 0))))]) (w1 := []) hP hD [0, 1, 2] [3] rfl rfl (by decide) (by decide) hk1 hFc (fun k q h => by simp at h) ⟨fun i j p q h => by simp at h, fun k q h => by simp at h⟩
    have hP : va_P (dC, dI) vwCl [(o, .inl (cL, 1, .inr (.inl (fun _ => 0))))] H := hP
    have hD : va_D A [(o, .inl (cL, 1, .inr (.inl (fun _ => 0))))] := hD
    refine lv_astore (lv' := [(4, .ref q9), (0, .ref h), (1, .int p0), (2, .int p1), (3, .ref o)]) hx hb dL_pair_13 hl (by decide) rfl (fun ls hl => ?_)
    refine lv_iconst (v := 1) hx hb dL_pair_15 (by decide) ?_
    have hP9 := hP.sub (ws' := [(o, .inl (cL, 1, .inr (.inl (fun _ => 0))))]) [0] rfl
    have hD9 := hD.sub (ws' := [(o, .inl (cL, 1, .inr (.inl (fun _ => 0))))]) [0] (by decide) rfl
    have hK9 := hK.sub (tys' := [(cL, .long)]) [1] rfl
    refine W.widen (k := 2) (n := 21) (Nat.le_of_ble_eq_true rfl) (Nat.le_of_ble_eq_true rfl) ?_
    refine vx_ret ?_
    exact W.iret (v := 1) hx hb hr (fun t ht hW => ⟨⟨1, (fun _ => 0), rfl, ⟨rfl, rfl⟩, ⟨by rw [ht]; exact hP9, va_K.moved hW.alike hK9, hD9⟩⟩, hS.F ht⟩) hS.2.2 dL_pair_16
  · exact False.elim hw

set_option maxHeartbeats 4000000 in
set_option maxRecDepth 100000 in
/-- the law's nest -/
theorem c_L_nest (l : Launch) (hf : l.stackTraces = false) (dC : Nat → ClassId) (dI : Nat → Nat → Nat) (ad sa : Nat → Nat) (h : Nat) (v : Nat → Nat) (us : Nat → Nat) (cN : ClassId) (o : Nat) (cL : ClassId) (p0 : Int32) (p1 : Int32) (sz : Nat) : vx_Met l yL_nest wq_L_nest ({ frames := 10, cells := 1, slots := 6, locals := 245 }) (va_Pc [.ref h, .int p0, .int p1, .ref o] (fun U => U.heap.size = sz ∧ va_P (dC, dI) vwCl [(h, .inr (11, [.ref (v 0), .int 0, .ref (v 2), .ref (v 3), .ref (v 4), .ref (v 5), .ref (v 6)])), (v 0, .inl (cN, 60, .inr (.inr (.inr (.inr (fun _ => none)))))), (v 6, .inr (8, [.int 0, .int 0, .int 0, .int 0, .long 0, .int 0, .int 0, .ref (us 7), .ref (us 8), .ref (us 9), .ref (us 10), .int 0, .ref (us 12), .ref (us 13), .ref (us 14)])), (o, .inl (cL, 1, .inr (.inl (fun _ => 0))))] U.heap ∧ va_K (dC, dI) vwCl [(cN, .object RX4), (cL, .long)] U ∧ va_D (fun _ => True) [(h, .inr (11, [.ref (v 0), .int 0, .ref (v 2), .ref (v 3), .ref (v 4), .ref (v 5), .ref (v 6)])), (v 0, .inl (cN, 60, .inr (.inr (.inr (.inr (fun _ => none)))))), (v 6, .inr (8, [.int 0, .int 0, .int 0, .int 0, .long 0, .int 0, .int 0, .ref (us 7), .ref (us 8), .ref (us 9), .ref (us 10), .int 0, .ref (us 12), .ref (us 13), .ref (us 14)])), (o, .inl (cL, 1, .inr (.inl (fun _ => 0))))] ∧ GG (va_A [(h, .inr (11, [.ref (v 0), .int 0, .ref (v 2), .ref (v 3), .ref (v 4), .ref (v 5), .ref (v 6)])), (v 0, .inl (cN, 60, .inr (.inr (.inr (.inr (fun _ => none)))))), (v 6, .inr (8, [.int 0, .int 0, .int 0, .int 0, .long 0, .int 0, .int 0, .ref (us 7), .ref (us 8), .ref (us 9), .ref (us 10), .int 0, .ref (us 12), .ref (us 13), .ref (us 14)])), (o, .inl (cL, 1, .inr (.inl (fun _ => 0))))] sz) ad sa U U.heap)) (va_Qi (fun (r : Int32) (u : Nat → Int64) => r = 1 ∧ u 0 = 0) (fun (u : Nat → Int64) t => va_P (dC, dI) vwCl [(o, .inl (cL, 1, .inr (.inl u)))] t.heap ∧ va_K (dC, dI) vwCl [(cL, .long)] t ∧ va_D (va_A [(h, .inr (11, [.ref (v 0), .int 0, .ref (v 2), .ref (v 3), .ref (v 4), .ref (v 5), .ref (v 6)])), (v 0, .inl (cN, 60, .inr (.inr (.inr (.inr (fun _ => none)))))), (v 6, .inr (8, [.int 0, .int 0, .int 0, .int 0, .long 0, .int 0, .int 0, .ref (us 7), .ref (us 8), .ref (us 9), .ref (us 10), .int 0, .ref (us 12), .ref (us 13), .ref (us 14)])), (o, .inl (cL, 1, .inr (.inl (fun _ => 0))))] sz) [(o, .inl (cL, 1, .inr (.inl u)))]) (va_A [(h, .inr (11, [.ref (v 0), .int 0, .ref (v 2), .ref (v 3), .ref (v 4), .ref (v 5), .ref (v 6)])), (v 0, .inl (cN, 60, .inr (.inr (.inr (.inr (fun _ => none)))))), (v 6, .inr (8, [.int 0, .int 0, .int 0, .int 0, .long 0, .int 0, .int 0, .ref (us 7), .ref (us 8), .ref (us 9), .ref (us 10), .int 0, .ref (us 12), .ref (us 13), .ref (us 14)])), (o, .inl (cL, 1, .inr (.inl (fun _ => 0))))] sz)) (vx_X (fun _ : Unit => True) (fun _ _ _ => False) (va_A [(h, .inr (11, [.ref (v 0), .int 0, .ref (v 2), .ref (v 3), .ref (v 4), .ref (v 5), .ref (v 6)])), (v 0, .inl (cN, 60, .inr (.inr (.inr (.inr (fun _ => none)))))), (v 6, .inr (8, [.int 0, .int 0, .int 0, .int 0, .long 0, .int 0, .int 0, .ref (us 7), .ref (us 8), .ref (us 9), .ref (us 10), .int 0, .ref (us 12), .ref (us 13), .ref (us 14)])), (o, .inl (cL, 1, .inr (.inl (fun _ => 0))))] sz)) 1 6 (va_A [(h, .inr (11, [.ref (v 0), .int 0, .ref (v 2), .ref (v 3), .ref (v 4), .ref (v 5), .ref (v 6)])), (v 0, .inl (cN, 60, .inr (.inr (.inr (.inr (fun _ => none)))))), (v 6, .inr (8, [.int 0, .int 0, .int 0, .int 0, .long 0, .int 0, .int 0, .ref (us 7), .ref (us 8), .ref (us 9), .ref (us 10), .int 0, .ref (us 12), .ref (us 13), .ref (us 14)])), (o, .inl (cL, 1, .inr (.inl (fun _ => 0))))] sz) := by
  refine vx_ofWH (cc := cL_nest) (maxL := 5) (ret := (some .int)) (hh :=  [(0, 10, 13, 37), (0, 10, 17, 13), (0, 10, 21, 15)]) (by decide) rfl ?_
  intro p e s m args below meth c s₁ B hml hv
  obtain ⟨rfl, hsz, hP, hK, hD0, hG⟩ := hv
  have hx := B.exec
  have hb := B.bytes
  have hr := B.returns
  have hts := atoms_spec (ws := wq_L_nest) B.pre
  have htU : ∀ w ∈ UW, w.before _ s = true := fun w h => hts w (List.mem_cons_of_mem _ h)
  have hown : s.vm.findClass RL = some m.cls := findClass_of_methodNamed B.named
  have hlocks := B.notSynchronized
  have hT : c.exceptionTable.toList = tableOf  [(0, 10, 13, 37), (0, 10, 17, 13), (0, 10, 21, 15)] := vx_table (x := yL_nest) B (hts _ List.mem_cons_self)
  subst hsz
  have hD := hD0.self (sz := s.heap.size)
  generalize hAe : va_A [(h, .inr (11, [.ref (v 0), .int 0, .ref (v 2), .ref (v 3), .ref (v 4), .ref (v 5), .ref (v 6)])), (v 0, .inl (cN, 60, .inr (.inr (.inr (.inr (fun _ => none)))))), (v 6, .inr (8, [.int 0, .int 0, .int 0, .int 0, .long 0, .int 0, .int 0, .ref (us 7), .ref (us 8), .ref (us 9), .ref (us 10), .int 0, .ref (us 12), .ref (us 13), .ref (us 14)])), (o, .inl (cL, 1, .inr (.inl (fun _ => 0))))] s.heap.size = A at hD hG ⊢
  have hA : ∀ q : Nat, s.heap.size ≤ q → A q := fun q h => by rw [← hAe]; exact Or.inr h
  have hS : va_S A s.heap s.heap [] := va_S.rf
  have hl := lv_entry ([.ref h, .int p0, .int p1, .ref o]) (n := 5) (Nat.le_of_ble_eq_true rfl)
  rw [lg_entry_eq]
  generalize (lg_sl ([.ref h, .int p0, .int p1, .ref o]) ++ List.replicate (5 - (lg_sl ([.ref h, .int p0, .int p1, .ref o])).length) Slot.unset).toArray = ls at hl ⊢
  have hl : lv_has ls 5 [(0, .ref h), (1, .int p0), (2, .int p1), (3, .ref o)] := hl
  refine lv_aload_n hx hb dL_nest_0 rfl (lv_at hl 3 rfl) ?_
  refine lv_iconst (v := 0) hx hb dL_nest_1 (by decide) ?_
  refine lv_aload_n hx hb dL_nest_2 rfl (lv_at hl 0 rfl) ?_
  refine lv_iload_n hx hb dL_nest_3 rfl (lv_at hl 1 rfl) ?_
  refine lv_iload_n hx hb dL_nest_4 rfl (lv_at hl 2 rfl) ?_
  have hPc := hP.sub (ws' := [(h, .inr (11, [.ref (v 0), .int 0, .ref (v 2), .ref (v 3), .ref (v 4), .ref (v 5), .ref (v 6)])), (v 0, .inl (cN, 60, .inr (.inr (.inr (.inr (fun _ => none)))))), (v 6, .inr (8, [.int 0, .int 0, .int 0, .int 0, .long 0, .int 0, .int 0, .ref (us 7), .ref (us 8), .ref (us 9), .ref (us 10), .int 0, .ref (us 12), .ref (us 13), .ref (us 14)]))]) [0, 1, 2] rfl
  have hDc := hD.sub (ws' := [(h, .inr (11, [.ref (v 0), .int 0, .ref (v 2), .ref (v 3), .ref (v 4), .ref (v 5), .ref (v 6)])), (v 0, .inl (cN, 60, .inr (.inr (.inr (.inr (fun _ => none)))))), (v 6, .inr (8, [.int 0, .int 0, .int 0, .int 0, .long 0, .int 0, .int 0, .ref (us 7), .ref (us 8), .ref (us 9), .ref (us 10), .int 0, .ref (us 12), .ref (us 13), .ref (us 14)]))]) [0, 1, 2] (by decide) rfl
  have hKc := hK.sub (tys' := [(cN, .object RX4)]) [0] rfl
  have hFc := va_free (wc := [(h, .inr (11, [.ref (v 0), .int 0, .ref (v 2), .ref (v 3), .ref (v 4), .ref (v 5), .ref (v 6)])), (v 0, .inl (cN, 60, .inr (.inr (.inr (.inr (fun _ => none)))))), (v 6, .inr (8, [.int 0, .int 0, .int 0, .int 0, .long 0, .int 0, .int 0, .ref (us 7), .ref (us 8), .ref (us 9), .ref (us 10), .int 0, .ref (us 12), .ref (us 13), .ref (us 14)]))]) hD hS hA [0, 1, 2] rfl
  refine vx_calli (vx_runV (As := [.int p0, .int p1]) (rest := [.int 0, .ref o]) ⟨hx, hb, hml, hown, htU⟩ (c_X10_nest l hf dC dI ad sa h v us cN p0 p1 s.heap.size) (cwV 2 htU (gq_V u_742 u_743 u_744 u_91 u_745) rfl rfl rfl (by decide +kernel) ⟨(Nat.le_of_ble_eq_true rfl), (Nat.le_of_ble_eq_true rfl)⟩) ⟨(fun a U g mk q => by obtain ⟨q0, q1, qP, qK, qD, qG⟩ := q; exact ⟨q0, q1, qP, va_K.moved (u := U) (U := U.calling g mk a) (Vm.Alike.refl U.vm) qK, qD, GG.blind qG⟩), va_recv hKc hPc (ci := 11) (q0 := 0) rfl rfl, fun U hU hW => ⟨rfl, by rw [hU], by rw [hU]; exact hPc, va_K.moved hW.alike hKc, hDc.weaken (fun _ _ _ _ => trivial), GG.go hG hS hFc hU hW⟩⟩ rfl rfl hl.1 rfl (lv_room (Nat.le_of_ble_eq_true rfl)) dL_nest_5 ⟨(Nat.le_of_ble_eq_true rfl), (Nat.le_of_ble_eq_true rfl)⟩) hS (fun q _ h => hFc q h) hFc (fun q _ h => hFc q h) (fun E ce q9 _ t H locs ht hvm hpx hB hz1 hk1 hS hce hcv hcl => ?_) (fun r_1 u_2 t H locs ht hvm hw hB hz1 hk1 hS => ?_)
  · obtain ⟨rfl, hxc⟩ := hB
    refine vx_catch (own := RL) (name := xIO) hown [] ⟨0, 10, 13, 37⟩ [⟨0, 10, 17, 13⟩, ⟨0, 10, 21, 15⟩] (hT.trans rfl) (fun z hz => absurd hz List.not_mem_nil) rfl (by decide) (htU _ u_680) (va_Nw.use rfl (hG.ca 2 rfl)) hce hcv hcl ?_
    obtain ⟨hP, hD⟩ := va_join (wr := [(o, .inl (cL, 1, .inr (.inl (fun _ => 0))))]) (w1 := []) hP hD [0, 1, 2] [3] rfl rfl (by decide) (by decide) hk1 hFc (fun k q h => by simp at h) ⟨fun i j p q h => by simp at h, fun k q h => by simp at h⟩
    have hP : va_P (dC, dI) vwCl [(o, .inl (cL, 1, .inr (.inl (fun _ => 0))))] H := hP
    have hD : va_D A [(o, .inl (cL, 1, .inr (.inl (fun _ => 0))))] := hD
    refine lv_astore (lv' := [(4, .ref q9), (0, .ref h), (1, .int p0), (2, .int p1), (3, .ref o)]) hx hb dL_nest_13 hl (by decide) rfl (fun ls hl => ?_)
    refine lv_iconst (v := 1) hx hb dL_nest_15 (by decide) ?_
    have hP9 := hP.sub (ws' := [(o, .inl (cL, 1, .inr (.inl (fun _ => 0))))]) [0] rfl
    have hD9 := hD.sub (ws' := [(o, .inl (cL, 1, .inr (.inl (fun _ => 0))))]) [0] (by decide) rfl
    have hK9 := hK.sub (tys' := [(cL, .long)]) [1] rfl
    refine W.widen (k := 1) (n := 6) (Nat.le_of_ble_eq_true rfl) (Nat.le_of_ble_eq_true rfl) ?_
    refine vx_ret ?_
    exact W.iret (v := 1) hx hb hr (fun t ht hW => ⟨⟨1, (fun _ => 0), rfl, ⟨rfl, rfl⟩, ⟨by rw [ht]; exact hP9, va_K.moved hW.alike hK9, hD9⟩⟩, hS.F ht⟩) hS.2.2 dL_nest_16
  · exact False.elim hw

set_option maxHeartbeats 4000000 in
set_option maxRecDepth 100000 in
/-- the law's align -/
theorem c_L_align (l : Launch) (hf : l.stackTraces = false) (dC : Nat → ClassId) (dI : Nat → Nat → Nat) (ad sa : Nat → Nat) (h : Nat) (v : Nat → Nat) (us : Nat → Nat) (cN : ClassId) (o : Nat) (cL : ClassId) (p0 : Int32) (sz : Nat) : vx_Met l yL_align wq_L_align ({ frames := 10, cells := 2, slots := 21, locals := 243 }) (va_Pc [.ref h, .int p0, .ref o] (fun U => U.heap.size = sz ∧ va_P (dC, dI) vwCl [(h, .inr (11, [.ref (v 0), .int 0, .ref (v 2), .ref (v 3), .ref (v 4), .ref (v 5), .ref (v 6)])), (v 0, .inl (cN, 60, .inr (.inr (.inr (.inr (fun _ => none)))))), (v 6, .inr (8, [.int 0, .int 0, .int 0, .int 0, .long 0, .int 0, .int 0, .ref (us 7), .ref (us 8), .ref (us 9), .ref (us 10), .int 0, .ref (us 12), .ref (us 13), .ref (us 14)])), (o, .inl (cL, 1, .inr (.inl (fun _ => 0))))] U.heap ∧ va_K (dC, dI) vwCl [(cN, .object RX4), (cL, .long)] U ∧ va_D (fun _ => True) [(h, .inr (11, [.ref (v 0), .int 0, .ref (v 2), .ref (v 3), .ref (v 4), .ref (v 5), .ref (v 6)])), (v 0, .inl (cN, 60, .inr (.inr (.inr (.inr (fun _ => none)))))), (v 6, .inr (8, [.int 0, .int 0, .int 0, .int 0, .long 0, .int 0, .int 0, .ref (us 7), .ref (us 8), .ref (us 9), .ref (us 10), .int 0, .ref (us 12), .ref (us 13), .ref (us 14)])), (o, .inl (cL, 1, .inr (.inl (fun _ => 0))))] ∧ GG (va_A [(h, .inr (11, [.ref (v 0), .int 0, .ref (v 2), .ref (v 3), .ref (v 4), .ref (v 5), .ref (v 6)])), (v 0, .inl (cN, 60, .inr (.inr (.inr (.inr (fun _ => none)))))), (v 6, .inr (8, [.int 0, .int 0, .int 0, .int 0, .long 0, .int 0, .int 0, .ref (us 7), .ref (us 8), .ref (us 9), .ref (us 10), .int 0, .ref (us 12), .ref (us 13), .ref (us 14)])), (o, .inl (cL, 1, .inr (.inl (fun _ => 0))))] sz) ad sa U U.heap)) (va_Qi (fun (r : Int32) (u : Nat → Int64) => r = 1 ∧ u 0 = 0) (fun (u : Nat → Int64) t => va_P (dC, dI) vwCl [(o, .inl (cL, 1, .inr (.inl u)))] t.heap ∧ va_K (dC, dI) vwCl [(cL, .long)] t ∧ va_D (va_A [(h, .inr (11, [.ref (v 0), .int 0, .ref (v 2), .ref (v 3), .ref (v 4), .ref (v 5), .ref (v 6)])), (v 0, .inl (cN, 60, .inr (.inr (.inr (.inr (fun _ => none)))))), (v 6, .inr (8, [.int 0, .int 0, .int 0, .int 0, .long 0, .int 0, .int 0, .ref (us 7), .ref (us 8), .ref (us 9), .ref (us 10), .int 0, .ref (us 12), .ref (us 13), .ref (us 14)])), (o, .inl (cL, 1, .inr (.inl (fun _ => 0))))] sz) [(o, .inl (cL, 1, .inr (.inl u)))]) (va_A [(h, .inr (11, [.ref (v 0), .int 0, .ref (v 2), .ref (v 3), .ref (v 4), .ref (v 5), .ref (v 6)])), (v 0, .inl (cN, 60, .inr (.inr (.inr (.inr (fun _ => none)))))), (v 6, .inr (8, [.int 0, .int 0, .int 0, .int 0, .long 0, .int 0, .int 0, .ref (us 7), .ref (us 8), .ref (us 9), .ref (us 10), .int 0, .ref (us 12), .ref (us 13), .ref (us 14)])), (o, .inl (cL, 1, .inr (.inl (fun _ => 0))))] sz)) (vx_X (fun _ : Unit => True) (fun _ _ _ => False) (va_A [(h, .inr (11, [.ref (v 0), .int 0, .ref (v 2), .ref (v 3), .ref (v 4), .ref (v 5), .ref (v 6)])), (v 0, .inl (cN, 60, .inr (.inr (.inr (.inr (fun _ => none)))))), (v 6, .inr (8, [.int 0, .int 0, .int 0, .int 0, .long 0, .int 0, .int 0, .ref (us 7), .ref (us 8), .ref (us 9), .ref (us 10), .int 0, .ref (us 12), .ref (us 13), .ref (us 14)])), (o, .inl (cL, 1, .inr (.inl (fun _ => 0))))] sz)) 2 21 (va_A [(h, .inr (11, [.ref (v 0), .int 0, .ref (v 2), .ref (v 3), .ref (v 4), .ref (v 5), .ref (v 6)])), (v 0, .inl (cN, 60, .inr (.inr (.inr (.inr (fun _ => none)))))), (v 6, .inr (8, [.int 0, .int 0, .int 0, .int 0, .long 0, .int 0, .int 0, .ref (us 7), .ref (us 8), .ref (us 9), .ref (us 10), .int 0, .ref (us 12), .ref (us 13), .ref (us 14)])), (o, .inl (cL, 1, .inr (.inl (fun _ => 0))))] sz) := by
  refine vx_ofWH (cc := cL_align) (maxL := 4) (ret := (some .int)) (hh :=  [(0, 9, 12, 37), (0, 9, 15, 15)]) (by decide) rfl ?_
  intro p e s m args below meth c s₁ B hml hv
  obtain ⟨rfl, hsz, hP, hK, hD0, hG⟩ := hv
  have hx := B.exec
  have hb := B.bytes
  have hr := B.returns
  have hts := atoms_spec (ws := wq_L_align) B.pre
  have htU : ∀ w ∈ UW, w.before _ s = true := fun w h => hts w (List.mem_cons_of_mem _ h)
  have hown : s.vm.findClass RL = some m.cls := findClass_of_methodNamed B.named
  have hlocks := B.notSynchronized
  have hT : c.exceptionTable.toList = tableOf  [(0, 9, 12, 37), (0, 9, 15, 15)] := vx_table (x := yL_align) B (hts _ List.mem_cons_self)
  subst hsz
  have hD := hD0.self (sz := s.heap.size)
  generalize hAe : va_A [(h, .inr (11, [.ref (v 0), .int 0, .ref (v 2), .ref (v 3), .ref (v 4), .ref (v 5), .ref (v 6)])), (v 0, .inl (cN, 60, .inr (.inr (.inr (.inr (fun _ => none)))))), (v 6, .inr (8, [.int 0, .int 0, .int 0, .int 0, .long 0, .int 0, .int 0, .ref (us 7), .ref (us 8), .ref (us 9), .ref (us 10), .int 0, .ref (us 12), .ref (us 13), .ref (us 14)])), (o, .inl (cL, 1, .inr (.inl (fun _ => 0))))] s.heap.size = A at hD hG ⊢
  have hA : ∀ q : Nat, s.heap.size ≤ q → A q := fun q h => by rw [← hAe]; exact Or.inr h
  have hS : va_S A s.heap s.heap [] := va_S.rf
  have hl := lv_entry ([.ref h, .int p0, .ref o]) (n := 4) (Nat.le_of_ble_eq_true rfl)
  rw [lg_entry_eq]
  generalize (lg_sl ([.ref h, .int p0, .ref o]) ++ List.replicate (4 - (lg_sl ([.ref h, .int p0, .ref o])).length) Slot.unset).toArray = ls at hl ⊢
  have hl : lv_has ls 4 [(0, .ref h), (1, .int p0), (2, .ref o)] := hl
  refine lv_aload_n hx hb dL_align_0 rfl (lv_at hl 2 rfl) ?_
  refine lv_iconst (v := 0) hx hb dL_align_1 (by decide) ?_
  refine lv_aload_n hx hb dL_align_2 rfl (lv_at hl 0 rfl) ?_
  refine lv_iload_n hx hb dL_align_3 rfl (lv_at hl 1 rfl) ?_
  have hPc := hP.sub (ws' := [(h, .inr (11, [.ref (v 0), .int 0, .ref (v 2), .ref (v 3), .ref (v 4), .ref (v 5), .ref (v 6)])), (v 0, .inl (cN, 60, .inr (.inr (.inr (.inr (fun _ => none)))))), (v 6, .inr (8, [.int 0, .int 0, .int 0, .int 0, .long 0, .int 0, .int 0, .ref (us 7), .ref (us 8), .ref (us 9), .ref (us 10), .int 0, .ref (us 12), .ref (us 13), .ref (us 14)]))]) [0, 1, 2] rfl
  have hDc := hD.sub (ws' := [(h, .inr (11, [.ref (v 0), .int 0, .ref (v 2), .ref (v 3), .ref (v 4), .ref (v 5), .ref (v 6)])), (v 0, .inl (cN, 60, .inr (.inr (.inr (.inr (fun _ => none)))))), (v 6, .inr (8, [.int 0, .int 0, .int 0, .int 0, .long 0, .int 0, .int 0, .ref (us 7), .ref (us 8), .ref (us 9), .ref (us 10), .int 0, .ref (us 12), .ref (us 13), .ref (us 14)]))]) [0, 1, 2] (by decide) rfl
  have hKc := hK.sub (tys' := [(cN, .object RX4)]) [0] rfl
  have hFc := va_free (wc := [(h, .inr (11, [.ref (v 0), .int 0, .ref (v 2), .ref (v 3), .ref (v 4), .ref (v 5), .ref (v 6)])), (v 0, .inl (cN, 60, .inr (.inr (.inr (.inr (fun _ => none)))))), (v 6, .inr (8, [.int 0, .int 0, .int 0, .int 0, .long 0, .int 0, .int 0, .ref (us 7), .ref (us 8), .ref (us 9), .ref (us 10), .int 0, .ref (us 12), .ref (us 13), .ref (us 14)]))]) hD hS hA [0, 1, 2] rfl
  refine vx_calli (vx_runV (As := [.int p0]) (rest := [.int 0, .ref o]) ⟨hx, hb, hml, hown, htU⟩ (c_X10_align l hf dC dI ad sa h v us cN p0 s.heap.size) (cwV 1 htU (gq_V u_751 u_752 u_753 u_91 u_754) rfl rfl rfl (by decide +kernel) ⟨(Nat.le_of_ble_eq_true rfl), (Nat.le_of_ble_eq_true rfl)⟩) ⟨(fun a U g mk q => by obtain ⟨q0, q1, qP, qK, qD, qG⟩ := q; exact ⟨q0, q1, qP, va_K.moved (u := U) (U := U.calling g mk a) (Vm.Alike.refl U.vm) qK, qD, GG.blind qG⟩), va_recv hKc hPc (ci := 11) (q0 := 0) rfl rfl, fun U hU hW => ⟨rfl, by rw [hU], by rw [hU]; exact hPc, va_K.moved hW.alike hKc, hDc.weaken (fun _ _ _ _ => trivial), GG.go hG hS hFc hU hW⟩⟩ rfl rfl hl.1 rfl (lv_room (Nat.le_of_ble_eq_true rfl)) dL_align_4 ⟨(Nat.le_of_ble_eq_true rfl), (Nat.le_of_ble_eq_true rfl)⟩) hS (fun q _ h => hFc q h) hFc (fun q _ h => hFc q h) (fun E ce q9 _ t H locs ht hvm hpx hB hz1 hk1 hS hce hcv hcl => ?_) (fun r_1 u_2 t H locs ht hvm hw hB hz1 hk1 hS => ?_)
  · obtain ⟨rfl, hxc⟩ := hB
    refine vx_catch (own := RL) (name := xIO) hown [] ⟨0, 9, 12, 37⟩ [⟨0, 9, 15, 15⟩] (hT.trans rfl) (fun z hz => absurd hz List.not_mem_nil) rfl (by decide) (htU _ u_680) (va_Nw.use rfl (hG.ca 2 rfl)) hce hcv hcl ?_
    obtain ⟨hP, hD⟩ := va_join (wr := [(o, .inl (cL, 1, .inr (.inl (fun _ => 0))))]) (w1 := []) hP hD [0, 1, 2] [3] rfl rfl (by decide) (by decide) hk1 hFc (fun k q h => by simp at h) ⟨fun i j p q h => by simp at h, fun k q h => by simp at h⟩
    have hP : va_P (dC, dI) vwCl [(o, .inl (cL, 1, .inr (.inl (fun _ => 0))))] H := hP
    have hD : va_D A [(o, .inl (cL, 1, .inr (.inl (fun _ => 0))))] := hD
    refine lv_astore_n (lv' := [(3, .ref q9), (0, .ref h), (1, .int p0), (2, .ref o)]) hx hb dL_align_12 rfl hl (by decide) rfl (fun ls hl => ?_)
    refine lv_iconst (v := 1) hx hb dL_align_13 (by decide) ?_
    have hP9 := hP.sub (ws' := [(o, .inl (cL, 1, .inr (.inl (fun _ => 0))))]) [0] rfl
    have hD9 := hD.sub (ws' := [(o, .inl (cL, 1, .inr (.inl (fun _ => 0))))]) [0] (by decide) rfl
    have hK9 := hK.sub (tys' := [(cL, .long)]) [1] rfl
    refine W.widen (k := 2) (n := 21) (Nat.le_of_ble_eq_true rfl) (Nat.le_of_ble_eq_true rfl) ?_
    refine vx_ret ?_
    exact W.iret (v := 1) hx hb hr (fun t ht hW => ⟨⟨1, (fun _ => 0), rfl, ⟨rfl, rfl⟩, ⟨by rw [ht]; exact hP9, va_K.moved hW.alike hK9, hD9⟩⟩, hS.F ht⟩) hS.2.2 dL_align_14
  · exact False.elim hw

set_option maxHeartbeats 4000000 in
set_option maxRecDepth 100000 in
/-- the law's group -/
theorem c_L_group (l : Launch) (hf : l.stackTraces = false) (dC : Nat → ClassId) (dI : Nat → Nat → Nat) (ad sa : Nat → Nat) (h : Nat) (v : Nat → Nat) (us : Nat → Nat) (cN : ClassId) (o : Nat) (cL : ClassId) (p0 : Int32) (sz : Nat) : vx_Met l yL_group wq_L_group ({ frames := 10, cells := 2, slots := 21, locals := 243 }) (va_Pc [.ref h, .int p0, .ref o] (fun U => U.heap.size = sz ∧ va_P (dC, dI) vwCl [(h, .inr (11, [.ref (v 0), .int 0, .ref (v 2), .ref (v 3), .ref (v 4), .ref (v 5), .ref (v 6)])), (v 0, .inl (cN, 60, .inr (.inr (.inr (.inr (fun _ => none)))))), (v 6, .inr (8, [.int 0, .int 0, .int 0, .int 0, .long 0, .int 0, .int 0, .ref (us 7), .ref (us 8), .ref (us 9), .ref (us 10), .int 0, .ref (us 12), .ref (us 13), .ref (us 14)])), (o, .inl (cL, 1, .inr (.inl (fun _ => 0))))] U.heap ∧ va_K (dC, dI) vwCl [(cN, .object RX4), (cL, .long)] U ∧ va_D (fun _ => True) [(h, .inr (11, [.ref (v 0), .int 0, .ref (v 2), .ref (v 3), .ref (v 4), .ref (v 5), .ref (v 6)])), (v 0, .inl (cN, 60, .inr (.inr (.inr (.inr (fun _ => none)))))), (v 6, .inr (8, [.int 0, .int 0, .int 0, .int 0, .long 0, .int 0, .int 0, .ref (us 7), .ref (us 8), .ref (us 9), .ref (us 10), .int 0, .ref (us 12), .ref (us 13), .ref (us 14)])), (o, .inl (cL, 1, .inr (.inl (fun _ => 0))))] ∧ GG (va_A [(h, .inr (11, [.ref (v 0), .int 0, .ref (v 2), .ref (v 3), .ref (v 4), .ref (v 5), .ref (v 6)])), (v 0, .inl (cN, 60, .inr (.inr (.inr (.inr (fun _ => none)))))), (v 6, .inr (8, [.int 0, .int 0, .int 0, .int 0, .long 0, .int 0, .int 0, .ref (us 7), .ref (us 8), .ref (us 9), .ref (us 10), .int 0, .ref (us 12), .ref (us 13), .ref (us 14)])), (o, .inl (cL, 1, .inr (.inl (fun _ => 0))))] sz) ad sa U U.heap)) (va_Qi (fun (r : Int32) (u : Nat → Int64) => r = 1 ∧ u 0 = 0) (fun (u : Nat → Int64) t => va_P (dC, dI) vwCl [(o, .inl (cL, 1, .inr (.inl u)))] t.heap ∧ va_K (dC, dI) vwCl [(cL, .long)] t ∧ va_D (va_A [(h, .inr (11, [.ref (v 0), .int 0, .ref (v 2), .ref (v 3), .ref (v 4), .ref (v 5), .ref (v 6)])), (v 0, .inl (cN, 60, .inr (.inr (.inr (.inr (fun _ => none)))))), (v 6, .inr (8, [.int 0, .int 0, .int 0, .int 0, .long 0, .int 0, .int 0, .ref (us 7), .ref (us 8), .ref (us 9), .ref (us 10), .int 0, .ref (us 12), .ref (us 13), .ref (us 14)])), (o, .inl (cL, 1, .inr (.inl (fun _ => 0))))] sz) [(o, .inl (cL, 1, .inr (.inl u)))]) (va_A [(h, .inr (11, [.ref (v 0), .int 0, .ref (v 2), .ref (v 3), .ref (v 4), .ref (v 5), .ref (v 6)])), (v 0, .inl (cN, 60, .inr (.inr (.inr (.inr (fun _ => none)))))), (v 6, .inr (8, [.int 0, .int 0, .int 0, .int 0, .long 0, .int 0, .int 0, .ref (us 7), .ref (us 8), .ref (us 9), .ref (us 10), .int 0, .ref (us 12), .ref (us 13), .ref (us 14)])), (o, .inl (cL, 1, .inr (.inl (fun _ => 0))))] sz)) (vx_X (fun _ : Unit => True) (fun _ _ _ => False) (va_A [(h, .inr (11, [.ref (v 0), .int 0, .ref (v 2), .ref (v 3), .ref (v 4), .ref (v 5), .ref (v 6)])), (v 0, .inl (cN, 60, .inr (.inr (.inr (.inr (fun _ => none)))))), (v 6, .inr (8, [.int 0, .int 0, .int 0, .int 0, .long 0, .int 0, .int 0, .ref (us 7), .ref (us 8), .ref (us 9), .ref (us 10), .int 0, .ref (us 12), .ref (us 13), .ref (us 14)])), (o, .inl (cL, 1, .inr (.inl (fun _ => 0))))] sz)) 2 21 (va_A [(h, .inr (11, [.ref (v 0), .int 0, .ref (v 2), .ref (v 3), .ref (v 4), .ref (v 5), .ref (v 6)])), (v 0, .inl (cN, 60, .inr (.inr (.inr (.inr (fun _ => none)))))), (v 6, .inr (8, [.int 0, .int 0, .int 0, .int 0, .long 0, .int 0, .int 0, .ref (us 7), .ref (us 8), .ref (us 9), .ref (us 10), .int 0, .ref (us 12), .ref (us 13), .ref (us 14)])), (o, .inl (cL, 1, .inr (.inl (fun _ => 0))))] sz) := by
  refine vx_ofWH (cc := cL_group) (maxL := 4) (ret := (some .int)) (hh :=  [(0, 9, 12, 37), (0, 9, 15, 15)]) (by decide) rfl ?_
  intro p e s m args below meth c s₁ B hml hv
  obtain ⟨rfl, hsz, hP, hK, hD0, hG⟩ := hv
  have hx := B.exec
  have hb := B.bytes
  have hr := B.returns
  have hts := atoms_spec (ws := wq_L_group) B.pre
  have htU : ∀ w ∈ UW, w.before _ s = true := fun w h => hts w (List.mem_cons_of_mem _ h)
  have hown : s.vm.findClass RL = some m.cls := findClass_of_methodNamed B.named
  have hlocks := B.notSynchronized
  have hT : c.exceptionTable.toList = tableOf  [(0, 9, 12, 37), (0, 9, 15, 15)] := vx_table (x := yL_group) B (hts _ List.mem_cons_self)
  subst hsz
  have hD := hD0.self (sz := s.heap.size)
  generalize hAe : va_A [(h, .inr (11, [.ref (v 0), .int 0, .ref (v 2), .ref (v 3), .ref (v 4), .ref (v 5), .ref (v 6)])), (v 0, .inl (cN, 60, .inr (.inr (.inr (.inr (fun _ => none)))))), (v 6, .inr (8, [.int 0, .int 0, .int 0, .int 0, .long 0, .int 0, .int 0, .ref (us 7), .ref (us 8), .ref (us 9), .ref (us 10), .int 0, .ref (us 12), .ref (us 13), .ref (us 14)])), (o, .inl (cL, 1, .inr (.inl (fun _ => 0))))] s.heap.size = A at hD hG ⊢
  have hA : ∀ q : Nat, s.heap.size ≤ q → A q := fun q h => by rw [← hAe]; exact Or.inr h
  have hS : va_S A s.heap s.heap [] := va_S.rf
  have hl := lv_entry ([.ref h, .int p0, .ref o]) (n := 4) (Nat.le_of_ble_eq_true rfl)
  rw [lg_entry_eq]
  generalize (lg_sl ([.ref h, .int p0, .ref o]) ++ List.replicate (4 - (lg_sl ([.ref h, .int p0, .ref o])).length) Slot.unset).toArray = ls at hl ⊢
  have hl : lv_has ls 4 [(0, .ref h), (1, .int p0), (2, .ref o)] := hl
  refine lv_aload_n hx hb dL_group_0 rfl (lv_at hl 2 rfl) ?_
  refine lv_iconst (v := 0) hx hb dL_group_1 (by decide) ?_
  refine lv_aload_n hx hb dL_group_2 rfl (lv_at hl 0 rfl) ?_
  refine lv_iload_n hx hb dL_group_3 rfl (lv_at hl 1 rfl) ?_
  have hPc := hP.sub (ws' := [(h, .inr (11, [.ref (v 0), .int 0, .ref (v 2), .ref (v 3), .ref (v 4), .ref (v 5), .ref (v 6)])), (v 0, .inl (cN, 60, .inr (.inr (.inr (.inr (fun _ => none)))))), (v 6, .inr (8, [.int 0, .int 0, .int 0, .int 0, .long 0, .int 0, .int 0, .ref (us 7), .ref (us 8), .ref (us 9), .ref (us 10), .int 0, .ref (us 12), .ref (us 13), .ref (us 14)]))]) [0, 1, 2] rfl
  have hDc := hD.sub (ws' := [(h, .inr (11, [.ref (v 0), .int 0, .ref (v 2), .ref (v 3), .ref (v 4), .ref (v 5), .ref (v 6)])), (v 0, .inl (cN, 60, .inr (.inr (.inr (.inr (fun _ => none)))))), (v 6, .inr (8, [.int 0, .int 0, .int 0, .int 0, .long 0, .int 0, .int 0, .ref (us 7), .ref (us 8), .ref (us 9), .ref (us 10), .int 0, .ref (us 12), .ref (us 13), .ref (us 14)]))]) [0, 1, 2] (by decide) rfl
  have hKc := hK.sub (tys' := [(cN, .object RX4)]) [0] rfl
  have hFc := va_free (wc := [(h, .inr (11, [.ref (v 0), .int 0, .ref (v 2), .ref (v 3), .ref (v 4), .ref (v 5), .ref (v 6)])), (v 0, .inl (cN, 60, .inr (.inr (.inr (.inr (fun _ => none)))))), (v 6, .inr (8, [.int 0, .int 0, .int 0, .int 0, .long 0, .int 0, .int 0, .ref (us 7), .ref (us 8), .ref (us 9), .ref (us 10), .int 0, .ref (us 12), .ref (us 13), .ref (us 14)]))]) hD hS hA [0, 1, 2] rfl
  refine vx_calli (vx_runV (As := [.int p0]) (rest := [.int 0, .ref o]) ⟨hx, hb, hml, hown, htU⟩ (c_X10_group l hf dC dI ad sa h v us cN p0 s.heap.size) (cwV 1 htU (gq_V u_759 u_760 u_761 u_91 u_762) rfl rfl rfl (by decide +kernel) ⟨(Nat.le_of_ble_eq_true rfl), (Nat.le_of_ble_eq_true rfl)⟩) ⟨(fun a U g mk q => by obtain ⟨q0, q1, qP, qK, qD, qG⟩ := q; exact ⟨q0, q1, qP, va_K.moved (u := U) (U := U.calling g mk a) (Vm.Alike.refl U.vm) qK, qD, GG.blind qG⟩), va_recv hKc hPc (ci := 11) (q0 := 0) rfl rfl, fun U hU hW => ⟨rfl, by rw [hU], by rw [hU]; exact hPc, va_K.moved hW.alike hKc, hDc.weaken (fun _ _ _ _ => trivial), GG.go hG hS hFc hU hW⟩⟩ rfl rfl hl.1 rfl (lv_room (Nat.le_of_ble_eq_true rfl)) dL_group_4 ⟨(Nat.le_of_ble_eq_true rfl), (Nat.le_of_ble_eq_true rfl)⟩) hS (fun q _ h => hFc q h) hFc (fun q _ h => hFc q h) (fun E ce q9 _ t H locs ht hvm hpx hB hz1 hk1 hS hce hcv hcl => ?_) (fun r_1 u_2 t H locs ht hvm hw hB hz1 hk1 hS => ?_)
  · obtain ⟨rfl, hxc⟩ := hB
    refine vx_catch (own := RL) (name := xIO) hown [] ⟨0, 9, 12, 37⟩ [⟨0, 9, 15, 15⟩] (hT.trans rfl) (fun z hz => absurd hz List.not_mem_nil) rfl (by decide) (htU _ u_680) (va_Nw.use rfl (hG.ca 2 rfl)) hce hcv hcl ?_
    obtain ⟨hP, hD⟩ := va_join (wr := [(o, .inl (cL, 1, .inr (.inl (fun _ => 0))))]) (w1 := []) hP hD [0, 1, 2] [3] rfl rfl (by decide) (by decide) hk1 hFc (fun k q h => by simp at h) ⟨fun i j p q h => by simp at h, fun k q h => by simp at h⟩
    have hP : va_P (dC, dI) vwCl [(o, .inl (cL, 1, .inr (.inl (fun _ => 0))))] H := hP
    have hD : va_D A [(o, .inl (cL, 1, .inr (.inl (fun _ => 0))))] := hD
    refine lv_astore_n (lv' := [(3, .ref q9), (0, .ref h), (1, .int p0), (2, .ref o)]) hx hb dL_group_12 rfl hl (by decide) rfl (fun ls hl => ?_)
    refine lv_iconst (v := 1) hx hb dL_group_13 (by decide) ?_
    have hP9 := hP.sub (ws' := [(o, .inl (cL, 1, .inr (.inl (fun _ => 0))))]) [0] rfl
    have hD9 := hD.sub (ws' := [(o, .inl (cL, 1, .inr (.inl (fun _ => 0))))]) [0] (by decide) rfl
    have hK9 := hK.sub (tys' := [(cL, .long)]) [1] rfl
    refine W.widen (k := 2) (n := 21) (Nat.le_of_ble_eq_true rfl) (Nat.le_of_ble_eq_true rfl) ?_
    refine vx_ret ?_
    exact W.iret (v := 1) hx hb hr (fun t ht hW => ⟨⟨1, (fun _ => 0), rfl, ⟨rfl, rfl⟩, ⟨by rw [ht]; exact hP9, va_K.moved hW.alike hK9, hD9⟩⟩, hS.F ht⟩) hS.2.2 dL_group_14
  · exact False.elim hw

set_option maxHeartbeats 4000000 in
set_option maxRecDepth 100000 in
/-- the law's choice -/
theorem c_L_choice (l : Launch) (hf : l.stackTraces = false) (dC : Nat → ClassId) (dI : Nat → Nat → Nat) (ad sa : Nat → Nat) (h : Nat) (v : Nat → Nat) (us : Nat → Nat) (cN : ClassId) (o : Nat) (cL : ClassId) (p0 : Int32) (p1 : Int32) (sz : Nat) : vx_Met l yL_choice wq_L_choice ({ frames := 10, cells := 2, slots := 21, locals := 244 }) (va_Pc [.ref h, .int p0, .int p1, .ref o] (fun U => U.heap.size = sz ∧ va_P (dC, dI) vwCl [(h, .inr (11, [.ref (v 0), .int 0, .ref (v 2), .ref (v 3), .ref (v 4), .ref (v 5), .ref (v 6)])), (v 0, .inl (cN, 60, .inr (.inr (.inr (.inr (fun _ => none)))))), (v 6, .inr (8, [.int 0, .int 0, .int 0, .int 0, .long 0, .int 0, .int 0, .ref (us 7), .ref (us 8), .ref (us 9), .ref (us 10), .int 0, .ref (us 12), .ref (us 13), .ref (us 14)])), (o, .inl (cL, 1, .inr (.inl (fun _ => 0))))] U.heap ∧ va_K (dC, dI) vwCl [(cN, .object RX4), (cL, .long)] U ∧ va_D (fun _ => True) [(h, .inr (11, [.ref (v 0), .int 0, .ref (v 2), .ref (v 3), .ref (v 4), .ref (v 5), .ref (v 6)])), (v 0, .inl (cN, 60, .inr (.inr (.inr (.inr (fun _ => none)))))), (v 6, .inr (8, [.int 0, .int 0, .int 0, .int 0, .long 0, .int 0, .int 0, .ref (us 7), .ref (us 8), .ref (us 9), .ref (us 10), .int 0, .ref (us 12), .ref (us 13), .ref (us 14)])), (o, .inl (cL, 1, .inr (.inl (fun _ => 0))))] ∧ GG (va_A [(h, .inr (11, [.ref (v 0), .int 0, .ref (v 2), .ref (v 3), .ref (v 4), .ref (v 5), .ref (v 6)])), (v 0, .inl (cN, 60, .inr (.inr (.inr (.inr (fun _ => none)))))), (v 6, .inr (8, [.int 0, .int 0, .int 0, .int 0, .long 0, .int 0, .int 0, .ref (us 7), .ref (us 8), .ref (us 9), .ref (us 10), .int 0, .ref (us 12), .ref (us 13), .ref (us 14)])), (o, .inl (cL, 1, .inr (.inl (fun _ => 0))))] sz) ad sa U U.heap)) (va_Qi (fun (r : Int32) (u : Nat → Int64) => r = 1 ∧ u 0 = 0) (fun (u : Nat → Int64) t => va_P (dC, dI) vwCl [(o, .inl (cL, 1, .inr (.inl u)))] t.heap ∧ va_K (dC, dI) vwCl [(cL, .long)] t ∧ va_D (va_A [(h, .inr (11, [.ref (v 0), .int 0, .ref (v 2), .ref (v 3), .ref (v 4), .ref (v 5), .ref (v 6)])), (v 0, .inl (cN, 60, .inr (.inr (.inr (.inr (fun _ => none)))))), (v 6, .inr (8, [.int 0, .int 0, .int 0, .int 0, .long 0, .int 0, .int 0, .ref (us 7), .ref (us 8), .ref (us 9), .ref (us 10), .int 0, .ref (us 12), .ref (us 13), .ref (us 14)])), (o, .inl (cL, 1, .inr (.inl (fun _ => 0))))] sz) [(o, .inl (cL, 1, .inr (.inl u)))]) (va_A [(h, .inr (11, [.ref (v 0), .int 0, .ref (v 2), .ref (v 3), .ref (v 4), .ref (v 5), .ref (v 6)])), (v 0, .inl (cN, 60, .inr (.inr (.inr (.inr (fun _ => none)))))), (v 6, .inr (8, [.int 0, .int 0, .int 0, .int 0, .long 0, .int 0, .int 0, .ref (us 7), .ref (us 8), .ref (us 9), .ref (us 10), .int 0, .ref (us 12), .ref (us 13), .ref (us 14)])), (o, .inl (cL, 1, .inr (.inl (fun _ => 0))))] sz)) (vx_X (fun _ : Unit => True) (fun _ _ _ => False) (va_A [(h, .inr (11, [.ref (v 0), .int 0, .ref (v 2), .ref (v 3), .ref (v 4), .ref (v 5), .ref (v 6)])), (v 0, .inl (cN, 60, .inr (.inr (.inr (.inr (fun _ => none)))))), (v 6, .inr (8, [.int 0, .int 0, .int 0, .int 0, .long 0, .int 0, .int 0, .ref (us 7), .ref (us 8), .ref (us 9), .ref (us 10), .int 0, .ref (us 12), .ref (us 13), .ref (us 14)])), (o, .inl (cL, 1, .inr (.inl (fun _ => 0))))] sz)) 2 21 (va_A [(h, .inr (11, [.ref (v 0), .int 0, .ref (v 2), .ref (v 3), .ref (v 4), .ref (v 5), .ref (v 6)])), (v 0, .inl (cN, 60, .inr (.inr (.inr (.inr (fun _ => none)))))), (v 6, .inr (8, [.int 0, .int 0, .int 0, .int 0, .long 0, .int 0, .int 0, .ref (us 7), .ref (us 8), .ref (us 9), .ref (us 10), .int 0, .ref (us 12), .ref (us 13), .ref (us 14)])), (o, .inl (cL, 1, .inr (.inl (fun _ => 0))))] sz) := by
  refine vx_ofWH (cc := cL_choice) (maxL := 5) (ret := (some .int)) (hh :=  [(0, 10, 13, 37), (0, 10, 17, 15)]) (by decide) rfl ?_
  intro p e s m args below meth c s₁ B hml hv
  obtain ⟨rfl, hsz, hP, hK, hD0, hG⟩ := hv
  have hx := B.exec
  have hb := B.bytes
  have hr := B.returns
  have hts := atoms_spec (ws := wq_L_choice) B.pre
  have htU : ∀ w ∈ UW, w.before _ s = true := fun w h => hts w (List.mem_cons_of_mem _ h)
  have hown : s.vm.findClass RL = some m.cls := findClass_of_methodNamed B.named
  have hlocks := B.notSynchronized
  have hT : c.exceptionTable.toList = tableOf  [(0, 10, 13, 37), (0, 10, 17, 15)] := vx_table (x := yL_choice) B (hts _ List.mem_cons_self)
  subst hsz
  have hD := hD0.self (sz := s.heap.size)
  generalize hAe : va_A [(h, .inr (11, [.ref (v 0), .int 0, .ref (v 2), .ref (v 3), .ref (v 4), .ref (v 5), .ref (v 6)])), (v 0, .inl (cN, 60, .inr (.inr (.inr (.inr (fun _ => none)))))), (v 6, .inr (8, [.int 0, .int 0, .int 0, .int 0, .long 0, .int 0, .int 0, .ref (us 7), .ref (us 8), .ref (us 9), .ref (us 10), .int 0, .ref (us 12), .ref (us 13), .ref (us 14)])), (o, .inl (cL, 1, .inr (.inl (fun _ => 0))))] s.heap.size = A at hD hG ⊢
  have hA : ∀ q : Nat, s.heap.size ≤ q → A q := fun q h => by rw [← hAe]; exact Or.inr h
  have hS : va_S A s.heap s.heap [] := va_S.rf
  have hl := lv_entry ([.ref h, .int p0, .int p1, .ref o]) (n := 5) (Nat.le_of_ble_eq_true rfl)
  rw [lg_entry_eq]
  generalize (lg_sl ([.ref h, .int p0, .int p1, .ref o]) ++ List.replicate (5 - (lg_sl ([.ref h, .int p0, .int p1, .ref o])).length) Slot.unset).toArray = ls at hl ⊢
  have hl : lv_has ls 5 [(0, .ref h), (1, .int p0), (2, .int p1), (3, .ref o)] := hl
  refine lv_aload_n hx hb dL_choice_0 rfl (lv_at hl 3 rfl) ?_
  refine lv_iconst (v := 0) hx hb dL_choice_1 (by decide) ?_
  refine lv_aload_n hx hb dL_choice_2 rfl (lv_at hl 0 rfl) ?_
  refine lv_iload_n hx hb dL_choice_3 rfl (lv_at hl 1 rfl) ?_
  refine lv_iload_n hx hb dL_choice_4 rfl (lv_at hl 2 rfl) ?_
  have hPc := hP.sub (ws' := [(h, .inr (11, [.ref (v 0), .int 0, .ref (v 2), .ref (v 3), .ref (v 4), .ref (v 5), .ref (v 6)])), (v 0, .inl (cN, 60, .inr (.inr (.inr (.inr (fun _ => none)))))), (v 6, .inr (8, [.int 0, .int 0, .int 0, .int 0, .long 0, .int 0, .int 0, .ref (us 7), .ref (us 8), .ref (us 9), .ref (us 10), .int 0, .ref (us 12), .ref (us 13), .ref (us 14)]))]) [0, 1, 2] rfl
  have hDc := hD.sub (ws' := [(h, .inr (11, [.ref (v 0), .int 0, .ref (v 2), .ref (v 3), .ref (v 4), .ref (v 5), .ref (v 6)])), (v 0, .inl (cN, 60, .inr (.inr (.inr (.inr (fun _ => none)))))), (v 6, .inr (8, [.int 0, .int 0, .int 0, .int 0, .long 0, .int 0, .int 0, .ref (us 7), .ref (us 8), .ref (us 9), .ref (us 10), .int 0, .ref (us 12), .ref (us 13), .ref (us 14)]))]) [0, 1, 2] (by decide) rfl
  have hKc := hK.sub (tys' := [(cN, .object RX4)]) [0] rfl
  have hFc := va_free (wc := [(h, .inr (11, [.ref (v 0), .int 0, .ref (v 2), .ref (v 3), .ref (v 4), .ref (v 5), .ref (v 6)])), (v 0, .inl (cN, 60, .inr (.inr (.inr (.inr (fun _ => none)))))), (v 6, .inr (8, [.int 0, .int 0, .int 0, .int 0, .long 0, .int 0, .int 0, .ref (us 7), .ref (us 8), .ref (us 9), .ref (us 10), .int 0, .ref (us 12), .ref (us 13), .ref (us 14)]))]) hD hS hA [0, 1, 2] rfl
  refine vx_calli (vx_runV (As := [.int p0, .int p1]) (rest := [.int 0, .ref o]) ⟨hx, hb, hml, hown, htU⟩ (c_X10_choice l hf dC dI ad sa h v us cN p0 p1 s.heap.size) (cwV 2 htU (gq_V u_767 u_768 u_769 u_91 u_770) rfl rfl rfl (by decide +kernel) ⟨(Nat.le_of_ble_eq_true rfl), (Nat.le_of_ble_eq_true rfl)⟩) ⟨(fun a U g mk q => by obtain ⟨q0, q1, qP, qK, qD, qG⟩ := q; exact ⟨q0, q1, qP, va_K.moved (u := U) (U := U.calling g mk a) (Vm.Alike.refl U.vm) qK, qD, GG.blind qG⟩), va_recv hKc hPc (ci := 11) (q0 := 0) rfl rfl, fun U hU hW => ⟨rfl, by rw [hU], by rw [hU]; exact hPc, va_K.moved hW.alike hKc, hDc.weaken (fun _ _ _ _ => trivial), GG.go hG hS hFc hU hW⟩⟩ rfl rfl hl.1 rfl (lv_room (Nat.le_of_ble_eq_true rfl)) dL_choice_5 ⟨(Nat.le_of_ble_eq_true rfl), (Nat.le_of_ble_eq_true rfl)⟩) hS (fun q _ h => hFc q h) hFc (fun q _ h => hFc q h) (fun E ce q9 _ t H locs ht hvm hpx hB hz1 hk1 hS hce hcv hcl => ?_) (fun r_1 u_2 t H locs ht hvm hw hB hz1 hk1 hS => ?_)
  · obtain ⟨rfl, hxc⟩ := hB
    refine vx_catch (own := RL) (name := xIO) hown [] ⟨0, 10, 13, 37⟩ [⟨0, 10, 17, 15⟩] (hT.trans rfl) (fun z hz => absurd hz List.not_mem_nil) rfl (by decide) (htU _ u_680) (va_Nw.use rfl (hG.ca 2 rfl)) hce hcv hcl ?_
    obtain ⟨hP, hD⟩ := va_join (wr := [(o, .inl (cL, 1, .inr (.inl (fun _ => 0))))]) (w1 := []) hP hD [0, 1, 2] [3] rfl rfl (by decide) (by decide) hk1 hFc (fun k q h => by simp at h) ⟨fun i j p q h => by simp at h, fun k q h => by simp at h⟩
    have hP : va_P (dC, dI) vwCl [(o, .inl (cL, 1, .inr (.inl (fun _ => 0))))] H := hP
    have hD : va_D A [(o, .inl (cL, 1, .inr (.inl (fun _ => 0))))] := hD
    refine lv_astore (lv' := [(4, .ref q9), (0, .ref h), (1, .int p0), (2, .int p1), (3, .ref o)]) hx hb dL_choice_13 hl (by decide) rfl (fun ls hl => ?_)
    refine lv_iconst (v := 1) hx hb dL_choice_15 (by decide) ?_
    have hP9 := hP.sub (ws' := [(o, .inl (cL, 1, .inr (.inl (fun _ => 0))))]) [0] rfl
    have hD9 := hD.sub (ws' := [(o, .inl (cL, 1, .inr (.inl (fun _ => 0))))]) [0] (by decide) rfl
    have hK9 := hK.sub (tys' := [(cL, .long)]) [1] rfl
    refine W.widen (k := 2) (n := 21) (Nat.le_of_ble_eq_true rfl) (Nat.le_of_ble_eq_true rfl) ?_
    refine vx_ret ?_
    exact W.iret (v := 1) hx hb hr (fun t ht hW => ⟨⟨1, (fun _ => 0), rfl, ⟨rfl, rfl⟩, ⟨by rw [ht]; exact hP9, va_K.moved hW.alike hK9, hD9⟩⟩, hS.F ht⟩) hS.2.2 dL_choice_16
  · exact False.elim hw

set_option maxHeartbeats 4000000 in
set_option maxRecDepth 100000 in
/-- the law's flat -/
theorem c_L_flat (l : Launch) (hf : l.stackTraces = false) (dC : Nat → ClassId) (dI : Nat → Nat → Nat) (ad sa : Nat → Nat) (h : Nat) (v : Nat → Nat) (us : Nat → Nat) (cN : ClassId) (o : Nat) (cL : ClassId) (p0 : Int32) (sz : Nat) : vx_Met l yL_flat wq_L_flat ({ frames := 10, cells := 2, slots := 21, locals := 243 }) (va_Pc [.ref h, .int p0, .ref o] (fun U => U.heap.size = sz ∧ va_P (dC, dI) vwCl [(h, .inr (11, [.ref (v 0), .int 0, .ref (v 2), .ref (v 3), .ref (v 4), .ref (v 5), .ref (v 6)])), (v 0, .inl (cN, 60, .inr (.inr (.inr (.inr (fun _ => none)))))), (v 6, .inr (8, [.int 0, .int 0, .int 0, .int 0, .long 0, .int 0, .int 0, .ref (us 7), .ref (us 8), .ref (us 9), .ref (us 10), .int 0, .ref (us 12), .ref (us 13), .ref (us 14)])), (o, .inl (cL, 1, .inr (.inl (fun _ => 0))))] U.heap ∧ va_K (dC, dI) vwCl [(cN, .object RX4), (cL, .long)] U ∧ va_D (fun _ => True) [(h, .inr (11, [.ref (v 0), .int 0, .ref (v 2), .ref (v 3), .ref (v 4), .ref (v 5), .ref (v 6)])), (v 0, .inl (cN, 60, .inr (.inr (.inr (.inr (fun _ => none)))))), (v 6, .inr (8, [.int 0, .int 0, .int 0, .int 0, .long 0, .int 0, .int 0, .ref (us 7), .ref (us 8), .ref (us 9), .ref (us 10), .int 0, .ref (us 12), .ref (us 13), .ref (us 14)])), (o, .inl (cL, 1, .inr (.inl (fun _ => 0))))] ∧ GG (va_A [(h, .inr (11, [.ref (v 0), .int 0, .ref (v 2), .ref (v 3), .ref (v 4), .ref (v 5), .ref (v 6)])), (v 0, .inl (cN, 60, .inr (.inr (.inr (.inr (fun _ => none)))))), (v 6, .inr (8, [.int 0, .int 0, .int 0, .int 0, .long 0, .int 0, .int 0, .ref (us 7), .ref (us 8), .ref (us 9), .ref (us 10), .int 0, .ref (us 12), .ref (us 13), .ref (us 14)])), (o, .inl (cL, 1, .inr (.inl (fun _ => 0))))] sz) ad sa U U.heap)) (va_Qi (fun (r : Int32) (u : Nat → Int64) => r = 1 ∧ u 0 = 0) (fun (u : Nat → Int64) t => va_P (dC, dI) vwCl [(o, .inl (cL, 1, .inr (.inl u)))] t.heap ∧ va_K (dC, dI) vwCl [(cL, .long)] t ∧ va_D (va_A [(h, .inr (11, [.ref (v 0), .int 0, .ref (v 2), .ref (v 3), .ref (v 4), .ref (v 5), .ref (v 6)])), (v 0, .inl (cN, 60, .inr (.inr (.inr (.inr (fun _ => none)))))), (v 6, .inr (8, [.int 0, .int 0, .int 0, .int 0, .long 0, .int 0, .int 0, .ref (us 7), .ref (us 8), .ref (us 9), .ref (us 10), .int 0, .ref (us 12), .ref (us 13), .ref (us 14)])), (o, .inl (cL, 1, .inr (.inl (fun _ => 0))))] sz) [(o, .inl (cL, 1, .inr (.inl u)))]) (va_A [(h, .inr (11, [.ref (v 0), .int 0, .ref (v 2), .ref (v 3), .ref (v 4), .ref (v 5), .ref (v 6)])), (v 0, .inl (cN, 60, .inr (.inr (.inr (.inr (fun _ => none)))))), (v 6, .inr (8, [.int 0, .int 0, .int 0, .int 0, .long 0, .int 0, .int 0, .ref (us 7), .ref (us 8), .ref (us 9), .ref (us 10), .int 0, .ref (us 12), .ref (us 13), .ref (us 14)])), (o, .inl (cL, 1, .inr (.inl (fun _ => 0))))] sz)) (vx_X (fun _ : Unit => True) (fun _ _ _ => False) (va_A [(h, .inr (11, [.ref (v 0), .int 0, .ref (v 2), .ref (v 3), .ref (v 4), .ref (v 5), .ref (v 6)])), (v 0, .inl (cN, 60, .inr (.inr (.inr (.inr (fun _ => none)))))), (v 6, .inr (8, [.int 0, .int 0, .int 0, .int 0, .long 0, .int 0, .int 0, .ref (us 7), .ref (us 8), .ref (us 9), .ref (us 10), .int 0, .ref (us 12), .ref (us 13), .ref (us 14)])), (o, .inl (cL, 1, .inr (.inl (fun _ => 0))))] sz)) 2 21 (va_A [(h, .inr (11, [.ref (v 0), .int 0, .ref (v 2), .ref (v 3), .ref (v 4), .ref (v 5), .ref (v 6)])), (v 0, .inl (cN, 60, .inr (.inr (.inr (.inr (fun _ => none)))))), (v 6, .inr (8, [.int 0, .int 0, .int 0, .int 0, .long 0, .int 0, .int 0, .ref (us 7), .ref (us 8), .ref (us 9), .ref (us 10), .int 0, .ref (us 12), .ref (us 13), .ref (us 14)])), (o, .inl (cL, 1, .inr (.inl (fun _ => 0))))] sz) := by
  refine vx_ofWH (cc := cL_flat) (maxL := 4) (ret := (some .int)) (hh :=  [(0, 9, 12, 37), (0, 9, 15, 15)]) (by decide) rfl ?_
  intro p e s m args below meth c s₁ B hml hv
  obtain ⟨rfl, hsz, hP, hK, hD0, hG⟩ := hv
  have hx := B.exec
  have hb := B.bytes
  have hr := B.returns
  have hts := atoms_spec (ws := wq_L_flat) B.pre
  have htU : ∀ w ∈ UW, w.before _ s = true := fun w h => hts w (List.mem_cons_of_mem _ h)
  have hown : s.vm.findClass RL = some m.cls := findClass_of_methodNamed B.named
  have hlocks := B.notSynchronized
  have hT : c.exceptionTable.toList = tableOf  [(0, 9, 12, 37), (0, 9, 15, 15)] := vx_table (x := yL_flat) B (hts _ List.mem_cons_self)
  subst hsz
  have hD := hD0.self (sz := s.heap.size)
  generalize hAe : va_A [(h, .inr (11, [.ref (v 0), .int 0, .ref (v 2), .ref (v 3), .ref (v 4), .ref (v 5), .ref (v 6)])), (v 0, .inl (cN, 60, .inr (.inr (.inr (.inr (fun _ => none)))))), (v 6, .inr (8, [.int 0, .int 0, .int 0, .int 0, .long 0, .int 0, .int 0, .ref (us 7), .ref (us 8), .ref (us 9), .ref (us 10), .int 0, .ref (us 12), .ref (us 13), .ref (us 14)])), (o, .inl (cL, 1, .inr (.inl (fun _ => 0))))] s.heap.size = A at hD hG ⊢
  have hA : ∀ q : Nat, s.heap.size ≤ q → A q := fun q h => by rw [← hAe]; exact Or.inr h
  have hS : va_S A s.heap s.heap [] := va_S.rf
  have hl := lv_entry ([.ref h, .int p0, .ref o]) (n := 4) (Nat.le_of_ble_eq_true rfl)
  rw [lg_entry_eq]
  generalize (lg_sl ([.ref h, .int p0, .ref o]) ++ List.replicate (4 - (lg_sl ([.ref h, .int p0, .ref o])).length) Slot.unset).toArray = ls at hl ⊢
  have hl : lv_has ls 4 [(0, .ref h), (1, .int p0), (2, .ref o)] := hl
  refine lv_aload_n hx hb dL_flat_0 rfl (lv_at hl 2 rfl) ?_
  refine lv_iconst (v := 0) hx hb dL_flat_1 (by decide) ?_
  refine lv_aload_n hx hb dL_flat_2 rfl (lv_at hl 0 rfl) ?_
  refine lv_iload_n hx hb dL_flat_3 rfl (lv_at hl 1 rfl) ?_
  have hPc := hP.sub (ws' := [(h, .inr (11, [.ref (v 0), .int 0, .ref (v 2), .ref (v 3), .ref (v 4), .ref (v 5), .ref (v 6)])), (v 0, .inl (cN, 60, .inr (.inr (.inr (.inr (fun _ => none)))))), (v 6, .inr (8, [.int 0, .int 0, .int 0, .int 0, .long 0, .int 0, .int 0, .ref (us 7), .ref (us 8), .ref (us 9), .ref (us 10), .int 0, .ref (us 12), .ref (us 13), .ref (us 14)]))]) [0, 1, 2] rfl
  have hDc := hD.sub (ws' := [(h, .inr (11, [.ref (v 0), .int 0, .ref (v 2), .ref (v 3), .ref (v 4), .ref (v 5), .ref (v 6)])), (v 0, .inl (cN, 60, .inr (.inr (.inr (.inr (fun _ => none)))))), (v 6, .inr (8, [.int 0, .int 0, .int 0, .int 0, .long 0, .int 0, .int 0, .ref (us 7), .ref (us 8), .ref (us 9), .ref (us 10), .int 0, .ref (us 12), .ref (us 13), .ref (us 14)]))]) [0, 1, 2] (by decide) rfl
  have hKc := hK.sub (tys' := [(cN, .object RX4)]) [0] rfl
  have hFc := va_free (wc := [(h, .inr (11, [.ref (v 0), .int 0, .ref (v 2), .ref (v 3), .ref (v 4), .ref (v 5), .ref (v 6)])), (v 0, .inl (cN, 60, .inr (.inr (.inr (.inr (fun _ => none)))))), (v 6, .inr (8, [.int 0, .int 0, .int 0, .int 0, .long 0, .int 0, .int 0, .ref (us 7), .ref (us 8), .ref (us 9), .ref (us 10), .int 0, .ref (us 12), .ref (us 13), .ref (us 14)]))]) hD hS hA [0, 1, 2] rfl
  refine vx_calli (vx_runV (As := [.int p0]) (rest := [.int 0, .ref o]) ⟨hx, hb, hml, hown, htU⟩ (c_X10_flat l hf dC dI ad sa h v us cN p0 s.heap.size) (cwV 1 htU (gq_V u_775 u_776 u_777 u_91 u_778) rfl rfl rfl (by decide +kernel) ⟨(Nat.le_of_ble_eq_true rfl), (Nat.le_of_ble_eq_true rfl)⟩) ⟨(fun a U g mk q => by obtain ⟨q0, q1, qP, qK, qD, qG⟩ := q; exact ⟨q0, q1, qP, va_K.moved (u := U) (U := U.calling g mk a) (Vm.Alike.refl U.vm) qK, qD, GG.blind qG⟩), va_recv hKc hPc (ci := 11) (q0 := 0) rfl rfl, fun U hU hW => ⟨rfl, by rw [hU], by rw [hU]; exact hPc, va_K.moved hW.alike hKc, hDc.weaken (fun _ _ _ _ => trivial), GG.go hG hS hFc hU hW⟩⟩ rfl rfl hl.1 rfl (lv_room (Nat.le_of_ble_eq_true rfl)) dL_flat_4 ⟨(Nat.le_of_ble_eq_true rfl), (Nat.le_of_ble_eq_true rfl)⟩) hS (fun q _ h => hFc q h) hFc (fun q _ h => hFc q h) (fun E ce q9 _ t H locs ht hvm hpx hB hz1 hk1 hS hce hcv hcl => ?_) (fun r_1 u_2 t H locs ht hvm hw hB hz1 hk1 hS => ?_)
  · obtain ⟨rfl, hxc⟩ := hB
    refine vx_catch (own := RL) (name := xIO) hown [] ⟨0, 9, 12, 37⟩ [⟨0, 9, 15, 15⟩] (hT.trans rfl) (fun z hz => absurd hz List.not_mem_nil) rfl (by decide) (htU _ u_680) (va_Nw.use rfl (hG.ca 2 rfl)) hce hcv hcl ?_
    obtain ⟨hP, hD⟩ := va_join (wr := [(o, .inl (cL, 1, .inr (.inl (fun _ => 0))))]) (w1 := []) hP hD [0, 1, 2] [3] rfl rfl (by decide) (by decide) hk1 hFc (fun k q h => by simp at h) ⟨fun i j p q h => by simp at h, fun k q h => by simp at h⟩
    have hP : va_P (dC, dI) vwCl [(o, .inl (cL, 1, .inr (.inl (fun _ => 0))))] H := hP
    have hD : va_D A [(o, .inl (cL, 1, .inr (.inl (fun _ => 0))))] := hD
    refine lv_astore_n (lv' := [(3, .ref q9), (0, .ref h), (1, .int p0), (2, .ref o)]) hx hb dL_flat_12 rfl hl (by decide) rfl (fun ls hl => ?_)
    refine lv_iconst (v := 1) hx hb dL_flat_13 (by decide) ?_
    have hP9 := hP.sub (ws' := [(o, .inl (cL, 1, .inr (.inl (fun _ => 0))))]) [0] rfl
    have hD9 := hD.sub (ws' := [(o, .inl (cL, 1, .inr (.inl (fun _ => 0))))]) [0] (by decide) rfl
    have hK9 := hK.sub (tys' := [(cL, .long)]) [1] rfl
    refine W.widen (k := 2) (n := 21) (Nat.le_of_ble_eq_true rfl) (Nat.le_of_ble_eq_true rfl) ?_
    refine vx_ret ?_
    exact W.iret (v := 1) hx hb hr (fun t ht hW => ⟨⟨1, (fun _ => 0), rfl, ⟨rfl, rfl⟩, ⟨by rw [ht]; exact hP9, va_K.moved hW.alike hK9, hD9⟩⟩, hS.F ht⟩) hS.2.2 dL_flat_14
  · exact False.elim hw

set_option maxHeartbeats 4000000 in
set_option maxRecDepth 100000 in
/-- the law's broken -/
theorem c_L_broken (l : Launch) (hf : l.stackTraces = false) (dC : Nat → ClassId) (dI : Nat → Nat → Nat) (ad sa : Nat → Nat) (h : Nat) (v : Nat → Nat) (us : Nat → Nat) (cN : ClassId) (o : Nat) (cL : ClassId) (p0 : Int32) (p1 : Int32) (sz : Nat) : vx_Met l yL_broken wq_L_broken ({ frames := 10, cells := 2, slots := 21, locals := 244 }) (va_Pc [.ref h, .int p0, .int p1, .ref o] (fun U => U.heap.size = sz ∧ va_P (dC, dI) vwCl [(h, .inr (11, [.ref (v 0), .int 0, .ref (v 2), .ref (v 3), .ref (v 4), .ref (v 5), .ref (v 6)])), (v 0, .inl (cN, 60, .inr (.inr (.inr (.inr (fun _ => none)))))), (v 6, .inr (8, [.int 0, .int 0, .int 0, .int 0, .long 0, .int 0, .int 0, .ref (us 7), .ref (us 8), .ref (us 9), .ref (us 10), .int 0, .ref (us 12), .ref (us 13), .ref (us 14)])), (o, .inl (cL, 1, .inr (.inl (fun _ => 0))))] U.heap ∧ va_K (dC, dI) vwCl [(cN, .object RX4), (cL, .long)] U ∧ va_D (fun _ => True) [(h, .inr (11, [.ref (v 0), .int 0, .ref (v 2), .ref (v 3), .ref (v 4), .ref (v 5), .ref (v 6)])), (v 0, .inl (cN, 60, .inr (.inr (.inr (.inr (fun _ => none)))))), (v 6, .inr (8, [.int 0, .int 0, .int 0, .int 0, .long 0, .int 0, .int 0, .ref (us 7), .ref (us 8), .ref (us 9), .ref (us 10), .int 0, .ref (us 12), .ref (us 13), .ref (us 14)])), (o, .inl (cL, 1, .inr (.inl (fun _ => 0))))] ∧ GG (va_A [(h, .inr (11, [.ref (v 0), .int 0, .ref (v 2), .ref (v 3), .ref (v 4), .ref (v 5), .ref (v 6)])), (v 0, .inl (cN, 60, .inr (.inr (.inr (.inr (fun _ => none)))))), (v 6, .inr (8, [.int 0, .int 0, .int 0, .int 0, .long 0, .int 0, .int 0, .ref (us 7), .ref (us 8), .ref (us 9), .ref (us 10), .int 0, .ref (us 12), .ref (us 13), .ref (us 14)])), (o, .inl (cL, 1, .inr (.inl (fun _ => 0))))] sz) ad sa U U.heap)) (va_Qi (fun (r : Int32) (u : Nat → Int64) => r = 1 ∧ u 0 = 0) (fun (u : Nat → Int64) t => va_P (dC, dI) vwCl [(o, .inl (cL, 1, .inr (.inl u)))] t.heap ∧ va_K (dC, dI) vwCl [(cL, .long)] t ∧ va_D (va_A [(h, .inr (11, [.ref (v 0), .int 0, .ref (v 2), .ref (v 3), .ref (v 4), .ref (v 5), .ref (v 6)])), (v 0, .inl (cN, 60, .inr (.inr (.inr (.inr (fun _ => none)))))), (v 6, .inr (8, [.int 0, .int 0, .int 0, .int 0, .long 0, .int 0, .int 0, .ref (us 7), .ref (us 8), .ref (us 9), .ref (us 10), .int 0, .ref (us 12), .ref (us 13), .ref (us 14)])), (o, .inl (cL, 1, .inr (.inl (fun _ => 0))))] sz) [(o, .inl (cL, 1, .inr (.inl u)))]) (va_A [(h, .inr (11, [.ref (v 0), .int 0, .ref (v 2), .ref (v 3), .ref (v 4), .ref (v 5), .ref (v 6)])), (v 0, .inl (cN, 60, .inr (.inr (.inr (.inr (fun _ => none)))))), (v 6, .inr (8, [.int 0, .int 0, .int 0, .int 0, .long 0, .int 0, .int 0, .ref (us 7), .ref (us 8), .ref (us 9), .ref (us 10), .int 0, .ref (us 12), .ref (us 13), .ref (us 14)])), (o, .inl (cL, 1, .inr (.inl (fun _ => 0))))] sz)) (vx_X (fun _ : Unit => True) (fun _ _ _ => False) (va_A [(h, .inr (11, [.ref (v 0), .int 0, .ref (v 2), .ref (v 3), .ref (v 4), .ref (v 5), .ref (v 6)])), (v 0, .inl (cN, 60, .inr (.inr (.inr (.inr (fun _ => none)))))), (v 6, .inr (8, [.int 0, .int 0, .int 0, .int 0, .long 0, .int 0, .int 0, .ref (us 7), .ref (us 8), .ref (us 9), .ref (us 10), .int 0, .ref (us 12), .ref (us 13), .ref (us 14)])), (o, .inl (cL, 1, .inr (.inl (fun _ => 0))))] sz)) 2 21 (va_A [(h, .inr (11, [.ref (v 0), .int 0, .ref (v 2), .ref (v 3), .ref (v 4), .ref (v 5), .ref (v 6)])), (v 0, .inl (cN, 60, .inr (.inr (.inr (.inr (fun _ => none)))))), (v 6, .inr (8, [.int 0, .int 0, .int 0, .int 0, .long 0, .int 0, .int 0, .ref (us 7), .ref (us 8), .ref (us 9), .ref (us 10), .int 0, .ref (us 12), .ref (us 13), .ref (us 14)])), (o, .inl (cL, 1, .inr (.inl (fun _ => 0))))] sz) := by
  refine vx_ofWH (cc := cL_broken) (maxL := 5) (ret := (some .int)) (hh :=  [(0, 10, 13, 37), (0, 10, 17, 15)]) (by decide) rfl ?_
  intro p e s m args below meth c s₁ B hml hv
  obtain ⟨rfl, hsz, hP, hK, hD0, hG⟩ := hv
  have hx := B.exec
  have hb := B.bytes
  have hr := B.returns
  have hts := atoms_spec (ws := wq_L_broken) B.pre
  have htU : ∀ w ∈ UW, w.before _ s = true := fun w h => hts w (List.mem_cons_of_mem _ h)
  have hown : s.vm.findClass RL = some m.cls := findClass_of_methodNamed B.named
  have hlocks := B.notSynchronized
  have hT : c.exceptionTable.toList = tableOf  [(0, 10, 13, 37), (0, 10, 17, 15)] := vx_table (x := yL_broken) B (hts _ List.mem_cons_self)
  subst hsz
  have hD := hD0.self (sz := s.heap.size)
  generalize hAe : va_A [(h, .inr (11, [.ref (v 0), .int 0, .ref (v 2), .ref (v 3), .ref (v 4), .ref (v 5), .ref (v 6)])), (v 0, .inl (cN, 60, .inr (.inr (.inr (.inr (fun _ => none)))))), (v 6, .inr (8, [.int 0, .int 0, .int 0, .int 0, .long 0, .int 0, .int 0, .ref (us 7), .ref (us 8), .ref (us 9), .ref (us 10), .int 0, .ref (us 12), .ref (us 13), .ref (us 14)])), (o, .inl (cL, 1, .inr (.inl (fun _ => 0))))] s.heap.size = A at hD hG ⊢
  have hA : ∀ q : Nat, s.heap.size ≤ q → A q := fun q h => by rw [← hAe]; exact Or.inr h
  have hS : va_S A s.heap s.heap [] := va_S.rf
  have hl := lv_entry ([.ref h, .int p0, .int p1, .ref o]) (n := 5) (Nat.le_of_ble_eq_true rfl)
  rw [lg_entry_eq]
  generalize (lg_sl ([.ref h, .int p0, .int p1, .ref o]) ++ List.replicate (5 - (lg_sl ([.ref h, .int p0, .int p1, .ref o])).length) Slot.unset).toArray = ls at hl ⊢
  have hl : lv_has ls 5 [(0, .ref h), (1, .int p0), (2, .int p1), (3, .ref o)] := hl
  refine lv_aload_n hx hb dL_broken_0 rfl (lv_at hl 3 rfl) ?_
  refine lv_iconst (v := 0) hx hb dL_broken_1 (by decide) ?_
  refine lv_aload_n hx hb dL_broken_2 rfl (lv_at hl 0 rfl) ?_
  refine lv_iload_n hx hb dL_broken_3 rfl (lv_at hl 1 rfl) ?_
  refine lv_iload_n hx hb dL_broken_4 rfl (lv_at hl 2 rfl) ?_
  have hPc := hP.sub (ws' := [(h, .inr (11, [.ref (v 0), .int 0, .ref (v 2), .ref (v 3), .ref (v 4), .ref (v 5), .ref (v 6)])), (v 0, .inl (cN, 60, .inr (.inr (.inr (.inr (fun _ => none)))))), (v 6, .inr (8, [.int 0, .int 0, .int 0, .int 0, .long 0, .int 0, .int 0, .ref (us 7), .ref (us 8), .ref (us 9), .ref (us 10), .int 0, .ref (us 12), .ref (us 13), .ref (us 14)]))]) [0, 1, 2] rfl
  have hDc := hD.sub (ws' := [(h, .inr (11, [.ref (v 0), .int 0, .ref (v 2), .ref (v 3), .ref (v 4), .ref (v 5), .ref (v 6)])), (v 0, .inl (cN, 60, .inr (.inr (.inr (.inr (fun _ => none)))))), (v 6, .inr (8, [.int 0, .int 0, .int 0, .int 0, .long 0, .int 0, .int 0, .ref (us 7), .ref (us 8), .ref (us 9), .ref (us 10), .int 0, .ref (us 12), .ref (us 13), .ref (us 14)]))]) [0, 1, 2] (by decide) rfl
  have hKc := hK.sub (tys' := [(cN, .object RX4)]) [0] rfl
  have hFc := va_free (wc := [(h, .inr (11, [.ref (v 0), .int 0, .ref (v 2), .ref (v 3), .ref (v 4), .ref (v 5), .ref (v 6)])), (v 0, .inl (cN, 60, .inr (.inr (.inr (.inr (fun _ => none)))))), (v 6, .inr (8, [.int 0, .int 0, .int 0, .int 0, .long 0, .int 0, .int 0, .ref (us 7), .ref (us 8), .ref (us 9), .ref (us 10), .int 0, .ref (us 12), .ref (us 13), .ref (us 14)]))]) hD hS hA [0, 1, 2] rfl
  refine vx_calli (vx_runV (As := [.int p0, .int p1]) (rest := [.int 0, .ref o]) ⟨hx, hb, hml, hown, htU⟩ (c_X10_broken l hf dC dI ad sa h v us cN p0 p1 s.heap.size) (cwV 2 htU (gq_V u_783 u_784 u_785 u_91 u_786) rfl rfl rfl (by decide +kernel) ⟨(Nat.le_of_ble_eq_true rfl), (Nat.le_of_ble_eq_true rfl)⟩) ⟨(fun a U g mk q => by obtain ⟨q0, q1, qP, qK, qD, qG⟩ := q; exact ⟨q0, q1, qP, va_K.moved (u := U) (U := U.calling g mk a) (Vm.Alike.refl U.vm) qK, qD, GG.blind qG⟩), va_recv hKc hPc (ci := 11) (q0 := 0) rfl rfl, fun U hU hW => ⟨rfl, by rw [hU], by rw [hU]; exact hPc, va_K.moved hW.alike hKc, hDc.weaken (fun _ _ _ _ => trivial), GG.go hG hS hFc hU hW⟩⟩ rfl rfl hl.1 rfl (lv_room (Nat.le_of_ble_eq_true rfl)) dL_broken_5 ⟨(Nat.le_of_ble_eq_true rfl), (Nat.le_of_ble_eq_true rfl)⟩) hS (fun q _ h => hFc q h) hFc (fun q _ h => hFc q h) (fun E ce q9 _ t H locs ht hvm hpx hB hz1 hk1 hS hce hcv hcl => ?_) (fun r_1 u_2 t H locs ht hvm hw hB hz1 hk1 hS => ?_)
  · obtain ⟨rfl, hxc⟩ := hB
    refine vx_catch (own := RL) (name := xIO) hown [] ⟨0, 10, 13, 37⟩ [⟨0, 10, 17, 15⟩] (hT.trans rfl) (fun z hz => absurd hz List.not_mem_nil) rfl (by decide) (htU _ u_680) (va_Nw.use rfl (hG.ca 2 rfl)) hce hcv hcl ?_
    obtain ⟨hP, hD⟩ := va_join (wr := [(o, .inl (cL, 1, .inr (.inl (fun _ => 0))))]) (w1 := []) hP hD [0, 1, 2] [3] rfl rfl (by decide) (by decide) hk1 hFc (fun k q h => by simp at h) ⟨fun i j p q h => by simp at h, fun k q h => by simp at h⟩
    have hP : va_P (dC, dI) vwCl [(o, .inl (cL, 1, .inr (.inl (fun _ => 0))))] H := hP
    have hD : va_D A [(o, .inl (cL, 1, .inr (.inl (fun _ => 0))))] := hD
    refine lv_astore (lv' := [(4, .ref q9), (0, .ref h), (1, .int p0), (2, .int p1), (3, .ref o)]) hx hb dL_broken_13 hl (by decide) rfl (fun ls hl => ?_)
    refine lv_iconst (v := 1) hx hb dL_broken_15 (by decide) ?_
    have hP9 := hP.sub (ws' := [(o, .inl (cL, 1, .inr (.inl (fun _ => 0))))]) [0] rfl
    have hD9 := hD.sub (ws' := [(o, .inl (cL, 1, .inr (.inl (fun _ => 0))))]) [0] (by decide) rfl
    have hK9 := hK.sub (tys' := [(cL, .long)]) [1] rfl
    refine W.widen (k := 2) (n := 21) (Nat.le_of_ble_eq_true rfl) (Nat.le_of_ble_eq_true rfl) ?_
    refine vx_ret ?_
    exact W.iret (v := 1) hx hb hr (fun t ht hW => ⟨⟨1, (fun _ => 0), rfl, ⟨rfl, rfl⟩, ⟨by rw [ht]; exact hP9, va_K.moved hW.alike hK9, hD9⟩⟩, hS.F ht⟩) hS.2.2 dL_broken_16
  · exact False.elim hw

set_option maxHeartbeats 4000000 in
set_option maxRecDepth 100000 in
/-- the law's price -/
theorem c_L_price (l : Launch) (hf : l.stackTraces = false) (dC : Nat → ClassId) (dI : Nat → Nat → Nat) (ad sa : Nat → Nat) (h : Nat) (v : Nat → Nat) (us : Nat → Nat) (cN : ClassId) (o : Nat) (cL : ClassId) (p0 : Int32) (p1 : Int32) (sz : Nat) : vx_Met l yL_price wq_L_price ({ frames := 10, cells := 1, slots := 6, locals := 245 }) (va_Pc [.ref h, .int p0, .int p1, .ref o] (fun U => U.heap.size = sz ∧ va_P (dC, dI) vwCl [(h, .inr (11, [.ref (v 0), .int 0, .ref (v 2), .ref (v 3), .ref (v 4), .ref (v 5), .ref (v 6)])), (v 0, .inl (cN, 60, .inr (.inr (.inr (.inr (fun _ => none)))))), (v 6, .inr (8, [.int 0, .int 0, .int 0, .int 0, .long 0, .int 0, .int 0, .ref (us 7), .ref (us 8), .ref (us 9), .ref (us 10), .int 0, .ref (us 12), .ref (us 13), .ref (us 14)])), (o, .inl (cL, 1, .inr (.inl (fun _ => 0))))] U.heap ∧ va_K (dC, dI) vwCl [(cN, .object RX4), (cL, .long)] U ∧ va_D (fun _ => True) [(h, .inr (11, [.ref (v 0), .int 0, .ref (v 2), .ref (v 3), .ref (v 4), .ref (v 5), .ref (v 6)])), (v 0, .inl (cN, 60, .inr (.inr (.inr (.inr (fun _ => none)))))), (v 6, .inr (8, [.int 0, .int 0, .int 0, .int 0, .long 0, .int 0, .int 0, .ref (us 7), .ref (us 8), .ref (us 9), .ref (us 10), .int 0, .ref (us 12), .ref (us 13), .ref (us 14)])), (o, .inl (cL, 1, .inr (.inl (fun _ => 0))))] ∧ GG (va_A [(h, .inr (11, [.ref (v 0), .int 0, .ref (v 2), .ref (v 3), .ref (v 4), .ref (v 5), .ref (v 6)])), (v 0, .inl (cN, 60, .inr (.inr (.inr (.inr (fun _ => none)))))), (v 6, .inr (8, [.int 0, .int 0, .int 0, .int 0, .long 0, .int 0, .int 0, .ref (us 7), .ref (us 8), .ref (us 9), .ref (us 10), .int 0, .ref (us 12), .ref (us 13), .ref (us 14)])), (o, .inl (cL, 1, .inr (.inl (fun _ => 0))))] sz) ad sa U U.heap)) (va_Qi (fun (r : Int32) (u : Nat → Int64) => r = 1 ∧ u 0 = 0) (fun (u : Nat → Int64) t => va_P (dC, dI) vwCl [(o, .inl (cL, 1, .inr (.inl u)))] t.heap ∧ va_K (dC, dI) vwCl [(cL, .long)] t ∧ va_D (va_A [(h, .inr (11, [.ref (v 0), .int 0, .ref (v 2), .ref (v 3), .ref (v 4), .ref (v 5), .ref (v 6)])), (v 0, .inl (cN, 60, .inr (.inr (.inr (.inr (fun _ => none)))))), (v 6, .inr (8, [.int 0, .int 0, .int 0, .int 0, .long 0, .int 0, .int 0, .ref (us 7), .ref (us 8), .ref (us 9), .ref (us 10), .int 0, .ref (us 12), .ref (us 13), .ref (us 14)])), (o, .inl (cL, 1, .inr (.inl (fun _ => 0))))] sz) [(o, .inl (cL, 1, .inr (.inl u)))]) (va_A [(h, .inr (11, [.ref (v 0), .int 0, .ref (v 2), .ref (v 3), .ref (v 4), .ref (v 5), .ref (v 6)])), (v 0, .inl (cN, 60, .inr (.inr (.inr (.inr (fun _ => none)))))), (v 6, .inr (8, [.int 0, .int 0, .int 0, .int 0, .long 0, .int 0, .int 0, .ref (us 7), .ref (us 8), .ref (us 9), .ref (us 10), .int 0, .ref (us 12), .ref (us 13), .ref (us 14)])), (o, .inl (cL, 1, .inr (.inl (fun _ => 0))))] sz)) (vx_X (fun _ : Unit => True) (fun _ _ _ => False) (va_A [(h, .inr (11, [.ref (v 0), .int 0, .ref (v 2), .ref (v 3), .ref (v 4), .ref (v 5), .ref (v 6)])), (v 0, .inl (cN, 60, .inr (.inr (.inr (.inr (fun _ => none)))))), (v 6, .inr (8, [.int 0, .int 0, .int 0, .int 0, .long 0, .int 0, .int 0, .ref (us 7), .ref (us 8), .ref (us 9), .ref (us 10), .int 0, .ref (us 12), .ref (us 13), .ref (us 14)])), (o, .inl (cL, 1, .inr (.inl (fun _ => 0))))] sz)) 1 6 (va_A [(h, .inr (11, [.ref (v 0), .int 0, .ref (v 2), .ref (v 3), .ref (v 4), .ref (v 5), .ref (v 6)])), (v 0, .inl (cN, 60, .inr (.inr (.inr (.inr (fun _ => none)))))), (v 6, .inr (8, [.int 0, .int 0, .int 0, .int 0, .long 0, .int 0, .int 0, .ref (us 7), .ref (us 8), .ref (us 9), .ref (us 10), .int 0, .ref (us 12), .ref (us 13), .ref (us 14)])), (o, .inl (cL, 1, .inr (.inl (fun _ => 0))))] sz) := by
  refine vx_ofWH (cc := cL_price) (maxL := 5) (ret := (some .int)) (hh :=  [(0, 10, 13, 37), (0, 10, 17, 13), (0, 10, 21, 15)]) (by decide) rfl ?_
  intro p e s m args below meth c s₁ B hml hv
  obtain ⟨rfl, hsz, hP, hK, hD0, hG⟩ := hv
  have hx := B.exec
  have hb := B.bytes
  have hr := B.returns
  have hts := atoms_spec (ws := wq_L_price) B.pre
  have htU : ∀ w ∈ UW, w.before _ s = true := fun w h => hts w (List.mem_cons_of_mem _ h)
  have hown : s.vm.findClass RL = some m.cls := findClass_of_methodNamed B.named
  have hlocks := B.notSynchronized
  have hT : c.exceptionTable.toList = tableOf  [(0, 10, 13, 37), (0, 10, 17, 13), (0, 10, 21, 15)] := vx_table (x := yL_price) B (hts _ List.mem_cons_self)
  subst hsz
  have hD := hD0.self (sz := s.heap.size)
  generalize hAe : va_A [(h, .inr (11, [.ref (v 0), .int 0, .ref (v 2), .ref (v 3), .ref (v 4), .ref (v 5), .ref (v 6)])), (v 0, .inl (cN, 60, .inr (.inr (.inr (.inr (fun _ => none)))))), (v 6, .inr (8, [.int 0, .int 0, .int 0, .int 0, .long 0, .int 0, .int 0, .ref (us 7), .ref (us 8), .ref (us 9), .ref (us 10), .int 0, .ref (us 12), .ref (us 13), .ref (us 14)])), (o, .inl (cL, 1, .inr (.inl (fun _ => 0))))] s.heap.size = A at hD hG ⊢
  have hA : ∀ q : Nat, s.heap.size ≤ q → A q := fun q h => by rw [← hAe]; exact Or.inr h
  have hS : va_S A s.heap s.heap [] := va_S.rf
  have hl := lv_entry ([.ref h, .int p0, .int p1, .ref o]) (n := 5) (Nat.le_of_ble_eq_true rfl)
  rw [lg_entry_eq]
  generalize (lg_sl ([.ref h, .int p0, .int p1, .ref o]) ++ List.replicate (5 - (lg_sl ([.ref h, .int p0, .int p1, .ref o])).length) Slot.unset).toArray = ls at hl ⊢
  have hl : lv_has ls 5 [(0, .ref h), (1, .int p0), (2, .int p1), (3, .ref o)] := hl
  refine lv_aload_n hx hb dL_price_0 rfl (lv_at hl 3 rfl) ?_
  refine lv_iconst (v := 0) hx hb dL_price_1 (by decide) ?_
  refine lv_aload_n hx hb dL_price_2 rfl (lv_at hl 0 rfl) ?_
  refine lv_iload_n hx hb dL_price_3 rfl (lv_at hl 1 rfl) ?_
  refine lv_iload_n hx hb dL_price_4 rfl (lv_at hl 2 rfl) ?_
  have hPc := hP.sub (ws' := [(h, .inr (11, [.ref (v 0), .int 0, .ref (v 2), .ref (v 3), .ref (v 4), .ref (v 5), .ref (v 6)])), (v 0, .inl (cN, 60, .inr (.inr (.inr (.inr (fun _ => none)))))), (v 6, .inr (8, [.int 0, .int 0, .int 0, .int 0, .long 0, .int 0, .int 0, .ref (us 7), .ref (us 8), .ref (us 9), .ref (us 10), .int 0, .ref (us 12), .ref (us 13), .ref (us 14)]))]) [0, 1, 2] rfl
  have hDc := hD.sub (ws' := [(h, .inr (11, [.ref (v 0), .int 0, .ref (v 2), .ref (v 3), .ref (v 4), .ref (v 5), .ref (v 6)])), (v 0, .inl (cN, 60, .inr (.inr (.inr (.inr (fun _ => none)))))), (v 6, .inr (8, [.int 0, .int 0, .int 0, .int 0, .long 0, .int 0, .int 0, .ref (us 7), .ref (us 8), .ref (us 9), .ref (us 10), .int 0, .ref (us 12), .ref (us 13), .ref (us 14)]))]) [0, 1, 2] (by decide) rfl
  have hKc := hK.sub (tys' := [(cN, .object RX4)]) [0] rfl
  have hFc := va_free (wc := [(h, .inr (11, [.ref (v 0), .int 0, .ref (v 2), .ref (v 3), .ref (v 4), .ref (v 5), .ref (v 6)])), (v 0, .inl (cN, 60, .inr (.inr (.inr (.inr (fun _ => none)))))), (v 6, .inr (8, [.int 0, .int 0, .int 0, .int 0, .long 0, .int 0, .int 0, .ref (us 7), .ref (us 8), .ref (us 9), .ref (us 10), .int 0, .ref (us 12), .ref (us 13), .ref (us 14)]))]) hD hS hA [0, 1, 2] rfl
  refine vx_calli (vx_runV (As := [.int p0, .int p1]) (rest := [.int 0, .ref o]) ⟨hx, hb, hml, hown, htU⟩ (c_X10_price l hf dC dI ad sa h v us cN p0 p1 s.heap.size) (cwV 2 htU (gq_V u_791 u_792 u_793 u_91 u_794) rfl rfl rfl (by decide +kernel) ⟨(Nat.le_of_ble_eq_true rfl), (Nat.le_of_ble_eq_true rfl)⟩) ⟨(fun a U g mk q => by obtain ⟨q0, q1, qP, qK, qD, qG⟩ := q; exact ⟨q0, q1, qP, va_K.moved (u := U) (U := U.calling g mk a) (Vm.Alike.refl U.vm) qK, qD, GG.blind qG⟩), va_recv hKc hPc (ci := 11) (q0 := 0) rfl rfl, fun U hU hW => ⟨rfl, by rw [hU], by rw [hU]; exact hPc, va_K.moved hW.alike hKc, hDc.weaken (fun _ _ _ _ => trivial), GG.go hG hS hFc hU hW⟩⟩ rfl rfl hl.1 rfl (lv_room (Nat.le_of_ble_eq_true rfl)) dL_price_5 ⟨(Nat.le_of_ble_eq_true rfl), (Nat.le_of_ble_eq_true rfl)⟩) hS (fun q _ h => hFc q h) hFc (fun q _ h => hFc q h) (fun E ce q9 _ t H locs ht hvm hpx hB hz1 hk1 hS hce hcv hcl => ?_) (fun r_1 u_2 t H locs ht hvm hw hB hz1 hk1 hS => ?_)
  · obtain ⟨rfl, hxc⟩ := hB
    refine vx_catch (own := RL) (name := xIO) hown [] ⟨0, 10, 13, 37⟩ [⟨0, 10, 17, 13⟩, ⟨0, 10, 21, 15⟩] (hT.trans rfl) (fun z hz => absurd hz List.not_mem_nil) rfl (by decide) (htU _ u_680) (va_Nw.use rfl (hG.ca 2 rfl)) hce hcv hcl ?_
    obtain ⟨hP, hD⟩ := va_join (wr := [(o, .inl (cL, 1, .inr (.inl (fun _ => 0))))]) (w1 := []) hP hD [0, 1, 2] [3] rfl rfl (by decide) (by decide) hk1 hFc (fun k q h => by simp at h) ⟨fun i j p q h => by simp at h, fun k q h => by simp at h⟩
    have hP : va_P (dC, dI) vwCl [(o, .inl (cL, 1, .inr (.inl (fun _ => 0))))] H := hP
    have hD : va_D A [(o, .inl (cL, 1, .inr (.inl (fun _ => 0))))] := hD
    refine lv_astore (lv' := [(4, .ref q9), (0, .ref h), (1, .int p0), (2, .int p1), (3, .ref o)]) hx hb dL_price_13 hl (by decide) rfl (fun ls hl => ?_)
    refine lv_iconst (v := 1) hx hb dL_price_15 (by decide) ?_
    have hP9 := hP.sub (ws' := [(o, .inl (cL, 1, .inr (.inl (fun _ => 0))))]) [0] rfl
    have hD9 := hD.sub (ws' := [(o, .inl (cL, 1, .inr (.inl (fun _ => 0))))]) [0] (by decide) rfl
    have hK9 := hK.sub (tys' := [(cL, .long)]) [1] rfl
    refine W.widen (k := 1) (n := 6) (Nat.le_of_ble_eq_true rfl) (Nat.le_of_ble_eq_true rfl) ?_
    refine vx_ret ?_
    exact W.iret (v := 1) hx hb hr (fun t ht hW => ⟨⟨1, (fun _ => 0), rfl, ⟨rfl, rfl⟩, ⟨by rw [ht]; exact hP9, va_K.moved hW.alike hK9, hD9⟩⟩, hS.F ht⟩) hS.2.2 dL_price_16
  · exact False.elim hw

set_option maxHeartbeats 4000000 in
set_option maxRecDepth 100000 in
/-- the law's keep -/
theorem c_L_keep (l : Launch) (hf : l.stackTraces = false) (dC : Nat → ClassId) (dI : Nat → Nat → Nat) (ad sa : Nat → Nat) (h : Nat) (v : Nat → Nat) (us : Nat → Nat) (cN : ClassId) (o : Nat) (cL : ClassId) (p0 : Int32) (p1 : Int32) (sz : Nat) : vx_Met l yL_keep wq_L_keep ({ frames := 10, cells := 1, slots := 6, locals := 245 }) (va_Pc [.ref h, .int p0, .int p1, .ref o] (fun U => U.heap.size = sz ∧ va_P (dC, dI) vwCl [(h, .inr (11, [.ref (v 0), .int 0, .ref (v 2), .ref (v 3), .ref (v 4), .ref (v 5), .ref (v 6)])), (v 0, .inl (cN, 60, .inr (.inr (.inr (.inr (fun _ => none)))))), (v 6, .inr (8, [.int 0, .int 0, .int 0, .int 0, .long 0, .int 0, .int 0, .ref (us 7), .ref (us 8), .ref (us 9), .ref (us 10), .int 0, .ref (us 12), .ref (us 13), .ref (us 14)])), (o, .inl (cL, 1, .inr (.inl (fun _ => 0))))] U.heap ∧ va_K (dC, dI) vwCl [(cN, .object RX4), (cL, .long)] U ∧ va_D (fun _ => True) [(h, .inr (11, [.ref (v 0), .int 0, .ref (v 2), .ref (v 3), .ref (v 4), .ref (v 5), .ref (v 6)])), (v 0, .inl (cN, 60, .inr (.inr (.inr (.inr (fun _ => none)))))), (v 6, .inr (8, [.int 0, .int 0, .int 0, .int 0, .long 0, .int 0, .int 0, .ref (us 7), .ref (us 8), .ref (us 9), .ref (us 10), .int 0, .ref (us 12), .ref (us 13), .ref (us 14)])), (o, .inl (cL, 1, .inr (.inl (fun _ => 0))))] ∧ GG (va_A [(h, .inr (11, [.ref (v 0), .int 0, .ref (v 2), .ref (v 3), .ref (v 4), .ref (v 5), .ref (v 6)])), (v 0, .inl (cN, 60, .inr (.inr (.inr (.inr (fun _ => none)))))), (v 6, .inr (8, [.int 0, .int 0, .int 0, .int 0, .long 0, .int 0, .int 0, .ref (us 7), .ref (us 8), .ref (us 9), .ref (us 10), .int 0, .ref (us 12), .ref (us 13), .ref (us 14)])), (o, .inl (cL, 1, .inr (.inl (fun _ => 0))))] sz) ad sa U U.heap)) (va_Qi (fun (r : Int32) (u : Nat → Int64) => r = 1 ∧ u 0 = 0) (fun (u : Nat → Int64) t => va_P (dC, dI) vwCl [(o, .inl (cL, 1, .inr (.inl u)))] t.heap ∧ va_K (dC, dI) vwCl [(cL, .long)] t ∧ va_D (va_A [(h, .inr (11, [.ref (v 0), .int 0, .ref (v 2), .ref (v 3), .ref (v 4), .ref (v 5), .ref (v 6)])), (v 0, .inl (cN, 60, .inr (.inr (.inr (.inr (fun _ => none)))))), (v 6, .inr (8, [.int 0, .int 0, .int 0, .int 0, .long 0, .int 0, .int 0, .ref (us 7), .ref (us 8), .ref (us 9), .ref (us 10), .int 0, .ref (us 12), .ref (us 13), .ref (us 14)])), (o, .inl (cL, 1, .inr (.inl (fun _ => 0))))] sz) [(o, .inl (cL, 1, .inr (.inl u)))]) (va_A [(h, .inr (11, [.ref (v 0), .int 0, .ref (v 2), .ref (v 3), .ref (v 4), .ref (v 5), .ref (v 6)])), (v 0, .inl (cN, 60, .inr (.inr (.inr (.inr (fun _ => none)))))), (v 6, .inr (8, [.int 0, .int 0, .int 0, .int 0, .long 0, .int 0, .int 0, .ref (us 7), .ref (us 8), .ref (us 9), .ref (us 10), .int 0, .ref (us 12), .ref (us 13), .ref (us 14)])), (o, .inl (cL, 1, .inr (.inl (fun _ => 0))))] sz)) (vx_X (fun _ : Unit => True) (fun _ _ _ => False) (va_A [(h, .inr (11, [.ref (v 0), .int 0, .ref (v 2), .ref (v 3), .ref (v 4), .ref (v 5), .ref (v 6)])), (v 0, .inl (cN, 60, .inr (.inr (.inr (.inr (fun _ => none)))))), (v 6, .inr (8, [.int 0, .int 0, .int 0, .int 0, .long 0, .int 0, .int 0, .ref (us 7), .ref (us 8), .ref (us 9), .ref (us 10), .int 0, .ref (us 12), .ref (us 13), .ref (us 14)])), (o, .inl (cL, 1, .inr (.inl (fun _ => 0))))] sz)) 1 6 (va_A [(h, .inr (11, [.ref (v 0), .int 0, .ref (v 2), .ref (v 3), .ref (v 4), .ref (v 5), .ref (v 6)])), (v 0, .inl (cN, 60, .inr (.inr (.inr (.inr (fun _ => none)))))), (v 6, .inr (8, [.int 0, .int 0, .int 0, .int 0, .long 0, .int 0, .int 0, .ref (us 7), .ref (us 8), .ref (us 9), .ref (us 10), .int 0, .ref (us 12), .ref (us 13), .ref (us 14)])), (o, .inl (cL, 1, .inr (.inl (fun _ => 0))))] sz) := by
  refine vx_ofWH (cc := cL_keep) (maxL := 5) (ret := (some .int)) (hh :=  [(0, 10, 13, 37), (0, 10, 17, 13), (0, 10, 21, 15)]) (by decide) rfl ?_
  intro p e s m args below meth c s₁ B hml hv
  obtain ⟨rfl, hsz, hP, hK, hD0, hG⟩ := hv
  have hx := B.exec
  have hb := B.bytes
  have hr := B.returns
  have hts := atoms_spec (ws := wq_L_keep) B.pre
  have htU : ∀ w ∈ UW, w.before _ s = true := fun w h => hts w (List.mem_cons_of_mem _ h)
  have hown : s.vm.findClass RL = some m.cls := findClass_of_methodNamed B.named
  have hlocks := B.notSynchronized
  have hT : c.exceptionTable.toList = tableOf  [(0, 10, 13, 37), (0, 10, 17, 13), (0, 10, 21, 15)] := vx_table (x := yL_keep) B (hts _ List.mem_cons_self)
  subst hsz
  have hD := hD0.self (sz := s.heap.size)
  generalize hAe : va_A [(h, .inr (11, [.ref (v 0), .int 0, .ref (v 2), .ref (v 3), .ref (v 4), .ref (v 5), .ref (v 6)])), (v 0, .inl (cN, 60, .inr (.inr (.inr (.inr (fun _ => none)))))), (v 6, .inr (8, [.int 0, .int 0, .int 0, .int 0, .long 0, .int 0, .int 0, .ref (us 7), .ref (us 8), .ref (us 9), .ref (us 10), .int 0, .ref (us 12), .ref (us 13), .ref (us 14)])), (o, .inl (cL, 1, .inr (.inl (fun _ => 0))))] s.heap.size = A at hD hG ⊢
  have hA : ∀ q : Nat, s.heap.size ≤ q → A q := fun q h => by rw [← hAe]; exact Or.inr h
  have hS : va_S A s.heap s.heap [] := va_S.rf
  have hl := lv_entry ([.ref h, .int p0, .int p1, .ref o]) (n := 5) (Nat.le_of_ble_eq_true rfl)
  rw [lg_entry_eq]
  generalize (lg_sl ([.ref h, .int p0, .int p1, .ref o]) ++ List.replicate (5 - (lg_sl ([.ref h, .int p0, .int p1, .ref o])).length) Slot.unset).toArray = ls at hl ⊢
  have hl : lv_has ls 5 [(0, .ref h), (1, .int p0), (2, .int p1), (3, .ref o)] := hl
  refine lv_aload_n hx hb dL_keep_0 rfl (lv_at hl 3 rfl) ?_
  refine lv_iconst (v := 0) hx hb dL_keep_1 (by decide) ?_
  refine lv_aload_n hx hb dL_keep_2 rfl (lv_at hl 0 rfl) ?_
  refine lv_iload_n hx hb dL_keep_3 rfl (lv_at hl 1 rfl) ?_
  refine lv_iload_n hx hb dL_keep_4 rfl (lv_at hl 2 rfl) ?_
  have hPc := hP.sub (ws' := [(h, .inr (11, [.ref (v 0), .int 0, .ref (v 2), .ref (v 3), .ref (v 4), .ref (v 5), .ref (v 6)])), (v 0, .inl (cN, 60, .inr (.inr (.inr (.inr (fun _ => none)))))), (v 6, .inr (8, [.int 0, .int 0, .int 0, .int 0, .long 0, .int 0, .int 0, .ref (us 7), .ref (us 8), .ref (us 9), .ref (us 10), .int 0, .ref (us 12), .ref (us 13), .ref (us 14)]))]) [0, 1, 2] rfl
  have hDc := hD.sub (ws' := [(h, .inr (11, [.ref (v 0), .int 0, .ref (v 2), .ref (v 3), .ref (v 4), .ref (v 5), .ref (v 6)])), (v 0, .inl (cN, 60, .inr (.inr (.inr (.inr (fun _ => none)))))), (v 6, .inr (8, [.int 0, .int 0, .int 0, .int 0, .long 0, .int 0, .int 0, .ref (us 7), .ref (us 8), .ref (us 9), .ref (us 10), .int 0, .ref (us 12), .ref (us 13), .ref (us 14)]))]) [0, 1, 2] (by decide) rfl
  have hKc := hK.sub (tys' := [(cN, .object RX4)]) [0] rfl
  have hFc := va_free (wc := [(h, .inr (11, [.ref (v 0), .int 0, .ref (v 2), .ref (v 3), .ref (v 4), .ref (v 5), .ref (v 6)])), (v 0, .inl (cN, 60, .inr (.inr (.inr (.inr (fun _ => none)))))), (v 6, .inr (8, [.int 0, .int 0, .int 0, .int 0, .long 0, .int 0, .int 0, .ref (us 7), .ref (us 8), .ref (us 9), .ref (us 10), .int 0, .ref (us 12), .ref (us 13), .ref (us 14)]))]) hD hS hA [0, 1, 2] rfl
  refine vx_calli (vx_runV (As := [.int p0, .int p1]) (rest := [.int 0, .ref o]) ⟨hx, hb, hml, hown, htU⟩ (c_X10_keep l hf dC dI ad sa h v us cN p0 p1 s.heap.size) (cwV 2 htU (gq_V u_800 u_801 u_802 u_91 u_803) rfl rfl rfl (by decide +kernel) ⟨(Nat.le_of_ble_eq_true rfl), (Nat.le_of_ble_eq_true rfl)⟩) ⟨(fun a U g mk q => by obtain ⟨q0, q1, qP, qK, qD, qG⟩ := q; exact ⟨q0, q1, qP, va_K.moved (u := U) (U := U.calling g mk a) (Vm.Alike.refl U.vm) qK, qD, GG.blind qG⟩), va_recv hKc hPc (ci := 11) (q0 := 0) rfl rfl, fun U hU hW => ⟨rfl, by rw [hU], by rw [hU]; exact hPc, va_K.moved hW.alike hKc, hDc.weaken (fun _ _ _ _ => trivial), GG.go hG hS hFc hU hW⟩⟩ rfl rfl hl.1 rfl (lv_room (Nat.le_of_ble_eq_true rfl)) dL_keep_5 ⟨(Nat.le_of_ble_eq_true rfl), (Nat.le_of_ble_eq_true rfl)⟩) hS (fun q _ h => hFc q h) hFc (fun q _ h => hFc q h) (fun E ce q9 _ t H locs ht hvm hpx hB hz1 hk1 hS hce hcv hcl => ?_) (fun r_1 u_2 t H locs ht hvm hw hB hz1 hk1 hS => ?_)
  · obtain ⟨rfl, hxc⟩ := hB
    refine vx_catch (own := RL) (name := xIO) hown [] ⟨0, 10, 13, 37⟩ [⟨0, 10, 17, 13⟩, ⟨0, 10, 21, 15⟩] (hT.trans rfl) (fun z hz => absurd hz List.not_mem_nil) rfl (by decide) (htU _ u_680) (va_Nw.use rfl (hG.ca 2 rfl)) hce hcv hcl ?_
    obtain ⟨hP, hD⟩ := va_join (wr := [(o, .inl (cL, 1, .inr (.inl (fun _ => 0))))]) (w1 := []) hP hD [0, 1, 2] [3] rfl rfl (by decide) (by decide) hk1 hFc (fun k q h => by simp at h) ⟨fun i j p q h => by simp at h, fun k q h => by simp at h⟩
    have hP : va_P (dC, dI) vwCl [(o, .inl (cL, 1, .inr (.inl (fun _ => 0))))] H := hP
    have hD : va_D A [(o, .inl (cL, 1, .inr (.inl (fun _ => 0))))] := hD
    refine lv_astore (lv' := [(4, .ref q9), (0, .ref h), (1, .int p0), (2, .int p1), (3, .ref o)]) hx hb dL_keep_13 hl (by decide) rfl (fun ls hl => ?_)
    refine lv_iconst (v := 1) hx hb dL_keep_15 (by decide) ?_
    have hP9 := hP.sub (ws' := [(o, .inl (cL, 1, .inr (.inl (fun _ => 0))))]) [0] rfl
    have hD9 := hD.sub (ws' := [(o, .inl (cL, 1, .inr (.inl (fun _ => 0))))]) [0] (by decide) rfl
    have hK9 := hK.sub (tys' := [(cL, .long)]) [1] rfl
    refine W.widen (k := 1) (n := 6) (Nat.le_of_ble_eq_true rfl) (Nat.le_of_ble_eq_true rfl) ?_
    refine vx_ret ?_
    exact W.iret (v := 1) hx hb hr (fun t ht hW => ⟨⟨1, (fun _ => 0), rfl, ⟨rfl, rfl⟩, ⟨by rw [ht]; exact hP9, va_K.moved hW.alike hK9, hD9⟩⟩, hS.F ht⟩) hS.2.2 dL_keep_16
  · exact False.elim hw

set_option maxHeartbeats 4000000 in
set_option maxRecDepth 100000 in
/-- the law's cell -/
theorem c_L_cell (l : Launch) (hf : l.stackTraces = false) (dC : Nat → ClassId) (dI : Nat → Nat → Nat) (ad sa : Nat → Nat) (h : Nat) (v : Nat → Nat) (us : Nat → Nat) (cN : ClassId) (o : Nat) (cL : ClassId) (p0 : Int32) (p1 : Int32) (p2 : Int32) (sz : Nat) : vx_Met l yL_cell wq_L_cell ({ frames := 10, cells := 1, slots := 6, locals := 246 }) (va_Pc [.ref h, .int p0, .int p1, .int p2, .ref o] (fun U => U.heap.size = sz ∧ va_P (dC, dI) vwCl [(h, .inr (11, [.ref (v 0), .int 0, .ref (v 2), .ref (v 3), .ref (v 4), .ref (v 5), .ref (v 6)])), (v 0, .inl (cN, 60, .inr (.inr (.inr (.inr (fun _ => none)))))), (v 6, .inr (8, [.int 0, .int 0, .int 0, .int 0, .long 0, .int 0, .int 0, .ref (us 7), .ref (us 8), .ref (us 9), .ref (us 10), .int 0, .ref (us 12), .ref (us 13), .ref (us 14)])), (o, .inl (cL, 1, .inr (.inl (fun _ => 0))))] U.heap ∧ va_K (dC, dI) vwCl [(cN, .object RX4), (cL, .long)] U ∧ va_D (fun _ => True) [(h, .inr (11, [.ref (v 0), .int 0, .ref (v 2), .ref (v 3), .ref (v 4), .ref (v 5), .ref (v 6)])), (v 0, .inl (cN, 60, .inr (.inr (.inr (.inr (fun _ => none)))))), (v 6, .inr (8, [.int 0, .int 0, .int 0, .int 0, .long 0, .int 0, .int 0, .ref (us 7), .ref (us 8), .ref (us 9), .ref (us 10), .int 0, .ref (us 12), .ref (us 13), .ref (us 14)])), (o, .inl (cL, 1, .inr (.inl (fun _ => 0))))] ∧ GG (va_A [(h, .inr (11, [.ref (v 0), .int 0, .ref (v 2), .ref (v 3), .ref (v 4), .ref (v 5), .ref (v 6)])), (v 0, .inl (cN, 60, .inr (.inr (.inr (.inr (fun _ => none)))))), (v 6, .inr (8, [.int 0, .int 0, .int 0, .int 0, .long 0, .int 0, .int 0, .ref (us 7), .ref (us 8), .ref (us 9), .ref (us 10), .int 0, .ref (us 12), .ref (us 13), .ref (us 14)])), (o, .inl (cL, 1, .inr (.inl (fun _ => 0))))] sz) ad sa U U.heap)) (va_Qi (fun (r : Int32) (u : Nat → Int64) => r = 1 ∧ u 0 = 0) (fun (u : Nat → Int64) t => va_P (dC, dI) vwCl [(o, .inl (cL, 1, .inr (.inl u)))] t.heap ∧ va_K (dC, dI) vwCl [(cL, .long)] t ∧ va_D (va_A [(h, .inr (11, [.ref (v 0), .int 0, .ref (v 2), .ref (v 3), .ref (v 4), .ref (v 5), .ref (v 6)])), (v 0, .inl (cN, 60, .inr (.inr (.inr (.inr (fun _ => none)))))), (v 6, .inr (8, [.int 0, .int 0, .int 0, .int 0, .long 0, .int 0, .int 0, .ref (us 7), .ref (us 8), .ref (us 9), .ref (us 10), .int 0, .ref (us 12), .ref (us 13), .ref (us 14)])), (o, .inl (cL, 1, .inr (.inl (fun _ => 0))))] sz) [(o, .inl (cL, 1, .inr (.inl u)))]) (va_A [(h, .inr (11, [.ref (v 0), .int 0, .ref (v 2), .ref (v 3), .ref (v 4), .ref (v 5), .ref (v 6)])), (v 0, .inl (cN, 60, .inr (.inr (.inr (.inr (fun _ => none)))))), (v 6, .inr (8, [.int 0, .int 0, .int 0, .int 0, .long 0, .int 0, .int 0, .ref (us 7), .ref (us 8), .ref (us 9), .ref (us 10), .int 0, .ref (us 12), .ref (us 13), .ref (us 14)])), (o, .inl (cL, 1, .inr (.inl (fun _ => 0))))] sz)) (vx_X (fun _ : Unit => True) (fun _ _ _ => False) (va_A [(h, .inr (11, [.ref (v 0), .int 0, .ref (v 2), .ref (v 3), .ref (v 4), .ref (v 5), .ref (v 6)])), (v 0, .inl (cN, 60, .inr (.inr (.inr (.inr (fun _ => none)))))), (v 6, .inr (8, [.int 0, .int 0, .int 0, .int 0, .long 0, .int 0, .int 0, .ref (us 7), .ref (us 8), .ref (us 9), .ref (us 10), .int 0, .ref (us 12), .ref (us 13), .ref (us 14)])), (o, .inl (cL, 1, .inr (.inl (fun _ => 0))))] sz)) 1 6 (va_A [(h, .inr (11, [.ref (v 0), .int 0, .ref (v 2), .ref (v 3), .ref (v 4), .ref (v 5), .ref (v 6)])), (v 0, .inl (cN, 60, .inr (.inr (.inr (.inr (fun _ => none)))))), (v 6, .inr (8, [.int 0, .int 0, .int 0, .int 0, .long 0, .int 0, .int 0, .ref (us 7), .ref (us 8), .ref (us 9), .ref (us 10), .int 0, .ref (us 12), .ref (us 13), .ref (us 14)])), (o, .inl (cL, 1, .inr (.inl (fun _ => 0))))] sz) := by
  refine vx_ofWH (cc := cL_cell) (maxL := 6) (ret := (some .int)) (hh :=  [(0, 12, 15, 37), (0, 12, 19, 13), (0, 12, 23, 15)]) (by decide) rfl ?_
  intro p e s m args below meth c s₁ B hml hv
  obtain ⟨rfl, hsz, hP, hK, hD0, hG⟩ := hv
  have hx := B.exec
  have hb := B.bytes
  have hr := B.returns
  have hts := atoms_spec (ws := wq_L_cell) B.pre
  have htU : ∀ w ∈ UW, w.before _ s = true := fun w h => hts w (List.mem_cons_of_mem _ h)
  have hown : s.vm.findClass RL = some m.cls := findClass_of_methodNamed B.named
  have hlocks := B.notSynchronized
  have hT : c.exceptionTable.toList = tableOf  [(0, 12, 15, 37), (0, 12, 19, 13), (0, 12, 23, 15)] := vx_table (x := yL_cell) B (hts _ List.mem_cons_self)
  subst hsz
  have hD := hD0.self (sz := s.heap.size)
  generalize hAe : va_A [(h, .inr (11, [.ref (v 0), .int 0, .ref (v 2), .ref (v 3), .ref (v 4), .ref (v 5), .ref (v 6)])), (v 0, .inl (cN, 60, .inr (.inr (.inr (.inr (fun _ => none)))))), (v 6, .inr (8, [.int 0, .int 0, .int 0, .int 0, .long 0, .int 0, .int 0, .ref (us 7), .ref (us 8), .ref (us 9), .ref (us 10), .int 0, .ref (us 12), .ref (us 13), .ref (us 14)])), (o, .inl (cL, 1, .inr (.inl (fun _ => 0))))] s.heap.size = A at hD hG ⊢
  have hA : ∀ q : Nat, s.heap.size ≤ q → A q := fun q h => by rw [← hAe]; exact Or.inr h
  have hS : va_S A s.heap s.heap [] := va_S.rf
  have hl := lv_entry ([.ref h, .int p0, .int p1, .int p2, .ref o]) (n := 6) (Nat.le_of_ble_eq_true rfl)
  rw [lg_entry_eq]
  generalize (lg_sl ([.ref h, .int p0, .int p1, .int p2, .ref o]) ++ List.replicate (6 - (lg_sl ([.ref h, .int p0, .int p1, .int p2, .ref o])).length) Slot.unset).toArray = ls at hl ⊢
  have hl : lv_has ls 6 [(0, .ref h), (1, .int p0), (2, .int p1), (3, .int p2), (4, .ref o)] := hl
  refine lv_aload hx hb dL_cell_0 (lv_at hl 4 rfl) ?_
  refine lv_iconst (v := 0) hx hb dL_cell_2 (by decide) ?_
  refine lv_aload_n hx hb dL_cell_3 rfl (lv_at hl 0 rfl) ?_
  refine lv_iload_n hx hb dL_cell_4 rfl (lv_at hl 1 rfl) ?_
  refine lv_iload_n hx hb dL_cell_5 rfl (lv_at hl 2 rfl) ?_
  refine lv_iload_n hx hb dL_cell_6 rfl (lv_at hl 3 rfl) ?_
  have hPc := hP.sub (ws' := [(h, .inr (11, [.ref (v 0), .int 0, .ref (v 2), .ref (v 3), .ref (v 4), .ref (v 5), .ref (v 6)])), (v 0, .inl (cN, 60, .inr (.inr (.inr (.inr (fun _ => none)))))), (v 6, .inr (8, [.int 0, .int 0, .int 0, .int 0, .long 0, .int 0, .int 0, .ref (us 7), .ref (us 8), .ref (us 9), .ref (us 10), .int 0, .ref (us 12), .ref (us 13), .ref (us 14)]))]) [0, 1, 2] rfl
  have hDc := hD.sub (ws' := [(h, .inr (11, [.ref (v 0), .int 0, .ref (v 2), .ref (v 3), .ref (v 4), .ref (v 5), .ref (v 6)])), (v 0, .inl (cN, 60, .inr (.inr (.inr (.inr (fun _ => none)))))), (v 6, .inr (8, [.int 0, .int 0, .int 0, .int 0, .long 0, .int 0, .int 0, .ref (us 7), .ref (us 8), .ref (us 9), .ref (us 10), .int 0, .ref (us 12), .ref (us 13), .ref (us 14)]))]) [0, 1, 2] (by decide) rfl
  have hKc := hK.sub (tys' := [(cN, .object RX4)]) [0] rfl
  have hFc := va_free (wc := [(h, .inr (11, [.ref (v 0), .int 0, .ref (v 2), .ref (v 3), .ref (v 4), .ref (v 5), .ref (v 6)])), (v 0, .inl (cN, 60, .inr (.inr (.inr (.inr (fun _ => none)))))), (v 6, .inr (8, [.int 0, .int 0, .int 0, .int 0, .long 0, .int 0, .int 0, .ref (us 7), .ref (us 8), .ref (us 9), .ref (us 10), .int 0, .ref (us 12), .ref (us 13), .ref (us 14)]))]) hD hS hA [0, 1, 2] rfl
  refine vx_calli (vx_runV (As := [.int p0, .int p1, .int p2]) (rest := [.int 0, .ref o]) ⟨hx, hb, hml, hown, htU⟩ (c_X10_cell l hf dC dI ad sa h v us cN p0 p1 p2 s.heap.size) (cwV 3 htU (gq_V u_809 u_810 u_811 u_91 u_812) rfl rfl rfl (by decide +kernel) ⟨(Nat.le_of_ble_eq_true rfl), (Nat.le_of_ble_eq_true rfl)⟩) ⟨(fun a U g mk q => by obtain ⟨q0, q1, qP, qK, qD, qG⟩ := q; exact ⟨q0, q1, qP, va_K.moved (u := U) (U := U.calling g mk a) (Vm.Alike.refl U.vm) qK, qD, GG.blind qG⟩), va_recv hKc hPc (ci := 11) (q0 := 0) rfl rfl, fun U hU hW => ⟨rfl, by rw [hU], by rw [hU]; exact hPc, va_K.moved hW.alike hKc, hDc.weaken (fun _ _ _ _ => trivial), GG.go hG hS hFc hU hW⟩⟩ rfl rfl hl.1 rfl (lv_room (Nat.le_of_ble_eq_true rfl)) dL_cell_7 ⟨(Nat.le_of_ble_eq_true rfl), (Nat.le_of_ble_eq_true rfl)⟩) hS (fun q _ h => hFc q h) hFc (fun q _ h => hFc q h) (fun E ce q9 _ t H locs ht hvm hpx hB hz1 hk1 hS hce hcv hcl => ?_) (fun r_1 u_2 t H locs ht hvm hw hB hz1 hk1 hS => ?_)
  · obtain ⟨rfl, hxc⟩ := hB
    refine vx_catch (own := RL) (name := xIO) hown [] ⟨0, 12, 15, 37⟩ [⟨0, 12, 19, 13⟩, ⟨0, 12, 23, 15⟩] (hT.trans rfl) (fun z hz => absurd hz List.not_mem_nil) rfl (by decide) (htU _ u_680) (va_Nw.use rfl (hG.ca 2 rfl)) hce hcv hcl ?_
    obtain ⟨hP, hD⟩ := va_join (wr := [(o, .inl (cL, 1, .inr (.inl (fun _ => 0))))]) (w1 := []) hP hD [0, 1, 2] [3] rfl rfl (by decide) (by decide) hk1 hFc (fun k q h => by simp at h) ⟨fun i j p q h => by simp at h, fun k q h => by simp at h⟩
    have hP : va_P (dC, dI) vwCl [(o, .inl (cL, 1, .inr (.inl (fun _ => 0))))] H := hP
    have hD : va_D A [(o, .inl (cL, 1, .inr (.inl (fun _ => 0))))] := hD
    refine lv_astore (lv' := [(5, .ref q9), (0, .ref h), (1, .int p0), (2, .int p1), (3, .int p2), (4, .ref o)]) hx hb dL_cell_15 hl (by decide) rfl (fun ls hl => ?_)
    refine lv_iconst (v := 1) hx hb dL_cell_17 (by decide) ?_
    have hP9 := hP.sub (ws' := [(o, .inl (cL, 1, .inr (.inl (fun _ => 0))))]) [0] rfl
    have hD9 := hD.sub (ws' := [(o, .inl (cL, 1, .inr (.inl (fun _ => 0))))]) [0] (by decide) rfl
    have hK9 := hK.sub (tys' := [(cL, .long)]) [1] rfl
    refine W.widen (k := 1) (n := 6) (Nat.le_of_ble_eq_true rfl) (Nat.le_of_ble_eq_true rfl) ?_
    refine vx_ret ?_
    exact W.iret (v := 1) hx hb hr (fun t ht hW => ⟨⟨1, (fun _ => 0), rfl, ⟨rfl, rfl⟩, ⟨by rw [ht]; exact hP9, va_K.moved hW.alike hK9, hD9⟩⟩, hS.F ht⟩) hS.2.2 dL_cell_18
  · exact False.elim hw

set_option maxHeartbeats 4000000 in
set_option maxRecDepth 100000 in
/-- the law's size -/
theorem c_L_size (l : Launch) (hf : l.stackTraces = false) (dC : Nat → ClassId) (dI : Nat → Nat → Nat) (ad sa : Nat → Nat) (h : Nat) (v : Nat → Nat) (us : Nat → Nat) (cN : ClassId) (o : Nat) (cL : ClassId) (p0 : Int32) (sz : Nat) : vx_Met l yL_size wq_L_size ({ frames := 10, cells := 1, slots := 6, locals := 243 }) (va_Pc [.ref h, .int p0, .ref o] (fun U => U.heap.size = sz ∧ va_P (dC, dI) vwCl [(h, .inr (11, [.ref (v 0), .int 0, .ref (v 2), .ref (v 3), .ref (v 4), .ref (v 5), .ref (v 6)])), (v 0, .inl (cN, 60, .inr (.inr (.inr (.inr (fun _ => none)))))), (v 6, .inr (8, [.int 0, .int 0, .int 0, .int 0, .long 0, .int 0, .int 0, .ref (us 7), .ref (us 8), .ref (us 9), .ref (us 10), .int 0, .ref (us 12), .ref (us 13), .ref (us 14)])), (o, .inl (cL, 1, .inr (.inl (fun _ => 0))))] U.heap ∧ va_K (dC, dI) vwCl [(cN, .object RX4), (cL, .long)] U ∧ va_D (fun _ => True) [(h, .inr (11, [.ref (v 0), .int 0, .ref (v 2), .ref (v 3), .ref (v 4), .ref (v 5), .ref (v 6)])), (v 0, .inl (cN, 60, .inr (.inr (.inr (.inr (fun _ => none)))))), (v 6, .inr (8, [.int 0, .int 0, .int 0, .int 0, .long 0, .int 0, .int 0, .ref (us 7), .ref (us 8), .ref (us 9), .ref (us 10), .int 0, .ref (us 12), .ref (us 13), .ref (us 14)])), (o, .inl (cL, 1, .inr (.inl (fun _ => 0))))] ∧ GG (va_A [(h, .inr (11, [.ref (v 0), .int 0, .ref (v 2), .ref (v 3), .ref (v 4), .ref (v 5), .ref (v 6)])), (v 0, .inl (cN, 60, .inr (.inr (.inr (.inr (fun _ => none)))))), (v 6, .inr (8, [.int 0, .int 0, .int 0, .int 0, .long 0, .int 0, .int 0, .ref (us 7), .ref (us 8), .ref (us 9), .ref (us 10), .int 0, .ref (us 12), .ref (us 13), .ref (us 14)])), (o, .inl (cL, 1, .inr (.inl (fun _ => 0))))] sz) ad sa U U.heap)) (va_Qi (fun (r : Int32) (u : Nat → Int64) => r = 1 ∧ u 0 = 0) (fun (u : Nat → Int64) t => va_P (dC, dI) vwCl [(o, .inl (cL, 1, .inr (.inl u)))] t.heap ∧ va_K (dC, dI) vwCl [(cL, .long)] t ∧ va_D (va_A [(h, .inr (11, [.ref (v 0), .int 0, .ref (v 2), .ref (v 3), .ref (v 4), .ref (v 5), .ref (v 6)])), (v 0, .inl (cN, 60, .inr (.inr (.inr (.inr (fun _ => none)))))), (v 6, .inr (8, [.int 0, .int 0, .int 0, .int 0, .long 0, .int 0, .int 0, .ref (us 7), .ref (us 8), .ref (us 9), .ref (us 10), .int 0, .ref (us 12), .ref (us 13), .ref (us 14)])), (o, .inl (cL, 1, .inr (.inl (fun _ => 0))))] sz) [(o, .inl (cL, 1, .inr (.inl u)))]) (va_A [(h, .inr (11, [.ref (v 0), .int 0, .ref (v 2), .ref (v 3), .ref (v 4), .ref (v 5), .ref (v 6)])), (v 0, .inl (cN, 60, .inr (.inr (.inr (.inr (fun _ => none)))))), (v 6, .inr (8, [.int 0, .int 0, .int 0, .int 0, .long 0, .int 0, .int 0, .ref (us 7), .ref (us 8), .ref (us 9), .ref (us 10), .int 0, .ref (us 12), .ref (us 13), .ref (us 14)])), (o, .inl (cL, 1, .inr (.inl (fun _ => 0))))] sz)) (vx_X (fun _ : Unit => True) (fun _ _ _ => False) (va_A [(h, .inr (11, [.ref (v 0), .int 0, .ref (v 2), .ref (v 3), .ref (v 4), .ref (v 5), .ref (v 6)])), (v 0, .inl (cN, 60, .inr (.inr (.inr (.inr (fun _ => none)))))), (v 6, .inr (8, [.int 0, .int 0, .int 0, .int 0, .long 0, .int 0, .int 0, .ref (us 7), .ref (us 8), .ref (us 9), .ref (us 10), .int 0, .ref (us 12), .ref (us 13), .ref (us 14)])), (o, .inl (cL, 1, .inr (.inl (fun _ => 0))))] sz)) 1 6 (va_A [(h, .inr (11, [.ref (v 0), .int 0, .ref (v 2), .ref (v 3), .ref (v 4), .ref (v 5), .ref (v 6)])), (v 0, .inl (cN, 60, .inr (.inr (.inr (.inr (fun _ => none)))))), (v 6, .inr (8, [.int 0, .int 0, .int 0, .int 0, .long 0, .int 0, .int 0, .ref (us 7), .ref (us 8), .ref (us 9), .ref (us 10), .int 0, .ref (us 12), .ref (us 13), .ref (us 14)])), (o, .inl (cL, 1, .inr (.inl (fun _ => 0))))] sz) := by
  refine vx_ofWH (cc := cL_size) (maxL := 4) (ret := (some .int)) (hh :=  [(0, 9, 12, 37)]) (by decide) rfl ?_
  intro p e s m args below meth c s₁ B hml hv
  obtain ⟨rfl, hsz, hP, hK, hD0, hG⟩ := hv
  have hx := B.exec
  have hb := B.bytes
  have hr := B.returns
  have hts := atoms_spec (ws := wq_L_size) B.pre
  have htU : ∀ w ∈ UW, w.before _ s = true := fun w h => hts w (List.mem_cons_of_mem _ h)
  have hown : s.vm.findClass RL = some m.cls := findClass_of_methodNamed B.named
  have hlocks := B.notSynchronized
  have hT : c.exceptionTable.toList = tableOf  [(0, 9, 12, 37)] := vx_table (x := yL_size) B (hts _ List.mem_cons_self)
  subst hsz
  have hD := hD0.self (sz := s.heap.size)
  generalize hAe : va_A [(h, .inr (11, [.ref (v 0), .int 0, .ref (v 2), .ref (v 3), .ref (v 4), .ref (v 5), .ref (v 6)])), (v 0, .inl (cN, 60, .inr (.inr (.inr (.inr (fun _ => none)))))), (v 6, .inr (8, [.int 0, .int 0, .int 0, .int 0, .long 0, .int 0, .int 0, .ref (us 7), .ref (us 8), .ref (us 9), .ref (us 10), .int 0, .ref (us 12), .ref (us 13), .ref (us 14)])), (o, .inl (cL, 1, .inr (.inl (fun _ => 0))))] s.heap.size = A at hD hG ⊢
  have hA : ∀ q : Nat, s.heap.size ≤ q → A q := fun q h => by rw [← hAe]; exact Or.inr h
  have hS : va_S A s.heap s.heap [] := va_S.rf
  have hl := lv_entry ([.ref h, .int p0, .ref o]) (n := 4) (Nat.le_of_ble_eq_true rfl)
  rw [lg_entry_eq]
  generalize (lg_sl ([.ref h, .int p0, .ref o]) ++ List.replicate (4 - (lg_sl ([.ref h, .int p0, .ref o])).length) Slot.unset).toArray = ls at hl ⊢
  have hl : lv_has ls 4 [(0, .ref h), (1, .int p0), (2, .ref o)] := hl
  refine lv_aload_n hx hb dL_size_0 rfl (lv_at hl 2 rfl) ?_
  refine lv_iconst (v := 0) hx hb dL_size_1 (by decide) ?_
  refine lv_aload_n hx hb dL_size_2 rfl (lv_at hl 0 rfl) ?_
  refine lv_iload_n hx hb dL_size_3 rfl (lv_at hl 1 rfl) ?_
  have hPc := hP.sub (ws' := [(h, .inr (11, [.ref (v 0), .int 0, .ref (v 2), .ref (v 3), .ref (v 4), .ref (v 5), .ref (v 6)])), (v 0, .inl (cN, 60, .inr (.inr (.inr (.inr (fun _ => none)))))), (v 6, .inr (8, [.int 0, .int 0, .int 0, .int 0, .long 0, .int 0, .int 0, .ref (us 7), .ref (us 8), .ref (us 9), .ref (us 10), .int 0, .ref (us 12), .ref (us 13), .ref (us 14)]))]) [0, 1, 2] rfl
  have hDc := hD.sub (ws' := [(h, .inr (11, [.ref (v 0), .int 0, .ref (v 2), .ref (v 3), .ref (v 4), .ref (v 5), .ref (v 6)])), (v 0, .inl (cN, 60, .inr (.inr (.inr (.inr (fun _ => none)))))), (v 6, .inr (8, [.int 0, .int 0, .int 0, .int 0, .long 0, .int 0, .int 0, .ref (us 7), .ref (us 8), .ref (us 9), .ref (us 10), .int 0, .ref (us 12), .ref (us 13), .ref (us 14)]))]) [0, 1, 2] (by decide) rfl
  have hKc := hK.sub (tys' := [(cN, .object RX4)]) [0] rfl
  have hFc := va_free (wc := [(h, .inr (11, [.ref (v 0), .int 0, .ref (v 2), .ref (v 3), .ref (v 4), .ref (v 5), .ref (v 6)])), (v 0, .inl (cN, 60, .inr (.inr (.inr (.inr (fun _ => none)))))), (v 6, .inr (8, [.int 0, .int 0, .int 0, .int 0, .long 0, .int 0, .int 0, .ref (us 7), .ref (us 8), .ref (us 9), .ref (us 10), .int 0, .ref (us 12), .ref (us 13), .ref (us 14)]))]) hD hS hA [0, 1, 2] rfl
  refine vx_calli (vx_runV (As := [.int p0]) (rest := [.int 0, .ref o]) ⟨hx, hb, hml, hown, htU⟩ (c_X10_size l hf dC dI ad sa h v us cN p0 s.heap.size) (cwV 1 htU (gq_V u_818 u_819 u_820 u_91 u_821) rfl rfl rfl (by decide +kernel) ⟨(Nat.le_of_ble_eq_true rfl), (Nat.le_of_ble_eq_true rfl)⟩) ⟨(fun a U g mk q => by obtain ⟨q0, q1, qP, qK, qD, qG⟩ := q; exact ⟨q0, q1, qP, va_K.moved (u := U) (U := U.calling g mk a) (Vm.Alike.refl U.vm) qK, qD, GG.blind qG⟩), va_recv hKc hPc (ci := 11) (q0 := 0) rfl rfl, fun U hU hW => ⟨rfl, by rw [hU], by rw [hU]; exact hPc, va_K.moved hW.alike hKc, hDc.weaken (fun _ _ _ _ => trivial), GG.go hG hS hFc hU hW⟩⟩ rfl rfl hl.1 rfl (lv_room (Nat.le_of_ble_eq_true rfl)) dL_size_4 ⟨(Nat.le_of_ble_eq_true rfl), (Nat.le_of_ble_eq_true rfl)⟩) hS (fun q _ h => hFc q h) hFc (fun q _ h => hFc q h) (fun E ce q9 _ t H locs ht hvm hpx hB hz1 hk1 hS hce hcv hcl => ?_) (fun r_1 u_2 t H locs ht hvm hw hB hz1 hk1 hS => ?_)
  · obtain ⟨rfl, hxc⟩ := hB
    refine vx_catch (own := RL) (name := xIO) hown [] ⟨0, 9, 12, 37⟩ [] (hT.trans rfl) (fun z hz => absurd hz List.not_mem_nil) rfl (by decide) (htU _ u_680) (va_Nw.use rfl (hG.ca 2 rfl)) hce hcv hcl ?_
    obtain ⟨hP, hD⟩ := va_join (wr := [(o, .inl (cL, 1, .inr (.inl (fun _ => 0))))]) (w1 := []) hP hD [0, 1, 2] [3] rfl rfl (by decide) (by decide) hk1 hFc (fun k q h => by simp at h) ⟨fun i j p q h => by simp at h, fun k q h => by simp at h⟩
    have hP : va_P (dC, dI) vwCl [(o, .inl (cL, 1, .inr (.inl (fun _ => 0))))] H := hP
    have hD : va_D A [(o, .inl (cL, 1, .inr (.inl (fun _ => 0))))] := hD
    refine lv_astore_n (lv' := [(3, .ref q9), (0, .ref h), (1, .int p0), (2, .ref o)]) hx hb dL_size_12 rfl hl (by decide) rfl (fun ls hl => ?_)
    refine lv_iconst (v := 1) hx hb dL_size_13 (by decide) ?_
    have hP9 := hP.sub (ws' := [(o, .inl (cL, 1, .inr (.inl (fun _ => 0))))]) [0] rfl
    have hD9 := hD.sub (ws' := [(o, .inl (cL, 1, .inr (.inl (fun _ => 0))))]) [0] (by decide) rfl
    have hK9 := hK.sub (tys' := [(cL, .long)]) [1] rfl
    refine W.widen (k := 1) (n := 6) (Nat.le_of_ble_eq_true rfl) (Nat.le_of_ble_eq_true rfl) ?_
    refine vx_ret ?_
    exact W.iret (v := 1) hx hb hr (fun t ht hW => ⟨⟨1, (fun _ => 0), rfl, ⟨rfl, rfl⟩, ⟨by rw [ht]; exact hP9, va_K.moved hW.alike hK9, hD9⟩⟩, hS.F ht⟩) hS.2.2 dL_size_14
  · exact False.elim hw

set_option maxHeartbeats 4000000 in
set_option maxRecDepth 100000 in
/-- the law's layouts -/
theorem c_L_layouts (l : Launch) (hf : l.stackTraces = false) (dC : Nat → ClassId) (dI : Nat → Nat → Nat) (ad sa : Nat → Nat) (h : Nat) (v : Nat → Nat) (us : Nat → Nat) (cN : ClassId) (o : Nat) (cL : ClassId) (p0 : Int32) (sz : Nat) : vx_Met l yL_layouts wq_L_layouts ({ frames := 10, cells := 1, slots := 6, locals := 243 }) (va_Pc [.ref h, .int p0, .ref o] (fun U => U.heap.size = sz ∧ va_P (dC, dI) vwCl [(h, .inr (11, [.ref (v 0), .int 0, .ref (v 2), .ref (v 3), .ref (v 4), .ref (v 5), .ref (v 6)])), (v 0, .inl (cN, 60, .inr (.inr (.inr (.inr (fun _ => none)))))), (v 6, .inr (8, [.int 0, .int 0, .int 0, .int 0, .long 0, .int 0, .int 0, .ref (us 7), .ref (us 8), .ref (us 9), .ref (us 10), .int 0, .ref (us 12), .ref (us 13), .ref (us 14)])), (o, .inl (cL, 1, .inr (.inl (fun _ => 0))))] U.heap ∧ va_K (dC, dI) vwCl [(cN, .object RX4), (cL, .long)] U ∧ va_D (fun _ => True) [(h, .inr (11, [.ref (v 0), .int 0, .ref (v 2), .ref (v 3), .ref (v 4), .ref (v 5), .ref (v 6)])), (v 0, .inl (cN, 60, .inr (.inr (.inr (.inr (fun _ => none)))))), (v 6, .inr (8, [.int 0, .int 0, .int 0, .int 0, .long 0, .int 0, .int 0, .ref (us 7), .ref (us 8), .ref (us 9), .ref (us 10), .int 0, .ref (us 12), .ref (us 13), .ref (us 14)])), (o, .inl (cL, 1, .inr (.inl (fun _ => 0))))] ∧ GG (va_A [(h, .inr (11, [.ref (v 0), .int 0, .ref (v 2), .ref (v 3), .ref (v 4), .ref (v 5), .ref (v 6)])), (v 0, .inl (cN, 60, .inr (.inr (.inr (.inr (fun _ => none)))))), (v 6, .inr (8, [.int 0, .int 0, .int 0, .int 0, .long 0, .int 0, .int 0, .ref (us 7), .ref (us 8), .ref (us 9), .ref (us 10), .int 0, .ref (us 12), .ref (us 13), .ref (us 14)])), (o, .inl (cL, 1, .inr (.inl (fun _ => 0))))] sz) ad sa U U.heap)) (va_Qi (fun (r : Int32) (u : Nat → Int64) => r = 1 ∧ u 0 = 0) (fun (u : Nat → Int64) t => va_P (dC, dI) vwCl [(o, .inl (cL, 1, .inr (.inl u)))] t.heap ∧ va_K (dC, dI) vwCl [(cL, .long)] t ∧ va_D (va_A [(h, .inr (11, [.ref (v 0), .int 0, .ref (v 2), .ref (v 3), .ref (v 4), .ref (v 5), .ref (v 6)])), (v 0, .inl (cN, 60, .inr (.inr (.inr (.inr (fun _ => none)))))), (v 6, .inr (8, [.int 0, .int 0, .int 0, .int 0, .long 0, .int 0, .int 0, .ref (us 7), .ref (us 8), .ref (us 9), .ref (us 10), .int 0, .ref (us 12), .ref (us 13), .ref (us 14)])), (o, .inl (cL, 1, .inr (.inl (fun _ => 0))))] sz) [(o, .inl (cL, 1, .inr (.inl u)))]) (va_A [(h, .inr (11, [.ref (v 0), .int 0, .ref (v 2), .ref (v 3), .ref (v 4), .ref (v 5), .ref (v 6)])), (v 0, .inl (cN, 60, .inr (.inr (.inr (.inr (fun _ => none)))))), (v 6, .inr (8, [.int 0, .int 0, .int 0, .int 0, .long 0, .int 0, .int 0, .ref (us 7), .ref (us 8), .ref (us 9), .ref (us 10), .int 0, .ref (us 12), .ref (us 13), .ref (us 14)])), (o, .inl (cL, 1, .inr (.inl (fun _ => 0))))] sz)) (vx_X (fun _ : Unit => True) (fun _ _ _ => False) (va_A [(h, .inr (11, [.ref (v 0), .int 0, .ref (v 2), .ref (v 3), .ref (v 4), .ref (v 5), .ref (v 6)])), (v 0, .inl (cN, 60, .inr (.inr (.inr (.inr (fun _ => none)))))), (v 6, .inr (8, [.int 0, .int 0, .int 0, .int 0, .long 0, .int 0, .int 0, .ref (us 7), .ref (us 8), .ref (us 9), .ref (us 10), .int 0, .ref (us 12), .ref (us 13), .ref (us 14)])), (o, .inl (cL, 1, .inr (.inl (fun _ => 0))))] sz)) 1 6 (va_A [(h, .inr (11, [.ref (v 0), .int 0, .ref (v 2), .ref (v 3), .ref (v 4), .ref (v 5), .ref (v 6)])), (v 0, .inl (cN, 60, .inr (.inr (.inr (.inr (fun _ => none)))))), (v 6, .inr (8, [.int 0, .int 0, .int 0, .int 0, .long 0, .int 0, .int 0, .ref (us 7), .ref (us 8), .ref (us 9), .ref (us 10), .int 0, .ref (us 12), .ref (us 13), .ref (us 14)])), (o, .inl (cL, 1, .inr (.inl (fun _ => 0))))] sz) := by
  refine vx_ofWH (cc := cL_layouts) (maxL := 4) (ret := (some .int)) (hh :=  [(0, 9, 12, 37)]) (by decide) rfl ?_
  intro p e s m args below meth c s₁ B hml hv
  obtain ⟨rfl, hsz, hP, hK, hD0, hG⟩ := hv
  have hx := B.exec
  have hb := B.bytes
  have hr := B.returns
  have hts := atoms_spec (ws := wq_L_layouts) B.pre
  have htU : ∀ w ∈ UW, w.before _ s = true := fun w h => hts w (List.mem_cons_of_mem _ h)
  have hown : s.vm.findClass RL = some m.cls := findClass_of_methodNamed B.named
  have hlocks := B.notSynchronized
  have hT : c.exceptionTable.toList = tableOf  [(0, 9, 12, 37)] := vx_table (x := yL_layouts) B (hts _ List.mem_cons_self)
  subst hsz
  have hD := hD0.self (sz := s.heap.size)
  generalize hAe : va_A [(h, .inr (11, [.ref (v 0), .int 0, .ref (v 2), .ref (v 3), .ref (v 4), .ref (v 5), .ref (v 6)])), (v 0, .inl (cN, 60, .inr (.inr (.inr (.inr (fun _ => none)))))), (v 6, .inr (8, [.int 0, .int 0, .int 0, .int 0, .long 0, .int 0, .int 0, .ref (us 7), .ref (us 8), .ref (us 9), .ref (us 10), .int 0, .ref (us 12), .ref (us 13), .ref (us 14)])), (o, .inl (cL, 1, .inr (.inl (fun _ => 0))))] s.heap.size = A at hD hG ⊢
  have hA : ∀ q : Nat, s.heap.size ≤ q → A q := fun q h => by rw [← hAe]; exact Or.inr h
  have hS : va_S A s.heap s.heap [] := va_S.rf
  have hl := lv_entry ([.ref h, .int p0, .ref o]) (n := 4) (Nat.le_of_ble_eq_true rfl)
  rw [lg_entry_eq]
  generalize (lg_sl ([.ref h, .int p0, .ref o]) ++ List.replicate (4 - (lg_sl ([.ref h, .int p0, .ref o])).length) Slot.unset).toArray = ls at hl ⊢
  have hl : lv_has ls 4 [(0, .ref h), (1, .int p0), (2, .ref o)] := hl
  refine lv_aload_n hx hb dL_layouts_0 rfl (lv_at hl 2 rfl) ?_
  refine lv_iconst (v := 0) hx hb dL_layouts_1 (by decide) ?_
  refine lv_aload_n hx hb dL_layouts_2 rfl (lv_at hl 0 rfl) ?_
  refine lv_iload_n hx hb dL_layouts_3 rfl (lv_at hl 1 rfl) ?_
  have hPc := hP.sub (ws' := [(h, .inr (11, [.ref (v 0), .int 0, .ref (v 2), .ref (v 3), .ref (v 4), .ref (v 5), .ref (v 6)])), (v 0, .inl (cN, 60, .inr (.inr (.inr (.inr (fun _ => none)))))), (v 6, .inr (8, [.int 0, .int 0, .int 0, .int 0, .long 0, .int 0, .int 0, .ref (us 7), .ref (us 8), .ref (us 9), .ref (us 10), .int 0, .ref (us 12), .ref (us 13), .ref (us 14)]))]) [0, 1, 2] rfl
  have hDc := hD.sub (ws' := [(h, .inr (11, [.ref (v 0), .int 0, .ref (v 2), .ref (v 3), .ref (v 4), .ref (v 5), .ref (v 6)])), (v 0, .inl (cN, 60, .inr (.inr (.inr (.inr (fun _ => none)))))), (v 6, .inr (8, [.int 0, .int 0, .int 0, .int 0, .long 0, .int 0, .int 0, .ref (us 7), .ref (us 8), .ref (us 9), .ref (us 10), .int 0, .ref (us 12), .ref (us 13), .ref (us 14)]))]) [0, 1, 2] (by decide) rfl
  have hKc := hK.sub (tys' := [(cN, .object RX4)]) [0] rfl
  have hFc := va_free (wc := [(h, .inr (11, [.ref (v 0), .int 0, .ref (v 2), .ref (v 3), .ref (v 4), .ref (v 5), .ref (v 6)])), (v 0, .inl (cN, 60, .inr (.inr (.inr (.inr (fun _ => none)))))), (v 6, .inr (8, [.int 0, .int 0, .int 0, .int 0, .long 0, .int 0, .int 0, .ref (us 7), .ref (us 8), .ref (us 9), .ref (us 10), .int 0, .ref (us 12), .ref (us 13), .ref (us 14)]))]) hD hS hA [0, 1, 2] rfl
  refine vx_calli (vx_runV (As := [.int p0]) (rest := [.int 0, .ref o]) ⟨hx, hb, hml, hown, htU⟩ (c_X10_layouts l hf dC dI ad sa h v us cN p0 s.heap.size) (cwV 1 htU (gq_V u_825 u_826 u_827 u_91 u_828) rfl rfl rfl (by decide +kernel) ⟨(Nat.le_of_ble_eq_true rfl), (Nat.le_of_ble_eq_true rfl)⟩) ⟨(fun a U g mk q => by obtain ⟨q0, q1, qP, qK, qD, qG⟩ := q; exact ⟨q0, q1, qP, va_K.moved (u := U) (U := U.calling g mk a) (Vm.Alike.refl U.vm) qK, qD, GG.blind qG⟩), va_recv hKc hPc (ci := 11) (q0 := 0) rfl rfl, fun U hU hW => ⟨rfl, by rw [hU], by rw [hU]; exact hPc, va_K.moved hW.alike hKc, hDc.weaken (fun _ _ _ _ => trivial), GG.go hG hS hFc hU hW⟩⟩ rfl rfl hl.1 rfl (lv_room (Nat.le_of_ble_eq_true rfl)) dL_layouts_4 ⟨(Nat.le_of_ble_eq_true rfl), (Nat.le_of_ble_eq_true rfl)⟩) hS (fun q _ h => hFc q h) hFc (fun q _ h => hFc q h) (fun E ce q9 _ t H locs ht hvm hpx hB hz1 hk1 hS hce hcv hcl => ?_) (fun r_1 u_2 t H locs ht hvm hw hB hz1 hk1 hS => ?_)
  · obtain ⟨rfl, hxc⟩ := hB
    refine vx_catch (own := RL) (name := xIO) hown [] ⟨0, 9, 12, 37⟩ [] (hT.trans rfl) (fun z hz => absurd hz List.not_mem_nil) rfl (by decide) (htU _ u_680) (va_Nw.use rfl (hG.ca 2 rfl)) hce hcv hcl ?_
    obtain ⟨hP, hD⟩ := va_join (wr := [(o, .inl (cL, 1, .inr (.inl (fun _ => 0))))]) (w1 := []) hP hD [0, 1, 2] [3] rfl rfl (by decide) (by decide) hk1 hFc (fun k q h => by simp at h) ⟨fun i j p q h => by simp at h, fun k q h => by simp at h⟩
    have hP : va_P (dC, dI) vwCl [(o, .inl (cL, 1, .inr (.inl (fun _ => 0))))] H := hP
    have hD : va_D A [(o, .inl (cL, 1, .inr (.inl (fun _ => 0))))] := hD
    refine lv_astore_n (lv' := [(3, .ref q9), (0, .ref h), (1, .int p0), (2, .ref o)]) hx hb dL_layouts_12 rfl hl (by decide) rfl (fun ls hl => ?_)
    refine lv_iconst (v := 1) hx hb dL_layouts_13 (by decide) ?_
    have hP9 := hP.sub (ws' := [(o, .inl (cL, 1, .inr (.inl (fun _ => 0))))]) [0] rfl
    have hD9 := hD.sub (ws' := [(o, .inl (cL, 1, .inr (.inl (fun _ => 0))))]) [0] (by decide) rfl
    have hK9 := hK.sub (tys' := [(cL, .long)]) [1] rfl
    refine W.widen (k := 1) (n := 6) (Nat.le_of_ble_eq_true rfl) (Nat.le_of_ble_eq_true rfl) ?_
    refine vx_ret ?_
    exact W.iret (v := 1) hx hb hr (fun t ht hW => ⟨⟨1, (fun _ => 0), rfl, ⟨rfl, rfl⟩, ⟨by rw [ht]; exact hP9, va_K.moved hW.alike hK9, hD9⟩⟩, hS.F ht⟩) hS.2.2 dL_layouts_14
  · exact False.elim hw

set_option maxHeartbeats 4000000 in
set_option maxRecDepth 100000 in
/-- the law's print -/
theorem c_L_print (l : Launch) (hf : l.stackTraces = false) (dC : Nat → ClassId) (dI : Nat → Nat → Nat) (ad sa : Nat → Nat) (h : Nat) (v : Nat → Nat) (us : Nat → Nat) (cN : ClassId) (o : Nat) (cL : ClassId) (p0 : Int32) (p1 : Int32) (p2 : Int32) (p3 : Int32) (sz : Nat) : vx_Met l yL_print wq_L_print ({ frames := 10, cells := 1, slots := 6, locals := 247 }) (va_Pc [.ref h, .int p0, .int p1, .int p2, .int p3, .ref o] (fun U => U.heap.size = sz ∧ va_P (dC, dI) vwCl [(h, .inr (11, [.ref (v 0), .int 0, .ref (v 2), .ref (v 3), .ref (v 4), .ref (v 5), .ref (v 6)])), (v 0, .inl (cN, 60, .inr (.inr (.inr (.inr (fun _ => none)))))), (v 6, .inr (8, [.int 0, .int 0, .int 0, .int 0, .long 0, .int 0, .int 0, .ref (us 7), .ref (us 8), .ref (us 9), .ref (us 10), .int 0, .ref (us 12), .ref (us 13), .ref (us 14)])), (o, .inl (cL, 1, .inr (.inl (fun _ => 0))))] U.heap ∧ va_K (dC, dI) vwCl [(cN, .object RX4), (cL, .long)] U ∧ va_D (fun _ => True) [(h, .inr (11, [.ref (v 0), .int 0, .ref (v 2), .ref (v 3), .ref (v 4), .ref (v 5), .ref (v 6)])), (v 0, .inl (cN, 60, .inr (.inr (.inr (.inr (fun _ => none)))))), (v 6, .inr (8, [.int 0, .int 0, .int 0, .int 0, .long 0, .int 0, .int 0, .ref (us 7), .ref (us 8), .ref (us 9), .ref (us 10), .int 0, .ref (us 12), .ref (us 13), .ref (us 14)])), (o, .inl (cL, 1, .inr (.inl (fun _ => 0))))] ∧ GG (va_A [(h, .inr (11, [.ref (v 0), .int 0, .ref (v 2), .ref (v 3), .ref (v 4), .ref (v 5), .ref (v 6)])), (v 0, .inl (cN, 60, .inr (.inr (.inr (.inr (fun _ => none)))))), (v 6, .inr (8, [.int 0, .int 0, .int 0, .int 0, .long 0, .int 0, .int 0, .ref (us 7), .ref (us 8), .ref (us 9), .ref (us 10), .int 0, .ref (us 12), .ref (us 13), .ref (us 14)])), (o, .inl (cL, 1, .inr (.inl (fun _ => 0))))] sz) ad sa U U.heap)) (va_Qi (fun (r : Int32) (u : Nat → Int64) => r = 1 ∧ u 0 = 0) (fun (u : Nat → Int64) t => va_P (dC, dI) vwCl [(o, .inl (cL, 1, .inr (.inl u)))] t.heap ∧ va_K (dC, dI) vwCl [(cL, .long)] t ∧ va_D (va_A [(h, .inr (11, [.ref (v 0), .int 0, .ref (v 2), .ref (v 3), .ref (v 4), .ref (v 5), .ref (v 6)])), (v 0, .inl (cN, 60, .inr (.inr (.inr (.inr (fun _ => none)))))), (v 6, .inr (8, [.int 0, .int 0, .int 0, .int 0, .long 0, .int 0, .int 0, .ref (us 7), .ref (us 8), .ref (us 9), .ref (us 10), .int 0, .ref (us 12), .ref (us 13), .ref (us 14)])), (o, .inl (cL, 1, .inr (.inl (fun _ => 0))))] sz) [(o, .inl (cL, 1, .inr (.inl u)))]) (va_A [(h, .inr (11, [.ref (v 0), .int 0, .ref (v 2), .ref (v 3), .ref (v 4), .ref (v 5), .ref (v 6)])), (v 0, .inl (cN, 60, .inr (.inr (.inr (.inr (fun _ => none)))))), (v 6, .inr (8, [.int 0, .int 0, .int 0, .int 0, .long 0, .int 0, .int 0, .ref (us 7), .ref (us 8), .ref (us 9), .ref (us 10), .int 0, .ref (us 12), .ref (us 13), .ref (us 14)])), (o, .inl (cL, 1, .inr (.inl (fun _ => 0))))] sz)) (vx_X (fun _ : Unit => True) (fun _ _ _ => False) (va_A [(h, .inr (11, [.ref (v 0), .int 0, .ref (v 2), .ref (v 3), .ref (v 4), .ref (v 5), .ref (v 6)])), (v 0, .inl (cN, 60, .inr (.inr (.inr (.inr (fun _ => none)))))), (v 6, .inr (8, [.int 0, .int 0, .int 0, .int 0, .long 0, .int 0, .int 0, .ref (us 7), .ref (us 8), .ref (us 9), .ref (us 10), .int 0, .ref (us 12), .ref (us 13), .ref (us 14)])), (o, .inl (cL, 1, .inr (.inl (fun _ => 0))))] sz)) 1 6 (va_A [(h, .inr (11, [.ref (v 0), .int 0, .ref (v 2), .ref (v 3), .ref (v 4), .ref (v 5), .ref (v 6)])), (v 0, .inl (cN, 60, .inr (.inr (.inr (.inr (fun _ => none)))))), (v 6, .inr (8, [.int 0, .int 0, .int 0, .int 0, .long 0, .int 0, .int 0, .ref (us 7), .ref (us 8), .ref (us 9), .ref (us 10), .int 0, .ref (us 12), .ref (us 13), .ref (us 14)])), (o, .inl (cL, 1, .inr (.inl (fun _ => 0))))] sz) := by
  refine vx_ofWH (cc := cL_print) (maxL := 7) (ret := (some .int)) (hh :=  [(0, 14, 17, 37), (0, 14, 21, 13), (0, 14, 25, 15)]) (by decide) rfl ?_
  intro p e s m args below meth c s₁ B hml hv
  obtain ⟨rfl, hsz, hP, hK, hD0, hG⟩ := hv
  have hx := B.exec
  have hb := B.bytes
  have hr := B.returns
  have hts := atoms_spec (ws := wq_L_print) B.pre
  have htU : ∀ w ∈ UW, w.before _ s = true := fun w h => hts w (List.mem_cons_of_mem _ h)
  have hown : s.vm.findClass RL = some m.cls := findClass_of_methodNamed B.named
  have hlocks := B.notSynchronized
  have hT : c.exceptionTable.toList = tableOf  [(0, 14, 17, 37), (0, 14, 21, 13), (0, 14, 25, 15)] := vx_table (x := yL_print) B (hts _ List.mem_cons_self)
  subst hsz
  have hD := hD0.self (sz := s.heap.size)
  generalize hAe : va_A [(h, .inr (11, [.ref (v 0), .int 0, .ref (v 2), .ref (v 3), .ref (v 4), .ref (v 5), .ref (v 6)])), (v 0, .inl (cN, 60, .inr (.inr (.inr (.inr (fun _ => none)))))), (v 6, .inr (8, [.int 0, .int 0, .int 0, .int 0, .long 0, .int 0, .int 0, .ref (us 7), .ref (us 8), .ref (us 9), .ref (us 10), .int 0, .ref (us 12), .ref (us 13), .ref (us 14)])), (o, .inl (cL, 1, .inr (.inl (fun _ => 0))))] s.heap.size = A at hD hG ⊢
  have hA : ∀ q : Nat, s.heap.size ≤ q → A q := fun q h => by rw [← hAe]; exact Or.inr h
  have hS : va_S A s.heap s.heap [] := va_S.rf
  have hl := lv_entry ([.ref h, .int p0, .int p1, .int p2, .int p3, .ref o]) (n := 7) (Nat.le_of_ble_eq_true rfl)
  rw [lg_entry_eq]
  generalize (lg_sl ([.ref h, .int p0, .int p1, .int p2, .int p3, .ref o]) ++ List.replicate (7 - (lg_sl ([.ref h, .int p0, .int p1, .int p2, .int p3, .ref o])).length) Slot.unset).toArray = ls at hl ⊢
  have hl : lv_has ls 7 [(0, .ref h), (1, .int p0), (2, .int p1), (3, .int p2), (4, .int p3), (5, .ref o)] := hl
  refine lv_aload hx hb dL_print_0 (lv_at hl 5 rfl) ?_
  refine lv_iconst (v := 0) hx hb dL_print_2 (by decide) ?_
  refine lv_aload_n hx hb dL_print_3 rfl (lv_at hl 0 rfl) ?_
  refine lv_iload_n hx hb dL_print_4 rfl (lv_at hl 1 rfl) ?_
  refine lv_iload_n hx hb dL_print_5 rfl (lv_at hl 2 rfl) ?_
  refine lv_iload_n hx hb dL_print_6 rfl (lv_at hl 3 rfl) ?_
  refine lv_iload hx hb dL_print_7 (lv_at hl 4 rfl) ?_
  have hPc := hP.sub (ws' := [(h, .inr (11, [.ref (v 0), .int 0, .ref (v 2), .ref (v 3), .ref (v 4), .ref (v 5), .ref (v 6)])), (v 0, .inl (cN, 60, .inr (.inr (.inr (.inr (fun _ => none)))))), (v 6, .inr (8, [.int 0, .int 0, .int 0, .int 0, .long 0, .int 0, .int 0, .ref (us 7), .ref (us 8), .ref (us 9), .ref (us 10), .int 0, .ref (us 12), .ref (us 13), .ref (us 14)]))]) [0, 1, 2] rfl
  have hDc := hD.sub (ws' := [(h, .inr (11, [.ref (v 0), .int 0, .ref (v 2), .ref (v 3), .ref (v 4), .ref (v 5), .ref (v 6)])), (v 0, .inl (cN, 60, .inr (.inr (.inr (.inr (fun _ => none)))))), (v 6, .inr (8, [.int 0, .int 0, .int 0, .int 0, .long 0, .int 0, .int 0, .ref (us 7), .ref (us 8), .ref (us 9), .ref (us 10), .int 0, .ref (us 12), .ref (us 13), .ref (us 14)]))]) [0, 1, 2] (by decide) rfl
  have hKc := hK.sub (tys' := [(cN, .object RX4)]) [0] rfl
  have hFc := va_free (wc := [(h, .inr (11, [.ref (v 0), .int 0, .ref (v 2), .ref (v 3), .ref (v 4), .ref (v 5), .ref (v 6)])), (v 0, .inl (cN, 60, .inr (.inr (.inr (.inr (fun _ => none)))))), (v 6, .inr (8, [.int 0, .int 0, .int 0, .int 0, .long 0, .int 0, .int 0, .ref (us 7), .ref (us 8), .ref (us 9), .ref (us 10), .int 0, .ref (us 12), .ref (us 13), .ref (us 14)]))]) hD hS hA [0, 1, 2] rfl
  refine vx_calli (vx_runV (As := [.int p0, .int p1, .int p2, .int p3]) (rest := [.int 0, .ref o]) ⟨hx, hb, hml, hown, htU⟩ (c_X10_print l hf dC dI ad sa h v us cN p0 p1 p2 p3 s.heap.size) (cwV 4 htU (gq_V u_832 u_833 u_834 u_91 u_835) rfl rfl rfl (by decide +kernel) ⟨(Nat.le_of_ble_eq_true rfl), (Nat.le_of_ble_eq_true rfl)⟩) ⟨(fun a U g mk q => by obtain ⟨q0, q1, qP, qK, qD, qG⟩ := q; exact ⟨q0, q1, qP, va_K.moved (u := U) (U := U.calling g mk a) (Vm.Alike.refl U.vm) qK, qD, GG.blind qG⟩), va_recv hKc hPc (ci := 11) (q0 := 0) rfl rfl, fun U hU hW => ⟨rfl, by rw [hU], by rw [hU]; exact hPc, va_K.moved hW.alike hKc, hDc.weaken (fun _ _ _ _ => trivial), GG.go hG hS hFc hU hW⟩⟩ rfl rfl hl.1 rfl (lv_room (Nat.le_of_ble_eq_true rfl)) dL_print_9 ⟨(Nat.le_of_ble_eq_true rfl), (Nat.le_of_ble_eq_true rfl)⟩) hS (fun q _ h => hFc q h) hFc (fun q _ h => hFc q h) (fun E ce q9 _ t H locs ht hvm hpx hB hz1 hk1 hS hce hcv hcl => ?_) (fun r_1 u_2 t H locs ht hvm hw hB hz1 hk1 hS => ?_)
  · obtain ⟨rfl, hxc⟩ := hB
    refine vx_catch (own := RL) (name := xIO) hown [] ⟨0, 14, 17, 37⟩ [⟨0, 14, 21, 13⟩, ⟨0, 14, 25, 15⟩] (hT.trans rfl) (fun z hz => absurd hz List.not_mem_nil) rfl (by decide) (htU _ u_680) (va_Nw.use rfl (hG.ca 2 rfl)) hce hcv hcl ?_
    obtain ⟨hP, hD⟩ := va_join (wr := [(o, .inl (cL, 1, .inr (.inl (fun _ => 0))))]) (w1 := []) hP hD [0, 1, 2] [3] rfl rfl (by decide) (by decide) hk1 hFc (fun k q h => by simp at h) ⟨fun i j p q h => by simp at h, fun k q h => by simp at h⟩
    have hP : va_P (dC, dI) vwCl [(o, .inl (cL, 1, .inr (.inl (fun _ => 0))))] H := hP
    have hD : va_D A [(o, .inl (cL, 1, .inr (.inl (fun _ => 0))))] := hD
    refine lv_astore (lv' := [(6, .ref q9), (0, .ref h), (1, .int p0), (2, .int p1), (3, .int p2), (4, .int p3), (5, .ref o)]) hx hb dL_print_17 hl (by decide) rfl (fun ls hl => ?_)
    refine lv_iconst (v := 1) hx hb dL_print_19 (by decide) ?_
    have hP9 := hP.sub (ws' := [(o, .inl (cL, 1, .inr (.inl (fun _ => 0))))]) [0] rfl
    have hD9 := hD.sub (ws' := [(o, .inl (cL, 1, .inr (.inl (fun _ => 0))))]) [0] (by decide) rfl
    have hK9 := hK.sub (tys' := [(cL, .long)]) [1] rfl
    refine W.widen (k := 1) (n := 6) (Nat.le_of_ble_eq_true rfl) (Nat.le_of_ble_eq_true rfl) ?_
    refine vx_ret ?_
    exact W.iret (v := 1) hx hb hr (fun t ht hW => ⟨⟨1, (fun _ => 0), rfl, ⟨rfl, rfl⟩, ⟨by rw [ht]; exact hP9, va_K.moved hW.alike hK9, hD9⟩⟩, hS.F ht⟩) hS.2.2 dL_print_20
  · exact False.elim hw

set_option maxHeartbeats 4000000 in
set_option maxRecDepth 100000 in
/-- the law's printByAll -/
theorem c_L_printByAll (l : Launch) (hf : l.stackTraces = false) (dC : Nat → ClassId) (dI : Nat → Nat → Nat) (ad sa : Nat → Nat) (h : Nat) (v : Nat → Nat) (us : Nat → Nat) (cN : ClassId) (o : Nat) (cL : ClassId) (p0 : Int32) (p1 : Int32) (p2 : Int32) (p3 : Int32) (sz : Nat) : vx_Met l yL_printByAll wq_L_printByAll ({ frames := 10, cells := 1, slots := 6, locals := 247 }) (va_Pc [.ref h, .int p0, .int p1, .int p2, .int p3, .ref o] (fun U => U.heap.size = sz ∧ va_P (dC, dI) vwCl [(h, .inr (11, [.ref (v 0), .int 0, .ref (v 2), .ref (v 3), .ref (v 4), .ref (v 5), .ref (v 6)])), (v 0, .inl (cN, 60, .inr (.inr (.inr (.inr (fun _ => none)))))), (v 6, .inr (8, [.int 0, .int 0, .int 0, .int 0, .long 0, .int 0, .int 0, .ref (us 7), .ref (us 8), .ref (us 9), .ref (us 10), .int 0, .ref (us 12), .ref (us 13), .ref (us 14)])), (o, .inl (cL, 1, .inr (.inl (fun _ => 0))))] U.heap ∧ va_K (dC, dI) vwCl [(cN, .object RX4), (cL, .long)] U ∧ va_D (fun _ => True) [(h, .inr (11, [.ref (v 0), .int 0, .ref (v 2), .ref (v 3), .ref (v 4), .ref (v 5), .ref (v 6)])), (v 0, .inl (cN, 60, .inr (.inr (.inr (.inr (fun _ => none)))))), (v 6, .inr (8, [.int 0, .int 0, .int 0, .int 0, .long 0, .int 0, .int 0, .ref (us 7), .ref (us 8), .ref (us 9), .ref (us 10), .int 0, .ref (us 12), .ref (us 13), .ref (us 14)])), (o, .inl (cL, 1, .inr (.inl (fun _ => 0))))] ∧ GG (va_A [(h, .inr (11, [.ref (v 0), .int 0, .ref (v 2), .ref (v 3), .ref (v 4), .ref (v 5), .ref (v 6)])), (v 0, .inl (cN, 60, .inr (.inr (.inr (.inr (fun _ => none)))))), (v 6, .inr (8, [.int 0, .int 0, .int 0, .int 0, .long 0, .int 0, .int 0, .ref (us 7), .ref (us 8), .ref (us 9), .ref (us 10), .int 0, .ref (us 12), .ref (us 13), .ref (us 14)])), (o, .inl (cL, 1, .inr (.inl (fun _ => 0))))] sz) ad sa U U.heap)) (va_Qi (fun (r : Int32) (u : Nat → Int64) => r = 1 ∧ u 0 = 0) (fun (u : Nat → Int64) t => va_P (dC, dI) vwCl [(o, .inl (cL, 1, .inr (.inl u)))] t.heap ∧ va_K (dC, dI) vwCl [(cL, .long)] t ∧ va_D (va_A [(h, .inr (11, [.ref (v 0), .int 0, .ref (v 2), .ref (v 3), .ref (v 4), .ref (v 5), .ref (v 6)])), (v 0, .inl (cN, 60, .inr (.inr (.inr (.inr (fun _ => none)))))), (v 6, .inr (8, [.int 0, .int 0, .int 0, .int 0, .long 0, .int 0, .int 0, .ref (us 7), .ref (us 8), .ref (us 9), .ref (us 10), .int 0, .ref (us 12), .ref (us 13), .ref (us 14)])), (o, .inl (cL, 1, .inr (.inl (fun _ => 0))))] sz) [(o, .inl (cL, 1, .inr (.inl u)))]) (va_A [(h, .inr (11, [.ref (v 0), .int 0, .ref (v 2), .ref (v 3), .ref (v 4), .ref (v 5), .ref (v 6)])), (v 0, .inl (cN, 60, .inr (.inr (.inr (.inr (fun _ => none)))))), (v 6, .inr (8, [.int 0, .int 0, .int 0, .int 0, .long 0, .int 0, .int 0, .ref (us 7), .ref (us 8), .ref (us 9), .ref (us 10), .int 0, .ref (us 12), .ref (us 13), .ref (us 14)])), (o, .inl (cL, 1, .inr (.inl (fun _ => 0))))] sz)) (vx_X (fun _ : Unit => True) (fun _ _ _ => False) (va_A [(h, .inr (11, [.ref (v 0), .int 0, .ref (v 2), .ref (v 3), .ref (v 4), .ref (v 5), .ref (v 6)])), (v 0, .inl (cN, 60, .inr (.inr (.inr (.inr (fun _ => none)))))), (v 6, .inr (8, [.int 0, .int 0, .int 0, .int 0, .long 0, .int 0, .int 0, .ref (us 7), .ref (us 8), .ref (us 9), .ref (us 10), .int 0, .ref (us 12), .ref (us 13), .ref (us 14)])), (o, .inl (cL, 1, .inr (.inl (fun _ => 0))))] sz)) 1 6 (va_A [(h, .inr (11, [.ref (v 0), .int 0, .ref (v 2), .ref (v 3), .ref (v 4), .ref (v 5), .ref (v 6)])), (v 0, .inl (cN, 60, .inr (.inr (.inr (.inr (fun _ => none)))))), (v 6, .inr (8, [.int 0, .int 0, .int 0, .int 0, .long 0, .int 0, .int 0, .ref (us 7), .ref (us 8), .ref (us 9), .ref (us 10), .int 0, .ref (us 12), .ref (us 13), .ref (us 14)])), (o, .inl (cL, 1, .inr (.inl (fun _ => 0))))] sz) := by
  refine vx_ofWH (cc := cL_printByAll) (maxL := 7) (ret := (some .int)) (hh :=  [(0, 14, 17, 37), (0, 14, 21, 13), (0, 14, 25, 15)]) (by decide) rfl ?_
  intro p e s m args below meth c s₁ B hml hv
  obtain ⟨rfl, hsz, hP, hK, hD0, hG⟩ := hv
  have hx := B.exec
  have hb := B.bytes
  have hr := B.returns
  have hts := atoms_spec (ws := wq_L_printByAll) B.pre
  have htU : ∀ w ∈ UW, w.before _ s = true := fun w h => hts w (List.mem_cons_of_mem _ h)
  have hown : s.vm.findClass RL = some m.cls := findClass_of_methodNamed B.named
  have hlocks := B.notSynchronized
  have hT : c.exceptionTable.toList = tableOf  [(0, 14, 17, 37), (0, 14, 21, 13), (0, 14, 25, 15)] := vx_table (x := yL_printByAll) B (hts _ List.mem_cons_self)
  subst hsz
  have hD := hD0.self (sz := s.heap.size)
  generalize hAe : va_A [(h, .inr (11, [.ref (v 0), .int 0, .ref (v 2), .ref (v 3), .ref (v 4), .ref (v 5), .ref (v 6)])), (v 0, .inl (cN, 60, .inr (.inr (.inr (.inr (fun _ => none)))))), (v 6, .inr (8, [.int 0, .int 0, .int 0, .int 0, .long 0, .int 0, .int 0, .ref (us 7), .ref (us 8), .ref (us 9), .ref (us 10), .int 0, .ref (us 12), .ref (us 13), .ref (us 14)])), (o, .inl (cL, 1, .inr (.inl (fun _ => 0))))] s.heap.size = A at hD hG ⊢
  have hA : ∀ q : Nat, s.heap.size ≤ q → A q := fun q h => by rw [← hAe]; exact Or.inr h
  have hS : va_S A s.heap s.heap [] := va_S.rf
  have hl := lv_entry ([.ref h, .int p0, .int p1, .int p2, .int p3, .ref o]) (n := 7) (Nat.le_of_ble_eq_true rfl)
  rw [lg_entry_eq]
  generalize (lg_sl ([.ref h, .int p0, .int p1, .int p2, .int p3, .ref o]) ++ List.replicate (7 - (lg_sl ([.ref h, .int p0, .int p1, .int p2, .int p3, .ref o])).length) Slot.unset).toArray = ls at hl ⊢
  have hl : lv_has ls 7 [(0, .ref h), (1, .int p0), (2, .int p1), (3, .int p2), (4, .int p3), (5, .ref o)] := hl
  refine lv_aload hx hb dL_printByAll_0 (lv_at hl 5 rfl) ?_
  refine lv_iconst (v := 0) hx hb dL_printByAll_2 (by decide) ?_
  refine lv_aload_n hx hb dL_printByAll_3 rfl (lv_at hl 0 rfl) ?_
  refine lv_iload_n hx hb dL_printByAll_4 rfl (lv_at hl 1 rfl) ?_
  refine lv_iload_n hx hb dL_printByAll_5 rfl (lv_at hl 2 rfl) ?_
  refine lv_iload_n hx hb dL_printByAll_6 rfl (lv_at hl 3 rfl) ?_
  refine lv_iload hx hb dL_printByAll_7 (lv_at hl 4 rfl) ?_
  have hPc := hP.sub (ws' := [(h, .inr (11, [.ref (v 0), .int 0, .ref (v 2), .ref (v 3), .ref (v 4), .ref (v 5), .ref (v 6)])), (v 0, .inl (cN, 60, .inr (.inr (.inr (.inr (fun _ => none)))))), (v 6, .inr (8, [.int 0, .int 0, .int 0, .int 0, .long 0, .int 0, .int 0, .ref (us 7), .ref (us 8), .ref (us 9), .ref (us 10), .int 0, .ref (us 12), .ref (us 13), .ref (us 14)]))]) [0, 1, 2] rfl
  have hDc := hD.sub (ws' := [(h, .inr (11, [.ref (v 0), .int 0, .ref (v 2), .ref (v 3), .ref (v 4), .ref (v 5), .ref (v 6)])), (v 0, .inl (cN, 60, .inr (.inr (.inr (.inr (fun _ => none)))))), (v 6, .inr (8, [.int 0, .int 0, .int 0, .int 0, .long 0, .int 0, .int 0, .ref (us 7), .ref (us 8), .ref (us 9), .ref (us 10), .int 0, .ref (us 12), .ref (us 13), .ref (us 14)]))]) [0, 1, 2] (by decide) rfl
  have hKc := hK.sub (tys' := [(cN, .object RX4)]) [0] rfl
  have hFc := va_free (wc := [(h, .inr (11, [.ref (v 0), .int 0, .ref (v 2), .ref (v 3), .ref (v 4), .ref (v 5), .ref (v 6)])), (v 0, .inl (cN, 60, .inr (.inr (.inr (.inr (fun _ => none)))))), (v 6, .inr (8, [.int 0, .int 0, .int 0, .int 0, .long 0, .int 0, .int 0, .ref (us 7), .ref (us 8), .ref (us 9), .ref (us 10), .int 0, .ref (us 12), .ref (us 13), .ref (us 14)]))]) hD hS hA [0, 1, 2] rfl
  refine vx_calli (vx_runV (As := [.int p0, .int p1, .int p2, .int p3]) (rest := [.int 0, .ref o]) ⟨hx, hb, hml, hown, htU⟩ (c_X10_printByAll l hf dC dI ad sa h v us cN p0 p1 p2 p3 s.heap.size) (cwV 4 htU (gq_V u_1500 u_1501 u_1502 u_91 u_1503) rfl rfl rfl (by decide +kernel) ⟨(Nat.le_of_ble_eq_true rfl), (Nat.le_of_ble_eq_true rfl)⟩) ⟨(fun a U g mk q => by obtain ⟨q0, q1, qP, qK, qD, qG⟩ := q; exact ⟨q0, q1, qP, va_K.moved (u := U) (U := U.calling g mk a) (Vm.Alike.refl U.vm) qK, qD, GG.blind qG⟩), va_recv hKc hPc (ci := 11) (q0 := 0) rfl rfl, fun U hU hW => ⟨rfl, by rw [hU], by rw [hU]; exact hPc, va_K.moved hW.alike hKc, hDc.weaken (fun _ _ _ _ => trivial), GG.go hG hS hFc hU hW⟩⟩ rfl rfl hl.1 rfl (lv_room (Nat.le_of_ble_eq_true rfl)) dL_printByAll_9 ⟨(Nat.le_of_ble_eq_true rfl), (Nat.le_of_ble_eq_true rfl)⟩) hS (fun q _ h => hFc q h) hFc (fun q _ h => hFc q h) (fun E ce q9 _ t H locs ht hvm hpx hB hz1 hk1 hS hce hcv hcl => ?_) (fun r_1 u_2 t H locs ht hvm hw hB hz1 hk1 hS => ?_)
  · obtain ⟨rfl, hxc⟩ := hB
    refine vx_catch (own := RL) (name := xIO) hown [] ⟨0, 14, 17, 37⟩ [⟨0, 14, 21, 13⟩, ⟨0, 14, 25, 15⟩] (hT.trans rfl) (fun z hz => absurd hz List.not_mem_nil) rfl (by decide) (htU _ u_680) (va_Nw.use rfl (hG.ca 2 rfl)) hce hcv hcl ?_
    obtain ⟨hP, hD⟩ := va_join (wr := [(o, .inl (cL, 1, .inr (.inl (fun _ => 0))))]) (w1 := []) hP hD [0, 1, 2] [3] rfl rfl (by decide) (by decide) hk1 hFc (fun k q h => by simp at h) ⟨fun i j p q h => by simp at h, fun k q h => by simp at h⟩
    have hP : va_P (dC, dI) vwCl [(o, .inl (cL, 1, .inr (.inl (fun _ => 0))))] H := hP
    have hD : va_D A [(o, .inl (cL, 1, .inr (.inl (fun _ => 0))))] := hD
    refine lv_astore (lv' := [(6, .ref q9), (0, .ref h), (1, .int p0), (2, .int p1), (3, .int p2), (4, .int p3), (5, .ref o)]) hx hb dL_printByAll_17 hl (by decide) rfl (fun ls hl => ?_)
    refine lv_iconst (v := 1) hx hb dL_printByAll_19 (by decide) ?_
    have hP9 := hP.sub (ws' := [(o, .inl (cL, 1, .inr (.inl (fun _ => 0))))]) [0] rfl
    have hD9 := hD.sub (ws' := [(o, .inl (cL, 1, .inr (.inl (fun _ => 0))))]) [0] (by decide) rfl
    have hK9 := hK.sub (tys' := [(cL, .long)]) [1] rfl
    refine W.widen (k := 1) (n := 6) (Nat.le_of_ble_eq_true rfl) (Nat.le_of_ble_eq_true rfl) ?_
    refine vx_ret ?_
    exact W.iret (v := 1) hx hb hr (fun t ht hW => ⟨⟨1, (fun _ => 0), rfl, ⟨rfl, rfl⟩, ⟨by rw [ht]; exact hP9, va_K.moved hW.alike hK9, hD9⟩⟩, hS.F ht⟩) hS.2.2 dL_printByAll_20
  · exact False.elim hw

set_option maxHeartbeats 4000000 in
set_option maxRecDepth 100000 in
/-- the law's printGreedy -/
theorem c_L_printGreedy (l : Launch) (hf : l.stackTraces = false) (dC : Nat → ClassId) (dI : Nat → Nat → Nat) (ad sa : Nat → Nat) (h : Nat) (v : Nat → Nat) (us : Nat → Nat) (cN : ClassId) (o : Nat) (cL : ClassId) (p0 : Int32) (p1 : Int32) (p2 : Int32) (p3 : Int32) (sz : Nat) : vx_Met l yL_printGreedy wq_L_printGreedy ({ frames := 10, cells := 1, slots := 6, locals := 247 }) (va_Pc [.ref h, .int p0, .int p1, .int p2, .int p3, .ref o] (fun U => U.heap.size = sz ∧ va_P (dC, dI) vwCl [(h, .inr (11, [.ref (v 0), .int 0, .ref (v 2), .ref (v 3), .ref (v 4), .ref (v 5), .ref (v 6)])), (v 0, .inl (cN, 60, .inr (.inr (.inr (.inr (fun _ => none)))))), (v 6, .inr (8, [.int 0, .int 0, .int 0, .int 0, .long 0, .int 0, .int 0, .ref (us 7), .ref (us 8), .ref (us 9), .ref (us 10), .int 0, .ref (us 12), .ref (us 13), .ref (us 14)])), (o, .inl (cL, 1, .inr (.inl (fun _ => 0))))] U.heap ∧ va_K (dC, dI) vwCl [(cN, .object RX4), (cL, .long)] U ∧ va_D (fun _ => True) [(h, .inr (11, [.ref (v 0), .int 0, .ref (v 2), .ref (v 3), .ref (v 4), .ref (v 5), .ref (v 6)])), (v 0, .inl (cN, 60, .inr (.inr (.inr (.inr (fun _ => none)))))), (v 6, .inr (8, [.int 0, .int 0, .int 0, .int 0, .long 0, .int 0, .int 0, .ref (us 7), .ref (us 8), .ref (us 9), .ref (us 10), .int 0, .ref (us 12), .ref (us 13), .ref (us 14)])), (o, .inl (cL, 1, .inr (.inl (fun _ => 0))))] ∧ GG (va_A [(h, .inr (11, [.ref (v 0), .int 0, .ref (v 2), .ref (v 3), .ref (v 4), .ref (v 5), .ref (v 6)])), (v 0, .inl (cN, 60, .inr (.inr (.inr (.inr (fun _ => none)))))), (v 6, .inr (8, [.int 0, .int 0, .int 0, .int 0, .long 0, .int 0, .int 0, .ref (us 7), .ref (us 8), .ref (us 9), .ref (us 10), .int 0, .ref (us 12), .ref (us 13), .ref (us 14)])), (o, .inl (cL, 1, .inr (.inl (fun _ => 0))))] sz) ad sa U U.heap)) (va_Qi (fun (r : Int32) (u : Nat → Int64) => r = 1 ∧ u 0 = 0) (fun (u : Nat → Int64) t => va_P (dC, dI) vwCl [(o, .inl (cL, 1, .inr (.inl u)))] t.heap ∧ va_K (dC, dI) vwCl [(cL, .long)] t ∧ va_D (va_A [(h, .inr (11, [.ref (v 0), .int 0, .ref (v 2), .ref (v 3), .ref (v 4), .ref (v 5), .ref (v 6)])), (v 0, .inl (cN, 60, .inr (.inr (.inr (.inr (fun _ => none)))))), (v 6, .inr (8, [.int 0, .int 0, .int 0, .int 0, .long 0, .int 0, .int 0, .ref (us 7), .ref (us 8), .ref (us 9), .ref (us 10), .int 0, .ref (us 12), .ref (us 13), .ref (us 14)])), (o, .inl (cL, 1, .inr (.inl (fun _ => 0))))] sz) [(o, .inl (cL, 1, .inr (.inl u)))]) (va_A [(h, .inr (11, [.ref (v 0), .int 0, .ref (v 2), .ref (v 3), .ref (v 4), .ref (v 5), .ref (v 6)])), (v 0, .inl (cN, 60, .inr (.inr (.inr (.inr (fun _ => none)))))), (v 6, .inr (8, [.int 0, .int 0, .int 0, .int 0, .long 0, .int 0, .int 0, .ref (us 7), .ref (us 8), .ref (us 9), .ref (us 10), .int 0, .ref (us 12), .ref (us 13), .ref (us 14)])), (o, .inl (cL, 1, .inr (.inl (fun _ => 0))))] sz)) (vx_X (fun _ : Unit => True) (fun _ _ _ => False) (va_A [(h, .inr (11, [.ref (v 0), .int 0, .ref (v 2), .ref (v 3), .ref (v 4), .ref (v 5), .ref (v 6)])), (v 0, .inl (cN, 60, .inr (.inr (.inr (.inr (fun _ => none)))))), (v 6, .inr (8, [.int 0, .int 0, .int 0, .int 0, .long 0, .int 0, .int 0, .ref (us 7), .ref (us 8), .ref (us 9), .ref (us 10), .int 0, .ref (us 12), .ref (us 13), .ref (us 14)])), (o, .inl (cL, 1, .inr (.inl (fun _ => 0))))] sz)) 1 6 (va_A [(h, .inr (11, [.ref (v 0), .int 0, .ref (v 2), .ref (v 3), .ref (v 4), .ref (v 5), .ref (v 6)])), (v 0, .inl (cN, 60, .inr (.inr (.inr (.inr (fun _ => none)))))), (v 6, .inr (8, [.int 0, .int 0, .int 0, .int 0, .long 0, .int 0, .int 0, .ref (us 7), .ref (us 8), .ref (us 9), .ref (us 10), .int 0, .ref (us 12), .ref (us 13), .ref (us 14)])), (o, .inl (cL, 1, .inr (.inl (fun _ => 0))))] sz) := by
  refine vx_ofWH (cc := cL_printGreedy) (maxL := 7) (ret := (some .int)) (hh :=  [(0, 14, 17, 37), (0, 14, 21, 13), (0, 14, 25, 15)]) (by decide) rfl ?_
  intro p e s m args below meth c s₁ B hml hv
  obtain ⟨rfl, hsz, hP, hK, hD0, hG⟩ := hv
  have hx := B.exec
  have hb := B.bytes
  have hr := B.returns
  have hts := atoms_spec (ws := wq_L_printGreedy) B.pre
  have htU : ∀ w ∈ UW, w.before _ s = true := fun w h => hts w (List.mem_cons_of_mem _ h)
  have hown : s.vm.findClass RL = some m.cls := findClass_of_methodNamed B.named
  have hlocks := B.notSynchronized
  have hT : c.exceptionTable.toList = tableOf  [(0, 14, 17, 37), (0, 14, 21, 13), (0, 14, 25, 15)] := vx_table (x := yL_printGreedy) B (hts _ List.mem_cons_self)
  subst hsz
  have hD := hD0.self (sz := s.heap.size)
  generalize hAe : va_A [(h, .inr (11, [.ref (v 0), .int 0, .ref (v 2), .ref (v 3), .ref (v 4), .ref (v 5), .ref (v 6)])), (v 0, .inl (cN, 60, .inr (.inr (.inr (.inr (fun _ => none)))))), (v 6, .inr (8, [.int 0, .int 0, .int 0, .int 0, .long 0, .int 0, .int 0, .ref (us 7), .ref (us 8), .ref (us 9), .ref (us 10), .int 0, .ref (us 12), .ref (us 13), .ref (us 14)])), (o, .inl (cL, 1, .inr (.inl (fun _ => 0))))] s.heap.size = A at hD hG ⊢
  have hA : ∀ q : Nat, s.heap.size ≤ q → A q := fun q h => by rw [← hAe]; exact Or.inr h
  have hS : va_S A s.heap s.heap [] := va_S.rf
  have hl := lv_entry ([.ref h, .int p0, .int p1, .int p2, .int p3, .ref o]) (n := 7) (Nat.le_of_ble_eq_true rfl)
  rw [lg_entry_eq]
  generalize (lg_sl ([.ref h, .int p0, .int p1, .int p2, .int p3, .ref o]) ++ List.replicate (7 - (lg_sl ([.ref h, .int p0, .int p1, .int p2, .int p3, .ref o])).length) Slot.unset).toArray = ls at hl ⊢
  have hl : lv_has ls 7 [(0, .ref h), (1, .int p0), (2, .int p1), (3, .int p2), (4, .int p3), (5, .ref o)] := hl
  refine lv_aload hx hb dL_printGreedy_0 (lv_at hl 5 rfl) ?_
  refine lv_iconst (v := 0) hx hb dL_printGreedy_2 (by decide) ?_
  refine lv_aload_n hx hb dL_printGreedy_3 rfl (lv_at hl 0 rfl) ?_
  refine lv_iload_n hx hb dL_printGreedy_4 rfl (lv_at hl 1 rfl) ?_
  refine lv_iload_n hx hb dL_printGreedy_5 rfl (lv_at hl 2 rfl) ?_
  refine lv_iload_n hx hb dL_printGreedy_6 rfl (lv_at hl 3 rfl) ?_
  refine lv_iload hx hb dL_printGreedy_7 (lv_at hl 4 rfl) ?_
  have hPc := hP.sub (ws' := [(h, .inr (11, [.ref (v 0), .int 0, .ref (v 2), .ref (v 3), .ref (v 4), .ref (v 5), .ref (v 6)])), (v 0, .inl (cN, 60, .inr (.inr (.inr (.inr (fun _ => none)))))), (v 6, .inr (8, [.int 0, .int 0, .int 0, .int 0, .long 0, .int 0, .int 0, .ref (us 7), .ref (us 8), .ref (us 9), .ref (us 10), .int 0, .ref (us 12), .ref (us 13), .ref (us 14)]))]) [0, 1, 2] rfl
  have hDc := hD.sub (ws' := [(h, .inr (11, [.ref (v 0), .int 0, .ref (v 2), .ref (v 3), .ref (v 4), .ref (v 5), .ref (v 6)])), (v 0, .inl (cN, 60, .inr (.inr (.inr (.inr (fun _ => none)))))), (v 6, .inr (8, [.int 0, .int 0, .int 0, .int 0, .long 0, .int 0, .int 0, .ref (us 7), .ref (us 8), .ref (us 9), .ref (us 10), .int 0, .ref (us 12), .ref (us 13), .ref (us 14)]))]) [0, 1, 2] (by decide) rfl
  have hKc := hK.sub (tys' := [(cN, .object RX4)]) [0] rfl
  have hFc := va_free (wc := [(h, .inr (11, [.ref (v 0), .int 0, .ref (v 2), .ref (v 3), .ref (v 4), .ref (v 5), .ref (v 6)])), (v 0, .inl (cN, 60, .inr (.inr (.inr (.inr (fun _ => none)))))), (v 6, .inr (8, [.int 0, .int 0, .int 0, .int 0, .long 0, .int 0, .int 0, .ref (us 7), .ref (us 8), .ref (us 9), .ref (us 10), .int 0, .ref (us 12), .ref (us 13), .ref (us 14)]))]) hD hS hA [0, 1, 2] rfl
  refine vx_calli (vx_runV (As := [.int p0, .int p1, .int p2, .int p3]) (rest := [.int 0, .ref o]) ⟨hx, hb, hml, hown, htU⟩ (c_X10_printGreedy l hf dC dI ad sa h v us cN p0 p1 p2 p3 s.heap.size) (cwV 4 htU (gq_V u_1518 u_1519 u_1520 u_91 u_1521) rfl rfl rfl (by decide +kernel) ⟨(Nat.le_of_ble_eq_true rfl), (Nat.le_of_ble_eq_true rfl)⟩) ⟨(fun a U g mk q => by obtain ⟨q0, q1, qP, qK, qD, qG⟩ := q; exact ⟨q0, q1, qP, va_K.moved (u := U) (U := U.calling g mk a) (Vm.Alike.refl U.vm) qK, qD, GG.blind qG⟩), va_recv hKc hPc (ci := 11) (q0 := 0) rfl rfl, fun U hU hW => ⟨rfl, by rw [hU], by rw [hU]; exact hPc, va_K.moved hW.alike hKc, hDc.weaken (fun _ _ _ _ => trivial), GG.go hG hS hFc hU hW⟩⟩ rfl rfl hl.1 rfl (lv_room (Nat.le_of_ble_eq_true rfl)) dL_printGreedy_9 ⟨(Nat.le_of_ble_eq_true rfl), (Nat.le_of_ble_eq_true rfl)⟩) hS (fun q _ h => hFc q h) hFc (fun q _ h => hFc q h) (fun E ce q9 _ t H locs ht hvm hpx hB hz1 hk1 hS hce hcv hcl => ?_) (fun r_1 u_2 t H locs ht hvm hw hB hz1 hk1 hS => ?_)
  · obtain ⟨rfl, hxc⟩ := hB
    refine vx_catch (own := RL) (name := xIO) hown [] ⟨0, 14, 17, 37⟩ [⟨0, 14, 21, 13⟩, ⟨0, 14, 25, 15⟩] (hT.trans rfl) (fun z hz => absurd hz List.not_mem_nil) rfl (by decide) (htU _ u_680) (va_Nw.use rfl (hG.ca 2 rfl)) hce hcv hcl ?_
    obtain ⟨hP, hD⟩ := va_join (wr := [(o, .inl (cL, 1, .inr (.inl (fun _ => 0))))]) (w1 := []) hP hD [0, 1, 2] [3] rfl rfl (by decide) (by decide) hk1 hFc (fun k q h => by simp at h) ⟨fun i j p q h => by simp at h, fun k q h => by simp at h⟩
    have hP : va_P (dC, dI) vwCl [(o, .inl (cL, 1, .inr (.inl (fun _ => 0))))] H := hP
    have hD : va_D A [(o, .inl (cL, 1, .inr (.inl (fun _ => 0))))] := hD
    refine lv_astore (lv' := [(6, .ref q9), (0, .ref h), (1, .int p0), (2, .int p1), (3, .int p2), (4, .int p3), (5, .ref o)]) hx hb dL_printGreedy_17 hl (by decide) rfl (fun ls hl => ?_)
    refine lv_iconst (v := 1) hx hb dL_printGreedy_19 (by decide) ?_
    have hP9 := hP.sub (ws' := [(o, .inl (cL, 1, .inr (.inl (fun _ => 0))))]) [0] rfl
    have hD9 := hD.sub (ws' := [(o, .inl (cL, 1, .inr (.inl (fun _ => 0))))]) [0] (by decide) rfl
    have hK9 := hK.sub (tys' := [(cL, .long)]) [1] rfl
    refine W.widen (k := 1) (n := 6) (Nat.le_of_ble_eq_true rfl) (Nat.le_of_ble_eq_true rfl) ?_
    refine vx_ret ?_
    exact W.iret (v := 1) hx hb hr (fun t ht hW => ⟨⟨1, (fun _ => 0), rfl, ⟨rfl, rfl⟩, ⟨by rw [ht]; exact hP9, va_K.moved hW.alike hK9, hD9⟩⟩, hS.F ht⟩) hS.2.2 dL_printGreedy_20
  · exact False.elim hw

set_option maxHeartbeats 4000000 in
set_option maxRecDepth 100000 in
/-- the law's length -/
theorem c_L_length (l : Launch) (hf : l.stackTraces = false) (dC : Nat → ClassId) (dI : Nat → Nat → Nat) (ad sa : Nat → Nat) (h : Nat) (v : Nat → Nat) (us : Nat → Nat) (cN : ClassId) (o : Nat) (cL : ClassId) (p0 : Int32) (sz : Nat) : vx_Met l yL_length wq_L_length ({ frames := 10, cells := 1, slots := 6, locals := 242 }) (va_Pc [.ref h, .int p0, .ref o] (fun U => U.heap.size = sz ∧ va_P (dC, dI) vwCl [(h, .inr (11, [.ref (v 0), .int 0, .ref (v 2), .ref (v 3), .ref (v 4), .ref (v 5), .ref (v 6)])), (v 0, .inl (cN, 60, .inr (.inr (.inr (.inr (fun _ => none)))))), (v 6, .inr (8, [.int 0, .int 0, .int 0, .int 0, .long 0, .int 0, .int 0, .ref (us 7), .ref (us 8), .ref (us 9), .ref (us 10), .int 0, .ref (us 12), .ref (us 13), .ref (us 14)])), (o, .inl (cL, 1, .inr (.inl (fun _ => 0))))] U.heap ∧ va_K (dC, dI) vwCl [(cN, .object RX4), (cL, .long)] U ∧ va_D (fun _ => True) [(h, .inr (11, [.ref (v 0), .int 0, .ref (v 2), .ref (v 3), .ref (v 4), .ref (v 5), .ref (v 6)])), (v 0, .inl (cN, 60, .inr (.inr (.inr (.inr (fun _ => none)))))), (v 6, .inr (8, [.int 0, .int 0, .int 0, .int 0, .long 0, .int 0, .int 0, .ref (us 7), .ref (us 8), .ref (us 9), .ref (us 10), .int 0, .ref (us 12), .ref (us 13), .ref (us 14)])), (o, .inl (cL, 1, .inr (.inl (fun _ => 0))))] ∧ GG (va_A [(h, .inr (11, [.ref (v 0), .int 0, .ref (v 2), .ref (v 3), .ref (v 4), .ref (v 5), .ref (v 6)])), (v 0, .inl (cN, 60, .inr (.inr (.inr (.inr (fun _ => none)))))), (v 6, .inr (8, [.int 0, .int 0, .int 0, .int 0, .long 0, .int 0, .int 0, .ref (us 7), .ref (us 8), .ref (us 9), .ref (us 10), .int 0, .ref (us 12), .ref (us 13), .ref (us 14)])), (o, .inl (cL, 1, .inr (.inl (fun _ => 0))))] sz) ad sa U U.heap)) (va_Qi (fun (r : Int32) (u : Nat → Int64) => r = 1 ∧ u 0 = 0) (fun (u : Nat → Int64) t => va_P (dC, dI) vwCl [(o, .inl (cL, 1, .inr (.inl u)))] t.heap ∧ va_K (dC, dI) vwCl [(cL, .long)] t ∧ va_D (va_A [(h, .inr (11, [.ref (v 0), .int 0, .ref (v 2), .ref (v 3), .ref (v 4), .ref (v 5), .ref (v 6)])), (v 0, .inl (cN, 60, .inr (.inr (.inr (.inr (fun _ => none)))))), (v 6, .inr (8, [.int 0, .int 0, .int 0, .int 0, .long 0, .int 0, .int 0, .ref (us 7), .ref (us 8), .ref (us 9), .ref (us 10), .int 0, .ref (us 12), .ref (us 13), .ref (us 14)])), (o, .inl (cL, 1, .inr (.inl (fun _ => 0))))] sz) [(o, .inl (cL, 1, .inr (.inl u)))]) (va_A [(h, .inr (11, [.ref (v 0), .int 0, .ref (v 2), .ref (v 3), .ref (v 4), .ref (v 5), .ref (v 6)])), (v 0, .inl (cN, 60, .inr (.inr (.inr (.inr (fun _ => none)))))), (v 6, .inr (8, [.int 0, .int 0, .int 0, .int 0, .long 0, .int 0, .int 0, .ref (us 7), .ref (us 8), .ref (us 9), .ref (us 10), .int 0, .ref (us 12), .ref (us 13), .ref (us 14)])), (o, .inl (cL, 1, .inr (.inl (fun _ => 0))))] sz)) (vx_X (fun _ : Unit => True) (fun _ _ _ => False) (va_A [(h, .inr (11, [.ref (v 0), .int 0, .ref (v 2), .ref (v 3), .ref (v 4), .ref (v 5), .ref (v 6)])), (v 0, .inl (cN, 60, .inr (.inr (.inr (.inr (fun _ => none)))))), (v 6, .inr (8, [.int 0, .int 0, .int 0, .int 0, .long 0, .int 0, .int 0, .ref (us 7), .ref (us 8), .ref (us 9), .ref (us 10), .int 0, .ref (us 12), .ref (us 13), .ref (us 14)])), (o, .inl (cL, 1, .inr (.inl (fun _ => 0))))] sz)) 1 6 (va_A [(h, .inr (11, [.ref (v 0), .int 0, .ref (v 2), .ref (v 3), .ref (v 4), .ref (v 5), .ref (v 6)])), (v 0, .inl (cN, 60, .inr (.inr (.inr (.inr (fun _ => none)))))), (v 6, .inr (8, [.int 0, .int 0, .int 0, .int 0, .long 0, .int 0, .int 0, .ref (us 7), .ref (us 8), .ref (us 9), .ref (us 10), .int 0, .ref (us 12), .ref (us 13), .ref (us 14)])), (o, .inl (cL, 1, .inr (.inl (fun _ => 0))))] sz) := by
  refine vx_ofWH (cc := cL_length) (maxL := 4) (ret := (some .int)) (hh :=  [(0, 9, 12, 37)]) (by decide) rfl ?_
  intro p e s m args below meth c s₁ B hml hv
  obtain ⟨rfl, hsz, hP, hK, hD0, hG⟩ := hv
  have hx := B.exec
  have hb := B.bytes
  have hr := B.returns
  have hts := atoms_spec (ws := wq_L_length) B.pre
  have htU : ∀ w ∈ UW, w.before _ s = true := fun w h => hts w (List.mem_cons_of_mem _ h)
  have hown : s.vm.findClass RL = some m.cls := findClass_of_methodNamed B.named
  have hlocks := B.notSynchronized
  have hT : c.exceptionTable.toList = tableOf  [(0, 9, 12, 37)] := vx_table (x := yL_length) B (hts _ List.mem_cons_self)
  subst hsz
  have hD := hD0.self (sz := s.heap.size)
  generalize hAe : va_A [(h, .inr (11, [.ref (v 0), .int 0, .ref (v 2), .ref (v 3), .ref (v 4), .ref (v 5), .ref (v 6)])), (v 0, .inl (cN, 60, .inr (.inr (.inr (.inr (fun _ => none)))))), (v 6, .inr (8, [.int 0, .int 0, .int 0, .int 0, .long 0, .int 0, .int 0, .ref (us 7), .ref (us 8), .ref (us 9), .ref (us 10), .int 0, .ref (us 12), .ref (us 13), .ref (us 14)])), (o, .inl (cL, 1, .inr (.inl (fun _ => 0))))] s.heap.size = A at hD hG ⊢
  have hA : ∀ q : Nat, s.heap.size ≤ q → A q := fun q h => by rw [← hAe]; exact Or.inr h
  have hS : va_S A s.heap s.heap [] := va_S.rf
  have hl := lv_entry ([.ref h, .int p0, .ref o]) (n := 4) (Nat.le_of_ble_eq_true rfl)
  rw [lg_entry_eq]
  generalize (lg_sl ([.ref h, .int p0, .ref o]) ++ List.replicate (4 - (lg_sl ([.ref h, .int p0, .ref o])).length) Slot.unset).toArray = ls at hl ⊢
  have hl : lv_has ls 4 [(0, .ref h), (1, .int p0), (2, .ref o)] := hl
  refine lv_aload_n hx hb dL_length_0 rfl (lv_at hl 2 rfl) ?_
  refine lv_iconst (v := 0) hx hb dL_length_1 (by decide) ?_
  refine lv_aload_n hx hb dL_length_2 rfl (lv_at hl 0 rfl) ?_
  refine lv_iload_n hx hb dL_length_3 rfl (lv_at hl 1 rfl) ?_
  have hPc := hP.sub (ws' := [(h, .inr (11, [.ref (v 0), .int 0, .ref (v 2), .ref (v 3), .ref (v 4), .ref (v 5), .ref (v 6)])), (v 0, .inl (cN, 60, .inr (.inr (.inr (.inr (fun _ => none)))))), (v 6, .inr (8, [.int 0, .int 0, .int 0, .int 0, .long 0, .int 0, .int 0, .ref (us 7), .ref (us 8), .ref (us 9), .ref (us 10), .int 0, .ref (us 12), .ref (us 13), .ref (us 14)]))]) [0, 1, 2] rfl
  have hDc := hD.sub (ws' := [(h, .inr (11, [.ref (v 0), .int 0, .ref (v 2), .ref (v 3), .ref (v 4), .ref (v 5), .ref (v 6)])), (v 0, .inl (cN, 60, .inr (.inr (.inr (.inr (fun _ => none)))))), (v 6, .inr (8, [.int 0, .int 0, .int 0, .int 0, .long 0, .int 0, .int 0, .ref (us 7), .ref (us 8), .ref (us 9), .ref (us 10), .int 0, .ref (us 12), .ref (us 13), .ref (us 14)]))]) [0, 1, 2] (by decide) rfl
  have hKc := hK.sub (tys' := [(cN, .object RX4)]) [0] rfl
  have hFc := va_free (wc := [(h, .inr (11, [.ref (v 0), .int 0, .ref (v 2), .ref (v 3), .ref (v 4), .ref (v 5), .ref (v 6)])), (v 0, .inl (cN, 60, .inr (.inr (.inr (.inr (fun _ => none)))))), (v 6, .inr (8, [.int 0, .int 0, .int 0, .int 0, .long 0, .int 0, .int 0, .ref (us 7), .ref (us 8), .ref (us 9), .ref (us 10), .int 0, .ref (us 12), .ref (us 13), .ref (us 14)]))]) hD hS hA [0, 1, 2] rfl
  refine vx_calli (vx_runV (As := [.int p0]) (rest := [.int 0, .ref o]) ⟨hx, hb, hml, hown, htU⟩ (c_X10_length l hf dC dI ad sa h v us cN p0 s.heap.size) (cwV 1 htU (gq_V u_1540 u_1541 u_1542 u_91 u_1543) rfl rfl rfl (by decide +kernel) ⟨(Nat.le_of_ble_eq_true rfl), (Nat.le_of_ble_eq_true rfl)⟩) ⟨(fun a U g mk q => by obtain ⟨q0, q1, qP, qK, qD, qG⟩ := q; exact ⟨q0, q1, qP, va_K.moved (u := U) (U := U.calling g mk a) (Vm.Alike.refl U.vm) qK, qD, GG.blind qG⟩), va_recv hKc hPc (ci := 11) (q0 := 0) rfl rfl, fun U hU hW => ⟨rfl, by rw [hU], by rw [hU]; exact hPc, va_K.moved hW.alike hKc, hDc.weaken (fun _ _ _ _ => trivial), GG.go hG hS hFc hU hW⟩⟩ rfl rfl hl.1 rfl (lv_room (Nat.le_of_ble_eq_true rfl)) dL_length_4 ⟨(Nat.le_of_ble_eq_true rfl), (Nat.le_of_ble_eq_true rfl)⟩) hS (fun q _ h => hFc q h) hFc (fun q _ h => hFc q h) (fun E ce q9 _ t H locs ht hvm hpx hB hz1 hk1 hS hce hcv hcl => ?_) (fun r_1 u_2 t H locs ht hvm hw hB hz1 hk1 hS => ?_)
  · obtain ⟨rfl, hxc⟩ := hB
    refine vx_catch (own := RL) (name := xIO) hown [] ⟨0, 9, 12, 37⟩ [] (hT.trans rfl) (fun z hz => absurd hz List.not_mem_nil) rfl (by decide) (htU _ u_680) (va_Nw.use rfl (hG.ca 2 rfl)) hce hcv hcl ?_
    obtain ⟨hP, hD⟩ := va_join (wr := [(o, .inl (cL, 1, .inr (.inl (fun _ => 0))))]) (w1 := []) hP hD [0, 1, 2] [3] rfl rfl (by decide) (by decide) hk1 hFc (fun k q h => by simp at h) ⟨fun i j p q h => by simp at h, fun k q h => by simp at h⟩
    have hP : va_P (dC, dI) vwCl [(o, .inl (cL, 1, .inr (.inl (fun _ => 0))))] H := hP
    have hD : va_D A [(o, .inl (cL, 1, .inr (.inl (fun _ => 0))))] := hD
    refine lv_astore_n (lv' := [(3, .ref q9), (0, .ref h), (1, .int p0), (2, .ref o)]) hx hb dL_length_12 rfl hl (by decide) rfl (fun ls hl => ?_)
    refine lv_iconst (v := 1) hx hb dL_length_13 (by decide) ?_
    have hP9 := hP.sub (ws' := [(o, .inl (cL, 1, .inr (.inl (fun _ => 0))))]) [0] rfl
    have hD9 := hD.sub (ws' := [(o, .inl (cL, 1, .inr (.inl (fun _ => 0))))]) [0] (by decide) rfl
    have hK9 := hK.sub (tys' := [(cL, .long)]) [1] rfl
    refine W.widen (k := 1) (n := 6) (Nat.le_of_ble_eq_true rfl) (Nat.le_of_ble_eq_true rfl) ?_
    refine vx_ret ?_
    exact W.iret (v := 1) hx hb hr (fun t ht hW => ⟨⟨1, (fun _ => 0), rfl, ⟨rfl, rfl⟩, ⟨by rw [ht]; exact hP9, va_K.moved hW.alike hK9, hD9⟩⟩, hS.F ht⟩) hS.2.2 dL_length_14
  · exact False.elim hw

set_option maxHeartbeats 4000000 in
set_option maxRecDepth 100000 in
/-- the law's signAt -/
theorem c_L_signAt (l : Launch) (hf : l.stackTraces = false) (dC : Nat → ClassId) (dI : Nat → Nat → Nat) (ad sa : Nat → Nat) (h : Nat) (v : Nat → Nat) (us : Nat → Nat) (cN : ClassId) (o : Nat) (cL : ClassId) (p0 : Int32) (p1 : Int32) (sz : Nat) : vx_Met l yL_signAt wq_L_signAt ({ frames := 11, cells := 1, slots := 6, locals := 266 }) (va_Pc [.ref h, .int p0, .int p1, .ref o] (fun U => U.heap.size = sz ∧ va_P (dC, dI) vwCl [(h, .inr (11, [.ref (v 0), .int 0, .ref (v 2), .ref (v 3), .ref (v 4), .ref (v 5), .ref (v 6)])), (v 0, .inl (cN, 60, .inr (.inr (.inr (.inr (fun _ => none)))))), (v 6, .inr (8, [.int 0, .int 0, .int 0, .int 0, .long 0, .int 0, .int 0, .ref (us 7), .ref (us 8), .ref (us 9), .ref (us 10), .int 0, .ref (us 12), .ref (us 13), .ref (us 14)])), (o, .inl (cL, 1, .inr (.inl (fun _ => 0))))] U.heap ∧ va_K (dC, dI) vwCl [(cN, .object RX4), (cL, .long)] U ∧ va_D (fun _ => True) [(h, .inr (11, [.ref (v 0), .int 0, .ref (v 2), .ref (v 3), .ref (v 4), .ref (v 5), .ref (v 6)])), (v 0, .inl (cN, 60, .inr (.inr (.inr (.inr (fun _ => none)))))), (v 6, .inr (8, [.int 0, .int 0, .int 0, .int 0, .long 0, .int 0, .int 0, .ref (us 7), .ref (us 8), .ref (us 9), .ref (us 10), .int 0, .ref (us 12), .ref (us 13), .ref (us 14)])), (o, .inl (cL, 1, .inr (.inl (fun _ => 0))))] ∧ GG (va_A [(h, .inr (11, [.ref (v 0), .int 0, .ref (v 2), .ref (v 3), .ref (v 4), .ref (v 5), .ref (v 6)])), (v 0, .inl (cN, 60, .inr (.inr (.inr (.inr (fun _ => none)))))), (v 6, .inr (8, [.int 0, .int 0, .int 0, .int 0, .long 0, .int 0, .int 0, .ref (us 7), .ref (us 8), .ref (us 9), .ref (us 10), .int 0, .ref (us 12), .ref (us 13), .ref (us 14)])), (o, .inl (cL, 1, .inr (.inl (fun _ => 0))))] sz) ad sa U U.heap)) (va_Qi (fun (r : Int32) (u : Nat → Int64) => r = 1 ∧ u 0 = 0) (fun (u : Nat → Int64) t => va_P (dC, dI) vwCl [(o, .inl (cL, 1, .inr (.inl u)))] t.heap ∧ va_K (dC, dI) vwCl [(cL, .long)] t ∧ va_D (va_A [(h, .inr (11, [.ref (v 0), .int 0, .ref (v 2), .ref (v 3), .ref (v 4), .ref (v 5), .ref (v 6)])), (v 0, .inl (cN, 60, .inr (.inr (.inr (.inr (fun _ => none)))))), (v 6, .inr (8, [.int 0, .int 0, .int 0, .int 0, .long 0, .int 0, .int 0, .ref (us 7), .ref (us 8), .ref (us 9), .ref (us 10), .int 0, .ref (us 12), .ref (us 13), .ref (us 14)])), (o, .inl (cL, 1, .inr (.inl (fun _ => 0))))] sz) [(o, .inl (cL, 1, .inr (.inl u)))]) (va_A [(h, .inr (11, [.ref (v 0), .int 0, .ref (v 2), .ref (v 3), .ref (v 4), .ref (v 5), .ref (v 6)])), (v 0, .inl (cN, 60, .inr (.inr (.inr (.inr (fun _ => none)))))), (v 6, .inr (8, [.int 0, .int 0, .int 0, .int 0, .long 0, .int 0, .int 0, .ref (us 7), .ref (us 8), .ref (us 9), .ref (us 10), .int 0, .ref (us 12), .ref (us 13), .ref (us 14)])), (o, .inl (cL, 1, .inr (.inl (fun _ => 0))))] sz)) (vx_X (fun _ : Unit => True) (fun _ _ _ => False) (va_A [(h, .inr (11, [.ref (v 0), .int 0, .ref (v 2), .ref (v 3), .ref (v 4), .ref (v 5), .ref (v 6)])), (v 0, .inl (cN, 60, .inr (.inr (.inr (.inr (fun _ => none)))))), (v 6, .inr (8, [.int 0, .int 0, .int 0, .int 0, .long 0, .int 0, .int 0, .ref (us 7), .ref (us 8), .ref (us 9), .ref (us 10), .int 0, .ref (us 12), .ref (us 13), .ref (us 14)])), (o, .inl (cL, 1, .inr (.inl (fun _ => 0))))] sz)) 1 6 (va_A [(h, .inr (11, [.ref (v 0), .int 0, .ref (v 2), .ref (v 3), .ref (v 4), .ref (v 5), .ref (v 6)])), (v 0, .inl (cN, 60, .inr (.inr (.inr (.inr (fun _ => none)))))), (v 6, .inr (8, [.int 0, .int 0, .int 0, .int 0, .long 0, .int 0, .int 0, .ref (us 7), .ref (us 8), .ref (us 9), .ref (us 10), .int 0, .ref (us 12), .ref (us 13), .ref (us 14)])), (o, .inl (cL, 1, .inr (.inl (fun _ => 0))))] sz) := by
  refine vx_ofWH (cc := cL_signAt) (maxL := 5) (ret := (some .int)) (hh :=  [(0, 10, 13, 37)]) (by decide) rfl ?_
  intro p e s m args below meth c s₁ B hml hv
  obtain ⟨rfl, hsz, hP, hK, hD0, hG⟩ := hv
  have hx := B.exec
  have hb := B.bytes
  have hr := B.returns
  have hts := atoms_spec (ws := wq_L_signAt) B.pre
  have htU : ∀ w ∈ UW, w.before _ s = true := fun w h => hts w (List.mem_cons_of_mem _ h)
  have hown : s.vm.findClass RL = some m.cls := findClass_of_methodNamed B.named
  have hlocks := B.notSynchronized
  have hT : c.exceptionTable.toList = tableOf  [(0, 10, 13, 37)] := vx_table (x := yL_signAt) B (hts _ List.mem_cons_self)
  subst hsz
  have hD := hD0.self (sz := s.heap.size)
  generalize hAe : va_A [(h, .inr (11, [.ref (v 0), .int 0, .ref (v 2), .ref (v 3), .ref (v 4), .ref (v 5), .ref (v 6)])), (v 0, .inl (cN, 60, .inr (.inr (.inr (.inr (fun _ => none)))))), (v 6, .inr (8, [.int 0, .int 0, .int 0, .int 0, .long 0, .int 0, .int 0, .ref (us 7), .ref (us 8), .ref (us 9), .ref (us 10), .int 0, .ref (us 12), .ref (us 13), .ref (us 14)])), (o, .inl (cL, 1, .inr (.inl (fun _ => 0))))] s.heap.size = A at hD hG ⊢
  have hA : ∀ q : Nat, s.heap.size ≤ q → A q := fun q h => by rw [← hAe]; exact Or.inr h
  have hS : va_S A s.heap s.heap [] := va_S.rf
  have hl := lv_entry ([.ref h, .int p0, .int p1, .ref o]) (n := 5) (Nat.le_of_ble_eq_true rfl)
  rw [lg_entry_eq]
  generalize (lg_sl ([.ref h, .int p0, .int p1, .ref o]) ++ List.replicate (5 - (lg_sl ([.ref h, .int p0, .int p1, .ref o])).length) Slot.unset).toArray = ls at hl ⊢
  have hl : lv_has ls 5 [(0, .ref h), (1, .int p0), (2, .int p1), (3, .ref o)] := hl
  refine lv_aload_n hx hb dL_signAt_0 rfl (lv_at hl 3 rfl) ?_
  refine lv_iconst (v := 0) hx hb dL_signAt_1 (by decide) ?_
  refine lv_aload_n hx hb dL_signAt_2 rfl (lv_at hl 0 rfl) ?_
  refine lv_iload_n hx hb dL_signAt_3 rfl (lv_at hl 1 rfl) ?_
  refine lv_iload_n hx hb dL_signAt_4 rfl (lv_at hl 2 rfl) ?_
  have hPc := hP.sub (ws' := [(h, .inr (11, [.ref (v 0), .int 0, .ref (v 2), .ref (v 3), .ref (v 4), .ref (v 5), .ref (v 6)])), (v 0, .inl (cN, 60, .inr (.inr (.inr (.inr (fun _ => none)))))), (v 6, .inr (8, [.int 0, .int 0, .int 0, .int 0, .long 0, .int 0, .int 0, .ref (us 7), .ref (us 8), .ref (us 9), .ref (us 10), .int 0, .ref (us 12), .ref (us 13), .ref (us 14)]))]) [0, 1, 2] rfl
  have hDc := hD.sub (ws' := [(h, .inr (11, [.ref (v 0), .int 0, .ref (v 2), .ref (v 3), .ref (v 4), .ref (v 5), .ref (v 6)])), (v 0, .inl (cN, 60, .inr (.inr (.inr (.inr (fun _ => none)))))), (v 6, .inr (8, [.int 0, .int 0, .int 0, .int 0, .long 0, .int 0, .int 0, .ref (us 7), .ref (us 8), .ref (us 9), .ref (us 10), .int 0, .ref (us 12), .ref (us 13), .ref (us 14)]))]) [0, 1, 2] (by decide) rfl
  have hKc := hK.sub (tys' := [(cN, .object RX4)]) [0] rfl
  have hFc := va_free (wc := [(h, .inr (11, [.ref (v 0), .int 0, .ref (v 2), .ref (v 3), .ref (v 4), .ref (v 5), .ref (v 6)])), (v 0, .inl (cN, 60, .inr (.inr (.inr (.inr (fun _ => none)))))), (v 6, .inr (8, [.int 0, .int 0, .int 0, .int 0, .long 0, .int 0, .int 0, .ref (us 7), .ref (us 8), .ref (us 9), .ref (us 10), .int 0, .ref (us 12), .ref (us 13), .ref (us 14)]))]) hD hS hA [0, 1, 2] rfl
  refine vx_calli (vx_runV (As := [.int p0, .int p1]) (rest := [.int 0, .ref o]) ⟨hx, hb, hml, hown, htU⟩ (c_X10_signAt l hf dC dI ad sa h v us cN p0 p1 s.heap.size) (cwV 2 htU (gq_V u_1553 u_1554 u_1555 u_91 u_1556) rfl rfl rfl (by decide +kernel) ⟨(Nat.le_of_ble_eq_true rfl), (Nat.le_of_ble_eq_true rfl)⟩) ⟨(fun a U g mk q => by obtain ⟨q0, q1, qP, qK, qD, qG⟩ := q; exact ⟨q0, q1, qP, va_K.moved (u := U) (U := U.calling g mk a) (Vm.Alike.refl U.vm) qK, qD, GG.blind qG⟩), va_recv hKc hPc (ci := 11) (q0 := 0) rfl rfl, fun U hU hW => ⟨rfl, by rw [hU], by rw [hU]; exact hPc, va_K.moved hW.alike hKc, hDc.weaken (fun _ _ _ _ => trivial), GG.go hG hS hFc hU hW⟩⟩ rfl rfl hl.1 rfl (lv_room (Nat.le_of_ble_eq_true rfl)) dL_signAt_5 ⟨(Nat.le_of_ble_eq_true rfl), (Nat.le_of_ble_eq_true rfl)⟩) hS (fun q _ h => hFc q h) hFc (fun q _ h => hFc q h) (fun E ce q9 _ t H locs ht hvm hpx hB hz1 hk1 hS hce hcv hcl => ?_) (fun r_1 u_2 t H locs ht hvm hw hB hz1 hk1 hS => ?_)
  · obtain ⟨rfl, hxc⟩ := hB
    refine vx_catch (own := RL) (name := xIO) hown [] ⟨0, 10, 13, 37⟩ [] (hT.trans rfl) (fun z hz => absurd hz List.not_mem_nil) rfl (by decide) (htU _ u_680) (va_Nw.use rfl (hG.ca 2 rfl)) hce hcv hcl ?_
    obtain ⟨hP, hD⟩ := va_join (wr := [(o, .inl (cL, 1, .inr (.inl (fun _ => 0))))]) (w1 := []) hP hD [0, 1, 2] [3] rfl rfl (by decide) (by decide) hk1 hFc (fun k q h => by simp at h) ⟨fun i j p q h => by simp at h, fun k q h => by simp at h⟩
    have hP : va_P (dC, dI) vwCl [(o, .inl (cL, 1, .inr (.inl (fun _ => 0))))] H := hP
    have hD : va_D A [(o, .inl (cL, 1, .inr (.inl (fun _ => 0))))] := hD
    refine lv_astore (lv' := [(4, .ref q9), (0, .ref h), (1, .int p0), (2, .int p1), (3, .ref o)]) hx hb dL_signAt_13 hl (by decide) rfl (fun ls hl => ?_)
    refine lv_iconst (v := 1) hx hb dL_signAt_15 (by decide) ?_
    have hP9 := hP.sub (ws' := [(o, .inl (cL, 1, .inr (.inl (fun _ => 0))))]) [0] rfl
    have hD9 := hD.sub (ws' := [(o, .inl (cL, 1, .inr (.inl (fun _ => 0))))]) [0] (by decide) rfl
    have hK9 := hK.sub (tys' := [(cL, .long)]) [1] rfl
    refine W.widen (k := 1) (n := 6) (Nat.le_of_ble_eq_true rfl) (Nat.le_of_ble_eq_true rfl) ?_
    refine vx_ret ?_
    exact W.iret (v := 1) hx hb hr (fun t ht hW => ⟨⟨1, (fun _ => 0), rfl, ⟨rfl, rfl⟩, ⟨by rw [ht]; exact hP9, va_K.moved hW.alike hK9, hD9⟩⟩, hS.F ht⟩) hS.2.2 dL_signAt_16
  · exact False.elim hw

set_option maxHeartbeats 4000000 in
set_option maxRecDepth 100000 in
/-- the law's nodeAt -/
theorem c_L_nodeAt (l : Launch) (hf : l.stackTraces = false) (dC : Nat → ClassId) (dI : Nat → Nat → Nat) (ad sa : Nat → Nat) (h : Nat) (v : Nat → Nat) (us : Nat → Nat) (cN : ClassId) (o : Nat) (cL : ClassId) (p0 : Int32) (p1 : Int32) (sz : Nat) : vx_Met l yL_nodeAt wq_L_nodeAt ({ frames := 11, cells := 1, slots := 6, locals := 266 }) (va_Pc [.ref h, .int p0, .int p1, .ref o] (fun U => U.heap.size = sz ∧ va_P (dC, dI) vwCl [(h, .inr (11, [.ref (v 0), .int 0, .ref (v 2), .ref (v 3), .ref (v 4), .ref (v 5), .ref (v 6)])), (v 0, .inl (cN, 60, .inr (.inr (.inr (.inr (fun _ => none)))))), (v 6, .inr (8, [.int 0, .int 0, .int 0, .int 0, .long 0, .int 0, .int 0, .ref (us 7), .ref (us 8), .ref (us 9), .ref (us 10), .int 0, .ref (us 12), .ref (us 13), .ref (us 14)])), (o, .inl (cL, 1, .inr (.inl (fun _ => 0))))] U.heap ∧ va_K (dC, dI) vwCl [(cN, .object RX4), (cL, .long)] U ∧ va_D (fun _ => True) [(h, .inr (11, [.ref (v 0), .int 0, .ref (v 2), .ref (v 3), .ref (v 4), .ref (v 5), .ref (v 6)])), (v 0, .inl (cN, 60, .inr (.inr (.inr (.inr (fun _ => none)))))), (v 6, .inr (8, [.int 0, .int 0, .int 0, .int 0, .long 0, .int 0, .int 0, .ref (us 7), .ref (us 8), .ref (us 9), .ref (us 10), .int 0, .ref (us 12), .ref (us 13), .ref (us 14)])), (o, .inl (cL, 1, .inr (.inl (fun _ => 0))))] ∧ GG (va_A [(h, .inr (11, [.ref (v 0), .int 0, .ref (v 2), .ref (v 3), .ref (v 4), .ref (v 5), .ref (v 6)])), (v 0, .inl (cN, 60, .inr (.inr (.inr (.inr (fun _ => none)))))), (v 6, .inr (8, [.int 0, .int 0, .int 0, .int 0, .long 0, .int 0, .int 0, .ref (us 7), .ref (us 8), .ref (us 9), .ref (us 10), .int 0, .ref (us 12), .ref (us 13), .ref (us 14)])), (o, .inl (cL, 1, .inr (.inl (fun _ => 0))))] sz) ad sa U U.heap)) (va_Qi (fun (r : Int32) (u : Nat → Int64) => r = 1 ∧ u 0 = 0) (fun (u : Nat → Int64) t => va_P (dC, dI) vwCl [(o, .inl (cL, 1, .inr (.inl u)))] t.heap ∧ va_K (dC, dI) vwCl [(cL, .long)] t ∧ va_D (va_A [(h, .inr (11, [.ref (v 0), .int 0, .ref (v 2), .ref (v 3), .ref (v 4), .ref (v 5), .ref (v 6)])), (v 0, .inl (cN, 60, .inr (.inr (.inr (.inr (fun _ => none)))))), (v 6, .inr (8, [.int 0, .int 0, .int 0, .int 0, .long 0, .int 0, .int 0, .ref (us 7), .ref (us 8), .ref (us 9), .ref (us 10), .int 0, .ref (us 12), .ref (us 13), .ref (us 14)])), (o, .inl (cL, 1, .inr (.inl (fun _ => 0))))] sz) [(o, .inl (cL, 1, .inr (.inl u)))]) (va_A [(h, .inr (11, [.ref (v 0), .int 0, .ref (v 2), .ref (v 3), .ref (v 4), .ref (v 5), .ref (v 6)])), (v 0, .inl (cN, 60, .inr (.inr (.inr (.inr (fun _ => none)))))), (v 6, .inr (8, [.int 0, .int 0, .int 0, .int 0, .long 0, .int 0, .int 0, .ref (us 7), .ref (us 8), .ref (us 9), .ref (us 10), .int 0, .ref (us 12), .ref (us 13), .ref (us 14)])), (o, .inl (cL, 1, .inr (.inl (fun _ => 0))))] sz)) (vx_X (fun _ : Unit => True) (fun _ _ _ => False) (va_A [(h, .inr (11, [.ref (v 0), .int 0, .ref (v 2), .ref (v 3), .ref (v 4), .ref (v 5), .ref (v 6)])), (v 0, .inl (cN, 60, .inr (.inr (.inr (.inr (fun _ => none)))))), (v 6, .inr (8, [.int 0, .int 0, .int 0, .int 0, .long 0, .int 0, .int 0, .ref (us 7), .ref (us 8), .ref (us 9), .ref (us 10), .int 0, .ref (us 12), .ref (us 13), .ref (us 14)])), (o, .inl (cL, 1, .inr (.inl (fun _ => 0))))] sz)) 1 6 (va_A [(h, .inr (11, [.ref (v 0), .int 0, .ref (v 2), .ref (v 3), .ref (v 4), .ref (v 5), .ref (v 6)])), (v 0, .inl (cN, 60, .inr (.inr (.inr (.inr (fun _ => none)))))), (v 6, .inr (8, [.int 0, .int 0, .int 0, .int 0, .long 0, .int 0, .int 0, .ref (us 7), .ref (us 8), .ref (us 9), .ref (us 10), .int 0, .ref (us 12), .ref (us 13), .ref (us 14)])), (o, .inl (cL, 1, .inr (.inl (fun _ => 0))))] sz) := by
  refine vx_ofWH (cc := cL_nodeAt) (maxL := 5) (ret := (some .int)) (hh :=  [(0, 10, 13, 37)]) (by decide) rfl ?_
  intro p e s m args below meth c s₁ B hml hv
  obtain ⟨rfl, hsz, hP, hK, hD0, hG⟩ := hv
  have hx := B.exec
  have hb := B.bytes
  have hr := B.returns
  have hts := atoms_spec (ws := wq_L_nodeAt) B.pre
  have htU : ∀ w ∈ UW, w.before _ s = true := fun w h => hts w (List.mem_cons_of_mem _ h)
  have hown : s.vm.findClass RL = some m.cls := findClass_of_methodNamed B.named
  have hlocks := B.notSynchronized
  have hT : c.exceptionTable.toList = tableOf  [(0, 10, 13, 37)] := vx_table (x := yL_nodeAt) B (hts _ List.mem_cons_self)
  subst hsz
  have hD := hD0.self (sz := s.heap.size)
  generalize hAe : va_A [(h, .inr (11, [.ref (v 0), .int 0, .ref (v 2), .ref (v 3), .ref (v 4), .ref (v 5), .ref (v 6)])), (v 0, .inl (cN, 60, .inr (.inr (.inr (.inr (fun _ => none)))))), (v 6, .inr (8, [.int 0, .int 0, .int 0, .int 0, .long 0, .int 0, .int 0, .ref (us 7), .ref (us 8), .ref (us 9), .ref (us 10), .int 0, .ref (us 12), .ref (us 13), .ref (us 14)])), (o, .inl (cL, 1, .inr (.inl (fun _ => 0))))] s.heap.size = A at hD hG ⊢
  have hA : ∀ q : Nat, s.heap.size ≤ q → A q := fun q h => by rw [← hAe]; exact Or.inr h
  have hS : va_S A s.heap s.heap [] := va_S.rf
  have hl := lv_entry ([.ref h, .int p0, .int p1, .ref o]) (n := 5) (Nat.le_of_ble_eq_true rfl)
  rw [lg_entry_eq]
  generalize (lg_sl ([.ref h, .int p0, .int p1, .ref o]) ++ List.replicate (5 - (lg_sl ([.ref h, .int p0, .int p1, .ref o])).length) Slot.unset).toArray = ls at hl ⊢
  have hl : lv_has ls 5 [(0, .ref h), (1, .int p0), (2, .int p1), (3, .ref o)] := hl
  refine lv_aload_n hx hb dL_nodeAt_0 rfl (lv_at hl 3 rfl) ?_
  refine lv_iconst (v := 0) hx hb dL_nodeAt_1 (by decide) ?_
  refine lv_aload_n hx hb dL_nodeAt_2 rfl (lv_at hl 0 rfl) ?_
  refine lv_iload_n hx hb dL_nodeAt_3 rfl (lv_at hl 1 rfl) ?_
  refine lv_iload_n hx hb dL_nodeAt_4 rfl (lv_at hl 2 rfl) ?_
  have hPc := hP.sub (ws' := [(h, .inr (11, [.ref (v 0), .int 0, .ref (v 2), .ref (v 3), .ref (v 4), .ref (v 5), .ref (v 6)])), (v 0, .inl (cN, 60, .inr (.inr (.inr (.inr (fun _ => none)))))), (v 6, .inr (8, [.int 0, .int 0, .int 0, .int 0, .long 0, .int 0, .int 0, .ref (us 7), .ref (us 8), .ref (us 9), .ref (us 10), .int 0, .ref (us 12), .ref (us 13), .ref (us 14)]))]) [0, 1, 2] rfl
  have hDc := hD.sub (ws' := [(h, .inr (11, [.ref (v 0), .int 0, .ref (v 2), .ref (v 3), .ref (v 4), .ref (v 5), .ref (v 6)])), (v 0, .inl (cN, 60, .inr (.inr (.inr (.inr (fun _ => none)))))), (v 6, .inr (8, [.int 0, .int 0, .int 0, .int 0, .long 0, .int 0, .int 0, .ref (us 7), .ref (us 8), .ref (us 9), .ref (us 10), .int 0, .ref (us 12), .ref (us 13), .ref (us 14)]))]) [0, 1, 2] (by decide) rfl
  have hKc := hK.sub (tys' := [(cN, .object RX4)]) [0] rfl
  have hFc := va_free (wc := [(h, .inr (11, [.ref (v 0), .int 0, .ref (v 2), .ref (v 3), .ref (v 4), .ref (v 5), .ref (v 6)])), (v 0, .inl (cN, 60, .inr (.inr (.inr (.inr (fun _ => none)))))), (v 6, .inr (8, [.int 0, .int 0, .int 0, .int 0, .long 0, .int 0, .int 0, .ref (us 7), .ref (us 8), .ref (us 9), .ref (us 10), .int 0, .ref (us 12), .ref (us 13), .ref (us 14)]))]) hD hS hA [0, 1, 2] rfl
  refine vx_calli (vx_runV (As := [.int p0, .int p1]) (rest := [.int 0, .ref o]) ⟨hx, hb, hml, hown, htU⟩ (c_X10_nodeAt l hf dC dI ad sa h v us cN p0 p1 s.heap.size) (cwV 2 htU (gq_V u_1574 u_1575 u_1576 u_91 u_1577) rfl rfl rfl (by decide +kernel) ⟨(Nat.le_of_ble_eq_true rfl), (Nat.le_of_ble_eq_true rfl)⟩) ⟨(fun a U g mk q => by obtain ⟨q0, q1, qP, qK, qD, qG⟩ := q; exact ⟨q0, q1, qP, va_K.moved (u := U) (U := U.calling g mk a) (Vm.Alike.refl U.vm) qK, qD, GG.blind qG⟩), va_recv hKc hPc (ci := 11) (q0 := 0) rfl rfl, fun U hU hW => ⟨rfl, by rw [hU], by rw [hU]; exact hPc, va_K.moved hW.alike hKc, hDc.weaken (fun _ _ _ _ => trivial), GG.go hG hS hFc hU hW⟩⟩ rfl rfl hl.1 rfl (lv_room (Nat.le_of_ble_eq_true rfl)) dL_nodeAt_5 ⟨(Nat.le_of_ble_eq_true rfl), (Nat.le_of_ble_eq_true rfl)⟩) hS (fun q _ h => hFc q h) hFc (fun q _ h => hFc q h) (fun E ce q9 _ t H locs ht hvm hpx hB hz1 hk1 hS hce hcv hcl => ?_) (fun r_1 u_2 t H locs ht hvm hw hB hz1 hk1 hS => ?_)
  · obtain ⟨rfl, hxc⟩ := hB
    refine vx_catch (own := RL) (name := xIO) hown [] ⟨0, 10, 13, 37⟩ [] (hT.trans rfl) (fun z hz => absurd hz List.not_mem_nil) rfl (by decide) (htU _ u_680) (va_Nw.use rfl (hG.ca 2 rfl)) hce hcv hcl ?_
    obtain ⟨hP, hD⟩ := va_join (wr := [(o, .inl (cL, 1, .inr (.inl (fun _ => 0))))]) (w1 := []) hP hD [0, 1, 2] [3] rfl rfl (by decide) (by decide) hk1 hFc (fun k q h => by simp at h) ⟨fun i j p q h => by simp at h, fun k q h => by simp at h⟩
    have hP : va_P (dC, dI) vwCl [(o, .inl (cL, 1, .inr (.inl (fun _ => 0))))] H := hP
    have hD : va_D A [(o, .inl (cL, 1, .inr (.inl (fun _ => 0))))] := hD
    refine lv_astore (lv' := [(4, .ref q9), (0, .ref h), (1, .int p0), (2, .int p1), (3, .ref o)]) hx hb dL_nodeAt_13 hl (by decide) rfl (fun ls hl => ?_)
    refine lv_iconst (v := 1) hx hb dL_nodeAt_15 (by decide) ?_
    have hP9 := hP.sub (ws' := [(o, .inl (cL, 1, .inr (.inl (fun _ => 0))))]) [0] rfl
    have hD9 := hD.sub (ws' := [(o, .inl (cL, 1, .inr (.inl (fun _ => 0))))]) [0] (by decide) rfl
    have hK9 := hK.sub (tys' := [(cL, .long)]) [1] rfl
    refine W.widen (k := 1) (n := 6) (Nat.le_of_ble_eq_true rfl) (Nat.le_of_ble_eq_true rfl) ?_
    refine vx_ret ?_
    exact W.iret (v := 1) hx hb hr (fun t ht hW => ⟨⟨1, (fun _ => 0), rfl, ⟨rfl, rfl⟩, ⟨by rw [ht]; exact hP9, va_K.moved hW.alike hK9, hD9⟩⟩, hS.F ht⟩) hS.2.2 dL_nodeAt_16
  · exact False.elim hw

set_option maxHeartbeats 4000000 in
set_option maxRecDepth 100000 in
/-- the law's placeOf -/
theorem c_L_placeOf (l : Launch) (hf : l.stackTraces = false) (dC : Nat → ClassId) (dI : Nat → Nat → Nat) (ad sa : Nat → Nat) (h : Nat) (v : Nat → Nat) (us : Nat → Nat) (cN : ClassId) (o : Nat) (cL : ClassId) (p0 : Int32) (sz : Nat) : vx_Met l yL_placeOf wq_L_placeOf ({ frames := 10, cells := 1, slots := 6, locals := 243 }) (va_Pc [.ref h, .int p0, .ref o] (fun U => U.heap.size = sz ∧ va_P (dC, dI) vwCl [(h, .inr (11, [.ref (v 0), .int 0, .ref (v 2), .ref (v 3), .ref (v 4), .ref (v 5), .ref (v 6)])), (v 0, .inl (cN, 60, .inr (.inr (.inr (.inr (fun _ => none)))))), (v 6, .inr (8, [.int 0, .int 0, .int 0, .int 0, .long 0, .int 0, .int 0, .ref (us 7), .ref (us 8), .ref (us 9), .ref (us 10), .int 0, .ref (us 12), .ref (us 13), .ref (us 14)])), (o, .inl (cL, 1, .inr (.inl (fun _ => 0))))] U.heap ∧ va_K (dC, dI) vwCl [(cN, .object RX4), (cL, .long)] U ∧ va_D (fun _ => True) [(h, .inr (11, [.ref (v 0), .int 0, .ref (v 2), .ref (v 3), .ref (v 4), .ref (v 5), .ref (v 6)])), (v 0, .inl (cN, 60, .inr (.inr (.inr (.inr (fun _ => none)))))), (v 6, .inr (8, [.int 0, .int 0, .int 0, .int 0, .long 0, .int 0, .int 0, .ref (us 7), .ref (us 8), .ref (us 9), .ref (us 10), .int 0, .ref (us 12), .ref (us 13), .ref (us 14)])), (o, .inl (cL, 1, .inr (.inl (fun _ => 0))))] ∧ GG (va_A [(h, .inr (11, [.ref (v 0), .int 0, .ref (v 2), .ref (v 3), .ref (v 4), .ref (v 5), .ref (v 6)])), (v 0, .inl (cN, 60, .inr (.inr (.inr (.inr (fun _ => none)))))), (v 6, .inr (8, [.int 0, .int 0, .int 0, .int 0, .long 0, .int 0, .int 0, .ref (us 7), .ref (us 8), .ref (us 9), .ref (us 10), .int 0, .ref (us 12), .ref (us 13), .ref (us 14)])), (o, .inl (cL, 1, .inr (.inl (fun _ => 0))))] sz) ad sa U U.heap)) (va_Qi (fun (r : Int32) (u : Nat → Int64) => r = 1 ∧ u 0 = 0) (fun (u : Nat → Int64) t => va_P (dC, dI) vwCl [(o, .inl (cL, 1, .inr (.inl u)))] t.heap ∧ va_K (dC, dI) vwCl [(cL, .long)] t ∧ va_D (va_A [(h, .inr (11, [.ref (v 0), .int 0, .ref (v 2), .ref (v 3), .ref (v 4), .ref (v 5), .ref (v 6)])), (v 0, .inl (cN, 60, .inr (.inr (.inr (.inr (fun _ => none)))))), (v 6, .inr (8, [.int 0, .int 0, .int 0, .int 0, .long 0, .int 0, .int 0, .ref (us 7), .ref (us 8), .ref (us 9), .ref (us 10), .int 0, .ref (us 12), .ref (us 13), .ref (us 14)])), (o, .inl (cL, 1, .inr (.inl (fun _ => 0))))] sz) [(o, .inl (cL, 1, .inr (.inl u)))]) (va_A [(h, .inr (11, [.ref (v 0), .int 0, .ref (v 2), .ref (v 3), .ref (v 4), .ref (v 5), .ref (v 6)])), (v 0, .inl (cN, 60, .inr (.inr (.inr (.inr (fun _ => none)))))), (v 6, .inr (8, [.int 0, .int 0, .int 0, .int 0, .long 0, .int 0, .int 0, .ref (us 7), .ref (us 8), .ref (us 9), .ref (us 10), .int 0, .ref (us 12), .ref (us 13), .ref (us 14)])), (o, .inl (cL, 1, .inr (.inl (fun _ => 0))))] sz)) (vx_X (fun _ : Unit => True) (fun _ _ _ => False) (va_A [(h, .inr (11, [.ref (v 0), .int 0, .ref (v 2), .ref (v 3), .ref (v 4), .ref (v 5), .ref (v 6)])), (v 0, .inl (cN, 60, .inr (.inr (.inr (.inr (fun _ => none)))))), (v 6, .inr (8, [.int 0, .int 0, .int 0, .int 0, .long 0, .int 0, .int 0, .ref (us 7), .ref (us 8), .ref (us 9), .ref (us 10), .int 0, .ref (us 12), .ref (us 13), .ref (us 14)])), (o, .inl (cL, 1, .inr (.inl (fun _ => 0))))] sz)) 1 6 (va_A [(h, .inr (11, [.ref (v 0), .int 0, .ref (v 2), .ref (v 3), .ref (v 4), .ref (v 5), .ref (v 6)])), (v 0, .inl (cN, 60, .inr (.inr (.inr (.inr (fun _ => none)))))), (v 6, .inr (8, [.int 0, .int 0, .int 0, .int 0, .long 0, .int 0, .int 0, .ref (us 7), .ref (us 8), .ref (us 9), .ref (us 10), .int 0, .ref (us 12), .ref (us 13), .ref (us 14)])), (o, .inl (cL, 1, .inr (.inl (fun _ => 0))))] sz) := by
  refine vx_ofWH (cc := cL_placeOf) (maxL := 4) (ret := (some .int)) (hh :=  [(0, 9, 12, 37)]) (by decide) rfl ?_
  intro p e s m args below meth c s₁ B hml hv
  obtain ⟨rfl, hsz, hP, hK, hD0, hG⟩ := hv
  have hx := B.exec
  have hb := B.bytes
  have hr := B.returns
  have hts := atoms_spec (ws := wq_L_placeOf) B.pre
  have htU : ∀ w ∈ UW, w.before _ s = true := fun w h => hts w (List.mem_cons_of_mem _ h)
  have hown : s.vm.findClass RL = some m.cls := findClass_of_methodNamed B.named
  have hlocks := B.notSynchronized
  have hT : c.exceptionTable.toList = tableOf  [(0, 9, 12, 37)] := vx_table (x := yL_placeOf) B (hts _ List.mem_cons_self)
  subst hsz
  have hD := hD0.self (sz := s.heap.size)
  generalize hAe : va_A [(h, .inr (11, [.ref (v 0), .int 0, .ref (v 2), .ref (v 3), .ref (v 4), .ref (v 5), .ref (v 6)])), (v 0, .inl (cN, 60, .inr (.inr (.inr (.inr (fun _ => none)))))), (v 6, .inr (8, [.int 0, .int 0, .int 0, .int 0, .long 0, .int 0, .int 0, .ref (us 7), .ref (us 8), .ref (us 9), .ref (us 10), .int 0, .ref (us 12), .ref (us 13), .ref (us 14)])), (o, .inl (cL, 1, .inr (.inl (fun _ => 0))))] s.heap.size = A at hD hG ⊢
  have hA : ∀ q : Nat, s.heap.size ≤ q → A q := fun q h => by rw [← hAe]; exact Or.inr h
  have hS : va_S A s.heap s.heap [] := va_S.rf
  have hl := lv_entry ([.ref h, .int p0, .ref o]) (n := 4) (Nat.le_of_ble_eq_true rfl)
  rw [lg_entry_eq]
  generalize (lg_sl ([.ref h, .int p0, .ref o]) ++ List.replicate (4 - (lg_sl ([.ref h, .int p0, .ref o])).length) Slot.unset).toArray = ls at hl ⊢
  have hl : lv_has ls 4 [(0, .ref h), (1, .int p0), (2, .ref o)] := hl
  refine lv_aload_n hx hb dL_placeOf_0 rfl (lv_at hl 2 rfl) ?_
  refine lv_iconst (v := 0) hx hb dL_placeOf_1 (by decide) ?_
  refine lv_aload_n hx hb dL_placeOf_2 rfl (lv_at hl 0 rfl) ?_
  refine lv_iload_n hx hb dL_placeOf_3 rfl (lv_at hl 1 rfl) ?_
  have hPc := hP.sub (ws' := [(h, .inr (11, [.ref (v 0), .int 0, .ref (v 2), .ref (v 3), .ref (v 4), .ref (v 5), .ref (v 6)])), (v 0, .inl (cN, 60, .inr (.inr (.inr (.inr (fun _ => none)))))), (v 6, .inr (8, [.int 0, .int 0, .int 0, .int 0, .long 0, .int 0, .int 0, .ref (us 7), .ref (us 8), .ref (us 9), .ref (us 10), .int 0, .ref (us 12), .ref (us 13), .ref (us 14)]))]) [0, 1, 2] rfl
  have hDc := hD.sub (ws' := [(h, .inr (11, [.ref (v 0), .int 0, .ref (v 2), .ref (v 3), .ref (v 4), .ref (v 5), .ref (v 6)])), (v 0, .inl (cN, 60, .inr (.inr (.inr (.inr (fun _ => none)))))), (v 6, .inr (8, [.int 0, .int 0, .int 0, .int 0, .long 0, .int 0, .int 0, .ref (us 7), .ref (us 8), .ref (us 9), .ref (us 10), .int 0, .ref (us 12), .ref (us 13), .ref (us 14)]))]) [0, 1, 2] (by decide) rfl
  have hKc := hK.sub (tys' := [(cN, .object RX4)]) [0] rfl
  have hFc := va_free (wc := [(h, .inr (11, [.ref (v 0), .int 0, .ref (v 2), .ref (v 3), .ref (v 4), .ref (v 5), .ref (v 6)])), (v 0, .inl (cN, 60, .inr (.inr (.inr (.inr (fun _ => none)))))), (v 6, .inr (8, [.int 0, .int 0, .int 0, .int 0, .long 0, .int 0, .int 0, .ref (us 7), .ref (us 8), .ref (us 9), .ref (us 10), .int 0, .ref (us 12), .ref (us 13), .ref (us 14)]))]) hD hS hA [0, 1, 2] rfl
  refine vx_calli (vx_runV (As := [.int p0]) (rest := [.int 0, .ref o]) ⟨hx, hb, hml, hown, htU⟩ (c_X10_placeOf l hf dC dI ad sa h v us cN p0 s.heap.size) (cwV 1 htU (gq_V u_1581 u_1582 u_1583 u_91 u_1584) rfl rfl rfl (by decide +kernel) ⟨(Nat.le_of_ble_eq_true rfl), (Nat.le_of_ble_eq_true rfl)⟩) ⟨(fun a U g mk q => by obtain ⟨q0, q1, qP, qK, qD, qG⟩ := q; exact ⟨q0, q1, qP, va_K.moved (u := U) (U := U.calling g mk a) (Vm.Alike.refl U.vm) qK, qD, GG.blind qG⟩), va_recv hKc hPc (ci := 11) (q0 := 0) rfl rfl, fun U hU hW => ⟨rfl, by rw [hU], by rw [hU]; exact hPc, va_K.moved hW.alike hKc, hDc.weaken (fun _ _ _ _ => trivial), GG.go hG hS hFc hU hW⟩⟩ rfl rfl hl.1 rfl (lv_room (Nat.le_of_ble_eq_true rfl)) dL_placeOf_4 ⟨(Nat.le_of_ble_eq_true rfl), (Nat.le_of_ble_eq_true rfl)⟩) hS (fun q _ h => hFc q h) hFc (fun q _ h => hFc q h) (fun E ce q9 _ t H locs ht hvm hpx hB hz1 hk1 hS hce hcv hcl => ?_) (fun r_1 u_2 t H locs ht hvm hw hB hz1 hk1 hS => ?_)
  · obtain ⟨rfl, hxc⟩ := hB
    refine vx_catch (own := RL) (name := xIO) hown [] ⟨0, 9, 12, 37⟩ [] (hT.trans rfl) (fun z hz => absurd hz List.not_mem_nil) rfl (by decide) (htU _ u_680) (va_Nw.use rfl (hG.ca 2 rfl)) hce hcv hcl ?_
    obtain ⟨hP, hD⟩ := va_join (wr := [(o, .inl (cL, 1, .inr (.inl (fun _ => 0))))]) (w1 := []) hP hD [0, 1, 2] [3] rfl rfl (by decide) (by decide) hk1 hFc (fun k q h => by simp at h) ⟨fun i j p q h => by simp at h, fun k q h => by simp at h⟩
    have hP : va_P (dC, dI) vwCl [(o, .inl (cL, 1, .inr (.inl (fun _ => 0))))] H := hP
    have hD : va_D A [(o, .inl (cL, 1, .inr (.inl (fun _ => 0))))] := hD
    refine lv_astore_n (lv' := [(3, .ref q9), (0, .ref h), (1, .int p0), (2, .ref o)]) hx hb dL_placeOf_12 rfl hl (by decide) rfl (fun ls hl => ?_)
    refine lv_iconst (v := 1) hx hb dL_placeOf_13 (by decide) ?_
    have hP9 := hP.sub (ws' := [(o, .inl (cL, 1, .inr (.inl (fun _ => 0))))]) [0] rfl
    have hD9 := hD.sub (ws' := [(o, .inl (cL, 1, .inr (.inl (fun _ => 0))))]) [0] (by decide) rfl
    have hK9 := hK.sub (tys' := [(cL, .long)]) [1] rfl
    refine W.widen (k := 1) (n := 6) (Nat.le_of_ble_eq_true rfl) (Nat.le_of_ble_eq_true rfl) ?_
    refine vx_ret ?_
    exact W.iret (v := 1) hx hb hr (fun t ht hW => ⟨⟨1, (fun _ => 0), rfl, ⟨rfl, rfl⟩, ⟨by rw [ht]; exact hP9, va_K.moved hW.alike hK9, hD9⟩⟩, hS.F ht⟩) hS.2.2 dL_placeOf_14
  · exact False.elim hw

set_option maxHeartbeats 4000000 in
set_option maxRecDepth 100000 in
/-- the law's wayAt -/
theorem c_L_wayAt (l : Launch) (hf : l.stackTraces = false) (dC : Nat → ClassId) (dI : Nat → Nat → Nat) (ad sa : Nat → Nat) (h : Nat) (v : Nat → Nat) (us : Nat → Nat) (cN : ClassId) (o : Nat) (cL : ClassId) (p0 : Int32) (sz : Nat) : vx_Met l yL_wayAt wq_L_wayAt ({ frames := 9, cells := 1, slots := 6, locals := 221 }) (va_Pc [.ref h, .int p0, .ref o] (fun U => U.heap.size = sz ∧ va_P (dC, dI) vwCl [(h, .inr (11, [.ref (v 0), .int 0, .ref (v 2), .ref (v 3), .ref (v 4), .ref (v 5), .ref (v 6)])), (v 0, .inl (cN, 60, .inr (.inr (.inr (.inr (fun _ => none)))))), (v 6, .inr (8, [.int 0, .int 0, .int 0, .int 0, .long 0, .int 0, .int 0, .ref (us 7), .ref (us 8), .ref (us 9), .ref (us 10), .int 0, .ref (us 12), .ref (us 13), .ref (us 14)])), (o, .inl (cL, 1, .inr (.inl (fun _ => 0))))] U.heap ∧ va_K (dC, dI) vwCl [(cN, .object RX4), (cL, .long)] U ∧ va_D (fun _ => True) [(h, .inr (11, [.ref (v 0), .int 0, .ref (v 2), .ref (v 3), .ref (v 4), .ref (v 5), .ref (v 6)])), (v 0, .inl (cN, 60, .inr (.inr (.inr (.inr (fun _ => none)))))), (v 6, .inr (8, [.int 0, .int 0, .int 0, .int 0, .long 0, .int 0, .int 0, .ref (us 7), .ref (us 8), .ref (us 9), .ref (us 10), .int 0, .ref (us 12), .ref (us 13), .ref (us 14)])), (o, .inl (cL, 1, .inr (.inl (fun _ => 0))))] ∧ GG (va_A [(h, .inr (11, [.ref (v 0), .int 0, .ref (v 2), .ref (v 3), .ref (v 4), .ref (v 5), .ref (v 6)])), (v 0, .inl (cN, 60, .inr (.inr (.inr (.inr (fun _ => none)))))), (v 6, .inr (8, [.int 0, .int 0, .int 0, .int 0, .long 0, .int 0, .int 0, .ref (us 7), .ref (us 8), .ref (us 9), .ref (us 10), .int 0, .ref (us 12), .ref (us 13), .ref (us 14)])), (o, .inl (cL, 1, .inr (.inl (fun _ => 0))))] sz) ad sa U U.heap)) (va_Qi (fun (r : Int32) (u : Nat → Int64) => r = 1 ∧ u 0 = 0) (fun (u : Nat → Int64) t => va_P (dC, dI) vwCl [(o, .inl (cL, 1, .inr (.inl u)))] t.heap ∧ va_K (dC, dI) vwCl [(cL, .long)] t ∧ va_D (va_A [(h, .inr (11, [.ref (v 0), .int 0, .ref (v 2), .ref (v 3), .ref (v 4), .ref (v 5), .ref (v 6)])), (v 0, .inl (cN, 60, .inr (.inr (.inr (.inr (fun _ => none)))))), (v 6, .inr (8, [.int 0, .int 0, .int 0, .int 0, .long 0, .int 0, .int 0, .ref (us 7), .ref (us 8), .ref (us 9), .ref (us 10), .int 0, .ref (us 12), .ref (us 13), .ref (us 14)])), (o, .inl (cL, 1, .inr (.inl (fun _ => 0))))] sz) [(o, .inl (cL, 1, .inr (.inl u)))]) (va_A [(h, .inr (11, [.ref (v 0), .int 0, .ref (v 2), .ref (v 3), .ref (v 4), .ref (v 5), .ref (v 6)])), (v 0, .inl (cN, 60, .inr (.inr (.inr (.inr (fun _ => none)))))), (v 6, .inr (8, [.int 0, .int 0, .int 0, .int 0, .long 0, .int 0, .int 0, .ref (us 7), .ref (us 8), .ref (us 9), .ref (us 10), .int 0, .ref (us 12), .ref (us 13), .ref (us 14)])), (o, .inl (cL, 1, .inr (.inl (fun _ => 0))))] sz)) (vx_X (fun _ : Unit => True) (fun _ _ _ => False) (va_A [(h, .inr (11, [.ref (v 0), .int 0, .ref (v 2), .ref (v 3), .ref (v 4), .ref (v 5), .ref (v 6)])), (v 0, .inl (cN, 60, .inr (.inr (.inr (.inr (fun _ => none)))))), (v 6, .inr (8, [.int 0, .int 0, .int 0, .int 0, .long 0, .int 0, .int 0, .ref (us 7), .ref (us 8), .ref (us 9), .ref (us 10), .int 0, .ref (us 12), .ref (us 13), .ref (us 14)])), (o, .inl (cL, 1, .inr (.inl (fun _ => 0))))] sz)) 1 6 (va_A [(h, .inr (11, [.ref (v 0), .int 0, .ref (v 2), .ref (v 3), .ref (v 4), .ref (v 5), .ref (v 6)])), (v 0, .inl (cN, 60, .inr (.inr (.inr (.inr (fun _ => none)))))), (v 6, .inr (8, [.int 0, .int 0, .int 0, .int 0, .long 0, .int 0, .int 0, .ref (us 7), .ref (us 8), .ref (us 9), .ref (us 10), .int 0, .ref (us 12), .ref (us 13), .ref (us 14)])), (o, .inl (cL, 1, .inr (.inl (fun _ => 0))))] sz) := by
  refine vx_ofWH (cc := cL_wayAt) (maxL := 4) (ret := (some .int)) (hh :=  [(0, 9, 12, 37)]) (by decide) rfl ?_
  intro p e s m args below meth c s₁ B hml hv
  obtain ⟨rfl, hsz, hP, hK, hD0, hG⟩ := hv
  have hx := B.exec
  have hb := B.bytes
  have hr := B.returns
  have hts := atoms_spec (ws := wq_L_wayAt) B.pre
  have htU : ∀ w ∈ UW, w.before _ s = true := fun w h => hts w (List.mem_cons_of_mem _ h)
  have hown : s.vm.findClass RL = some m.cls := findClass_of_methodNamed B.named
  have hlocks := B.notSynchronized
  have hT : c.exceptionTable.toList = tableOf  [(0, 9, 12, 37)] := vx_table (x := yL_wayAt) B (hts _ List.mem_cons_self)
  subst hsz
  have hD := hD0.self (sz := s.heap.size)
  generalize hAe : va_A [(h, .inr (11, [.ref (v 0), .int 0, .ref (v 2), .ref (v 3), .ref (v 4), .ref (v 5), .ref (v 6)])), (v 0, .inl (cN, 60, .inr (.inr (.inr (.inr (fun _ => none)))))), (v 6, .inr (8, [.int 0, .int 0, .int 0, .int 0, .long 0, .int 0, .int 0, .ref (us 7), .ref (us 8), .ref (us 9), .ref (us 10), .int 0, .ref (us 12), .ref (us 13), .ref (us 14)])), (o, .inl (cL, 1, .inr (.inl (fun _ => 0))))] s.heap.size = A at hD hG ⊢
  have hA : ∀ q : Nat, s.heap.size ≤ q → A q := fun q h => by rw [← hAe]; exact Or.inr h
  have hS : va_S A s.heap s.heap [] := va_S.rf
  have hl := lv_entry ([.ref h, .int p0, .ref o]) (n := 4) (Nat.le_of_ble_eq_true rfl)
  rw [lg_entry_eq]
  generalize (lg_sl ([.ref h, .int p0, .ref o]) ++ List.replicate (4 - (lg_sl ([.ref h, .int p0, .ref o])).length) Slot.unset).toArray = ls at hl ⊢
  have hl : lv_has ls 4 [(0, .ref h), (1, .int p0), (2, .ref o)] := hl
  refine lv_aload_n hx hb dL_wayAt_0 rfl (lv_at hl 2 rfl) ?_
  refine lv_iconst (v := 0) hx hb dL_wayAt_1 (by decide) ?_
  refine lv_aload_n hx hb dL_wayAt_2 rfl (lv_at hl 0 rfl) ?_
  refine lv_iload_n hx hb dL_wayAt_3 rfl (lv_at hl 1 rfl) ?_
  have hPc := hP.sub (ws' := [(h, .inr (11, [.ref (v 0), .int 0, .ref (v 2), .ref (v 3), .ref (v 4), .ref (v 5), .ref (v 6)])), (v 0, .inl (cN, 60, .inr (.inr (.inr (.inr (fun _ => none)))))), (v 6, .inr (8, [.int 0, .int 0, .int 0, .int 0, .long 0, .int 0, .int 0, .ref (us 7), .ref (us 8), .ref (us 9), .ref (us 10), .int 0, .ref (us 12), .ref (us 13), .ref (us 14)]))]) [0, 1, 2] rfl
  have hDc := hD.sub (ws' := [(h, .inr (11, [.ref (v 0), .int 0, .ref (v 2), .ref (v 3), .ref (v 4), .ref (v 5), .ref (v 6)])), (v 0, .inl (cN, 60, .inr (.inr (.inr (.inr (fun _ => none)))))), (v 6, .inr (8, [.int 0, .int 0, .int 0, .int 0, .long 0, .int 0, .int 0, .ref (us 7), .ref (us 8), .ref (us 9), .ref (us 10), .int 0, .ref (us 12), .ref (us 13), .ref (us 14)]))]) [0, 1, 2] (by decide) rfl
  have hKc := hK.sub (tys' := [(cN, .object RX4)]) [0] rfl
  have hFc := va_free (wc := [(h, .inr (11, [.ref (v 0), .int 0, .ref (v 2), .ref (v 3), .ref (v 4), .ref (v 5), .ref (v 6)])), (v 0, .inl (cN, 60, .inr (.inr (.inr (.inr (fun _ => none)))))), (v 6, .inr (8, [.int 0, .int 0, .int 0, .int 0, .long 0, .int 0, .int 0, .ref (us 7), .ref (us 8), .ref (us 9), .ref (us 10), .int 0, .ref (us 12), .ref (us 13), .ref (us 14)]))]) hD hS hA [0, 1, 2] rfl
  refine vx_calli (vx_runV (As := [.int p0]) (rest := [.int 0, .ref o]) ⟨hx, hb, hml, hown, htU⟩ (c_X10_wayAt l hf dC dI ad sa h v us cN p0 s.heap.size) (cwV 1 htU (gq_V u_1592 u_1593 u_1594 u_91 u_1595) rfl rfl rfl (by decide +kernel) ⟨(Nat.le_of_ble_eq_true rfl), (Nat.le_of_ble_eq_true rfl)⟩) ⟨(fun a U g mk q => by obtain ⟨q0, q1, qP, qK, qD, qG⟩ := q; exact ⟨q0, q1, qP, va_K.moved (u := U) (U := U.calling g mk a) (Vm.Alike.refl U.vm) qK, qD, GG.blind qG⟩), va_recv hKc hPc (ci := 11) (q0 := 0) rfl rfl, fun U hU hW => ⟨rfl, by rw [hU], by rw [hU]; exact hPc, va_K.moved hW.alike hKc, hDc.weaken (fun _ _ _ _ => trivial), GG.go hG hS hFc hU hW⟩⟩ rfl rfl hl.1 rfl (lv_room (Nat.le_of_ble_eq_true rfl)) dL_wayAt_4 ⟨(Nat.le_of_ble_eq_true rfl), (Nat.le_of_ble_eq_true rfl)⟩) hS (fun q _ h => hFc q h) hFc (fun q _ h => hFc q h) (fun E ce q9 _ t H locs ht hvm hpx hB hz1 hk1 hS hce hcv hcl => ?_) (fun r_1 u_2 t H locs ht hvm hw hB hz1 hk1 hS => ?_)
  · obtain ⟨rfl, hxc⟩ := hB
    refine vx_catch (own := RL) (name := xIO) hown [] ⟨0, 9, 12, 37⟩ [] (hT.trans rfl) (fun z hz => absurd hz List.not_mem_nil) rfl (by decide) (htU _ u_680) (va_Nw.use rfl (hG.ca 2 rfl)) hce hcv hcl ?_
    obtain ⟨hP, hD⟩ := va_join (wr := [(o, .inl (cL, 1, .inr (.inl (fun _ => 0))))]) (w1 := []) hP hD [0, 1, 2] [3] rfl rfl (by decide) (by decide) hk1 hFc (fun k q h => by simp at h) ⟨fun i j p q h => by simp at h, fun k q h => by simp at h⟩
    have hP : va_P (dC, dI) vwCl [(o, .inl (cL, 1, .inr (.inl (fun _ => 0))))] H := hP
    have hD : va_D A [(o, .inl (cL, 1, .inr (.inl (fun _ => 0))))] := hD
    refine lv_astore_n (lv' := [(3, .ref q9), (0, .ref h), (1, .int p0), (2, .ref o)]) hx hb dL_wayAt_12 rfl hl (by decide) rfl (fun ls hl => ?_)
    refine lv_iconst (v := 1) hx hb dL_wayAt_13 (by decide) ?_
    have hP9 := hP.sub (ws' := [(o, .inl (cL, 1, .inr (.inl (fun _ => 0))))]) [0] rfl
    have hD9 := hD.sub (ws' := [(o, .inl (cL, 1, .inr (.inl (fun _ => 0))))]) [0] (by decide) rfl
    have hK9 := hK.sub (tys' := [(cL, .long)]) [1] rfl
    refine W.widen (k := 1) (n := 6) (Nat.le_of_ble_eq_true rfl) (Nat.le_of_ble_eq_true rfl) ?_
    refine vx_ret ?_
    exact W.iret (v := 1) hx hb hr (fun t ht hW => ⟨⟨1, (fun _ => 0), rfl, ⟨rfl, rfl⟩, ⟨by rw [ht]; exact hP9, va_K.moved hW.alike hK9, hD9⟩⟩, hS.F ht⟩) hS.2.2 dL_wayAt_14
  · exact False.elim hw

set_option maxHeartbeats 4000000 in
set_option maxRecDepth 100000 in
/-- the law's pageOf -/
theorem c_L_pageOf (l : Launch) (hf : l.stackTraces = false) (dC : Nat → ClassId) (dI : Nat → Nat → Nat) (ad sa : Nat → Nat) (h : Nat) (v : Nat → Nat) (us : Nat → Nat) (cN : ClassId) (o : Nat) (cL : ClassId) (p0 : Int32) (sz : Nat) : vx_Met l yL_pageOf wq_L_pageOf ({ frames := 10, cells := 1, slots := 6, locals := 242 }) (va_Pc [.ref h, .int p0, .ref o] (fun U => U.heap.size = sz ∧ va_P (dC, dI) vwCl [(h, .inr (11, [.ref (v 0), .int 0, .ref (v 2), .ref (v 3), .ref (v 4), .ref (v 5), .ref (v 6)])), (v 0, .inl (cN, 60, .inr (.inr (.inr (.inr (fun _ => none)))))), (v 6, .inr (8, [.int 0, .int 0, .int 0, .int 0, .long 0, .int 0, .int 0, .ref (us 7), .ref (us 8), .ref (us 9), .ref (us 10), .int 0, .ref (us 12), .ref (us 13), .ref (us 14)])), (o, .inl (cL, 1, .inr (.inl (fun _ => 0))))] U.heap ∧ va_K (dC, dI) vwCl [(cN, .object RX4), (cL, .long)] U ∧ va_D (fun _ => True) [(h, .inr (11, [.ref (v 0), .int 0, .ref (v 2), .ref (v 3), .ref (v 4), .ref (v 5), .ref (v 6)])), (v 0, .inl (cN, 60, .inr (.inr (.inr (.inr (fun _ => none)))))), (v 6, .inr (8, [.int 0, .int 0, .int 0, .int 0, .long 0, .int 0, .int 0, .ref (us 7), .ref (us 8), .ref (us 9), .ref (us 10), .int 0, .ref (us 12), .ref (us 13), .ref (us 14)])), (o, .inl (cL, 1, .inr (.inl (fun _ => 0))))] ∧ GG (va_A [(h, .inr (11, [.ref (v 0), .int 0, .ref (v 2), .ref (v 3), .ref (v 4), .ref (v 5), .ref (v 6)])), (v 0, .inl (cN, 60, .inr (.inr (.inr (.inr (fun _ => none)))))), (v 6, .inr (8, [.int 0, .int 0, .int 0, .int 0, .long 0, .int 0, .int 0, .ref (us 7), .ref (us 8), .ref (us 9), .ref (us 10), .int 0, .ref (us 12), .ref (us 13), .ref (us 14)])), (o, .inl (cL, 1, .inr (.inl (fun _ => 0))))] sz) ad sa U U.heap)) (va_Qi (fun (r : Int32) (u : Nat → Int64) => r = 1 ∧ u 0 = 0) (fun (u : Nat → Int64) t => va_P (dC, dI) vwCl [(o, .inl (cL, 1, .inr (.inl u)))] t.heap ∧ va_K (dC, dI) vwCl [(cL, .long)] t ∧ va_D (va_A [(h, .inr (11, [.ref (v 0), .int 0, .ref (v 2), .ref (v 3), .ref (v 4), .ref (v 5), .ref (v 6)])), (v 0, .inl (cN, 60, .inr (.inr (.inr (.inr (fun _ => none)))))), (v 6, .inr (8, [.int 0, .int 0, .int 0, .int 0, .long 0, .int 0, .int 0, .ref (us 7), .ref (us 8), .ref (us 9), .ref (us 10), .int 0, .ref (us 12), .ref (us 13), .ref (us 14)])), (o, .inl (cL, 1, .inr (.inl (fun _ => 0))))] sz) [(o, .inl (cL, 1, .inr (.inl u)))]) (va_A [(h, .inr (11, [.ref (v 0), .int 0, .ref (v 2), .ref (v 3), .ref (v 4), .ref (v 5), .ref (v 6)])), (v 0, .inl (cN, 60, .inr (.inr (.inr (.inr (fun _ => none)))))), (v 6, .inr (8, [.int 0, .int 0, .int 0, .int 0, .long 0, .int 0, .int 0, .ref (us 7), .ref (us 8), .ref (us 9), .ref (us 10), .int 0, .ref (us 12), .ref (us 13), .ref (us 14)])), (o, .inl (cL, 1, .inr (.inl (fun _ => 0))))] sz)) (vx_X (fun _ : Unit => True) (fun _ _ _ => False) (va_A [(h, .inr (11, [.ref (v 0), .int 0, .ref (v 2), .ref (v 3), .ref (v 4), .ref (v 5), .ref (v 6)])), (v 0, .inl (cN, 60, .inr (.inr (.inr (.inr (fun _ => none)))))), (v 6, .inr (8, [.int 0, .int 0, .int 0, .int 0, .long 0, .int 0, .int 0, .ref (us 7), .ref (us 8), .ref (us 9), .ref (us 10), .int 0, .ref (us 12), .ref (us 13), .ref (us 14)])), (o, .inl (cL, 1, .inr (.inl (fun _ => 0))))] sz)) 1 6 (va_A [(h, .inr (11, [.ref (v 0), .int 0, .ref (v 2), .ref (v 3), .ref (v 4), .ref (v 5), .ref (v 6)])), (v 0, .inl (cN, 60, .inr (.inr (.inr (.inr (fun _ => none)))))), (v 6, .inr (8, [.int 0, .int 0, .int 0, .int 0, .long 0, .int 0, .int 0, .ref (us 7), .ref (us 8), .ref (us 9), .ref (us 10), .int 0, .ref (us 12), .ref (us 13), .ref (us 14)])), (o, .inl (cL, 1, .inr (.inl (fun _ => 0))))] sz) := by
  refine vx_ofWH (cc := cL_pageOf) (maxL := 4) (ret := (some .int)) (hh :=  [(0, 9, 12, 37), (0, 9, 15, 15)]) (by decide) rfl ?_
  intro p e s m args below meth c s₁ B hml hv
  obtain ⟨rfl, hsz, hP, hK, hD0, hG⟩ := hv
  have hx := B.exec
  have hb := B.bytes
  have hr := B.returns
  have hts := atoms_spec (ws := wq_L_pageOf) B.pre
  have htU : ∀ w ∈ UW, w.before _ s = true := fun w h => hts w (List.mem_cons_of_mem _ h)
  have hown : s.vm.findClass RL = some m.cls := findClass_of_methodNamed B.named
  have hlocks := B.notSynchronized
  have hT : c.exceptionTable.toList = tableOf  [(0, 9, 12, 37), (0, 9, 15, 15)] := vx_table (x := yL_pageOf) B (hts _ List.mem_cons_self)
  subst hsz
  have hD := hD0.self (sz := s.heap.size)
  generalize hAe : va_A [(h, .inr (11, [.ref (v 0), .int 0, .ref (v 2), .ref (v 3), .ref (v 4), .ref (v 5), .ref (v 6)])), (v 0, .inl (cN, 60, .inr (.inr (.inr (.inr (fun _ => none)))))), (v 6, .inr (8, [.int 0, .int 0, .int 0, .int 0, .long 0, .int 0, .int 0, .ref (us 7), .ref (us 8), .ref (us 9), .ref (us 10), .int 0, .ref (us 12), .ref (us 13), .ref (us 14)])), (o, .inl (cL, 1, .inr (.inl (fun _ => 0))))] s.heap.size = A at hD hG ⊢
  have hA : ∀ q : Nat, s.heap.size ≤ q → A q := fun q h => by rw [← hAe]; exact Or.inr h
  have hS : va_S A s.heap s.heap [] := va_S.rf
  have hl := lv_entry ([.ref h, .int p0, .ref o]) (n := 4) (Nat.le_of_ble_eq_true rfl)
  rw [lg_entry_eq]
  generalize (lg_sl ([.ref h, .int p0, .ref o]) ++ List.replicate (4 - (lg_sl ([.ref h, .int p0, .ref o])).length) Slot.unset).toArray = ls at hl ⊢
  have hl : lv_has ls 4 [(0, .ref h), (1, .int p0), (2, .ref o)] := hl
  refine lv_aload_n hx hb dL_pageOf_0 rfl (lv_at hl 2 rfl) ?_
  refine lv_iconst (v := 0) hx hb dL_pageOf_1 (by decide) ?_
  refine lv_aload_n hx hb dL_pageOf_2 rfl (lv_at hl 0 rfl) ?_
  refine lv_iload_n hx hb dL_pageOf_3 rfl (lv_at hl 1 rfl) ?_
  have hPc := hP.sub (ws' := [(h, .inr (11, [.ref (v 0), .int 0, .ref (v 2), .ref (v 3), .ref (v 4), .ref (v 5), .ref (v 6)])), (v 0, .inl (cN, 60, .inr (.inr (.inr (.inr (fun _ => none)))))), (v 6, .inr (8, [.int 0, .int 0, .int 0, .int 0, .long 0, .int 0, .int 0, .ref (us 7), .ref (us 8), .ref (us 9), .ref (us 10), .int 0, .ref (us 12), .ref (us 13), .ref (us 14)]))]) [0, 1, 2] rfl
  have hDc := hD.sub (ws' := [(h, .inr (11, [.ref (v 0), .int 0, .ref (v 2), .ref (v 3), .ref (v 4), .ref (v 5), .ref (v 6)])), (v 0, .inl (cN, 60, .inr (.inr (.inr (.inr (fun _ => none)))))), (v 6, .inr (8, [.int 0, .int 0, .int 0, .int 0, .long 0, .int 0, .int 0, .ref (us 7), .ref (us 8), .ref (us 9), .ref (us 10), .int 0, .ref (us 12), .ref (us 13), .ref (us 14)]))]) [0, 1, 2] (by decide) rfl
  have hKc := hK.sub (tys' := [(cN, .object RX4)]) [0] rfl
  have hFc := va_free (wc := [(h, .inr (11, [.ref (v 0), .int 0, .ref (v 2), .ref (v 3), .ref (v 4), .ref (v 5), .ref (v 6)])), (v 0, .inl (cN, 60, .inr (.inr (.inr (.inr (fun _ => none)))))), (v 6, .inr (8, [.int 0, .int 0, .int 0, .int 0, .long 0, .int 0, .int 0, .ref (us 7), .ref (us 8), .ref (us 9), .ref (us 10), .int 0, .ref (us 12), .ref (us 13), .ref (us 14)]))]) hD hS hA [0, 1, 2] rfl
  refine vx_calli (vx_runV (As := [.int p0]) (rest := [.int 0, .ref o]) ⟨hx, hb, hml, hown, htU⟩ (c_X10_pageOf l hf dC dI ad sa h v us cN p0 s.heap.size) (cwV 1 htU (gq_V u_1626 u_1627 u_1628 u_91 u_1629) rfl rfl rfl (by decide +kernel) ⟨(Nat.le_of_ble_eq_true rfl), (Nat.le_of_ble_eq_true rfl)⟩) ⟨(fun a U g mk q => by obtain ⟨q0, q1, qP, qK, qD, qG⟩ := q; exact ⟨q0, q1, qP, va_K.moved (u := U) (U := U.calling g mk a) (Vm.Alike.refl U.vm) qK, qD, GG.blind qG⟩), va_recv hKc hPc (ci := 11) (q0 := 0) rfl rfl, fun U hU hW => ⟨rfl, by rw [hU], by rw [hU]; exact hPc, va_K.moved hW.alike hKc, hDc.weaken (fun _ _ _ _ => trivial), GG.go hG hS hFc hU hW⟩⟩ rfl rfl hl.1 rfl (lv_room (Nat.le_of_ble_eq_true rfl)) dL_pageOf_4 ⟨(Nat.le_of_ble_eq_true rfl), (Nat.le_of_ble_eq_true rfl)⟩) hS (fun q _ h => hFc q h) hFc (fun q _ h => hFc q h) (fun E ce q9 _ t H locs ht hvm hpx hB hz1 hk1 hS hce hcv hcl => ?_) (fun r_1 u_2 t H locs ht hvm hw hB hz1 hk1 hS => ?_)
  · obtain ⟨rfl, hxc⟩ := hB
    refine vx_catch (own := RL) (name := xIO) hown [] ⟨0, 9, 12, 37⟩ [⟨0, 9, 15, 15⟩] (hT.trans rfl) (fun z hz => absurd hz List.not_mem_nil) rfl (by decide) (htU _ u_680) (va_Nw.use rfl (hG.ca 2 rfl)) hce hcv hcl ?_
    obtain ⟨hP, hD⟩ := va_join (wr := [(o, .inl (cL, 1, .inr (.inl (fun _ => 0))))]) (w1 := []) hP hD [0, 1, 2] [3] rfl rfl (by decide) (by decide) hk1 hFc (fun k q h => by simp at h) ⟨fun i j p q h => by simp at h, fun k q h => by simp at h⟩
    have hP : va_P (dC, dI) vwCl [(o, .inl (cL, 1, .inr (.inl (fun _ => 0))))] H := hP
    have hD : va_D A [(o, .inl (cL, 1, .inr (.inl (fun _ => 0))))] := hD
    refine lv_astore_n (lv' := [(3, .ref q9), (0, .ref h), (1, .int p0), (2, .ref o)]) hx hb dL_pageOf_12 rfl hl (by decide) rfl (fun ls hl => ?_)
    refine lv_iconst (v := 1) hx hb dL_pageOf_13 (by decide) ?_
    have hP9 := hP.sub (ws' := [(o, .inl (cL, 1, .inr (.inl (fun _ => 0))))]) [0] rfl
    have hD9 := hD.sub (ws' := [(o, .inl (cL, 1, .inr (.inl (fun _ => 0))))]) [0] (by decide) rfl
    have hK9 := hK.sub (tys' := [(cL, .long)]) [1] rfl
    refine W.widen (k := 1) (n := 6) (Nat.le_of_ble_eq_true rfl) (Nat.le_of_ble_eq_true rfl) ?_
    refine vx_ret ?_
    exact W.iret (v := 1) hx hb hr (fun t ht hW => ⟨⟨1, (fun _ => 0), rfl, ⟨rfl, rfl⟩, ⟨by rw [ht]; exact hP9, va_K.moved hW.alike hK9, hD9⟩⟩, hS.F ht⟩) hS.2.2 dL_pageOf_14
  · exact False.elim hw

set_option maxHeartbeats 4000000 in
set_option maxRecDepth 100000 in
/-- the law's breakPages -/
theorem c_L_breakPages (l : Launch) (hf : l.stackTraces = false) (dC : Nat → ClassId) (dI : Nat → Nat → Nat) (ad sa : Nat → Nat) (h : Nat) (v : Nat → Nat) (us : Nat → Nat) (cN : ClassId) (o : Nat) (cL : ClassId) (p0 : Int32) (sz : Nat) : vx_Met l yL_breakPages wq_L_breakPages ({ frames := 10, cells := 2, slots := 12, locals := 243 }) (va_Pc [.ref h, .int p0, .ref o] (fun U => U.heap.size = sz ∧ va_P (dC, dI) vwCl [(h, .inr (11, [.ref (v 0), .int 0, .ref (v 2), .ref (v 3), .ref (v 4), .ref (v 5), .ref (v 6)])), (v 0, .inl (cN, 60, .inr (.inr (.inr (.inr (fun _ => none)))))), (v 6, .inr (8, [.int 0, .int 0, .int 0, .int 0, .long 0, .int 0, .int 0, .ref (us 7), .ref (us 8), .ref (us 9), .ref (us 10), .int 0, .ref (us 12), .ref (us 13), .ref (us 14)])), (o, .inl (cL, 1, .inr (.inl (fun _ => 0))))] U.heap ∧ va_K (dC, dI) vwCl [(cN, .object RX4), (cL, .long)] U ∧ va_D (fun _ => True) [(h, .inr (11, [.ref (v 0), .int 0, .ref (v 2), .ref (v 3), .ref (v 4), .ref (v 5), .ref (v 6)])), (v 0, .inl (cN, 60, .inr (.inr (.inr (.inr (fun _ => none)))))), (v 6, .inr (8, [.int 0, .int 0, .int 0, .int 0, .long 0, .int 0, .int 0, .ref (us 7), .ref (us 8), .ref (us 9), .ref (us 10), .int 0, .ref (us 12), .ref (us 13), .ref (us 14)])), (o, .inl (cL, 1, .inr (.inl (fun _ => 0))))] ∧ GG (va_A [(h, .inr (11, [.ref (v 0), .int 0, .ref (v 2), .ref (v 3), .ref (v 4), .ref (v 5), .ref (v 6)])), (v 0, .inl (cN, 60, .inr (.inr (.inr (.inr (fun _ => none)))))), (v 6, .inr (8, [.int 0, .int 0, .int 0, .int 0, .long 0, .int 0, .int 0, .ref (us 7), .ref (us 8), .ref (us 9), .ref (us 10), .int 0, .ref (us 12), .ref (us 13), .ref (us 14)])), (o, .inl (cL, 1, .inr (.inl (fun _ => 0))))] sz) ad sa U U.heap)) (va_Qi (fun (r : Int32) (u : Nat → Int64) => r = (if (1 ≤ p0 ∧ p0 ≤ 20) then 2 else 1) ∧ u 0 = 0) (fun (u : Nat → Int64) t => va_P (dC, dI) vwCl [(o, .inl (cL, 1, .inr (.inl u)))] t.heap ∧ va_K (dC, dI) vwCl [(cL, .long)] t ∧ va_D (va_A [(h, .inr (11, [.ref (v 0), .int 0, .ref (v 2), .ref (v 3), .ref (v 4), .ref (v 5), .ref (v 6)])), (v 0, .inl (cN, 60, .inr (.inr (.inr (.inr (fun _ => none)))))), (v 6, .inr (8, [.int 0, .int 0, .int 0, .int 0, .long 0, .int 0, .int 0, .ref (us 7), .ref (us 8), .ref (us 9), .ref (us 10), .int 0, .ref (us 12), .ref (us 13), .ref (us 14)])), (o, .inl (cL, 1, .inr (.inl (fun _ => 0))))] sz) [(o, .inl (cL, 1, .inr (.inl u)))]) (va_A [(h, .inr (11, [.ref (v 0), .int 0, .ref (v 2), .ref (v 3), .ref (v 4), .ref (v 5), .ref (v 6)])), (v 0, .inl (cN, 60, .inr (.inr (.inr (.inr (fun _ => none)))))), (v 6, .inr (8, [.int 0, .int 0, .int 0, .int 0, .long 0, .int 0, .int 0, .ref (us 7), .ref (us 8), .ref (us 9), .ref (us 10), .int 0, .ref (us 12), .ref (us 13), .ref (us 14)])), (o, .inl (cL, 1, .inr (.inl (fun _ => 0))))] sz)) (vx_X (fun _ : Unit => True) (fun _ _ _ => False) (va_A [(h, .inr (11, [.ref (v 0), .int 0, .ref (v 2), .ref (v 3), .ref (v 4), .ref (v 5), .ref (v 6)])), (v 0, .inl (cN, 60, .inr (.inr (.inr (.inr (fun _ => none)))))), (v 6, .inr (8, [.int 0, .int 0, .int 0, .int 0, .long 0, .int 0, .int 0, .ref (us 7), .ref (us 8), .ref (us 9), .ref (us 10), .int 0, .ref (us 12), .ref (us 13), .ref (us 14)])), (o, .inl (cL, 1, .inr (.inl (fun _ => 0))))] sz)) 2 12 (va_A [(h, .inr (11, [.ref (v 0), .int 0, .ref (v 2), .ref (v 3), .ref (v 4), .ref (v 5), .ref (v 6)])), (v 0, .inl (cN, 60, .inr (.inr (.inr (.inr (fun _ => none)))))), (v 6, .inr (8, [.int 0, .int 0, .int 0, .int 0, .long 0, .int 0, .int 0, .ref (us 7), .ref (us 8), .ref (us 9), .ref (us 10), .int 0, .ref (us 12), .ref (us 13), .ref (us 14)])), (o, .inl (cL, 1, .inr (.inl (fun _ => 0))))] sz) := by
  refine vx_ofWH (cc := cL_breakPages) (maxL := 4) (ret := (some .int)) (hh :=  [(0, 9, 12, 13), (0, 9, 15, 15)]) (by decide) rfl ?_
  intro p e s m args below meth c s₁ B hml hv
  obtain ⟨rfl, hsz, hP, hK, hD0, hG⟩ := hv
  have hx := B.exec
  have hb := B.bytes
  have hr := B.returns
  have hts := atoms_spec (ws := wq_L_breakPages) B.pre
  have htU : ∀ w ∈ UW, w.before _ s = true := fun w h => hts w (List.mem_cons_of_mem _ h)
  have hown : s.vm.findClass RL = some m.cls := findClass_of_methodNamed B.named
  have hlocks := B.notSynchronized
  have hT : c.exceptionTable.toList = tableOf  [(0, 9, 12, 13), (0, 9, 15, 15)] := vx_table (x := yL_breakPages) B (hts _ List.mem_cons_self)
  subst hsz
  have hD := hD0.self (sz := s.heap.size)
  generalize hAe : va_A [(h, .inr (11, [.ref (v 0), .int 0, .ref (v 2), .ref (v 3), .ref (v 4), .ref (v 5), .ref (v 6)])), (v 0, .inl (cN, 60, .inr (.inr (.inr (.inr (fun _ => none)))))), (v 6, .inr (8, [.int 0, .int 0, .int 0, .int 0, .long 0, .int 0, .int 0, .ref (us 7), .ref (us 8), .ref (us 9), .ref (us 10), .int 0, .ref (us 12), .ref (us 13), .ref (us 14)])), (o, .inl (cL, 1, .inr (.inl (fun _ => 0))))] s.heap.size = A at hD hG ⊢
  have hA : ∀ q : Nat, s.heap.size ≤ q → A q := fun q h => by rw [← hAe]; exact Or.inr h
  have hS : va_S A s.heap s.heap [] := va_S.rf
  have hl := lv_entry ([.ref h, .int p0, .ref o]) (n := 4) (Nat.le_of_ble_eq_true rfl)
  rw [lg_entry_eq]
  generalize (lg_sl ([.ref h, .int p0, .ref o]) ++ List.replicate (4 - (lg_sl ([.ref h, .int p0, .ref o])).length) Slot.unset).toArray = ls at hl ⊢
  have hl : lv_has ls 4 [(0, .ref h), (1, .int p0), (2, .ref o)] := hl
  refine lv_aload_n hx hb dL_breakPages_0 rfl (lv_at hl 2 rfl) ?_
  refine lv_iconst (v := 0) hx hb dL_breakPages_1 (by decide) ?_
  refine lv_aload_n hx hb dL_breakPages_2 rfl (lv_at hl 0 rfl) ?_
  refine lv_iload_n hx hb dL_breakPages_3 rfl (lv_at hl 1 rfl) ?_
  have hPc := hP.sub (ws' := [(h, .inr (11, [.ref (v 0), .int 0, .ref (v 2), .ref (v 3), .ref (v 4), .ref (v 5), .ref (v 6)])), (v 0, .inl (cN, 60, .inr (.inr (.inr (.inr (fun _ => none)))))), (v 6, .inr (8, [.int 0, .int 0, .int 0, .int 0, .long 0, .int 0, .int 0, .ref (us 7), .ref (us 8), .ref (us 9), .ref (us 10), .int 0, .ref (us 12), .ref (us 13), .ref (us 14)]))]) [0, 1, 2] rfl
  have hDc := hD.sub (ws' := [(h, .inr (11, [.ref (v 0), .int 0, .ref (v 2), .ref (v 3), .ref (v 4), .ref (v 5), .ref (v 6)])), (v 0, .inl (cN, 60, .inr (.inr (.inr (.inr (fun _ => none)))))), (v 6, .inr (8, [.int 0, .int 0, .int 0, .int 0, .long 0, .int 0, .int 0, .ref (us 7), .ref (us 8), .ref (us 9), .ref (us 10), .int 0, .ref (us 12), .ref (us 13), .ref (us 14)]))]) [0, 1, 2] (by decide) rfl
  have hKc := hK.sub (tys' := [(cN, .object RX4)]) [0] rfl
  have hFc := va_free (wc := [(h, .inr (11, [.ref (v 0), .int 0, .ref (v 2), .ref (v 3), .ref (v 4), .ref (v 5), .ref (v 6)])), (v 0, .inl (cN, 60, .inr (.inr (.inr (.inr (fun _ => none)))))), (v 6, .inr (8, [.int 0, .int 0, .int 0, .int 0, .long 0, .int 0, .int 0, .ref (us 7), .ref (us 8), .ref (us 9), .ref (us 10), .int 0, .ref (us 12), .ref (us 13), .ref (us 14)]))]) hD hS hA [0, 1, 2] rfl
  refine vx_calli (vx_runV (As := [.int p0]) (rest := [.int 0, .ref o]) ⟨hx, hb, hml, hown, htU⟩ (c_X10_breakPages l hf dC dI ad sa h v us cN p0 s.heap.size) (cwV 1 htU (gq_V u_1601 u_1602 u_1603 u_91 u_1604) rfl rfl rfl (by decide +kernel) ⟨(Nat.le_of_ble_eq_true rfl), (Nat.le_of_ble_eq_true rfl)⟩) ⟨(fun a U g mk q => by obtain ⟨q0, q1, qP, qK, qD, qG⟩ := q; exact ⟨q0, q1, qP, va_K.moved (u := U) (U := U.calling g mk a) (Vm.Alike.refl U.vm) qK, qD, GG.blind qG⟩), va_recv hKc hPc (ci := 11) (q0 := 0) rfl rfl, fun U hU hW => ⟨rfl, by rw [hU], by rw [hU]; exact hPc, va_K.moved hW.alike hKc, hDc.weaken (fun _ _ _ _ => trivial), GG.go hG hS hFc hU hW⟩⟩ rfl rfl hl.1 rfl (lv_room (Nat.le_of_ble_eq_true rfl)) dL_breakPages_4 ⟨(Nat.le_of_ble_eq_true rfl), (Nat.le_of_ble_eq_true rfl)⟩) hS (fun q _ h => hFc q h) hFc (fun q _ h => hFc q h) (fun E ce q9 _ t H locs ht hvm hpx hB hz1 hk1 hS hce hcv hcl => ?_) (fun r_1 u_2 t H locs ht hvm hw hB hz1 hk1 hS => ?_)
  · rcases hB with ⟨rfl, hxc⟩ | ⟨rfl, hxc⟩
    · refine vx_catch (own := RL) (name := xIA) hown [] ⟨0, 9, 12, 13⟩ [⟨0, 9, 15, 15⟩] (hT.trans rfl) (fun z hz => absurd hz List.not_mem_nil) rfl (by decide) (htU _ u_437) (va_Nw.use rfl (hG.ca 0 rfl)) hce hcv hcl ?_
      obtain ⟨hP, hD⟩ := va_join (wr := [(o, .inl (cL, 1, .inr (.inl (fun _ => 0))))]) (w1 := []) hP hD [0, 1, 2] [3] rfl rfl (by decide) (by decide) hk1 hFc (fun k q h => by simp at h) ⟨fun i j p q h => by simp at h, fun k q h => by simp at h⟩
      have hP : va_P (dC, dI) vwCl [(o, .inl (cL, 1, .inr (.inl (fun _ => 0))))] H := hP
      have hD : va_D A [(o, .inl (cL, 1, .inr (.inl (fun _ => 0))))] := hD
      refine lv_astore_n (lv' := [(3, .ref q9), (0, .ref h), (1, .int p0), (2, .ref o)]) hx hb dL_breakPages_12 rfl hl (by decide) rfl (fun ls hl => ?_)
      refine lv_iconst (v := 1) hx hb dL_breakPages_13 (by decide) ?_
      have hP9 := hP.sub (ws' := [(o, .inl (cL, 1, .inr (.inl (fun _ => 0))))]) [0] rfl
      have hD9 := hD.sub (ws' := [(o, .inl (cL, 1, .inr (.inl (fun _ => 0))))]) [0] (by decide) rfl
      have hK9 := hK.sub (tys' := [(cL, .long)]) [1] rfl
      refine W.widen (k := 2) (n := 12) (Nat.le_of_ble_eq_true rfl) (Nat.le_of_ble_eq_true rfl) ?_
      refine vx_ret ?_
      exact W.iret (v := 1) hx hb hr (fun t ht hW => ⟨⟨1, (fun _ => 0), rfl, ⟨(if_neg hxc).symm, rfl⟩, ⟨by rw [ht]; exact hP9, va_K.moved hW.alike hK9, hD9⟩⟩, hS.F ht⟩) hS.2.2 dL_breakPages_14
    · refine vx_catch (own := RL) (name := xIS) hown [⟨0, 9, 12, 13⟩] ⟨0, 9, 15, 15⟩ [] (hT.trans rfl) (fun z hz => Or.inr (by rcases List.mem_singleton.mp hz with rfl; exact ⟨by decide, xIA, (htU _ u_437), hG.nc 0 rfl⟩)) rfl (by decide) (htU _ u_438) (va_Nw.use rfl (hG.ca 1 rfl)) hce hcv hcl ?_
      obtain ⟨hP, hD⟩ := va_join (wr := [(o, .inl (cL, 1, .inr (.inl (fun _ => 0))))]) (w1 := []) hP hD [0, 1, 2] [3] rfl rfl (by decide) (by decide) hk1 hFc (fun k q h => by simp at h) ⟨fun i j p q h => by simp at h, fun k q h => by simp at h⟩
      have hP : va_P (dC, dI) vwCl [(o, .inl (cL, 1, .inr (.inl (fun _ => 0))))] H := hP
      have hD : va_D A [(o, .inl (cL, 1, .inr (.inl (fun _ => 0))))] := hD
      refine lv_astore_n (lv' := [(3, .ref q9), (0, .ref h), (1, .int p0), (2, .ref o)]) hx hb dL_breakPages_15 rfl hl (by decide) rfl (fun ls hl => ?_)
      refine lv_iconst (v := 2) hx hb dL_breakPages_16 (by decide) ?_
      have hP9 := hP.sub (ws' := [(o, .inl (cL, 1, .inr (.inl (fun _ => 0))))]) [0] rfl
      have hD9 := hD.sub (ws' := [(o, .inl (cL, 1, .inr (.inl (fun _ => 0))))]) [0] (by decide) rfl
      have hK9 := hK.sub (tys' := [(cL, .long)]) [1] rfl
      refine W.widen (k := 2) (n := 12) (Nat.le_of_ble_eq_true rfl) (Nat.le_of_ble_eq_true rfl) ?_
      refine vx_ret ?_
      exact W.iret (v := 2) hx hb hr (fun t ht hW => ⟨⟨2, (fun _ => 0), rfl, ⟨(if_pos hxc).symm, rfl⟩, ⟨by rw [ht]; exact hP9, va_K.moved hW.alike hK9, hD9⟩⟩, hS.F ht⟩) hS.2.2 dL_breakPages_17
  · exact False.elim hw
