/-- the constants of Kind: their names, and what each holds -/
def kd_nm : List String := ["TEXT", "REMARK", "LINE", "SOFT", "HARD", "TAB", "PAIR", "NEST", "ALIGN", "GROUP", "CHOICE", "FLAT", "BROKEN", "PRICE", "KEEP", "CELL"]
def kd_nc : List Int32 := [0, 1, 0, 0, 1, 1, 0, 0, 0, 0, 1, 0, 0, 0, 0, 1]
def kd_nf : List Int32 := [0, 1, 0, 0, 1, 0, 0, 0, 0, 0, 0, 0, 0, 0, 0, 0]
def kd_or : List Int32 := [0, 1, 2, 3, 4, 5, 6, 7, 8, 9, 10, 11, 12, 13, 14, 15]
def kd_F : List (String × String × String × List Int32) := [("LayoutPress$Kind", "notInCells", "Z", kd_nc), ("LayoutPress$Kind", "neverFlat", "Z", kd_nf), ("java/lang/Enum", "ordinal", "I", kd_or)]
abbrev kd_d : String := "LLayoutPress$Kind;"
/-- the written texts of the exceptions, by their places in LayoutPress's file -/
def tx_all : List (Nat × String) := [(128, "what is in the part can stand in no cell"), (150, "all layouts are impossible"), (166, "there are too many layouts"), (174, "the greedy layout is impossible"), (210, "there is no such decision"), (220, "nothing was printed"), (229, "the lines were not broken into pages"), (236, "an argument is out of its range"), (239, "there is no such line"), (241, "there is no such column"), (243, "there is no such node"), (245, "there are as many nodes as there can be"), (250, "the node would be too large")]
/-- fields of a nest mate that a class reads: own class, place, the field's class, its name and descriptor -/
def ne_all : List (String × Nat × String × String × String) := [(RX10, 176, RX7, "lineCount", "I"), (RX10, 205, RX7, "told", "I"), (RX10, 199, RX4, "number", "I"), (RX10, 136, RX4, "leaves", "I"), (RX10, 247, RX4, "mostWays", "I"), (RX4, 32, RX3, "notInCells", "Z")]
def ca_all : List String := [xIA, xIS, xIO]
def de_all : List MethodName := [Bundle.initS "java/lang/RuntimeException", Bundle.initS "java/lang/Exception", Bundle.initS Bundle.tN]
def nc_all : List (String × String) := [(xIS, xIA), (xIS, xIO), (xIA, xIO), (xIA, xIS), (xIO, xIA), (xIO, xIS)]
/-- what every method takes as given, and hands on: the constants, the texts, the links to nest mates; A: where it may write -/
def GG (A : Nat → Prop) (ad sa : Nat → Nat) (U : State) (H : Heap) : Prop :=
  va_En RX3 kd_d kd_nm kd_F ad A U H ∧ vx_Zq Bundle.tN "UNASSIGNED_STACK" Bundle.steD A U H ∧ vx_Zq Bundle.tN "SUPPRESSED_SENTINEL" Bundle.listD A U H ∧ (∀ q ∈ tx_all, vk_R RX10 q.1 q.2 (sa q.1) U) ∧ (∀ q ∈ ne_all, va_Nw (.fieldLinkNest q.1 q.2.1 q.2.2.1 q.2.2.2.1 q.2.2.2.2 RX10) U) ∧ (∀ q ∈ ca_all, va_Nw (.castable q q) U) ∧ (∀ q ∈ nc_all, va_Nc q.1 q.2 U) ∧ va_AO RX4 U ∧ (∀ q ∈ de_all, va_Nw (.declares q) U)
theorem GG.moved {A : Nat → Prop} {ad sa : Nat → Nat} {s U : State} {H : Heap} (hW : s.WarmedH U.vm) (h : GG A ad sa s H) : GG A ad sa U H :=
  ⟨va_En.moved hW.alike h.1, vx_Zq.moved hW.alike h.2.1, vx_Zq.moved hW.alike h.2.2.1, fun q hq => vk_R.warm hW (h.2.2.2.1 q hq), fun q hq => va_Nw.warmF hW (h.2.2.2.2.1 q hq), fun q hq => va_Nw.warmC hW (h.2.2.2.2.2.1 q hq), fun q hq => va_Nc.moved hW.alike (h.2.2.2.2.2.2.1 q hq), va_AO.moved hW.alike h.2.2.2.2.2.2.2.1, fun q hq => va_Nw.warmD hW (h.2.2.2.2.2.2.2.2 q hq)⟩
theorem GG.kept {A B : Nat → Prop} {ad sa : Nat → Nat} {U : State} {H H1 : Heap} (h : GG A ad sa U H) (hq : ∀ a : Nat, a < H.size → ¬ A a → H1[a]? = H[a]?) (hAB : ∀ q, B q → A q) : GG B ad sa U H1 :=
  ⟨(h.1.kept hq).narrow hAB, (h.2.1.kept hq).narrow hAB, (h.2.2.1.kept hq).narrow hAB, h.2.2.2⟩
/-- .. handed on to a callee -/
theorem GG.go {A B : Nat → Prop} {ad sa : Nat → Nat} {s U : State} {H : Heap} {locs : List Loc} (h : GG A ad sa s s.heap) (hS : va_S A s.heap H locs) (hAB : ∀ q, B q → A q) (hU : U.heap = H) (hW : s.WarmedH U.vm) : GG B ad sa U U.heap := by
  rw [hU]
  exact (h.kept hS.2.1 hAB).moved hW
theorem GG.blind {A : Nat → Prop} {ad sa : Nat → Nat} {a : Array Value} {U : State} {g : JFrame} {mk : MethodId} (h : GG A ad sa U U.heap) : GG A ad sa (U.calling g mk a) (U.calling g mk a).heap :=
  ⟨va_En.moved (Vm.Alike.refl U.vm) h.1, vx_Zq.moved (Vm.Alike.refl U.vm) h.2.1, vx_Zq.moved (Vm.Alike.refl U.vm) h.2.2.1, fun q hq => vk_R.same rfl (h.2.2.2.1 q hq), fun q hq => va_Nw.same rfl rfl (h.2.2.2.2.1 q hq), fun q hq => va_Nw.same rfl rfl (h.2.2.2.2.2.1 q hq), fun q hq => va_Nc.moved (Vm.Alike.refl U.vm) (h.2.2.2.2.2.2.1 q hq), va_AO.moved (Vm.Alike.refl U.vm) h.2.2.2.2.2.2.2.1, fun q hq => va_Nw.same rfl rfl (h.2.2.2.2.2.2.2.2 q hq)⟩
theorem GG.tx {A : Nat → Prop} {ad sa : Nat → Nat} {U : State} {H : Heap} (h : GG A ad sa U H) {k : Nat} {t : String} (i : Nat) (hi : tx_all[i]? = some (k, t)) : vk_R RX10 k t (sa k) U := h.2.2.2.1 (k, t) (List.mem_of_getElem? hi)
theorem GG.ne {A : Nat → Prop} {ad sa : Nat → Nat} {U : State} {H : Heap} (h : GG A ad sa U H) {o c n d : String} {k : Nat} (i : Nat) (hi : ne_all[i]? = some (o, k, c, n, d)) : va_Nw (.fieldLinkNest o k c n d RX10) U := h.2.2.2.2.1 (o, k, c, n, d) (List.mem_of_getElem? hi)
theorem GG.ca {A : Nat → Prop} {ad sa : Nat → Nat} {U : State} {H : Heap} (h : GG A ad sa U H) {q : String} (i : Nat) (hi : ca_all[i]? = some q) : va_Nw (.castable q q) U := h.2.2.2.2.2.1 q (List.mem_of_getElem? hi)
theorem GG.nc {A : Nat → Prop} {ad sa : Nat → Nat} {U : State} {H : Heap} (h : GG A ad sa U H) {a b : String} (i : Nat) (hi : nc_all[i]? = some (a, b)) : va_Nc a b U := h.2.2.2.2.2.2.1 (a, b) (List.mem_of_getElem? hi)
section
variable {p : Program} {l : Launch} {e : Env} {R : Room} {s : State} {m : MethodId} {args : Array Value} {below : List Frame} {meth : Method} {c : Code} {H : Heap} {locs : List Loc} {cells slots : Nat} {Q : State → Prop} {A : Nat → Prop} {cc : ByteArray} {pc : Nat} {ls : Array Slot} {rest : List Value}
/-- a field of a constant that belongs to a nest mate -/
theorem gg_getE (hexec : p.tables.exec = Jvm.exec) (hb : c.code = cc) {E d own ref host : String} {nm : List String} {F : List (String × String × String × List Int32)} {ad : Nat → Nat} {index i : Nat} (hE : va_En E d nm F ad A s s.heap) (hi : i < nm.length) (hS : va_S A s.heap H locs) (hown : s.vm.findClass own = some m.cls) {q : String × String × String × List Int32} (hq : q ∈ F) (hlink : (Cond.fieldLinkNest own index ref q.2.1 q.2.2.1 host).before args s = true) (hsame : ∀ x, s.fieldFound? q.1 q.2.1 q.2.2.1 = some x → s.fieldFound? ref q.2.1 q.2.2.1 = some x) (hdg : decode cc pc = .ok (.getfield index, 3))
    (kk : W p l e R s m args below meth c H locs cells slots Q (F0 m (pc + 3) ls (.int (q.2.2.2.getD i 0) :: rest))) : W p l e R s m args below meth c H locs cells slots Q (F0 m pc ls (.ref (ad i) :: rest)) := by
  obtain ⟨cf, k, fi, f, cell, h1, h2, h3, h4, h5, h6⟩ := ((hE.1 i hi).2.2 q hq).kept hS.2.1
  exact va_Wgetf hexec hb hown hlink (hsame _ h1) h2 h3 h4 (v := .int (q.2.2.2.getD i 0)) h5 rfl rfl hdg kk
end
theorem kd_inj {A : Nat → Prop} {ad : Nat → Nat} {U : State} {H : Heap} (hE : va_En RX3 kd_d kd_nm kd_F ad A U H) {i j : Nat} (hi : i < 16) (hj : j < 16) : some (ad i) = some (ad j) ↔ i = j := ⟨fun h => hE.2 i j hi hj (Option.some.inj h), fun h => by rw [h]⟩
theorem kd_ncB : ∀ i, i < 16 → narrow .boolean (.int (kd_nc.getD i 0)) = .int (kd_nc.getD i 0) ∧ fits .boolean (.int (kd_nc.getD i 0)) = true := by decide +kernel
theorem kd_b {c : Prop} [Decidable c] : narrow .boolean (.int (if c then 1 else 0)) = .int (if c then 1 else 0) ∧ fits .boolean (.int (if c then 1 else 0)) = true := by
  by_cases h : c <;> simp only [h, if_true, if_false] <;> exact ⟨rfl, rfl⟩
def bI (c : Prop) [Decidable c] : Int32 := if c then 1 else 0
/-- the exceptions' words -/
theorem at_h {args : Array Value} {A : Nat → Prop} {ad sa : Nat → Nat} {s : State} {H : Heap} {E : String} {ic : Nat} (hG : GG A ad sa s H) (i : Nat) (hi : ca_all[i]? = some E) (h1 : ∀ w ∈ (vx_atS RX10 ic E ["java/lang/RuntimeException", "java/lang/Exception"]).filter goodWord, w.before args s = true) (h2 : ∀ w ∈ (vx_atS RX10 ic E ["java/lang/RuntimeException", "java/lang/Exception"]).filter (fun w => !goodWord w), w ∈ Cond.castable E E :: de_all.map Cond.declares) : ∀ w ∈ vx_atS RX10 ic E ["java/lang/RuntimeException", "java/lang/Exception"], w.before args s = true :=
  vx_hat h1 h2 (fun w h => by
    rcases List.mem_cons.mp h with rfl | h
    · exact va_Nw.use rfl (hG.ca i hi)
    · obtain ⟨y, hy, rfl⟩ := List.mem_map.mp h
      exact va_Nw.use rfl (hG.2.2.2.2.2.2.2.2 y hy))
theorem at_2A : ∀ w ∈ (vx_atS RX10 238 xIA ["java/lang/RuntimeException", "java/lang/Exception"]).filter (fun w => !goodWord w), w ∈ Cond.castable xIA xIA :: de_all.map Cond.declares := by decide +kernel
theorem at_2S : ∀ w ∈ (vx_atS RX10 130 xIS ["java/lang/RuntimeException", "java/lang/Exception"]).filter (fun w => !goodWord w), w ∈ Cond.castable xIS xIS :: de_all.map Cond.declares := by decide +kernel
theorem at_2O : ∀ w ∈ (vx_atS RX10 212 xIO ["java/lang/RuntimeException", "java/lang/Exception"]).filter (fun w => !goodWord w), w ∈ Cond.castable xIO xIO :: de_all.map Cond.declares := by decide +kernel
theorem at_gA : ∀ w ∈ Cond.classLink RX10 234 xIA :: Cond.initialized xIA :: vx_atS RX10 238 xIA ["java/lang/RuntimeException", "java/lang/Exception"], vx_ot w = true := by decide +kernel
theorem at_gS : ∀ w ∈ Cond.classLink RX10 126 xIS :: Cond.initialized xIS :: vx_atS RX10 130 xIS ["java/lang/RuntimeException", "java/lang/Exception"], vx_ot w = true := by decide +kernel
theorem at_gO : ∀ w ∈ Cond.classLink RX10 208 xIO :: Cond.initialized xIO :: vx_atS RX10 212 xIO ["java/lang/RuntimeException", "java/lang/Exception"], vx_ot w = true := by decide +kernel
theorem bI_t {c : Prop} [Decidable c] (h : c) : bI c = 1 := if_pos h
theorem bI_f {c : Prop} [Decidable c] (h : ¬ c) : bI c = 0 := if_neg h
theorem bI_0 {c : Prop} [Decidable c] (h : bI c = 0) : ¬ c := fun q => absurd ((bI_t q).symm.trans h) (by decide)
theorem bI_1 {c : Prop} [Decidable c] (h : ¬ bI c = 0) : c := Decidable.byContradiction fun q => h (bI_f q)
def kIf (c : Prop) [Decidable c] : Int32 := if c then 0 else 1
theorem kIf_t {c : Prop} [Decidable c] (h : c) : kIf c = 0 := if_pos h
theorem kIf_f {c : Prop} [Decidable c] (h : ¬ c) : kIf c = 1 := if_neg h
/-- an array class is known by what it holds -/
theorem gg_same {D : va_G} {cl : List vw_C} {tys : List (ClassId × FieldType)} {U : State} (h : va_K D cl tys U) (i j : Nat) {a c : ClassId} {b : FieldType} (hi : tys[i]? = some (a, b)) (hj : tys[j]? = some (c, b)) (hp : ∀ q : ClassId, va_RA U q b = (U.vm.findClass ("[" ++ b.toString) = some q)) : a = c := by
  have h1 := (h.2 i _ hi).2
  have h2 := (h.2 j _ hj).2
  rw [hp] at h1 h2
  exact Option.some.inj (h1.symm.trans h2)
section
variable {p : Program} {l : Launch} {e : Env} {R : Room} {s : State} {m : MethodId} {args : Array Value} {below : List Frame} {meth : Method} {c : Code} {H : Heap} {locs : List Loc} {cells slots : Nat} {Q : State → Prop}
variable {mc ms : Nat} {free : Addr → Prop} {A0 A1 : Nat → Prop} {H0 : Heap} {a : Array Value} {pc : Nat} {ls : Array Slot} {st0 rest : List Value}
theorem vx_callq {S SX : Type} {post : Option Nat → S → Prop} {px : SX → Prop} {B : S → State → Prop} {BX : String → SX → State → Prop} {AX : Nat → Prop} (hr : vx_Run p l e R s m args below meth c H locs cells slots mc ms (F0 m pc ls st0) rest (va_Qq post B A1 a) (vx_X px BX AX) free) (hS : va_S A0 H0 H locs) (hA : ∀ q, q < H.size → A1 q → A0 q) (hf : ∀ q, free q → A0 q) (hAX : ∀ q, q < H.size → AX q → A0 q)
    (kx : ∀ (E : String) (ce : Cell) (q9 : Addr) (u : SX) (t : State) (H1 : Heap) (locs1 : List Loc), t.heap = H1 → s.vm.Alike t.vm → px u → BX E u t → H.size ≤ H1.size → (∀ q : Nat, q < H.size → ¬ AX q → H1[q]? = H[q]?) → va_S A0 H0 H1 locs1 → H1[q9]? = some ce → ce.vm = .none → s.vm.findClass E = some ce.cls → vx_W p l e R s m args below meth c H1 locs1 (cells + mc) (slots + ms) Q (F0 m pc ls rest) q9)
    (kk : ∀ (r : Option Nat) (u : S) (t : State) (H1 : Heap) (locs1 : List Loc), t.heap = H1 → s.vm.Alike t.vm → post r u → B u t → H.size ≤ H1.size → (∀ q : Nat, q < H.size → ¬ A1 q → H1[q]? = H[q]?) → va_S A0 H0 H1 locs1 → W p l e R s m args below meth c H1 locs1 (cells + mc) (slots + ms) Q (F0 m (pc + 3) ls (va_rf r :: rest))) : W p l e R s m args below meth c H locs cells slots Q (F0 m pc ls st0) := by
  intro T hT X
  rcases hr T hT X with ⟨v, st₀, t, T', L, h0, X', hL, e1, e2, ⟨⟨r, u, hv, hp, hb⟩, hF⟩, st⟩ | ⟨q, st₀, t, T', L, E, ce, h0, X', hL, e1, e2, ⟨u, hp, hb, hF⟩, hce, hcv, hcl, st⟩
  · cases hv
    obtain ⟨k1, k2, k3⟩ := vx_keep h0 e1 hS hA hf hL hF
    obtain ⟨t2, a1, b1⟩ := kk r u t T'.heap (locs ++ L) e1.symm (by rw [← e2]; exact X'.warmed.alike) hp hb k1 k2 k3 T' rfl X'
    exact ⟨t2, st t2 a1, b1⟩
  · obtain ⟨k1, k2, k3⟩ := vx_keep h0 e1 hS hAX hf hL hF
    obtain ⟨t2, a1, b1⟩ := kx E ce q u t T'.heap (locs ++ L) e1.symm (by rw [← e2]; exact X'.warmed.alike) hp hb k1 k2 k3 (by rw [e1]; exact hce) hcv hcl T' rfl X'
    exact ⟨t2, st.trans a1, b1⟩
end
set_option maxHeartbeats 4000000 in
set_option maxRecDepth 100000 in
/-- Arrays.fill(a, v): it ends -/
theorem fill_loop {p : Program} {l : Launch} {e : Env} {R : Room} {s : State} {m : MethodId} {args : Array Value} {below : List Frame} {meth : Method} {c : Code} {dC : Nat → ClassId} {dI : Nat → Nat → Nat} {A : Nat → Prop} {Q : State → Prop} {a : Nat} {cI : ClassId} {n : Nat} {v : Int32} {k1 k2 : Nat} (hn : n < 2 ^ 31) (hx : p.tables.exec = Jvm.exec) (hb : c.code = cJ7_fill_53178) (hK : va_K (dC, dI) vwCl [(cI, .int)] s)
    (kk : ∀ (H : Heap) (locs : List Loc) (ls : Array Slot), va_S A s.heap H locs → W p l e R s m args below meth c H locs k1 k2 Q (F0 m 20 ls [])) :
    ∀ (d i : Nat) (f : Nat → Int32) (H : Heap) (locs : List Loc), i ≤ n → n ≤ i + d → va_P (dC, dI) vwCl [(a, .inl (cI, n, .inl f))] H → va_D A [(a, .inl (cI, n, .inl f))] → va_S A s.heap H locs → ∀ (ls : Array Slot), lv_has ls 4 [(0, .ref a), (1, .int v), (2, .int (nI i)), (3, .int (nI n))] → W p l e R s m args below meth c H locs k1 k2 Q (F0 m 5 ls []) := by
  intro d
  induction d with
  | zero =>
    intro i f H locs hi hd hP hD hS ls hl
    have : i = n := by omega
    subst this
    refine lv_iload_n hx hb dJ7_fill_53178_5 rfl (lv_at hl 2 rfl) ?_
    refine lv_iload_n hx hb dJ7_fill_53178_6 rfl (lv_at hl 3 rfl) ?_
    refine lv_icmp_ge (tgt := 20) hx hb dJ7_fill_53178_7 (by decide) (fun _ => kk H locs ls hS) (fun c_1 => absurd (Int32.le_refl _) c_1)
  | succ d ih =>
    intro i f H locs hi hd hP hD hS ls hl
    refine lv_iload_n hx hb dJ7_fill_53178_5 rfl (lv_at hl 2 rfl) ?_
    refine lv_iload_n hx hb dJ7_fill_53178_6 rfl (lv_at hl 3 rfl) ?_
    refine lv_icmp_ge (tgt := 20) hx hb dJ7_fill_53178_7 (by decide) (fun _ => kk H locs ls hS) (fun c_1 => ?_)
    have hlt : i < n := by
      rcases Nat.lt_or_ge i n with q | q
      · exact q
      · exact absurd (nI_le q (by omega)) c_1
    refine lv_aload_n hx hb dJ7_fill_53178_10 rfl (lv_at hl 0 rfl) ?_
    refine lv_iload_n hx hb dJ7_fill_53178_11 rfl (lv_at hl 2 rfl) ?_
    refine lv_iload_n hx hb dJ7_fill_53178_12 rfl (lv_at hl 1 rfl) ?_
    refine va_iast (D := (dC, dI)) hx hb hK hP hD hS 0 0 rfl rfl (vp_in_nI hlt hn) dJ7_fill_53178_13 (fun H locs hP hD hS => ?_)
    refine lv_iinc (v := nI (i + 1)) (lv' := [(2, .int (nI (i + 1))), (0, .ref a), (1, .int v), (3, .int (nI n))]) hx hb dJ7_fill_53178_14 hl (k := 2) rfl (nI_1 i) (by decide) rfl (fun ls hl => ?_)
    refine lv_goto (tgt := 5) hx hb dJ7_fill_53178_17 (by decide) ?_
    exact ih (i + 1) _ H locs hlt (by omega) hP hD hS ls (lv_sub hl [1, 2, 0, 3] rfl)
