theorem gs_lay : ∀ i, i < kd_nm.length → Cond.laysStatic RX3 (kd_nm.getD i "") kd_d ∈ lw_tbl := by decide +kernel
theorem gs_ex : ∀ i, i < kd_nm.length → Cond.exactly (.static RX3 (kd_nm.getD i "") kd_d) RX3 ∈ flatC (Jvm.Cond.and given_1 narrow_1) := by decide +kernel
theorem gs_eq0 : ∀ i, i < kd_nm.length → Cond.eq (.field (.static RX3 (kd_nm.getD i "") kd_d) "LayoutPress$Kind" "notInCells" "Z") (.int (kd_nc.getD i 0)) ∈ flatC (Jvm.Cond.and given_1 narrow_1) := by decide +kernel
theorem gs_eq1 : ∀ i, i < kd_nm.length → Cond.eq (.field (.static RX3 (kd_nm.getD i "") kd_d) "LayoutPress$Kind" "neverFlat" "Z") (.int (kd_nf.getD i 0)) ∈ flatC (Jvm.Cond.and given_1 narrow_1) := by decide +kernel
theorem gs_eq2 : ∀ i, i < kd_nm.length → Cond.eq (.field (.static RX3 (kd_nm.getD i "") kd_d) "java/lang/Enum" "ordinal" "I") (.int (kd_or.getD i 0)) ∈ flatC (Jvm.Cond.and given_1 narrow_1) := by decide +kernel
theorem gs_eq : ∀ q ∈ kd_F, ∀ i, i < kd_nm.length → Cond.eq (.field (.static RX3 (kd_nm.getD i "") kd_d) q.1 q.2.1 q.2.2.1) (.int (q.2.2.2.getD i 0)) ∈ flatC (Jvm.Cond.and given_1 narrow_1) := by
  intro q hq
  simp only [kd_F, List.mem_cons, List.not_mem_nil, or_false] at hq
  rcases hq with rfl | rfl | rfl
  · exact gs_eq0
  · exact gs_eq1
  · exact gs_eq2
theorem gs_ne_0 : ∀ j, j < kd_nm.length → 0 ≠ j → Cond.not (.eq (.static RX3 (kd_nm.getD 0 "") kd_d) (.static RX3 (kd_nm.getD j "") kd_d)) ∈ flatC (Jvm.Cond.and given_1 narrow_1) ∨ Cond.not (.eq (.static RX3 (kd_nm.getD j "") kd_d) (.static RX3 (kd_nm.getD 0 "") kd_d)) ∈ flatC (Jvm.Cond.and given_1 narrow_1) := by decide +kernel
theorem gs_ne_1 : ∀ j, j < kd_nm.length → 1 ≠ j → Cond.not (.eq (.static RX3 (kd_nm.getD 1 "") kd_d) (.static RX3 (kd_nm.getD j "") kd_d)) ∈ flatC (Jvm.Cond.and given_1 narrow_1) ∨ Cond.not (.eq (.static RX3 (kd_nm.getD j "") kd_d) (.static RX3 (kd_nm.getD 1 "") kd_d)) ∈ flatC (Jvm.Cond.and given_1 narrow_1) := by decide +kernel
theorem gs_ne_2 : ∀ j, j < kd_nm.length → 2 ≠ j → Cond.not (.eq (.static RX3 (kd_nm.getD 2 "") kd_d) (.static RX3 (kd_nm.getD j "") kd_d)) ∈ flatC (Jvm.Cond.and given_1 narrow_1) ∨ Cond.not (.eq (.static RX3 (kd_nm.getD j "") kd_d) (.static RX3 (kd_nm.getD 2 "") kd_d)) ∈ flatC (Jvm.Cond.and given_1 narrow_1) := by decide +kernel
theorem gs_ne_3 : ∀ j, j < kd_nm.length → 3 ≠ j → Cond.not (.eq (.static RX3 (kd_nm.getD 3 "") kd_d) (.static RX3 (kd_nm.getD j "") kd_d)) ∈ flatC (Jvm.Cond.and given_1 narrow_1) ∨ Cond.not (.eq (.static RX3 (kd_nm.getD j "") kd_d) (.static RX3 (kd_nm.getD 3 "") kd_d)) ∈ flatC (Jvm.Cond.and given_1 narrow_1) := by decide +kernel
theorem gs_ne_4 : ∀ j, j < kd_nm.length → 4 ≠ j → Cond.not (.eq (.static RX3 (kd_nm.getD 4 "") kd_d) (.static RX3 (kd_nm.getD j "") kd_d)) ∈ flatC (Jvm.Cond.and given_1 narrow_1) ∨ Cond.not (.eq (.static RX3 (kd_nm.getD j "") kd_d) (.static RX3 (kd_nm.getD 4 "") kd_d)) ∈ flatC (Jvm.Cond.and given_1 narrow_1) := by decide +kernel
theorem gs_ne_5 : ∀ j, j < kd_nm.length → 5 ≠ j → Cond.not (.eq (.static RX3 (kd_nm.getD 5 "") kd_d) (.static RX3 (kd_nm.getD j "") kd_d)) ∈ flatC (Jvm.Cond.and given_1 narrow_1) ∨ Cond.not (.eq (.static RX3 (kd_nm.getD j "") kd_d) (.static RX3 (kd_nm.getD 5 "") kd_d)) ∈ flatC (Jvm.Cond.and given_1 narrow_1) := by decide +kernel
theorem gs_ne_6 : ∀ j, j < kd_nm.length → 6 ≠ j → Cond.not (.eq (.static RX3 (kd_nm.getD 6 "") kd_d) (.static RX3 (kd_nm.getD j "") kd_d)) ∈ flatC (Jvm.Cond.and given_1 narrow_1) ∨ Cond.not (.eq (.static RX3 (kd_nm.getD j "") kd_d) (.static RX3 (kd_nm.getD 6 "") kd_d)) ∈ flatC (Jvm.Cond.and given_1 narrow_1) := by decide +kernel
theorem gs_ne_7 : ∀ j, j < kd_nm.length → 7 ≠ j → Cond.not (.eq (.static RX3 (kd_nm.getD 7 "") kd_d) (.static RX3 (kd_nm.getD j "") kd_d)) ∈ flatC (Jvm.Cond.and given_1 narrow_1) ∨ Cond.not (.eq (.static RX3 (kd_nm.getD j "") kd_d) (.static RX3 (kd_nm.getD 7 "") kd_d)) ∈ flatC (Jvm.Cond.and given_1 narrow_1) := by decide +kernel
theorem gs_ne_8 : ∀ j, j < kd_nm.length → 8 ≠ j → Cond.not (.eq (.static RX3 (kd_nm.getD 8 "") kd_d) (.static RX3 (kd_nm.getD j "") kd_d)) ∈ flatC (Jvm.Cond.and given_1 narrow_1) ∨ Cond.not (.eq (.static RX3 (kd_nm.getD j "") kd_d) (.static RX3 (kd_nm.getD 8 "") kd_d)) ∈ flatC (Jvm.Cond.and given_1 narrow_1) := by decide +kernel
theorem gs_ne_9 : ∀ j, j < kd_nm.length → 9 ≠ j → Cond.not (.eq (.static RX3 (kd_nm.getD 9 "") kd_d) (.static RX3 (kd_nm.getD j "") kd_d)) ∈ flatC (Jvm.Cond.and given_1 narrow_1) ∨ Cond.not (.eq (.static RX3 (kd_nm.getD j "") kd_d) (.static RX3 (kd_nm.getD 9 "") kd_d)) ∈ flatC (Jvm.Cond.and given_1 narrow_1) := by decide +kernel
theorem gs_ne_10 : ∀ j, j < kd_nm.length → 10 ≠ j → Cond.not (.eq (.static RX3 (kd_nm.getD 10 "") kd_d) (.static RX3 (kd_nm.getD j "") kd_d)) ∈ flatC (Jvm.Cond.and given_1 narrow_1) ∨ Cond.not (.eq (.static RX3 (kd_nm.getD j "") kd_d) (.static RX3 (kd_nm.getD 10 "") kd_d)) ∈ flatC (Jvm.Cond.and given_1 narrow_1) := by decide +kernel
theorem gs_ne_11 : ∀ j, j < kd_nm.length → 11 ≠ j → Cond.not (.eq (.static RX3 (kd_nm.getD 11 "") kd_d) (.static RX3 (kd_nm.getD j "") kd_d)) ∈ flatC (Jvm.Cond.and given_1 narrow_1) ∨ Cond.not (.eq (.static RX3 (kd_nm.getD j "") kd_d) (.static RX3 (kd_nm.getD 11 "") kd_d)) ∈ flatC (Jvm.Cond.and given_1 narrow_1) := by decide +kernel
theorem gs_ne_12 : ∀ j, j < kd_nm.length → 12 ≠ j → Cond.not (.eq (.static RX3 (kd_nm.getD 12 "") kd_d) (.static RX3 (kd_nm.getD j "") kd_d)) ∈ flatC (Jvm.Cond.and given_1 narrow_1) ∨ Cond.not (.eq (.static RX3 (kd_nm.getD j "") kd_d) (.static RX3 (kd_nm.getD 12 "") kd_d)) ∈ flatC (Jvm.Cond.and given_1 narrow_1) := by decide +kernel
theorem gs_ne_13 : ∀ j, j < kd_nm.length → 13 ≠ j → Cond.not (.eq (.static RX3 (kd_nm.getD 13 "") kd_d) (.static RX3 (kd_nm.getD j "") kd_d)) ∈ flatC (Jvm.Cond.and given_1 narrow_1) ∨ Cond.not (.eq (.static RX3 (kd_nm.getD j "") kd_d) (.static RX3 (kd_nm.getD 13 "") kd_d)) ∈ flatC (Jvm.Cond.and given_1 narrow_1) := by decide +kernel
theorem gs_ne_14 : ∀ j, j < kd_nm.length → 14 ≠ j → Cond.not (.eq (.static RX3 (kd_nm.getD 14 "") kd_d) (.static RX3 (kd_nm.getD j "") kd_d)) ∈ flatC (Jvm.Cond.and given_1 narrow_1) ∨ Cond.not (.eq (.static RX3 (kd_nm.getD j "") kd_d) (.static RX3 (kd_nm.getD 14 "") kd_d)) ∈ flatC (Jvm.Cond.and given_1 narrow_1) := by decide +kernel
theorem gs_ne_15 : ∀ j, j < kd_nm.length → 15 ≠ j → Cond.not (.eq (.static RX3 (kd_nm.getD 15 "") kd_d) (.static RX3 (kd_nm.getD j "") kd_d)) ∈ flatC (Jvm.Cond.and given_1 narrow_1) ∨ Cond.not (.eq (.static RX3 (kd_nm.getD j "") kd_d) (.static RX3 (kd_nm.getD 15 "") kd_d)) ∈ flatC (Jvm.Cond.and given_1 narrow_1) := by decide +kernel
theorem gs_ne : ∀ i, i < kd_nm.length → ∀ j, j < kd_nm.length → i ≠ j → Cond.not (.eq (.static RX3 (kd_nm.getD i "") kd_d) (.static RX3 (kd_nm.getD j "") kd_d)) ∈ flatC (Jvm.Cond.and given_1 narrow_1) ∨ Cond.not (.eq (.static RX3 (kd_nm.getD j "") kd_d) (.static RX3 (kd_nm.getD i "") kd_d)) ∈ flatC (Jvm.Cond.and given_1 narrow_1) := by
  intro i hi
  have h16 : i < 16 := hi
  rcases (show i = 0 ∨ i = 1 ∨ i = 2 ∨ i = 3 ∨ i = 4 ∨ i = 5 ∨ i = 6 ∨ i = 7 ∨ i = 8 ∨ i = 9 ∨ i = 10 ∨ i = 11 ∨ i = 12 ∨ i = 13 ∨ i = 14 ∨ i = 15 by omega) with rfl | rfl | rfl | rfl | rfl | rfl | rfl | rfl | rfl | rfl | rfl | rfl | rfl | rfl | rfl | rfl
  · exact gs_ne_0
  · exact gs_ne_1
  · exact gs_ne_2
  · exact gs_ne_3
  · exact gs_ne_4
  · exact gs_ne_5
  · exact gs_ne_6
  · exact gs_ne_7
  · exact gs_ne_8
  · exact gs_ne_9
  · exact gs_ne_10
  · exact gs_ne_11
  · exact gs_ne_12
  · exact gs_ne_13
  · exact gs_ne_14
  · exact gs_ne_15
theorem gs_tx1 : ∀ q ∈ tx_all, Cond.stringRef RX10 q.1 q.2 ∈ lw_tbl := by decide +kernel
theorem gs_tx2 : ∀ q ∈ tx_all, Cond.exactly (.string RX10 q.1) "java/lang/String" ∈ flatC (Jvm.Cond.and given_1 narrow_1) := by decide +kernel
theorem gs_txn : ∀ q ∈ tx_all, ∀ p ∈ tx_all, q.1 = p.1 → q = p := by decide +kernel
theorem gs_nest : ∀ q ∈ ne_all, Cond.fieldLinkNest q.1 q.2.1 q.2.2.1 q.2.2.2.1 q.2.2.2.2 RX10 ∈ lw_tbl := by decide +kernel
theorem gs_ca : ∀ q ∈ ca_all, Cond.castable q q ∈ lw_tbl := by decide +kernel
theorem gs_de : ∀ q ∈ de_all, Cond.declares q ∈ lw_tbl := by decide +kernel
theorem gs_nc : ∀ q ∈ nc_all, Cond.not (.castable q.1 q.2) ∈ flatC (Jvm.Cond.and given_1 narrow_1) := by decide +kernel
/-- what the law's start gives every method -/
theorem gg_start {s : State} {b : Nat} (hts : ∀ w ∈ lw_tbl, w.before #[Value.ref b] s = true) (hgv : (Jvm.Cond.and given_1 narrow_1).before #[Value.ref b] s = true) : ∃ ad sa : Nat → Nat, GG (fun q : Nat => s.heap.size ≤ q) ad sa s s.heap := by
  have hs := flat_of_before _ hgv
  have hA : ∀ a : Nat, a < s.heap.size → ¬ (fun q : Nat => s.heap.size ≤ q) a := fun a h1 h2 => absurd h2 (Nat.not_le.mpr h1)
  obtain ⟨ad, hE⟩ := va_Enof (E := RX3) (d := kd_d) (nm := kd_nm) (F := kd_F) (A := fun q : Nat => s.heap.size ≤ q) (fun i hi => hts _ (gs_lay i hi)) (hts _ (by decide +kernel)) (fun i hi => hs _ (gs_ex i hi)) (fun q hq i hi => hs _ (gs_eq q hq i hi)) (fun i j hi hj n => (gs_ne i hi j hj n).imp (hs _) (hs _)) hA
  have hU : vx_Zq Bundle.tN "UNASSIGNED_STACK" Bundle.steD (fun q : Nat => s.heap.size ≤ q) s s.heap := vx_Zqof (hts _ (by decide +kernel)) (hts _ (by decide +kernel)) (hs _ (by decide +kernel)) hA
  have hN : vx_Zq Bundle.tN "SUPPRESSED_SENTINEL" Bundle.listD (fun q : Nat => s.heap.size ≤ q) s s.heap := vx_Zqof (hts _ (by decide +kernel)) (hts _ (by decide +kernel)) (hs _ (by decide +kernel)) hA
  have hX : ∀ q ∈ tx_all, ∃ a : Nat, vk_R RX10 q.1 q.2 a s := fun q hq => by
    obtain ⟨a, _, _, _, h1, -⟩ := Cond.exactly_spec (hs _ (gs_tx2 q hq))
    exact ⟨a, vk_R.of (hts _ (gs_tx1 q hq)) h1⟩
  have hsa : ∀ k : Nat, ∃ a : Nat, ∀ q ∈ tx_all, q.1 = k → vk_R RX10 q.1 q.2 a s := fun k => by
    by_cases h : ∃ q ∈ tx_all, q.1 = k
    · obtain ⟨q, hq, hk⟩ := h
      obtain ⟨a, ha⟩ := hX q hq
      exact ⟨a, fun p hp hpk => by rw [← gs_txn q hq p hp (hk.trans hpk.symm)]; exact ha⟩
    · exact ⟨0, fun p hp hpk => absurd ⟨p, hp, hpk⟩ h⟩
  refine ⟨ad, fun k => (hsa k).choose, hE, hU, hN, fun q hq => (hsa q.1).choose_spec q hq rfl, fun q hq => va_Nw.of rfl (hts _ (gs_nest q hq)), fun q hq => va_Nw.of rfl (hts _ (gs_ca q hq)), fun q hq => va_Nc.of (hs _ (gs_nc q hq)), va_AO.of (hts _ (by decide +kernel)), fun q hq => va_Nw.of rfl (hts _ (gs_de q hq))⟩
