/-! THE START: the geometry -/
set_option maxRecDepth 100000 in
theorem tb_nw : ∀ q ∈ nwM, Cond.methodLinkNest q.1 q.2.1 q.2.2 "FirstAsleep" ∈ lw_tbl := by decide +kernel
set_option maxRecDepth 100000 in
theorem tb_de : ∀ y ∈ nwD, Cond.declares y ∈ lw_tbl := by decide +kernel
theorem tb_t {w : Cond} (i : Nat) (h : tables_1[i]? = some w) : w ∈ lw_tbl := List.mem_append_right _ (List.mem_of_getElem? h)
set_option maxHeartbeats 4000000 in
set_option maxRecDepth 20000 in
theorem st_all {args : Array Value} {s : State} (b : Nat) (hts : ∀ w ∈ lw_tbl, w.before args s = true) (hfl : ∀ w ∈ FL, w.before args s = true) : ∃ G : GG, EG G s ∧ LIN G ∧ Ext G (AZ G) s s.heap ∧ gA G 0 = s.heap.size ∧ EL G s ∧ gA G 200 = s.heap.size + 163 ∧ gA G 201 = b ∧ s.vm.findClass ("[" ++ (FieldType.long).toString) = some (gC G 4) := by
  have hW : ∀ w ∈ WS, w.before args s = true := fun w hw => hts w (List.mem_filter.mp hw).1
  have hA : ∀ a : Nat, a < s.heap.size → ¬ (fun q : Nat => s.heap.size ≤ q) a := fun a h q => absurd h (Nat.not_lt.mpr q)
  obtain ⟨D, hD⟩ := st_classes hW
  obtain ⟨cI, i1, i2⟩ := st_arr (t := .int) (hW _ wac)
  obtain ⟨cJ, j1, j2⟩ := st_arr (t := .long) (hts _ (tb_t 1789 rfl))
  have hoH := hts _ (tb_t (w := .arrayOver (.object "FirstAsleep$History")) 258 rfl)
  have hoL := hts _ (tb_t (w := .arrayOver (.object "FirstAsleep$Law")) 130 rfl)
  have hoI := hts _ (tb_t (w := .arrayOver (.array .int)) 241 rfl)
  obtain ⟨cH, h1, h2⟩ := st_obj hoH
  obtain ⟨cL, l1, l2⟩ := st_obj hoL
  obtain ⟨cII, k1, k2⟩ := st_arr2 hoI
  obtain ⟨adK, adV, hS, hE⟩ := vk_Sof (N := 25) (tm := tmS) (len := strN) (byt := strB) (A := fun q : Nat => s.heap.size ≤ q) (fun i hi => Nat.lt_trans (fl_n i hi) (by decide)) (fun i hi => hfl _ (fl_ex i hi)) (fun i hi => hfl _ (fl_co i hi)) (fun i hi => hfl _ (fl_ar i hi)) (fun i hi => hfl _ (fl_le i hi)) (fun i hi j hj => hfl _ (fl_el i hi j hj)) (fun i j hi hj hij => (Nat.lt_or_gt_of_ne hij).elim (fun h => Or.inl (hfl _ (fl_ne j hj i h))) (fun h => Or.inr (hfl _ (fl_ne i hi j h)))) hA
  obtain ⟨tL, a1, a2⟩ := va_Tof (tm := .static "FirstAsleep$Law" "LOUD_WITHOUT" "[I") (ty := .int) (N := 7) (f := fun j => .int (loudW.getD j 0)) (A := fun q : Nat => s.heap.size ≤ q) (by decide) (hfl _ fl_L.2.1) (va_eqt (hfl _ fl_L.2.2)) (fun j hj => va_eqt (hfl _ (fl_L.1 j hj))) hA
  obtain ⟨tF, b1, b2⟩ := va_Tof (tm := .static "FirstAsleep$Law" "FALLS_WITHOUT" "[I") (ty := .int) (N := 5) (f := fun j => .int (fallsW.getD j 0)) (A := fun q : Nat => s.heap.size ≤ q) (by decide) (hfl _ fl_F.2.1) (va_eqt (hfl _ fl_F.2.2)) (fun j hj => va_eqt (hfl _ (fl_F.1 j hj))) hA
  have zL := va_Zof (hts _ (tb_t 301 rfl)) (hts _ (tb_t 4 rfl)) a1 hA
  have zF := va_Zof (hts _ (tb_t 314 rfl)) (hts _ (tb_t 4 rfl)) b1 hA
  have zC := va_Zof (hts _ (tb_t 541 rfl)) (hts _ (tb_t 17 rfl)) (va_eqt (hfl _ fl_S.1)) hA
  have u1 := vx_Zqof (hts _ (tb_t 474 rfl)) (hts _ (tb_t 13 rfl)) (hfl _ fl_S.2.2.1) hA
  have u2 := vx_Zqof (hts _ (tb_t 476 rfl)) (hts _ (tb_t 13 rfl)) (hfl _ fl_S.2.2.2.1) hA
  have zP : ∃ t : Nat, va_Z "jdk/internal/util/Preconditions" "SIOOBE_FORMATTER" "Ljava/util/function/BiFunction;" .null (fun q : Nat => s.heap.size ≤ q) s s.heap ∨ va_Z "jdk/internal/util/Preconditions" "SIOOBE_FORMATTER" "Ljava/util/function/BiFunction;" (.ref t) (fun q : Nat => s.heap.size ≤ q) s s.heap := by
    rcases va_Zqof (hts _ (tb_t 557 rfl)) (hts _ (tb_t 19 rfl)) (hfl _ fl_S.2.1) hA with h | ⟨t, h⟩
    · exact ⟨0, Or.inl h⟩
    · exact ⟨t, Or.inr h⟩
  obtain ⟨t3, z3⟩ := zP
  have hex : ∃ gAf : Nat → Nat, (∀ c, c < 200 → gAf c = s.heap.size + c) ∧ gAf 200 = s.heap.size + 163 ∧ gAf 201 = b ∧ (∀ i, i < 25 → gAf (1000 + i) = adK i) ∧ (∀ i, i < 25 → gAf (1100 + i) = adV i) ∧ gAf 2000 = tL ∧ gAf 2001 = tF ∧ gAf 3000 = t3 := by
    refine ⟨fun c => if c < 200 then s.heap.size + c else if c = 200 then s.heap.size + 163 else if c = 201 then b else if c < 1100 then adK (c - 1000) else if c < 2000 then adV (c - 1100) else if c = 2000 then tL else if c = 2001 then tF else t3, fun c hc => if_pos hc, by simp, by simp, fun i hi => ?_, fun i hi => ?_, by simp, by simp, by simp⟩
    · show (if 1000 + i < 200 then _ else if 1000 + i = 200 then _ else if 1000 + i = 201 then _ else if 1000 + i < 1100 then adK (1000 + i - 1000) else _) = _
      rw [if_neg (by omega), if_neg (by omega), if_neg (by omega), if_pos (by omega), Nat.add_sub_cancel_left]
    · show (if 1100 + i < 200 then _ else if 1100 + i = 200 then _ else if 1100 + i = 201 then _ else if 1100 + i < 1100 then _ else if 1100 + i < 2000 then adV (1100 + i - 1100) else _) = _
      rw [if_neg (by omega), if_neg (by omega), if_neg (by omega), if_neg (by omega), if_pos (by omega), Nat.add_sub_cancel_left]
  obtain ⟨gAf, g1, g2, g3, g4, g5, g6, g7, g8⟩ := hex
  have hz : gAf 0 = s.heap.size := g1 0 (by decide)
  have hEV : EV (D, (fun k : Nat => [cI, cH, cL, cII, cJ].getD k cJ), gAf) s := by
    refine ⟨⟨hD, fun k q hk => ?_⟩, fun i q hq => ?_, va_Nw.of rfl (hts _ (tb_t 449 rfl)), va_Nw.of rfl (hts _ (tb_t 852 rfl)), fun y hy => va_Nw.of rfl (hts _ (tb_de y hy))⟩
    · match k, hk with
      | 0, hk => cases hk; exact ⟨i1, i2⟩
      | 1, hk => cases hk; exact ⟨h1, h2⟩
      | 2, hk => cases hk; exact ⟨l1, l2⟩
      | 3, hk => cases hk; exact ⟨k1, k2⟩
    · have hi : i < 25 := (List.getElem?_eq_some_iff.mp hq).1
      show vk_R q.1 q.2.1 q.2.2 (gAf (1000 + i)) s
      rw [g4 i hi]
      refine vk_R.of (hts _ (tb_str q (List.mem_of_getElem? hq))) ?_
      have e := hE i hi
      unfold tmS at e
      rw [List.getD_eq_getElem?_getD, hq] at e
      exact e
  refine ⟨(D, (fun k : Nat => [cI, cH, cL, cII, cJ].getD k cJ), gAf), ⟨hEV, va_AO.of hoL, va_AO.of hoH, hoI, fun q hq => va_Nw.of rfl (hts _ (tb_nw q hq))⟩, fun c hc => ?_, ?_, hz, ⟨hEV, j1, va_Nc.of (hfl _ fl_S.2.2.2.2)⟩, g2, g3, j2⟩
  · show gAf c = gAf 0 + c
    rw [g1 c hc, hz]
  · have hX : Ext (D, (fun k : Nat => [cI, cH, cL, cII, cJ].getD k cJ), gAf) (fun q : Nat => s.heap.size ≤ q) s s.heap := by
      refine ⟨⟨fun i hi => ?_, fun i j hi hj e => ?_⟩, zC, ?_, ?_, ?_, ?_, ?_, u1, u2⟩
      · have h := hS.1 i hi
        rw [← g4 i hi, ← g5 i hi] at h
        exact h
      · have e : gAf (1000 + i) = gAf (1000 + j) := e
        rw [g4 i hi, g4 j hj] at e
        exact hS.2 i j hi hj e
      · show _ ∨ va_Z _ _ _ (.ref (gAf 3000)) _ _ _
        rw [g8]
        exact z3
      · show va_Z _ _ _ (.ref (gAf 2000)) _ _ _
        rw [g6]
        exact zL
      · show va_T _ (gAf 2000) _ _ _ _ _
        rw [g6]
        exact a2
      · show va_Z _ _ _ (.ref (gAf 2001)) _ _ _
        rw [g7]
        exact zF
      · show va_T _ (gAf 2001) _ _ _ _ _
        rw [g7]
        exact b2
    refine hX.narrow (fun q hq => ?_)
    have hq : gAf 0 ≤ q := hq
    rw [hz] at hq
    exact hq
