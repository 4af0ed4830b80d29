/-! LAW: join, value -/
def IsL (c0 : Nat) : Prop := c0 = 24 ∨ c0 = 27 ∨ c0 = 30
theorem l_o {c0 : Nat} (h : IsL c0) : lay c0 = .inl (5, [some (c0 + 1), none, some (c0 + 2)]) := by rcases h with rfl | rfl | rfl <;> rfl
theorem l_1 {c0 : Nat} (h : IsL c0) : lay (c0 + 1) = .inr (.inl 150) := by rcases h with rfl | rfl | rfl <;> rfl
theorem l_2 {c0 : Nat} (h : IsL c0) : lay (c0 + 2) = .inr (.inl 32) := by rcases h with rfl | rfl | rfl <;> rfl
def joinC (sg a b : Int32) : Int32 := if sg = 2000 then a + b else if sg = 2001 then a - b else if sg = 2002 then a * b else if sg = 2003 then (if b = 0 then 0 else a / b) else if sg = 2004 then (if a < b then a else b) else if b < a then a else b
theorem sw_join (sg : Int32) : sg = 2000 ∨ sg = 2001 ∨ sg = 2002 ∨ sg = 2003 ∨ sg = 2004 ∨ ((¬ sg = 2000 ∧ ¬ sg = 2001 ∧ ¬ sg = 2002 ∧ ¬ sg = 2003 ∧ ¬ sg = 2004) ∧ (sg.toInt < 2000 ∨ 2004 < sg.toInt)) := by
  by_cases h0 : sg = 2000
  · exact Or.inl h0
  by_cases h1 : sg = 2001
  · exact Or.inr (Or.inl h1)
  by_cases h2 : sg = 2002
  · exact Or.inr (Or.inr (Or.inl h2))
  by_cases h3 : sg = 2003
  · exact Or.inr (Or.inr (Or.inr (Or.inl h3)))
  by_cases h4 : sg = 2004
  · exact Or.inr (Or.inr (Or.inr (Or.inr (Or.inl h4))))
  refine Or.inr (Or.inr (Or.inr (Or.inr (Or.inr ⟨⟨h0, h1, h2, h3, h4⟩, ?_⟩))))
  have e0 := lv_neT (a := 2000) h0 (by decide +kernel)
  have e1 := lv_neT (a := 2001) h1 (by decide +kernel)
  have e2 := lv_neT (a := 2002) h2 (by decide +kernel)
  have e3 := lv_neT (a := 2003) h3 (by decide +kernel)
  have e4 := lv_neT (a := 2004) h4 (by decide +kernel)
  omega
set_option maxHeartbeats 8000000 in
set_option maxRecDepth 20000 in
theorem c_X5_join {sg a b : Int32} {x : XS} : MM mX5_join 0 0 0 [.int sg, .int a, .int b] x (fun v x1 => v = some (.int (joinC sg a b)) ∧ x1 = x) NoT := by
  refine MM.of (by decide) (Nat.le_of_ble_eq_true rfl) ?_
  refine r_iload_n dX5_join_0 rfl (by rfl) ?_
  rcases sw_join sg with rfl | rfl | rfl | rfl | rfl | ⟨⟨s0, s1, s2, s3, s4⟩, hsw⟩
  · refine r_tableIn (tgt := 36) (off := 35) dX5_join_1 (by decide +kernel) (by decide +kernel) (by decide +kernel) (by decide) ?_
    refine r_iload_n dX5_join_36 rfl (by rfl) ?_
    refine r_iload_n dX5_join_37 rfl (by rfl) ?_
    refine r_iadd dX5_join_38 ?_
    refine r_iret rfl dX5_join_39 ?_
    refine ⟨?_, rfl⟩
    unfold joinC
    rw [if_pos rfl]
  · refine r_tableIn (tgt := 40) (off := 39) dX5_join_1 (by decide +kernel) (by decide +kernel) (by decide +kernel) (by decide) ?_
    refine r_iload_n dX5_join_40 rfl (by rfl) ?_
    refine r_iload_n dX5_join_41 rfl (by rfl) ?_
    refine r_isub dX5_join_42 ?_
    refine r_iret rfl dX5_join_43 ?_
    refine ⟨?_, rfl⟩
    unfold joinC
    rw [if_neg (by decide +kernel), if_pos rfl]
  · refine r_tableIn (tgt := 44) (off := 43) dX5_join_1 (by decide +kernel) (by decide +kernel) (by decide +kernel) (by decide) ?_
    refine r_iload_n dX5_join_44 rfl (by rfl) ?_
    refine r_iload_n dX5_join_45 rfl (by rfl) ?_
    refine r_imul dX5_join_46 ?_
    refine r_iret rfl dX5_join_47 ?_
    refine ⟨?_, rfl⟩
    unfold joinC
    rw [if_neg (by decide +kernel), if_neg (by decide +kernel), if_pos rfl]
  · refine r_tableIn (tgt := 48) (off := 47) dX5_join_1 (by decide +kernel) (by decide +kernel) (by decide +kernel) (by decide) ?_
    refine r_iload_n dX5_join_48 rfl (by rfl) ?_
    refine r_if_ne (tgt := 56) dX5_join_49 (by decide) (fun h49 => ?_) (fun h49 => ?_)
    · refine r_iload_n dX5_join_56 rfl (by rfl) ?_
      refine r_iload_n dX5_join_57 rfl (by rfl) ?_
      refine r_idiv dX5_join_58 h49 ?_
      refine r_iret rfl dX5_join_59 ?_
      refine ⟨?_, rfl⟩
      unfold joinC
      rw [if_neg (by decide +kernel), if_neg (by decide +kernel), if_neg (by decide +kernel), if_pos rfl]
      first | rw [if_neg h49] | (rw [if_pos h49]; rfl)
    · refine r_iconst (v := nI 0) dX5_join_52 (by decide) ?_
      refine r_goto (tgt := 59) dX5_join_53 (by decide) ?_
      refine r_iret rfl dX5_join_59 ?_
      refine ⟨?_, rfl⟩
      unfold joinC
      rw [if_neg (by decide +kernel), if_neg (by decide +kernel), if_neg (by decide +kernel), if_pos rfl]
      first | rw [if_neg h49] | (rw [if_pos h49]; rfl)
  · refine r_tableIn (tgt := 60) (off := 59) dX5_join_1 (by decide +kernel) (by decide +kernel) (by decide +kernel) (by decide) ?_
    refine r_iload_n dX5_join_60 rfl (by rfl) ?_
    refine r_iload_n dX5_join_61 rfl (by rfl) ?_
    refine r_icmp_ge (tgt := 69) dX5_join_62 (by decide) (fun h62 => ?_) (fun h62 => ?_)
    · refine r_iload_n dX5_join_69 rfl (by rfl) ?_
      refine r_iret rfl dX5_join_70 ?_
      refine ⟨?_, rfl⟩
      unfold joinC
      rw [if_neg (by decide +kernel), if_neg (by decide +kernel), if_neg (by decide +kernel), if_neg (by decide +kernel), if_pos rfl]
      first | rw [if_neg (Int32.not_lt.mpr h62)] | rw [if_pos (Int32.not_le.mp h62)]
    · refine r_iload_n dX5_join_65 rfl (by rfl) ?_
      refine r_goto (tgt := 70) dX5_join_66 (by decide) ?_
      refine r_iret rfl dX5_join_70 ?_
      refine ⟨?_, rfl⟩
      unfold joinC
      rw [if_neg (by decide +kernel), if_neg (by decide +kernel), if_neg (by decide +kernel), if_neg (by decide +kernel), if_pos rfl]
      first | rw [if_neg (Int32.not_lt.mpr h62)] | rw [if_pos (Int32.not_le.mp h62)]
  · refine r_tableOut (tgt := 71) dX5_join_1 hsw (by decide) ?_
    refine r_iload_n dX5_join_71 rfl (by rfl) ?_
    refine r_iload_n dX5_join_72 rfl (by rfl) ?_
    refine r_icmp_le (tgt := 80) dX5_join_73 (by decide) (fun h73 => ?_) (fun h73 => ?_)
    · refine r_iload_n dX5_join_80 rfl (by rfl) ?_
      refine r_iret rfl dX5_join_81 ?_
      refine ⟨?_, rfl⟩
      unfold joinC
      rw [if_neg s0, if_neg s1, if_neg s2, if_neg s3, if_neg s4]
      first | rw [if_neg (Int32.not_lt.mpr h73)] | rw [if_pos (Int32.not_le.mp h73)]
    · refine r_iload_n dX5_join_76 rfl (by rfl) ?_
      refine r_goto (tgt := 81) dX5_join_77 (by decide) ?_
      refine r_iret rfl dX5_join_81 ?_
      refine ⟨?_, rfl⟩
      unfold joinC
      rw [if_neg s0, if_neg s1, if_neg s2, if_neg s3, if_neg s4]
      first | rw [if_neg (Int32.not_lt.mpr h73)] | rw [if_pos (Int32.not_le.mp h73)]
