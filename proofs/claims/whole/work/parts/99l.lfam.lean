/-! THE START: strings and statics -/
def FL : List Cond := Jvm.Free.XT.flat (Jvm.Cond.and given_1 narrow_1)
set_option maxRecDepth 100000 in
theorem fl_ex : ∀ i : Nat, i < 25 → Cond.exactly (tmS i) "java/lang/String" ∈ FL := by decide +kernel
set_option maxRecDepth 100000 in
theorem fl_co : ∀ i : Nat, i < 25 → Cond.eq (.field (tmS i) "java/lang/String" "coder" "B") (.int 0) ∈ FL := by decide +kernel
set_option maxRecDepth 100000 in
theorem fl_ar : ∀ i : Nat, i < 25 → Cond.arrayOf (.field (tmS i) "java/lang/String" "value" "[B") .byte ∈ FL := by decide +kernel
set_option maxRecDepth 100000 in
theorem fl_le : ∀ i : Nat, i < 25 → Cond.eq (.length (.field (tmS i) "java/lang/String" "value" "[B")) (.int (Int32.ofNat (strN.getD i 0))) ∈ FL := by decide +kernel
set_option maxRecDepth 100000 in
theorem fl_n : ∀ i : Nat, i < 25 → strN.getD i 0 < 100 := by decide +kernel
set_option maxRecDepth 100000 in
theorem fl_el : ∀ i : Nat, i < 25 → ∀ j : Nat, j < strN.getD i 0 → Cond.eq (.elem (.field (tmS i) "java/lang/String" "value" "[B") (.int (Int32.ofNat j))) (.int ((strB.getD i []).getD j 0)) ∈ FL := by decide +kernel
set_option maxRecDepth 100000 in
theorem fl_ne : ∀ i : Nat, i < 25 → ∀ j : Nat, j < i → Cond.not (Cond.eq (tmS j) (tmS i)) ∈ FL := by decide +kernel
set_option maxRecDepth 100000 in
theorem tb_str : ∀ q ∈ strL, Cond.stringRef q.1 q.2.1 q.2.2 ∈ lw_tbl := by decide +kernel
set_option maxRecDepth 100000 in
theorem fl_L : (∀ j : Nat, j < 7 → Cond.eq (.elem (.static "FirstAsleep$Law" "LOUD_WITHOUT" "[I") (.int (Int32.ofNat j))) (.int (loudW.getD j 0)) ∈ FL) ∧ Cond.arrayOf (.static "FirstAsleep$Law" "LOUD_WITHOUT" "[I") .int ∈ FL ∧ Cond.eq (.length (.static "FirstAsleep$Law" "LOUD_WITHOUT" "[I")) (.int 7) ∈ FL := by decide +kernel
set_option maxRecDepth 100000 in
theorem fl_F : (∀ j : Nat, j < 5 → Cond.eq (.elem (.static "FirstAsleep$Law" "FALLS_WITHOUT" "[I") (.int (Int32.ofNat j))) (.int (fallsW.getD j 0)) ∈ FL) ∧ Cond.arrayOf (.static "FirstAsleep$Law" "FALLS_WITHOUT" "[I") .int ∈ FL ∧ Cond.eq (.length (.static "FirstAsleep$Law" "FALLS_WITHOUT" "[I")) (.int 5) ∈ FL := by decide +kernel
set_option maxRecDepth 100000 in
theorem fl_S : Cond.eq (.static "java/lang/String" "COMPACT_STRINGS" "Z") (.int 1) ∈ FL ∧ Cond.isRef (.static "jdk/internal/util/Preconditions" "SIOOBE_FORMATTER" "Ljava/util/function/BiFunction;") ∈ FL ∧ Cond.isRef (.static Bundle.tN "UNASSIGNED_STACK" Bundle.steD) ∈ FL ∧ Cond.isRef (.static Bundle.tN "SUPPRESSED_SENTINEL" Bundle.listD) ∈ FL ∧ Cond.not (.castable thI thS) ∈ FL := by decide +kernel

