/-! THE START: strings and statics -/
def FL : List Cond := Jvm.Free.XT.flat (Jvm.Cond.and given_1 narrow_1)
def elS (i j : Nat) : Cond := Cond.eq (.elem (.field (tmS i) "java/lang/String" "value" "[B") (.int (Int32.ofNat j))) (.int ((strB.getD i []).getD j 0))
def segL (i : Nat) : List Cond := [Cond.exactly (tmS i) "java/lang/String", Cond.eq (.field (tmS i) "java/lang/String" "coder" "B") (.int 0), Cond.arrayOf (.field (tmS i) "java/lang/String" "value" "[B") .byte, Cond.eq (.length (.field (tmS i) "java/lang/String" "value" "[B")) (.int (Int32.ofNat (strN.getD i 0)))] ++ ((List.range (strN.getD i 0)).map (elS i) ++ (List.range i).map (fun j => Cond.not (Cond.eq (tmS j) (tmS i))))
theorem seg_in {p n : Nat} {L : List Cond} (h : (FL.drop p).take n = L) : ∀ w ∈ L, w ∈ FL := fun w hw => List.mem_of_mem_drop (List.mem_of_mem_take (h ▸ hw))
theorem fl_n : ∀ i : Nat, i < 25 → strN.getD i 0 < 100 := by decide +kernel
set_option maxRecDepth 100000 in
theorem seg_0 : (FL.drop 81).take 47 = segL 0 := by decide +kernel
set_option maxRecDepth 100000 in
theorem seg_1 : (FL.drop 128).take 69 = segL 1 := by decide +kernel
set_option maxRecDepth 100000 in
theorem seg_2 : (FL.drop 197).take 44 = segL 2 := by decide +kernel
set_option maxRecDepth 100000 in
theorem seg_3 : (FL.drop 241).take 14 = segL 3 := by decide +kernel
set_option maxRecDepth 100000 in
theorem seg_4 : (FL.drop 255).take 12 = segL 4 := by decide +kernel
set_option maxRecDepth 100000 in
theorem seg_5 : (FL.drop 267).take 13 = segL 5 := by decide +kernel
set_option maxRecDepth 100000 in
theorem seg_6 : (FL.drop 280).take 14 = segL 6 := by decide +kernel
set_option maxRecDepth 100000 in
theorem seg_7 : (FL.drop 294).take 15 = segL 7 := by decide +kernel
set_option maxRecDepth 100000 in
theorem seg_8 : (FL.drop 309).take 16 = segL 8 := by decide +kernel
set_option maxRecDepth 100000 in
theorem seg_9 : (FL.drop 325).take 17 = segL 9 := by decide +kernel
set_option maxRecDepth 100000 in
theorem seg_10 : (FL.drop 342).take 19 = segL 10 := by decide +kernel
set_option maxRecDepth 100000 in
theorem seg_11 : (FL.drop 361).take 20 = segL 11 := by decide +kernel
set_option maxRecDepth 100000 in
theorem seg_12 : (FL.drop 381).take 20 = segL 12 := by decide +kernel
set_option maxRecDepth 100000 in
theorem seg_13 : (FL.drop 401).take 23 = segL 13 := by decide +kernel
set_option maxRecDepth 100000 in
theorem seg_14 : (FL.drop 424).take 23 = segL 14 := by decide +kernel
set_option maxRecDepth 100000 in
theorem seg_15 : (FL.drop 447).take 24 = segL 15 := by decide +kernel
set_option maxRecDepth 100000 in
theorem seg_16 : (FL.drop 471).take 25 = segL 16 := by decide +kernel
set_option maxRecDepth 100000 in
theorem seg_17 : (FL.drop 496).take 26 = segL 17 := by decide +kernel
set_option maxRecDepth 100000 in
theorem seg_18 : (FL.drop 522).take 28 = segL 18 := by decide +kernel
set_option maxRecDepth 100000 in
theorem seg_19 : (FL.drop 550).take 28 = segL 19 := by decide +kernel
set_option maxRecDepth 100000 in
theorem seg_20 : (FL.drop 578).take 29 = segL 20 := by decide +kernel
set_option maxRecDepth 100000 in
theorem seg_21 : (FL.drop 607).take 29 = segL 21 := by decide +kernel
set_option maxRecDepth 100000 in
theorem seg_22 : (FL.drop 636).take 30 = segL 22 := by decide +kernel
set_option maxRecDepth 100000 in
theorem seg_23 : (FL.drop 666).take 31 = segL 23 := by decide +kernel
set_option maxRecDepth 100000 in
theorem seg_24 : (FL.drop 697).take 33 = segL 24 := by decide +kernel
theorem seg_all : ∀ i : Nat, i < 25 → ∀ w ∈ segL i, w ∈ FL := by
  intro i hi
  match i, hi with
  | 0, _ => exact seg_in seg_0
  | 1, _ => exact seg_in seg_1
  | 2, _ => exact seg_in seg_2
  | 3, _ => exact seg_in seg_3
  | 4, _ => exact seg_in seg_4
  | 5, _ => exact seg_in seg_5
  | 6, _ => exact seg_in seg_6
  | 7, _ => exact seg_in seg_7
  | 8, _ => exact seg_in seg_8
  | 9, _ => exact seg_in seg_9
  | 10, _ => exact seg_in seg_10
  | 11, _ => exact seg_in seg_11
  | 12, _ => exact seg_in seg_12
  | 13, _ => exact seg_in seg_13
  | 14, _ => exact seg_in seg_14
  | 15, _ => exact seg_in seg_15
  | 16, _ => exact seg_in seg_16
  | 17, _ => exact seg_in seg_17
  | 18, _ => exact seg_in seg_18
  | 19, _ => exact seg_in seg_19
  | 20, _ => exact seg_in seg_20
  | 21, _ => exact seg_in seg_21
  | 22, _ => exact seg_in seg_22
  | 23, _ => exact seg_in seg_23
  | 24, _ => exact seg_in seg_24
  | n + 25, h => exact absurd h (by omega)
theorem fl_ex (i : Nat) (hi : i < 25) : Cond.exactly (tmS i) "java/lang/String" ∈ FL := seg_all i hi _ (List.mem_append_left _ (List.mem_of_getElem? (i := 0) rfl))
theorem fl_co (i : Nat) (hi : i < 25) : Cond.eq (.field (tmS i) "java/lang/String" "coder" "B") (.int 0) ∈ FL := seg_all i hi _ (List.mem_append_left _ (List.mem_of_getElem? (i := 1) rfl))
theorem fl_ar (i : Nat) (hi : i < 25) : Cond.arrayOf (.field (tmS i) "java/lang/String" "value" "[B") .byte ∈ FL := seg_all i hi _ (List.mem_append_left _ (List.mem_of_getElem? (i := 2) rfl))
theorem fl_le (i : Nat) (hi : i < 25) : Cond.eq (.length (.field (tmS i) "java/lang/String" "value" "[B")) (.int (Int32.ofNat (strN.getD i 0))) ∈ FL := seg_all i hi _ (List.mem_append_left _ (List.mem_of_getElem? (i := 3) rfl))
theorem fl_el (i : Nat) (hi : i < 25) (j : Nat) (hj : j < strN.getD i 0) : Cond.eq (.elem (.field (tmS i) "java/lang/String" "value" "[B") (.int (Int32.ofNat j))) (.int ((strB.getD i []).getD j 0)) ∈ FL := seg_all i hi _ (List.mem_append_right _ (List.mem_append_left _ (List.mem_map.mpr ⟨j, List.mem_range.mpr hj, rfl⟩)))
theorem fl_ne (i : Nat) (hi : i < 25) (j : Nat) (hj : j < i) : Cond.not (Cond.eq (tmS j) (tmS i)) ∈ FL := seg_all i hi _ (List.mem_append_right _ (List.mem_append_right _ (List.mem_map.mpr ⟨j, List.mem_range.mpr hj, rfl⟩)))
set_option maxRecDepth 100000 in
theorem tb_str : ∀ q ∈ strL, Cond.stringRef q.1 q.2.1 q.2.2 ∈ lw_tbl := by decide +kernel
set_option maxRecDepth 100000 in
theorem fl_L : (∀ j : Nat, j < 7 → Cond.eq (.elem (.static "FirstAsleep$Law" "LOUD_WITHOUT" "[I") (.int (Int32.ofNat j))) (.int (loudW.getD j 0)) ∈ FL) ∧ Cond.arrayOf (.static "FirstAsleep$Law" "LOUD_WITHOUT" "[I") .int ∈ FL ∧ Cond.eq (.length (.static "FirstAsleep$Law" "LOUD_WITHOUT" "[I")) (.int 7) ∈ FL := by decide +kernel
set_option maxRecDepth 100000 in
theorem fl_F : (∀ j : Nat, j < 5 → Cond.eq (.elem (.static "FirstAsleep$Law" "FALLS_WITHOUT" "[I") (.int (Int32.ofNat j))) (.int (fallsW.getD j 0)) ∈ FL) ∧ Cond.arrayOf (.static "FirstAsleep$Law" "FALLS_WITHOUT" "[I") .int ∈ FL ∧ Cond.eq (.length (.static "FirstAsleep$Law" "FALLS_WITHOUT" "[I")) (.int 5) ∈ FL := by decide +kernel
set_option maxRecDepth 100000 in
theorem fl_S : Cond.eq (.static "java/lang/String" "COMPACT_STRINGS" "Z") (.int 1) ∈ FL ∧ Cond.isRef (.static "jdk/internal/util/Preconditions" "SIOOBE_FORMATTER" "Ljava/util/function/BiFunction;") ∈ FL ∧ Cond.isRef (.static Bundle.tN "UNASSIGNED_STACK" Bundle.steD) ∈ FL ∧ Cond.isRef (.static Bundle.tN "SUPPRESSED_SENTINEL" Bundle.listD) ∈ FL ∧ Cond.not (.castable thI thS) ∈ FL := by decide +kernel

