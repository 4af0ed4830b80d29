/-! THE FIRST STATE -/
def es0 : List EE := classB 0 ++ refB 137
def x0 : XS := xOf es0
def x2 : XS := seX (clX x0) h0
set_option maxRecDepth 100000 in
theorem es0_ch : chA es0 = true := by decide +kernel
def a0 : AS := (hsE h0, rd0, (fun _ => 0, 0, -1), [], (0, fun _ _ => 0), (0, (fun _ _ => 0), fun _ => (0, fun _ _ => 0)), nI 0, nI 0, nI 0)
theorem a0_AI : AI a0 := AI.anew (a := a0) h0_HOK
theorem xOf_row {es : List EE} {c n : Nat} {g : Nat → Int32} (h : es[c]? = some (.inr (.inl (n, g)))) : xOf es c = g := by
  funext k
  unfold xOf
  rw [h]
set_option maxRecDepth 100000 in
theorem es0_2 : es0[2]? = some (.inr (.inl (600, fun _ => 0))) := by rfl
theorem x0_2 : x0 2 = fun _ => 0 := xOf_row es0_2
set_option maxRecDepth 100000 in
theorem es0_12 : es0[12]? = some (.inr (.inl (60, fun _ => 0))) := by rfl
theorem x0_12 : x0 12 = fun _ => 0 := xOf_row es0_12
set_option maxRecDepth 100000 in
theorem es0_44 : es0[44]? = some (.inr (.inl (42, fun _ => 0))) := by rfl
theorem x0_44 : x0 44 = fun _ => 0 := xOf_row es0_44
set_option maxRecDepth 100000 in
theorem es0_45 : es0[45]? = some (.inr (.inl (5, fun _ => 0))) := by rfl
theorem x0_45 : x0 45 = fun _ => 0 := xOf_row es0_45
set_option maxRecDepth 100000 in
theorem es0_138 : es0[138]? = some (.inr (.inl (2, fun _ => 0))) := by rfl
theorem x0_138 : x0 138 = fun _ => 0 := xOf_row es0_138
set_option maxRecDepth 100000 in
theorem es0_139 : es0[139]? = some (.inr (.inl (600, fun _ => 0))) := by rfl
theorem x0_139 : x0 139 = fun _ => 0 := xOf_row es0_139
set_option maxRecDepth 100000 in
theorem x0_3_0 : x0 3 0 = nI 0 := by decide +kernel
set_option maxRecDepth 100000 in
theorem x0_3_12 : x0 3 12 = nI 9 := by decide +kernel
set_option maxRecDepth 100000 in
theorem x0_3_11 : x0 3 11 = nI 10 := by decide +kernel
set_option maxRecDepth 100000 in
theorem x0_24_1 : x0 24 1 = nI 7 := by decide +kernel
set_option maxRecDepth 100000 in
theorem x0_27_1 : x0 27 1 = nI 5 := by decide +kernel
set_option maxRecDepth 100000 in
theorem x0_43_7 : x0 43 7 = nI 10 := by decide +kernel
set_option maxRecDepth 100000 in
theorem x0_1_1 : x0 1 1 = nI 0 := by decide +kernel
set_option maxRecDepth 100000 in
theorem x0_1_5 : x0 1 5 = -1 := by decide +kernel
set_option maxRecDepth 100000 in
theorem x0_33_2 : x0 33 2 = nI 0 := by decide +kernel
set_option maxRecDepth 100000 in
theorem x0_55_1 : x0 55 1 = nI 0 := by decide +kernel
set_option maxRecDepth 100000 in
theorem x0_73_2 : x0 73 2 = nI 0 := by decide +kernel
set_option maxRecDepth 100000 in
theorem x0_0_14 : x0 0 14 = nI 0 := by decide +kernel
set_option maxRecDepth 100000 in
theorem x0_0_15 : x0 0 15 = nI 0 := by decide +kernel
set_option maxRecDepth 100000 in
theorem x0_0_16 : x0 0 16 = nI 0 := by decide +kernel
set_option maxRecDepth 100000 in
theorem x0_137_2 : x0 137 2 = nI 0 := by decide +kernel
set_option maxRecDepth 100000 in
theorem x0_137_8 : x0 137 8 = -1 := by decide +kernel
set_option maxRecDepth 100000 in
theorem x0_137_0 : x0 137 0 = nI 0 := by decide +kernel
set_option maxRecDepth 100000 in
theorem x0_25 : ∀ i, i < 7 → x0 25 i = nI (loudL.getD i 0) := by decide +kernel
set_option maxRecDepth 100000 in
theorem x0_28 : ∀ i, i < 5 → x0 28 i = nI (fallsL.getD i 0) := by decide +kernel
theorem x2_lo {c : Nat} (h : c < 137) : x2 c = x0 c := by
  unfold x2
  rw [seX_c (by omega), se3_n (by omega) (by omega) (by omega) (by omega)]
  exact (clX_hk x0).1 c (by omega) (by omega) (by omega)
theorem getD_of {l : List Nat} {i q : Nat} (h : l[i]? = some q) : l.getD i 0 = q := by
  rw [List.getD_eq_getElem?_getD, h]
  rfl
theorem x2_RC : RC x2 a0 := by
  refine RC.fr (x := x0) ?_ (fun c _ hc => x2_lo (by omega))
  refine ⟨⟨x0_3_0, by decide, fun k _ p hp => absurd hp (Nat.not_lt_zero _), fun m _ => by rw [x0_12]; rfl, x0_3_12, x0_3_11, ⟨loudL_LW, x0_24_1, fun i q hq => ?_⟩, ⟨fallsL_LW, x0_27_1, fun i q hq => ?_⟩⟩, ⟨?_, x0_43_7, ?_⟩, ⟨x0_1_1, Nat.zero_le _, fun j _ => ⟨by rw [x0_2]; rfl, by show (0 : Nat) < 256; decide⟩, x0_1_5⟩, ⟨x0_33_2, Nat.zero_le _, fun j q hq => (by cases hq), fun j q hq => (by cases hq)⟩, ⟨x0_55_1, Nat.zero_le _, fun i hi => absurd hi (Nat.not_lt_zero _)⟩, ⟨x0_73_2, Nat.zero_le _, fun i hi => absurd hi (Nat.not_lt_zero _)⟩, x0_0_14, x0_0_15, x0_0_16⟩
  · have hi : i < 7 := (List.getElem?_eq_some_iff.mp hq).1
    rw [← getD_of hq]
    exact x0_25 i hi
  · have hi : i < 5 := (List.getElem?_eq_some_iff.mp hq).1
    rw [← getD_of hq]
    exact x0_28 i hi
  · rw [x0_44]; rfl
  · rw [x0_45]; rfl
theorem x2_7 {k : Nat} (h : k = 0 ∨ k = 2 ∨ k = 8) : x2 137 k = x0 137 k := by
  unfold x2
  rw [seX_c (by decide), se3_7 (by omega) (by omega) (by omega) (by omega) (by omega) (by omega) (by omega), clX_7 (by omega)]
theorem x2_c {c : Nat} (h : c = 138 ∨ c = 139) : x2 c = x0 c := by
  unfold x2
  rw [seX_c (by omega), se3_n (by omega) (by omega) (by omega) (by omega)]
  exact (clX_hk x0).1 c (by omega) (by omega) (by omega)
theorem x2_RR : RRf x2 a0 := by
  obtain ⟨r1, r2, r3⟩ := seX_RE (clX_DR x0)
  have e7 : x2 137 = se3 (clX x0) h0 137 := seX_c (by decide)
  refine ⟨r1, r2, r3, ⟨(x2_7 (by omega)).trans x0_137_2, Nat.zero_le _, fun j _ => ⟨by rw [x2_c (by omega), x0_139]; rfl, by show (0 : Nat) < 256; decide⟩, (x2_7 (by omega)).trans x0_137_8⟩, ⟨?_, Nat.zero_le _, fun j q hq => (by cases hq)⟩, ⟨?_, Nat.zero_le _, fun i hi => absurd hi (Nat.not_lt_zero _)⟩, ⟨?_, Nat.zero_le _, fun i hi => absurd hi (Nat.not_lt_zero _)⟩, ?_, ?_, ?_⟩
  · rw [e7]; rfl
  · rw [e7]; rfl
  · rw [e7]; rfl
  · rw [e7]; rfl
  · rw [x2_c (by omega), x0_138]; rfl
  · rw [x2_c (by omega), x0_138]; rfl
theorem c0_len : (classB 0).length = 137 := by
  unfold classB clT
  rw [List.length_set, List.length_set, List.length_set, List.length_set, List.length_set, List.length_cons, R9_14_len]
/-- the class's constructor, and the reference's behind it -/
theorem i_class : MG mX9_init 3 136 5138 [.ref 0] [.inl (9, [.inr none, .inr none, .inr none, .inr none, .inr none, .inr none, .inr none, .inr none, .inr none, .inr none, .inr none, .inr none, .inr none, .inr none, .inl 0, .inl 0, .inl 0])] (toEs (classB 0)) := i_X9 (pre := []) (by decide)
theorem i_ref : MG mX10_init 2 25 5309 [.ref 137] (classB 0 ++ [.inl (10, [.inl 0, .inr none, .inl 0, .inl 0, .inl 0, .inl 0, .inl 0, .inl 0, .inl 0, .inr none, .inr none, .inr none, .inr none, .inr none, .inl 0, .inl 0, .inl 0, .inl 0, .inl 0, .inl 0, .inl 0, .inr none, .inr none, .inr none, .inr none, .inr none, .inr none, .inl 0, .inr none, .inr none, .inr none, .inl 0, .inl 0, .inl 0, .inl 0, .inl 0, .inl 0, .inr none, .inr none, .inr none, .inr none, .inr none, .inl 0, .inr none, .inr none, .inl 0, .inr none, .inl 0, .inr none, .inl 0, .inl 0, .inr none, .inl 0])]) (fun v G H => v = none ∧ Holds G x2 H) := by
  have e : (classB 0).length + 0 = 137 := c0_len
  have w := i_X10 (pre := classB 0) (x := x0) (x1 := clX x0) (x2 := x2) (by rw [c0_len]; decide) e (fun G H _ h => by
    rw [c0_len] at h
    exact h.holds es0_ch) n_clears (n_sets (clX_DR x0))
  rw [e] at w
  exact w
