/-! THE WRAPPERS -/
def E1 (r : Except Nat Int32) : Prop := ∀ k, r = .error k → k ≠ 0
def E0 (r : Except Nat Int32) : Prop := ∀ k, r = .error k → k = 0
theorem E1.ok {v : Int32} : E1 (.ok v) := fun k h => by cases h
theorem E0.ok {v : Int32} : E0 (.ok v) := fun k h => by cases h
theorem E1.q {b : Bool} {r : Except Nat Int32} (h : E1 r) : E1 (rq b r) := fun k hk => by
  unfold rq at hk
  split at hk
  · exact h k hk
  · cases hk
    decide
theorem E0.s {n : Nat} {v : Int32} {r : Except Nat Int32} (h : E0 r) : E0 (rqS n v r) := fun k hk => by
  unfold rqS at hk
  split at hk
  · cases hk
    rfl
  · exact h k hk
theorem E1.bad : E1 (.error 1) := fun k h => by cases h; decide
theorem oHouse_E (a : AS) (v : Int32) : E1 (oHouse a v).1 := by
  unfold oHouse
  split
  · split
    · exact E1.ok
    · exact E1.ok
  · exact E1.bad
theorem oLaw_E (a : AS) (w v : Int32) : E1 (oLaw a w v).1 := by
  unfold oLaw
  split
  · split
    · split
      · exact E1.ok
      · exact E1.ok
    · exact E1.bad
  · exact E1.bad
theorem oWork_E (a : AS) (v : Int32) : E1 (oWork a v).1 := by
  unfold oWork
  split
  · split
    · exact E1.ok
    · split
      · exact E1.ok
      · exact E1.ok
  · exact E1.bad
theorem oBook_E (a : AS) (v : Int32) : E1 (oBook a v).1 := by
  unfold oBook
  split
  · split
    · exact E1.ok
    · exact E1.ok
  · exact E1.bad
/-- what a wrapper gives: the code, the answer in 'out', the class's new state -/
def WP (x : XS) (r : Except Nat Int32) (a' : AS) (c1 : Nat) : Int32 → Int64 → XS → Prop := fun cd w y => RC y a' ∧ HI x y ∧ (match r with
  | .ok v => cd = nI 0 ∧ w = v.toInt64
  | .error k => cd = nI (if k = 0 then 1 else c1))
def WPX (x : XS) (r : Except Nat Int32) (a' : AS) (c1 : Nat) (val : Int64) : Int32 → Int64 → XS → Prop := fun cd w y => RC y a' ∧ HI x y ∧ (match r with
  | .ok _ => cd = nI 0 ∧ w = val
  | .error k => cd = nI (if k = 0 then 1 else c1))
theorem WP.ok {x y : XS} {r : Except Nat Int32} {a' : AS} {c1 : Nat} {v : Int32} (h : r = .ok v) (h1 : RC y a') (h2 : HI x y) : WP x r a' c1 (nI 0) v.toInt64 y := by
  refine ⟨h1, h2, ?_⟩
  rw [h]
  exact ⟨rfl, rfl⟩
theorem WP.er {x y : XS} {r : Except Nat Int32} {a' : AS} {c1 k : Nat} {w : Int64} {cd : Int32} (h : r = .error k) (h1 : RC y a') (h2 : HI x y) (hc : cd = nI (if k = 0 then 1 else c1)) : WP x r a' c1 cd w y := by
  refine ⟨h1, h2, ?_⟩
  rw [h]
  exact hc
theorem WPX.ok {x y : XS} {r : Except Nat Int32} {a' : AS} {c1 : Nat} {v : Int32} {val : Int64} (h : r = .ok v) (h1 : RC y a') (h2 : HI x y) : WPX x r a' c1 val (nI 0) val y := by
  refine ⟨h1, h2, ?_⟩
  rw [h]
  exact ⟨rfl, rfl⟩
theorem WPX.er {x y : XS} {r : Except Nat Int32} {a' : AS} {c1 k : Nat} {w val : Int64} {cd : Int32} (h : r = .error k) (h1 : RC y a') (h2 : HI x y) (hc : cd = nI (if k = 0 then 1 else c1)) : WPX x r a' c1 val cd w y := by
  refine ⟨h1, h2, ?_⟩
  rw [h]
  exact hc
theorem oChanges_01 {a : AS} {v w : Int32} (h : oChanges a v = .ok w) : w = 0 ∨ w = 1 := by
  unfold oChanges rqS at h
  split at h
  · cases h
  · cases h
    cases (!decide (asl (minP (aE a) (eW (aE a)) rd0 (nI 0) (aR a)) (nN v) = asl (aR a) (nN v))) with
    | false => exact Or.inl rfl
    | true => exact Or.inr rfl
set_option maxRecDepth 20000 in
theorem wl_I : Cond.classLink "FirstAsleepLaw" 13 thI ∈ WS := ws_t 430 rfl rfl
set_option maxRecDepth 20000 in
theorem wl_S : Cond.classLink "FirstAsleepLaw" 31 thS ∈ WS := ws_t 841 rfl rfl

def mW_house : MD := (⟨"FirstAsleepLaw", "house", "(LFirstAsleep;I[J)I"⟩, method_3_code, 4, some .int)
def hW_house : List (Nat × Nat × Nat × Nat) := [(0, 9, 12, 13)]
set_option maxRecDepth 20000 in
theorem msw_house : MSW mW_house hW_house 3 := ⟨ws_t 0 rfl rfl, ws_t 429 rfl rfl, ws_t 428 rfl rfl, ⟨by decide, by decide, by decide +kernel⟩⟩
set_option maxHeartbeats 8000000 in
set_option maxRecDepth 20000 in
theorem w_house {a : AS} {x : XS} {w9 : Int64} {v1 : Int32} (hC : RC x a) (hA : AI a) : ML mW_house hW_house 41 1 6 [.ref 0, .int v1, .ref 200] x w9 (WP x (oHouse a v1).1 (oHouse a v1).2 1) := by
  refine ML.of (by decide) (Nat.le_of_ble_eq_true rfl) ?_
  intro p l e s m args below meth c G C
  refine l_aload_n (k9 := 2) C (by decide +kernel) rfl rfl ?_
  refine l_iconst (n := 0) (v := nI 0) C (by decide +kernel) rfl ?_
  refine l_aload_n (k9 := 0) C (by decide +kernel) rfl rfl ?_
  refine l_iload_n (k9 := 1) C (by decide +kernel) rfl rfl ?_
  refine l_callX (M' := mX9_house) (as := [.int v1]) (rest := [.int (nI 0), .ref 200]) (idx := 7) C (f_house hC hA) mv_X9_house (ws_t 431 rfl rfl) ⟨by decide, by decide⟩ ⟨by decide, by decide⟩ (by decide +kernel) rfl rfl rfl rfl (by decide) ?_ ?_
  · intro E y hp
    obtain ⟨k, hr, rfl, h1, h2⟩ := hp
    have hk : k ≠ 0 := oHouse_E a v1 k hr
    rw [if_neg hk]
    refine cat_1 (i := 3) (len := 1) C (by decide) (by decide) wl_I (Or.inl rfl) (Or.inl ⟨3, rfl, by decide +kernel, rfl⟩) (by decide) ?_
    refine l_iconst (n := 1) (v := nI 1) C (by decide +kernel) rfl ?_
    exact l_iret C rfl (by decide +kernel) ⟨by decide, by decide⟩ (WP.er hr h1 h2 (by rw [if_neg hk]))
  · intro v9 y hp
    obtain ⟨u9, hr, rfl, h1, h2⟩ := hp
    refine l_i2l C (by decide +kernel) ?_
    refine l_last C (by decide +kernel) ?_
    refine l_goto (off := 6) (tgt := 15) C (by decide +kernel) (by decide) ?_
    refine l_iconst (n := 0) (v := nI 0) C (by decide +kernel) rfl ?_
    exact l_iret C rfl (by decide +kernel) ⟨by decide, by decide⟩ (WP.ok hr h1 h2)
def mW_law : MD := (⟨"FirstAsleepLaw", "law", "(LFirstAsleep;II[J)I"⟩, method_4_code, 5, some .int)
def hW_law : List (Nat × Nat × Nat × Nat) := [(0, 10, 13, 13)]
set_option maxRecDepth 20000 in
theorem msw_law : MSW mW_law hW_law 4 := ⟨ws_t 0 rfl rfl, ws_t 627 rfl rfl, ws_t 626 rfl rfl, ⟨by decide, by decide, by decide +kernel⟩⟩
set_option maxHeartbeats 8000000 in
set_option maxRecDepth 20000 in
theorem w_law {a : AS} {x : XS} {w9 : Int64} {v1 v2 : Int32} (hC : RC x a) (hA : AI a) : ML mW_law hW_law 41 1 6 [.ref 0, .int v1, .int v2, .ref 200] x w9 (WP x (oLaw a v1 v2).1 (oLaw a v1 v2).2 1) := by
  refine ML.of (by decide) (Nat.le_of_ble_eq_true rfl) ?_
  intro p l e s m args below meth c G C
  refine l_aload_n (k9 := 3) C (by decide +kernel) rfl rfl ?_
  refine l_iconst (n := 0) (v := nI 0) C (by decide +kernel) rfl ?_
  refine l_aload_n (k9 := 0) C (by decide +kernel) rfl rfl ?_
  refine l_iload_n (k9 := 1) C (by decide +kernel) rfl rfl ?_
  refine l_iload_n (k9 := 2) C (by decide +kernel) rfl rfl ?_
  refine l_callX (M' := mX9_law) (as := [.int v1, .int v2]) (rest := [.int (nI 0), .ref 200]) (idx := 15) C (f_law hC hA) mv_X9_law (ws_t 628 rfl rfl) ⟨by decide, by decide⟩ ⟨by decide, by decide⟩ (by decide +kernel) rfl rfl rfl rfl (by decide) ?_ ?_
  · intro E y hp
    obtain ⟨k, hr, rfl, h1, h2⟩ := hp
    have hk : k ≠ 0 := oLaw_E a v1 v2 k hr
    rw [if_neg hk]
    refine cat_1 (i := 4) (len := 2) C (by decide) (by decide) wl_I (Or.inl rfl) (Or.inr ⟨by decide +kernel, rfl⟩) (by decide) ?_
    refine l_iconst (n := 1) (v := nI 1) C (by decide +kernel) rfl ?_
    exact l_iret C rfl (by decide +kernel) ⟨by decide, by decide⟩ (WP.er hr h1 h2 (by rw [if_neg hk]))
  · intro v9 y hp
    obtain ⟨u9, hr, rfl, h1, h2⟩ := hp
    refine l_i2l C (by decide +kernel) ?_
    refine l_last C (by decide +kernel) ?_
    refine l_goto (off := 7) (tgt := 17) C (by decide +kernel) (by decide) ?_
    refine l_iconst (n := 0) (v := nI 0) C (by decide +kernel) rfl ?_
    exact l_iret C rfl (by decide +kernel) ⟨by decide, by decide⟩ (WP.ok hr h1 h2)
def mW_work : MD := (⟨"FirstAsleepLaw", "work", "(LFirstAsleep;I[J)I"⟩, method_5_code, 4, some .int)
def hW_work : List (Nat × Nat × Nat × Nat) := [(0, 9, 12, 13)]
set_option maxRecDepth 20000 in
theorem msw_work : MSW mW_work hW_work 3 := ⟨ws_t 0 rfl rfl, ws_t 677 rfl rfl, ws_t 676 rfl rfl, ⟨by decide, by decide, by decide +kernel⟩⟩
set_option maxHeartbeats 8000000 in
set_option maxRecDepth 20000 in
theorem w_work {a : AS} {x : XS} {w9 : Int64} {v1 : Int32} (hC : RC x a) (hA : AI a) : ML mW_work hW_work 41 1 6 [.ref 0, .int v1, .ref 200] x w9 (WP x (oWork a v1).1 (oWork a v1).2 1) := by
  refine ML.of (by decide) (Nat.le_of_ble_eq_true rfl) ?_
  intro p l e s m args below meth c G C
  refine l_aload_n (k9 := 2) C (by decide +kernel) rfl rfl ?_
  refine l_iconst (n := 0) (v := nI 0) C (by decide +kernel) rfl ?_
  refine l_aload_n (k9 := 0) C (by decide +kernel) rfl rfl ?_
  refine l_iload_n (k9 := 1) C (by decide +kernel) rfl rfl ?_
  refine l_callX (M' := mX9_work) (as := [.int v1]) (rest := [.int (nI 0), .ref 200]) (idx := 19) C (f_work hC hA) mv_X9_work (ws_t 678 rfl rfl) ⟨by decide, by decide⟩ ⟨by decide, by decide⟩ (by decide +kernel) rfl rfl rfl rfl (by decide) ?_ ?_
  · intro E y hp
    obtain ⟨k, hr, rfl, h1, h2⟩ := hp
    have hk : k ≠ 0 := oWork_E a v1 k hr
    rw [if_neg hk]
    refine cat_1 (i := 3) (len := 1) C (by decide) (by decide) wl_I (Or.inl rfl) (Or.inl ⟨3, rfl, by decide +kernel, rfl⟩) (by decide) ?_
    refine l_iconst (n := 1) (v := nI 1) C (by decide +kernel) rfl ?_
    exact l_iret C rfl (by decide +kernel) ⟨by decide, by decide⟩ (WP.er hr h1 h2 (by rw [if_neg hk]))
  · intro v9 y hp
    obtain ⟨u9, hr, rfl, h1, h2⟩ := hp
    refine l_i2l C (by decide +kernel) ?_
    refine l_last C (by decide +kernel) ?_
    refine l_goto (off := 6) (tgt := 15) C (by decide +kernel) (by decide) ?_
    refine l_iconst (n := 0) (v := nI 0) C (by decide +kernel) rfl ?_
    exact l_iret C rfl (by decide +kernel) ⟨by decide, by decide⟩ (WP.ok hr h1 h2)
def mW_book : MD := (⟨"FirstAsleepLaw", "book", "(LFirstAsleep;I[J)I"⟩, method_6_code, 4, some .int)
def hW_book : List (Nat × Nat × Nat × Nat) := [(0, 9, 12, 13)]
set_option maxRecDepth 20000 in
theorem msw_book : MSW mW_book hW_book 3 := ⟨ws_t 0 rfl rfl, ws_t 802 rfl rfl, ws_t 801 rfl rfl, ⟨by decide, by decide, by decide +kernel⟩⟩
set_option maxHeartbeats 8000000 in
set_option maxRecDepth 20000 in
theorem w_book {a : AS} {x : XS} {w9 : Int64} {v1 : Int32} (hC : RC x a) (hA : AI a) : ML mW_book hW_book 41 1 6 [.ref 0, .int v1, .ref 200] x w9 (WP x (oBook a v1).1 (oBook a v1).2 1) := by
  refine ML.of (by decide) (Nat.le_of_ble_eq_true rfl) ?_
  intro p l e s m args below meth c G C
  refine l_aload_n (k9 := 2) C (by decide +kernel) rfl rfl ?_
  refine l_iconst (n := 0) (v := nI 0) C (by decide +kernel) rfl ?_
  refine l_aload_n (k9 := 0) C (by decide +kernel) rfl rfl ?_
  refine l_iload_n (k9 := 1) C (by decide +kernel) rfl rfl ?_
  refine l_callX (M' := mX9_book) (as := [.int v1]) (rest := [.int (nI 0), .ref 200]) (idx := 22) C (f_book hC hA) mv_X9_book (ws_t 803 rfl rfl) ⟨by decide, by decide⟩ ⟨by decide, by decide⟩ (by decide +kernel) rfl rfl rfl rfl (by decide) ?_ ?_
  · intro E y hp
    obtain ⟨k, hr, rfl, h1, h2⟩ := hp
    have hk : k ≠ 0 := oBook_E a v1 k hr
    rw [if_neg hk]
    refine cat_1 (i := 3) (len := 1) C (by decide) (by decide) wl_I (Or.inl rfl) (Or.inl ⟨3, rfl, by decide +kernel, rfl⟩) (by decide) ?_
    refine l_iconst (n := 1) (v := nI 1) C (by decide +kernel) rfl ?_
    exact l_iret C rfl (by decide +kernel) ⟨by decide, by decide⟩ (WP.er hr h1 h2 (by rw [if_neg hk]))
  · intro v9 y hp
    obtain ⟨u9, hr, rfl, h1, h2⟩ := hp
    refine l_i2l C (by decide +kernel) ?_
    refine l_last C (by decide +kernel) ?_
    refine l_goto (off := 6) (tgt := 15) C (by decide +kernel) (by decide) ?_
    refine l_iconst (n := 0) (v := nI 0) C (by decide +kernel) rfl ?_
    exact l_iret C rfl (by decide +kernel) ⟨by decide, by decide⟩ (WP.ok hr h1 h2)
def mW_told : MD := (⟨"FirstAsleepLaw", "told", "(LFirstAsleep;I[J)I"⟩, method_7_code, 4, some .int)
def hW_told : List (Nat × Nat × Nat × Nat) := [(0, 9, 12, 13)]
set_option maxRecDepth 20000 in
theorem msw_told : MSW mW_told hW_told 3 := ⟨ws_t 0 rfl rfl, ws_t 825 rfl rfl, ws_t 824 rfl rfl, ⟨by decide, by decide, by decide +kernel⟩⟩
set_option maxHeartbeats 8000000 in
set_option maxRecDepth 20000 in
theorem w_told {a : AS} {x : XS} {w9 : Int64} {v1 : Int32} (hC : RC x a) (hA : AI a) : ML mW_told hW_told 41 1 6 [.ref 0, .int v1, .ref 200] x w9 (WP x (oTold a v1) (bmp a (oTold a v1)) 1) := by
  refine ML.of (by decide) (Nat.le_of_ble_eq_true rfl) ?_
  intro p l e s m args below meth c G C
  refine l_aload_n (k9 := 2) C (by decide +kernel) rfl rfl ?_
  refine l_iconst (n := 0) (v := nI 0) C (by decide +kernel) rfl ?_
  refine l_aload_n (k9 := 0) C (by decide +kernel) rfl rfl ?_
  refine l_iload_n (k9 := 1) C (by decide +kernel) rfl rfl ?_
  refine l_callX (M' := mX9_told) (as := [.int v1]) (rest := [.int (nI 0), .ref 200]) (idx := 25) C (f_told hC hA) mv_X9_told (ws_t 826 rfl rfl) ⟨by decide, by decide⟩ ⟨by decide, by decide⟩ (by decide +kernel) rfl rfl rfl rfl (by decide) ?_ ?_
  · intro E y hp
    obtain ⟨k, hr, rfl, h1, h2⟩ := hp
    have hk : k ≠ 0 := by
      have h9 : E1 (oTold a v1) := by
        unfold oTold
        repeat (first | exact E1.ok | apply E1.q)
      exact h9 k hr
    rw [if_neg hk]
    refine cat_1 (i := 3) (len := 1) C (by decide) (by decide) wl_I (Or.inl rfl) (Or.inl ⟨3, rfl, by decide +kernel, rfl⟩) (by decide) ?_
    refine l_iconst (n := 1) (v := nI 1) C (by decide +kernel) rfl ?_
    exact l_iret C rfl (by decide +kernel) ⟨by decide, by decide⟩ (WP.er hr h1 h2 (by rw [if_neg hk]))
  · intro v9 y hp
    obtain ⟨u9, hr, rfl, h1, h2⟩ := hp
    refine l_i2l C (by decide +kernel) ?_
    refine l_last C (by decide +kernel) ?_
    refine l_goto (off := 6) (tgt := 15) C (by decide +kernel) (by decide) ?_
    refine l_iconst (n := 0) (v := nI 0) C (by decide +kernel) rfl ?_
    exact l_iret C rfl (by decide +kernel) ⟨by decide, by decide⟩ (WP.ok hr h1 h2)
def mW_sleeper : MD := (⟨"FirstAsleepLaw", "sleeper", "(LFirstAsleep;II[J)I"⟩, method_8_code, 5, some .int)
def hW_sleeper : List (Nat × Nat × Nat × Nat) := [(0, 10, 13, 31), (0, 10, 17, 13)]
set_option maxRecDepth 20000 in
theorem msw_sleeper : MSW mW_sleeper hW_sleeper 4 := ⟨ws_t 0 rfl rfl, ws_t 840 rfl rfl, ws_t 839 rfl rfl, ⟨by decide, by decide, by decide +kernel⟩⟩
set_option maxHeartbeats 8000000 in
set_option maxRecDepth 20000 in
theorem w_sleeper {a : AS} {x : XS} {w9 : Int64} {v1 v2 : Int32} (hC : RC x a) (hA : AI a) : ML mW_sleeper hW_sleeper 41 1 6 [.ref 0, .int v1, .int v2, .ref 200] x w9 (WP x (oSleeper a v1 v2) (bmp a (oSleeper a v1 v2)) 2) := by
  refine ML.of (by decide) (Nat.le_of_ble_eq_true rfl) ?_
  intro p l e s m args below meth c G C
  refine l_aload_n (k9 := 3) C (by decide +kernel) rfl rfl ?_
  refine l_iconst (n := 0) (v := nI 0) C (by decide +kernel) rfl ?_
  refine l_aload_n (k9 := 0) C (by decide +kernel) rfl rfl ?_
  refine l_iload_n (k9 := 1) C (by decide +kernel) rfl rfl ?_
  refine l_iload_n (k9 := 2) C (by decide +kernel) rfl rfl ?_
  refine l_callX (M' := mX9_sleeper) (as := [.int v1, .int v2]) (rest := [.int (nI 0), .ref 200]) (idx := 28) C (f_sleeper hC hA) mv_X9_sleeper (ws_t 842 rfl rfl) ⟨by decide, by decide⟩ ⟨by decide, by decide⟩ (by decide +kernel) rfl rfl rfl rfl (by decide) ?_ ?_
  · intro E y hp
    obtain ⟨k, hr, rfl, h1, h2⟩ := hp
    by_cases hk : k = 0
    · rw [if_pos hk]
      refine cat_1 (i := 4) (len := 2) C (by decide) (by decide) wl_S (Or.inr rfl) (Or.inr ⟨by decide +kernel, rfl⟩) (by decide) ?_
      refine l_iconst (n := 1) (v := nI 1) C (by decide +kernel) rfl ?_
      exact l_iret C rfl (by decide +kernel) ⟨by decide, by decide⟩ (WP.er hr h1 h2 (by rw [if_pos hk]))
    · rw [if_neg hk]
      refine cat_2 (i := 4) (len := 2) C (by decide) wl_S (by decide) (by decide) wl_I (Or.inr ⟨by decide +kernel, rfl⟩) (by decide) ?_
      refine l_iconst (n := 2) (v := nI 2) C (by decide +kernel) rfl ?_
      exact l_iret C rfl (by decide +kernel) ⟨by decide, by decide⟩ (WP.er hr h1 h2 (by rw [if_neg hk]))
  · intro v9 y hp
    obtain ⟨u9, hr, rfl, h1, h2⟩ := hp
    refine l_i2l C (by decide +kernel) ?_
    refine l_last C (by decide +kernel) ?_
    refine l_goto (off := 11) (tgt := 21) C (by decide +kernel) (by decide) ?_
    refine l_iconst (n := 0) (v := nI 0) C (by decide +kernel) rfl ?_
    exact l_iret C rfl (by decide +kernel) ⟨by decide, by decide⟩ (WP.ok hr h1 h2)
def mW_noise : MD := (⟨"FirstAsleepLaw", "noise", "(LFirstAsleep;I[J)I"⟩, method_9_code, 4, some .int)
def hW_noise : List (Nat × Nat × Nat × Nat) := [(0, 9, 12, 31)]
set_option maxRecDepth 20000 in
theorem msw_noise : MSW mW_noise hW_noise 3 := ⟨ws_t 0 rfl rfl, ws_t 868 rfl rfl, ws_t 867 rfl rfl, ⟨by decide, by decide, by decide +kernel⟩⟩
set_option maxHeartbeats 8000000 in
set_option maxRecDepth 20000 in
theorem w_noise {a : AS} {x : XS} {w9 : Int64} {v1 : Int32} (hC : RC x a) (hA : AI a) : ML mW_noise hW_noise 41 1 6 [.ref 0, .int v1, .ref 200] x w9 (WP x (oNoise a v1) (bmp a (oNoise a v1)) 1) := by
  refine ML.of (by decide) (Nat.le_of_ble_eq_true rfl) ?_
  intro p l e s m args below meth c G C
  refine l_aload_n (k9 := 2) C (by decide +kernel) rfl rfl ?_
  refine l_iconst (n := 0) (v := nI 0) C (by decide +kernel) rfl ?_
  refine l_aload_n (k9 := 0) C (by decide +kernel) rfl rfl ?_
  refine l_iload_n (k9 := 1) C (by decide +kernel) rfl rfl ?_
  refine l_callX (M' := mX9_noise) (as := [.int v1]) (rest := [.int (nI 0), .ref 200]) (idx := 33) C (f_noise hC hA) mv_X9_noise (ws_t 869 rfl rfl) ⟨by decide, by decide⟩ ⟨by decide, by decide⟩ (by decide +kernel) rfl rfl rfl rfl (by decide) ?_ ?_
  · intro E y hp
    obtain ⟨k, hr, rfl, h1, h2⟩ := hp
    have hk : k = 0 := by
      have h9 : E0 (oNoise a v1) := by
        unfold oNoise
        exact E0.s E0.ok
      exact h9 k hr
    rw [if_pos hk]
    refine cat_1 (i := 3) (len := 1) C (by decide) (by decide) wl_S (Or.inr rfl) (Or.inl ⟨3, rfl, by decide +kernel, rfl⟩) (by decide) ?_
    refine l_iconst (n := 1) (v := nI 1) C (by decide +kernel) rfl ?_
    exact l_iret C rfl (by decide +kernel) ⟨by decide, by decide⟩ (WP.er hr h1 h2 (by rw [if_pos hk]))
  · intro v9 y hp
    obtain ⟨u9, hr, rfl, h1, h2⟩ := hp
    refine l_i2l C (by decide +kernel) ?_
    refine l_last C (by decide +kernel) ?_
    refine l_goto (off := 6) (tgt := 15) C (by decide +kernel) (by decide) ?_
    refine l_iconst (n := 0) (v := nI 0) C (by decide +kernel) rfl ?_
    exact l_iret C rfl (by decide +kernel) ⟨by decide, by decide⟩ (WP.ok hr h1 h2)
def mW_loud : MD := (⟨"FirstAsleepLaw", "loud", "(LFirstAsleep;I[J)I"⟩, method_10_code, 4, some .int)
def hW_loud : List (Nat × Nat × Nat × Nat) := [(0, 9, 12, 31)]
set_option maxRecDepth 20000 in
theorem msw_loud : MSW mW_loud hW_loud 3 := ⟨ws_t 0 rfl rfl, ws_t 885 rfl rfl, ws_t 884 rfl rfl, ⟨by decide, by decide, by decide +kernel⟩⟩
set_option maxHeartbeats 8000000 in
set_option maxRecDepth 20000 in
theorem w_loud {a : AS} {x : XS} {w9 : Int64} {v1 : Int32} (hC : RC x a) (hA : AI a) : ML mW_loud hW_loud 41 1 6 [.ref 0, .int v1, .ref 200] x w9 (WP x (oLoud a v1) (bmp a (oLoud a v1)) 1) := by
  refine ML.of (by decide) (Nat.le_of_ble_eq_true rfl) ?_
  intro p l e s m args below meth c G C
  refine l_aload_n (k9 := 2) C (by decide +kernel) rfl rfl ?_
  refine l_iconst (n := 0) (v := nI 0) C (by decide +kernel) rfl ?_
  refine l_aload_n (k9 := 0) C (by decide +kernel) rfl rfl ?_
  refine l_iload_n (k9 := 1) C (by decide +kernel) rfl rfl ?_
  refine l_callX (M' := mX9_loud) (as := [.int v1]) (rest := [.int (nI 0), .ref 200]) (idx := 36) C (f_loud hC hA) mv_X9_loud (ws_t 886 rfl rfl) ⟨by decide, by decide⟩ ⟨by decide, by decide⟩ (by decide +kernel) rfl rfl rfl rfl (by decide) ?_ ?_
  · intro E y hp
    obtain ⟨k, hr, rfl, h1, h2⟩ := hp
    have hk : k = 0 := by
      have h9 : E0 (oLoud a v1) := by
        unfold oLoud
        exact E0.s E0.ok
      exact h9 k hr
    rw [if_pos hk]
    refine cat_1 (i := 3) (len := 1) C (by decide) (by decide) wl_S (Or.inr rfl) (Or.inl ⟨3, rfl, by decide +kernel, rfl⟩) (by decide) ?_
    refine l_iconst (n := 1) (v := nI 1) C (by decide +kernel) rfl ?_
    exact l_iret C rfl (by decide +kernel) ⟨by decide, by decide⟩ (WP.er hr h1 h2 (by rw [if_pos hk]))
  · intro v9 y hp
    obtain ⟨u9, hr, rfl, h1, h2⟩ := hp
    refine l_i2l C (by decide +kernel) ?_
    refine l_last C (by decide +kernel) ?_
    refine l_goto (off := 6) (tgt := 15) C (by decide +kernel) (by decide) ?_
    refine l_iconst (n := 0) (v := nI 0) C (by decide +kernel) rfl ?_
    exact l_iret C rfl (by decide +kernel) ⟨by decide, by decide⟩ (WP.ok hr h1 h2)
def mW_would : MD := (⟨"FirstAsleepLaw", "would", "(LFirstAsleep;IIIII[J)I"⟩, method_11_code, 8, some .int)
def hW_would : List (Nat × Nat × Nat × Nat) := [(0, 16, 19, 13)]
set_option maxRecDepth 20000 in
theorem msw_would : MSW mW_would hW_would 7 := ⟨ws_t 0 rfl rfl, ws_t 893 rfl rfl, ws_t 892 rfl rfl, ⟨by decide, by decide, by decide +kernel⟩⟩
set_option maxHeartbeats 8000000 in
set_option maxRecDepth 20000 in
theorem w_would {a : AS} {x : XS} {w9 : Int64} {v1 v2 v3 v4 v5 : Int32} (hC : RC x a) (hA : AI a) : ML mW_would hW_would 41 1 6 [.ref 0, .int v1, .int v2, .int v3, .int v4, .int v5, .ref 200] x w9 (WP x (oWould a v1 v2 v3 v4 v5) (bmp a (oWould a v1 v2 v3 v4 v5)) 1) := by
  refine ML.of (by decide) (Nat.le_of_ble_eq_true rfl) ?_
  intro p l e s m args below meth c G C
  refine l_aload (i := 6) C (by decide +kernel) rfl ?_
  refine l_iconst (n := 0) (v := nI 0) C (by decide +kernel) rfl ?_
  refine l_aload_n (k9 := 0) C (by decide +kernel) rfl rfl ?_
  refine l_iload_n (k9 := 1) C (by decide +kernel) rfl rfl ?_
  refine l_iload_n (k9 := 2) C (by decide +kernel) rfl rfl ?_
  refine l_iload_n (k9 := 3) C (by decide +kernel) rfl rfl ?_
  refine l_iload (i := 4) C (by decide +kernel) rfl ?_
  refine l_iload (i := 5) C (by decide +kernel) rfl ?_
  refine l_callX (M' := mX9_would) (as := [.int v1, .int v2, .int v3, .int v4, .int v5]) (rest := [.int (nI 0), .ref 200]) (idx := 39) C (f_would hC hA) mv_X9_would (ws_t 894 rfl rfl) ⟨by decide, by decide⟩ ⟨by decide, by decide⟩ (by decide +kernel) rfl rfl rfl rfl (by decide) ?_ ?_
  · intro E y hp
    obtain ⟨k, hr, rfl, h1, h2⟩ := hp
    have hk : k ≠ 0 := by
      have h9 : E1 (oWould a v1 v2 v3 v4 v5) := by
        unfold oWould
        repeat (first | exact E1.ok | apply E1.q)
      exact h9 k hr
    rw [if_neg hk]
    refine cat_1 (i := 7) (len := 2) C (by decide) (by decide) wl_I (Or.inl rfl) (Or.inr ⟨by decide +kernel, rfl⟩) (by decide) ?_
    refine l_iconst (n := 1) (v := nI 1) C (by decide +kernel) rfl ?_
    exact l_iret C rfl (by decide +kernel) ⟨by decide, by decide⟩ (WP.er hr h1 h2 (by rw [if_neg hk]))
  · intro v9 y hp
    obtain ⟨u9, hr, rfl, h1, h2⟩ := hp
    refine l_i2l C (by decide +kernel) ?_
    refine l_last C (by decide +kernel) ?_
    refine l_goto (off := 7) (tgt := 23) C (by decide +kernel) (by decide) ?_
    refine l_iconst (n := 0) (v := nI 0) C (by decide +kernel) rfl ?_
    exact l_iret C rfl (by decide +kernel) ⟨by decide, by decide⟩ (WP.ok hr h1 h2)
def mW_clock : MD := (⟨"FirstAsleepLaw", "clock", "(LFirstAsleep;I[J)I"⟩, method_12_code, 4, some .int)
def hW_clock : List (Nat × Nat × Nat × Nat) := [(0, 9, 12, 13)]
set_option maxRecDepth 20000 in
theorem msw_clock : MSW mW_clock hW_clock 3 := ⟨ws_t 0 rfl rfl, ws_t 904 rfl rfl, ws_t 903 rfl rfl, ⟨by decide, by decide, by decide +kernel⟩⟩
set_option maxHeartbeats 8000000 in
set_option maxRecDepth 20000 in
theorem w_clock {a : AS} {x : XS} {w9 : Int64} {v1 : Int32} (hC : RC x a) (hA : AI a) : ML mW_clock hW_clock 41 1 6 [.ref 0, .int v1, .ref 200] x w9 (WP x (oClock a v1) (bmp a (oClock a v1)) 1) := by
  refine ML.of (by decide) (Nat.le_of_ble_eq_true rfl) ?_
  intro p l e s m args below meth c G C
  refine l_aload_n (k9 := 2) C (by decide +kernel) rfl rfl ?_
  refine l_iconst (n := 0) (v := nI 0) C (by decide +kernel) rfl ?_
  refine l_aload_n (k9 := 0) C (by decide +kernel) rfl rfl ?_
  refine l_iload_n (k9 := 1) C (by decide +kernel) rfl rfl ?_
  refine l_callX (M' := mX9_clock) (as := [.int v1]) (rest := [.int (nI 0), .ref 200]) (idx := 43) C (f_clock hC hA) mv_X9_clock (ws_t 905 rfl rfl) ⟨by decide, by decide⟩ ⟨by decide, by decide⟩ (by decide +kernel) rfl rfl rfl rfl (by decide) ?_ ?_
  · intro E y hp
    obtain ⟨k, hr, rfl, h1, h2⟩ := hp
    have hk : k ≠ 0 := by
      have h9 : E1 (oClock a v1) := by
        unfold oClock
        repeat (first | exact E1.ok | apply E1.q)
      exact h9 k hr
    rw [if_neg hk]
    refine cat_1 (i := 3) (len := 1) C (by decide) (by decide) wl_I (Or.inl rfl) (Or.inl ⟨3, rfl, by decide +kernel, rfl⟩) (by decide) ?_
    refine l_iconst (n := 1) (v := nI 1) C (by decide +kernel) rfl ?_
    exact l_iret C rfl (by decide +kernel) ⟨by decide, by decide⟩ (WP.er hr h1 h2 (by rw [if_neg hk]))
  · intro v9 y hp
    obtain ⟨u9, hr, rfl, h1, h2⟩ := hp
    refine l_i2l C (by decide +kernel) ?_
    refine l_last C (by decide +kernel) ?_
    refine l_goto (off := 6) (tgt := 15) C (by decide +kernel) (by decide) ?_
    refine l_iconst (n := 0) (v := nI 0) C (by decide +kernel) rfl ?_
    exact l_iret C rfl (by decide +kernel) ⟨by decide, by decide⟩ (WP.ok hr h1 h2)
def mW_changes : MD := (⟨"FirstAsleepLaw", "changes", "(LFirstAsleep;I[J)I"⟩, method_13_code, 4, some .int)
def hW_changes : List (Nat × Nat × Nat × Nat) := [(0, 16, 19, 31)]
set_option maxRecDepth 20000 in
theorem msw_changes : MSW mW_changes hW_changes 3 := ⟨ws_t 0 rfl rfl, ws_t 912 rfl rfl, ws_t 911 rfl rfl, ⟨by decide, by decide, by decide +kernel⟩⟩
set_option maxHeartbeats 8000000 in
set_option maxRecDepth 20000 in
theorem w_changes {a : AS} {x : XS} {w9 : Int64} {v1 : Int32} (hC : RC x a) (hA : AI a) : ML mW_changes hW_changes 41 1 6 [.ref 0, .int v1, .ref 200] x w9 (WP x (oChanges a v1) (bmp a (oChanges a v1)) 1) := by
  refine ML.of (by decide) (Nat.le_of_ble_eq_true rfl) ?_
  intro p l e s m args below meth c G C
  refine l_aload_n (k9 := 2) C (by decide +kernel) rfl rfl ?_
  refine l_iconst (n := 0) (v := nI 0) C (by decide +kernel) rfl ?_
  refine l_aload_n (k9 := 0) C (by decide +kernel) rfl rfl ?_
  refine l_iload_n (k9 := 1) C (by decide +kernel) rfl rfl ?_
  refine l_callX (M' := mX9_changes) (as := [.int v1]) (rest := [.int (nI 0), .ref 200]) (idx := 46) C (f_changes hC hA) mv_X9_changes (ws_t 913 rfl rfl) ⟨by decide, by decide⟩ ⟨by decide, by decide⟩ (by decide +kernel) rfl rfl rfl rfl (by decide) ?_ ?_
  · intro E y hp
    obtain ⟨k, hr, rfl, h1, h2⟩ := hp
    have hk : k = 0 := by
      have h9 : E0 (oChanges a v1) := by
        unfold oChanges
        exact E0.s E0.ok
      exact h9 k hr
    rw [if_pos hk]
    refine cat_1 (i := 3) (len := 1) C (by decide) (by decide) wl_S (Or.inr rfl) (Or.inl ⟨3, rfl, by decide +kernel, rfl⟩) (by decide) ?_
    refine l_iconst (n := 1) (v := nI 1) C (by decide +kernel) rfl ?_
    exact l_iret C rfl (by decide +kernel) ⟨by decide, by decide⟩ (WP.er hr h1 h2 (by rw [if_pos hk]))
  · intro v9 y hp
    obtain ⟨u9, hr, rfl, h1, h2⟩ := hp
    refine l_if_eq (off := 7) (tgt := 14) C (by decide +kernel) (by decide) (fun h0 => ?_) (fun h0 => ?_)
    · subst h0
      refine l_lconst (n := 0) (v := (0 : Int32).toInt64) C (by decide +kernel) (by decide) ?_
      refine l_last C (by decide +kernel) ?_
      refine l_goto (off := 6) (tgt := 22) C (by decide +kernel) (by decide) ?_
      refine l_iconst (n := 0) (v := nI 0) C (by decide +kernel) rfl ?_
      exact l_iret C rfl (by decide +kernel) ⟨by decide, by decide⟩ (WP.ok hr h1 h2)
    · have hu : u9 = 1 := (oChanges_01 hr).resolve_left h0
      subst hu
      refine l_lconst (n := 1) (v := (1 : Int32).toInt64) C (by decide +kernel) (by decide) ?_
      refine l_goto (off := 4) (tgt := 15) C (by decide +kernel) (by decide) ?_
      refine l_last C (by decide +kernel) ?_
      refine l_goto (off := 6) (tgt := 22) C (by decide +kernel) (by decide) ?_
      refine l_iconst (n := 0) (v := nI 0) C (by decide +kernel) rfl ?_
      exact l_iret C rfl (by decide +kernel) ⟨by decide, by decide⟩ (WP.ok hr h1 h2)
def mW_loudest : MD := (⟨"FirstAsleepLaw", "loudest", "(LFirstAsleep;I[J)I"⟩, method_14_code, 4, some .int)
def hW_loudest : List (Nat × Nat × Nat × Nat) := [(0, 9, 12, 31)]
set_option maxRecDepth 20000 in
theorem msw_loudest : MSW mW_loudest hW_loudest 3 := ⟨ws_t 0 rfl rfl, ws_t 921 rfl rfl, ws_t 920 rfl rfl, ⟨by decide, by decide, by decide +kernel⟩⟩
set_option maxHeartbeats 8000000 in
set_option maxRecDepth 20000 in
theorem w_loudest {a : AS} {x : XS} {w9 : Int64} {v1 : Int32} (hC : RC x a) (hA : AI a) : ML mW_loudest hW_loudest 41 1 6 [.ref 0, .int v1, .ref 200] x w9 (WP x (oLoudest a v1) (bmp a (oLoudest a v1)) 1) := by
  refine ML.of (by decide) (Nat.le_of_ble_eq_true rfl) ?_
  intro p l e s m args below meth c G C
  refine l_aload_n (k9 := 2) C (by decide +kernel) rfl rfl ?_
  refine l_iconst (n := 0) (v := nI 0) C (by decide +kernel) rfl ?_
  refine l_aload_n (k9 := 0) C (by decide +kernel) rfl rfl ?_
  refine l_iload_n (k9 := 1) C (by decide +kernel) rfl rfl ?_
  refine l_callX (M' := mX9_loudest) (as := [.int v1]) (rest := [.int (nI 0), .ref 200]) (idx := 50) C (f_loudest hC hA) mv_X9_loudest (ws_t 922 rfl rfl) ⟨by decide, by decide⟩ ⟨by decide, by decide⟩ (by decide +kernel) rfl rfl rfl rfl (by decide) ?_ ?_
  · intro E y hp
    obtain ⟨k, hr, rfl, h1, h2⟩ := hp
    have hk : k = 0 := by
      have h9 : E0 (oLoudest a v1) := by
        unfold oLoudest
        exact E0.s E0.ok
      exact h9 k hr
    rw [if_pos hk]
    refine cat_1 (i := 3) (len := 1) C (by decide) (by decide) wl_S (Or.inr rfl) (Or.inl ⟨3, rfl, by decide +kernel, rfl⟩) (by decide) ?_
    refine l_iconst (n := 1) (v := nI 1) C (by decide +kernel) rfl ?_
    exact l_iret C rfl (by decide +kernel) ⟨by decide, by decide⟩ (WP.er hr h1 h2 (by rw [if_pos hk]))
  · intro v9 y hp
    obtain ⟨u9, hr, rfl, h1, h2⟩ := hp
    refine l_i2l C (by decide +kernel) ?_
    refine l_last C (by decide +kernel) ?_
    refine l_goto (off := 6) (tgt := 15) C (by decide +kernel) (by decide) ?_
    refine l_iconst (n := 0) (v := nI 0) C (by decide +kernel) rfl ?_
    exact l_iret C rfl (by decide +kernel) ⟨by decide, by decide⟩ (WP.ok hr h1 h2)
def mW_soon : MD := (⟨"FirstAsleepLaw", "soon", "(LFirstAsleep;I[J)I"⟩, method_15_code, 4, some .int)
def hW_soon : List (Nat × Nat × Nat × Nat) := [(0, 9, 12, 31)]
set_option maxRecDepth 20000 in
theorem msw_soon : MSW mW_soon hW_soon 3 := ⟨ws_t 0 rfl rfl, ws_t 929 rfl rfl, ws_t 928 rfl rfl, ⟨by decide, by decide, by decide +kernel⟩⟩
set_option maxHeartbeats 8000000 in
set_option maxRecDepth 20000 in
theorem w_soon {a : AS} {x : XS} {w9 : Int64} {v1 : Int32} (hC : RC x a) (hA : AI a) : ML mW_soon hW_soon 41 1 6 [.ref 0, .int v1, .ref 200] x w9 (WP x (oSoon a v1) (bmp a (oSoon a v1)) 1) := by
  refine ML.of (by decide) (Nat.le_of_ble_eq_true rfl) ?_
  intro p l e s m args below meth c G C
  refine l_aload_n (k9 := 2) C (by decide +kernel) rfl rfl ?_
  refine l_iconst (n := 0) (v := nI 0) C (by decide +kernel) rfl ?_
  refine l_aload_n (k9 := 0) C (by decide +kernel) rfl rfl ?_
  refine l_iload_n (k9 := 1) C (by decide +kernel) rfl rfl ?_
  refine l_callX (M' := mX9_soon) (as := [.int v1]) (rest := [.int (nI 0), .ref 200]) (idx := 53) C (f_soon hC hA) mv_X9_soon (ws_t 930 rfl rfl) ⟨by decide, by decide⟩ ⟨by decide, by decide⟩ (by decide +kernel) rfl rfl rfl rfl (by decide) ?_ ?_
  · intro E y hp
    obtain ⟨k, hr, rfl, h1, h2⟩ := hp
    have hk : k = 0 := by
      have h9 : E0 (oSoon a v1) := by
        unfold oSoon
        exact E0.s E0.ok
      exact h9 k hr
    rw [if_pos hk]
    refine cat_1 (i := 3) (len := 1) C (by decide) (by decide) wl_S (Or.inr rfl) (Or.inl ⟨3, rfl, by decide +kernel, rfl⟩) (by decide) ?_
    refine l_iconst (n := 1) (v := nI 1) C (by decide +kernel) rfl ?_
    exact l_iret C rfl (by decide +kernel) ⟨by decide, by decide⟩ (WP.er hr h1 h2 (by rw [if_pos hk]))
  · intro v9 y hp
    obtain ⟨u9, hr, rfl, h1, h2⟩ := hp
    refine l_i2l C (by decide +kernel) ?_
    refine l_last C (by decide +kernel) ?_
    refine l_goto (off := 6) (tgt := 15) C (by decide +kernel) (by decide) ?_
    refine l_iconst (n := 0) (v := nI 0) C (by decide +kernel) rfl ?_
    exact l_iret C rfl (by decide +kernel) ⟨by decide, by decide⟩ (WP.ok hr h1 h2)
def mW_slept : MD := (⟨"FirstAsleepLaw", "slept", "(LFirstAsleep;I[J)I"⟩, method_16_code, 4, some .int)
def hW_slept : List (Nat × Nat × Nat × Nat) := [(0, 9, 12, 13)]
set_option maxRecDepth 20000 in
theorem msw_slept : MSW mW_slept hW_slept 3 := ⟨ws_t 0 rfl rfl, ws_t 936 rfl rfl, ws_t 935 rfl rfl, ⟨by decide, by decide, by decide +kernel⟩⟩
set_option maxHeartbeats 8000000 in
set_option maxRecDepth 20000 in
theorem w_slept {a : AS} {x : XS} {w9 : Int64} {v1 : Int32} (hC : RC x a) (hA : AI a) : ML mW_slept hW_slept 41 1 6 [.ref 0, .int v1, .ref 200] x w9 (WP x (oSlept a v1) (bmp a (oSlept a v1)) 1) := by
  refine ML.of (by decide) (Nat.le_of_ble_eq_true rfl) ?_
  intro p l e s m args below meth c G C
  refine l_aload_n (k9 := 2) C (by decide +kernel) rfl rfl ?_
  refine l_iconst (n := 0) (v := nI 0) C (by decide +kernel) rfl ?_
  refine l_aload_n (k9 := 0) C (by decide +kernel) rfl rfl ?_
  refine l_iload_n (k9 := 1) C (by decide +kernel) rfl rfl ?_
  refine l_callX (M' := mX9_slept) (as := [.int v1]) (rest := [.int (nI 0), .ref 200]) (idx := 56) C (f_slept hC hA) mv_X9_slept (ws_t 937 rfl rfl) ⟨by decide, by decide⟩ ⟨by decide, by decide⟩ (by decide +kernel) rfl rfl rfl rfl (by decide) ?_ ?_
  · intro E y hp
    obtain ⟨k, hr, rfl, h1, h2⟩ := hp
    have hk : k ≠ 0 := by
      have h9 : E1 (oSlept a v1) := by
        unfold oSlept
        repeat (first | exact E1.ok | apply E1.q)
      exact h9 k hr
    rw [if_neg hk]
    refine cat_1 (i := 3) (len := 1) C (by decide) (by decide) wl_I (Or.inl rfl) (Or.inl ⟨3, rfl, by decide +kernel, rfl⟩) (by decide) ?_
    refine l_iconst (n := 1) (v := nI 1) C (by decide +kernel) rfl ?_
    exact l_iret C rfl (by decide +kernel) ⟨by decide, by decide⟩ (WP.er hr h1 h2 (by rw [if_neg hk]))
  · intro v9 y hp
    obtain ⟨u9, hr, rfl, h1, h2⟩ := hp
    refine l_i2l C (by decide +kernel) ?_
    refine l_last C (by decide +kernel) ?_
    refine l_goto (off := 6) (tgt := 15) C (by decide +kernel) (by decide) ?_
    refine l_iconst (n := 0) (v := nI 0) C (by decide +kernel) rfl ?_
    exact l_iret C rfl (by decide +kernel) ⟨by decide, by decide⟩ (WP.ok hr h1 h2)
def mW_sleeps : MD := (⟨"FirstAsleepLaw", "sleeps", "(LFirstAsleep;II[J)I"⟩, method_17_code, 5, some .int)
def hW_sleeps : List (Nat × Nat × Nat × Nat) := [(0, 10, 13, 31), (0, 10, 17, 13)]
set_option maxRecDepth 20000 in
theorem msw_sleeps : MSW mW_sleeps hW_sleeps 4 := ⟨ws_t 0 rfl rfl, ws_t 948 rfl rfl, ws_t 947 rfl rfl, ⟨by decide, by decide, by decide +kernel⟩⟩
set_option maxHeartbeats 8000000 in
set_option maxRecDepth 20000 in
theorem w_sleeps {a : AS} {x : XS} {w9 : Int64} {v1 v2 : Int32} (hC : RC x a) (hA : AI a) : ML mW_sleeps hW_sleeps 41 1 6 [.ref 0, .int v1, .int v2, .ref 200] x w9 (WP x (oSleeps a v1 v2) (bmp a (oSleeps a v1 v2)) 2) := by
  refine ML.of (by decide) (Nat.le_of_ble_eq_true rfl) ?_
  intro p l e s m args below meth c G C
  refine l_aload_n (k9 := 3) C (by decide +kernel) rfl rfl ?_
  refine l_iconst (n := 0) (v := nI 0) C (by decide +kernel) rfl ?_
  refine l_aload_n (k9 := 0) C (by decide +kernel) rfl rfl ?_
  refine l_iload_n (k9 := 1) C (by decide +kernel) rfl rfl ?_
  refine l_iload_n (k9 := 2) C (by decide +kernel) rfl rfl ?_
  refine l_callX (M' := mX9_sleeps) (as := [.int v1, .int v2]) (rest := [.int (nI 0), .ref 200]) (idx := 59) C (f_sleeps hC hA) mv_X9_sleeps (ws_t 949 rfl rfl) ⟨by decide, by decide⟩ ⟨by decide, by decide⟩ (by decide +kernel) rfl rfl rfl rfl (by decide) ?_ ?_
  · intro E y hp
    obtain ⟨k, hr, rfl, h1, h2⟩ := hp
    by_cases hk : k = 0
    · rw [if_pos hk]
      refine cat_1 (i := 4) (len := 2) C (by decide) (by decide) wl_S (Or.inr rfl) (Or.inr ⟨by decide +kernel, rfl⟩) (by decide) ?_
      refine l_iconst (n := 1) (v := nI 1) C (by decide +kernel) rfl ?_
      exact l_iret C rfl (by decide +kernel) ⟨by decide, by decide⟩ (WP.er hr h1 h2 (by rw [if_pos hk]))
    · rw [if_neg hk]
      refine cat_2 (i := 4) (len := 2) C (by decide) wl_S (by decide) (by decide) wl_I (Or.inr ⟨by decide +kernel, rfl⟩) (by decide) ?_
      refine l_iconst (n := 2) (v := nI 2) C (by decide +kernel) rfl ?_
      exact l_iret C rfl (by decide +kernel) ⟨by decide, by decide⟩ (WP.er hr h1 h2 (by rw [if_neg hk]))
  · intro v9 y hp
    obtain ⟨u9, hr, rfl, h1, h2⟩ := hp
    refine l_i2l C (by decide +kernel) ?_
    refine l_last C (by decide +kernel) ?_
    refine l_goto (off := 11) (tgt := 21) C (by decide +kernel) (by decide) ?_
    refine l_iconst (n := 0) (v := nI 0) C (by decide +kernel) rfl ?_
    exact l_iret C rfl (by decide +kernel) ⟨by decide, by decide⟩ (WP.ok hr h1 h2)
def mW_most : MD := (⟨"FirstAsleepLaw", "most", "(LFirstAsleep;I[J)I"⟩, method_18_code, 4, some .int)
def hW_most : List (Nat × Nat × Nat × Nat) := [(0, 9, 12, 13)]
set_option maxRecDepth 20000 in
theorem msw_most : MSW mW_most hW_most 3 := ⟨ws_t 0 rfl rfl, ws_t 960 rfl rfl, ws_t 959 rfl rfl, ⟨by decide, by decide, by decide +kernel⟩⟩
set_option maxHeartbeats 8000000 in
set_option maxRecDepth 20000 in
theorem w_most {a : AS} {x : XS} {w9 : Int64} {v1 : Int32} (hC : RC x a) (hA : AI a) : ML mW_most hW_most 41 1 6 [.ref 0, .int v1, .ref 200] x w9 (WP x (oMost a v1) (bmp a (oMost a v1)) 1) := by
  refine ML.of (by decide) (Nat.le_of_ble_eq_true rfl) ?_
  intro p l e s m args below meth c G C
  refine l_aload_n (k9 := 2) C (by decide +kernel) rfl rfl ?_
  refine l_iconst (n := 0) (v := nI 0) C (by decide +kernel) rfl ?_
  refine l_aload_n (k9 := 0) C (by decide +kernel) rfl rfl ?_
  refine l_iload_n (k9 := 1) C (by decide +kernel) rfl rfl ?_
  refine l_callX (M' := mX9_most) (as := [.int v1]) (rest := [.int (nI 0), .ref 200]) (idx := 62) C (f_most hC hA) mv_X9_most (ws_t 961 rfl rfl) ⟨by decide, by decide⟩ ⟨by decide, by decide⟩ (by decide +kernel) rfl rfl rfl rfl (by decide) ?_ ?_
  · intro E y hp
    obtain ⟨k, hr, rfl, h1, h2⟩ := hp
    have hk : k ≠ 0 := by
      have h9 : E1 (oMost a v1) := by
        unfold oMost
        repeat (first | exact E1.ok | apply E1.q)
      exact h9 k hr
    rw [if_neg hk]
    refine cat_1 (i := 3) (len := 1) C (by decide) (by decide) wl_I (Or.inl rfl) (Or.inl ⟨3, rfl, by decide +kernel, rfl⟩) (by decide) ?_
    refine l_iconst (n := 1) (v := nI 1) C (by decide +kernel) rfl ?_
    exact l_iret C rfl (by decide +kernel) ⟨by decide, by decide⟩ (WP.er hr h1 h2 (by rw [if_neg hk]))
  · intro v9 y hp
    obtain ⟨u9, hr, rfl, h1, h2⟩ := hp
    refine l_i2l C (by decide +kernel) ?_
    refine l_last C (by decide +kernel) ?_
    refine l_goto (off := 6) (tgt := 15) C (by decide +kernel) (by decide) ?_
    refine l_iconst (n := 0) (v := nI 0) C (by decide +kernel) rfl ?_
    exact l_iret C rfl (by decide +kernel) ⟨by decide, by decide⟩ (WP.ok hr h1 h2)
def mW_head : MD := (⟨"FirstAsleepLaw", "head", "(LFirstAsleep;III[J)I"⟩, method_19_code, 6, some .int)
def hW_head : List (Nat × Nat × Nat × Nat) := [(0, 12, 15, 31), (0, 12, 19, 13)]
set_option maxRecDepth 20000 in
theorem msw_head : MSW mW_head hW_head 5 := ⟨ws_t 0 rfl rfl, ws_t 967 rfl rfl, ws_t 966 rfl rfl, ⟨by decide, by decide, by decide +kernel⟩⟩
set_option maxHeartbeats 8000000 in
set_option maxRecDepth 20000 in
theorem w_head {a : AS} {x : XS} {w9 : Int64} {v1 v2 v3 : Int32} (hC : RC x a) (hA : AI a) : ML mW_head hW_head 41 1 6 [.ref 0, .int v1, .int v2, .int v3, .ref 200] x w9 (WP x (oHead a v1 v2 v3) (bmp a (oHead a v1 v2 v3)) 2) := by
  refine ML.of (by decide) (Nat.le_of_ble_eq_true rfl) ?_
  intro p l e s m args below meth c G C
  refine l_aload (i := 4) C (by decide +kernel) rfl ?_
  refine l_iconst (n := 0) (v := nI 0) C (by decide +kernel) rfl ?_
  refine l_aload_n (k9 := 0) C (by decide +kernel) rfl rfl ?_
  refine l_iload_n (k9 := 1) C (by decide +kernel) rfl rfl ?_
  refine l_iload_n (k9 := 2) C (by decide +kernel) rfl rfl ?_
  refine l_iload_n (k9 := 3) C (by decide +kernel) rfl rfl ?_
  refine l_callX (M' := mX9_head) (as := [.int v1, .int v2, .int v3]) (rest := [.int (nI 0), .ref 200]) (idx := 65) C (f_head hC hA) mv_X9_head (ws_t 968 rfl rfl) ⟨by decide, by decide⟩ ⟨by decide, by decide⟩ (by decide +kernel) rfl rfl rfl rfl (by decide) ?_ ?_
  · intro E y hp
    obtain ⟨k, hr, rfl, h1, h2⟩ := hp
    by_cases hk : k = 0
    · rw [if_pos hk]
      refine cat_1 (i := 5) (len := 2) C (by decide) (by decide) wl_S (Or.inr rfl) (Or.inr ⟨by decide +kernel, rfl⟩) (by decide) ?_
      refine l_iconst (n := 1) (v := nI 1) C (by decide +kernel) rfl ?_
      exact l_iret C rfl (by decide +kernel) ⟨by decide, by decide⟩ (WP.er hr h1 h2 (by rw [if_pos hk]))
    · rw [if_neg hk]
      refine cat_2 (i := 5) (len := 2) C (by decide) wl_S (by decide) (by decide) wl_I (Or.inr ⟨by decide +kernel, rfl⟩) (by decide) ?_
      refine l_iconst (n := 2) (v := nI 2) C (by decide +kernel) rfl ?_
      exact l_iret C rfl (by decide +kernel) ⟨by decide, by decide⟩ (WP.er hr h1 h2 (by rw [if_neg hk]))
  · intro v9 y hp
    obtain ⟨u9, hr, rfl, h1, h2⟩ := hp
    refine l_i2l C (by decide +kernel) ?_
    refine l_last C (by decide +kernel) ?_
    refine l_goto (off := 11) (tgt := 23) C (by decide +kernel) (by decide) ?_
    refine l_iconst (n := 0) (v := nI 0) C (by decide +kernel) rfl ?_
    exact l_iret C rfl (by decide +kernel) ⟨by decide, by decide⟩ (WP.ok hr h1 h2)
def mW_best : MD := (⟨"FirstAsleepLaw", "best", "(LFirstAsleep;II[J)I"⟩, method_20_code, 5, some .int)
def hW_best : List (Nat × Nat × Nat × Nat) := [(0, 10, 13, 31), (0, 10, 17, 13)]
set_option maxRecDepth 20000 in
theorem msw_best : MSW mW_best hW_best 4 := ⟨ws_t 0 rfl rfl, ws_t 982 rfl rfl, ws_t 981 rfl rfl, ⟨by decide, by decide, by decide +kernel⟩⟩
set_option maxHeartbeats 8000000 in
set_option maxRecDepth 20000 in
theorem w_best {a : AS} {x : XS} {w9 : Int64} {v1 v2 : Int32} (hC : RC x a) (hA : AI a) : ML mW_best hW_best 41 1 6 [.ref 0, .int v1, .int v2, .ref 200] x w9 (WP x (oBest a v1 v2) (bmp a (oBest a v1 v2)) 2) := by
  refine ML.of (by decide) (Nat.le_of_ble_eq_true rfl) ?_
  intro p l e s m args below meth c G C
  refine l_aload_n (k9 := 3) C (by decide +kernel) rfl rfl ?_
  refine l_iconst (n := 0) (v := nI 0) C (by decide +kernel) rfl ?_
  refine l_aload_n (k9 := 0) C (by decide +kernel) rfl rfl ?_
  refine l_iload_n (k9 := 1) C (by decide +kernel) rfl rfl ?_
  refine l_iload_n (k9 := 2) C (by decide +kernel) rfl rfl ?_
  refine l_callX (M' := mX9_best) (as := [.int v1, .int v2]) (rest := [.int (nI 0), .ref 200]) (idx := 69) C (f_best hC hA) mv_X9_best (ws_t 983 rfl rfl) ⟨by decide, by decide⟩ ⟨by decide, by decide⟩ (by decide +kernel) rfl rfl rfl rfl (by decide) ?_ ?_
  · intro E y hp
    obtain ⟨k, hr, rfl, h1, h2⟩ := hp
    by_cases hk : k = 0
    · rw [if_pos hk]
      refine cat_1 (i := 4) (len := 2) C (by decide) (by decide) wl_S (Or.inr rfl) (Or.inr ⟨by decide +kernel, rfl⟩) (by decide) ?_
      refine l_iconst (n := 1) (v := nI 1) C (by decide +kernel) rfl ?_
      exact l_iret C rfl (by decide +kernel) ⟨by decide, by decide⟩ (WP.er hr h1 h2 (by rw [if_pos hk]))
    · rw [if_neg hk]
      refine cat_2 (i := 4) (len := 2) C (by decide) wl_S (by decide) (by decide) wl_I (Or.inr ⟨by decide +kernel, rfl⟩) (by decide) ?_
      refine l_iconst (n := 2) (v := nI 2) C (by decide +kernel) rfl ?_
      exact l_iret C rfl (by decide +kernel) ⟨by decide, by decide⟩ (WP.er hr h1 h2 (by rw [if_neg hk]))
  · intro v9 y hp
    obtain ⟨u9, hr, rfl, h1, h2⟩ := hp
    refine l_i2l C (by decide +kernel) ?_
    refine l_last C (by decide +kernel) ?_
    refine l_goto (off := 11) (tgt := 21) C (by decide +kernel) (by decide) ?_
    refine l_iconst (n := 0) (v := nI 0) C (by decide +kernel) rfl ?_
    exact l_iret C rfl (by decide +kernel) ⟨by decide, by decide⟩ (WP.ok hr h1 h2)
def mW_hurry : MD := (⟨"FirstAsleepLaw", "hurry", "(LFirstAsleep;IIIII[J)I"⟩, method_21_code, 8, some .int)
def hW_hurry : List (Nat × Nat × Nat × Nat) := [(0, 16, 19, 31), (0, 16, 23, 13)]
set_option maxRecDepth 20000 in
theorem msw_hurry : MSW mW_hurry hW_hurry 7 := ⟨ws_t 0 rfl rfl, ws_t 989 rfl rfl, ws_t 988 rfl rfl, ⟨by decide, by decide, by decide +kernel⟩⟩
set_option maxHeartbeats 8000000 in
set_option maxRecDepth 20000 in
theorem w_hurry {a : AS} {x : XS} {w9 : Int64} {v1 v2 v3 v4 v5 : Int32} (hC : RC x a) (hA : AI a) : ML mW_hurry hW_hurry 41 1 6 [.ref 0, .int v1, .int v2, .int v3, .int v4, .int v5, .ref 200] x w9 (WP x (oHurry a v1 v2 v3 v4 v5) (bmp a (oHurry a v1 v2 v3 v4 v5)) 2) := by
  refine ML.of (by decide) (Nat.le_of_ble_eq_true rfl) ?_
  intro p l e s m args below meth c G C
  refine l_aload (i := 6) C (by decide +kernel) rfl ?_
  refine l_iconst (n := 0) (v := nI 0) C (by decide +kernel) rfl ?_
  refine l_aload_n (k9 := 0) C (by decide +kernel) rfl rfl ?_
  refine l_iload_n (k9 := 1) C (by decide +kernel) rfl rfl ?_
  refine l_iload_n (k9 := 2) C (by decide +kernel) rfl rfl ?_
  refine l_iload_n (k9 := 3) C (by decide +kernel) rfl rfl ?_
  refine l_iload (i := 4) C (by decide +kernel) rfl ?_
  refine l_iload (i := 5) C (by decide +kernel) rfl ?_
  refine l_callX (M' := mX9_hurry) (as := [.int v1, .int v2, .int v3, .int v4, .int v5]) (rest := [.int (nI 0), .ref 200]) (idx := 72) C (f_hurry hC hA) mv_X9_hurry (ws_t 990 rfl rfl) ⟨by decide, by decide⟩ ⟨by decide, by decide⟩ (by decide +kernel) rfl rfl rfl rfl (by decide) ?_ ?_
  · intro E y hp
    obtain ⟨k, hr, rfl, h1, h2⟩ := hp
    by_cases hk : k = 0
    · rw [if_pos hk]
      refine cat_1 (i := 7) (len := 2) C (by decide) (by decide) wl_S (Or.inr rfl) (Or.inr ⟨by decide +kernel, rfl⟩) (by decide) ?_
      refine l_iconst (n := 1) (v := nI 1) C (by decide +kernel) rfl ?_
      exact l_iret C rfl (by decide +kernel) ⟨by decide, by decide⟩ (WP.er hr h1 h2 (by rw [if_pos hk]))
    · rw [if_neg hk]
      refine cat_2 (i := 7) (len := 2) C (by decide) wl_S (by decide) (by decide) wl_I (Or.inr ⟨by decide +kernel, rfl⟩) (by decide) ?_
      refine l_iconst (n := 2) (v := nI 2) C (by decide +kernel) rfl ?_
      exact l_iret C rfl (by decide +kernel) ⟨by decide, by decide⟩ (WP.er hr h1 h2 (by rw [if_neg hk]))
  · intro v9 y hp
    obtain ⟨u9, hr, rfl, h1, h2⟩ := hp
    refine l_i2l C (by decide +kernel) ?_
    refine l_last C (by decide +kernel) ?_
    refine l_goto (off := 11) (tgt := 27) C (by decide +kernel) (by decide) ?_
    refine l_iconst (n := 0) (v := nI 0) C (by decide +kernel) rfl ?_
    exact l_iret C rfl (by decide +kernel) ⟨by decide, by decide⟩ (WP.ok hr h1 h2)
def mW_reads : MD := (⟨"FirstAsleepLaw", "reads", "(LFirstAsleep;IIIII[J)I"⟩, method_22_code, 8, some .int)
def hW_reads : List (Nat × Nat × Nat × Nat) := [(0, 16, 19, 31), (0, 16, 23, 13)]
set_option maxRecDepth 20000 in
theorem msw_reads : MSW mW_reads hW_reads 7 := ⟨ws_t 0 rfl rfl, ws_t 1016 rfl rfl, ws_t 1015 rfl rfl, ⟨by decide, by decide, by decide +kernel⟩⟩
set_option maxHeartbeats 8000000 in
set_option maxRecDepth 20000 in
theorem w_reads {a : AS} {x : XS} {w9 : Int64} {v1 v2 v3 v4 v5 : Int32} (hC : RC x a) (hA : AI a) : ML mW_reads hW_reads 41 1 6 [.ref 0, .int v1, .int v2, .int v3, .int v4, .int v5, .ref 200] x w9 (WP x (oReads a v1 v2 v3 v4 v5) (bmp a (oReads a v1 v2 v3 v4 v5)) 2) := by
  refine ML.of (by decide) (Nat.le_of_ble_eq_true rfl) ?_
  intro p l e s m args below meth c G C
  refine l_aload (i := 6) C (by decide +kernel) rfl ?_
  refine l_iconst (n := 0) (v := nI 0) C (by decide +kernel) rfl ?_
  refine l_aload_n (k9 := 0) C (by decide +kernel) rfl rfl ?_
  refine l_iload_n (k9 := 1) C (by decide +kernel) rfl rfl ?_
  refine l_iload_n (k9 := 2) C (by decide +kernel) rfl rfl ?_
  refine l_iload_n (k9 := 3) C (by decide +kernel) rfl rfl ?_
  refine l_iload (i := 4) C (by decide +kernel) rfl ?_
  refine l_iload (i := 5) C (by decide +kernel) rfl ?_
  refine l_callX (M' := mX9_reads) (as := [.int v1, .int v2, .int v3, .int v4, .int v5]) (rest := [.int (nI 0), .ref 200]) (idx := 75) C (f_reads hC hA) mv_X9_reads (ws_t 1017 rfl rfl) ⟨by decide, by decide⟩ ⟨by decide, by decide⟩ (by decide +kernel) rfl rfl rfl rfl (by decide) ?_ ?_
  · intro E y hp
    obtain ⟨k, hr, rfl, h1, h2⟩ := hp
    by_cases hk : k = 0
    · rw [if_pos hk]
      refine cat_1 (i := 7) (len := 2) C (by decide) (by decide) wl_S (Or.inr rfl) (Or.inr ⟨by decide +kernel, rfl⟩) (by decide) ?_
      refine l_iconst (n := 1) (v := nI 1) C (by decide +kernel) rfl ?_
      exact l_iret C rfl (by decide +kernel) ⟨by decide, by decide⟩ (WP.er hr h1 h2 (by rw [if_pos hk]))
    · rw [if_neg hk]
      refine cat_2 (i := 7) (len := 2) C (by decide) wl_S (by decide) (by decide) wl_I (Or.inr ⟨by decide +kernel, rfl⟩) (by decide) ?_
      refine l_iconst (n := 2) (v := nI 2) C (by decide +kernel) rfl ?_
      exact l_iret C rfl (by decide +kernel) ⟨by decide, by decide⟩ (WP.er hr h1 h2 (by rw [if_neg hk]))
  · intro v9 y hp
    obtain ⟨u9, hr, rfl, h1, h2⟩ := hp
    refine l_i2l C (by decide +kernel) ?_
    refine l_last C (by decide +kernel) ?_
    refine l_goto (off := 11) (tgt := 27) C (by decide +kernel) (by decide) ?_
    refine l_iconst (n := 0) (v := nI 0) C (by decide +kernel) rfl ?_
    exact l_iret C rfl (by decide +kernel) ⟨by decide, by decide⟩ (WP.ok hr h1 h2)
def mW_nudges : MD := (⟨"FirstAsleepLaw", "nudges", "(LFirstAsleep;IIII[J)I"⟩, method_23_code, 7, some .int)
def hW_nudges : List (Nat × Nat × Nat × Nat) := [(0, 14, 17, 31), (0, 14, 21, 13)]
set_option maxRecDepth 20000 in
theorem msw_nudges : MSW mW_nudges hW_nudges 6 := ⟨ws_t 0 rfl rfl, ws_t 1023 rfl rfl, ws_t 1022 rfl rfl, ⟨by decide, by decide, by decide +kernel⟩⟩
set_option maxHeartbeats 8000000 in
set_option maxRecDepth 20000 in
theorem w_nudges {a : AS} {x : XS} {w9 : Int64} {v1 v2 v3 v4 : Int32} (hC : RC x a) (hA : AI a) : ML mW_nudges hW_nudges 41 1 6 [.ref 0, .int v1, .int v2, .int v3, .int v4, .ref 200] x w9 (WP x (oNudges a v1 v2 v3 v4) (bmp a (oNudges a v1 v2 v3 v4)) 2) := by
  refine ML.of (by decide) (Nat.le_of_ble_eq_true rfl) ?_
  intro p l e s m args below meth c G C
  refine l_aload (i := 5) C (by decide +kernel) rfl ?_
  refine l_iconst (n := 0) (v := nI 0) C (by decide +kernel) rfl ?_
  refine l_aload_n (k9 := 0) C (by decide +kernel) rfl rfl ?_
  refine l_iload_n (k9 := 1) C (by decide +kernel) rfl rfl ?_
  refine l_iload_n (k9 := 2) C (by decide +kernel) rfl rfl ?_
  refine l_iload_n (k9 := 3) C (by decide +kernel) rfl rfl ?_
  refine l_iload (i := 4) C (by decide +kernel) rfl ?_
  refine l_callX (M' := mX9_nudges) (as := [.int v1, .int v2, .int v3, .int v4]) (rest := [.int (nI 0), .ref 200]) (idx := 78) C (f_nudges hC hA) mv_X9_nudges (ws_t 1024 rfl rfl) ⟨by decide, by decide⟩ ⟨by decide, by decide⟩ (by decide +kernel) rfl rfl rfl rfl (by decide) ?_ ?_
  · intro E y hp
    obtain ⟨k, hr, rfl, h1, h2⟩ := hp
    by_cases hk : k = 0
    · rw [if_pos hk]
      refine cat_1 (i := 6) (len := 2) C (by decide) (by decide) wl_S (Or.inr rfl) (Or.inr ⟨by decide +kernel, rfl⟩) (by decide) ?_
      refine l_iconst (n := 1) (v := nI 1) C (by decide +kernel) rfl ?_
      exact l_iret C rfl (by decide +kernel) ⟨by decide, by decide⟩ (WP.er hr h1 h2 (by rw [if_pos hk]))
    · rw [if_neg hk]
      refine cat_2 (i := 6) (len := 2) C (by decide) wl_S (by decide) (by decide) wl_I (Or.inr ⟨by decide +kernel, rfl⟩) (by decide) ?_
      refine l_iconst (n := 2) (v := nI 2) C (by decide +kernel) rfl ?_
      exact l_iret C rfl (by decide +kernel) ⟨by decide, by decide⟩ (WP.er hr h1 h2 (by rw [if_neg hk]))
  · intro v9 y hp
    obtain ⟨u9, hr, rfl, h1, h2⟩ := hp
    refine l_i2l C (by decide +kernel) ?_
    refine l_last C (by decide +kernel) ?_
    refine l_goto (off := 11) (tgt := 25) C (by decide +kernel) (by decide) ?_
    refine l_iconst (n := 0) (v := nI 0) C (by decide +kernel) rfl ?_
    exact l_iret C rfl (by decide +kernel) ⟨by decide, by decide⟩ (WP.ok hr h1 h2)
def mW_rooms : MD := (⟨"FirstAsleepLaw", "rooms", "(LFirstAsleep;II[J)I"⟩, method_24_code, 5, some .int)
def hW_rooms : List (Nat × Nat × Nat × Nat) := [(0, 10, 13, 13)]
set_option maxRecDepth 20000 in
theorem msw_rooms : MSW mW_rooms hW_rooms 4 := ⟨ws_t 0 rfl rfl, ws_t 1034 rfl rfl, ws_t 1033 rfl rfl, ⟨by decide, by decide, by decide +kernel⟩⟩
set_option maxHeartbeats 8000000 in
set_option maxRecDepth 20000 in
theorem w_rooms {a : AS} {x : XS} {w9 : Int64} {v1 v2 : Int32} (hC : RC x a) (hA : AI a) : ML mW_rooms hW_rooms 41 1 6 [.ref 0, .int v1, .int v2, .ref 200] x w9 (WP x (oRooms a v1 v2) (bmp a (oRooms a v1 v2)) 1) := by
  refine ML.of (by decide) (Nat.le_of_ble_eq_true rfl) ?_
  intro p l e s m args below meth c G C
  refine l_aload_n (k9 := 3) C (by decide +kernel) rfl rfl ?_
  refine l_iconst (n := 0) (v := nI 0) C (by decide +kernel) rfl ?_
  refine l_aload_n (k9 := 0) C (by decide +kernel) rfl rfl ?_
  refine l_iload_n (k9 := 1) C (by decide +kernel) rfl rfl ?_
  refine l_iload_n (k9 := 2) C (by decide +kernel) rfl rfl ?_
  refine l_callX (M' := mX9_rooms) (as := [.int v1, .int v2]) (rest := [.int (nI 0), .ref 200]) (idx := 82) C (f_rooms hC hA) mv_X9_rooms (ws_t 1035 rfl rfl) ⟨by decide, by decide⟩ ⟨by decide, by decide⟩ (by decide +kernel) rfl rfl rfl rfl (by decide) ?_ ?_
  · intro E y hp
    obtain ⟨k, hr, rfl, h1, h2⟩ := hp
    have hk : k ≠ 0 := by
      have h9 : E1 (oRooms a v1 v2) := by
        unfold oRooms
        repeat (first | exact E1.ok | apply E1.q)
      exact h9 k hr
    rw [if_neg hk]
    refine cat_1 (i := 4) (len := 2) C (by decide) (by decide) wl_I (Or.inl rfl) (Or.inr ⟨by decide +kernel, rfl⟩) (by decide) ?_
    refine l_iconst (n := 1) (v := nI 1) C (by decide +kernel) rfl ?_
    exact l_iret C rfl (by decide +kernel) ⟨by decide, by decide⟩ (WP.er hr h1 h2 (by rw [if_neg hk]))
  · intro v9 y hp
    obtain ⟨u9, hr, rfl, h1, h2⟩ := hp
    refine l_i2l C (by decide +kernel) ?_
    refine l_last C (by decide +kernel) ?_
    refine l_goto (off := 7) (tgt := 17) C (by decide +kernel) (by decide) ?_
    refine l_iconst (n := 0) (v := nI 0) C (by decide +kernel) rfl ?_
    exact l_iret C rfl (by decide +kernel) ⟨by decide, by decide⟩ (WP.ok hr h1 h2)
def mW_inTurns : MD := (⟨"FirstAsleepLaw", "inTurns", "(LFirstAsleep;II[J)I"⟩, method_25_code, 5, some .int)
def hW_inTurns : List (Nat × Nat × Nat × Nat) := [(0, 10, 13, 13)]
set_option maxRecDepth 20000 in
theorem msw_inTurns : MSW mW_inTurns hW_inTurns 4 := ⟨ws_t 0 rfl rfl, ws_t 1045 rfl rfl, ws_t 1044 rfl rfl, ⟨by decide, by decide, by decide +kernel⟩⟩
set_option maxHeartbeats 8000000 in
set_option maxRecDepth 20000 in
theorem w_inTurns {a : AS} {x : XS} {w9 : Int64} {v1 v2 : Int32} (hC : RC x a) (hA : AI a) : ML mW_inTurns hW_inTurns 41 1 6 [.ref 0, .int v1, .int v2, .ref 200] x w9 (WP x (oInTurns a v1 v2) (bmp a (oInTurns a v1 v2)) 1) := by
  refine ML.of (by decide) (Nat.le_of_ble_eq_true rfl) ?_
  intro p l e s m args below meth c G C
  refine l_aload_n (k9 := 3) C (by decide +kernel) rfl rfl ?_
  refine l_iconst (n := 0) (v := nI 0) C (by decide +kernel) rfl ?_
  refine l_aload_n (k9 := 0) C (by decide +kernel) rfl rfl ?_
  refine l_iload_n (k9 := 1) C (by decide +kernel) rfl rfl ?_
  refine l_iload_n (k9 := 2) C (by decide +kernel) rfl rfl ?_
  refine l_callX (M' := mX9_inTurns) (as := [.int v1, .int v2]) (rest := [.int (nI 0), .ref 200]) (idx := 85) C (f_inTurns hC hA) mv_X9_inTurns (ws_t 1046 rfl rfl) ⟨by decide, by decide⟩ ⟨by decide, by decide⟩ (by decide +kernel) rfl rfl rfl rfl (by decide) ?_ ?_
  · intro E y hp
    obtain ⟨k, hr, rfl, h1, h2⟩ := hp
    have hk : k ≠ 0 := by
      have h9 : E1 (oInTurns a v1 v2) := by
        unfold oInTurns
        repeat (first | exact E1.ok | apply E1.q)
      exact h9 k hr
    rw [if_neg hk]
    refine cat_1 (i := 4) (len := 2) C (by decide) (by decide) wl_I (Or.inl rfl) (Or.inr ⟨by decide +kernel, rfl⟩) (by decide) ?_
    refine l_iconst (n := 1) (v := nI 1) C (by decide +kernel) rfl ?_
    exact l_iret C rfl (by decide +kernel) ⟨by decide, by decide⟩ (WP.er hr h1 h2 (by rw [if_neg hk]))
  · intro v9 y hp
    obtain ⟨u9, hr, rfl, h1, h2⟩ := hp
    refine l_i2l C (by decide +kernel) ?_
    refine l_last C (by decide +kernel) ?_
    refine l_goto (off := 7) (tgt := 17) C (by decide +kernel) (by decide) ?_
    refine l_iconst (n := 0) (v := nI 0) C (by decide +kernel) rfl ?_
    exact l_iret C rfl (by decide +kernel) ⟨by decide, by decide⟩ (WP.ok hr h1 h2)
def mW_fits : MD := (⟨"FirstAsleepLaw", "fits", "(LFirstAsleep;I[J)I"⟩, method_26_code, 4, some .int)
def hW_fits : List (Nat × Nat × Nat × Nat) := [(0, 9, 12, 31)]
set_option maxRecDepth 20000 in
theorem msw_fits : MSW mW_fits hW_fits 3 := ⟨ws_t 0 rfl rfl, ws_t 1062 rfl rfl, ws_t 1061 rfl rfl, ⟨by decide, by decide, by decide +kernel⟩⟩
set_option maxHeartbeats 8000000 in
set_option maxRecDepth 20000 in
theorem w_fits {a : AS} {x : XS} {w9 : Int64} {v1 : Int32} (hC : RC x a) (hA : AI a) : ML mW_fits hW_fits 41 1 6 [.ref 0, .int v1, .ref 200] x w9 (WP x (oFits a v1) (bmp a (oFits a v1)) 1) := by
  refine ML.of (by decide) (Nat.le_of_ble_eq_true rfl) ?_
  intro p l e s m args below meth c G C
  refine l_aload_n (k9 := 2) C (by decide +kernel) rfl rfl ?_
  refine l_iconst (n := 0) (v := nI 0) C (by decide +kernel) rfl ?_
  refine l_aload_n (k9 := 0) C (by decide +kernel) rfl rfl ?_
  refine l_iload_n (k9 := 1) C (by decide +kernel) rfl rfl ?_
  refine l_callX (M' := mX9_fits) (as := [.int v1]) (rest := [.int (nI 0), .ref 200]) (idx := 88) C (f_fits hC hA) mv_X9_fits (ws_t 1063 rfl rfl) ⟨by decide, by decide⟩ ⟨by decide, by decide⟩ (by decide +kernel) rfl rfl rfl rfl (by decide) ?_ ?_
  · intro E y hp
    obtain ⟨k, hr, rfl, h1, h2⟩ := hp
    have hk : k = 0 := by
      have h9 : E0 (oFits a v1) := by
        unfold oFits
        exact E0.s E0.ok
      exact h9 k hr
    rw [if_pos hk]
    refine cat_1 (i := 3) (len := 1) C (by decide) (by decide) wl_S (Or.inr rfl) (Or.inl ⟨3, rfl, by decide +kernel, rfl⟩) (by decide) ?_
    refine l_iconst (n := 1) (v := nI 1) C (by decide +kernel) rfl ?_
    exact l_iret C rfl (by decide +kernel) ⟨by decide, by decide⟩ (WP.er hr h1 h2 (by rw [if_pos hk]))
  · intro v9 y hp
    obtain ⟨u9, hr, rfl, h1, h2⟩ := hp
    refine l_i2l C (by decide +kernel) ?_
    refine l_last C (by decide +kernel) ?_
    refine l_goto (off := 6) (tgt := 15) C (by decide +kernel) (by decide) ?_
    refine l_iconst (n := 0) (v := nI 0) C (by decide +kernel) rfl ?_
    exact l_iret C rfl (by decide +kernel) ⟨by decide, by decide⟩ (WP.ok hr h1 h2)
def mW_listen : MD := (⟨"FirstAsleepLaw", "listen", "(LFirstAsleep;II[J)I"⟩, method_27_code, 5, some .int)
def hW_listen : List (Nat × Nat × Nat × Nat) := [(0, 10, 13, 31), (0, 10, 17, 13)]
set_option maxRecDepth 20000 in
theorem msw_listen : MSW mW_listen hW_listen 4 := ⟨ws_t 0 rfl rfl, ws_t 1077 rfl rfl, ws_t 1076 rfl rfl, ⟨by decide, by decide, by decide +kernel⟩⟩
set_option maxHeartbeats 8000000 in
set_option maxRecDepth 20000 in
theorem w_listen {a : AS} {x : XS} {w9 : Int64} {v1 v2 : Int32} (hC : RC x a) (hA : AI a) : ML mW_listen hW_listen 41 1 6 [.ref 0, .int v1, .int v2, .ref 200] x w9 (WP x (oListen a v1 v2) (bmp a (oListen a v1 v2)) 2) := by
  refine ML.of (by decide) (Nat.le_of_ble_eq_true rfl) ?_
  intro p l e s m args below meth c G C
  refine l_aload_n (k9 := 3) C (by decide +kernel) rfl rfl ?_
  refine l_iconst (n := 0) (v := nI 0) C (by decide +kernel) rfl ?_
  refine l_aload_n (k9 := 0) C (by decide +kernel) rfl rfl ?_
  refine l_iload_n (k9 := 1) C (by decide +kernel) rfl rfl ?_
  refine l_iload_n (k9 := 2) C (by decide +kernel) rfl rfl ?_
  refine l_callX (M' := mX9_listen) (as := [.int v1, .int v2]) (rest := [.int (nI 0), .ref 200]) (idx := 91) C (f_listen hC hA) mv_X9_listen (ws_t 1078 rfl rfl) ⟨by decide, by decide⟩ ⟨by decide, by decide⟩ (by decide +kernel) rfl rfl rfl rfl (by decide) ?_ ?_
  · intro E y hp
    obtain ⟨k, hr, rfl, h1, h2⟩ := hp
    by_cases hk : k = 0
    · rw [if_pos hk]
      refine cat_1 (i := 4) (len := 2) C (by decide) (by decide) wl_S (Or.inr rfl) (Or.inr ⟨by decide +kernel, rfl⟩) (by decide) ?_
      refine l_iconst (n := 1) (v := nI 1) C (by decide +kernel) rfl ?_
      exact l_iret C rfl (by decide +kernel) ⟨by decide, by decide⟩ (WP.er hr h1 h2 (by rw [if_pos hk]))
    · rw [if_neg hk]
      refine cat_2 (i := 4) (len := 2) C (by decide) wl_S (by decide) (by decide) wl_I (Or.inr ⟨by decide +kernel, rfl⟩) (by decide) ?_
      refine l_iconst (n := 2) (v := nI 2) C (by decide +kernel) rfl ?_
      exact l_iret C rfl (by decide +kernel) ⟨by decide, by decide⟩ (WP.er hr h1 h2 (by rw [if_neg hk]))
  · intro v9 y hp
    obtain ⟨u9, hr, rfl, h1, h2⟩ := hp
    refine l_i2l C (by decide +kernel) ?_
    refine l_last C (by decide +kernel) ?_
    refine l_goto (off := 11) (tgt := 21) C (by decide +kernel) (by decide) ?_
    refine l_iconst (n := 0) (v := nI 0) C (by decide +kernel) rfl ?_
    exact l_iret C rfl (by decide +kernel) ⟨by decide, by decide⟩ (WP.ok hr h1 h2)
def mW_pauses : MD := (⟨"FirstAsleepLaw", "pauses", "(LFirstAsleep;IIII[J)I"⟩, method_28_code, 7, some .int)
def hW_pauses : List (Nat × Nat × Nat × Nat) := [(0, 13, 16, 13)]
set_option maxRecDepth 20000 in
theorem msw_pauses : MSW mW_pauses hW_pauses 6 := ⟨ws_t 0 rfl rfl, ws_t 1089 rfl rfl, ws_t 1088 rfl rfl, ⟨by decide, by decide, by decide +kernel⟩⟩
set_option maxHeartbeats 8000000 in
set_option maxRecDepth 20000 in
theorem w_pauses {a : AS} {x : XS} {w9 : Int64} {v1 v2 v3 v4 : Int32} (hC : RC x a) (hA : AI a) : ML mW_pauses hW_pauses 41 1 6 [.ref 0, .int v1, .int v2, .int v3, .int v4, .ref 200] x w9 (WPX x (oPauses v1 v2 v3 v4) (bmp a (oPauses v1 v2 v3 v4)) 1 (pauV v1 v2 v3 v4)) := by
  refine ML.of (by decide) (Nat.le_of_ble_eq_true rfl) ?_
  intro p l e s m args below meth c G C
  refine l_aload (i := 5) C (by decide +kernel) rfl ?_
  refine l_iconst (n := 0) (v := nI 0) C (by decide +kernel) rfl ?_
  refine l_aload_n (k9 := 0) C (by decide +kernel) rfl rfl ?_
  refine l_iload_n (k9 := 1) C (by decide +kernel) rfl rfl ?_
  refine l_iload_n (k9 := 2) C (by decide +kernel) rfl rfl ?_
  refine l_iload_n (k9 := 3) C (by decide +kernel) rfl rfl ?_
  refine l_iload (i := 4) C (by decide +kernel) rfl ?_
  refine l_callX (M' := mX9_pauses) (as := [.int v1, .int v2, .int v3, .int v4]) (rest := [.int (nI 0), .ref 200]) (idx := 94) C (f_pauses hC) mv_X9_pauses (ws_t 1090 rfl rfl) ⟨by decide, by decide⟩ ⟨by decide, by decide⟩ (by decide +kernel) rfl rfl rfl rfl (by decide) ?_ ?_
  · intro E y hp
    obtain ⟨k, hr, rfl, h1, h2⟩ := hp
    have hk : k ≠ 0 := by
      have h9 : E1 (oPauses v1 v2 v3 v4) := by
        unfold oPauses
        repeat (first | exact E1.ok | apply E1.q)
      exact h9 k hr
    rw [if_neg hk]
    refine cat_1 (i := 6) (len := 2) C (by decide) (by decide) wl_I (Or.inl rfl) (Or.inr ⟨by decide +kernel, rfl⟩) (by decide) ?_
    refine l_iconst (n := 1) (v := nI 1) C (by decide +kernel) rfl ?_
    exact l_iret C rfl (by decide +kernel) ⟨by decide, by decide⟩ (WPX.er hr h1 h2 (by rw [if_neg hk]))
  · intro v9 y hp
    obtain ⟨⟨u9, hr⟩, rfl, h1, h2⟩ := hp
    refine l_last C (by decide +kernel) ?_
    refine l_goto (off := 7) (tgt := 20) C (by decide +kernel) (by decide) ?_
    refine l_iconst (n := 0) (v := nI 0) C (by decide +kernel) rfl ?_
    exact l_iret C rfl (by decide +kernel) ⟨by decide, by decide⟩ (WPX.ok hr h1 h2)
def mW_doctor : MD := (⟨"FirstAsleepLaw", "doctor", "(LFirstAsleep;II[J)I"⟩, method_29_code, 5, some .int)
def hW_doctor : List (Nat × Nat × Nat × Nat) := [(0, 10, 13, 13)]
set_option maxRecDepth 20000 in
theorem msw_doctor : MSW mW_doctor hW_doctor 4 := ⟨ws_t 0 rfl rfl, ws_t 1106 rfl rfl, ws_t 1105 rfl rfl, ⟨by decide, by decide, by decide +kernel⟩⟩
set_option maxHeartbeats 8000000 in
set_option maxRecDepth 20000 in
theorem w_doctor {a : AS} {x : XS} {w9 : Int64} {v1 v2 : Int32} (hC : RC x a) (hA : AI a) : ML mW_doctor hW_doctor 41 1 6 [.ref 0, .int v1, .int v2, .ref 200] x w9 (WP x (oDoctor a v1 v2) (bmp a (oDoctor a v1 v2)) 1) := by
  refine ML.of (by decide) (Nat.le_of_ble_eq_true rfl) ?_
  intro p l e s m args below meth c G C
  refine l_aload_n (k9 := 3) C (by decide +kernel) rfl rfl ?_
  refine l_iconst (n := 0) (v := nI 0) C (by decide +kernel) rfl ?_
  refine l_aload_n (k9 := 0) C (by decide +kernel) rfl rfl ?_
  refine l_iload_n (k9 := 1) C (by decide +kernel) rfl rfl ?_
  refine l_iload_n (k9 := 2) C (by decide +kernel) rfl rfl ?_
  refine l_callX (M' := mX9_doctor) (as := [.int v1, .int v2]) (rest := [.int (nI 0), .ref 200]) (idx := 98) C (f_doctor hC hA) mv_X9_doctor (ws_t 1107 rfl rfl) ⟨by decide, by decide⟩ ⟨by decide, by decide⟩ (by decide +kernel) rfl rfl rfl rfl (by decide) ?_ ?_
  · intro E y hp
    obtain ⟨k, hr, rfl, h1, h2⟩ := hp
    have hk : k ≠ 0 := by
      have h9 : E1 (oDoctor a v1 v2) := by
        unfold oDoctor
        repeat (first | exact E1.ok | apply E1.q)
      exact h9 k hr
    rw [if_neg hk]
    refine cat_1 (i := 4) (len := 2) C (by decide) (by decide) wl_I (Or.inl rfl) (Or.inr ⟨by decide +kernel, rfl⟩) (by decide) ?_
    refine l_iconst (n := 1) (v := nI 1) C (by decide +kernel) rfl ?_
    exact l_iret C rfl (by decide +kernel) ⟨by decide, by decide⟩ (WP.er hr h1 h2 (by rw [if_neg hk]))
  · intro v9 y hp
    obtain ⟨u9, hr, rfl, h1, h2⟩ := hp
    refine l_i2l C (by decide +kernel) ?_
    refine l_last C (by decide +kernel) ?_
    refine l_goto (off := 7) (tgt := 17) C (by decide +kernel) (by decide) ?_
    refine l_iconst (n := 0) (v := nI 0) C (by decide +kernel) rfl ?_
    exact l_iret C rfl (by decide +kernel) ⟨by decide, by decide⟩ (WP.ok hr h1 h2)
def mW_wall : MD := (⟨"FirstAsleepLaw", "wall", "(LFirstAsleep;I[J)I"⟩, method_30_code, 4, some .int)
def hW_wall : List (Nat × Nat × Nat × Nat) := [(0, 9, 12, 13)]
set_option maxRecDepth 20000 in
theorem msw_wall : MSW mW_wall hW_wall 3 := ⟨ws_t 0 rfl rfl, ws_t 1113 rfl rfl, ws_t 1112 rfl rfl, ⟨by decide, by decide, by decide +kernel⟩⟩
set_option maxHeartbeats 8000000 in
set_option maxRecDepth 20000 in
theorem w_wall {a : AS} {x : XS} {w9 : Int64} {v1 : Int32} (hC : RC x a) (hA : AI a) : ML mW_wall hW_wall 41 1 6 [.ref 0, .int v1, .ref 200] x w9 (WP x (oWall a v1) (bmp a (oWall a v1)) 1) := by
  refine ML.of (by decide) (Nat.le_of_ble_eq_true rfl) ?_
  intro p l e s m args below meth c G C
  refine l_aload_n (k9 := 2) C (by decide +kernel) rfl rfl ?_
  refine l_iconst (n := 0) (v := nI 0) C (by decide +kernel) rfl ?_
  refine l_aload_n (k9 := 0) C (by decide +kernel) rfl rfl ?_
  refine l_iload_n (k9 := 1) C (by decide +kernel) rfl rfl ?_
  refine l_callX (M' := mX9_wall) (as := [.int v1]) (rest := [.int (nI 0), .ref 200]) (idx := 101) C (f_wall hC hA) mv_X9_wall (ws_t 1114 rfl rfl) ⟨by decide, by decide⟩ ⟨by decide, by decide⟩ (by decide +kernel) rfl rfl rfl rfl (by decide) ?_ ?_
  · intro E y hp
    obtain ⟨k, hr, rfl, h1, h2⟩ := hp
    have hk : k ≠ 0 := by
      have h9 : E1 (oWall a v1) := by
        unfold oWall
        repeat (first | exact E1.ok | apply E1.q)
      exact h9 k hr
    rw [if_neg hk]
    refine cat_1 (i := 3) (len := 1) C (by decide) (by decide) wl_I (Or.inl rfl) (Or.inl ⟨3, rfl, by decide +kernel, rfl⟩) (by decide) ?_
    refine l_iconst (n := 1) (v := nI 1) C (by decide +kernel) rfl ?_
    exact l_iret C rfl (by decide +kernel) ⟨by decide, by decide⟩ (WP.er hr h1 h2 (by rw [if_neg hk]))
  · intro v9 y hp
    obtain ⟨u9, hr, rfl, h1, h2⟩ := hp
    refine l_i2l C (by decide +kernel) ?_
    refine l_last C (by decide +kernel) ?_
    refine l_goto (off := 6) (tgt := 15) C (by decide +kernel) (by decide) ?_
    refine l_iconst (n := 0) (v := nI 0) C (by decide +kernel) rfl ?_
    exact l_iret C rfl (by decide +kernel) ⟨by decide, by decide⟩ (WP.ok hr h1 h2)
def mW_plugs : MD := (⟨"FirstAsleepLaw", "plugs", "(LFirstAsleep;III[J)I"⟩, method_31_code, 6, some .int)
def hW_plugs : List (Nat × Nat × Nat × Nat) := [(0, 12, 15, 31), (0, 12, 19, 13)]
set_option maxRecDepth 20000 in
theorem msw_plugs : MSW mW_plugs hW_plugs 5 := ⟨ws_t 0 rfl rfl, ws_t 1120 rfl rfl, ws_t 1119 rfl rfl, ⟨by decide, by decide, by decide +kernel⟩⟩
set_option maxHeartbeats 8000000 in
set_option maxRecDepth 20000 in
theorem w_plugs {a : AS} {x : XS} {w9 : Int64} {v1 v2 v3 : Int32} (hC : RC x a) (hA : AI a) : ML mW_plugs hW_plugs 41 1 6 [.ref 0, .int v1, .int v2, .int v3, .ref 200] x w9 (WP x (oPlugs a v1 v2 v3) (bmp a (oPlugs a v1 v2 v3)) 2) := by
  refine ML.of (by decide) (Nat.le_of_ble_eq_true rfl) ?_
  intro p l e s m args below meth c G C
  refine l_aload (i := 4) C (by decide +kernel) rfl ?_
  refine l_iconst (n := 0) (v := nI 0) C (by decide +kernel) rfl ?_
  refine l_aload_n (k9 := 0) C (by decide +kernel) rfl rfl ?_
  refine l_iload_n (k9 := 1) C (by decide +kernel) rfl rfl ?_
  refine l_iload_n (k9 := 2) C (by decide +kernel) rfl rfl ?_
  refine l_iload_n (k9 := 3) C (by decide +kernel) rfl rfl ?_
  refine l_callX (M' := mX9_plugs) (as := [.int v1, .int v2, .int v3]) (rest := [.int (nI 0), .ref 200]) (idx := 104) C (f_plugs hC hA) mv_X9_plugs (ws_t 1121 rfl rfl) ⟨by decide, by decide⟩ ⟨by decide, by decide⟩ (by decide +kernel) rfl rfl rfl rfl (by decide) ?_ ?_
  · intro E y hp
    obtain ⟨k, hr, rfl, h1, h2⟩ := hp
    by_cases hk : k = 0
    · rw [if_pos hk]
      refine cat_1 (i := 5) (len := 2) C (by decide) (by decide) wl_S (Or.inr rfl) (Or.inr ⟨by decide +kernel, rfl⟩) (by decide) ?_
      refine l_iconst (n := 1) (v := nI 1) C (by decide +kernel) rfl ?_
      exact l_iret C rfl (by decide +kernel) ⟨by decide, by decide⟩ (WP.er hr h1 h2 (by rw [if_pos hk]))
    · rw [if_neg hk]
      refine cat_2 (i := 5) (len := 2) C (by decide) wl_S (by decide) (by decide) wl_I (Or.inr ⟨by decide +kernel, rfl⟩) (by decide) ?_
      refine l_iconst (n := 2) (v := nI 2) C (by decide +kernel) rfl ?_
      exact l_iret C rfl (by decide +kernel) ⟨by decide, by decide⟩ (WP.er hr h1 h2 (by rw [if_neg hk]))
  · intro v9 y hp
    obtain ⟨u9, hr, rfl, h1, h2⟩ := hp
    refine l_i2l C (by decide +kernel) ?_
    refine l_last C (by decide +kernel) ?_
    refine l_goto (off := 11) (tgt := 23) C (by decide +kernel) (by decide) ?_
    refine l_iconst (n := 0) (v := nI 0) C (by decide +kernel) rfl ?_
    exact l_iret C rfl (by decide +kernel) ⟨by decide, by decide⟩ (WP.ok hr h1 h2)
def mW_nights : MD := (⟨"FirstAsleepLaw", "nights", "(LFirstAsleep;IIIII[J)I"⟩, method_32_code, 8, some .int)
def hW_nights : List (Nat × Nat × Nat × Nat) := [(0, 16, 19, 13)]
set_option maxRecDepth 20000 in
theorem msw_nights : MSW mW_nights hW_nights 7 := ⟨ws_t 0 rfl rfl, ws_t 1127 rfl rfl, ws_t 1126 rfl rfl, ⟨by decide, by decide, by decide +kernel⟩⟩
set_option maxHeartbeats 8000000 in
set_option maxRecDepth 20000 in
theorem w_nights {a : AS} {x : XS} {w9 : Int64} {v1 v2 v3 v4 v5 : Int32} (hC : RC x a) (hA : AI a) : ML mW_nights hW_nights 41 1 6 [.ref 0, .int v1, .int v2, .int v3, .int v4, .int v5, .ref 200] x w9 (WP x (oNights a v1 v2 v3 v4 v5) (bmp a (oNights a v1 v2 v3 v4 v5)) 1) := by
  refine ML.of (by decide) (Nat.le_of_ble_eq_true rfl) ?_
  intro p l e s m args below meth c G C
  refine l_aload (i := 6) C (by decide +kernel) rfl ?_
  refine l_iconst (n := 0) (v := nI 0) C (by decide +kernel) rfl ?_
  refine l_aload_n (k9 := 0) C (by decide +kernel) rfl rfl ?_
  refine l_iload_n (k9 := 1) C (by decide +kernel) rfl rfl ?_
  refine l_iload_n (k9 := 2) C (by decide +kernel) rfl rfl ?_
  refine l_iload_n (k9 := 3) C (by decide +kernel) rfl rfl ?_
  refine l_iload (i := 4) C (by decide +kernel) rfl ?_
  refine l_iload (i := 5) C (by decide +kernel) rfl ?_
  refine l_callX (M' := mX9_nights) (as := [.int v1, .int v2, .int v3, .int v4, .int v5]) (rest := [.int (nI 0), .ref 200]) (idx := 107) C (f_nights hC hA) mv_X9_nights (ws_t 1128 rfl rfl) ⟨by decide, by decide⟩ ⟨by decide, by decide⟩ (by decide +kernel) rfl rfl rfl rfl (by decide) ?_ ?_
  · intro E y hp
    obtain ⟨k, hr, rfl, h1, h2⟩ := hp
    have hk : k ≠ 0 := by
      have h9 : E1 (oNights a v1 v2 v3 v4 v5) := by
        unfold oNights
        repeat (first | exact E1.ok | apply E1.q)
      exact h9 k hr
    rw [if_neg hk]
    refine cat_1 (i := 7) (len := 2) C (by decide) (by decide) wl_I (Or.inl rfl) (Or.inr ⟨by decide +kernel, rfl⟩) (by decide) ?_
    refine l_iconst (n := 1) (v := nI 1) C (by decide +kernel) rfl ?_
    exact l_iret C rfl (by decide +kernel) ⟨by decide, by decide⟩ (WP.er hr h1 h2 (by rw [if_neg hk]))
  · intro v9 y hp
    obtain ⟨u9, hr, rfl, h1, h2⟩ := hp
    refine l_i2l C (by decide +kernel) ?_
    refine l_last C (by decide +kernel) ?_
    refine l_goto (off := 7) (tgt := 23) C (by decide +kernel) (by decide) ?_
    refine l_iconst (n := 0) (v := nI 0) C (by decide +kernel) rfl ?_
    exact l_iret C rfl (by decide +kernel) ⟨by decide, by decide⟩ (WP.ok hr h1 h2)
def mW_span : MD := (⟨"FirstAsleepLaw", "span", "(LFirstAsleep;IIIIII[J)I"⟩, method_33_code, 9, some .int)
def hW_span : List (Nat × Nat × Nat × Nat) := [(0, 18, 21, 13)]
set_option maxRecDepth 20000 in
theorem msw_span : MSW mW_span hW_span 8 := ⟨ws_t 0 rfl rfl, ws_t 1143 rfl rfl, ws_t 1142 rfl rfl, ⟨by decide, by decide, by decide +kernel⟩⟩
set_option maxHeartbeats 8000000 in
set_option maxRecDepth 20000 in
theorem w_span {a : AS} {x : XS} {w9 : Int64} {v1 v2 v3 v4 v5 v6 : Int32} (hC : RC x a) (hA : AI a) : ML mW_span hW_span 41 1 6 [.ref 0, .int v1, .int v2, .int v3, .int v4, .int v5, .int v6, .ref 200] x w9 (WP x (oSpan a v1 v2 v3 v4 v5 v6) (bmp a (oSpan a v1 v2 v3 v4 v5 v6)) 1) := by
  refine ML.of (by decide) (Nat.le_of_ble_eq_true rfl) ?_
  intro p l e s m args below meth c G C
  refine l_aload (i := 7) C (by decide +kernel) rfl ?_
  refine l_iconst (n := 0) (v := nI 0) C (by decide +kernel) rfl ?_
  refine l_aload_n (k9 := 0) C (by decide +kernel) rfl rfl ?_
  refine l_iload_n (k9 := 1) C (by decide +kernel) rfl rfl ?_
  refine l_iload_n (k9 := 2) C (by decide +kernel) rfl rfl ?_
  refine l_iload_n (k9 := 3) C (by decide +kernel) rfl rfl ?_
  refine l_iload (i := 4) C (by decide +kernel) rfl ?_
  refine l_iload (i := 5) C (by decide +kernel) rfl ?_
  refine l_iload (i := 6) C (by decide +kernel) rfl ?_
  refine l_callX (M' := mX9_span) (as := [.int v1, .int v2, .int v3, .int v4, .int v5, .int v6]) (rest := [.int (nI 0), .ref 200]) (idx := 110) C (f_span hC hA) mv_X9_span (ws_t 1144 rfl rfl) ⟨by decide, by decide⟩ ⟨by decide, by decide⟩ (by decide +kernel) rfl rfl rfl rfl (by decide) ?_ ?_
  · intro E y hp
    obtain ⟨k, hr, rfl, h1, h2⟩ := hp
    have hk : k ≠ 0 := by
      have h9 : E1 (oSpan a v1 v2 v3 v4 v5 v6) := by
        unfold oSpan
        repeat (first | exact E1.ok | apply E1.q)
      exact h9 k hr
    rw [if_neg hk]
    refine cat_1 (i := 8) (len := 2) C (by decide) (by decide) wl_I (Or.inl rfl) (Or.inr ⟨by decide +kernel, rfl⟩) (by decide) ?_
    refine l_iconst (n := 1) (v := nI 1) C (by decide +kernel) rfl ?_
    exact l_iret C rfl (by decide +kernel) ⟨by decide, by decide⟩ (WP.er hr h1 h2 (by rw [if_neg hk]))
  · intro v9 y hp
    obtain ⟨u9, hr, rfl, h1, h2⟩ := hp
    refine l_i2l C (by decide +kernel) ?_
    refine l_last C (by decide +kernel) ?_
    refine l_goto (off := 7) (tgt := 25) C (by decide +kernel) (by decide) ?_
    refine l_iconst (n := 0) (v := nI 0) C (by decide +kernel) rfl ?_
    exact l_iret C rfl (by decide +kernel) ⟨by decide, by decide⟩ (WP.ok hr h1 h2)
