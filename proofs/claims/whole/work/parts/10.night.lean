/-! NIGHT: the leaves -/
def IsN (c0 : Nat) : Prop := c0 = 43 ∨ c0 = 49
theorem n_o {c0 : Nat} (h : IsN c0) : lay c0 = .inl (6, [some 3, some 23, some (c0 + 1), some (c0 + 2), some (c0 + 3), some (c0 + 4), some (c0 + 5), none, none]) := by rcases h with rfl | rfl <;> rfl
theorem n_1 {c0 : Nat} (h : IsN c0) : lay (c0 + 1) = .inr (.inl 42) := by rcases h with rfl | rfl <;> rfl
theorem n_2 {c0 : Nat} (h : IsN c0) : lay (c0 + 2) = .inr (.inl 5) := by rcases h with rfl | rfl <;> rfl
theorem n_3 {c0 : Nat} (h : IsN c0) : lay (c0 + 3) = .inr (.inl 5) := by rcases h with rfl | rfl <;> rfl
theorem n_4 {c0 : Nat} (h : IsN c0) : lay (c0 + 4) = .inr (.inl 5) := by rcases h with rfl | rfl <;> rfl
theorem n_5 {c0 : Nat} (h : IsN c0) : lay (c0 + 5) = .inr (.inl 9) := by rcases h with rfl | rfl <;> rfl
/-- in a row of a night: sleeps p -/
def asl (f : Nat → Int32) (p : Nat) : Bool := decide (0 < f (10 + p))
def cntA (f : Nat → Int32) : Nat → Nat
  | 0 => 0
  | n + 1 => cntA f n + (if asl f n then 1 else 0)
theorem cntA_le (f : Nat → Int32) : ∀ n, cntA f n ≤ n
  | 0 => Nat.le_refl 0
  | n + 1 => by
    have := cntA_le f n
    unfold cntA
    split <;> omega
/-- the sum of a row's places from a on -/
def sumR (f : Nat → Int32) (a : Nat) : Nat → Int32
  | 0 => 0
  | n + 1 => sumR f a n + f (a + n)
set_option maxHeartbeats 8000000 in
set_option maxRecDepth 20000 in
theorem c_X6_isAsleep {c0 p : Nat} {x : XS} (hN : IsN c0) (hp : p < 5) : MM mX6_isAsleep 0 0 0 [.ref c0, .int (nI p)] x (fun v x1 => v = some (.int (bI (asl (x (c0 + 1)) p))) ∧ x1 = x) NoT := by
  refine MM.of (by decide) (Nat.le_of_ble_eq_true rfl) ?_
  have n0 := n_o hN
  have n1 := n_1 hN
  have n2 := n_2 hN
  have n3 := n_3 hN
  have n4 := n_4 hN
  have n5 := n_5 hN
  refine r_aload_n dX6_isAsleep_0 rfl (by rfl) ?_
  refine gf_X6_11 rfl dX6_isAsleep_1 (by first | assumption | rfl) (by rfl) ?_
  refine r_bipush (v := nI 10) dX6_isAsleep_4 (by decide) ?_
  refine r_iload_n dX6_isAsleep_6 rfl (by rfl) ?_
  first | refine r_iaddN dX6_isAsleep_7 ?_ | refine r_iadd dX6_isAsleep_7 ?_
  refine r_ialdN dX6_isAsleep_8 (by first | assumption | rfl) (by omega) (by decide) ?_
  refine r_if_le (tgt := 16) dX6_isAsleep_9 (by decide) (fun h9 => ?_) (fun h9 => ?_)
  · refine r_iconst (v := nI 0) dX6_isAsleep_16 (by decide) ?_
    refine r_zret rfl (by first | exact bI_01 _ | exact Or.inl rfl | exact Or.inr rfl) dX6_isAsleep_17 ?_
    refine ⟨?_, rfl⟩
    unfold asl
    first | rw [decide_eq_false (Int32.not_lt.mpr h9)]; rfl | rw [decide_eq_true (Int32.not_le.mp h9)]; rfl
  · refine r_iconst (v := nI 1) dX6_isAsleep_12 (by decide) ?_
    refine r_goto (tgt := 17) dX6_isAsleep_13 (by decide) ?_
    refine r_zret rfl (by first | exact bI_01 _ | exact Or.inl rfl | exact Or.inr rfl) dX6_isAsleep_17 ?_
    refine ⟨?_, rfl⟩
    unfold asl
    first | rw [decide_eq_false (Int32.not_lt.mpr h9)]; rfl | rw [decide_eq_true (Int32.not_le.mp h9)]; rfl
set_option maxHeartbeats 8000000 in
set_option maxRecDepth 20000 in
theorem c_X6_asleepCount {c0 n : Nat} {x : XS} (hN : IsN c0) (hn : n ≤ 5) (hs : x 3 0 = nI n) : MM mX6_asleepCount 1 0 0 [.ref c0] x (fun v x1 => v = some (.int (nI (cntA (x (c0 + 1)) n))) ∧ x1 = x) NoT := by
  refine MM.of (by decide) (Nat.le_of_ble_eq_true rfl) ?_
  have n0 := n_o hN
  have n1 := n_1 hN
  have n2 := n_2 hN
  have n3 := n_3 hN
  have n4 := n_4 hN
  have n5 := n_5 hN
  refine r_iconst (v := nI 0) dX6_asleepCount_0 (by decide) ?_
  refine r_istore_n dX6_asleepCount_1 rfl (by decide) ?_
  refine r_iconst (v := nI 0) dX6_asleepCount_2 (by decide) ?_
  refine r_istore_n dX6_asleepCount_3 rfl (by decide) ?_
  refine PW.loop (σ := Nat) (fun i => n - i) (fun i => i ≤ n) (fun i => [(0, .ref c0), (1, .int (nI (cntA (x (c0 + 1)) i))), (2, .int (nI i))]) (fun _ => x) (0) (Nat.zero_le n) rfl rfl (fun i hi ih => ?_)
  refine r_iload_n dX6_asleepCount_4 rfl (by rfl) ?_
  refine r_aload_n dX6_asleepCount_5 rfl (by rfl) ?_
  refine gf_X6_36 rfl dX6_asleepCount_6 (by first | assumption | rfl) (by rfl) ?_
  refine gf_X6_44 rfl dX6_asleepCount_9 (by first | assumption | rfl) (by rfl) ?_
  refine PW.topi hs ?_
  first | refine r_icmp_geN (tgt := 37) dX6_asleepCount_12 (by decide) (by omega) (by omega) (fun h12 => ?_) (fun h12 => ?_) | refine r_icmp_ge (tgt := 37) dX6_asleepCount_12 (by decide) (fun h12 => ?_) (fun h12 => ?_)
  · refine r_iload_n dX6_asleepCount_37 rfl (by rfl) ?_
    refine r_iret rfl dX6_asleepCount_38 ?_
    first
      | (have e : i = n := by omega
         subst e
         exact ⟨rfl, rfl⟩)
  · refine r_iload_n dX6_asleepCount_15 rfl (by rfl) ?_
    refine r_aload_n dX6_asleepCount_16 rfl (by rfl) ?_
    refine r_iload_n dX6_asleepCount_17 rfl (by rfl) ?_
    refine r_callV (c_X6_isAsleep hN (by omega)) mv_X6_isAsleep ml_X6_67 ⟨by decide, by decide⟩ dX6_asleepCount_18 (by first | assumption | rfl) rfl rfl rfl (Nat.le_of_ble_eq_true rfl) (fun v9 x9 h9 => ?_)
    obtain ⟨rfl, h9⟩ := h9
    refine PW.xeq h9 ?_
    clear h9 x9
    first | refine r_if_eqB (tgt := 28) dX6_asleepCount_21 (by decide) (fun h21 => ?_) (fun h21 => ?_) | refine r_if_eq (tgt := 28) dX6_asleepCount_21 (by decide) (fun h21 => ?_) (fun h21 => ?_)
    · refine r_iconst (v := nI 0) dX6_asleepCount_28 (by decide) ?_
      have e29 : cntA (x (c0 + 1)) (i + 1) = cntA (x (c0 + 1)) i + (if asl (x (c0 + 1)) i then 1 else 0) := rfl
      rw [h21] at e29
      refine r_iaddN dX6_asleepCount_29 ?_
      simp only [if_true, if_false, Bool.false_eq_true, Nat.add_zero] at e29 ⊢
      rw [← e29]
      refine r_istore_n dX6_asleepCount_30 rfl (by decide) ?_
      first | refine r_iincN dX6_asleepCount_31 (by rfl) (by decide) ?_ | skip
      refine r_goto (tgt := 4) dX6_asleepCount_34 (by decide) ?_
      exact PW.lc (by rfl) rfl (ih (i + 1) (by omega) (by omega))
    · refine r_iconst (v := nI 1) dX6_asleepCount_24 (by decide) ?_
      refine r_goto (tgt := 29) dX6_asleepCount_25 (by decide) ?_
      have e29 : cntA (x (c0 + 1)) (i + 1) = cntA (x (c0 + 1)) i + (if asl (x (c0 + 1)) i then 1 else 0) := rfl
      rw [h21] at e29
      refine r_iaddN dX6_asleepCount_29 ?_
      simp only [if_true, if_false, Bool.false_eq_true, Nat.add_zero] at e29 ⊢
      rw [← e29]
      refine r_istore_n dX6_asleepCount_30 rfl (by decide) ?_
      first | refine r_iincN dX6_asleepCount_31 (by rfl) (by decide) ?_ | skip
      refine r_goto (tgt := 4) dX6_asleepCount_34 (by decide) ?_
      exact PW.lc (by rfl) rfl (ih (i + 1) (by omega) (by omega))
