set_option maxHeartbeats 2000000 in
/-- a contract out of the walk from the entry -/
theorem MM.ofF {M : MD} {d mc ms : Nat} {as : List Value} {x : XS} {Post : Option Value → XS → Prop} {PT : String → XS → Prop} (hy : plainFor M.1 = true) (hn : (lg_sl as).length ≤ M.2.2.1)
    (h : PW M (RM d mc ms) mc ms Post PT 0 (lv_args 0 as) [] x) : MM M d mc ms as x Post PT := by
  intro l G sz hl hI
  refine MetFree.of_bodySF (code := M.2.1) (maxLocals := M.2.2.1) (ret := M.2.2.2) hy ?_ ?_
  · intro args s m h hn
    obtain ⟨meth, c, h1, h2, h3, h4, h5, h6, -, -⟩ := Cond.code_spec hn (atoms_spec (ws := (.code M.1 M.2.1 M.2.2.1 M.2.2.2 :: WS)) h _ List.mem_cons_self)
    exact ⟨meth, c, h1, h2, h3, h4, h5, h6⟩
  · intro p e s m args below meth c s₁ B hml hP _
    obtain ⟨rfl, hsz, hE, hX, hH⟩ := hP
    have hh0 : s₁.heap = s.heap := by rw [B.state]; rfl
    have hts := atoms_spec (ws := (.code M.1 M.2.1 M.2.2.1 M.2.2.2 :: WS)) B.pre
    subst hsz
    have hsl : lg_sl (as.map (tr G)) = (lg_sl as).map (fun q => match q with | .val v => .val (tr G v) | z => z) := by
      clear hn h hX hH hE hts hh0 B
      induction as with
      | nil => rfl
      | cons v vs ih =>
        have e1 : lg_sl ((v :: vs).map (tr G)) = (if (tr G v).category = 2 then [.val (tr G v), .second] else [.val (tr G v)]) ++ lg_sl (vs.map (tr G)) := rfl
        have e2 : lg_sl (v :: vs) = (if v.category = 2 then [.val v, .second] else [.val v]) ++ lg_sl vs := rfl
        rw [e1, e2, ih, tr_cat]
        by_cases h2 : v.category = 2
        · simp [h2]
        · simp [h2]
    have hlen : (lg_sl (as.map (tr G))).length ≤ M.2.2.1 := by rw [hsl, List.length_map]; exact hn
    have hls := lv_entry (as.map (tr G)) hlen
    have hw := h p l e s m (as.map (tr G)).toArray below meth c G s.heap [] _ ⟨B.exec, B.bytes, hml, findClass_of_methodNamed B.named, fun w hw => hts w (List.mem_cons_of_mem _ hw), hE, B.returns, B.notSynchronized, hI, hX, hl, tables_empty (BodyLoose.noHandlers B (hts _ List.mem_cons_self))⟩ hH va_S.rf (by rw [trL_args]; exact hls)
    rw [lg_entry_eq]
    obtain ⟨t, a1, o, b1, b2, b3⟩ := hw s₁ hh0 (Stand.of_body B)
    exact ⟨t, o, a1, b1, b2, b3⟩

/-! NIGHT: the leaves -/
def IsN (c0 : Nat) : Prop := c0 = 43 ∨ c0 = 49
theorem n_o {c0 : Nat} (h : IsN c0) : lay c0 = .inl (6, [some 3, some 23, some (c0 + 1), some (c0 + 2), some (c0 + 3), some (c0 + 4), some (c0 + 5), none, none]) := by rcases h with rfl | rfl <;> rfl
theorem n_1 {c0 : Nat} (h : IsN c0) : lay (c0 + 1) = .inr (.inl 42) := by rcases h with rfl | rfl <;> rfl
theorem n_2 {c0 : Nat} (h : IsN c0) : lay (c0 + 2) = .inr (.inl 5) := by rcases h with rfl | rfl <;> rfl
theorem n_3 {c0 : Nat} (h : IsN c0) : lay (c0 + 3) = .inr (.inl 5) := by rcases h with rfl | rfl <;> rfl
theorem n_4 {c0 : Nat} (h : IsN c0) : lay (c0 + 4) = .inr (.inl 5) := by rcases h with rfl | rfl <;> rfl
theorem n_5 {c0 : Nat} (h : IsN c0) : lay (c0 + 5) = .inr (.inl 9) := by rcases h with rfl | rfl <;> rfl
/-- in a row of a night: sleeps p -/
def asl (f : Nat → Int32) (p : Nat) : Bool := decide (0 < f (10 + p))
def cntA (f : Nat → Int32) : Nat → Nat
  | 0 => 0
  | n + 1 => cntA f n + (if asl f n then 1 else 0)
theorem cntA_le (f : Nat → Int32) : ∀ n, cntA f n ≤ n
  | 0 => Nat.le_refl 0
  | n + 1 => by
    have := cntA_le f n
    unfold cntA
    split <;> omega
/-- the sum of a row's places from a on -/
def sumR (f : Nat → Int32) (a : Nat) : Nat → Int32
  | 0 => 0
  | n + 1 => sumR f a n + f (a + n)
set_option maxHeartbeats 8000000 in
set_option maxRecDepth 20000 in
theorem c_X6_isAsleep {c0 p : Nat} {x : XS} (hN : IsN c0) (hp : p < 5) : MM mX6_isAsleep 0 0 0 [.ref c0, .int (nI p)] x (fun v x1 => v = some (.int (bI (asl (x (c0 + 1)) p))) ∧ x1 = x) NoT := by
  refine MM.of (by decide) (Nat.le_of_ble_eq_true rfl) ?_
  have n0 := n_o hN
  have n1 := n_1 hN
  have n2 := n_2 hN
  have n3 := n_3 hN
  have n4 := n_4 hN
  have n5 := n_5 hN
  refine r_aload_n dX6_isAsleep_0 rfl (by rfl) ?_
  refine gf_X6_11 rfl dX6_isAsleep_1 (by first | assumption | rfl) (by rfl) ?_
  refine r_bipush (v := nI 10) dX6_isAsleep_4 (by decide) ?_
  refine r_iload_n dX6_isAsleep_6 rfl (by rfl) ?_
  refine r_iaddN dX6_isAsleep_7 ?_
  refine r_ialdN dX6_isAsleep_8 (by first | assumption | rfl) (by omega) (by decide) ?_
  refine r_if_le (tgt := 16) dX6_isAsleep_9 (by decide) (fun h9 => ?_) (fun h9 => ?_)
  · refine r_iconst (v := nI 0) dX6_isAsleep_16 (by decide) ?_
    refine r_zret rfl (by first | exact bI_01 _ | exact Or.inl rfl | exact Or.inr rfl) dX6_isAsleep_17 ?_
    refine ⟨?_, rfl⟩
    unfold asl
    first | rw [decide_eq_false (Int32.not_lt.mpr h9)]; rfl | rw [decide_eq_true (Int32.not_le.mp h9)]; rfl
  · refine r_iconst (v := nI 1) dX6_isAsleep_12 (by decide) ?_
    refine r_goto (tgt := 17) dX6_isAsleep_13 (by decide) ?_
    refine r_zret rfl (by first | exact bI_01 _ | exact Or.inl rfl | exact Or.inr rfl) dX6_isAsleep_17 ?_
    refine ⟨?_, rfl⟩
    unfold asl
    first | rw [decide_eq_false (Int32.not_lt.mpr h9)]; rfl | rw [decide_eq_true (Int32.not_le.mp h9)]; rfl
set_option maxHeartbeats 8000000 in
set_option maxRecDepth 20000 in
theorem c_X6_asleepCount {c0 n : Nat} {x : XS} (hN : IsN c0) (hn : n ≤ 5) (hs : x 3 0 = nI n) : MM mX6_asleepCount 1 0 0 [.ref c0] x (fun v x1 => v = some (.int (nI (cntA (x (c0 + 1)) n))) ∧ x1 = x) NoT := by
  refine MM.of (by decide) (Nat.le_of_ble_eq_true rfl) ?_
  have n0 := n_o hN
  have n1 := n_1 hN
  have n2 := n_2 hN
  have n3 := n_3 hN
  have n4 := n_4 hN
  have n5 := n_5 hN
  refine r_iconst (v := nI 0) dX6_asleepCount_0 (by decide) ?_
  refine r_istore_n dX6_asleepCount_1 rfl (by decide) ?_
  refine r_iconst (v := nI 0) dX6_asleepCount_2 (by decide) ?_
  refine r_istore_n dX6_asleepCount_3 rfl (by decide) ?_
  refine PW.loop (σ := Nat) (fun i => n - i) (fun i => i ≤ n) (fun i => [(0, .ref c0), (1, .int (nI (cntA (x (c0 + 1)) i))), (2, .int (nI i))]) (fun _ => x) (0) (Nat.zero_le n) rfl rfl (fun i hi ih => ?_)
  refine r_iload_n dX6_asleepCount_4 rfl (by rfl) ?_
  refine r_aload_n dX6_asleepCount_5 rfl (by rfl) ?_
  refine gf_X6_36 rfl dX6_asleepCount_6 (by first | assumption | rfl) (by rfl) ?_
  refine gf_X6_44 rfl dX6_asleepCount_9 (by first | assumption | rfl) (by rfl) ?_
  refine PW.topi hs ?_
  refine r_icmp_geN (tgt := 37) dX6_asleepCount_12 (by decide) (by omega) (by omega) (fun h12 => ?_) (fun h12 => ?_)
  · refine r_iload_n dX6_asleepCount_37 rfl (by rfl) ?_
    refine r_iret rfl dX6_asleepCount_38 ?_
    first
      | (have e : i = n := by omega
         subst e
         exact ⟨rfl, rfl⟩)
  · refine r_iload_n dX6_asleepCount_15 rfl (by rfl) ?_
    refine r_aload_n dX6_asleepCount_16 rfl (by rfl) ?_
    refine r_iload_n dX6_asleepCount_17 rfl (by rfl) ?_
    refine r_callV (c_X6_isAsleep hN (by omega)) mv_X6_isAsleep ml_X6_67 ⟨by decide, by decide⟩ dX6_asleepCount_18 (by first | assumption | rfl) rfl rfl rfl (Nat.le_of_ble_eq_true rfl) (fun v9 x9 h9 => ?_)
    obtain ⟨rfl, h9⟩ := h9
    refine PW.xeq h9 ?_
    clear h9 x9
    refine r_if_eqB (tgt := 28) dX6_asleepCount_21 (by decide) (fun h21 => ?_) (fun h21 => ?_)
    · refine r_iconst (v := nI 0) dX6_asleepCount_28 (by decide) ?_
      have e29 : cntA (x (c0 + 1)) (i + 1) = cntA (x (c0 + 1)) i + (if asl (x (c0 + 1)) i then 1 else 0) := rfl
      rw [h21] at e29
      refine r_iaddN dX6_asleepCount_29 ?_
      simp only [if_true, if_false, Bool.false_eq_true, Nat.add_zero] at e29 ⊢
      rw [← e29]
      refine r_istore_n dX6_asleepCount_30 rfl (by decide) ?_
      first | refine r_iincN dX6_asleepCount_31 (by rfl) (by decide) ?_ | skip
      refine r_goto (tgt := 4) dX6_asleepCount_34 (by decide) ?_
      exact PW.lc (by rfl) rfl (ih (i + 1) (by omega) (by omega))
    · refine r_iconst (v := nI 1) dX6_asleepCount_24 (by decide) ?_
      refine r_goto (tgt := 29) dX6_asleepCount_25 (by decide) ?_
      have e29 : cntA (x (c0 + 1)) (i + 1) = cntA (x (c0 + 1)) i + (if asl (x (c0 + 1)) i then 1 else 0) := rfl
      rw [h21] at e29
      refine r_iaddN dX6_asleepCount_29 ?_
      simp only [if_true, if_false, Bool.false_eq_true, Nat.add_zero] at e29 ⊢
      rw [← e29]
      refine r_istore_n dX6_asleepCount_30 rfl (by decide) ?_
      first | refine r_iincN dX6_asleepCount_31 (by rfl) (by decide) ?_ | skip
      refine r_goto (tgt := 4) dX6_asleepCount_34 (by decide) ?_
      exact PW.lc (by rfl) rfl (ih (i + 1) (by omega) (by omega))
theorem dJ9_max_7cf53_0 : decode cJ9_max_7cf53 0 = .ok (.iload_n 0, 1) := by decide +kernel
theorem dJ9_max_7cf53_1 : decode cJ9_max_7cf53 1 = .ok (.iload_n 1, 1) := by decide +kernel
theorem dJ9_max_7cf53_2 : decode cJ9_max_7cf53 2 = .ok (.if_icmp .lt 7, 3) := by decide +kernel
theorem dJ9_max_7cf53_5 : decode cJ9_max_7cf53 5 = .ok (.iload_n 0, 1) := by decide +kernel
theorem dJ9_max_7cf53_6 : decode cJ9_max_7cf53 6 = .ok (.goto 4, 3) := by decide +kernel
theorem dJ9_max_7cf53_9 : decode cJ9_max_7cf53 9 = .ok (.iload_n 1, 1) := by decide +kernel
theorem dJ9_max_7cf53_10 : decode cJ9_max_7cf53 10 = .ok (.ireturn, 1) := by decide +kernel
theorem dJ9_min_7cf53_0 : decode cJ9_min_7cf53 0 = .ok (.iload_n 0, 1) := by decide +kernel
theorem dJ9_min_7cf53_1 : decode cJ9_min_7cf53 1 = .ok (.iload_n 1, 1) := by decide +kernel
theorem dJ9_min_7cf53_2 : decode cJ9_min_7cf53 2 = .ok (.if_icmp .gt 7, 3) := by decide +kernel
theorem dJ9_min_7cf53_5 : decode cJ9_min_7cf53 5 = .ok (.iload_n 0, 1) := by decide +kernel
theorem dJ9_min_7cf53_6 : decode cJ9_min_7cf53 6 = .ok (.goto 4, 3) := by decide +kernel
theorem dJ9_min_7cf53_9 : decode cJ9_min_7cf53 9 = .ok (.iload_n 1, 1) := by decide +kernel
theorem dJ9_min_7cf53_10 : decode cJ9_min_7cf53 10 = .ok (.ireturn, 1) := by decide +kernel
/-! Math -/
def imax (a b : Int32) : Int32 := if a < b then b else a
def imin (a b : Int32) : Int32 := if b < a then b else a
set_option maxHeartbeats 8000000 in
set_option maxRecDepth 20000 in
theorem c_max {a b : Int32} {x : XS} : MM mJ9_max_7cf53 0 0 0 [.int a, .int b] x (fun v x1 => v = some (.int (imax a b)) ∧ x1 = x) NoT := by
  refine MM.ofF (by decide +kernel) (Nat.le_of_ble_eq_true rfl) ?_
  refine r_iload_n dJ9_max_7cf53_0 rfl (by rfl) ?_
  refine r_iload_n dJ9_max_7cf53_1 rfl (by rfl) ?_
  refine r_icmp_lt (tgt := 9) dJ9_max_7cf53_2 (by decide) (fun h2 => ?_) (fun h2 => ?_)
  · refine r_iload_n dJ9_max_7cf53_9 rfl (by rfl) ?_
    refine r_iret rfl dJ9_max_7cf53_10 ?_
    refine ⟨?_, rfl⟩
    unfold imax
    first | rw [if_pos h2] | rw [if_neg h2]
  · refine r_iload_n dJ9_max_7cf53_5 rfl (by rfl) ?_
    refine r_goto (tgt := 10) dJ9_max_7cf53_6 (by decide) ?_
    refine r_iret rfl dJ9_max_7cf53_10 ?_
    refine ⟨?_, rfl⟩
    unfold imax
    first | rw [if_pos h2] | rw [if_neg h2]
set_option maxHeartbeats 8000000 in
set_option maxRecDepth 20000 in
theorem c_min {a b : Int32} {x : XS} : MM mJ9_min_7cf53 0 0 0 [.int a, .int b] x (fun v x1 => v = some (.int (imin a b)) ∧ x1 = x) NoT := by
  refine MM.ofF (by decide +kernel) (Nat.le_of_ble_eq_true rfl) ?_
  refine r_iload_n dJ9_min_7cf53_0 rfl (by rfl) ?_
  refine r_iload_n dJ9_min_7cf53_1 rfl (by rfl) ?_
  refine r_icmp_gt (tgt := 9) dJ9_min_7cf53_2 (by decide) (fun h2 => ?_) (fun h2 => ?_)
  · refine r_iload_n dJ9_min_7cf53_9 rfl (by rfl) ?_
    refine r_iret rfl dJ9_min_7cf53_10 ?_
    refine ⟨?_, rfl⟩
    unfold imin
    first | rw [if_pos h2] | rw [if_neg h2] | (rw [if_neg (Int32.not_lt.mpr h2)]) | (rw [if_pos (Int32.not_le.mp h2)])
  · refine r_iload_n dJ9_min_7cf53_5 rfl (by rfl) ?_
    refine r_goto (tgt := 10) dJ9_min_7cf53_6 (by decide) ?_
    refine r_iret rfl dJ9_min_7cf53_10 ?_
    refine ⟨?_, rfl⟩
    unfold imin
    first | rw [if_pos h2] | rw [if_neg h2] | (rw [if_neg (Int32.not_lt.mpr h2)]) | (rw [if_pos (Int32.not_le.mp h2)])
