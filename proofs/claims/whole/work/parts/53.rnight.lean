/-! THE REFERENCE: nights -/
def RS (x : XS) (E : NE) (w k : Int32) (f : Nat → Int32) : Prop := RRe x E ∧ x 137 19 = w ∧ x 137 42 = k ∧ RRow f (x 154) ∧ RO f
theorem RRe.sc {x y : XS} {E : NE} (h : RRe x E) (t : SC x y) : RRe y E := h.fr (fun c hc => t c (by omega) (by omega)) (by rw [t 137 (by decide) (by decide)]) (by rw [t 137 (by decide) (by decide)])
theorem RS.sc {x y : XS} {E : NE} {w k : Int32} {f : Nat → Int32} (h : RS x E w k f) (t : SC x y) : RS y E w k f := ⟨h.1.sc t, by rw [t 137 (by decide) (by decide)]; exact h.2.1, by rw [t 137 (by decide) (by decide)]; exact h.2.2.1, by rw [t 154 (by decide) (by decide)]; exact h.2.2.2.1, h.2.2.2.2⟩
/-- cells that minutes may change -/
def MF (x y : XS) : Prop := ∀ c, c ≠ 149 → c ≠ 150 → c ≠ 154 → c ≠ 156 → c ≠ 157 → y c = x c
theorem MF.rfl {x : XS} : MF x x := fun _ _ _ _ _ _ => _root_.rfl
theorem MF.trans {x y z : XS} (h : MF x y) (h2 : MF y z) : MF x z := fun c a1 a2 a3 a4 a5 => (h2 c a1 a2 a3 a4 a5).trans (h c a1 a2 a3 a4 a5)
theorem SC.mf {x y : XS} (h : SC x y) : MF x y := fun c a1 a2 _ _ _ => h c a1 a2
theorem MF.put {x y : XS} {c k : Nat} {v : Int32} (h : MF x y) (hc : c = 149 ∨ c = 150 ∨ c = 154 ∨ c = 156 ∨ c = 157) : MF x (xu y c k v) := fun d a1 a2 a3 a4 a5 => (xu_n (by omega)).trans (h d a1 a2 a3 a4 a5)
theorem MF.row {x y : XS} {c : Nat} {r : Nat → Int32} (h : MF x y) (hc : c = 149 ∨ c = 150 ∨ c = 154 ∨ c = 156 ∨ c = 157) : MF x (xr y c r) := fun d a1 a2 a3 a4 a5 => (xr_n (by omega)).trans (h d a1 a2 a3 a4 a5)
theorem RRe.mf {x y : XS} {E : NE} (h : RRe x E) (t : MF x y) : RRe y E := h.fr (fun c hc => t c (by omega) (by omega) (by omega) (by omega) (by omega)) (by rw [t 137 (by decide) (by decide) (by decide) (by decide) (by decide)]) (by rw [t 137 (by decide) (by decide) (by decide) (by decide) (by decide)])
theorem RS.mf {x y : XS} {E : NE} {w k : Int32} {f f' : Nat → Int32} (h : RS x E w k f) (t : MF x y) (hr : RRow f' (y 154)) (ho : RO f') : RS y E w k f' := ⟨h.1.mf t, by rw [t 137 (by decide) (by decide) (by decide) (by decide) (by decide)]; exact h.2.1, by rw [t 137 (by decide) (by decide) (by decide) (by decide) (by decide)]; exact h.2.2.1, hr, ho⟩
set_option maxHeartbeats 8000000 in
set_option maxRecDepth 20000 in
theorem c_copies {sc dc n ns nd : Nat} {x : XS} (h1 : lay sc = .inr (.inl ns)) (h2 : lay dc = .inr (.inl nd)) (hns : n ≤ ns) (hnd : n ≤ nd) (b1 : ns < 2 ^ 31) (b2 : nd < 2 ^ 31) (hne : sc ≠ dc) : MM mX10_copies 0 0 0 [.ref 137, .ref sc, .ref dc, .int (nI n)] x (fun v y => v = none ∧ y = xr x dc (cpR (x dc) (x sc) n)) NoT := by
  refine MM.of (by decide) (Nat.le_of_ble_eq_true rfl) ?_
  refine r_iconst (v := nI 0) dX10_copies_0 (by decide) ?_
  refine r_istore dX10_copies_1 (by decide) ?_
  refine PW.loop (σ := Nat) (fun i => n - i) (fun i => i ≤ n) (fun i => [(0, .ref 137), (1, .ref sc), (2, .ref dc), (3, .int (nI n)), (4, .int (nI i))]) (fun i => xr x dc (cpR (x dc) (x sc) i)) (0) (Nat.zero_le n) rfl (xr_id x dc).symm (fun i hi ih => ?_)
  refine r_iload dX10_copies_3 (by rfl) ?_
  refine r_iload_n dX10_copies_5 rfl (by rfl) ?_
  refine r_icmp_geN (tgt := 23) dX10_copies_6 (by decide) (by omega) (by omega) (fun h6 => ?_) (fun h6 => ?_)
  · refine r_ret rfl dX10_copies_23 ?_
    have e : i = n := by omega
    subst e
    exact ⟨rfl, rfl⟩
  · refine r_aload_n dX10_copies_9 rfl (by rfl) ?_
    refine r_iload dX10_copies_10 (by rfl) ?_
    refine r_aload_n dX10_copies_12 rfl (by rfl) ?_
    refine r_iload dX10_copies_13 (by rfl) ?_
    refine r_ialdN dX10_copies_15 (by first | assumption | rfl) (by omega) (by omega) ?_
    refine r_iastN dX10_copies_16 (by first | assumption | rfl) (by omega) (by omega) ?_
    refine r_iincN dX10_copies_17 (by rfl) (by decide) ?_
    refine r_goto (tgt := 3) dX10_copies_20 (by decide) ?_
    exact PW.lc (by rfl) (by rw [xr_n hne, xu_xr]; rfl) (ih (i + 1) (by omega) (by omega))
def tkR (x : XS) : XS := xr (xu (xr x 154 (x 153)) 137 42 (nI 0)) 157 rd0
theorem csz_153 : csz 153 = 42 ∧ csz 154 = 42 ∧ csz 157 = 5 ∧ csz 150 = 9 ∧ csz 156 = 5 := by decide +kernel
set_option maxHeartbeats 8000000 in
set_option maxRecDepth 20000 in
theorem c_take {x : XS} : MM mX10_take 1 0 0 [.ref 137] x (fun v y => v = none ∧ y = tkR x) NoT := by
  refine MM.of (by decide) (Nat.le_of_ble_eq_true rfl) ?_
  have y137 := lay_137
  have y153 := lay_153
  have y154 := lay_154
  have y157 := lay_157
  refine r_aload_n dX10_take_0 rfl (by rfl) ?_
  refine r_aload_n dX10_take_1 rfl (by rfl) ?_
  refine gf_X10_62 rfl dX10_take_2 (by first | assumption | rfl) (by rfl) ?_
  refine r_aload_n dX10_take_5 rfl (by rfl) ?_
  refine gf_X10_65 rfl dX10_take_6 (by first | assumption | rfl) (by rfl) ?_
  refine r_bipush (v := nI 42) dX10_take_9 (by decide) ?_
  refine r_callV (c_copies lay_153 lay_154 (by decide) (by decide) (by decide) (by decide) (by decide)) mv_X10_copies ml_X10_165 ⟨by decide, by decide⟩ dX10_take_11 (by first | assumption | rfl) rfl rfl rfl (Nat.le_of_ble_eq_true rfl) (fun v9 x9 h9 => ?_)
  obtain ⟨rfl, h9⟩ := h9
  refine PW.xeq h9 ?_
  clear h9 x9
  refine PW.agr (x' := xr x 154 (x 153)) (fun c k hk => ?_) ?_
  · by_cases h4 : c = 154
    · subst h4
      rw [xr_s, xr_s]
      exact cpR_lt 42 (by rw [csz_153.2.1] at hk; exact hk)
    · rw [xr_n h4, xr_n h4]
  refine r_aload_n dX10_take_14 rfl (by rfl) ?_
  refine r_iconst (v := nI 0) dX10_take_15 (by decide) ?_
  refine pf_X10_334 rfl dX10_take_16 (by first | assumption | rfl) (by rfl) ?_
  refine r_iconst (v := nI 0) dX10_take_19 (by decide) ?_
  refine r_istore_n dX10_take_20 rfl (by decide) ?_
  refine PW.loop (σ := Nat) (fun i => 5 - i) (fun i => i ≤ 5) (fun i => [(0, .ref 137), (1, .int (nI i))]) (fun i => xr (xu (xr x 154 (x 153)) 137 42 (nI 0)) 157 (zfill (x 157) i)) (0) (Nat.zero_le 5) rfl (xr_id (xu (xr x 154 (x 153)) 137 42 (nI 0)) 157).symm (fun i hi ih => ?_)
  refine r_iload_n dX10_take_21 rfl (by rfl) ?_
  refine r_iconst (v := nI 5) dX10_take_22 (by decide) ?_
  refine r_icmp_geN (tgt := 39) dX10_take_23 (by decide) (by omega) (by omega) (fun h23 => ?_) (fun h23 => ?_)
  · refine PW.agr (x' := tkR x) (fun c k hk => ?_) ?_
    · unfold tkR
      rw [show i = 5 by omega]
      by_cases h7 : c = 157
      · subst h7
        rw [xr_s, xr_s]
        exact zfill_lt 5 (by rw [csz_153.2.2.1] at hk; exact hk)
      · rw [xr_n h7, xr_n h7]
    refine r_ret rfl dX10_take_39 ?_
    exact ⟨rfl, rfl⟩
  · refine r_aload_n dX10_take_26 rfl (by rfl) ?_
    refine gf_X10_74 rfl dX10_take_27 (by first | assumption | rfl) (by rfl) ?_
    refine r_iload_n dX10_take_30 rfl (by rfl) ?_
    refine r_iconst (v := nI 0) dX10_take_31 (by decide) ?_
    refine r_iastN dX10_take_32 (by first | assumption | rfl) (by omega) (by decide) ?_
    refine r_iincN dX10_take_33 (by rfl) (by decide) ?_
    refine r_goto (tgt := 21) dX10_take_36 (by decide) ?_
    exact PW.lc (by rfl) (by rw [xu_xr]; rfl) (ih (i + 1) (by omega) (by omega))
set_option maxHeartbeats 8000000 in
set_option maxRecDepth 20000 in
theorem n_isAsleep {f : Nat → Int32} {p : Nat} {x : XS} (hr : RRow f (x 154)) (hp : p < 5) : MM mX10_isAsleep 0 0 0 [.ref 137, .int (nI p)] x (fun v y => v = some (.int (bI (asl f p))) ∧ y = x) NoT := by
  refine MM.of (by decide) (Nat.le_of_ble_eq_true rfl) ?_
  have y137 := lay_137
  have y154 := lay_154
  refine r_aload_n dX10_isAsleep_0 rfl (by rfl) ?_
  refine gf_X10_65 rfl dX10_isAsleep_1 (by first | assumption | rfl) (by rfl) ?_
  refine r_bipush (v := nI 15) dX10_isAsleep_4 (by decide) ?_
  refine r_iload_n dX10_isAsleep_6 rfl (by rfl) ?_
  refine r_iaddN dX10_isAsleep_7 ?_
  refine r_ialdN dX10_isAsleep_8 (by first | assumption | rfl) (by omega) (by decide) ?_
  refine PW.topi (show _ = f (10 + p) from (hr.1 p hp).2.2.2.1) ?_
  refine r_if_le (tgt := 16) dX10_isAsleep_9 (by decide) (fun h9 => ?_) (fun h9 => ?_)
  · refine r_iconst (v := nI 0) dX10_isAsleep_16 (by decide) ?_
    refine r_zret rfl (by first | exact bI_01 _ | exact Or.inl rfl | exact Or.inr rfl) dX10_isAsleep_17 ?_
    refine ⟨congrArg some (congrArg Value.int ?_), rfl⟩
    unfold asl
    first
      | (rw [decide_eq_true (Int32.not_le.mp h9)]; rfl)
      | (rw [decide_eq_false (Int32.not_lt.mpr h9)]; rfl)
  · refine r_iconst (v := nI 1) dX10_isAsleep_12 (by decide) ?_
    refine r_goto (tgt := 17) dX10_isAsleep_13 (by decide) ?_
    refine r_zret rfl (by first | exact bI_01 _ | exact Or.inl rfl | exact Or.inr rfl) dX10_isAsleep_17 ?_
    refine ⟨congrArg some (congrArg Value.int ?_), rfl⟩
    unfold asl
    first
      | (rw [decide_eq_true (Int32.not_le.mp h9)]; rfl)
      | (rw [decide_eq_false (Int32.not_lt.mpr h9)]; rfl)
set_option maxHeartbeats 8000000 in
set_option maxRecDepth 20000 in
theorem n_findFacts {E : NE} {p : Nat} {de he : Int32} {x : XS} (hE : RRe x E) (hp : p < eN E) : MM mX10_findFacts 0 0 0 [.ref 137, .int (nI p), .int de, .int he] x (fun v y => v = none ∧ y = xr x 150 (fct (eH E 2 p) (eH E 4 p) (eH E 5 p) de (x 154 (0 + p)) he (eH E 1 p) (x 154 40) (nI 0))) NoT := by
  refine MM.of (by decide) (Nat.le_of_ble_eq_true rfl) ?_
  have y137 := lay_137
  have y142 := lay_142
  have y150 := lay_150
  have y154 := lay_154
  have n5 := hE.2.1
  refine r_aload_n dX10_findFacts_0 rfl (by rfl) ?_
  refine gf_X10_53 rfl dX10_findFacts_1 (by first | assumption | rfl) (by rfl) ?_
  refine r_iconst (v := nI 0) dX10_findFacts_4 (by decide) ?_
  refine r_aload_n dX10_findFacts_5 rfl (by rfl) ?_
  refine gf_X10_29 rfl dX10_findFacts_6 (by first | assumption | rfl) (by rfl) ?_
  refine r_bipush (v := nI 8) dX10_findFacts_9 (by decide) ?_
  refine r_iload_n dX10_findFacts_11 rfl (by rfl) ?_
  refine r_imulN dX10_findFacts_12 ?_
  refine r_iconst (v := nI 2) dX10_findFacts_13 (by decide) ?_
  refine r_iaddN dX10_findFacts_14 ?_
  refine r_ialdN dX10_findFacts_15 (by first | assumption | rfl) (by omega) (by decide) ?_
  refine r_iastN dX10_findFacts_16 (by first | assumption | rfl) (by omega) (by decide) ?_
  refine r_aload_n dX10_findFacts_17 rfl (by rfl) ?_
  refine gf_X10_53 rfl dX10_findFacts_18 (by first | assumption | rfl) (by rfl) ?_
  refine r_iconst (v := nI 1) dX10_findFacts_21 (by decide) ?_
  refine r_aload_n dX10_findFacts_22 rfl (by rfl) ?_
  refine gf_X10_29 rfl dX10_findFacts_23 (by first | assumption | rfl) (by rfl) ?_
  refine r_bipush (v := nI 8) dX10_findFacts_26 (by decide) ?_
  refine r_iload_n dX10_findFacts_28 rfl (by rfl) ?_
  refine r_imulN dX10_findFacts_29 ?_
  refine r_iconst (v := nI 4) dX10_findFacts_30 (by decide) ?_
  refine r_iaddN dX10_findFacts_31 ?_
  refine r_ialdN dX10_findFacts_32 (by first | assumption | rfl) (by omega) (by decide) ?_
  refine r_iastN dX10_findFacts_33 (by first | assumption | rfl) (by omega) (by decide) ?_
  refine r_aload_n dX10_findFacts_34 rfl (by rfl) ?_
  refine gf_X10_53 rfl dX10_findFacts_35 (by first | assumption | rfl) (by rfl) ?_
  refine r_iconst (v := nI 2) dX10_findFacts_38 (by decide) ?_
  refine r_aload_n dX10_findFacts_39 rfl (by rfl) ?_
  refine gf_X10_29 rfl dX10_findFacts_40 (by first | assumption | rfl) (by rfl) ?_
  refine r_bipush (v := nI 8) dX10_findFacts_43 (by decide) ?_
  refine r_iload_n dX10_findFacts_45 rfl (by rfl) ?_
  refine r_imulN dX10_findFacts_46 ?_
  refine r_iconst (v := nI 5) dX10_findFacts_47 (by decide) ?_
  refine r_iaddN dX10_findFacts_48 ?_
  refine r_ialdN dX10_findFacts_49 (by first | assumption | rfl) (by omega) (by decide) ?_
  refine r_iastN dX10_findFacts_50 (by first | assumption | rfl) (by omega) (by decide) ?_
  refine r_aload_n dX10_findFacts_51 rfl (by rfl) ?_
  refine gf_X10_53 rfl dX10_findFacts_52 (by first | assumption | rfl) (by rfl) ?_
  refine r_iconst (v := nI 3) dX10_findFacts_55 (by decide) ?_
  refine r_iload_n dX10_findFacts_56 rfl (by rfl) ?_
  refine r_iastN dX10_findFacts_57 (by first | assumption | rfl) (by omega) (by decide) ?_
  refine r_aload_n dX10_findFacts_58 rfl (by rfl) ?_
  refine gf_X10_53 rfl dX10_findFacts_59 (by first | assumption | rfl) (by rfl) ?_
  refine r_iconst (v := nI 4) dX10_findFacts_62 (by decide) ?_
  refine r_aload_n dX10_findFacts_63 rfl (by rfl) ?_
  refine gf_X10_65 rfl dX10_findFacts_64 (by first | assumption | rfl) (by rfl) ?_
  refine r_iconst (v := nI 0) dX10_findFacts_67 (by decide) ?_
  refine r_iload_n dX10_findFacts_68 rfl (by rfl) ?_
  refine r_iaddN dX10_findFacts_69 ?_
  refine r_ialdN dX10_findFacts_70 (by first | assumption | rfl) (by omega) (by decide) ?_
  refine r_iastN dX10_findFacts_71 (by first | assumption | rfl) (by omega) (by decide) ?_
  refine r_aload_n dX10_findFacts_72 rfl (by rfl) ?_
  refine gf_X10_53 rfl dX10_findFacts_73 (by first | assumption | rfl) (by rfl) ?_
  refine r_iconst (v := nI 5) dX10_findFacts_76 (by decide) ?_
  refine r_iload_n dX10_findFacts_77 rfl (by rfl) ?_
  refine r_iastN dX10_findFacts_78 (by first | assumption | rfl) (by omega) (by decide) ?_
  refine r_aload_n dX10_findFacts_79 rfl (by rfl) ?_
  refine gf_X10_53 rfl dX10_findFacts_80 (by first | assumption | rfl) (by rfl) ?_
  refine r_bipush (v := nI 6) dX10_findFacts_83 (by decide) ?_
  refine r_aload_n dX10_findFacts_85 rfl (by rfl) ?_
  refine gf_X10_29 rfl dX10_findFacts_86 (by first | assumption | rfl) (by rfl) ?_
  refine r_bipush (v := nI 8) dX10_findFacts_89 (by decide) ?_
  refine r_iload_n dX10_findFacts_91 rfl (by rfl) ?_
  refine r_imulN dX10_findFacts_92 ?_
  refine r_iconst (v := nI 1) dX10_findFacts_93 (by decide) ?_
  refine r_iaddN dX10_findFacts_94 ?_
  refine r_ialdN dX10_findFacts_95 (by first | assumption | rfl) (by omega) (by decide) ?_
  refine r_iastN dX10_findFacts_96 (by first | assumption | rfl) (by omega) (by decide) ?_
  refine r_aload_n dX10_findFacts_97 rfl (by rfl) ?_
  refine gf_X10_53 rfl dX10_findFacts_98 (by first | assumption | rfl) (by rfl) ?_
  refine r_bipush (v := nI 7) dX10_findFacts_101 (by decide) ?_
  refine r_aload_n dX10_findFacts_103 rfl (by rfl) ?_
  refine gf_X10_65 rfl dX10_findFacts_104 (by first | assumption | rfl) (by rfl) ?_
  refine r_bipush (v := nI 40) dX10_findFacts_107 (by decide) ?_
  refine r_ialdN dX10_findFacts_109 (by first | assumption | rfl) (by omega) (by decide) ?_
  refine r_iastN dX10_findFacts_110 (by first | assumption | rfl) (by omega) (by decide) ?_
  refine r_aload_n dX10_findFacts_111 rfl (by rfl) ?_
  refine gf_X10_53 rfl dX10_findFacts_112 (by first | assumption | rfl) (by rfl) ?_
  refine r_bipush (v := nI 8) dX10_findFacts_115 (by decide) ?_
  refine r_iconst (v := nI 0) dX10_findFacts_117 (by decide) ?_
  refine r_iastN dX10_findFacts_118 (by first | assumption | rfl) (by omega) (by decide) ?_
  refine PW.agr (x' := xr x 150 (fct (eH E 2 p) (eH E 4 p) (eH E 5 p) de (x 154 (0 + p)) he (eH E 1 p) (x 154 40) (nI 0))) (fun c k hk => ?_) ?_
  · by_cases h0 : c = 150
    · subst h0
      rw [csz_153.2.2.2.1] at hk
      have r1 := hE.2.2.1 1 (by decide) p hp
      have r2 := hE.2.2.1 2 (by decide) p hp
      have r4 := hE.2.2.1 4 (by decide) p hp
      have r5 := hE.2.2.1 5 (by decide) p hp
      rw [xr_s]
      rcases (show k = 0 ∨ k = 1 ∨ k = 2 ∨ k = 3 ∨ k = 4 ∨ k = 5 ∨ k = 6 ∨ k = 7 ∨ k = 8 by omega) with rfl | rfl | rfl | rfl | rfl | rfl | rfl | rfl | rfl
      · exact r2
      · exact r4
      · exact r5
      · rfl
      · rfl
      · rfl
      · exact r1
      · rfl
      · rfl
    · rw [xr_n h0, xu_n h0, xu_n h0, xu_n h0, xu_n h0, xu_n h0, xu_n h0, xu_n h0, xu_n h0, xu_n h0]
  refine r_ret rfl dX10_findFacts_119 ?_
  exact ⟨rfl, rfl⟩
set_option maxHeartbeats 8000000 in
set_option maxRecDepth 20000 in
theorem n_loudOf {E : NE} {w k : Int32} {f : Nat → Int32} {p : Nat} {x : XS} (hS : RS x E w k f) (hp : p < eN E) : MM mX10_loudOf 3 0 0 [.ref 137, .int (nI p)] x (fun v y => v = some (.int (louP E f p)) ∧ SC x y) NoT := by
  refine MM.of (by decide) (Nat.le_of_ble_eq_true rfl) ?_
  have y137 := lay_137
  have y154 := lay_154
  have n5 := hS.1.2.1
  refine r_aload_n dX10_loudOf_0 rfl (by rfl) ?_
  refine r_iload_n dX10_loudOf_1 rfl (by rfl) ?_
  refine r_aload_n dX10_loudOf_2 rfl (by rfl) ?_
  refine gf_X10_65 rfl dX10_loudOf_3 (by first | assumption | rfl) (by rfl) ?_
  refine r_bipush (v := nI 15) dX10_loudOf_6 (by decide) ?_
  refine r_iload_n dX10_loudOf_8 rfl (by rfl) ?_
  refine r_iaddN dX10_loudOf_9 ?_
  refine r_ialdN dX10_loudOf_10 (by first | assumption | rfl) (by omega) (by decide) ?_
  refine r_iconst (v := nI 0) dX10_loudOf_11 (by decide) ?_
  refine r_callV (n_findFacts hS.1 hp) mv_X10_findFacts ml_X10_337 ⟨by decide, by decide⟩ dX10_loudOf_12 (by first | assumption | rfl) rfl rfl rfl (Nat.le_of_ble_eq_true rfl) (fun v9 x9 h9 => ?_)
  obtain ⟨rfl, h9⟩ := h9
  refine PW.xeq h9 ?_
  clear h9 x9
  refine r_aload_n dX10_loudOf_15 rfl (by rfl) ?_
  refine r_callV (c_loudNow (l := eL E) (x := xr x 150 (fct (eH E 2 p) (eH E 4 p) (eH E 5 p) (x 154 (15 + p)) (x 154 (0 + p)) (nI 0) (eH E 1 p) (x 154 40) (nI 0))) (hS.1.2.2.2.2.2.1.fr rfl rfl rfl)) mv_X10_loudNow ml_X10_340 ⟨by decide, by decide⟩ dX10_loudOf_16 (by first | assumption | rfl) rfl rfl rfl (Nat.le_of_ble_eq_true rfl) (fun v9 y h9 => ?_)
  obtain ⟨rfl, F9⟩ := h9
  refine r_iret rfl dX10_loudOf_19 ?_
  refine ⟨congrArg some (congrArg Value.int ?_), fun c a1 a2 => (F9 c a1).trans (xr_n a2)⟩
  have e := hS.2.2.2.1.1 p (by omega)
  rw [xr_s, e.1, e.2.2.2.1, hS.2.2.2.1.2.1]
  rfl
theorem lou_is (E : NE) (f : Nat → Int32) (p : Nat) : ∃ k, k ≤ 40 ∧ louP E f p = nI k := bnd_is _
theorem imax0 (d : Int32) : imax (nI 0) d = if d ≤ 0 then nI 0 else d := by
  unfold imax
  by_cases h : nI 0 < d
  · rw [if_pos h, if_neg (show ¬ d ≤ 0 from Int32.not_le.mpr h)]
  · rw [if_neg h, if_pos (show d ≤ 0 from Int32.not_lt.mp h)]
set_option maxHeartbeats 8000000 in
set_option maxRecDepth 20000 in
theorem n_from {E : NE} {w k : Int32} {f : Nat → Int32} {p o : Nat} {x : XS} (hS : RS x E w k f) (hw : ∃ n, n ≤ 40 ∧ w = nI n) (hp : p < 5) (ho : o < eN E) : MM mX10_from 4 0 0 [.ref 137, .int (nI p), .int (nI o)] x (fun v y => v = some (.int (rchP E w f p o)) ∧ SC x y) NoT := by
  refine MM.of (by decide) (Nat.le_of_ble_eq_true rfl) ?_
  have y137 := lay_137
  have y154 := lay_154
  have n5 := hS.1.2.1
  have ho5 : o < 5 := by omega
  refine r_iload_n dX10_from_0 rfl (by rfl) ?_
  refine r_iload_n dX10_from_1 rfl (by rfl) ?_
  refine r_icmp_eqN (tgt := 26) dX10_from_2 (by decide) (by omega) (by omega) (fun h2 => ?_) (fun h2 => ?_)
  · refine r_iconst (v := nI 0) dX10_from_26 (by decide) ?_
    refine r_iret rfl dX10_from_27 ?_
    first
      | (exact ⟨by unfold rchP; rw [if_pos h2.symm], SC.rfl⟩)
      | (refine ⟨congrArg some (congrArg Value.int ?_), by first | exact F9 | exact SC.rfl⟩
         have eo := hS.2.2.2.1.1 o ho5
         have ep := hS.2.2.2.1.1 p hp
         obtain ⟨wn, hw1, rfl⟩ := hw
         obtain ⟨sd, hsd, esd⟩ := (hS.2.2.2.2.2 o ho5).2.2.2
         unfold rchP
         have sz : snoP E f o = nI 0 := by
           unfold snoP
           first
             | (rw [h10]; rfl)
             | (rw [if_neg (by
                 rw [h10, Bool.true_and]
                 intro q
                 have q := of_decide_eq_true q
                 have h23 : nI sd = nI 1 := by rw [← esd, ← eo.2.2.2.2.1]; exact h23
                 rw [esd, h23] at q
                 exact absurd q (by decide +kernel))])
         by_cases hpo : p = o
         · rw [if_pos hpo]
         · rw [if_neg hpo, sz]
           split
           · rfl
           · rw [imax0, if_pos (by
               rcases (show wn = 0 ∨ 0 < wn by omega) with rfl | h9
               · decide +kernel
               · exact Int32.le_of_lt (pk_sneg (by omega) h9))])
  · refine r_aload_n dX10_from_5 rfl (by rfl) ?_
    refine r_iload_n dX10_from_6 rfl (by rfl) ?_
    refine r_callV (n_isAsleep hS.2.2.2.1 ho5) mv_X10_isAsleep ml_X10_343 ⟨by decide, by decide⟩ dX10_from_7 (by first | assumption | rfl) rfl rfl rfl (Nat.le_of_ble_eq_true rfl) (fun v9 x9 h9 => ?_)
    obtain ⟨rfl, h9⟩ := h9
    refine PW.xeq h9 ?_
    clear h9 x9
    refine r_if_eqB (tgt := 26) dX10_from_10 (by decide) (fun h10 => ?_) (fun h10 => ?_)
    · refine r_iconst (v := nI 0) dX10_from_26 (by decide) ?_
      refine r_iret rfl dX10_from_27 ?_
      first
        | (exact ⟨by unfold rchP; rw [if_pos h2.symm], SC.rfl⟩)
        | (refine ⟨congrArg some (congrArg Value.int ?_), by first | exact F9 | exact SC.rfl⟩
           have eo := hS.2.2.2.1.1 o ho5
           have ep := hS.2.2.2.1.1 p hp
           obtain ⟨wn, hw1, rfl⟩ := hw
           obtain ⟨sd, hsd, esd⟩ := (hS.2.2.2.2.2 o ho5).2.2.2
           unfold rchP
           have sz : snoP E f o = nI 0 := by
             unfold snoP
             first
               | (rw [h10]; rfl)
               | (rw [if_neg (by
                   rw [h10, Bool.true_and]
                   intro q
                   have q := of_decide_eq_true q
                   have h23 : nI sd = nI 1 := by rw [← esd, ← eo.2.2.2.2.1]; exact h23
                   rw [esd, h23] at q
                   exact absurd q (by decide +kernel))])
           by_cases hpo : p = o
           · rw [if_pos hpo]
           · rw [if_neg hpo, sz]
             split
             · rfl
             · rw [imax0, if_pos (by
                 rcases (show wn = 0 ∨ 0 < wn by omega) with rfl | h9
                 · decide +kernel
                 · exact Int32.le_of_lt (pk_sneg (by omega) h9))])
    · refine r_aload_n dX10_from_13 rfl (by rfl) ?_
      refine gf_X10_65 rfl dX10_from_14 (by first | assumption | rfl) (by rfl) ?_
      refine r_bipush (v := nI 20) dX10_from_17 (by decide) ?_
      refine r_iload_n dX10_from_19 rfl (by rfl) ?_
      refine r_iaddN dX10_from_20 ?_
      refine r_ialdN dX10_from_21 (by first | assumption | rfl) (by omega) (by decide) ?_
      refine r_iconst (v := nI 1) dX10_from_22 (by decide) ?_
      refine r_icmp_ne (tgt := 28) dX10_from_23 (by decide) (fun h23 => ?_) (fun h23 => ?_)
      · refine r_aload_n dX10_from_28 rfl (by rfl) ?_
        refine r_iload_n dX10_from_29 rfl (by rfl) ?_
        refine r_callV (n_loudOf hS ho) mv_X10_loudOf ml_X10_346 ⟨by decide, by decide⟩ dX10_from_30 (by first | assumption | rfl) rfl rfl rfl (Nat.le_of_ble_eq_true rfl) (fun v9 y h9 => ?_)
        obtain ⟨rfl, F9⟩ := h9
        have S9 := hS.sc F9
        have e154 : y 154 = x 154 := F9 154 (by decide) (by decide)
        refine r_aload_n dX10_from_33 rfl (by rfl) ?_
        refine gf_X10_65 rfl dX10_from_34 (by first | assumption | rfl) (by rfl) ?_
        refine r_iconst (v := nI 5) dX10_from_37 (by decide) ?_
        refine r_iload_n dX10_from_38 rfl (by rfl) ?_
        refine r_iaddN dX10_from_39 ?_
        refine r_ialdN dX10_from_40 (by first | assumption | rfl) (by omega) (by decide) ?_
        refine r_aload_n dX10_from_41 rfl (by rfl) ?_
        refine gf_X10_65 rfl dX10_from_42 (by first | assumption | rfl) (by rfl) ?_
        refine r_iconst (v := nI 5) dX10_from_45 (by decide) ?_
        refine r_iload_n dX10_from_46 rfl (by rfl) ?_
        refine r_iaddN dX10_from_47 ?_
        refine r_ialdN dX10_from_48 (by first | assumption | rfl) (by omega) (by decide) ?_
        refine r_icmp_ne (tgt := 56) dX10_from_49 (by decide) (fun h49 => ?_) (fun h49 => ?_)
        · refine r_aload_n dX10_from_56 rfl (by rfl) ?_
          refine gf_X10_159 rfl dX10_from_57 (by first | assumption | rfl) (by rfl) ?_
          refine r_isub dX10_from_60 ?_
          refine r_istore_n dX10_from_61 rfl (by decide) ?_
          refine r_iload_n dX10_from_62 rfl (by rfl) ?_
          refine r_if_le (tgt := 70) dX10_from_63 (by decide) (fun h63 => ?_) (fun h63 => ?_)
          · refine r_iconst (v := nI 0) dX10_from_70 (by decide) ?_
            refine r_iret rfl dX10_from_71 ?_
            refine ⟨congrArg some (congrArg Value.int ?_), by first | exact F9 | exact SC.rfl⟩
            have eo := hS.2.2.2.1.1 o ho5
            have ep := hS.2.2.2.1.1 p hp
            obtain ⟨wn, hw1, rfl⟩ := hw
            obtain ⟨sd, hsd, esd⟩ := (hS.2.2.2.2.2 o ho5).2.2.2
            unfold rchP
            have sz : snoP E f o = louP E f o := by
              unfold snoP
              rw [if_pos (by
                rw [h10, Bool.true_and]
                refine decide_eq_true ?_
                rw [esd]
                have h23 : ¬ nI sd = nI 1 := by rw [← esd, ← eo.2.2.2.2.1]; exact h23
                rcases (show sd = 0 ∨ sd = 1 by omega) with rfl | rfl
                · rfl
                · exact absurd rfl h23)]
            obtain ⟨m, hm, em⟩ := lou_is E f o
            rw [if_neg (show ¬ p = o by omega), sz]
            rw [e154, eo.2.1, ep.2.1] at h49
            first
              | (rw [if_pos (show f (5 + p) = f (5 + o) from h49.symm)]
                 first
                   | (rw [em] at h63
                      have : m = 0 := by
                        by_cases q : m = 0
                        · exact q
                        · exact absurd h63 (show ¬ nI m - nI 0 ≤ 0 by rw [pk_sub (Nat.zero_le _)]; exact nI_nle (by omega) (by omega))
                      rw [em, this])
                   | (rw [show nI 0 = 0 from rfl, Int32.sub_zero]; done))
              | (rw [if_neg (fun q => h49 q.symm), imax0]
                 rw [S9.2.1] at h63
                 try rw [S9.2.1]
                 first
                   | (rw [if_pos h63]; done)
                   | (rw [if_neg h63]; done))
          · refine r_iload_n dX10_from_66 rfl (by rfl) ?_
            refine r_goto (tgt := 71) dX10_from_67 (by decide) ?_
            refine r_iret rfl dX10_from_71 ?_
            refine ⟨congrArg some (congrArg Value.int ?_), by first | exact F9 | exact SC.rfl⟩
            have eo := hS.2.2.2.1.1 o ho5
            have ep := hS.2.2.2.1.1 p hp
            obtain ⟨wn, hw1, rfl⟩ := hw
            obtain ⟨sd, hsd, esd⟩ := (hS.2.2.2.2.2 o ho5).2.2.2
            unfold rchP
            have sz : snoP E f o = louP E f o := by
              unfold snoP
              rw [if_pos (by
                rw [h10, Bool.true_and]
                refine decide_eq_true ?_
                rw [esd]
                have h23 : ¬ nI sd = nI 1 := by rw [← esd, ← eo.2.2.2.2.1]; exact h23
                rcases (show sd = 0 ∨ sd = 1 by omega) with rfl | rfl
                · rfl
                · exact absurd rfl h23)]
            obtain ⟨m, hm, em⟩ := lou_is E f o
            rw [if_neg (show ¬ p = o by omega), sz]
            rw [e154, eo.2.1, ep.2.1] at h49
            first
              | (rw [if_pos (show f (5 + p) = f (5 + o) from h49.symm)]
                 first
                   | (rw [em] at h63
                      have : m = 0 := by
                        by_cases q : m = 0
                        · exact q
                        · exact absurd h63 (show ¬ nI m - nI 0 ≤ 0 by rw [pk_sub (Nat.zero_le _)]; exact nI_nle (by omega) (by omega))
                      rw [em, this])
                   | (rw [show nI 0 = 0 from rfl, Int32.sub_zero]; done))
              | (rw [if_neg (fun q => h49 q.symm), imax0]
                 rw [S9.2.1] at h63
                 try rw [S9.2.1]
                 first
                   | (rw [if_pos h63]; done)
                   | (rw [if_neg h63]; done))
        · refine r_iconst (v := nI 0) dX10_from_52 (by decide) ?_
          refine r_goto (tgt := 60) dX10_from_53 (by decide) ?_
          refine r_isub dX10_from_60 ?_
          refine r_istore_n dX10_from_61 rfl (by decide) ?_
          refine r_iload_n dX10_from_62 rfl (by rfl) ?_
          refine r_if_le (tgt := 70) dX10_from_63 (by decide) (fun h63 => ?_) (fun h63 => ?_)
          · refine r_iconst (v := nI 0) dX10_from_70 (by decide) ?_
            refine r_iret rfl dX10_from_71 ?_
            refine ⟨congrArg some (congrArg Value.int ?_), by first | exact F9 | exact SC.rfl⟩
            have eo := hS.2.2.2.1.1 o ho5
            have ep := hS.2.2.2.1.1 p hp
            obtain ⟨wn, hw1, rfl⟩ := hw
            obtain ⟨sd, hsd, esd⟩ := (hS.2.2.2.2.2 o ho5).2.2.2
            unfold rchP
            have sz : snoP E f o = louP E f o := by
              unfold snoP
              rw [if_pos (by
                rw [h10, Bool.true_and]
                refine decide_eq_true ?_
                rw [esd]
                have h23 : ¬ nI sd = nI 1 := by rw [← esd, ← eo.2.2.2.2.1]; exact h23
                rcases (show sd = 0 ∨ sd = 1 by omega) with rfl | rfl
                · rfl
                · exact absurd rfl h23)]
            obtain ⟨m, hm, em⟩ := lou_is E f o
            rw [if_neg (show ¬ p = o by omega), sz]
            rw [e154, eo.2.1, ep.2.1] at h49
            first
              | (rw [if_pos (show f (5 + p) = f (5 + o) from h49.symm)]
                 first
                   | (rw [em] at h63
                      have : m = 0 := by
                        by_cases q : m = 0
                        · exact q
                        · exact absurd h63 (show ¬ nI m - nI 0 ≤ 0 by rw [pk_sub (Nat.zero_le _)]; exact nI_nle (by omega) (by omega))
                      rw [em, this])
                   | (rw [show nI 0 = 0 from rfl, Int32.sub_zero]; done))
              | (rw [if_neg (fun q => h49 q.symm), imax0]
                 rw [S9.2.1] at h63
                 try rw [S9.2.1]
                 first
                   | (rw [if_pos h63]; done)
                   | (rw [if_neg h63]; done))
          · refine r_iload_n dX10_from_66 rfl (by rfl) ?_
            refine r_goto (tgt := 71) dX10_from_67 (by decide) ?_
            refine r_iret rfl dX10_from_71 ?_
            refine ⟨congrArg some (congrArg Value.int ?_), by first | exact F9 | exact SC.rfl⟩
            have eo := hS.2.2.2.1.1 o ho5
            have ep := hS.2.2.2.1.1 p hp
            obtain ⟨wn, hw1, rfl⟩ := hw
            obtain ⟨sd, hsd, esd⟩ := (hS.2.2.2.2.2 o ho5).2.2.2
            unfold rchP
            have sz : snoP E f o = louP E f o := by
              unfold snoP
              rw [if_pos (by
                rw [h10, Bool.true_and]
                refine decide_eq_true ?_
                rw [esd]
                have h23 : ¬ nI sd = nI 1 := by rw [← esd, ← eo.2.2.2.2.1]; exact h23
                rcases (show sd = 0 ∨ sd = 1 by omega) with rfl | rfl
                · rfl
                · exact absurd rfl h23)]
            obtain ⟨m, hm, em⟩ := lou_is E f o
            rw [if_neg (show ¬ p = o by omega), sz]
            rw [e154, eo.2.1, ep.2.1] at h49
            first
              | (rw [if_pos (show f (5 + p) = f (5 + o) from h49.symm)]
                 first
                   | (rw [em] at h63
                      have : m = 0 := by
                        by_cases q : m = 0
                        · exact q
                        · exact absurd h63 (show ¬ nI m - nI 0 ≤ 0 by rw [pk_sub (Nat.zero_le _)]; exact nI_nle (by omega) (by omega))
                      rw [em, this])
                   | (rw [show nI 0 = 0 from rfl, Int32.sub_zero]; done))
              | (rw [if_neg (fun q => h49 q.symm), imax0]
                 rw [S9.2.1] at h63
                 try rw [S9.2.1]
                 first
                   | (rw [if_pos h63]; done)
                   | (rw [if_neg h63]; done))
      · refine r_iconst (v := nI 0) dX10_from_26 (by decide) ?_
        refine r_iret rfl dX10_from_27 ?_
        first
          | (exact ⟨by unfold rchP; rw [if_pos h2.symm], SC.rfl⟩)
          | (refine ⟨congrArg some (congrArg Value.int ?_), by first | exact F9 | exact SC.rfl⟩
             have eo := hS.2.2.2.1.1 o ho5
             have ep := hS.2.2.2.1.1 p hp
             obtain ⟨wn, hw1, rfl⟩ := hw
             obtain ⟨sd, hsd, esd⟩ := (hS.2.2.2.2.2 o ho5).2.2.2
             unfold rchP
             have sz : snoP E f o = nI 0 := by
               unfold snoP
               first
                 | (rw [h10]; rfl)
                 | (rw [if_neg (by
                     rw [h10, Bool.true_and]
                     intro q
                     have q := of_decide_eq_true q
                     have h23 : nI sd = nI 1 := by rw [← esd, ← eo.2.2.2.2.1]; exact h23
                     rw [esd, h23] at q
                     exact absurd q (by decide +kernel))])
             by_cases hpo : p = o
             · rw [if_pos hpo]
             · rw [if_neg hpo, sz]
               split
               · rfl
               · rw [imax0, if_pos (by
                   rcases (show wn = 0 ∨ 0 < wn by omega) with rfl | h9
                   · decide +kernel
                   · exact Int32.le_of_lt (pk_sneg (by omega) h9))])
theorem heaP_ref {E : NE} {w k : Int32} {f : Nat → Int32} {p t : Nat} (ht : f 40 = nI t) (h2 : t ≤ 240) : heaP E w k f p = imax (nI 0) (eC E (t % 60) + k - f (35 + p) + smP (rchP E w f p) (eN E)) := by
  unfold heaP
  rw [ht, nI_clamp (by omega)]
  congr 1
  rw [Int32.sub_eq_add_neg, Int32.sub_eq_add_neg, Int32.add_assoc _ (smP (rchP E w f p) (eN E)) _, Int32.add_comm (smP (rchP E w f p) (eN E)), ← Int32.add_assoc]
set_option maxHeartbeats 8000000 in
set_option maxRecDepth 20000 in
theorem n_noiseOf {E : NE} {w k : Int32} {f : Nat → Int32} {p t : Nat} {x : XS} (hS : RS x E w k f) (hw : ∃ n, n ≤ 40 ∧ w = nI n) (hp : p < 5) (ht : f 40 = nI t) (ht2 : t ≤ 240) : MM mX10_noiseOf 5 0 0 [.ref 137, .int (nI p)] x (fun v y => v = some (.int (heaP E w k f p)) ∧ SC x y) NoT := by
  refine MM.of (by decide) (Nat.le_of_ble_eq_true rfl) ?_
  have y137 := lay_137
  have y143 := lay_143
  have y154 := lay_154
  have n5 := hS.1.2.1
  refine r_aload_n dX10_noiseOf_0 rfl (by rfl) ?_
  refine gf_X10_32 rfl dX10_noiseOf_1 (by first | assumption | rfl) (by rfl) ?_
  refine r_aload_n dX10_noiseOf_4 rfl (by rfl) ?_
  refine gf_X10_65 rfl dX10_noiseOf_5 (by first | assumption | rfl) (by rfl) ?_
  refine r_bipush (v := nI 40) dX10_noiseOf_8 (by decide) ?_
  refine r_ialdN dX10_noiseOf_10 (by first | assumption | rfl) (by omega) (by decide) ?_
  refine PW.topi (show _ = nI t from hS.2.2.2.1.2.1.trans ht) ?_
  refine r_bipush (v := nI 60) dX10_noiseOf_11 (by decide) ?_
  refine r_iremN dX10_noiseOf_13 (by omega) (by omega) (by omega) ?_
  refine r_ialdN dX10_noiseOf_14 (by first | assumption | rfl) (by omega) (by decide) ?_
  refine PW.topi (show _ = eC E (t % 60) from hS.1.2.2.2.1 _ (by omega)) ?_
  refine r_aload_n dX10_noiseOf_15 rfl (by rfl) ?_
  refine gf_X10_334 rfl dX10_noiseOf_16 (by first | assumption | rfl) (by rfl) ?_
  refine PW.topi (show _ = k from hS.2.2.1) ?_
  refine r_iadd dX10_noiseOf_19 ?_
  refine r_aload_n dX10_noiseOf_20 rfl (by rfl) ?_
  refine gf_X10_65 rfl dX10_noiseOf_21 (by first | assumption | rfl) (by rfl) ?_
  refine r_bipush (v := nI 10) dX10_noiseOf_24 (by decide) ?_
  refine r_iload_n dX10_noiseOf_26 rfl (by rfl) ?_
  refine r_iaddN dX10_noiseOf_27 ?_
  refine r_ialdN dX10_noiseOf_28 (by first | assumption | rfl) (by omega) (by decide) ?_
  refine PW.topi (show _ = f (35 + p) from (hS.2.2.2.1.1 p hp).2.2.1) ?_
  refine r_isub dX10_noiseOf_29 ?_
  refine r_istore_n dX10_noiseOf_30 rfl (by decide) ?_
  refine r_iconst (v := nI 0) dX10_noiseOf_31 (by decide) ?_
  refine r_istore_n dX10_noiseOf_32 rfl (by decide) ?_
  refine PW.loop (σ := Nat × XS) (fun s => eN E - s.1) (fun s => s.1 ≤ eN E ∧ SC x s.2) (fun s => [(0, .ref 137), (1, .int (nI p)), (2, .int (eC E (t % 60) + k - f (35 + p) + smP (rchP E w f p) s.1)), (3, .int (nI s.1))]) (fun s => s.2) ((0, x)) (⟨Nat.zero_le _, SC.rfl⟩) (by dsimp only; rw [show smP (rchP E w f p) 0 = 0 from rfl, Int32.add_zero]; rfl) rfl (fun s hs ih => ?_)
  obtain ⟨hs1, hF⟩ := hs
  refine r_iload_n dX10_noiseOf_33 rfl (by rfl) ?_
  refine r_aload_n dX10_noiseOf_34 rfl (by rfl) ?_
  refine gf_X10_156 rfl dX10_noiseOf_35 (by first | assumption | rfl) (by rfl) ?_
  refine PW.topi (show _ = nI (eN E) from (hS.sc hF).1.1) ?_
  refine r_icmp_geN (tgt := 56) dX10_noiseOf_38 (by decide) (by omega) (by omega) (fun h38 => ?_) (fun h38 => ?_)
  · refine r_iload_n dX10_noiseOf_56 rfl (by rfl) ?_
    refine r_if_le (tgt := 64) dX10_noiseOf_57 (by decide) (fun h57 => ?_) (fun h57 => ?_)
    · refine r_iconst (v := nI 0) dX10_noiseOf_64 (by decide) ?_
      refine r_iret rfl dX10_noiseOf_65 ?_
      have es : s.1 = eN E := by omega
      refine ⟨congrArg some (congrArg Value.int ?_), hF⟩
      rw [heaP_ref ht ht2, imax0, ← es]
      first
        | (rw [if_pos h57]; done)
        | (rw [if_neg h57]; done)
    · refine r_iload_n dX10_noiseOf_60 rfl (by rfl) ?_
      refine r_goto (tgt := 65) dX10_noiseOf_61 (by decide) ?_
      refine r_iret rfl dX10_noiseOf_65 ?_
      have es : s.1 = eN E := by omega
      refine ⟨congrArg some (congrArg Value.int ?_), hF⟩
      rw [heaP_ref ht ht2, imax0, ← es]
      first
        | (rw [if_pos h57]; done)
        | (rw [if_neg h57]; done)
  · refine r_iload_n dX10_noiseOf_41 rfl (by rfl) ?_
    refine r_aload_n dX10_noiseOf_42 rfl (by rfl) ?_
    refine r_iload_n dX10_noiseOf_43 rfl (by rfl) ?_
    refine r_iload_n dX10_noiseOf_44 rfl (by rfl) ?_
    refine r_callV (n_from (hS.sc hF) hw hp (show s.1 < eN E by omega)) mv_X10_from ml_X10_349 ⟨by decide, by decide⟩ dX10_noiseOf_45 (by first | assumption | rfl) rfl rfl rfl (Nat.le_of_ble_eq_true rfl) (fun v9 y h9 => ?_)
    obtain ⟨rfl, F9⟩ := h9
    refine r_iadd dX10_noiseOf_48 ?_
    refine r_istore_n dX10_noiseOf_49 rfl (by decide) ?_
    refine r_iincN dX10_noiseOf_50 (by rfl) (by decide) ?_
    refine r_goto (tgt := 33) dX10_noiseOf_53 (by decide) ?_
    refine PW.lc ?_ rfl (ih (s.1 + 1, y) ⟨(show s.1 + 1 ≤ eN E by omega), hF.trans F9⟩ (show eN E - (s.1 + 1) < eN E - s.1 by omega))
    dsimp only
    rw [show smP (rchP E w f p) (s.1 + 1) = smP (rchP E w f p) s.1 + rchP E w f p s.1 from rfl, ← Int32.add_assoc]
    rfl
