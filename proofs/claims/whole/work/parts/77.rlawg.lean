/-! THE REFERENCE: law -/
theorem txt_RR2 {x y : XS} {a : AS} {n : Nat} {e : PE} (hR : RRf x a) (hc : ∀ c, c ≠ 137 → c = 138 ∨ c = 142 ∨ c = 143 ∨ c = 146 ∨ c = 147 ∨ c = 148 ∨ c = 153 ∨ c = 155 ∨ c = 159 ∨ c = 162 → y c = x c) (hk : ∀ k, k = 18 ∨ k = 19 ∨ k = 20 ∨ k = 32 ∨ k = 33 ∨ k = 45 ∨ k = 52 → y 137 k = x 137 k) (h2 : y 137 2 = nI 0) (hP : PSt y (aT a) n (.error e)) : RRf (xu y 137 8 (y 137 5)) (setT a (aT a) 0 (nI e.2)) := by
  refine hR.tape (fun c h7 h9 => (xu_n h7).trans (hc c h7 h9)) (fun k h9 => (xu_k (by omega)).trans (hk k h9)) ((xu_k (by decide)).trans h2) (by decide) (fun j hj => ?_) (xu_s.trans hP.2.1)
  rw [xu_n (by decide)]
  exact hP.1.2.2 j hj
def lcX (y : XS) (w : Nat) : Nat → XS
  | 0 => y
  | i + 1 => xu (xu (lcX y w i) 146 (150 * w + i) (lcX y w i 144 i)) 147 (150 * w + i) (lcX y w i 145 i)
theorem lcX_n {y : XS} {w c : Nat} (h1 : c ≠ 146) (h2 : c ≠ 147) : ∀ i, lcX y w i c = y c
  | 0 => rfl
  | i + 1 => by
    show xu (xu (lcX y w i) 146 _ _) 147 _ _ c = _
    rw [xu_n h2, xu_n h1]
    exact lcX_n h1 h2 i
theorem lcX_row {y : XS} {w : Nat} : ∀ i j, lcX y w i 146 j = (if 150 * w ≤ j ∧ j < 150 * w + i then y 144 (j - 150 * w) else y 146 j) ∧ lcX y w i 147 j = (if 150 * w ≤ j ∧ j < 150 * w + i then y 145 (j - 150 * w) else y 147 j)
  | 0, j => by
    rw [if_neg (by omega), if_neg (by omega)]
    exact ⟨rfl, rfl⟩
  | i + 1, j => by
    obtain ⟨h1, h2⟩ := lcX_row (y := y) (w := w) i j
    have e4 : lcX y w i 144 = y 144 := lcX_n (by decide) (by decide) i
    have e5 : lcX y w i 145 = y 145 := lcX_n (by decide) (by decide) i
    show xu (xu (lcX y w i) 146 _ _) 147 _ _ 146 j = _ ∧ xu (xu (lcX y w i) 146 _ _) 147 _ _ 147 j = _
    rw [xu_n (show 146 ≠ 147 by decide), e4, e5]
    by_cases hj : j = 150 * w + i
    · subst hj
      rw [xu_s, xu_s, if_pos (by omega), if_pos (by omega), show 150 * w + i - 150 * w = i by omega]
      exact ⟨rfl, rfl⟩
    · rw [xu_k hj, xu_k hj, xu_n (show 147 ≠ 146 by decide), h1, h2]
      by_cases hi : 150 * w ≤ j ∧ j < 150 * w + i
      · rw [if_pos hi, if_pos hi, if_pos (by omega), if_pos (by omega)]
        exact ⟨rfl, rfl⟩
      · rw [if_neg hi, if_neg hi, if_neg (by omega), if_neg (by omega)]
        exact ⟨rfl, rfl⟩
theorem law_RR {x z : XS} {a : AS} {w : Nat} {l : List Nat} (hR : RRf x a) (hw : w < 2) (hl : LW l) (hc : ∀ c, c ≠ 137 → c = 138 ∨ c = 142 ∨ c = 143 ∨ c = 153 ∨ c = 155 ∨ c = 159 ∨ c = 162 → z c = x c) (hk : ∀ k, k = 18 ∨ k = 19 ∨ k = 20 ∨ k = 32 ∨ k = 33 ∨ k = 45 ∨ k = 52 → z 137 k = x 137 k) (h2 : z 137 2 = nI 0) (h8 : z 137 8 = -1) (hT : ∀ j, j < 600 → z 139 j = nI (aT a j) ∧ aT a j < 256) (h148 : z 148 w = nI l.length) (o148 : z 148 (1 - w) = x 148 (1 - w)) (h146 : ∀ i q, l[i]? = some q → z 146 (150 * w + i) = nI (kdN q) ∧ z 147 (150 * w + i) = nI (ofN q)) (o146 : ∀ i, i < 150 → z 146 (150 * (1 - w) + i) = x 146 (150 * (1 - w) + i) ∧ z 147 (150 * (1 - w) + i) = x 147 (150 * (1 - w) + i)) : RRf z ((eN (aE a), eH (aE a), eC (aE a), eO (aE a), eW (aE a), (if nI w = nI 0 then l else eL (aE a)), (if nI w = nI 0 then eF (aE a) else l)), a.2.1, (aT a, 0, -1), a.2.2.2) := by
  obtain ⟨h1, k2, h3, h4, h5, k6, h7, k8, h9, h10⟩ := hR
  obtain ⟨p1, p2, p3, p4, p5, p6, p7⟩ := h1
  have other : ∀ m, RLo x (1 - w) m → RLo z (1 - w) m := fun m hm => by
    refine ⟨hm.1, hm.2.imp (fun q => ⟨o148.trans q.1, q.2⟩) (fun q => ⟨o148.trans q.1, fun i q9 hq => ?_⟩)⟩
    have hi : i < m.length := (List.getElem?_eq_some_iff.mp hq).1
    have := hm.1.1
    rw [(o146 i (by omega)).1, (o146 i (by omega)).2]
    exact q.2 i q9 hq
  refine ⟨⟨(hk 18 (by omega)).trans p1, p2, fun k hk p hp => ?_, fun m hm => ?_, (hk 20 (by omega)).trans p5, ?_, ?_⟩, (hk 19 (by omega)).trans k2, ?_, ⟨h2, Nat.zero_le _, hT, h8⟩, ?_, ?_, ?_, (hk 33 (by omega)).trans k8, ?_, ?_⟩
  · rw [hc 142 (by omega) (by omega)]; exact p3 k hk p hp
  · rw [hc 143 (by omega) (by omega)]; exact p4 m hm
  · show RLo z 0 (if nI w = nI 0 then l else eL (aE a))
    rcases (show w = 0 ∨ w = 1 by omega) with rfl | rfl
    · rw [if_pos rfl]
      exact ⟨hl, Or.inr ⟨h148, h146⟩⟩
    · rw [if_neg (by decide +kernel)]
      exact other _ p6
  · show RLo z 1 (if nI w = nI 0 then eF (aE a) else l)
    rcases (show w = 0 ∨ w = 1 by omega) with rfl | rfl
    · rw [if_pos rfl]
      exact other _ p7
    · rw [if_neg (by decide +kernel)]
      exact ⟨hl, Or.inr ⟨h148, h146⟩⟩
  · rw [hc 153 (by omega) (by omega)]; exact h3
  · rw [hc 159 (by omega) (by omega), hk 45 (by omega)]; exact h5
  · rw [hc 155 (by omega) (by omega), hk 32 (by omega)]; exact k6
  · rw [hc 162 (by omega) (by omega), hk 52 (by omega)]; exact h7
  · rw [hc 138 (by omega) (by omega)]; exact h9
  · rw [hc 138 (by omega) (by omega)]; exact h10
def lw0 (x : XS) (n : Nat) : XS := xu (bgX (th0 x) n) 137 27 (nI 0)
theorem lw0_n {x : XS} {n c : Nat} (h : c ≠ 137) : lw0 x n c = x c := by
  unfold lw0
  rw [xu_n h, bg_n h]
  exact xu_n h
theorem lw0_k {x : XS} {n k : Nat} (h : ¬ (2 ≤ k ∧ k ≤ 8)) (h2 : k ≠ 27) : lw0 x n 137 k = th0 x 137 k := by
  unfold lw0
  rw [xu_k h2, bg_k h]
set_option maxHeartbeats 8000000 in
set_option maxRecDepth 20000 in
theorem law_tail {a : AS} {x y : XS} {n w : Nat} {r : LR} (hR : RRf x a) (hw : w < 2) (hw1 : inB (nI w) (nI 0) (nI 1) = true) (hin : inB (nI n) (nI 0) (nI (min 150 (aH a))) = true) (hn : n ≤ 150) (hr : r = pLaw (aT a) n 0) (hP : PSt y (aT a) n (xpo r)) (K : LK (lw0 x n) y) (hC : ∀ p, r = .ok p → y 137 27 = nI p.1.length ∧ ∀ i q, p.1[i]? = some q → y 144 i = nI (kdN q) ∧ y 145 i = nI (ofN q)) : PW mX10_law (RM 40 0 0) 0 0 (RP x (oLaw a (nI w) (nI n)).1 (oLaw a (nI w) (nI n)).2 1) NoT 86 [(0, .ref 137), (1, .int (nI w)), (2, .int (nI n))] [] y := by
  have y137 := lay_137
  have y144 := lay_144
  have y145 := lay_145
  have y146 := lay_146
  have y147 := lay_147
  have y148 := lay_148
  cases r with
  | error e =>
    have hP : PSt y (aT a) n (.error e) := hP
    refine r_aload_n dX10_law_86 rfl (by rfl) ?_
    refine r_iconst (v := nI 1) dX10_law_87 (by decide) ?_
    refine r_callV n_result mv_X10_result ml_X10_237 ⟨by decide, by decide⟩ dX10_law_88 (by first | assumption | rfl) rfl rfl rfl (Nat.le_of_ble_eq_true rfl) (fun v9 x9 h9 => ?_)
    obtain ⟨rfl, h9⟩ := h9
    refine PW.xeq h9 ?_
    clear h9 x9
    refine r_istore_n dX10_law_91 rfl (by decide) ?_
    refine r_aload_n dX10_law_92 rfl (by rfl) ?_
    refine gf_X10_101 rfl dX10_law_93 (by first | assumption | rfl) (by rfl) ?_
    refine r_iconst (v := -1) dX10_law_96 (by decide) ?_
    refine r_icmp_eq (tgt := 102) dX10_law_97 (by decide) (fun h97 => ?_) (fun h97 => ?_)
    · exact absurd (show y 137 5 = -1 from h97) hP.bad
    · refine r_iload_n dX10_law_100 rfl (by rfl) ?_
      refine r_iret rfl dX10_law_101 ?_
      refine rchg_ok (b := setT a (aT a) 0 (nI e.2)) (by unfold oLaw; rw [if_pos hw1, if_pos hin, nN_nI (by omega), ← hr, if_neg hP.bad, hP.2.2.1]; rfl) (txt_RR2 hR (fun c a1 a2 => (K.1 c a1 (by omega) (by omega)).trans (lw0_n a1)) (fun k a1 => (K.2 k (by omega) (by omega)).trans ((lw0_k (by omega) (by omega)).trans (xu_k (by omega)))) ((K.2 2 (by omega) (by omega)).trans rfl) hP) (fun c hc => (xu_n (by omega)).trans ((K.1 c (by omega) (by omega) (by omega)).trans (lw0_n (by omega)))) ((xu_k (by decide)).trans ((K.2 0 (by omega) (by omega)).trans rfl))
  | ok p =>
    have hP : PSt y (aT a) n (.ok p.2) := hP
    have hcd := hC p rfl
    have LL0 : LW p.1 := pLaw_LW (fun j hj => (hP.1.2.2 j hj).2) hn hP.2.2.1 hr.symm
    have L15 := LL0.1
    refine r_aload_n dX10_law_86 rfl (by rfl) ?_
    refine r_iconst (v := nI 1) dX10_law_87 (by decide) ?_
    refine r_callV n_result mv_X10_result ml_X10_237 ⟨by decide, by decide⟩ dX10_law_88 (by first | assumption | rfl) rfl rfl rfl (Nat.le_of_ble_eq_true rfl) (fun v9 x9 h9 => ?_)
    obtain ⟨rfl, h9⟩ := h9
    refine PW.xeq h9 ?_
    clear h9 x9
    refine r_istore_n dX10_law_91 rfl (by decide) ?_
    refine r_aload_n dX10_law_92 rfl (by rfl) ?_
    refine gf_X10_101 rfl dX10_law_93 (by first | assumption | rfl) (by rfl) ?_
    refine r_iconst (v := -1) dX10_law_96 (by decide) ?_
    refine r_icmp_eq (tgt := 102) dX10_law_97 (by decide) (fun h97 => ?_) (fun h97 => ?_)
    · refine r_aload_n dX10_law_102 rfl (by rfl) ?_
      refine gf_X10_47 rfl dX10_law_103 (by first | assumption | rfl) (by rfl) ?_
      refine r_iload_n dX10_law_106 rfl (by rfl) ?_
      refine r_aload_n dX10_law_107 rfl (by rfl) ?_
      refine gf_X10_241 rfl dX10_law_108 (by first | assumption | rfl) (by rfl) ?_
      refine PW.topi (show _ = nI p.1.length from hcd.1) ?_
      refine r_iastN dX10_law_111 (by first | assumption | rfl) (by omega) (by decide) ?_
      refine r_iconst (v := nI 0) dX10_law_112 (by decide) ?_
      refine r_istore dX10_law_113 (by decide) ?_
      refine PW.lc (L' := [(0, .ref 137), (1, .int (nI w)), (2, .int (nI n)), (3, .int (nI 1)), (4, .int (nI 0))]) (by show [_, _, _, _, _] = _; rw [if_pos hP.2.2.2]; rfl) rfl ?_
      refine PW.loop (σ := Nat) (fun i => p.1.length - i) (fun i => i ≤ p.1.length) (fun i => [(0, .ref 137), (1, .int (nI w)), (2, .int (nI n)), (3, .int (nI 1)), (4, .int (nI i))]) (fun i => lcX (xu (xu y 137 8 (y 137 5)) 148 w (nI p.1.length)) w i) (0) (Nat.zero_le _) rfl rfl (fun i hi ih => ?_)
      refine r_iload dX10_law_115 (by rfl) ?_
      refine r_aload_n dX10_law_117 rfl (by rfl) ?_
      refine gf_X10_241 rfl dX10_law_118 (by first | assumption | rfl) (by rfl) ?_
      refine PW.topi (show _ = nI p.1.length from (by rw [lcX_n (by decide) (by decide)]; exact hcd.1)) ?_
      refine r_icmp_geN (tgt := 170) dX10_law_121 (by decide) (by omega) (by omega) (fun h121 => ?_) (fun h121 => ?_)
      · refine r_iload_n dX10_law_170 rfl (by rfl) ?_
        refine r_iret rfl dX10_law_171 ?_
        have hi9 : i = p.1.length := by omega
        subst hi9
        have LL : LW p.1 := pLaw_LW (fun j hj => (hP.1.2.2 j hj).2) hn hP.2.2.1 hr.symm
        have c9 : ∀ c, c ≠ 137 → c ≠ 144 → c ≠ 145 → c ≠ 146 → c ≠ 147 → c ≠ 148 → lcX (xu (xu y 137 8 (y 137 5)) 148 w (nI p.1.length)) w p.1.length c = x c := fun c a1 a2 a3 a4 a5 a6 => by
          rw [lcX_n a4 a5, xu_n a6, xu_n a1, K.1 c a1 a2 a3]
          exact lw0_n a1
        have k9 : ∀ k, ¬ (2 ≤ k ∧ k ≤ 8) → k ≠ 27 → lcX (xu (xu y 137 8 (y 137 5)) 148 w (nI p.1.length)) w p.1.length 137 k = th0 x 137 k := fun k a1 a2 => by
          rw [lcX_n (by decide) (by decide), xu_n (by decide), xu_k (by omega), K.2 k (by omega) a2]
          exact lw0_k a1 a2
        have e4 : (xu (xu y 137 8 (y 137 5)) 148 w (nI p.1.length)) 144 = y 144 := rfl
        have e5 : (xu (xu y 137 8 (y 137 5)) 148 w (nI p.1.length)) 145 = y 145 := rfl
        refine rchg_ok (b := ((eN (aE a), eH (aE a), eC (aE a), eO (aE a), eW (aE a), (if nI w = nI 0 then p.1 else eL (aE a)), (if nI w = nI 0 then eF (aE a) else p.1)), a.2.1, (aT a, 0, -1), a.2.2.2)) (by unfold oLaw; rw [if_pos hw1, if_pos hin, nN_nI (by omega), ← hr]) (law_RR hR hw LL (fun c a1 a2 => c9 c (by omega) (by omega) (by omega) (by omega) (by omega) (by omega)) (fun k a1 => (k9 k (by omega) (by omega)).trans (xu_k (by omega))) ?_ ?_ ?_ ?_ ?_ ?_ ?_) (fun c hc => c9 c (by omega) (by omega) (by omega) (by omega) (by omega) (by omega)) ((k9 0 (by omega) (by omega)).trans xu_s)
        · rw [lcX_n (by decide) (by decide), xu_n (by decide), xu_k (by decide), K.2 2 (by omega) (by omega)]
          rfl
        · rw [lcX_n (by decide) (by decide), xu_n (by decide), xu_s]
          exact hP.2.2.2
        · rw [lcX_n (by decide) (by decide), xu_n (by decide), xu_n (by decide)]
          exact hP.1.2.2
        · rw [lcX_n (by decide) (by decide), xu_s]
        · rw [lcX_n (by decide) (by decide), xu_k (by omega), xu_n (by decide), K.1 148 (by decide) (by decide) (by decide)]
          exact congrFun (lw0_n (by decide)) _
        · intro i q hq
          have hi : i < p.1.length := (List.getElem?_eq_some_iff.mp hq).1
          rw [(lcX_row _ _).1, (lcX_row _ _).2, if_pos (by omega), if_pos (by omega), show 150 * w + i - 150 * w = i by omega, e4, e5]
          exact hcd.2 i q hq
        · intro i hi
          have := LL.1
          rw [(lcX_row _ _).1, (lcX_row _ _).2, if_neg (by omega), if_neg (by omega)]
          have e6 : (xu (xu y 137 8 (y 137 5)) 148 w (nI p.1.length)) 146 = x 146 := by rw [xu_n (by decide), xu_n (by decide), K.1 146 (by decide) (by decide) (by decide)]; exact lw0_n (by decide)
          have e7 : (xu (xu y 137 8 (y 137 5)) 148 w (nI p.1.length)) 147 = x 147 := by rw [xu_n (by decide), xu_n (by decide), K.1 147 (by decide) (by decide) (by decide)]; exact lw0_n (by decide)
          rw [e6, e7]
          exact ⟨rfl, rfl⟩
      · refine r_aload_n dX10_law_124 rfl (by rfl) ?_
        refine gf_X10_41 rfl dX10_law_125 (by first | assumption | rfl) (by rfl) ?_
        refine r_sipush (v := nI 150) dX10_law_128 (by decide) ?_
        refine r_iload_n dX10_law_131 rfl (by rfl) ?_
        refine r_imulN dX10_law_132 ?_
        refine r_iload dX10_law_133 (by rfl) ?_
        refine r_iaddN dX10_law_135 ?_
        refine r_aload_n dX10_law_136 rfl (by rfl) ?_
        refine gf_X10_35 rfl dX10_law_137 (by first | assumption | rfl) (by rfl) ?_
        refine r_iload dX10_law_140 (by rfl) ?_
        refine r_ialdN dX10_law_142 (by first | assumption | rfl) (by omega) (by decide) ?_
        refine r_iastN dX10_law_143 (by first | assumption | rfl) (by omega) (by decide) ?_
        refine r_aload_n dX10_law_144 rfl (by rfl) ?_
        refine gf_X10_44 rfl dX10_law_145 (by first | assumption | rfl) (by rfl) ?_
        refine r_sipush (v := nI 150) dX10_law_148 (by decide) ?_
        refine r_iload_n dX10_law_151 rfl (by rfl) ?_
        refine r_imulN dX10_law_152 ?_
        refine r_iload dX10_law_153 (by rfl) ?_
        refine r_iaddN dX10_law_155 ?_
        refine r_aload_n dX10_law_156 rfl (by rfl) ?_
        refine gf_X10_38 rfl dX10_law_157 (by first | assumption | rfl) (by rfl) ?_
        refine r_iload dX10_law_160 (by rfl) ?_
        refine r_ialdN dX10_law_162 (by first | assumption | rfl) (by omega) (by decide) ?_
        refine r_iastN dX10_law_163 (by first | assumption | rfl) (by omega) (by decide) ?_
        refine r_iincN dX10_law_164 (by rfl) (by decide) ?_
        refine r_goto (tgt := 115) dX10_law_167 (by decide) ?_
        exact PW.lc (by rfl) rfl (ih (i + 1) (show i + 1 ≤ p.1.length by omega) (show p.1.length - (i + 1) < p.1.length - i by omega))
    · exact absurd (show y 137 5 = -1 from hP.2.2.2) h97
set_option maxHeartbeats 8000000 in
set_option maxRecDepth 20000 in
theorem g_law {a : AS} {x : XS} {w9 v : Int32} (hR : RRf x a) (hA : AI a) : RCHG mX10_law [.ref 137, .int w9, .int v] x (oLaw a w9 v) 1 := by
  refine MM.of (by decide) (Nat.le_of_ble_eq_true rfl) ?_
  have y137 := lay_137
  have y144 := lay_144
  have y145 := lay_145
  have y146 := lay_146
  have y147 := lay_147
  have y148 := lay_148
  have hH := hR.2.2.2.1.2.1
  refine r_aload_n dX10_law_0 rfl (by rfl) ?_
  refine r_iconst (v := nI 0) dX10_law_1 (by decide) ?_
  refine pf_X10_3 rfl dX10_law_2 (by first | assumption | rfl) (by rfl) ?_
  refine r_aload_n dX10_law_5 rfl (by rfl) ?_
  refine r_iload_n dX10_law_6 rfl (by rfl) ?_
  refine r_iconst (v := nI 0) dX10_law_7 (by decide) ?_
  refine r_iconst (v := nI 1) dX10_law_8 (by decide) ?_
  refine r_callS c_within10 ms_X10_within ml_X10_282 ⟨by decide, by decide⟩ dX10_law_9 rfl (Nat.le_of_ble_eq_true rfl) (fun v9 x9 h9 => ?_)
  obtain ⟨rfl, h9⟩ := h9
  refine PW.xeq h9 ?_
  clear h9 x9
  refine r_if_eqB (tgt := 38) dX10_law_12 (by decide) (fun h12 => ?_) (fun h12 => ?_)
  · refine r_iconst (v := nI 0) dX10_law_38 (by decide) ?_
    refine r_iconst (v := nI 1) dX10_law_39 (by decide) ?_
    refine r_iconst (v := nI 1) dX10_law_40 (by decide) ?_
    refine r_callV (c_may_0 xu_s (by decide) (by decide)) mv_X10_may ml_X10_203 ⟨by decide, by decide⟩ dX10_law_41 lay_137 rfl rfl rfl (Nat.le_of_ble_eq_true rfl) (fun v9 x9 h9 => ?_)
    obtain ⟨rfl, h9⟩ := h9
    refine PW.xeq h9 ?_
    clear h9 x9
    refine r_if_neB (tgt := 49) dX10_law_44 (by decide) (fun h => by cases h) (fun _ => ?_)
    refine r_iconst (v := nI 0) dX10_law_47 (by decide) ?_
    refine r_iret rfl dX10_law_48 ?_
    first
      | exact rchg_er hR rfl (by rw [oLaw, if_neg (by rw [h12]; decide)])
      | exact rchg_er hR rfl (by rw [oLaw, if_pos h12, if_neg (tx_n hH (by decide) (Or.inl h16))])
      | exact rchg_er hR rfl (by rw [oLaw, if_pos h12, if_neg (tx_n hH (by decide) (Or.inr (Or.inl (by first | exact h24 | exact Int32.not_le.mp h24))))])
      | exact rchg_er hR rfl (by rw [oLaw, if_pos h12, if_neg (tx_n hH (by decide) (Or.inr (Or.inr (by first | exact h31 | exact Int32.not_le.mp h31))))])
  · refine r_iload_n dX10_law_15 rfl (by rfl) ?_
    refine r_if_lt (tgt := 38) dX10_law_16 (by decide) (fun h16 => ?_) (fun h16 => ?_)
    · refine r_iconst (v := nI 0) dX10_law_38 (by decide) ?_
      refine r_iconst (v := nI 1) dX10_law_39 (by decide) ?_
      refine r_iconst (v := nI 1) dX10_law_40 (by decide) ?_
      refine r_callV (c_may_0 xu_s (by decide) (by decide)) mv_X10_may ml_X10_203 ⟨by decide, by decide⟩ dX10_law_41 lay_137 rfl rfl rfl (Nat.le_of_ble_eq_true rfl) (fun v9 x9 h9 => ?_)
      obtain ⟨rfl, h9⟩ := h9
      refine PW.xeq h9 ?_
      clear h9 x9
      refine r_if_neB (tgt := 49) dX10_law_44 (by decide) (fun h => by cases h) (fun _ => ?_)
      refine r_iconst (v := nI 0) dX10_law_47 (by decide) ?_
      refine r_iret rfl dX10_law_48 ?_
      first
        | exact rchg_er hR rfl (by rw [oLaw, if_neg (by rw [h12]; decide)])
        | exact rchg_er hR rfl (by rw [oLaw, if_pos h12, if_neg (tx_n hH (by decide) (Or.inl h16))])
        | exact rchg_er hR rfl (by rw [oLaw, if_pos h12, if_neg (tx_n hH (by decide) (Or.inr (Or.inl (by first | exact h24 | exact Int32.not_le.mp h24))))])
        | exact rchg_er hR rfl (by rw [oLaw, if_pos h12, if_neg (tx_n hH (by decide) (Or.inr (Or.inr (by first | exact h31 | exact Int32.not_le.mp h31))))])
    · refine r_iload_n dX10_law_19 rfl (by rfl) ?_
      refine r_aload_n dX10_law_20 rfl (by rfl) ?_
      refine gf_X10_98 rfl dX10_law_21 (by first | assumption | rfl) (by rfl) ?_
      refine PW.topi (show _ = nI (aH a) from hR.2.2.2.1.1) ?_
      refine r_icmp_gt (tgt := 38) dX10_law_24 (by decide) (fun h24 => ?_) (fun h24 => ?_)
      · refine r_iconst (v := nI 0) dX10_law_38 (by decide) ?_
        refine r_iconst (v := nI 1) dX10_law_39 (by decide) ?_
        refine r_iconst (v := nI 1) dX10_law_40 (by decide) ?_
        refine r_callV (c_may_0 xu_s (by decide) (by decide)) mv_X10_may ml_X10_203 ⟨by decide, by decide⟩ dX10_law_41 lay_137 rfl rfl rfl (Nat.le_of_ble_eq_true rfl) (fun v9 x9 h9 => ?_)
        obtain ⟨rfl, h9⟩ := h9
        refine PW.xeq h9 ?_
        clear h9 x9
        refine r_if_neB (tgt := 49) dX10_law_44 (by decide) (fun h => by cases h) (fun _ => ?_)
        refine r_iconst (v := nI 0) dX10_law_47 (by decide) ?_
        refine r_iret rfl dX10_law_48 ?_
        first
          | exact rchg_er hR rfl (by rw [oLaw, if_neg (by rw [h12]; decide)])
          | exact rchg_er hR rfl (by rw [oLaw, if_pos h12, if_neg (tx_n hH (by decide) (Or.inl h16))])
          | exact rchg_er hR rfl (by rw [oLaw, if_pos h12, if_neg (tx_n hH (by decide) (Or.inr (Or.inl (by first | exact h24 | exact Int32.not_le.mp h24))))])
          | exact rchg_er hR rfl (by rw [oLaw, if_pos h12, if_neg (tx_n hH (by decide) (Or.inr (Or.inr (by first | exact h31 | exact Int32.not_le.mp h31))))])
      · refine r_iload_n dX10_law_27 rfl (by rfl) ?_
        refine r_sipush (v := nI 150) dX10_law_28 (by decide) ?_
        refine r_icmp_gt (tgt := 38) dX10_law_31 (by decide) (fun h31 => ?_) (fun h31 => ?_)
        · refine r_iconst (v := nI 0) dX10_law_38 (by decide) ?_
          refine r_iconst (v := nI 1) dX10_law_39 (by decide) ?_
          refine r_iconst (v := nI 1) dX10_law_40 (by decide) ?_
          refine r_callV (c_may_0 xu_s (by decide) (by decide)) mv_X10_may ml_X10_203 ⟨by decide, by decide⟩ dX10_law_41 lay_137 rfl rfl rfl (Nat.le_of_ble_eq_true rfl) (fun v9 x9 h9 => ?_)
          obtain ⟨rfl, h9⟩ := h9
          refine PW.xeq h9 ?_
          clear h9 x9
          refine r_if_neB (tgt := 49) dX10_law_44 (by decide) (fun h => by cases h) (fun _ => ?_)
          refine r_iconst (v := nI 0) dX10_law_47 (by decide) ?_
          refine r_iret rfl dX10_law_48 ?_
          first
            | exact rchg_er hR rfl (by rw [oLaw, if_neg (by rw [h12]; decide)])
            | exact rchg_er hR rfl (by rw [oLaw, if_pos h12, if_neg (tx_n hH (by decide) (Or.inl h16))])
            | exact rchg_er hR rfl (by rw [oLaw, if_pos h12, if_neg (tx_n hH (by decide) (Or.inr (Or.inl (by first | exact h24 | exact Int32.not_le.mp h24))))])
            | exact rchg_er hR rfl (by rw [oLaw, if_pos h12, if_neg (tx_n hH (by decide) (Or.inr (Or.inr (by first | exact h31 | exact Int32.not_le.mp h31))))])
        · refine r_iconst (v := nI 1) dX10_law_34 (by decide) ?_
          refine r_goto (tgt := 39) dX10_law_35 (by decide) ?_
          refine r_iconst (v := nI 1) dX10_law_39 (by decide) ?_
          refine r_iconst (v := nI 1) dX10_law_40 (by decide) ?_
          refine r_callV (c_may_1 xu_s) mv_X10_may ml_X10_203 ⟨by decide, by decide⟩ dX10_law_41 lay_137 rfl rfl rfl (Nat.le_of_ble_eq_true rfl) (fun v9 x9 h9 => ?_)
          obtain ⟨rfl, h9⟩ := h9
          refine PW.xeq h9 ?_
          clear h9 x9
          refine r_if_neB (tgt := 49) dX10_law_44 (by decide) (fun _ => ?_) (fun h => by cases h)
          obtain ⟨w, _, hw, rfl⟩ := inB_is (lo := 0) (hi := 1) h12 (by decide) (by decide)
          obtain ⟨n, hn1, hn2, rfl, hin⟩ := tx_y hH (show 150 ≤ 600 by decide) h16 (by first | exact h24 | exact Int32.not_lt.mpr h24) (by first | exact h31 | exact Int32.not_lt.mpr h31)
          refine r_aload_n dX10_law_49 rfl (by rfl) ?_
          refine r_iload_n dX10_law_50 rfl (by rfl) ?_
          refine r_callV n_begins mv_X10_begins ml_X10_207 ⟨by decide, by decide⟩ dX10_law_51 (by first | assumption | rfl) rfl rfl rfl (Nat.le_of_ble_eq_true rfl) (fun v9 x9 h9 => ?_)
          obtain ⟨rfl, h9⟩ := h9
          refine PW.xeq h9 ?_
          clear h9 x9
          refine r_aload_n dX10_law_54 rfl (by rfl) ?_
          refine r_iconst (v := nI 0) dX10_law_55 (by decide) ?_
          refine pf_X10_241 rfl dX10_law_56 (by first | assumption | rfl) (by rfl) ?_
          have L0 : LSt (lw0 x n) (aT a) n 0 (.ok ([], 0)) := ⟨PSt.ch (r := .ok 0) (bg_st hR.th (by omega)) (fun k hk => xu_k (by omega)) (xu_n (by decide)), rfl, hn1, fun p9 e9 => by
            injection e9 with e9
            subst e9
            exact ⟨rfl, Nat.le_refl _, fun i q hq => by cases hq⟩⟩
          refine r_aload_n dX10_law_59 rfl (by rfl) ?_
          refine r_callV (law_LPR (fun j hj => (hR.2.2.2.1.2.2.1 j hj).2) (by omega) (.ok ([], 0)) _ L0) mv_X10_readSum ml_X10_256 ⟨by decide, by decide⟩ dX10_law_60 (by first | assumption | rfl) rfl rfl rfl (Nat.le_of_ble_eq_true rfl) (fun v9 y1 h9 => ?_)
          obtain ⟨rfl, L1, K1⟩ := h9
          refine r_aload_n dX10_law_63 rfl (by rfl) ?_
          refine r_callV (t_fine L1.1) mv_X10_fine ml_X10_130 ⟨by decide, by decide⟩ dX10_law_64 (by first | assumption | rfl) rfl rfl rfl (Nat.le_of_ble_eq_true rfl) (fun v9 x9 h9 => ?_)
          obtain ⟨rfl, h9⟩ := h9
          refine PW.xeq h9 ?_
          clear h9 x9
          refine r_if_eqB (tgt := 86) dX10_law_67 (by decide) (fun h67 => ?_) (fun h67 => ?_)
          · first
              | (obtain ⟨e, he⟩ := okB_f h67
                 have he : (app (.ok ([], 0)) (pSum (aT a) n 6)) = .error e := by
                   cases hz : (app (.ok ([], 0)) (pSum (aT a) n 6)) with
                   | ok p9 => rw [hz] at he; cases he
                   | error e9 => rw [hz] at he; injection he with he; rw [he]
                 have he2 : pSum (aT a) n 6 0 = .error e := by
                   have he : xbn (pSum (aT a) n 6 0) (fun q => .ok ([] ++ q.1, q.2)) = .error e := he
                   cases hz : pSum (aT a) n 6 0 with
                   | ok p9 => rw [hz] at he; cases he
                   | error e9 => rw [hz] at he; injection he with he; rw [he]
                 have L2 := L1
                 rw [he] at L2
                 exact PW.lc (by rfl) rfl (law_tail (r := .error e) hR (by omega) h12 hin hn1 (by unfold pLaw; rw [he2]; rfl) L2.1 K1 (fun p9 e9 => by cases e9)))
              | (have hz : ¬ skip (aT a) n p.2 < n := of_decide_eq_false h74
                 have L3 := L2.2.2.2 p rfl
                 exact PW.lc (by rfl) rfl (law_tail (r := .ok (p.1, skip (aT a) n p.2)) hR (by omega) h12 hin hn1 (by unfold pLaw pEnd; rw [hq9, xbn_ok, if_pos ((nx_end S1.gg (by omega)).mpr hz), xbn_ok]) P2 (K1.trans CH.gd.lk) (fun p9 e9 => by
                   injection e9 with e9
                   subst e9
                   exact ⟨L3.1, L3.2.2⟩)))
              | (have hz : skip (aT a) n p.2 < n := of_decide_eq_true h74
                 exact PW.lc (by rfl) rfl (law_tail (r := .error (1, skip (aT a) n p.2)) hR (by omega) h12 hin hn1 (by unfold pLaw pEnd; rw [hq9, xbn_ok, if_neg (fun q => (nx_end S1.gg (by omega)).mp q hz)]; rfl) P3 ((K1.trans CH.gd.lk).trans C3.lk) (fun p9 e9 => by cases e9)))
          · obtain ⟨p, hp⟩ := okL h67
            have L2 := L1
            rw [hp] at L2
            have S1 : PSt y1 (aT a) n (.ok p.2) := L2.1
            have hp2 : p.2 ≤ n := S1.2.2.1
            have hsl := skip_le (g := aT a) hp2
            have hq9 : pSum (aT a) n 6 0 = .ok p := by
              obtain ⟨q, h1, h2⟩ := xbn_is (show xbn (pSum (aT a) n 6 0) (fun q => .ok ([] ++ q.1, q.2)) = .ok p from hp)
              injection h2 with h2
              rw [← h2, h1]
              rfl
            refine r_aload_n dX10_law_70 rfl (by rfl) ?_
            refine r_callV (t_isMore S1) mv_X10_isMore ml_X10_211 ⟨by decide, by decide⟩ dX10_law_71 (by first | assumption | rfl) rfl rfl rfl (Nat.le_of_ble_eq_true rfl) (fun v9 y2 h9 => ?_)
            obtain ⟨rfl, P2, rfl⟩ := h9
            refine r_if_eqB (tgt := 86) dX10_law_74 (by decide) (fun h74 => ?_) (fun h74 => ?_)
            · first
                | (obtain ⟨e, he⟩ := okB_f h67
                   have he : (app (.ok ([], 0)) (pSum (aT a) n 6)) = .error e := by
                     cases hz : (app (.ok ([], 0)) (pSum (aT a) n 6)) with
                     | ok p9 => rw [hz] at he; cases he
                     | error e9 => rw [hz] at he; injection he with he; rw [he]
                   have he2 : pSum (aT a) n 6 0 = .error e := by
                     have he : xbn (pSum (aT a) n 6 0) (fun q => .ok ([] ++ q.1, q.2)) = .error e := he
                     cases hz : pSum (aT a) n 6 0 with
                     | ok p9 => rw [hz] at he; cases he
                     | error e9 => rw [hz] at he; injection he with he; rw [he]
                   have L2 := L1
                   rw [he] at L2
                   exact PW.lc (by rfl) rfl (law_tail (r := .error e) hR (by omega) h12 hin hn1 (by unfold pLaw; rw [he2]; rfl) L2.1 K1 (fun p9 e9 => by cases e9)))
                | (have hz : ¬ skip (aT a) n p.2 < n := of_decide_eq_false h74
                   have L3 := L2.2.2.2 p rfl
                   exact PW.lc (by rfl) rfl (law_tail (r := .ok (p.1, skip (aT a) n p.2)) hR (by omega) h12 hin hn1 (by unfold pLaw pEnd; rw [hq9, xbn_ok, if_pos ((nx_end S1.gg (by omega)).mpr hz), xbn_ok]) P2 (K1.trans CH.gd.lk) (fun p9 e9 => by
                     injection e9 with e9
                     subst e9
                     exact ⟨L3.1, L3.2.2⟩)))
                | (have hz : skip (aT a) n p.2 < n := of_decide_eq_true h74
                   exact PW.lc (by rfl) rfl (law_tail (r := .error (1, skip (aT a) n p.2)) hR (by omega) h12 hin hn1 (by unfold pLaw pEnd; rw [hq9, xbn_ok, if_neg (fun q => (nx_end S1.gg (by omega)).mp q hz)]; rfl) P3 ((K1.trans CH.gd.lk).trans C3.lk) (fun p9 e9 => by cases e9)))
            · refine r_aload_n dX10_law_77 rfl (by rfl) ?_
              refine r_iconst (v := nI 1) dX10_law_78 (by decide) ?_
              refine r_aload_n dX10_law_79 rfl (by rfl) ?_
              refine gf_X10_107 rfl dX10_law_80 (by first | assumption | rfl) (by rfl) ?_
              refine PW.topi (show _ = nI (skip (aT a) n p.2) from xu_s) ?_
              refine r_callV (t_wrong P2 rfl (by omega)) mv_X10_wrong ml_X10_137 ⟨by decide, by decide⟩ dX10_law_83 (by first | assumption | rfl) rfl rfl rfl (Nat.le_of_ble_eq_true rfl) (fun v9 y3 h9 => ?_)
              obtain ⟨rfl, P3, C3⟩ := h9
              first
                | (obtain ⟨e, he⟩ := okB_f h67
                   have he : (app (.ok ([], 0)) (pSum (aT a) n 6)) = .error e := by
                     cases hz : (app (.ok ([], 0)) (pSum (aT a) n 6)) with
                     | ok p9 => rw [hz] at he; cases he
                     | error e9 => rw [hz] at he; injection he with he; rw [he]
                   have he2 : pSum (aT a) n 6 0 = .error e := by
                     have he : xbn (pSum (aT a) n 6 0) (fun q => .ok ([] ++ q.1, q.2)) = .error e := he
                     cases hz : pSum (aT a) n 6 0 with
                     | ok p9 => rw [hz] at he; cases he
                     | error e9 => rw [hz] at he; injection he with he; rw [he]
                   have L2 := L1
                   rw [he] at L2
                   exact PW.lc (by rfl) rfl (law_tail (r := .error e) hR (by omega) h12 hin hn1 (by unfold pLaw; rw [he2]; rfl) L2.1 K1 (fun p9 e9 => by cases e9)))
                | (have hz : ¬ skip (aT a) n p.2 < n := of_decide_eq_false h74
                   have L3 := L2.2.2.2 p rfl
                   exact PW.lc (by rfl) rfl (law_tail (r := .ok (p.1, skip (aT a) n p.2)) hR (by omega) h12 hin hn1 (by unfold pLaw pEnd; rw [hq9, xbn_ok, if_pos ((nx_end S1.gg (by omega)).mpr hz), xbn_ok]) P2 (K1.trans CH.gd.lk) (fun p9 e9 => by
                     injection e9 with e9
                     subst e9
                     exact ⟨L3.1, L3.2.2⟩)))
                | (have hz : skip (aT a) n p.2 < n := of_decide_eq_true h74
                   exact PW.lc (by rfl) rfl (law_tail (r := .error (1, skip (aT a) n p.2)) hR (by omega) h12 hin hn1 (by unfold pLaw pEnd; rw [hq9, xbn_ok, if_neg (fun q => (nx_end S1.gg (by omega)).mp q hz)]; rfl) P3 ((K1.trans CH.gd.lk).trans C3.lk) (fun p9 e9 => by cases e9)))
