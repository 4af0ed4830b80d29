/-! THE REFERENCE: work -/
def wk0 (x : XS) (n : Nat) : XS := xu (bgX (th0 x) n) 137 31 (nI 0)
theorem wk0_n {x : XS} {n c : Nat} (h : c ≠ 137) : wk0 x n c = x c := by
  unfold wk0
  rw [xu_n h, bg_n h]
  exact xu_n h
theorem wk0_k {x : XS} {n k : Nat} (h : ¬ (2 ≤ k ∧ k ≤ 8)) (h2 : k ≠ 31) : wk0 x n 137 k = th0 x 137 k := by
  unfold wk0
  rw [xu_k h2, bg_k h]
def enS (g : Nat → Nat) (len : Nat) (r : SR) : SR := xbn r (fun p => xbn (pEnd g len p.2) (fun a2 => .ok (p.1, a2)))
theorem enS_g (g : Nat → Nat) (len : Nat) : ∀ r : SR, xbn r (fun q => xbn (pEnd g len q.2) (fun a2 => .ok (q.1, a2))) = enS g len (xbn r (fun q => .ok ([] ++ q.1, q.2))) := by
  intro r
  cases r <;> rfl
theorem pW_eq (g : Nat → Nat) (len ns : Nat) : pWork g len ns 0 = enS g len (apS (.ok ([], 0)) (pSteps g len (pStepL g len ns 6) 151)) := enS_g g len (pStepsL g len ns 6 0 0)
theorem en_sq {g : Nat → Nat} {len m : Nat} {p : List ST × Nat} {u : Nat → Nat → SR} (hu : USt g len u) (h : nxV g len p.2 = nI 93) : enS g len (apS (.ok p) (pSteps g len u (m + 1))) = enS g len (apS (sgS g len 59 (apS (.ok (p.1, skip g len p.2)) u)) (pSteps g len u m)) := by
  rw [ap_nil (Or.inr h)]
  show xbn (pEnd g len (skip g len p.2)) _ = xbn (xbn (xbn (xbn (u p.1.length (skip g len p.2)) _) _) _) _
  unfold pEnd
  rw [nx_skip, h, if_neg (by decide +kernel), hu.2.1, hu.2.2.2 _ _ h, skip_skip]
  rfl
set_option maxHeartbeats 8000000 in
set_option maxRecDepth 20000 in
theorem work_loop {g : Nat → Nat} {len d ns N : Nat} {u : Nat → Nat → SR} {r0 : SR} {Post : Option Value → XS → Prop} {x : XS} (hd : d < 40) (hu : SRC g len ns d 0 u) (hU : USt g len u) (hs : x 137 18 = nI ns) (hL : WSt x g len 0 r0) (hN : ∀ p, r0 = .ok p → 151 ≤ N + p.2) (kk : ∀ z r, WSt z g len 0 r → enS g len (apS r0 (pSteps g len u N)) = r → VK x z → PW mX10_work (RM 40 0 0) 0 0 Post NoT 89 [(0, .ref 137)] [] z) : PW mX10_work (RM 40 0 0) 0 0 Post NoT 68 [(0, .ref 137)] [] x := by
  have y137 := lay_137
  refine PW.loop (σ := Nat × SR × XS) (fun s => s.1) (fun s => WSt s.2.2 g len 0 s.2.1 ∧ VK x s.2.2 ∧ enS g len (apS r0 (pSteps g len u N)) = enS g len (apS s.2.1 (pSteps g len u s.1)) ∧ ∀ p, s.2.1 = .ok p → 151 ≤ s.1 + p.2) (fun _ => [(0, .ref 137)]) (fun s => s.2.2) ((N, r0, x)) (⟨hL, VK.rfl, rfl, hN⟩) rfl rfl (fun s hs0 ih => ?_)
  obtain ⟨L2, K2, hq, hb⟩ := hs0
  refine r_aload_n dX10_work_68 rfl (by rfl) ?_
  refine r_callV (t_fine L2.1) mv_X10_fine ml_X10_130 ⟨by omega, by decide⟩ dX10_work_69 (by first | assumption | rfl) rfl rfl rfl (Nat.le_of_ble_eq_true rfl) (fun v9 x9 h9 => ?_)
  obtain ⟨rfl, h9⟩ := h9
  refine PW.xeq h9 ?_
  clear h9 x9
  refine r_if_eqB (tgt := 89) dX10_work_72 (by decide) (fun h72 => ?_) (fun h72 => ?_)
  · first
      | (obtain ⟨e, he⟩ := okS_f h72
         exact PW.lc (by rfl) rfl (kk s.2.2 s.2.1 L2 (by rw [hq, he]; rfl) K2))
      | (have hnx : nxV g len p.2 = -1 := (nx_end S3.gg (by omega)).mpr (of_decide_eq_false h79)
         exact PW.lc (by rfl) rfl (kk _ (.ok (p.1, (skip g len p.2))) L4 (by
           rw [hq, hp, hm, ap_nil (Or.inl hnx)]
           show xbn (pEnd g len (skip g len p.2)) _ = _
           unfold pEnd
           rw [nx_skip, if_pos hnx, skip_skip]
           rfl) (K2.trans CH.gd.vk)))
  · obtain ⟨p, hp⟩ := okS h72
    have L3 := L2
    rw [hp] at L3
    have S3 : PSt s.2.2 g len (.ok p.2) := L3.1
    have h15 := L3.2.2.1
    have hp2 : p.2 ≤ len := S3.2.2.1
    have hb9 := hb p hp
    obtain ⟨m, hm⟩ : ∃ m, s.1 = m + 1 := ⟨s.1 - 1, by omega⟩
    have hsk := skip_ge g len p.2
    have hsl := skip_le (g := g) hp2
    have L4 : WSt (gdX s.2.2 (skip g len p.2)) g len 0 (.ok (p.1, (skip g len p.2))) := L3.mv CH.gd (S3.gd hsl) hsk
    have hs3 : gdX s.2.2 (skip g len p.2) 137 18 = nI ns := (xu_k (by decide)).trans ((K2.2 18 (by omega) (by decide)).trans hs)
    refine r_aload_n dX10_work_75 rfl (by rfl) ?_
    refine r_callV (t_isMore S3) mv_X10_isMore ml_X10_211 ⟨by omega, by decide⟩ dX10_work_76 (by first | assumption | rfl) rfl rfl rfl (Nat.le_of_ble_eq_true rfl) (fun v9 y h9 => ?_)
    obtain ⟨rfl, P1, rfl⟩ := h9
    refine r_if_eqB (tgt := 89) dX10_work_79 (by decide) (fun h79 => ?_) (fun h79 => ?_)
    · first
        | (obtain ⟨e, he⟩ := okS_f h72
           exact PW.lc (by rfl) rfl (kk s.2.2 s.2.1 L2 (by rw [hq, he]; rfl) K2))
        | (have hnx : nxV g len p.2 = -1 := (nx_end S3.gg (by omega)).mpr (of_decide_eq_false h79)
           exact PW.lc (by rfl) rfl (kk _ (.ok (p.1, (skip g len p.2))) L4 (by
             rw [hq, hp, hm, ap_nil (Or.inl hnx)]
             show xbn (pEnd g len (skip g len p.2)) _ = _
             unfold pEnd
             rw [nx_skip, if_pos hnx, skip_skip]
             rfl) (K2.trans CH.gd.vk)))
    · refine r_aload_n dX10_work_82 rfl (by rfl) ?_
      refine r_callV (hu p.1 (skip g len p.2) (gdX s.2.2 (skip g len p.2)) hs3 L4) mv_X10_readStep ml_X10_313 ⟨by omega, by decide⟩ dX10_work_83 (by first | assumption | rfl) rfl rfl rfl (Nat.le_of_ble_eq_true rfl) (fun v9 y5 h9 => ?_)
      obtain ⟨rfl, L5, K5⟩ := h9
      refine r_goto (tgt := 68) dX10_work_86 (by decide) ?_
      have hnx : ¬ nxV g len p.2 = -1 := fun q => (nx_end S3.gg (by omega)).mp q (of_decide_eq_true h79)
      have hqq : enS g len (apS r0 (pSteps g len u N)) = enS g len (apS (sgS g len 59 (apS (.ok (p.1, (skip g len p.2))) u)) (pSteps g len u m)) := by
        rw [hq, hp, hm]
        by_cases hx : nxV g len p.2 = nI 93
        · exact en_sq hU hx
        · rw [ap_go (fun q => q.elim hnx hx) hU.2.1]
      exact PW.lc (by rfl) rfl (ih (m, sgS g len 59 (apS (.ok (p.1, (skip g len p.2))) u), y5) ⟨L5, (K2.trans CH.gd.vk).trans K5, hqq, (fun p9 e9 => by
        have := st_pos (N := N) hU.1 e9
        show 151 ≤ m + p9.2
        omega)⟩ (show m < s.1 by omega))
def pst (y : XS) (w : Nat) : Nat → XS
  | 0 => y
  | i + 1 => xu (pst y w i) 155 (42 * w + i) (pst y w i 153 i)
theorem pst_n {y : XS} {w c : Nat} (h : c ≠ 155) : ∀ i, pst y w i c = y c
  | 0 => rfl
  | i + 1 => (xu_n h).trans (pst_n h i)
theorem pst_row {y : XS} {w : Nat} : ∀ i j, pst y w i 155 j = if 42 * w ≤ j ∧ j < 42 * w + i then y 153 (j - 42 * w) else y 155 j
  | 0, j => by rw [if_neg (by omega)]; rfl
  | i + 1, j => by
    show upd (pst y w i 155) (42 * w + i) (pst y w i 153 i) j = _
    by_cases e : j = 42 * w + i
    · subst e
      rw [pk_us, if_pos (by omega), pst_n (by decide), show 42 * w + i - 42 * w = i by omega]
    · rw [pk_un e, pst_row i j]
      by_cases e2 : 42 * w ≤ j ∧ j < 42 * w + i
      · rw [if_pos e2, if_pos (by omega)]
      · rw [if_neg e2, if_neg (by omega)]
def wk2 (y : XS) (m : Nat) : XS := xr (xu y 137 8 (y 137 5)) 152 (cpR (y 152) (y 151) m)
def wk4 (y : XS) (w m : Nat) : XS := xu (pst (wk2 y m) w 42) 137 32 (nI (w + 1))
def wk6 (y : XS) (w m : Nat) : XS := xu (xu (xu (tkR (wk4 y w m)) 137 34 (nI 0)) 137 35 (nI 0)) 137 36 (nI 0)
theorem wk4_n {y : XS} {w m c : Nat} (h1 : c ≠ 137) (h2 : c ≠ 152) (h3 : c ≠ 155) : wk4 y w m c = y c := by
  unfold wk4
  rw [xu_n h1, pst_n h3]
  unfold wk2
  rw [xr_n h2, xu_n h1]
theorem wk4_k {y : XS} {w m k : Nat} (h1 : k ≠ 8) (h2 : k ≠ 32) : wk4 y w m 137 k = y 137 k := by
  unfold wk4
  rw [xu_k h2, pst_n (by decide)]
  unfold wk2
  rw [xr_n (by decide), xu_k h1]
theorem wk4_8 {y : XS} {w m : Nat} : wk4 y w m 137 8 = y 137 5 := by
  unfold wk4
  rw [xu_k (by decide), pst_n (by decide)]
  rfl
theorem wk6_n {y : XS} {w m c : Nat} (h1 : c ≠ 137) (h2 : c ≠ 154) (h3 : c ≠ 157) : wk6 y w m c = wk4 y w m c := by
  unfold wk6 tkR
  rw [xu_n h1, xu_n h1, xu_n h1, xr_n h3, xu_n h1, xr_n h2]
theorem wk6_k {y : XS} {w m k : Nat} (h1 : k ≠ 34) (h2 : k ≠ 35) (h3 : k ≠ 36) (h4 : k ≠ 42) : wk6 y w m 137 k = wk4 y w m 137 k := by
  unfold wk6 tkR
  rw [xu_k h3, xu_k h2, xu_k h1, xr_n (by decide), xu_k h4, xr_n (by decide)]
theorem wk6_152 {y : XS} {w m j : Nat} (hj : j < m) : wk6 y w m 152 j = y 151 j := by
  rw [wk6_n (by decide) (by decide) (by decide)]
  unfold wk4
  rw [xu_n (by decide), pst_n (by decide)]
  exact cpR_lt m hj
theorem wk6_155 {y : XS} {w m j : Nat} : wk6 y w m 155 j = if 42 * w ≤ j ∧ j < 42 * w + 42 then y 153 (j - 42 * w) else y 155 j := by
  rw [wk6_n (by decide) (by decide) (by decide)]
  unfold wk4
  rw [xu_n (by decide), pst_row]
  rfl
theorem RRow.cg {f g g2 : Nat → Int32} (h : RRow f g) (e : ∀ j, j < 42 → g2 j = g j) : RRow f g2 := by
  refine ⟨fun p hp => ?_, (e 40 (by decide)).trans h.2.1, (e 41 (by decide)).trans h.2.2⟩
  obtain ⟨h1, h2, h3, h4, h5, h6, h7, h8⟩ := h.1 p hp
  exact ⟨(e _ (by omega)).trans h1, (e _ (by omega)).trans h2, (e _ (by omega)).trans h3, (e _ (by omega)).trans h4, (e _ (by omega)).trans h5, (e _ (by omega)).trans h6, (e _ (by omega)).trans h7, fun a b => (e _ (by omega)).trans (h8 a b)⟩
theorem wk6_SJ {y : XS} {E : NE} {f : Nat → Int32} {w m t : Nat} (h1 : RRe y E) (h2 : y 137 19 = eW E) (h3 : RRow f (y 153)) (h4 : RO f) (ht : f 40 = nI t) (ht2 : t ≤ 240) (hw : ∃ n, n ≤ 40 ∧ eW E = nI n) : SJ E (wk6 y w m) (wk6 y w m) (f, 0, nI 0, nI 0) := by
  refine ⟨⟨t, ⟨h1.fr (fun c hc => ?_) ?_ ?_, ?_, ?_, ?_, h4⟩, ht, ht2, fun p _ => ⟨0, by decide, rfl, by rw [Nat.zero_sub]; rfl⟩, hw⟩, (by unfold wk6; rw [xu_k (by decide), xu_k (by decide), xu_s]), Nat.zero_le _, (by unfold wk6; rw [xu_k (by decide), xu_s]), (by unfold wk6; rw [xu_s]), GF.rfl⟩
  · rw [wk6_n (by omega) (by omega) (by omega), wk4_n (by omega) (by omega) (by omega)]
  · rw [wk6_k (by decide) (by decide) (by decide) (by decide), wk4_k (by decide) (by decide)]
  · rw [wk6_k (by decide) (by decide) (by decide) (by decide), wk4_k (by decide) (by decide)]
  · rw [wk6_k (by decide) (by decide) (by decide) (by decide), wk4_k (by decide) (by decide)]
    exact h2
  · unfold wk6 tkR
    rw [xu_k (by decide), xu_k (by decide), xu_k (by decide), xr_n (by decide), xu_s]
  · have e : wk6 y w m 154 = wk4 y w m 153 := by
      unfold wk6 tkR
      rw [xu_n (by decide), xu_n (by decide), xu_n (by decide), xr_n (by decide), xu_n (by decide), xr_s]
    rw [e, wk4_n (by decide) (by decide) (by decide)]
    exact h3
theorem wk6_SW {y : XS} {w : Nat} {l : List ST} (h : ∀ i q, l[i]? = some q → y 151 (3 * i) = nI q.1 ∧ y 151 (3 * i + 1) = nI q.2.1 ∧ y 151 (3 * i + 2) = nI (tN q)) : SW (wk6 y w (3 * l.length)) (lK l) (lO l) (lT l) l.length := by
  intro i hi
  have e : l[i]? = some (l.getD i (0, 0, 0)) := by rw [List.getD_eq_getElem?_getD, List.getElem?_eq_getElem hi]; rfl
  rw [wk6_152 (by omega), wk6_152 (by omega), wk6_152 (by omega)]
  exact h i _ e
def wk9 (z : XS) : XS := xu (xr z 153 (cpR (z 153) (z 154) 42)) 137 33 (z 137 36)
theorem work_RR {x y z : XS} {a : AS} {n b m : Nat} {s : WK} (hR : RRf x a) (hn : aWn a < 16) (K : VK (wk0 x n) y) (hP : PSt y (aT a) n (.ok b)) (J : SJ (aE a) (wk6 y (aWn a) m) z s) : RRf (wk9 z) (a.1, s.1, (aT a, 0, -1), a.2.2.2.1, (aWn a + 1, (fun i => if i = aWn a then aR a else aW a i)), a.2.2.2.2.2.1, s.2.2.2, aU a, aX a) ∧ LO x (wk9 z) ∧ wk9 z 137 0 = nI 0 := by
  obtain ⟨h1, k2, h3, h4, h5, k6, h7, k8, h9, h10⟩ := hR
  obtain ⟨⟨t, T1⟩, j2, j3, j4, j5, G⟩ := J
  have c9 : ∀ c, c ≠ 137 → c ≠ 149 → c ≠ 150 → c ≠ 151 → c ≠ 152 → c ≠ 153 → c ≠ 154 → c ≠ 155 → c ≠ 156 → c ≠ 157 → wk9 z c = x c := fun c a1 a2 a3 a4 a5 a6 a7 a8 a9 a10 => by
    unfold wk9
    rw [xu_n a1, xr_n a6, G.1 c a1 a2 a3 a7 a9 a10, wk6_n a1 a7 a10, wk4_n a1 a5 a8, K.1 c a1 a4]
    exact wk0_n a1
  have k9 : ∀ k, ¬ (2 ≤ k ∧ k ≤ 8) → k ≠ 31 → k ≠ 32 → k ≠ 33 → ¬ (34 ≤ k ∧ k ≤ 36) → k ≠ 42 → wk9 z 137 k = th0 x 137 k := fun k a1 a2 a3 a4 a5 a6 => by
    unfold wk9
    rw [xu_k a4, xr_n (by decide), G.2 k a5, wk6_k (by omega) (by omega) (by omega) a6, wk4_k (by omega) a3, K.2 k (by omega) a2]
    exact wk0_k a1 a2
  have e155 : wk9 z 155 = wk6 y (aWn a) m 155 := by
    unfold wk9
    rw [xu_n (by decide), xr_n (by decide), G.1 155 (by decide) (by decide) (by decide) (by decide) (by decide) (by decide)]
  have y153 : y 153 = x 153 := (K.1 153 (by decide) (by decide)).trans (wk0_n (by decide))
  have y155 : y 155 = x 155 := (K.1 155 (by decide) (by decide)).trans (wk0_n (by decide))
  refine ⟨⟨h1.fr (fun c hc => c9 c (by omega) (by omega) (by omega) (by omega) (by omega) (by omega) (by omega) (by omega) (by omega) (by omega)) ((k9 18 (by omega) (by omega) (by omega) (by omega) (by omega) (by omega)).trans (xu_k (by decide))) ((k9 20 (by omega) (by omega) (by omega) (by omega) (by omega) (by omega)).trans (xu_k (by decide))), (k9 19 (by omega) (by omega) (by omega) (by omega) (by omega) (by omega)).trans ((xu_k (by decide)).trans k2), ?_, ⟨?_, Nat.zero_le _, fun j hj => ?_, ?_⟩, ⟨((k9 45 (by omega) (by omega) (by omega) (by omega) (by omega) (by omega)).trans (xu_k (by decide))).trans h5.1, h5.2.1, ?_⟩, ⟨?_, by show aWn a + 1 ≤ 16; omega, fun i hi => ?_⟩, ⟨((k9 52 (by omega) (by omega) (by omega) (by omega) (by omega) (by omega)).trans (xu_k (by decide))).trans h7.1, h7.2.1, ?_⟩, ?_, ?_, ?_⟩, fun c hc => c9 c (by omega) (by omega) (by omega) (by omega) (by omega) (by omega) (by omega) (by omega) (by omega) (by omega), (k9 0 (by omega) (by omega) (by omega) (by omega) (by omega) (by omega)).trans xu_s⟩
  · exact T1.1.2.2.2.1.cg (fun j hj => cpR_lt 42 hj)
  · unfold wk9
    rw [xu_k (by decide), xr_n (by decide), G.2 2 (by decide), wk6_k (by decide) (by decide) (by decide) (by decide), wk4_k (by decide) (by decide), K.2 2 (by decide) (by decide)]
    rfl
  · rw [c9 139 (by decide) (by decide) (by decide) (by decide) (by decide) (by decide) (by decide) (by decide) (by decide) (by decide)]
    exact h4.2.2.1 j hj
  · unfold wk9
    rw [xu_k (by decide), xr_n (by decide), G.2 8 (by decide), wk6_k (by decide) (by decide) (by decide) (by decide), wk4_8]
    exact hP.2.2.2
  · rw [c9 159 (by decide) (by decide) (by decide) (by decide) (by decide) (by decide) (by decide) (by decide) (by decide) (by decide)]
    exact h5.2.2
  · unfold wk9
    rw [xu_k (by decide), xr_n (by decide), G.2 32 (by decide), wk6_k (by decide) (by decide) (by decide) (by decide)]
    rfl
  · have hi : i < aWn a + 1 := hi
    rw [e155]
    show RRow (if i = aWn a then aR a else aW a i) _
    by_cases e : i = aWn a
    · subst e
      rw [if_pos rfl]
      refine h3.cg (fun j hj => ?_)
      rw [wk6_155, if_pos (by omega), show 42 * aWn a + j - 42 * aWn a = j by omega, y153]
    · rw [if_neg e]
      refine (k6.2.2 i (by omega)).cg (fun j hj => ?_)
      rw [wk6_155, if_neg (by omega), y155]
  · rw [c9 162 (by decide) (by decide) (by decide) (by decide) (by decide) (by decide) (by decide) (by decide) (by decide) (by decide)]
    exact h7.2.2
  · exact j5
  · rw [c9 138 (by decide) (by decide) (by decide) (by decide) (by decide) (by decide) (by decide) (by decide) (by decide) (by decide)]
    exact h9
  · rw [c9 138 (by decide) (by decide) (by decide) (by decide) (by decide) (by decide) (by decide) (by decide) (by decide) (by decide)]
    exact h10
set_option maxHeartbeats 8000000 in
set_option maxRecDepth 20000 in
theorem work_tail_b {a : AS} {x y : XS} {n : Nat} (hR : RRf x a) (hA : AI a) (hin : inB (nI n) (nI 0) (nI (min 150 (aH a))) = true) (hn : n ≤ 150) (hw16 : aWn a < 16) (K : VK (wk0 x n) y) {e : PE} (hr : pWork (aT a) n (eN (aE a)) 0 = .error e) (hP : PSt y (aT a) n (.error e)) : PW mX10_work (RM 40 0 0) 0 0 (RP x (oWork a (nI n)).1 (oWork a (nI n)).2 1) NoT 89 [(0, .ref 137)] [] y := by
  have y137 := lay_137
  refine r_aload_n dX10_work_89 rfl (by rfl) ?_
  refine r_iconst (v := nI 0) dX10_work_90 (by decide) ?_
  refine r_callV n_result mv_X10_result ml_X10_237 ⟨by decide, by decide⟩ dX10_work_91 (by first | assumption | rfl) rfl rfl rfl (Nat.le_of_ble_eq_true rfl) (fun v9 x9 h9 => ?_)
  obtain ⟨rfl, h9⟩ := h9
  refine PW.xeq h9 ?_
  clear h9 x9
  refine r_istore_n dX10_work_94 rfl (by decide) ?_
  refine r_aload_n dX10_work_95 rfl (by rfl) ?_
  refine gf_X10_101 rfl dX10_work_96 (by first | assumption | rfl) (by rfl) ?_
  refine r_iconst (v := -1) dX10_work_99 (by decide) ?_
  refine r_icmp_eq (tgt := 105) dX10_work_100 (by decide) (fun h100 => ?_) (fun h100 => ?_)
  · exact absurd (show y 137 5 = -1 from h100) hP.bad
  · refine r_iload_n dX10_work_103 rfl (by rfl) ?_
    refine r_iret rfl dX10_work_104 ?_
    refine rchg_ok (b := setT a (aT a) 0 (nI e.2)) (by unfold oWork; rw [if_pos hin, if_neg (by omega), nN_nI (by omega), hr, if_neg hP.bad, hP.2.2.1]; rfl) (txt_RR2 hR (fun c a1 a2 => (K.1 c a1 (by omega)).trans (wk0_n a1)) (fun k a1 => (K.2 k (by omega) (by omega)).trans ((wk0_k (by omega) (by omega)).trans (xu_k (by omega)))) ((K.2 2 (by omega) (by omega)).trans rfl) hP) (fun c hc => (xu_n (by omega)).trans ((K.1 c (by omega) (by omega)).trans (wk0_n (by omega)))) ((xu_k (by decide)).trans ((K.2 0 (by omega) (by omega)).trans rfl))
set_option maxHeartbeats 8000000 in
set_option maxRecDepth 20000 in
theorem work_tail_g {a : AS} {x y : XS} {n : Nat} (hR : RRf x a) (hA : AI a) (hin : inB (nI n) (nI 0) (nI (min 150 (aH a))) = true) (hn : n ≤ 150) (hw16 : aWn a < 16) (K : VK (wk0 x n) y) {l : List ST} {b : Nat} (hr : pWork (aT a) n (eN (aE a)) 0 = .ok (l, b)) (hL : WSt y (aT a) n 0 (.ok (l, b))) : PW mX10_work (RM 40 0 0) 0 0 (RP x (oWork a (nI n)).1 (oWork a (nI n)).2 1) NoT 89 [(0, .ref 137)] [] y := by
  have y137 := lay_137
  have y151 := lay_151
  have y152 := lay_152
  have y153 := lay_153
  have y155 := lay_155
  have hP : PSt y (aT a) n (.ok b) := hL.1
  have hbn : b ≤ n := hP.2.2.1
  obtain ⟨m1, m2, m3⟩ := hL.2.2.2 _ rfl
  have m1 : y 137 31 = nI (3 * l.length) := m1
  have m2 : 4 * l.length ≤ b := m2
  obtain ⟨wI, wN, w4⟩ := pWork_ok hR.1.2.1 hn hbn hr
  obtain ⟨t, ht2, ht⟩ := hA.2.1.1
  have e18 : ∀ k, ¬ (2 ≤ k ∧ k ≤ 8) → k ≠ 31 → k ≠ 0 → y 137 k = x 137 k := fun k a1 a2 a3 => (K.2 k (by omega) a2).trans ((wk0_k a1 a2).trans (xu_k a3))
  have yc : ∀ c, c ≠ 137 → c ≠ 151 → y c = x c := fun c a1 a2 => (K.1 c a1 a2).trans (wk0_n a1)
  have y32 : y 137 32 = nI (aWn a) := (e18 32 (by omega) (by omega) (by omega)).trans hR.2.2.2.2.2.1.1
  have hJ : SJ (aE a) (wk6 y (aWn a) (3 * l.length)) (wk6 y (aWn a) (3 * l.length)) (aR a, 0, nI 0, nI 0) := wk6_SJ (hR.1.fr (fun c hc => yc c (by omega) (by omega)) (e18 18 (by omega) (by omega) (by omega)) (e18 20 (by omega) (by omega) (by omega))) ((e18 19 (by omega) (by omega) (by omega)).trans hR.2.1) (by rw [yc 153 (by decide) (by decide)]; exact hR.2.2.1) hA.2.1 ht ht2 hA.1.2.2.2.2
  have hSW := wk6_SW (w := aWn a) m3
  refine r_aload_n dX10_work_89 rfl (by rfl) ?_
  refine r_iconst (v := nI 0) dX10_work_90 (by decide) ?_
  refine r_callV n_result mv_X10_result ml_X10_237 ⟨by decide, by decide⟩ dX10_work_91 (by first | assumption | rfl) rfl rfl rfl (Nat.le_of_ble_eq_true rfl) (fun v9 x9 h9 => ?_)
  obtain ⟨rfl, h9⟩ := h9
  refine PW.xeq h9 ?_
  clear h9 x9
  refine r_istore_n dX10_work_94 rfl (by decide) ?_
  refine r_aload_n dX10_work_95 rfl (by rfl) ?_
  refine gf_X10_101 rfl dX10_work_96 (by first | assumption | rfl) (by rfl) ?_
  refine r_iconst (v := -1) dX10_work_99 (by decide) ?_
  refine r_icmp_eq (tgt := 105) dX10_work_100 (by decide) (fun h100 => ?_) (fun h100 => ?_)
  · refine r_aload_n dX10_work_105 rfl (by rfl) ?_
    refine r_aload_n dX10_work_106 rfl (by rfl) ?_
    refine gf_X10_56 rfl dX10_work_107 (by first | assumption | rfl) (by rfl) ?_
    refine r_aload_n dX10_work_110 rfl (by rfl) ?_
    refine gf_X10_59 rfl dX10_work_111 (by first | assumption | rfl) (by rfl) ?_
    refine r_aload_n dX10_work_114 rfl (by rfl) ?_
    refine gf_X10_293 rfl dX10_work_115 (by first | assumption | rfl) (by rfl) ?_
    refine PW.topi (show _ = nI (3 * l.length) from m1) ?_
    refine r_callV (c_copies (sc := 151) (dc := 152) (n := 3 * l.length) lay_151 lay_152 (by omega) (by omega) (by decide) (by decide) (by decide)) mv_X10_copies ml_X10_165 ⟨by decide, by decide⟩ dX10_work_118 (by first | assumption | rfl) rfl rfl rfl (Nat.le_of_ble_eq_true rfl) (fun v9 x9 h9 => ?_)
    obtain ⟨rfl, h9⟩ := h9
    refine PW.xeq h9 ?_
    clear h9 x9
    refine r_iconst (v := nI 0) dX10_work_121 (by decide) ?_
    refine r_istore_n dX10_work_122 rfl (by decide) ?_
    refine PW.loop (σ := Nat) (fun i => 42 - i) (fun i => i ≤ 42) (fun i => [(0, .ref 137), (3, .int (nI i))]) (fun i => pst (wk2 y (3 * l.length)) (aWn a) i) (0) (Nat.zero_le _) rfl rfl (fun i hi ih => ?_)
    refine r_iload_n dX10_work_123 rfl (by rfl) ?_
    refine r_bipush (v := nI 42) dX10_work_124 (by decide) ?_
    refine r_icmp_geN (tgt := 155) dX10_work_126 (by decide) (by omega) (by omega) (fun h126 => ?_) (fun h126 => ?_)
    · refine r_aload_n dX10_work_155 rfl (by rfl) ?_
      refine r_dup dX10_work_156 rfl ?_
      refine gf_X10_172 rfl dX10_work_157 (by first | assumption | rfl) (by rfl) ?_
      have i42 : i = 42 := by omega
      subst i42
      refine PW.topi (show _ = nI (aWn a) from (by rw [pst_n (by decide)]; exact y32)) ?_
      refine r_iconst (v := nI 1) dX10_work_160 (by decide) ?_
      refine r_iaddN dX10_work_161 ?_
      refine pf_X10_172 rfl dX10_work_162 (by first | assumption | rfl) (by rfl) ?_
      refine r_aload_n dX10_work_165 rfl (by rfl) ?_
      refine r_callV c_take mv_X10_take ml_X10_316 ⟨by decide, by decide⟩ dX10_work_166 (by first | assumption | rfl) rfl rfl rfl (Nat.le_of_ble_eq_true rfl) (fun v9 x9 h9 => ?_)
      obtain ⟨rfl, h9⟩ := h9
      refine PW.xeq h9 ?_
      clear h9 x9
      refine r_aload_n dX10_work_169 rfl (by rfl) ?_
      refine r_iconst (v := nI 0) dX10_work_170 (by decide) ?_
      refine pf_X10_319 rfl dX10_work_171 (by first | assumption | rfl) (by rfl) ?_
      refine r_aload_n dX10_work_174 rfl (by rfl) ?_
      refine r_iconst (v := nI 0) dX10_work_175 (by decide) ?_
      refine pf_X10_322 rfl dX10_work_176 (by first | assumption | rfl) (by rfl) ?_
      refine r_aload_n dX10_work_179 rfl (by rfl) ?_
      refine r_iconst (v := nI 0) dX10_work_180 (by decide) ?_
      refine pf_X10_325 rfl dX10_work_181 (by first | assumption | rfl) (by rfl) ?_
      refine r_aload_n dX10_work_184 rfl (by rfl) ?_
      refine r_iconst (v := nI 0) dX10_work_185 (by decide) ?_
      refine PW.topi (show nI 0 = nI (3 * 0) from rfl) ?_
      refine PW.xeq (show _ = wk6 y (aWn a) (3 * l.length) from rfl) ?_
      refine r_aload_n dX10_work_186 rfl (by rfl) ?_
      refine gf_X10_293 rfl dX10_work_187 (by first | assumption | rfl) (by rfl) ?_
      refine PW.topi (show _ = nI (3 * l.length) from (by rw [wk6_k (by decide) (by decide) (by decide) (by decide), wk4_k (by decide) (by decide)]; exact m1)) ?_
      refine r_callV (gs_all w4 wI hSW 6 0 l.length _ _ wN (Nat.le_refl _) hJ) mv_X10_goesSteps ml_X10_328 ⟨by decide, by decide⟩ dX10_work_190 (by first | assumption | rfl) rfl rfl rfl (Nat.le_of_ble_eq_true rfl) (fun v9 z h9 => ?_)
      obtain ⟨rfl, J⟩ := h9
      refine r_aload_n dX10_work_193 rfl (by rfl) ?_
      refine r_aload_n dX10_work_194 rfl (by rfl) ?_
      refine gf_X10_65 rfl dX10_work_195 (by first | assumption | rfl) (by rfl) ?_
      refine r_aload_n dX10_work_198 rfl (by rfl) ?_
      refine gf_X10_62 rfl dX10_work_199 (by first | assumption | rfl) (by rfl) ?_
      refine r_bipush (v := nI 42) dX10_work_202 (by decide) ?_
      refine r_callV (c_copies (sc := 154) (dc := 153) (n := 42) lay_154 lay_153 (by decide) (by decide) (by decide) (by decide) (by decide)) mv_X10_copies ml_X10_165 ⟨by decide, by decide⟩ dX10_work_204 (by first | assumption | rfl) rfl rfl rfl (Nat.le_of_ble_eq_true rfl) (fun v9 x9 h9 => ?_)
      obtain ⟨rfl, h9⟩ := h9
      refine PW.xeq h9 ?_
      clear h9 x9
      refine r_aload_n dX10_work_207 rfl (by rfl) ?_
      refine r_aload_n dX10_work_208 rfl (by rfl) ?_
      refine gf_X10_325 rfl dX10_work_209 (by first | assumption | rfl) (by rfl) ?_
      refine pf_X10_178 rfl dX10_work_212 (by first | assumption | rfl) (by rfl) ?_
      refine r_aload_n dX10_work_215 rfl (by rfl) ?_
      refine gf_X10_322 rfl dX10_work_216 (by first | assumption | rfl) (by rfl) ?_
      refine r_iret rfl dX10_work_219 ?_
      obtain ⟨q1, q2, q3⟩ := work_RR hR hw16 K hP J
      have e35 := J.2.2.2.1
      refine rchg_ok (b := (a.1, (wRun (aE a) l (aR a)).1, (aT a, 0, -1), a.2.2.2.1, (aWn a + 1, (fun i => if i = aWn a then aR a else aW a i)), a.2.2.2.2.2.1, (wRun (aE a) l (aR a)).2.2.2, aU a, aX a)) ?_ q1 q2 q3
      show oWork a (nI n) = (.ok (z 137 35), _)
      unfold oWork
      rw [if_pos hin, if_neg (by omega), nN_nI (by omega), hr, e35]
      rfl
    · refine r_aload_n dX10_work_129 rfl (by rfl) ?_
      refine gf_X10_68 rfl dX10_work_130 (by first | assumption | rfl) (by rfl) ?_
      refine r_bipush (v := nI 42) dX10_work_133 (by decide) ?_
      refine r_aload_n dX10_work_135 rfl (by rfl) ?_
      refine gf_X10_172 rfl dX10_work_136 (by first | assumption | rfl) (by rfl) ?_
      refine PW.topi (show _ = nI (aWn a) from (by rw [pst_n (by decide)]; exact y32)) ?_
      refine r_imulN dX10_work_139 ?_
      refine r_iload_n dX10_work_140 rfl (by rfl) ?_
      refine r_iaddN dX10_work_141 ?_
      refine r_aload_n dX10_work_142 rfl (by rfl) ?_
      refine gf_X10_62 rfl dX10_work_143 (by first | assumption | rfl) (by rfl) ?_
      refine r_iload_n dX10_work_146 rfl (by rfl) ?_
      refine r_ialdN dX10_work_147 (by first | assumption | rfl) (by omega) (by decide) ?_
      refine r_iastN dX10_work_148 (by first | assumption | rfl) (by omega) (by decide) ?_
      refine r_iincN dX10_work_149 (by rfl) (by decide) ?_
      refine r_goto (tgt := 123) dX10_work_152 (by decide) ?_
      exact PW.lc (by rfl) rfl (ih (i + 1) (show i + 1 ≤ 42 by omega) (show 42 - (i + 1) < 42 - i by omega))
  · exact absurd (show y 137 5 = -1 from hP.2.2.2) h100
set_option maxHeartbeats 8000000 in
set_option maxRecDepth 20000 in
theorem g_work {a : AS} {x : XS} {v : Int32} (hR : RRf x a) (hA : AI a) : RCHG mX10_work [.ref 137, .int v] x (oWork a v) 1 := by
  refine MM.of (by decide) (Nat.le_of_ble_eq_true rfl) ?_
  have y137 := lay_137
  have hH := hR.2.2.2.1.2.1
  have hw := hR.2.2.2.2.2.1.2.1
  refine r_aload_n dX10_work_0 rfl (by rfl) ?_
  refine r_iconst (v := nI 0) dX10_work_1 (by decide) ?_
  refine pf_X10_3 rfl dX10_work_2 (by first | assumption | rfl) (by rfl) ?_
  refine r_aload_n dX10_work_5 rfl (by rfl) ?_
  refine r_iload_n dX10_work_6 rfl (by rfl) ?_
  refine r_if_lt (tgt := 29) dX10_work_7 (by decide) (fun h7 => ?_) (fun h7 => ?_)
  · refine r_iconst (v := nI 0) dX10_work_29 (by decide) ?_
    refine r_iconst (v := nI 1) dX10_work_30 (by decide) ?_
    refine r_iconst (v := nI 1) dX10_work_31 (by decide) ?_
    refine r_callV (c_may_0 xu_s (by decide) (by decide)) mv_X10_may ml_X10_203 ⟨by decide, by decide⟩ dX10_work_32 lay_137 rfl rfl rfl (Nat.le_of_ble_eq_true rfl) (fun v9 x9 h9 => ?_)
    obtain ⟨rfl, h9⟩ := h9
    refine PW.xeq h9 ?_
    clear h9 x9
    refine r_if_neB (tgt := 40) dX10_work_35 (by decide) (fun h => by cases h) (fun _ => ?_)
    refine r_iconst (v := nI 0) dX10_work_38 (by decide) ?_
    refine r_iret rfl dX10_work_39 ?_
    first
      | exact rchg_er hR rfl (by rw [oWork, if_neg (tx_n hH (by decide) (Or.inl h7))])
      | exact rchg_er hR rfl (by rw [oWork, if_neg (tx_n hH (by decide) (Or.inr (Or.inl (by first | exact h15 | exact Int32.not_le.mp h15))))])
      | exact rchg_er hR rfl (by rw [oWork, if_neg (tx_n hH (by decide) (Or.inr (Or.inr (by first | exact h22 | exact Int32.not_le.mp h22))))])
  · refine r_iload_n dX10_work_10 rfl (by rfl) ?_
    refine r_aload_n dX10_work_11 rfl (by rfl) ?_
    refine gf_X10_98 rfl dX10_work_12 (by first | assumption | rfl) (by rfl) ?_
    refine PW.topi (show _ = nI (aH a) from hR.2.2.2.1.1) ?_
    refine r_icmp_gt (tgt := 29) dX10_work_15 (by decide) (fun h15 => ?_) (fun h15 => ?_)
    · refine r_iconst (v := nI 0) dX10_work_29 (by decide) ?_
      refine r_iconst (v := nI 1) dX10_work_30 (by decide) ?_
      refine r_iconst (v := nI 1) dX10_work_31 (by decide) ?_
      refine r_callV (c_may_0 xu_s (by decide) (by decide)) mv_X10_may ml_X10_203 ⟨by decide, by decide⟩ dX10_work_32 lay_137 rfl rfl rfl (Nat.le_of_ble_eq_true rfl) (fun v9 x9 h9 => ?_)
      obtain ⟨rfl, h9⟩ := h9
      refine PW.xeq h9 ?_
      clear h9 x9
      refine r_if_neB (tgt := 40) dX10_work_35 (by decide) (fun h => by cases h) (fun _ => ?_)
      refine r_iconst (v := nI 0) dX10_work_38 (by decide) ?_
      refine r_iret rfl dX10_work_39 ?_
      first
        | exact rchg_er hR rfl (by rw [oWork, if_neg (tx_n hH (by decide) (Or.inl h7))])
        | exact rchg_er hR rfl (by rw [oWork, if_neg (tx_n hH (by decide) (Or.inr (Or.inl (by first | exact h15 | exact Int32.not_le.mp h15))))])
        | exact rchg_er hR rfl (by rw [oWork, if_neg (tx_n hH (by decide) (Or.inr (Or.inr (by first | exact h22 | exact Int32.not_le.mp h22))))])
    · refine r_iload_n dX10_work_18 rfl (by rfl) ?_
      refine r_sipush (v := nI 150) dX10_work_19 (by decide) ?_
      refine r_icmp_gt (tgt := 29) dX10_work_22 (by decide) (fun h22 => ?_) (fun h22 => ?_)
      · refine r_iconst (v := nI 0) dX10_work_29 (by decide) ?_
        refine r_iconst (v := nI 1) dX10_work_30 (by decide) ?_
        refine r_iconst (v := nI 1) dX10_work_31 (by decide) ?_
        refine r_callV (c_may_0 xu_s (by decide) (by decide)) mv_X10_may ml_X10_203 ⟨by decide, by decide⟩ dX10_work_32 lay_137 rfl rfl rfl (Nat.le_of_ble_eq_true rfl) (fun v9 x9 h9 => ?_)
        obtain ⟨rfl, h9⟩ := h9
        refine PW.xeq h9 ?_
        clear h9 x9
        refine r_if_neB (tgt := 40) dX10_work_35 (by decide) (fun h => by cases h) (fun _ => ?_)
        refine r_iconst (v := nI 0) dX10_work_38 (by decide) ?_
        refine r_iret rfl dX10_work_39 ?_
        first
          | exact rchg_er hR rfl (by rw [oWork, if_neg (tx_n hH (by decide) (Or.inl h7))])
          | exact rchg_er hR rfl (by rw [oWork, if_neg (tx_n hH (by decide) (Or.inr (Or.inl (by first | exact h15 | exact Int32.not_le.mp h15))))])
          | exact rchg_er hR rfl (by rw [oWork, if_neg (tx_n hH (by decide) (Or.inr (Or.inr (by first | exact h22 | exact Int32.not_le.mp h22))))])
      · refine r_iconst (v := nI 1) dX10_work_25 (by decide) ?_
        refine r_goto (tgt := 30) dX10_work_26 (by decide) ?_
        refine r_iconst (v := nI 1) dX10_work_30 (by decide) ?_
        refine r_iconst (v := nI 1) dX10_work_31 (by decide) ?_
        refine r_callV (c_may_1 xu_s) mv_X10_may ml_X10_203 ⟨by decide, by decide⟩ dX10_work_32 lay_137 rfl rfl rfl (Nat.le_of_ble_eq_true rfl) (fun v9 x9 h9 => ?_)
        obtain ⟨rfl, h9⟩ := h9
        refine PW.xeq h9 ?_
        clear h9 x9
        refine r_if_neB (tgt := 40) dX10_work_35 (by decide) (fun _ => ?_) (fun h => by cases h)
        obtain ⟨n, hn1, hn2, rfl, hin⟩ := tx_y hH (show 150 ≤ 600 by decide) h7 (by first | exact h15 | exact Int32.not_lt.mpr h15) (by first | exact h22 | exact Int32.not_lt.mpr h22)
        refine r_aload_n dX10_work_40 rfl (by rfl) ?_
        refine r_iload_n dX10_work_41 rfl (by rfl) ?_
        refine r_callV n_begins mv_X10_begins ml_X10_207 ⟨by decide, by decide⟩ dX10_work_42 (by first | assumption | rfl) rfl rfl rfl (Nat.le_of_ble_eq_true rfl) (fun v9 x9 h9 => ?_)
        obtain ⟨rfl, h9⟩ := h9
        refine PW.xeq h9 ?_
        clear h9 x9
        refine r_aload_n dX10_work_45 rfl (by rfl) ?_
        refine gf_X10_172 rfl dX10_work_46 (by first | assumption | rfl) (by rfl) ?_
        refine PW.topi (show _ = nI (aWn a) from hR.2.2.2.2.2.1.1) ?_
        refine r_bipush (v := nI 16) dX10_work_49 (by decide) ?_
        refine r_icmp_neN (tgt := 63) dX10_work_51 (by decide) (by omega) (by omega) (fun h51 => ?_) (fun h51 => ?_)
        · refine r_aload_n dX10_work_63 rfl (by rfl) ?_
          refine r_iconst (v := nI 0) dX10_work_64 (by decide) ?_
          refine pf_X10_293 rfl dX10_work_65 (by first | assumption | rfl) (by rfl) ?_
          have hg : ∀ j, j < 600 → aT a j < 256 := fun j hj => (hR.2.2.2.1.2.2.1 j hj).2
          have L0 : WSt (wk0 x n) (aT a) n 0 (.ok ([], 0)) := ⟨PSt.ch (r := .ok 0) (bg_st hR.th (by omega)) (fun k hk => xu_k (by omega)) (xu_n (by decide)), rfl, hn1, fun p9 e9 => by
            injection e9 with e9
            subst e9
            exact ⟨rfl, Nat.le_refl _, fun i q hq => by cases hq⟩⟩
          refine PW.lc (L' := [(0, .ref 137)]) (x' := wk0 x n) (by rfl) rfl ?_
          refine work_loop (d := 11) (ns := eN (aE a)) (N := 151) (by decide) (step_all (lev := 6) hg (by omega) hR.1.2.1 (Nat.le_refl _)) (ust_all hg (by omega) 6) hR.1.1 L0 (fun p9 e9 => Nat.le_add_right _ _) (fun z r z1 z2 z3 => ?_)
          have z2 : pWork (aT a) n (eN (aE a)) 0 = r := (pW_eq _ _ _).trans z2
          cases r with
          | error e => exact work_tail_b hR hA hin hn1 (by omega) z3 z2 z1.1
          | ok p => exact work_tail_g hR hA hin hn1 (by omega) z3 z2 z1
        · refine r_aload_n dX10_work_54 rfl (by rfl) ?_
          refine r_iconst (v := nI 0) dX10_work_55 (by decide) ?_
          refine r_callV n_result mv_X10_result ml_X10_237 ⟨by decide, by decide⟩ dX10_work_56 (by first | assumption | rfl) rfl rfl rfl (Nat.le_of_ble_eq_true rfl) (fun v9 x9 h9 => ?_)
          obtain ⟨rfl, h9⟩ := h9
          refine PW.xeq h9 ?_
          clear h9 x9
          refine r_pop dX10_work_59 rfl ?_
          refine r_bipush (v := -20) dX10_work_60 (by decide) ?_
          refine r_iret rfl dX10_work_62 ?_
          refine rchg_ok (b := setT a (aT a) 0 (-1)) (by unfold oWork; rw [if_pos hin, if_pos (by omega)]) (hR.tape (fun c a1 a2 => (xu_n a1).trans ((bg_n a1).trans (xu_n a1))) (fun k a1 => (xu_k (by omega)).trans ((bg_k (by omega)).trans (xu_k (by omega)))) rfl (Nat.zero_le _) (fun j hj => hR.2.2.2.1.2.2.1 j hj) rfl) (fun c hc => (xu_n (by omega)).trans ((bg_n (by omega)).trans (xu_n (by omega)))) rfl
