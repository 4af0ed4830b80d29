/-! NIGHT: minutes in a row, nudges, cars, steps -/
def itM (x : XS) (c0 n sz fz : Nat) : Nat → XS
  | 0 => x
  | i + 1 => MN (itM x c0 n sz fz i) c0 n sz fz (nI 0)
theorem itM_n {x : XS} {c0 n sz fz j : Nat} (h1 : j ≠ c0 + 1) (h3 : j ≠ c0 + 3) (h4 : j ≠ c0 + 4) (h5 : j ≠ c0 + 5) (h26 : j ≠ 26) (h29 : j ≠ 29) : ∀ i, itM x c0 n sz fz i j = x j
  | 0 => rfl
  | i + 1 => by
    have ih := itM_n (x := x) (n := n) (sz := sz) (fz := fz) h1 h3 h4 h5 h26 h29 i
    unfold itM
    rw [MN_n h1 h3 h4 h5 h26 h29, ih]
theorem itM_40 {x : XS} {c0 n sz fz t : Nat} (hc : 43 ≤ c0) (hn : n ≤ 5) (ht : x (c0 + 1) 40 = nI t) (h2 : t ≤ 240) : ∀ i, itM x c0 n sz fz i (c0 + 1) 40 = nI (min (t + i) 240)
  | 0 => by rw [show min (t + 0) 240 = t by omega]; exact ht
  | i + 1 => by
    have ih := itM_40 (n := n) (sz := sz) (fz := fz) hc hn ht h2 i
    unfold itM
    rw [MN_40 hc hn ih (by omega)]
    congr 1
    split <;> omega
theorem MN_id {x : XS} {c0 n sz fz : Nat} {k : Int32} (ht : x (c0 + 1) 40 = nI 240) : MN x c0 n sz fz k = x := by
  unfold MN
  rw [if_neg (by rw [ht]; exact nI_nlt (by omega) (by omega))]
theorem itM_stop {x : XS} {c0 n sz fz i : Nat} (h : itM x c0 n sz fz i (c0 + 1) 40 = nI 240) : ∀ j, itM x c0 n sz fz (i + j) = itM x c0 n sz fz i
  | 0 => rfl
  | j + 1 => by
    have ih := itM_stop h j
    show MN (itM x c0 n sz fz (i + j)) c0 n sz fz (nI 0) = _
    rw [ih, MN_id h]
theorem itM_end {x : XS} {c0 n sz fz i m : Nat} (h : itM x c0 n sz fz i (c0 + 1) 40 = nI 240) (hm : i ≤ m) : itM x c0 n sz fz m = itM x c0 n sz fz i := by
  have := itM_stop h (m - i)
  rw [show i + (m - i) = m by omega] at this
  exact this
theorem nudgeR_40 {f : Nat → Int32} {p q : Nat} (hq : q < 5) : nudgeR f p q 40 = f 40 := by
  unfold nudgeR
  split
  · split
    · rw [pk_un (by omega), pk_un (by omega), pk_un (by omega)]
    · exact wakeR_40 hq
  · rfl
/-- with nudges -/
def nuY (y : XS) (c0 p q i : Nat) (sv : Int32) : XS := if i < 6 then (if bitV sv i = nI 1 then xr y (c0 + 1) (nudgeR (y (c0 + 1)) p q) else y) else y
def nuX (x : XS) (c0 n sz fz p q : Nat) (sv : Int32) : Nat → XS
  | 0 => x
  | i + 1 => MN (nuY (nuX x c0 n sz fz p q sv i) c0 p q i sv) c0 n sz fz (nI 0)
theorem nuY_n {y : XS} {c0 p q i j : Nat} {sv : Int32} (h1 : j ≠ c0 + 1) : nuY y c0 p q i sv j = y j := by
  unfold nuY
  split
  · split
    · rw [xr_n h1]
    · rfl
  · rfl
theorem nuY_40 {y : XS} {c0 p q i : Nat} {sv : Int32} (hq : q < 5) : nuY y c0 p q i sv (c0 + 1) 40 = y (c0 + 1) 40 := by
  unfold nuY
  split
  · split
    · rw [xr_s, nudgeR_40 hq]
    · rfl
  · rfl
theorem nuX_n {x : XS} {c0 n sz fz p q j : Nat} {sv : Int32} (h1 : j ≠ c0 + 1) (h3 : j ≠ c0 + 3) (h4 : j ≠ c0 + 4) (h5 : j ≠ c0 + 5) (h26 : j ≠ 26) (h29 : j ≠ 29) : ∀ i, nuX x c0 n sz fz p q sv i j = x j
  | 0 => rfl
  | i + 1 => by
    have ih := nuX_n (x := x) (n := n) (sz := sz) (fz := fz) (p := p) (q := q) (sv := sv) h1 h3 h4 h5 h26 h29 i
    unfold nuX
    rw [MN_n h1 h3 h4 h5 h26 h29, nuY_n h1, ih]
theorem nuX_40 {x : XS} {c0 n sz fz p q t : Nat} {sv : Int32} (hc : 43 ≤ c0) (hn : n ≤ 5) (hq : q < 5) (ht : x (c0 + 1) 40 = nI t) (h2 : t ≤ 240) : ∀ i, nuX x c0 n sz fz p q sv i (c0 + 1) 40 = nI (min (t + i) 240)
  | 0 => by rw [show min (t + 0) 240 = t by omega]; exact ht
  | i + 1 => by
    have ih := nuX_40 (n := n) (sz := sz) (fz := fz) (p := p) (sv := sv) hc hn hq ht h2 i
    unfold nuX
    rw [MN_40 hc hn (t := min (t + i) 240) (by rw [nuY_40 hq]; exact ih) (by omega)]
    congr 1
    split <;> omega
/-- with cars -/
def drw (s : Int32) : Nat → Int32
  | 0 => s
  | i + 1 => drw s i * 1103515245 + nI 12345
def dr16 (d : Int32) : Int32 := ((d.toUInt32 >>> ((nI 16).toUInt32 &&& Int32.toUInt32 31)).toInt32 &&& nI 32767) - ((d.toUInt32 >>> ((nI 16).toUInt32 &&& Int32.toUInt32 31)).toInt32 &&& nI 32767) / nI 16 * nI 16
def carB (s q : Int32) (i : Nat) : Bool := decide (dr16 (drw s (i + 1)) < q)
def pcX (x : XS) (c0 n sz fz : Nat) (s q loud : Int32) : Nat → XS
  | 0 => x
  | i + 1 => MN (xu (pcX x c0 n sz fz s q loud i) c0 8 (pcX x c0 n sz fz s q loud i c0 8 + (if carB s q i then nI 1 else nI 0))) c0 n sz fz (if carB s q i then loud else nI 0)
theorem pcX_n {x : XS} {c0 n sz fz j : Nat} {s q loud : Int32} (h0 : j ≠ c0) (h1 : j ≠ c0 + 1) (h3 : j ≠ c0 + 3) (h4 : j ≠ c0 + 4) (h5 : j ≠ c0 + 5) (h26 : j ≠ 26) (h29 : j ≠ 29) : ∀ i, pcX x c0 n sz fz s q loud i j = x j
  | 0 => rfl
  | i + 1 => by
    have ih := pcX_n (x := x) (n := n) (sz := sz) (fz := fz) (s := s) (q := q) (loud := loud) h0 h1 h3 h4 h5 h26 h29 i
    unfold pcX
    rw [MN_n h1 h3 h4 h5 h26 h29, xu_n h0, ih]
theorem pcX_40 {x : XS} {c0 n sz fz t : Nat} {s q loud : Int32} (hc : 43 ≤ c0) (hn : n ≤ 5) (ht : x (c0 + 1) 40 = nI t) (h2 : t ≤ 240) : ∀ i, pcX x c0 n sz fz s q loud i (c0 + 1) 40 = nI (min (t + i) 240)
  | 0 => by rw [show min (t + 0) 240 = t by omega]; exact ht
  | i + 1 => by
    have ih := pcX_40 (n := n) (sz := sz) (fz := fz) (s := s) (q := q) (loud := loud) hc hn ht h2 i
    unfold pcX
    rw [MN_40 hc hn (t := min (t + i) 240) (by rw [xu_n (by omega)]; exact ih) (by omega)]
    congr 1
    split <;> omega
set_option maxHeartbeats 8000000 in
set_option maxRecDepth 20000 in
theorem c_X6_sleptInNext {c0 n sz fz t m : Nat} {x : XS} (hN : IsN c0) (hn : n ≤ 5) (hs : x 3 0 = nI n) (hz : x 24 1 = nI sz) (hz5 : sz ≤ 150) (hf : x 27 1 = nI fz) (hf5 : fz ≤ 150) (ht : x (c0 + 1) 40 = nI t) (ht2 : t ≤ 240) (hm : m < 2 ^ 30) : MM mX6_sleptInNext 5 0 0 [.ref c0, .int (nI m)] x (fun v x1 => v = some (.int (sumR (itM x c0 n sz fz m (c0 + 1)) 25 n - sumR (x (c0 + 1)) 25 n)) ∧ x1 = itM x c0 n sz fz m) NoT := by
  refine MM.of (by decide) (Nat.le_of_ble_eq_true rfl) ?_
  have n0 := n_o hN
  have n1 := n_1 hN
  have hc := n_c hN
  have k3 : ∀ i, itM x c0 n sz fz i 3 0 = nI n := fun i => by rw [itM_n (by omega) (by omega) (by omega) (by omega) (by omega) (by omega)]; exact hs
  have k24 : ∀ i, itM x c0 n sz fz i 24 1 = nI sz := fun i => by rw [itM_n (by omega) (by omega) (by omega) (by omega) (by omega) (by omega)]; exact hz
  have k27 : ∀ i, itM x c0 n sz fz i 27 1 = nI fz := fun i => by rw [itM_n (by omega) (by omega) (by omega) (by omega) (by omega) (by omega)]; exact hf
  have k40 : ∀ i, itM x c0 n sz fz i (c0 + 1) 40 = nI (min (t + i) 240) := itM_40 hc.1 hn ht ht2
  refine r_aload_n dX6_sleptInNext_0 rfl (by rfl) ?_
  refine r_callV (c_X6_sleptByAll hN hn hs) mv_X6_sleptByAll ml_X6_131 ⟨by decide, by decide⟩ dX6_sleptInNext_1 (by first | assumption | rfl) rfl rfl rfl (Nat.le_of_ble_eq_true rfl) (fun v9 x9 h9 => ?_)
  obtain ⟨rfl, h9⟩ := h9
  refine PW.xeq h9 ?_
  clear h9 x9
  refine r_istore_n dX6_sleptInNext_4 rfl (by decide) ?_
  refine r_iconst (v := nI 0) dX6_sleptInNext_5 (by decide) ?_
  refine r_istore_n dX6_sleptInNext_6 rfl (by decide) ?_
  refine PW.loop (σ := Nat) (fun i => m - i) (fun i => i ≤ m) (fun i => [(0, .ref c0), (1, .int (nI m)), (2, .int (sumR (x (c0 + 1)) 25 n)), (3, .int (nI i))]) (fun i => itM x c0 n sz fz i) (0) (Nat.zero_le m) rfl rfl (fun i hi ih => ?_)
  refine r_iload_n dX6_sleptInNext_7 rfl (by rfl) ?_
  refine r_iload_n dX6_sleptInNext_8 rfl (by rfl) ?_
  refine r_icmp_geN (tgt := 29) dX6_sleptInNext_9 (by decide) (by omega) (by omega) (fun h9 => ?_) (fun h9 => ?_)
  · refine PW.lc (L' := [(0, .ref c0), (2, .int (sumR (x (c0 + 1)) 25 n))]) (x' := itM x c0 n sz fz m) rfl ?_ ?_
    · first
        | (have e : i = m := by omega
           rw [e])
        | (have h17 := of_decide_eq_false h17
           have h4 : itM x c0 n sz fz i (c0 + 1) 40 = nI 240 := by rw [k40 i]; congr 1; omega
           rw [itM_end (m := m) h4 (by omega)]
           exact MN_id h4)
    refine r_aload_n dX6_sleptInNext_29 rfl (by rfl) ?_
    refine r_callV (c_X6_sleptByAll hN hn (k3 m)) mv_X6_sleptByAll ml_X6_131 ⟨by decide, by decide⟩ dX6_sleptInNext_30 (by first | assumption | rfl) rfl rfl rfl (Nat.le_of_ble_eq_true rfl) (fun v9 x9 h9 => ?_)
    obtain ⟨rfl, h9⟩ := h9
    refine PW.xeq h9 ?_
    clear h9 x9
    refine r_iload_n dX6_sleptInNext_33 rfl (by rfl) ?_
    refine r_isub dX6_sleptInNext_34 ?_
    refine r_iret rfl dX6_sleptInNext_35 ?_
    exact ⟨rfl, rfl⟩
  · refine r_aload_n dX6_sleptInNext_12 rfl (by rfl) ?_
    refine r_iconst (v := nI 0) dX6_sleptInNext_13 (by decide) ?_
    refine r_callV (c_X6_passMinute hN hn (k3 i) (k24 i) hz5 (k27 i) hf5 (k40 i) (by omega)) mv_X6_passMinute ml_X6_135 ⟨by decide, by decide⟩ dX6_sleptInNext_14 (by first | assumption | rfl) rfl rfl rfl (Nat.le_of_ble_eq_true rfl) (fun v9 x9 h9 => ?_)
    obtain ⟨rfl, h9⟩ := h9
    refine PW.xeq h9 ?_
    clear h9 x9
    refine r_if_neB (tgt := 23) dX6_sleptInNext_17 (by decide) (fun h17 => ?_) (fun h17 => ?_)
    · refine r_iincN dX6_sleptInNext_23 (by rfl) (by decide) ?_
      refine r_goto (tgt := 7) dX6_sleptInNext_26 (by decide) ?_
      exact PW.lc (by rfl) rfl (ih (i + 1) (by omega) (by omega))
    · refine r_goto (tgt := 29) dX6_sleptInNext_20 (by decide) ?_
      refine PW.lc (L' := [(0, .ref c0), (2, .int (sumR (x (c0 + 1)) 25 n))]) (x' := itM x c0 n sz fz m) rfl ?_ ?_
      · first
          | (have e : i = m := by omega
             rw [e])
          | (have h17 := of_decide_eq_false h17
             have h4 : itM x c0 n sz fz i (c0 + 1) 40 = nI 240 := by rw [k40 i]; congr 1; omega
             rw [itM_end (m := m) h4 (by omega)]
             exact MN_id h4)
      refine r_aload_n dX6_sleptInNext_29 rfl (by rfl) ?_
      refine r_callV (c_X6_sleptByAll hN hn (k3 m)) mv_X6_sleptByAll ml_X6_131 ⟨by decide, by decide⟩ dX6_sleptInNext_30 (by first | assumption | rfl) rfl rfl rfl (Nat.le_of_ble_eq_true rfl) (fun v9 x9 h9 => ?_)
      obtain ⟨rfl, h9⟩ := h9
      refine PW.xeq h9 ?_
      clear h9 x9
      refine r_iload_n dX6_sleptInNext_33 rfl (by rfl) ?_
      refine r_isub dX6_sleptInNext_34 ?_
      refine r_iret rfl dX6_sleptInNext_35 ?_
      exact ⟨rfl, rfl⟩
set_option maxHeartbeats 8000000 in
set_option maxRecDepth 20000 in
theorem c_X6_oneSleptInNext {c0 n sz fz t m p : Nat} {x : XS} (hN : IsN c0) (hn : n ≤ 5) (hs : x 3 0 = nI n) (hz : x 24 1 = nI sz) (hz5 : sz ≤ 150) (hf : x 27 1 = nI fz) (hf5 : fz ≤ 150) (ht : x (c0 + 1) 40 = nI t) (ht2 : t ≤ 240) (hm : m < 2 ^ 30) (hp : p < 5) : MM mX6_oneSleptInNext 6 0 0 [.ref c0, .int (nI p), .int (nI m)] x (fun v x1 => v = some (.int (itM x c0 n sz fz m (c0 + 1) (25 + p) - x (c0 + 1) (25 + p))) ∧ x1 = itM x c0 n sz fz m) NoT := by
  refine MM.of (by decide) (Nat.le_of_ble_eq_true rfl) ?_
  have n0 := n_o hN
  have n1 := n_1 hN
  have hc := n_c hN
  refine r_aload_n dX6_oneSleptInNext_0 rfl (by rfl) ?_
  refine gf_X6_11 rfl dX6_oneSleptInNext_1 (by first | assumption | rfl) (by rfl) ?_
  refine r_bipush (v := nI 25) dX6_oneSleptInNext_4 (by decide) ?_
  refine r_iload_n dX6_oneSleptInNext_6 rfl (by rfl) ?_
  refine r_iaddN dX6_oneSleptInNext_7 ?_
  refine r_ialdN dX6_oneSleptInNext_8 (by first | assumption | rfl) (by omega) (by decide) ?_
  refine r_istore_n dX6_oneSleptInNext_9 rfl (by decide) ?_
  refine r_aload_n dX6_oneSleptInNext_10 rfl (by rfl) ?_
  refine r_iload_n dX6_oneSleptInNext_11 rfl (by rfl) ?_
  refine r_callV (c_X6_sleptInNext hN hn hs hz hz5 hf hf5 ht ht2 hm) mv_X6_sleptInNext ml_X6_138 ⟨by decide, by decide⟩ dX6_oneSleptInNext_12 (by first | assumption | rfl) rfl rfl rfl (Nat.le_of_ble_eq_true rfl) (fun v9 x9 h9 => ?_)
  obtain ⟨rfl, h9⟩ := h9
  refine PW.xeq h9 ?_
  clear h9 x9
  refine r_pop dX6_oneSleptInNext_15 rfl ?_
  refine r_aload_n dX6_oneSleptInNext_16 rfl (by rfl) ?_
  refine gf_X6_11 rfl dX6_oneSleptInNext_17 (by first | assumption | rfl) (by rfl) ?_
  refine r_bipush (v := nI 25) dX6_oneSleptInNext_20 (by decide) ?_
  refine r_iload_n dX6_oneSleptInNext_22 rfl (by rfl) ?_
  refine r_iaddN dX6_oneSleptInNext_23 ?_
  refine r_ialdN dX6_oneSleptInNext_24 (by first | assumption | rfl) (by omega) (by decide) ?_
  refine r_iload_n dX6_oneSleptInNext_25 rfl (by rfl) ?_
  refine r_isub dX6_oneSleptInNext_26 ?_
  refine r_iret rfl dX6_oneSleptInNext_27 ?_
  exact ⟨rfl, rfl⟩
set_option maxHeartbeats 8000000 in
set_option maxRecDepth 20000 in
theorem c_X6_sleptWithNudges {c0 n sz fz t m p q : Nat} {sv : Int32} {x : XS} (hN : IsN c0) (hn : n ≤ 5) (hs : x 3 0 = nI n) (hz : x 24 1 = nI sz) (hz5 : sz ≤ 150) (hf : x 27 1 = nI fz) (hf5 : fz ≤ 150) (ht : x (c0 + 1) 40 = nI t) (ht2 : t ≤ 240) (hm : m < 2 ^ 30) (hp : p < 5) (hq : q < 5) : MM mX6_sleptWithNudges 5 0 0 [.ref c0, .int (nI p), .int (nI q), .int sv, .int (nI m)] x (fun v x1 => v = some (.int (sumR (nuX x c0 n sz fz p q sv (if m ≤ 240 - t then m else 240 - t + 1) (c0 + 1)) 25 n - sumR (x (c0 + 1)) 25 n)) ∧ x1 = nuX x c0 n sz fz p q sv (if m ≤ 240 - t then m else 240 - t + 1)) NoT := by
  refine MM.of (by decide) (Nat.le_of_ble_eq_true rfl) ?_
  have n0 := n_o hN
  have n1 := n_1 hN
  have hc := n_c hN
  have k3 : ∀ i, nuX x c0 n sz fz p q sv i 3 0 = nI n := fun i => by rw [nuX_n (by omega) (by omega) (by omega) (by omega) (by omega) (by omega)]; exact hs
  have k24 : ∀ i, nuX x c0 n sz fz p q sv i 24 1 = nI sz := fun i => by rw [nuX_n (by omega) (by omega) (by omega) (by omega) (by omega) (by omega)]; exact hz
  have k27 : ∀ i, nuX x c0 n sz fz p q sv i 27 1 = nI fz := fun i => by rw [nuX_n (by omega) (by omega) (by omega) (by omega) (by omega) (by omega)]; exact hf
  have k40 : ∀ i, nuX x c0 n sz fz p q sv i (c0 + 1) 40 = nI (min (t + i) 240) := nuX_40 hc.1 hn hq ht ht2
  refine r_aload_n dX6_sleptWithNudges_0 rfl (by rfl) ?_
  refine r_callV (c_X6_sleptByAll hN hn hs) mv_X6_sleptByAll ml_X6_131 ⟨by decide, by decide⟩ dX6_sleptWithNudges_1 (by first | assumption | rfl) rfl rfl rfl (Nat.le_of_ble_eq_true rfl) (fun v9 x9 h9 => ?_)
  obtain ⟨rfl, h9⟩ := h9
  refine PW.xeq h9 ?_
  clear h9 x9
  refine r_istore dX6_sleptWithNudges_4 (by decide) ?_
  refine r_iconst (v := nI 0) dX6_sleptWithNudges_6 (by decide) ?_
  refine r_istore dX6_sleptWithNudges_7 (by decide) ?_
  refine PW.loop (σ := Nat) (fun i => m - i) (fun i => i ≤ m ∧ i ≤ 240 - t) (fun i => [(0, .ref c0), (1, .int (nI p)), (2, .int (nI q)), (3, .int sv), (4, .int (nI m)), (5, .int (sumR (x (c0 + 1)) 25 n)), (6, .int (nI i))]) (fun i => nuX x c0 n sz fz p q sv i) (0) (⟨Nat.zero_le m, Nat.zero_le _⟩) rfl rfl (fun i hi ih => ?_)
  refine r_iload dX6_sleptWithNudges_9 (by rfl) ?_
  refine r_iload dX6_sleptWithNudges_11 (by rfl) ?_
  refine r_icmp_geN (tgt := 57) dX6_sleptWithNudges_13 (by decide) (by omega) (by omega) (fun h13 => ?_) (fun h13 => ?_)
  · refine PW.lc (L' := [(0, .ref c0), (5, .int (sumR (x (c0 + 1)) 25 n))]) (x' := nuX x c0 n sz fz p q sv (if m ≤ 240 - t then m else 240 - t + 1)) rfl ?_ ?_
    · first
        | (rw [show (if m ≤ 240 - t then m else 240 - t + 1) = i by split <;> omega]; done)
        | (have h45 := of_decide_eq_false h45
           rw [show (if m ≤ 240 - t then m else 240 - t + 1) = i + 1 by split <;> omega]
           rfl)
    refine r_aload_n dX6_sleptWithNudges_57 rfl (by rfl) ?_
    refine r_callV (c_X6_sleptByAll hN hn (k3 _)) mv_X6_sleptByAll ml_X6_131 ⟨by decide, by decide⟩ dX6_sleptWithNudges_58 (by first | assumption | rfl) rfl rfl rfl (Nat.le_of_ble_eq_true rfl) (fun v9 x9 h9 => ?_)
    obtain ⟨rfl, h9⟩ := h9
    refine PW.xeq h9 ?_
    clear h9 x9
    refine r_iload dX6_sleptWithNudges_61 (by rfl) ?_
    refine r_isub dX6_sleptWithNudges_63 ?_
    refine r_iret rfl dX6_sleptWithNudges_64 ?_
    exact ⟨rfl, rfl⟩
  · refine r_iload dX6_sleptWithNudges_16 (by rfl) ?_
    refine r_bipush (v := nI 6) dX6_sleptWithNudges_18 (by decide) ?_
    refine r_icmp_geN (tgt := 40) dX6_sleptWithNudges_20 (by decide) (by omega) (by omega) (fun h20 => ?_) (fun h20 => ?_)
    · refine PW.xeq (x' := (nuY (nuX x c0 n sz fz p q sv i) c0 p q i sv)) ?_ ?_
      · unfold nuY
        first
          | (rw [if_neg (by omega)]; done)
          | (rw [if_pos h20, if_neg h30]; done)
          | (rw [if_pos h20, if_pos h30]; done)
      refine r_aload_n dX6_sleptWithNudges_40 rfl (by rfl) ?_
      refine r_iconst (v := nI 0) dX6_sleptWithNudges_41 (by decide) ?_
      refine r_callV (c_X6_passMinute (t := min (t + i) 240) hN hn (by rw [nuY_n (by omega)]; exact k3 i) (by rw [nuY_n (by omega)]; exact k24 i) hz5 (by rw [nuY_n (by omega)]; exact k27 i) hf5 (by rw [nuY_40 hq]; exact k40 i) (by omega)) mv_X6_passMinute ml_X6_135 ⟨by decide, by decide⟩ dX6_sleptWithNudges_42 (by first | assumption | rfl) rfl rfl rfl (Nat.le_of_ble_eq_true rfl) (fun v9 x9 h9 => ?_)
      obtain ⟨rfl, h9⟩ := h9
      refine PW.xeq h9 ?_
      clear h9 x9
      refine r_if_neB (tgt := 51) dX6_sleptWithNudges_45 (by decide) (fun h45 => ?_) (fun h45 => ?_)
      · refine r_iincN dX6_sleptWithNudges_51 (by rfl) (by decide) ?_
        refine r_goto (tgt := 9) dX6_sleptWithNudges_54 (by decide) ?_
        have h45 := of_decide_eq_true h45
        exact PW.lc (by rfl) rfl (ih (i + 1) (by omega) (by omega))
      · refine r_goto (tgt := 57) dX6_sleptWithNudges_48 (by decide) ?_
        refine PW.lc (L' := [(0, .ref c0), (5, .int (sumR (x (c0 + 1)) 25 n))]) (x' := nuX x c0 n sz fz p q sv (if m ≤ 240 - t then m else 240 - t + 1)) rfl ?_ ?_
        · first
            | (rw [show (if m ≤ 240 - t then m else 240 - t + 1) = i by split <;> omega]; done)
            | (have h45 := of_decide_eq_false h45
               rw [show (if m ≤ 240 - t then m else 240 - t + 1) = i + 1 by split <;> omega]
               rfl)
        refine r_aload_n dX6_sleptWithNudges_57 rfl (by rfl) ?_
        refine r_callV (c_X6_sleptByAll hN hn (k3 _)) mv_X6_sleptByAll ml_X6_131 ⟨by decide, by decide⟩ dX6_sleptWithNudges_58 (by first | assumption | rfl) rfl rfl rfl (Nat.le_of_ble_eq_true rfl) (fun v9 x9 h9 => ?_)
        obtain ⟨rfl, h9⟩ := h9
        refine PW.xeq h9 ?_
        clear h9 x9
        refine r_iload dX6_sleptWithNudges_61 (by rfl) ?_
        refine r_isub dX6_sleptWithNudges_63 ?_
        refine r_iret rfl dX6_sleptWithNudges_64 ?_
        exact ⟨rfl, rfl⟩
    · refine r_iload_n dX6_sleptWithNudges_23 rfl (by rfl) ?_
      refine r_iload dX6_sleptWithNudges_24 (by rfl) ?_
      refine r_ishr dX6_sleptWithNudges_26 ?_
      refine r_iconst (v := nI 1) dX6_sleptWithNudges_27 (by decide) ?_
      refine r_iand dX6_sleptWithNudges_28 ?_
      refine PW.topi (show _ = bitV sv i from rfl) ?_
      refine r_iconst (v := nI 1) dX6_sleptWithNudges_29 (by decide) ?_
      refine r_icmp_ne (tgt := 40) dX6_sleptWithNudges_30 (by decide) (fun h30 => ?_) (fun h30 => ?_)
      · refine PW.xeq (x' := (nuY (nuX x c0 n sz fz p q sv i) c0 p q i sv)) ?_ ?_
        · unfold nuY
          first
            | (rw [if_neg (by omega)]; done)
            | (rw [if_pos h20, if_neg h30]; done)
            | (rw [if_pos h20, if_pos h30]; done)
        refine r_aload_n dX6_sleptWithNudges_40 rfl (by rfl) ?_
        refine r_iconst (v := nI 0) dX6_sleptWithNudges_41 (by decide) ?_
        refine r_callV (c_X6_passMinute (t := min (t + i) 240) hN hn (by rw [nuY_n (by omega)]; exact k3 i) (by rw [nuY_n (by omega)]; exact k24 i) hz5 (by rw [nuY_n (by omega)]; exact k27 i) hf5 (by rw [nuY_40 hq]; exact k40 i) (by omega)) mv_X6_passMinute ml_X6_135 ⟨by decide, by decide⟩ dX6_sleptWithNudges_42 (by first | assumption | rfl) rfl rfl rfl (Nat.le_of_ble_eq_true rfl) (fun v9 x9 h9 => ?_)
        obtain ⟨rfl, h9⟩ := h9
        refine PW.xeq h9 ?_
        clear h9 x9
        refine r_if_neB (tgt := 51) dX6_sleptWithNudges_45 (by decide) (fun h45 => ?_) (fun h45 => ?_)
        · refine r_iincN dX6_sleptWithNudges_51 (by rfl) (by decide) ?_
          refine r_goto (tgt := 9) dX6_sleptWithNudges_54 (by decide) ?_
          have h45 := of_decide_eq_true h45
          exact PW.lc (by rfl) rfl (ih (i + 1) (by omega) (by omega))
        · refine r_goto (tgt := 57) dX6_sleptWithNudges_48 (by decide) ?_
          refine PW.lc (L' := [(0, .ref c0), (5, .int (sumR (x (c0 + 1)) 25 n))]) (x' := nuX x c0 n sz fz p q sv (if m ≤ 240 - t then m else 240 - t + 1)) rfl ?_ ?_
          · first
              | (rw [show (if m ≤ 240 - t then m else 240 - t + 1) = i by split <;> omega]; done)
              | (have h45 := of_decide_eq_false h45
                 rw [show (if m ≤ 240 - t then m else 240 - t + 1) = i + 1 by split <;> omega]
                 rfl)
          refine r_aload_n dX6_sleptWithNudges_57 rfl (by rfl) ?_
          refine r_callV (c_X6_sleptByAll hN hn (k3 _)) mv_X6_sleptByAll ml_X6_131 ⟨by decide, by decide⟩ dX6_sleptWithNudges_58 (by first | assumption | rfl) rfl rfl rfl (Nat.le_of_ble_eq_true rfl) (fun v9 x9 h9 => ?_)
          obtain ⟨rfl, h9⟩ := h9
          refine PW.xeq h9 ?_
          clear h9 x9
          refine r_iload dX6_sleptWithNudges_61 (by rfl) ?_
          refine r_isub dX6_sleptWithNudges_63 ?_
          refine r_iret rfl dX6_sleptWithNudges_64 ?_
          exact ⟨rfl, rfl⟩
      · refine r_aload_n dX6_sleptWithNudges_33 rfl (by rfl) ?_
        refine r_iload_n dX6_sleptWithNudges_34 rfl (by rfl) ?_
        refine r_iload_n dX6_sleptWithNudges_35 rfl (by rfl) ?_
        refine r_callV (c_X6_nudge hN hp hq) mv_X6_nudge ml_X6_141 ⟨by decide, by decide⟩ dX6_sleptWithNudges_36 (by first | assumption | rfl) rfl rfl rfl (Nat.le_of_ble_eq_true rfl) (fun v9 x9 h9 => ?_)
        obtain ⟨rfl, h9⟩ := h9
        refine PW.xeq h9 ?_
        clear h9 x9
        refine r_pop dX6_sleptWithNudges_39 rfl ?_
        refine PW.xeq (x' := (nuY (nuX x c0 n sz fz p q sv i) c0 p q i sv)) ?_ ?_
        · unfold nuY
          first
            | (rw [if_neg (by omega)]; done)
            | (rw [if_pos h20, if_neg h30]; done)
            | (rw [if_pos h20, if_pos h30]; done)
        refine r_aload_n dX6_sleptWithNudges_40 rfl (by rfl) ?_
        refine r_iconst (v := nI 0) dX6_sleptWithNudges_41 (by decide) ?_
        refine r_callV (c_X6_passMinute (t := min (t + i) 240) hN hn (by rw [nuY_n (by omega)]; exact k3 i) (by rw [nuY_n (by omega)]; exact k24 i) hz5 (by rw [nuY_n (by omega)]; exact k27 i) hf5 (by rw [nuY_40 hq]; exact k40 i) (by omega)) mv_X6_passMinute ml_X6_135 ⟨by decide, by decide⟩ dX6_sleptWithNudges_42 (by first | assumption | rfl) rfl rfl rfl (Nat.le_of_ble_eq_true rfl) (fun v9 x9 h9 => ?_)
        obtain ⟨rfl, h9⟩ := h9
        refine PW.xeq h9 ?_
        clear h9 x9
        refine r_if_neB (tgt := 51) dX6_sleptWithNudges_45 (by decide) (fun h45 => ?_) (fun h45 => ?_)
        · refine r_iincN dX6_sleptWithNudges_51 (by rfl) (by decide) ?_
          refine r_goto (tgt := 9) dX6_sleptWithNudges_54 (by decide) ?_
          have h45 := of_decide_eq_true h45
          exact PW.lc (by rfl) rfl (ih (i + 1) (by omega) (by omega))
        · refine r_goto (tgt := 57) dX6_sleptWithNudges_48 (by decide) ?_
          refine PW.lc (L' := [(0, .ref c0), (5, .int (sumR (x (c0 + 1)) 25 n))]) (x' := nuX x c0 n sz fz p q sv (if m ≤ 240 - t then m else 240 - t + 1)) rfl ?_ ?_
          · first
              | (rw [show (if m ≤ 240 - t then m else 240 - t + 1) = i by split <;> omega]; done)
              | (have h45 := of_decide_eq_false h45
                 rw [show (if m ≤ 240 - t then m else 240 - t + 1) = i + 1 by split <;> omega]
                 rfl)
          refine r_aload_n dX6_sleptWithNudges_57 rfl (by rfl) ?_
          refine r_callV (c_X6_sleptByAll hN hn (k3 _)) mv_X6_sleptByAll ml_X6_131 ⟨by decide, by decide⟩ dX6_sleptWithNudges_58 (by first | assumption | rfl) rfl rfl rfl (Nat.le_of_ble_eq_true rfl) (fun v9 x9 h9 => ?_)
          obtain ⟨rfl, h9⟩ := h9
          refine PW.xeq h9 ?_
          clear h9 x9
          refine r_iload dX6_sleptWithNudges_61 (by rfl) ?_
          refine r_isub dX6_sleptWithNudges_63 ?_
          refine r_iret rfl dX6_sleptWithNudges_64 ?_
          exact ⟨rfl, rfl⟩
