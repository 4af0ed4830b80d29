/-! NIGHT: hearing, a minute -/
theorem n_c {c0 : Nat} (h : IsN c0) : 43 ≤ c0 ∧ c0 ≤ 49 := by rcases h with rfl | rfl <;> decide
/-- what each snores -/
def snX (x : XS) (c0 sz : Nat) : Nat → XS
  | 0 => x
  | i + 1 =>
    if asl (snX x c0 sz i (c0 + 1)) i && decide (snX x c0 sz i (c0 + 1) (15 + i) = 0) then xu (lawx (gvLoud (snX x c0 sz i) c0 i) 24 (c0 + 5) sz) (c0 + 3) i (bnd (lawv (gvLoud (snX x c0 sz i) c0 i) 24 (c0 + 5) sz))
    else xu (snX x c0 sz i) (c0 + 3) i (nI 0)
theorem lawx_n {x : XS} {cl cg sz j : Nat} (h : j ≠ cl + 2) : lawx x cl cg sz j = x j := xr_n h
theorem gvLoud_n {x : XS} {c0 p j : Nat} (h : j ≠ c0 + 5) : gvLoud x c0 p j = x j := xr_n h
theorem gvFall_n {x : XS} {c0 p j : Nat} (h : j ≠ c0 + 5) : gvFall x c0 p j = x j := xr_n h
theorem snX_n {x : XS} {c0 sz j : Nat} (h3 : j ≠ c0 + 3) (h5 : j ≠ c0 + 5) (h26 : j ≠ 26) : ∀ i, snX x c0 sz i j = x j
  | 0 => rfl
  | i + 1 => by
    have ih := snX_n (x := x) (sz := sz) h3 h5 h26 i
    unfold snX
    split
    · rw [xu_n h3, lawx_n h26, gvLoud_n h5, ih]
    · rw [xu_n h3, ih]
def smX (z : XS) (c0 p : Nat) (ev : Int32) : Nat → Int32
  | 0 => ev
  | j + 1 => smX z c0 p ev j + reachV z c0 p j
def hdX (y : XS) (c0 : Nat) (ev : Int32) (n : Nat) : Nat → XS
  | 0 => y
  | i + 1 => xu (hdX y c0 ev n i) (c0 + 4) i (imax (nI 0) (smX (hdX y c0 ev n i) c0 i ev n - hdX y c0 ev n i (c0 + 1) (35 + i)))
theorem hdX_n {y : XS} {c0 n j : Nat} {ev : Int32} (h : j ≠ c0 + 4) : ∀ i, hdX y c0 ev n i j = y j
  | 0 => rfl
  | i + 1 => by
    have ih := hdX_n (y := y) (n := n) (ev := ev) h i
    unfold hdX
    rw [xu_n h, ih]
def hearX (x : XS) (c0 n sz t : Nat) (k : Int32) : XS := hdX (snX x c0 sz n) c0 (snX x c0 sz n 12 (t % 60) + k) n n
theorem hearX_n {x : XS} {c0 n sz t j : Nat} {k : Int32} (h3 : j ≠ c0 + 3) (h4 : j ≠ c0 + 4) (h5 : j ≠ c0 + 5) (h26 : j ≠ 26) : hearX x c0 n sz t k j = x j := by
  unfold hearX
  rw [hdX_n h4, snX_n h3 h5 h26]
/-- one after the other sleeps on, wakes, falls asleep or lies on -/
def mnX (y : XS) (c0 fz : Nat) : Nat → XS
  | 0 => y
  | i + 1 => if asl (mnX y c0 fz i (c0 + 1)) i then xr (mnX y c0 fz i) (c0 + 1) (sleepR (mnX y c0 fz i) (mnX y c0 fz i (c0 + 1)) i (mnX y c0 fz i (c0 + 4) i)) else fosX (mnX y c0 fz i) c0 i fz
theorem fosX_n {x : XS} {c0 p fz j : Nat} (h1 : j ≠ c0 + 1) (h5 : j ≠ c0 + 5) (h29 : j ≠ 29) : fosX x c0 p fz j = x j := by
  unfold fosX
  split
  · rw [xr_n h1]
  · rw [xr_n h1, lawx_n h29, gvFall_n h5]
theorem mnX_n {y : XS} {c0 fz j : Nat} (h1 : j ≠ c0 + 1) (h5 : j ≠ c0 + 5) (h29 : j ≠ 29) : ∀ i, mnX y c0 fz i j = y j
  | 0 => rfl
  | i + 1 => by
    have ih := mnX_n (y := y) (fz := fz) h1 h5 h29 i
    unfold mnX
    split
    · rw [xr_n h1, ih]
    · rw [fosX_n h1 h5 h29, ih]
/-- a minute -/
def MN (x : XS) (c0 n sz fz : Nat) (k : Int32) : XS := if x (c0 + 1) 40 < nI 240 then xu (mnX (hearX x c0 n sz (x (c0 + 1) 40).toNatClampNeg k) c0 fz n) (c0 + 1) 40 (mnX (hearX x c0 n sz (x (c0 + 1) 40).toNatClampNeg k) c0 fz n (c0 + 1) 40 + nI 1) else x
theorem MN_n {x : XS} {c0 n sz fz j : Nat} {k : Int32} (h1 : j ≠ c0 + 1) (h3 : j ≠ c0 + 3) (h4 : j ≠ c0 + 4) (h5 : j ≠ c0 + 5) (h26 : j ≠ 26) (h29 : j ≠ 29) : MN x c0 n sz fz k j = x j := by
  unfold MN
  split
  · rw [xu_n h1, mnX_n h1 h5 h29, hearX_n h3 h4 h5 h26]
  · rfl
theorem wakeR_40 {f : Nat → Int32} {p : Nat} (hp : p < 5) : wakeR f p 40 = f 40 := by
  unfold wakeR
  rw [pk_un (by decide), pk_un (by omega), pk_un (by omega), pk_un (by omega)]
theorem sleepR_40 {x : XS} {f : Nat → Int32} {p : Nat} {h : Int32} (hp : p < 5) : sleepR x f p h 40 = f 40 := by
  unfold sleepR
  dsimp only
  split
  · split
    · split
      · rw [pk_un (by omega), pk_un (by omega), pk_un (by omega), pk_un (by omega)]
      · rw [pk_un (by omega), pk_un (by omega), pk_un (by omega), pk_un (by omega), pk_un (by omega)]
    · rw [pk_un (by omega), pk_un (by omega), pk_un (by omega)]
  · exact wakeR_40 hp
theorem stayR_40 {f : Nat → Int32} {p : Nat} {b : Bool} (hp : p < 5) : stayR f p b 40 = f 40 := by
  unfold stayR
  dsimp only
  split
  · rw [pk_un (by omega), pk_un (by omega), pk_un (by omega)]
  · rw [pk_un (by omega), pk_un (by omega)]
theorem mnX_40 {y : XS} {c0 fz : Nat} : ∀ i, i ≤ 5 → mnX y c0 fz i (c0 + 1) 40 = y (c0 + 1) 40
  | 0, _ => rfl
  | i + 1, hi => by
    have ih := mnX_40 (y := y) (c0 := c0) (fz := fz) i (by omega)
    unfold mnX
    split
    · rw [xr_s, sleepR_40 (by omega), ih]
    · unfold fosX
      split
      · rw [xr_s, stayR_40 (by omega), ih]
      · rw [xr_s, stayR_40 (by omega), ih]
theorem nI_1' (t : Nat) : nI t + nI 1 = nI (t + 1) := nI_add t 1
theorem MN_40 {x : XS} {c0 n sz fz t : Nat} {k : Int32} (hc : 43 ≤ c0) (hn : n ≤ 5) (ht : x (c0 + 1) 40 = nI t) (h2 : t ≤ 240) : MN x c0 n sz fz k (c0 + 1) 40 = nI (if t < 240 then t + 1 else t) := by
  unfold MN
  by_cases h : t < 240
  · rw [if_pos h, if_pos (by rw [ht]; exact nI_lt h (by omega)), xu_s, mnX_40 n hn, hearX_n (by omega) (by omega) (by omega) (by omega), ht, nI_1' t]
  · rw [if_neg h, if_neg (by rw [ht]; exact nI_nlt (by omega) (by omega)), ht]
set_option maxHeartbeats 8000000 in
set_option maxRecDepth 20000 in
theorem c_X6_hearAll {c0 n sz t : Nat} {k : Int32} {x : XS} (hN : IsN c0) (hn : n ≤ 5) (hs : x 3 0 = nI n) (hz : x 24 1 = nI sz) (hz5 : sz ≤ 150) (ht : x (c0 + 1) 40 = nI t) (ht2 : t ≤ 240) : MM mX6_hearAll 3 0 0 [.ref c0, .int k] x (fun v x1 => v = none ∧ x1 = hearX x c0 n sz t k) NoT := by
  refine MM.of (by decide) (Nat.le_of_ble_eq_true rfl) ?_
  have n0 := n_o hN
  have n1 := n_1 hN
  have n2 := n_2 hN
  have n3 := n_3 hN
  have n4 := n_4 hN
  have n5 := n_5 hN
  have y3 := lay_3
  have y12 := lay_12
  have hc := n_c hN
  have s3 : ∀ i, snX x c0 sz i 3 0 = nI n := fun i => by rw [snX_n (by omega) (by omega) (by omega)]; exact hs
  have s24 : ∀ i, snX x c0 sz i 24 1 = nI sz := fun i => by rw [snX_n (by omega) (by omega) (by omega)]; exact hz
  have s40 : snX x c0 sz n (c0 + 1) 40 = nI t := by rw [snX_n (by omega) (by omega) (by omega)]; exact ht
  have d3 : ∀ i, hdX (snX x c0 sz n) c0 (snX x c0 sz n 12 (t % 60) + k) n i 3 0 = nI n := fun i => by rw [hdX_n (by omega)]; exact s3 n
  refine r_iconst (v := nI 0) dX6_hearAll_0 (by decide) ?_
  refine r_istore_n dX6_hearAll_1 rfl (by decide) ?_
  refine PW.loop (σ := Nat) (fun i => n - i) (fun i => i ≤ n) (fun i => [(0, .ref c0), (1, .int k), (2, .int (nI i))]) (fun i => snX x c0 sz i) (0) (Nat.zero_le n) rfl rfl (fun i hi ih => ?_)
  refine r_iload_n dX6_hearAll_2 rfl (by rfl) ?_
  refine r_aload_n dX6_hearAll_3 rfl (by rfl) ?_
  refine gf_X6_36 rfl dX6_hearAll_4 (by first | assumption | rfl) (by rfl) ?_
  refine gf_X6_44 rfl dX6_hearAll_7 (by first | assumption | rfl) (by rfl) ?_
  refine PW.topi (s3 i) ?_
  refine r_icmp_geN (tgt := 54) dX6_hearAll_10 (by decide) (by omega) (by omega) (fun h10 => ?_) (fun h10 => ?_)
  · have e54 : i = n := by omega
    refine PW.lc (L' := [(0, .ref c0), (1, .int k)]) (x' := snX x c0 sz n) rfl (by rw [e54]) ?_
    clear ih hi e54 h10 i
    refine r_aload_n dX6_hearAll_54 rfl (by rfl) ?_
    refine gf_X6_36 rfl dX6_hearAll_55 (by first | assumption | rfl) (by rfl) ?_
    refine r_aload_n dX6_hearAll_58 rfl (by rfl) ?_
    refine gf_X6_11 rfl dX6_hearAll_59 (by first | assumption | rfl) (by rfl) ?_
    refine r_bipush (v := nI 40) dX6_hearAll_62 (by decide) ?_
    refine r_ialdN dX6_hearAll_64 (by first | assumption | rfl) (by omega) (by decide) ?_
    refine PW.topi s40 ?_
    refine r_callV (c_X3_strikesIn (by omega)) mv_X3_strikesIn ml_X6_107 ⟨by decide, by decide⟩ dX6_hearAll_65 (by first | assumption | rfl) rfl rfl rfl (Nat.le_of_ble_eq_true rfl) (fun v9 x9 h9 => ?_)
    obtain ⟨rfl, h9⟩ := h9
    refine PW.xeq h9 ?_
    clear h9 x9
    refine r_iload_n dX6_hearAll_68 rfl (by rfl) ?_
    refine r_iadd dX6_hearAll_69 ?_
    refine r_istore_n dX6_hearAll_70 rfl (by decide) ?_
    refine r_iconst (v := nI 0) dX6_hearAll_71 (by decide) ?_
    refine r_istore_n dX6_hearAll_72 rfl (by decide) ?_
    refine PW.loop (σ := Nat) (fun i => n - i) (fun i => i ≤ n) (fun i => [(0, .ref c0), (2, .int (snX x c0 sz n 12 (t % 60) + k)), (3, .int (nI i))]) (fun i => hdX (snX x c0 sz n) c0 (snX x c0 sz n 12 (t % 60) + k) n i) (0) (Nat.zero_le n) rfl rfl (fun i hi ih => ?_)
    have hfin : ∀ j, j = n → xu (hdX (snX x c0 sz n) c0 (snX x c0 sz n 12 (t % 60) + k) n i) (c0 + 4) i (imax (nI 0) (smX (hdX (snX x c0 sz n) c0 (snX x c0 sz n 12 (t % 60) + k) n i) c0 i (snX x c0 sz n 12 (t % 60) + k) j - hdX (snX x c0 sz n) c0 (snX x c0 sz n 12 (t % 60) + k) n i (c0 + 1) (35 + i))) = hdX (snX x c0 sz n) c0 (snX x c0 sz n 12 (t % 60) + k) n (i + 1) := by
      intro j e
      subst e
      rfl
    refine r_iload_n dX6_hearAll_73 rfl (by rfl) ?_
    refine r_aload_n dX6_hearAll_74 rfl (by rfl) ?_
    refine gf_X6_36 rfl dX6_hearAll_75 (by first | assumption | rfl) (by rfl) ?_
    refine gf_X6_44 rfl dX6_hearAll_78 (by first | assumption | rfl) (by rfl) ?_
    refine PW.topi (d3 i) ?_
    refine r_icmp_geN (tgt := 148) dX6_hearAll_81 (by decide) (by omega) (by omega) (fun h81 => ?_) (fun h81 => ?_)
    · refine r_ret rfl dX6_hearAll_148 ?_
      have e : i = n := by omega
      subst e
      exact ⟨rfl, rfl⟩
    · refine r_iload_n dX6_hearAll_84 rfl (by rfl) ?_
      refine r_istore dX6_hearAll_85 (by decide) ?_
      refine r_iconst (v := nI 0) dX6_hearAll_87 (by decide) ?_
      refine r_istore dX6_hearAll_88 (by decide) ?_
      refine PW.loop (σ := Nat) (fun j => n - j) (fun j => j ≤ n) (fun j => [(0, .ref c0), (2, .int (snX x c0 sz n 12 (t % 60) + k)), (3, .int (nI i)), (4, .int (smX (hdX (snX x c0 sz n) c0 (snX x c0 sz n 12 (t % 60) + k) n i) c0 i (snX x c0 sz n 12 (t % 60) + k) j)), (5, .int (nI j))]) (fun _ => hdX (snX x c0 sz n) c0 (snX x c0 sz n 12 (t % 60) + k) n i) (0) (Nat.zero_le n) rfl rfl (fun j hj jh => ?_)
      refine r_iload dX6_hearAll_90 (by rfl) ?_
      refine r_aload_n dX6_hearAll_92 rfl (by rfl) ?_
      refine gf_X6_36 rfl dX6_hearAll_93 (by first | assumption | rfl) (by rfl) ?_
      refine gf_X6_44 rfl dX6_hearAll_96 (by first | assumption | rfl) (by rfl) ?_
      refine PW.topi (d3 i) ?_
      refine r_icmp_geN (tgt := 120) dX6_hearAll_99 (by decide) (by omega) (by omega) (fun h99 => ?_) (fun h99 => ?_)
      · refine r_aload_n dX6_hearAll_120 rfl (by rfl) ?_
        refine gf_X6_21 rfl dX6_hearAll_121 (by first | assumption | rfl) (by rfl) ?_
        refine r_iload_n dX6_hearAll_124 rfl (by rfl) ?_
        refine r_iconst (v := nI 0) dX6_hearAll_125 (by decide) ?_
        refine r_iload dX6_hearAll_126 (by rfl) ?_
        refine r_aload_n dX6_hearAll_128 rfl (by rfl) ?_
        refine gf_X6_11 rfl dX6_hearAll_129 (by first | assumption | rfl) (by rfl) ?_
        refine r_bipush (v := nI 35) dX6_hearAll_132 (by decide) ?_
        refine r_iload_n dX6_hearAll_134 rfl (by rfl) ?_
        refine r_iaddN dX6_hearAll_135 ?_
        refine r_ialdN dX6_hearAll_136 (by first | assumption | rfl) (by omega) (by decide) ?_
        refine r_isub dX6_hearAll_137 ?_
        refine r_callS c_max ms_J9_max_7cf53 ml_X6_89 ⟨by decide, by decide⟩ dX6_hearAll_138 rfl (Nat.le_of_ble_eq_true rfl) (fun v9 x9 h9 => ?_)
        obtain ⟨rfl, h9⟩ := h9
        refine PW.xeq h9 ?_
        clear h9 x9
        refine r_iastN dX6_hearAll_141 (by first | assumption | rfl) (by omega) (by decide) ?_
        refine r_iincN dX6_hearAll_142 (by rfl) (by decide) ?_
        refine r_goto (tgt := 73) dX6_hearAll_145 (by decide) ?_
        exact PW.lc (by rfl) (hfin j (by omega)) (ih (i + 1) (by omega) (by omega))
      · refine r_iload dX6_hearAll_102 (by rfl) ?_
        refine r_aload_n dX6_hearAll_104 rfl (by rfl) ?_
        refine r_iload_n dX6_hearAll_105 rfl (by rfl) ?_
        refine r_iload dX6_hearAll_106 (by rfl) ?_
        refine r_callV (c_X6_reaching hN (by omega) (by omega)) mv_X6_reaching ml_X6_110 ⟨by decide, by decide⟩ dX6_hearAll_108 (by first | assumption | rfl) rfl rfl rfl (Nat.le_of_ble_eq_true rfl) (fun v9 x9 h9 => ?_)
        obtain ⟨rfl, h9⟩ := h9
        refine PW.xeq h9 ?_
        clear h9 x9
        refine r_iadd dX6_hearAll_111 ?_
        refine r_istore dX6_hearAll_112 (by decide) ?_
        refine r_iincN dX6_hearAll_114 (by rfl) (by decide) ?_
        refine r_goto (tgt := 90) dX6_hearAll_117 (by decide) ?_
        exact PW.lc (by rfl) rfl (jh (j + 1) (by omega) (by omega))
  · refine r_aload_n dX6_hearAll_13 rfl (by rfl) ?_
    refine gf_X6_18 rfl dX6_hearAll_14 (by first | assumption | rfl) (by rfl) ?_
    refine r_iload_n dX6_hearAll_17 rfl (by rfl) ?_
    refine r_aload_n dX6_hearAll_18 rfl (by rfl) ?_
    refine r_iload_n dX6_hearAll_19 rfl (by rfl) ?_
    refine r_callV (c_X6_isAsleep hN (by omega)) mv_X6_isAsleep ml_X6_67 ⟨by decide, by decide⟩ dX6_hearAll_20 (by first | assumption | rfl) rfl rfl rfl (Nat.le_of_ble_eq_true rfl) (fun v9 x9 h9 => ?_)
    obtain ⟨rfl, h9⟩ := h9
    refine PW.xeq h9 ?_
    clear h9 x9
    refine r_if_eqB (tgt := 46) dX6_hearAll_23 (by decide) (fun h23 => ?_) (fun h23 => ?_)
    · refine r_iconst (v := nI 0) dX6_hearAll_46 (by decide) ?_
      refine r_iastN dX6_hearAll_47 (by first | assumption | rfl) (by omega) (by decide) ?_
      have e : snX x c0 sz (i + 1) = _ := rfl
      conv at e => rhs; unfold snX
      first
        | (rw [h23, Bool.false_and, if_neg (by decide)] at e)
        | (rw [h23, decide_eq_false h35, Bool.and_false, if_neg (by decide)] at e)
        | (rw [h23, decide_eq_true h35, Bool.and_true, if_pos rfl] at e)
      refine PW.xeq e.symm ?_
      refine r_iincN dX6_hearAll_48 (by rfl) (by decide) ?_
      refine r_goto (tgt := 2) dX6_hearAll_51 (by decide) ?_
      exact PW.lc (by rfl) rfl (ih (i + 1) (by omega) (by omega))
    · refine r_aload_n dX6_hearAll_26 rfl (by rfl) ?_
      refine gf_X6_11 rfl dX6_hearAll_27 (by first | assumption | rfl) (by rfl) ?_
      refine r_bipush (v := nI 15) dX6_hearAll_30 (by decide) ?_
      refine r_iload_n dX6_hearAll_32 rfl (by rfl) ?_
      refine r_iaddN dX6_hearAll_33 ?_
      refine r_ialdN dX6_hearAll_34 (by first | assumption | rfl) (by omega) (by decide) ?_
      refine r_if_ne (tgt := 46) dX6_hearAll_35 (by decide) (fun h35 => ?_) (fun h35 => ?_)
      · refine r_iconst (v := nI 0) dX6_hearAll_46 (by decide) ?_
        refine r_iastN dX6_hearAll_47 (by first | assumption | rfl) (by omega) (by decide) ?_
        have e : snX x c0 sz (i + 1) = _ := rfl
        conv at e => rhs; unfold snX
        first
          | (rw [h23, Bool.false_and, if_neg (by decide)] at e)
          | (rw [h23, decide_eq_false h35, Bool.and_false, if_neg (by decide)] at e)
          | (rw [h23, decide_eq_true h35, Bool.and_true, if_pos rfl] at e)
        refine PW.xeq e.symm ?_
        refine r_iincN dX6_hearAll_48 (by rfl) (by decide) ?_
        refine r_goto (tgt := 2) dX6_hearAll_51 (by decide) ?_
        exact PW.lc (by rfl) rfl (ih (i + 1) (by omega) (by omega))
      · refine r_aload_n dX6_hearAll_38 rfl (by rfl) ?_
        refine r_iload_n dX6_hearAll_39 rfl (by rfl) ?_
        refine r_callV (c_X6_loudOf hN (by omega) (s24 i) hz5) mv_X6_loudOf ml_X6_104 ⟨by decide, by decide⟩ dX6_hearAll_40 (by first | assumption | rfl) rfl rfl rfl (Nat.le_of_ble_eq_true rfl) (fun v9 x9 h9 => ?_)
        obtain ⟨rfl, h9⟩ := h9
        refine PW.xeq h9 ?_
        clear h9 x9
        refine r_goto (tgt := 47) dX6_hearAll_43 (by decide) ?_
        refine r_iastN dX6_hearAll_47 (by first | assumption | rfl) (by omega) (by decide) ?_
        have e : snX x c0 sz (i + 1) = _ := rfl
        conv at e => rhs; unfold snX
        first
          | (rw [h23, Bool.false_and, if_neg (by decide)] at e)
          | (rw [h23, decide_eq_false h35, Bool.and_false, if_neg (by decide)] at e)
          | (rw [h23, decide_eq_true h35, Bool.and_true, if_pos rfl] at e)
        refine PW.xeq e.symm ?_
        refine r_iincN dX6_hearAll_48 (by rfl) (by decide) ?_
        refine r_goto (tgt := 2) dX6_hearAll_51 (by decide) ?_
        exact PW.lc (by rfl) rfl (ih (i + 1) (by omega) (by omega))
set_option maxHeartbeats 8000000 in
set_option maxRecDepth 20000 in
theorem c_X6_passMinute {c0 n sz fz t : Nat} {k : Int32} {x : XS} (hN : IsN c0) (hn : n ≤ 5) (hs : x 3 0 = nI n) (hz : x 24 1 = nI sz) (hz5 : sz ≤ 150) (hf : x 27 1 = nI fz) (hf5 : fz ≤ 150) (ht : x (c0 + 1) 40 = nI t) (ht2 : t ≤ 240) : MM mX6_passMinute 4 0 0 [.ref c0, .int k] x (fun v x1 => v = some (.int (bI (decide (t < 240)))) ∧ x1 = MN x c0 n sz fz k) NoT := by
  refine MM.of (by decide) (Nat.le_of_ble_eq_true rfl) ?_
  have n0 := n_o hN
  have n1 := n_1 hN
  have n2 := n_2 hN
  have n3 := n_3 hN
  have n4 := n_4 hN
  have n5 := n_5 hN
  have y3 := lay_3
  have y12 := lay_12
  have hc := n_c hN
  have e40 : (x (c0 + 1) 40).toNatClampNeg = t := by rw [ht]; exact nI_clamp (by omega)
  have m3 : ∀ i, mnX (hearX x c0 n sz t k) c0 fz i 3 0 = nI n := fun i => by rw [mnX_n (by omega) (by omega) (by omega), hearX_n (by omega) (by omega) (by omega) (by omega)]; exact hs
  have m27 : ∀ i, mnX (hearX x c0 n sz t k) c0 fz i 27 1 = nI fz := fun i => by rw [mnX_n (by omega) (by omega) (by omega), hearX_n (by omega) (by omega) (by omega) (by omega)]; exact hf
  refine r_aload_n dX6_passMinute_0 rfl (by rfl) ?_
  refine gf_X6_11 rfl dX6_passMinute_1 (by first | assumption | rfl) (by rfl) ?_
  refine r_bipush (v := nI 40) dX6_passMinute_4 (by decide) ?_
  refine r_ialdN dX6_passMinute_6 (by first | assumption | rfl) (by omega) (by decide) ?_
  refine PW.topi ht ?_
  refine r_sipush (v := nI 240) dX6_passMinute_7 (by decide) ?_
  refine r_icmp_ltN (tgt := 15) dX6_passMinute_10 (by decide) (by omega) (by omega) (fun h10 => ?_) (fun h10 => ?_)
  · refine r_aload_n dX6_passMinute_15 rfl (by rfl) ?_
    refine r_iload_n dX6_passMinute_16 rfl (by rfl) ?_
    refine r_callV (c_X6_hearAll hN hn hs hz hz5 ht ht2) mv_X6_hearAll ml_X6_113 ⟨by decide, by decide⟩ dX6_passMinute_17 (by first | assumption | rfl) rfl rfl rfl (Nat.le_of_ble_eq_true rfl) (fun v9 x9 h9 => ?_)
    obtain ⟨rfl, h9⟩ := h9
    refine PW.xeq h9 ?_
    clear h9 x9
    refine r_iconst (v := nI 0) dX6_passMinute_20 (by decide) ?_
    refine r_istore_n dX6_passMinute_21 rfl (by decide) ?_
    refine PW.loop (σ := Nat) (fun i => n - i) (fun i => i ≤ n) (fun i => [(0, .ref c0), (1, .int k), (2, .int (nI i))]) (fun i => mnX (hearX x c0 n sz t k) c0 fz i) (0) (Nat.zero_le n) rfl rfl (fun i hi ih => ?_)
    refine r_iload_n dX6_passMinute_22 rfl (by rfl) ?_
    refine r_aload_n dX6_passMinute_23 rfl (by rfl) ?_
    refine gf_X6_36 rfl dX6_passMinute_24 (by first | assumption | rfl) (by rfl) ?_
    refine gf_X6_44 rfl dX6_passMinute_27 (by first | assumption | rfl) (by rfl) ?_
    refine PW.topi (m3 i) ?_
    refine r_icmp_geN (tgt := 60) dX6_passMinute_30 (by decide) (by omega) (by omega) (fun h30 => ?_) (fun h30 => ?_)
    · refine r_aload_n dX6_passMinute_60 rfl (by rfl) ?_
      refine gf_X6_11 rfl dX6_passMinute_61 (by first | assumption | rfl) (by rfl) ?_
      refine r_bipush (v := nI 40) dX6_passMinute_64 (by decide) ?_
      refine r_dup2 dX6_passMinute_66 rfl rfl ?_
      refine r_ialdN dX6_passMinute_67 (by first | assumption | rfl) (by omega) (by decide) ?_
      refine r_iconst (v := nI 1) dX6_passMinute_68 (by decide) ?_
      refine r_iadd dX6_passMinute_69 ?_
      refine r_iastN dX6_passMinute_70 (by first | assumption | rfl) (by omega) (by decide) ?_
      refine r_iconst (v := nI 1) dX6_passMinute_71 (by decide) ?_
      refine r_zret rfl (by first | exact bI_01 _ | exact Or.inl rfl | exact Or.inr rfl) dX6_passMinute_72 ?_
      have e : i = n := by omega
      subst e
      refine ⟨by rw [decide_eq_true h10]; rfl, ?_⟩
      unfold MN
      rw [if_pos (by rw [ht]; exact nI_lt h10 (by omega)), e40]
    · refine r_aload_n dX6_passMinute_33 rfl (by rfl) ?_
      refine r_iload_n dX6_passMinute_34 rfl (by rfl) ?_
      refine r_callV (c_X6_isAsleep hN (by omega)) mv_X6_isAsleep ml_X6_67 ⟨by decide, by decide⟩ dX6_passMinute_35 (by first | assumption | rfl) rfl rfl rfl (Nat.le_of_ble_eq_true rfl) (fun v9 x9 h9 => ?_)
      obtain ⟨rfl, h9⟩ := h9
      refine PW.xeq h9 ?_
      clear h9 x9
      refine r_if_eqB (tgt := 49) dX6_passMinute_38 (by decide) (fun h38 => ?_) (fun h38 => ?_)
      · refine r_aload_n dX6_passMinute_49 rfl (by rfl) ?_
        refine r_iload_n dX6_passMinute_50 rfl (by rfl) ?_
        refine r_callV (c_X6_fallOrStay hN (by omega) (m27 i) hf5) mv_X6_fallOrStay ml_X6_119 ⟨by decide, by decide⟩ dX6_passMinute_51 (by first | assumption | rfl) rfl rfl rfl (Nat.le_of_ble_eq_true rfl) (fun v9 x9 h9 => ?_)
        obtain ⟨rfl, h9⟩ := h9
        refine PW.xeq h9 ?_
        clear h9 x9
        have e : mnX (hearX x c0 n sz t k) c0 fz (i + 1) = _ := rfl
        conv at e => rhs; unfold mnX
        rw [h38] at e
        first
          | rw [if_pos rfl] at e
          | rw [if_neg (by decide)] at e
        refine PW.xeq e.symm ?_
        refine r_iincN dX6_passMinute_54 (by rfl) (by decide) ?_
        refine r_goto (tgt := 22) dX6_passMinute_57 (by decide) ?_
        exact PW.lc (by rfl) rfl (ih (i + 1) (by omega) (by omega))
      · refine r_aload_n dX6_passMinute_41 rfl (by rfl) ?_
        refine r_iload_n dX6_passMinute_42 rfl (by rfl) ?_
        refine r_callV (c_X6_sleepOrWake hN (by omega)) mv_X6_sleepOrWake ml_X6_116 ⟨by decide, by decide⟩ dX6_passMinute_43 (by first | assumption | rfl) rfl rfl rfl (Nat.le_of_ble_eq_true rfl) (fun v9 x9 h9 => ?_)
        obtain ⟨rfl, h9⟩ := h9
        refine PW.xeq h9 ?_
        clear h9 x9
        refine r_goto (tgt := 54) dX6_passMinute_46 (by decide) ?_
        have e : mnX (hearX x c0 n sz t k) c0 fz (i + 1) = _ := rfl
        conv at e => rhs; unfold mnX
        rw [h38] at e
        first
          | rw [if_pos rfl] at e
          | rw [if_neg (by decide)] at e
        refine PW.xeq e.symm ?_
        refine r_iincN dX6_passMinute_54 (by rfl) (by decide) ?_
        refine r_goto (tgt := 22) dX6_passMinute_57 (by decide) ?_
        exact PW.lc (by rfl) rfl (ih (i + 1) (by omega) (by omega))
  · refine r_iconst (v := nI 0) dX6_passMinute_13 (by decide) ?_
    refine r_zret rfl (by first | exact bI_01 _ | exact Or.inl rfl | exact Or.inr rfl) dX6_passMinute_14 ?_
    refine ⟨by rw [decide_eq_false (by omega)]; rfl, ?_⟩
    unfold MN
    rw [if_neg (by rw [ht]; exact nI_nlt h10 (by omega))]
