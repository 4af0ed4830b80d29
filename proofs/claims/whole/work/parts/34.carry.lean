/-! WORK, carried out: told once for both sides -/
section Ex
variable {σ : Type} (beg : σ → Nat) (tick : σ → σ) (doit : Nat → σ → σ) (K O T : Nat → Nat)
def exR (inner : Nat → Nat → σ → σ) : Nat → Nat → Nat → σ → σ
  | 0, _, _, s => s
  | n + 1, i, to, s => if beg s < 240 then exR inner n i to (inner i to s) else s
def exM (inner : Nat → Nat → σ → σ) : Nat → Nat → Nat → σ → σ
  | 0, _, _, s => s
  | m + 1, i, to, s => if i < to ∧ beg s < 240 then (if K i = 6 then exM inner m (T i) to (exR beg inner (O i) (i + 1) (T i) (tick s)) else exM inner m (i + 1) to (doit i (tick s))) else s
def exI (inner : Nat → Nat → σ → σ) (i to : Nat) (s : σ) : σ := exM beg tick doit K O T inner (to - i) i to s
def exL : Nat → Nat → Nat → σ → σ
  | 0 => exI beg tick doit K O T (fun _ _ s => s)
  | lev + 1 => exI beg tick doit K O T (exL lev)
theorem exM_stop {inner : Nat → Nat → σ → σ} {m i to : Nat} {s : σ} (h : ¬ (i < to ∧ beg s < 240)) : exM beg tick doit K O T inner m i to s = s := by
  cases m with
  | zero => rfl
  | succ m => unfold exM; rw [if_neg h]
theorem exM_fuel {inner : Nat → Nat → σ → σ} {to : Nat} (hw : ∀ i, i < to → K i = 6 → i + 1 ≤ T i) : ∀ m m2 i s, to - i ≤ m → to - i ≤ m2 → exM beg tick doit K O T inner m i to s = exM beg tick doit K O T inner m2 i to s
  | 0, m2, i, s, h, _ => by
    rw [exM_stop beg tick doit K O T (m := m2) (by omega)]
    rfl
  | m + 1, 0, i, s, _, h => by
    rw [exM_stop beg tick doit K O T (m := m + 1) (by omega)]
    rfl
  | m + 1, m2 + 1, i, s, h1, h2 => by
    unfold exM
    by_cases hc : i < to ∧ beg s < 240
    · rw [if_pos hc, if_pos hc]
      by_cases hk : K i = 6
      · have := hw i hc.1 hk
        rw [if_pos hk, if_pos hk]
        exact exM_fuel hw m m2 _ _ (by omega) (by omega)
      · rw [if_neg hk, if_neg hk]
        exact exM_fuel hw m m2 _ _ (by omega) (by omega)
    · rw [if_neg hc, if_neg hc]
theorem exI_end {inner : Nat → Nat → σ → σ} {i to : Nat} {s : σ} (h : ¬ (i < to ∧ beg s < 240)) : exI beg tick doit K O T inner i to s = s := exM_stop beg tick doit K O T h
theorem exI_again {inner : Nat → Nat → σ → σ} {i to : Nat} {s : σ} (hw : ∀ i, i < to → K i = 6 → i + 1 ≤ T i) (h1 : i < to) (h2 : beg s < 240) (hk : K i = 6) : exI beg tick doit K O T inner i to s = exI beg tick doit K O T inner (T i) to (exR beg inner (O i) (i + 1) (T i) (tick s)) := by
  have := hw i h1 hk
  unfold exI
  rw [show to - i = (to - i - 1) + 1 by omega]
  show (if _ then _ else _) = _
  rw [if_pos ⟨h1, h2⟩, if_pos hk]
  exact exM_fuel beg tick doit K O T hw _ _ _ _ (by omega) (by omega)
theorem exI_step {inner : Nat → Nat → σ → σ} {i to : Nat} {s : σ} (hw : ∀ i, i < to → K i = 6 → i + 1 ≤ T i) (h1 : i < to) (h2 : beg s < 240) (hk : K i ≠ 6) : exI beg tick doit K O T inner i to s = exI beg tick doit K O T inner (i + 1) to (doit i (tick s)) := by
  unfold exI
  rw [show to - i = (to - i - 1) + 1 by omega]
  show (if _ then _ else _) = _
  rw [if_pos ⟨h1, h2⟩, if_neg hk]
  exact exM_fuel beg tick doit K O T hw _ _ _ _ (by omega) (by omega)
theorem exR_id : ∀ n i to s, exR beg (fun _ _ s => s) n i to s = s
  | 0, _, _, _ => rfl
  | n + 1, i, to, s => by
    unfold exR
    split
    · exact exR_id n i to s
    · rfl
theorem exR_keep {inner : Nat → Nat → σ → σ} {P : σ → Prop} {i to : Nat} (hp : ∀ s, P s → P (inner i to s)) : ∀ n s, P s → P (exR beg inner n i to s)
  | 0, _, h => h
  | n + 1, s, h => by
    unfold exR
    split
    · exact exR_keep hp n _ (hp s h)
    · exact h
/-- what every tick and step keeps, and what goes on inside, a run keeps -/
theorem exM_keep {inner : Nat → Nat → σ → σ} {P : σ → Prop} {z to : Nat} (hto : to ≤ z) (hw : ∀ i, i < z → K i = 6 → i + 1 ≤ T i ∧ T i ≤ z) (ht : ∀ s, P s → beg s < 240 → P (tick s)) (hd : ∀ i s, i < z → K i ≠ 6 → P s → P (doit i s)) (hi : ∀ i t s, t ≤ z → i ≤ t → P s → P (inner i t s)) : ∀ m i s, P s → P (exM beg tick doit K O T inner m i to s)
  | 0, _, _, h => h
  | m + 1, i, s, h => by
    unfold exM
    by_cases hc : i < to ∧ beg s < 240
    · rw [if_pos hc]
      by_cases hk : K i = 6
      · rw [if_pos hk]
        have w := hw i (by omega) hk
        exact exM_keep hto hw ht hd hi m _ _ (exR_keep beg (fun s hs => hi _ _ s w.2 w.1 hs) _ _ (ht s h hc.2))
      · rw [if_neg hk]
        exact exM_keep hto hw ht hd hi m _ _ (hd i _ (by omega) hk (ht s h hc.2))
    · rw [if_neg hc]
      exact h
theorem exL_keep {P : σ → Prop} {z : Nat} (hw : ∀ i, i < z → K i = 6 → i + 1 ≤ T i ∧ T i ≤ z) (ht : ∀ s, P s → beg s < 240 → P (tick s)) (hd : ∀ i s, i < z → K i ≠ 6 → P s → P (doit i s)) : ∀ lev i to s, to ≤ z → P s → P (exL beg tick doit K O T lev i to s)
  | 0, i, to, s, hz, h => exM_keep beg tick doit K O T hz hw ht hd (fun _ _ _ _ _ h => h) _ _ _ h
  | lev + 1, i, to, s, hz, h => exM_keep beg tick doit K O T hz hw ht hd (fun i t s h1 _ h => exL_keep hw ht hd lev i t s h1 h) _ _ _ h
end Ex
def begC (y : XS) : Nat := (y 39 4).toNatClampNeg
def tickC (y : XS) : XS := xu y 39 4 (nI (begC y + 1))
def doitC (n sz fz : Nat) (K O T : Nat → Nat) (i : Nat) (y : XS) : XS :=
  if pfB (y 44) (K i) (O i) (T i) (y 44 40).toNatClampNeg then xu (pfX y 43 n sz fz (K i) (O i) (T i)) 39 5 (pfX y 43 n sz fz (K i) (O i) (T i) 39 5 + nI 1) else xu (pfX y 43 n sz fz (K i) (O i) (T i)) 39 6 (pfX y 43 n sz fz (K i) (O i) (T i) 39 6 + nI 1)
abbrev exC (n sz fz : Nat) (K O T : Nat → Nat) (inner : Nat → Nat → XS → XS) : Nat → Nat → XS → XS := exI begC tickC (doitC n sz fz K O T) K O T inner
abbrev exCL (n sz fz : Nat) (K O T : Nat → Nat) : Nat → Nat → Nat → XS → XS := exL begC tickC (doitC n sz fz K O T) K O T
/-- steps that make sense -/
def WI (K O T : Nat → Nat) (z : Nat) : Prop := z ≤ 150 ∧ ∀ i, i < z → K i < 7 ∧ O i < 100 ∧ (K i ≠ 6 → O i < 5 ∧ (K i = 0 → T i < 5)) ∧ (K i = 6 → i + 1 ≤ T i ∧ T i ≤ z)
def CI (n sz fz : Nat) (K O T : Nat → Nat) (z : Nat) (y : XS) : Prop := y 3 0 = nI n ∧ y 24 1 = nI sz ∧ y 27 1 = nI fz ∧ (∃ t, t ≤ 240 ∧ y 44 40 = nI t) ∧ (∃ b, b ≤ 240 ∧ y 39 4 = nI b) ∧ ∀ i, i < z → y 40 i = nI (K i) ∧ y 41 i = nI (O i) ∧ y 42 i = nI (T i)
theorem pfX_n {x : XS} {n sz fz kd p q j : Nat} (h : j ≠ 44) (h3 : j ≠ 46) (h4 : j ≠ 47) (h5 : j ≠ 48) (h26 : j ≠ 26) (h29 : j ≠ 29) : pfX x 43 n sz fz kd p q j = x j := by
  unfold pfX
  repeat' split
  all_goals first
    | exact xr_n h
    | exact MN_n h h3 h4 h5 h26 h29
    | rfl
theorem wakeR_4z {f : Nat → Int32} {p : Nat} (hp : p < 5) : wakeR f p 40 = f 40 := by
  unfold wakeR
  rw [pk_un (by decide), pk_un (by omega), pk_un (by omega), pk_un (by omega)]
theorem nudgeR_4z {f : Nat → Int32} {p q : Nat} (hq : q < 5) : nudgeR f p q 40 = f 40 := by
  unfold nudgeR
  split
  · split
    · rw [pk_un (by omega), pk_un (by omega), pk_un (by omega)]
    · exact wakeR_4z hq
  · rfl
theorem callR_40 {f : Nat → Int32} {p : Nat} (hp : p < 5) : callR f p 40 = f 40 := by
  unfold callR
  split
  · exact wakeR_4z hp
  · rfl
theorem pawR_40 {f : Nat → Int32} {kd p : Nat} {k : Int32} (hp : p < 5) : pawR f kd p k 40 = f 40 := by
  unfold pawR
  split
  · rw [pk_un (by omega)]
  · split
    · rw [pk_un (by omega)]
    · split
      · rfl
      · rw [pk_un (by omega)]
theorem pfX_40 {x : XS} {n sz fz kd p q t : Nat} (hn : n ≤ 5) (ht : x 44 40 = nI t) (h2 : t ≤ 240) (hp : p < 5) (hq : kd = 0 → q < 5) : ∃ t, t ≤ 240 ∧ pfX x 43 n sz fz kd p q 44 40 = nI t := by
  unfold pfX
  split
  · rename_i h
    exact ⟨t, h2, (congrFun xr_s 40).trans ((nudgeR_4z (hq h)).trans ht)⟩
  · split
    · refine ⟨if t < 240 then t + 1 else t, ?_, MN_40 (c0 := 43) (by decide) hn ht h2⟩
      split <;> omega
    · split
      · exact ⟨t, h2, (congrFun xr_s 40).trans ((callR_40 hp).trans ht)⟩
      · split
        · exact ⟨t, h2, ht⟩
        · exact ⟨t, h2, (congrFun xr_s 40).trans ((pawR_40 hp).trans ht)⟩
theorem CI.tick {n sz fz z : Nat} {K O T : Nat → Nat} {y : XS} (h : CI n sz fz K O T z y) (hb : begC y < 240) : CI n sz fz K O T z (tickC y) := ⟨h.1, h.2.1, h.2.2.1, h.2.2.2.1, ⟨begC y + 1, hb, rfl⟩, h.2.2.2.2.2⟩
theorem CI.doit {n sz fz z i : Nat} {K O T : Nat → Nat} {y : XS} (hn : n ≤ 5) (hw : WI K O T z) (hi : i < z) (hk : K i ≠ 6) (h : CI n sz fz K O T z y) : CI n sz fz K O T z (doitC n sz fz K O T i y) := by
  have w := hw.2 i hi
  obtain ⟨t, ht, ht2⟩ := h.2.2.2.1
  have a3 : pfX y 43 n sz fz (K i) (O i) (T i) 3 = y 3 := pfX_n (by decide) (by decide) (by decide) (by decide) (by decide) (by decide)
  have a24 : pfX y 43 n sz fz (K i) (O i) (T i) 24 = y 24 := pfX_n (by decide) (by decide) (by decide) (by decide) (by decide) (by decide)
  have a27 : pfX y 43 n sz fz (K i) (O i) (T i) 27 = y 27 := pfX_n (by decide) (by decide) (by decide) (by decide) (by decide) (by decide)
  have a39 : pfX y 43 n sz fz (K i) (O i) (T i) 39 = y 39 := pfX_n (by decide) (by decide) (by decide) (by decide) (by decide) (by decide)
  have a40 : pfX y 43 n sz fz (K i) (O i) (T i) 40 = y 40 := pfX_n (by decide) (by decide) (by decide) (by decide) (by decide) (by decide)
  have a41 : pfX y 43 n sz fz (K i) (O i) (T i) 41 = y 41 := pfX_n (by decide) (by decide) (by decide) (by decide) (by decide) (by decide)
  have a42 : pfX y 43 n sz fz (K i) (O i) (T i) 42 = y 42 := pfX_n (by decide) (by decide) (by decide) (by decide) (by decide) (by decide)
  have b40 := pfX_40 (n := n) (sz := sz) (fz := fz) hn ht2 ht (w.2.2.1 hk).1 (w.2.2.1 hk).2
  unfold doitC
  obtain ⟨b, hb, hb2⟩ := h.2.2.2.2.1
  split
  · refine ⟨?_, ?_, ?_, b40, ⟨b, hb, ?_⟩, fun j hj => ?_⟩
    · exact (congrFun a3 0).trans h.1
    · exact (congrFun a24 1).trans h.2.1
    · exact (congrFun a27 1).trans h.2.2.1
    · exact (congrFun a39 4).trans hb2
    · exact ⟨(congrFun a40 j).trans (h.2.2.2.2.2 j hj).1, (congrFun a41 j).trans (h.2.2.2.2.2 j hj).2.1, (congrFun a42 j).trans (h.2.2.2.2.2 j hj).2.2⟩
  · refine ⟨?_, ?_, ?_, b40, ⟨b, hb, ?_⟩, fun j hj => ?_⟩
    · exact (congrFun a3 0).trans h.1
    · exact (congrFun a24 1).trans h.2.1
    · exact (congrFun a27 1).trans h.2.2.1
    · exact (congrFun a39 4).trans hb2
    · exact ⟨(congrFun a40 j).trans (h.2.2.2.2.2 j hj).1, (congrFun a41 j).trans (h.2.2.2.2.2 j hj).2.1, (congrFun a42 j).trans (h.2.2.2.2.2 j hj).2.2⟩
theorem begC_of {y : XS} {b : Nat} (h : y 39 4 = nI b) (hb : b ≤ 240) : begC y = b := by
  unfold begC
  rw [h, nI_clamp (by omega)]
/-- what may be leant on inside a loop -/
def CN (n sz fz : Nat) (K O T : Nat → Nat) (z d dp : Nat) (inner : Nat → Nat → XS → XS) : Prop := (6 ≤ dp ∧ inner = fun _ _ s => s) ∨ (dp < 6 ∧ (∀ i to y, CI n sz fz K O T z y → to ≤ z → i ≤ to → MM mX7_carryOut d 0 0 [.ref 39, .ref 43, .int (nI i), .int (nI to), .int (nI (dp + 1))] y (fun v x1 => v = none ∧ x1 = inner i to y) NoT) ∧ ∀ i t s, t ≤ z → i ≤ t → CI n sz fz K O T z s → CI n sz fz K O T z (inner i t s))
set_option maxHeartbeats 8000000 in
set_option maxRecDepth 20000 in
theorem c_X7_carryOut {n sz fz z d dp fr to : Nat} {K O T : Nat → Nat} {inner : Nat → Nat → XS → XS} {x : XS} (hn : n ≤ 5) (hz5 : sz ≤ 150) (hf5 : fz ≤ 150) (hd : 5 ≤ d) (hdp : dp ≤ 6) (hW : WI K O T z) (hin : CN n sz fz K O T z d dp inner) (hC0 : CI n sz fz K O T z x) (hto : to ≤ z) (hft : fr ≤ to) : MM mX7_carryOut (d + 1) 0 0 [.ref 39, .ref 43, .int (nI fr), .int (nI to), .int (nI dp)] x (fun v x1 => v = none ∧ x1 = exC n sz fz K O T inner fr to x) NoT := by
  refine MM.of (by decide) (Nat.le_of_ble_eq_true rfl) ?_
  have y39 := lay_39
  have y40 := lay_40
  have y41 := lay_41
  have y42 := lay_42
  have hz1 := hW.1
  refine r_iload_n dX7_carryOut_0 rfl (by rfl) ?_
  refine r_istore dX7_carryOut_1 (by decide) ?_
  refine r_iload_n dX7_carryOut_3 rfl (by rfl) ?_
  refine r_istore dX7_carryOut_4 (by decide) ?_
  refine PW.loop (σ := Nat × Nat × XS) (fun s => to - s.1) (fun s => s.1 ≤ to ∧ CI n sz fz K O T z s.2.2 ∧ exC n sz fz K O T inner (max s.1 s.2.1) to s.2.2 = exC n sz fz K O T inner fr to x ∧ s.2.1 ≤ 150) (fun s => [(0, .ref 39), (1, .ref 43), (2, .int (nI fr)), (3, .int (nI to)), (4, .int (nI dp)), (5, .int (nI s.2.1)), (6, .int (nI s.1))]) (fun s => s.2.2) ((fr, fr, x)) (⟨hft, hC0, (by show exC n sz fz K O T inner (max fr fr) to x = _; rw [Nat.max_self]), (by show fr ≤ 150; have := hW.1; omega)⟩) rfl rfl (fun s hs sh => ?_)
  obtain ⟨hs0, hC, hR, hgo⟩ := hs
  obtain ⟨b, hb, hb2⟩ := hC.2.2.2.2.1
  have hz1 := hW.1
  refine r_iload dX7_carryOut_6 (by rfl) ?_
  refine r_iload_n dX7_carryOut_8 rfl (by rfl) ?_
  refine r_icmp_geN (tgt := 191) dX7_carryOut_9 (by decide) (by omega) (by omega) (fun h9 => ?_) (fun h9 => ?_)
  · refine r_ret rfl dX7_carryOut_191 ?_
    refine ⟨rfl, ?_⟩
    rw [← hR]
    exact (exI_end _ _ _ _ _ _ (by have := begC_of hb2 hb; omega)).symm
  · refine r_iload dX7_carryOut_12 (by rfl) ?_
    refine r_aload_n dX7_carryOut_14 rfl (by rfl) ?_
    refine gf_X7_9 rfl dX7_carryOut_15 (by first | assumption | rfl) (by rfl) ?_
    refine r_alen dX7_carryOut_18 (by first | assumption | rfl) (by decide) rfl ?_
    refine r_icmp_geN (tgt := 191) dX7_carryOut_19 (by decide) (by omega) (by omega) (fun h19 => by exfalso; omega) (fun _ => ?_)
    refine r_aload_n dX7_carryOut_22 rfl (by rfl) ?_
    refine gf_X7_25 rfl dX7_carryOut_23 (by first | assumption | rfl) (by rfl) ?_
    refine PW.topi (show _ = nI b from hb2) ?_
    refine r_sipush (v := nI 240) dX7_carryOut_26 (by decide) ?_
    refine r_icmp_geN (tgt := 191) dX7_carryOut_29 (by decide) (by omega) (by omega) (fun h29 => ?_) (fun h29 => ?_)
    · refine r_ret rfl dX7_carryOut_191 ?_
      refine ⟨rfl, ?_⟩
      rw [← hR]
      exact (exI_end _ _ _ _ _ _ (by have := begC_of hb2 hb; omega)).symm
    · refine r_iload dX7_carryOut_32 (by rfl) ?_
      refine r_iload dX7_carryOut_34 (by rfl) ?_
      refine r_icmp_geN (tgt := 42) dX7_carryOut_36 (by decide) (by omega) (by omega) (fun h36 => ?_) (fun h36 => ?_)
      · have hiz : s.1 < z := by omega
        have hwi := hW.2 s.1 hiz
        have hbg : begC s.2.2 = b := begC_of hb2 hb
        have hmx : max s.1 s.2.1 = s.1 := by omega
        refine r_aload_n dX7_carryOut_42 rfl (by rfl) ?_
        refine r_dup dX7_carryOut_43 rfl ?_
        refine gf_X7_25 rfl dX7_carryOut_44 (by first | assumption | rfl) (by rfl) ?_
        refine PW.topi (show _ = nI b from hb2) ?_
        refine r_iconst (v := nI 1) dX7_carryOut_47 (by decide) ?_
        refine r_iaddN dX7_carryOut_48 ?_
        refine pf_X7_25 rfl dX7_carryOut_49 (by first | assumption | rfl) (by rfl) ?_
        refine PW.xeq (show _ = (tickC s.2.2) by unfold tickC; rw [hbg]) ?_
        have hC1 : CI n sz fz K O T z (tickC s.2.2) := hC.tick (by omega)
        refine r_aload_n dX7_carryOut_52 rfl (by rfl) ?_
        refine gf_X7_9 rfl dX7_carryOut_53 (by first | assumption | rfl) (by rfl) ?_
        refine r_iload dX7_carryOut_56 (by rfl) ?_
        refine r_ialdN dX7_carryOut_58 (by first | assumption | rfl) (by omega) (by decide) ?_
        refine PW.topi (show _ = nI (K s.1) from (hC1.2.2.2.2.2 s.1 hiz).1) ?_
        refine r_bipush (v := nI 6) dX7_carryOut_59 (by decide) ?_
        refine r_icmp_neN (tgt := 134) dX7_carryOut_61 (by decide) (by omega) (by omega) (fun h61 => ?_) (fun h61 => ?_)
        · refine r_aload_n dX7_carryOut_134 rfl (by rfl) ?_
          refine r_aload_n dX7_carryOut_135 rfl (by rfl) ?_
          refine gf_X7_9 rfl dX7_carryOut_136 (by first | assumption | rfl) (by rfl) ?_
          refine r_iload dX7_carryOut_139 (by rfl) ?_
          refine r_ialdN dX7_carryOut_141 (by first | assumption | rfl) (by omega) (by decide) ?_
          refine PW.topi (show _ = nI (K s.1) from (hC1.2.2.2.2.2 s.1 hiz).1) ?_
          refine r_aload_n dX7_carryOut_142 rfl (by rfl) ?_
          refine gf_X7_15 rfl dX7_carryOut_143 (by first | assumption | rfl) (by rfl) ?_
          refine r_iload dX7_carryOut_146 (by rfl) ?_
          refine r_ialdN dX7_carryOut_148 (by first | assumption | rfl) (by omega) (by decide) ?_
          refine PW.topi (show _ = nI (O s.1) from (hC1.2.2.2.2.2 s.1 hiz).2.1) ?_
          refine r_aload_n dX7_carryOut_149 rfl (by rfl) ?_
          refine gf_X7_18 rfl dX7_carryOut_150 (by first | assumption | rfl) (by rfl) ?_
          refine r_iload dX7_carryOut_153 (by rfl) ?_
          refine r_ialdN dX7_carryOut_155 (by first | assumption | rfl) (by omega) (by decide) ?_
          refine PW.topi (show _ = nI (T s.1) from (hC1.2.2.2.2.2 s.1 hiz).2.2) ?_
          obtain ⟨t, ht, ht2⟩ := hC1.2.2.2.1
          have hK6 : K s.1 ≠ 6 := h61
          refine r_callV (c_X6_perform (c0 := 43) (t := t) (Or.inl rfl) hn hC1.1 hC1.2.1 hz5 hC1.2.2.1 hf5 ht2 ht (hwi.2.2.1 hK6).1 (by omega) (hwi.2.2.1 hK6).2) mv_X6_perform ml_X7_87 ⟨by omega, by decide⟩ dX7_carryOut_156 (by first | assumption | rfl) rfl rfl rfl (Nat.le_of_ble_eq_true rfl) (fun v9 x9 h9 => ?_)
          obtain ⟨rfl, h9⟩ := h9
          refine PW.xeq h9 ?_
          clear h9 x9
          refine r_if_eqB (tgt := 175) dX7_carryOut_159 (by decide) (fun h159 => ?_) (fun h159 => ?_)
          · refine r_aload_n dX7_carryOut_175 rfl (by rfl) ?_
            refine r_dup dX7_carryOut_176 rfl ?_
            refine gf_X7_31 rfl dX7_carryOut_177 (by first | assumption | rfl) (by rfl) ?_
            refine r_iconst (v := nI 1) dX7_carryOut_180 (by decide) ?_
            refine r_iadd dX7_carryOut_181 ?_
            refine pf_X7_31 rfl dX7_carryOut_182 (by first | assumption | rfl) (by rfl) ?_
            refine r_iincN dX7_carryOut_185 (by rfl) (by decide) ?_
            refine r_goto (tgt := 6) dX7_carryOut_188 (by decide) ?_
            first
              | exact PW.lc (by rfl) rfl (sh (s.1 + 1, s.2.1, s.2.2) ⟨(show s.1 + 1 ≤ to by omega), hC, (by show exC n sz fz K O T inner (max (s.1 + 1) s.2.1) to s.2.2 = _; rw [show max (s.1 + 1) s.2.1 = max s.1 s.2.1 by omega]; exact hR), hgo⟩ (show to - (s.1 + 1) < to - s.1 by omega))
              | (have hst : exC n sz fz K O T inner (max s.1 s.2.1) to s.2.2 = exC n sz fz K O T inner (s.1 + 1) to (doitC n sz fz K O T s.1 (tickC s.2.2)) := by
                   rw [hmx]
                   exact exI_step _ _ _ _ _ _ (fun i hi hk => ((hW.2 i (by omega)).2.2.2 hk).1) (by omega) (by omega) hK6
                 have hd9 : doitC n sz fz K O T s.1 (tickC s.2.2) = _ := if_pos (by rw [show ((tickC s.2.2) 44 40).toNatClampNeg = t by rw [ht2, nI_clamp (by omega)]]; exact h159)
                 exact PW.lc (by rfl) hd9.symm (sh (s.1 + 1, s.2.1, doitC n sz fz K O T s.1 (tickC s.2.2)) ⟨(show s.1 + 1 ≤ to by omega), CI.doit hn hW hiz hK6 hC1, (by show exC n sz fz K O T inner (max (s.1 + 1) s.2.1) to _ = _; rw [show max (s.1 + 1) s.2.1 = s.1 + 1 by omega, ← hR, hst]), hgo⟩ (show to - (s.1 + 1) < to - s.1 by omega)))
              | (have hst : exC n sz fz K O T inner (max s.1 s.2.1) to s.2.2 = exC n sz fz K O T inner (s.1 + 1) to (doitC n sz fz K O T s.1 (tickC s.2.2)) := by
                   rw [hmx]
                   exact exI_step _ _ _ _ _ _ (fun i hi hk => ((hW.2 i (by omega)).2.2.2 hk).1) (by omega) (by omega) hK6
                 have hd9 : doitC n sz fz K O T s.1 (tickC s.2.2) = _ := if_neg (by rw [show ((tickC s.2.2) 44 40).toNatClampNeg = t by rw [ht2, nI_clamp (by omega)], h159]; decide)
                 exact PW.lc (by rfl) hd9.symm (sh (s.1 + 1, s.2.1, doitC n sz fz K O T s.1 (tickC s.2.2)) ⟨(show s.1 + 1 ≤ to by omega), CI.doit hn hW hiz hK6 hC1, (by show exC n sz fz K O T inner (max (s.1 + 1) s.2.1) to _ = _; rw [show max (s.1 + 1) s.2.1 = s.1 + 1 by omega, ← hR, hst]), hgo⟩ (show to - (s.1 + 1) < to - s.1 by omega)))
              | exact PW.lc (by rfl) hr9 (sh (s.1 + 1, T s.1, exR begC inner (O s.1) (s.1 + 1) (T s.1) (tickC s.2.2)) ⟨(show s.1 + 1 ≤ to by omega), hCr, (by show exC n sz fz K O T inner (max (s.1 + 1) (T s.1)) to _ = _; rw [show max (s.1 + 1) (T s.1) = T s.1 by have := (hwi.2.2.2 hk6).1; omega, ← hR, hmx]; exact (exI_again _ _ _ _ _ _ (fun i hi hk => ((hW.2 i (by omega)).2.2.2 hk).1) (by omega) (by omega) hk6).symm), (by show T s.1 ≤ 150; have := (hwi.2.2.2 hk6).2; have := hW.1; omega)⟩ (show to - (s.1 + 1) < to - s.1 by omega))
          · refine r_aload_n dX7_carryOut_162 rfl (by rfl) ?_
            refine r_dup dX7_carryOut_163 rfl ?_
            refine gf_X7_28 rfl dX7_carryOut_164 (by first | assumption | rfl) (by rfl) ?_
            refine r_iconst (v := nI 1) dX7_carryOut_167 (by decide) ?_
            refine r_iadd dX7_carryOut_168 ?_
            refine pf_X7_28 rfl dX7_carryOut_169 (by first | assumption | rfl) (by rfl) ?_
            refine r_goto (tgt := 185) dX7_carryOut_172 (by decide) ?_
            refine r_iincN dX7_carryOut_185 (by rfl) (by decide) ?_
            refine r_goto (tgt := 6) dX7_carryOut_188 (by decide) ?_
            first
              | exact PW.lc (by rfl) rfl (sh (s.1 + 1, s.2.1, s.2.2) ⟨(show s.1 + 1 ≤ to by omega), hC, (by show exC n sz fz K O T inner (max (s.1 + 1) s.2.1) to s.2.2 = _; rw [show max (s.1 + 1) s.2.1 = max s.1 s.2.1 by omega]; exact hR), hgo⟩ (show to - (s.1 + 1) < to - s.1 by omega))
              | (have hst : exC n sz fz K O T inner (max s.1 s.2.1) to s.2.2 = exC n sz fz K O T inner (s.1 + 1) to (doitC n sz fz K O T s.1 (tickC s.2.2)) := by
                   rw [hmx]
                   exact exI_step _ _ _ _ _ _ (fun i hi hk => ((hW.2 i (by omega)).2.2.2 hk).1) (by omega) (by omega) hK6
                 have hd9 : doitC n sz fz K O T s.1 (tickC s.2.2) = _ := if_pos (by rw [show ((tickC s.2.2) 44 40).toNatClampNeg = t by rw [ht2, nI_clamp (by omega)]]; exact h159)
                 exact PW.lc (by rfl) hd9.symm (sh (s.1 + 1, s.2.1, doitC n sz fz K O T s.1 (tickC s.2.2)) ⟨(show s.1 + 1 ≤ to by omega), CI.doit hn hW hiz hK6 hC1, (by show exC n sz fz K O T inner (max (s.1 + 1) s.2.1) to _ = _; rw [show max (s.1 + 1) s.2.1 = s.1 + 1 by omega, ← hR, hst]), hgo⟩ (show to - (s.1 + 1) < to - s.1 by omega)))
              | (have hst : exC n sz fz K O T inner (max s.1 s.2.1) to s.2.2 = exC n sz fz K O T inner (s.1 + 1) to (doitC n sz fz K O T s.1 (tickC s.2.2)) := by
                   rw [hmx]
                   exact exI_step _ _ _ _ _ _ (fun i hi hk => ((hW.2 i (by omega)).2.2.2 hk).1) (by omega) (by omega) hK6
                 have hd9 : doitC n sz fz K O T s.1 (tickC s.2.2) = _ := if_neg (by rw [show ((tickC s.2.2) 44 40).toNatClampNeg = t by rw [ht2, nI_clamp (by omega)], h159]; decide)
                 exact PW.lc (by rfl) hd9.symm (sh (s.1 + 1, s.2.1, doitC n sz fz K O T s.1 (tickC s.2.2)) ⟨(show s.1 + 1 ≤ to by omega), CI.doit hn hW hiz hK6 hC1, (by show exC n sz fz K O T inner (max (s.1 + 1) s.2.1) to _ = _; rw [show max (s.1 + 1) s.2.1 = s.1 + 1 by omega, ← hR, hst]), hgo⟩ (show to - (s.1 + 1) < to - s.1 by omega)))
              | exact PW.lc (by rfl) hr9 (sh (s.1 + 1, T s.1, exR begC inner (O s.1) (s.1 + 1) (T s.1) (tickC s.2.2)) ⟨(show s.1 + 1 ≤ to by omega), hCr, (by show exC n sz fz K O T inner (max (s.1 + 1) (T s.1)) to _ = _; rw [show max (s.1 + 1) (T s.1) = T s.1 by have := (hwi.2.2.2 hk6).1; omega, ← hR, hmx]; exact (exI_again _ _ _ _ _ _ (fun i hi hk => ((hW.2 i (by omega)).2.2.2 hk).1) (by omega) (by omega) hk6).symm), (by show T s.1 ≤ 150; have := (hwi.2.2.2 hk6).2; have := hW.1; omega)⟩ (show to - (s.1 + 1) < to - s.1 by omega))
        · refine r_iconst (v := nI 0) dX7_carryOut_64 (by decide) ?_
          refine r_istore dX7_carryOut_65 (by decide) ?_
          refine PW.loop (σ := Nat × XS) (fun r => O s.1 - r.1) (fun r => r.1 ≤ O s.1 ∧ CI n sz fz K O T z r.2 ∧ exR begC inner (O s.1 - r.1) (s.1 + 1) (T s.1) r.2 = exR begC inner (O s.1) (s.1 + 1) (T s.1) (tickC s.2.2)) (fun r => [(0, .ref 39), (1, .ref 43), (2, .int (nI fr)), (3, .int (nI to)), (4, .int (nI dp)), (5, .int (nI s.2.1)), (6, .int (nI s.1)), (7, .int (nI r.1))]) (fun r => r.2) ((0, (tickC s.2.2))) (⟨Nat.zero_le _, hC1, rfl⟩) rfl rfl (fun r hr rh => ?_)
          have hk6 : K s.1 = 6 := h61
          obtain ⟨hr0, hC2, hr1⟩ := hr
          obtain ⟨b2, hb3, hb4⟩ := hC2.2.2.2.2.1
          have hO := hwi.2.1
          have hbg2 : begC r.2 = b2 := begC_of hb4 hb3
          refine r_iload dX7_carryOut_67 (by rfl) ?_
          refine r_aload_n dX7_carryOut_69 rfl (by rfl) ?_
          refine gf_X7_15 rfl dX7_carryOut_70 (by first | assumption | rfl) (by rfl) ?_
          refine r_iload dX7_carryOut_73 (by rfl) ?_
          refine r_ialdN dX7_carryOut_75 (by first | assumption | rfl) (by omega) (by decide) ?_
          refine PW.topi (show _ = nI (O s.1) from (hC2.2.2.2.2.2 s.1 hiz).2.1) ?_
          refine r_icmp_geN (tgt := 122) dX7_carryOut_76 (by decide) (by omega) (by omega) (fun h76 => ?_) (fun h76 => ?_)
          · have hr9 : r.2 = exR begC inner (O s.1) (s.1 + 1) (T s.1) (tickC s.2.2) := by
              rw [← hr1]
              first
                | (rw [show O s.1 - r.1 = 0 by omega]; rfl)
                | (rcases hin with hq | hq
                   · rw [hq.2]; exact (exR_id _ _ _ _ _).symm
                   · exact absurd hq.1 (by omega))
                | (rw [show O s.1 - r.1 = (O s.1 - r.1 - 1) + 1 by omega]
                   show _ = (if _ then _ else _)
                   rw [if_neg (by omega)])
            have hCr : CI n sz fz K O T z (exR begC inner (O s.1) (s.1 + 1) (T s.1) (tickC s.2.2)) := by rw [← hr9]; exact hC2
            refine r_aload_n dX7_carryOut_122 rfl (by rfl) ?_
            refine gf_X7_18 rfl dX7_carryOut_123 (by first | assumption | rfl) (by rfl) ?_
            refine r_iload dX7_carryOut_126 (by rfl) ?_
            refine r_ialdN dX7_carryOut_128 (by first | assumption | rfl) (by omega) (by decide) ?_
            refine PW.topi (show _ = nI (T s.1) from (hC2.2.2.2.2.2 s.1 hiz).2.2) ?_
            refine r_istore dX7_carryOut_129 (by decide) ?_
            refine r_goto (tgt := 185) dX7_carryOut_131 (by decide) ?_
            refine r_iincN dX7_carryOut_185 (by rfl) (by decide) ?_
            refine r_goto (tgt := 6) dX7_carryOut_188 (by decide) ?_
            first
              | exact PW.lc (by rfl) rfl (sh (s.1 + 1, s.2.1, s.2.2) ⟨(show s.1 + 1 ≤ to by omega), hC, (by show exC n sz fz K O T inner (max (s.1 + 1) s.2.1) to s.2.2 = _; rw [show max (s.1 + 1) s.2.1 = max s.1 s.2.1 by omega]; exact hR), hgo⟩ (show to - (s.1 + 1) < to - s.1 by omega))
              | (have hst : exC n sz fz K O T inner (max s.1 s.2.1) to s.2.2 = exC n sz fz K O T inner (s.1 + 1) to (doitC n sz fz K O T s.1 (tickC s.2.2)) := by
                   rw [hmx]
                   exact exI_step _ _ _ _ _ _ (fun i hi hk => ((hW.2 i (by omega)).2.2.2 hk).1) (by omega) (by omega) hK6
                 have hd9 : doitC n sz fz K O T s.1 (tickC s.2.2) = _ := if_pos (by rw [show ((tickC s.2.2) 44 40).toNatClampNeg = t by rw [ht2, nI_clamp (by omega)]]; exact h159)
                 exact PW.lc (by rfl) hd9.symm (sh (s.1 + 1, s.2.1, doitC n sz fz K O T s.1 (tickC s.2.2)) ⟨(show s.1 + 1 ≤ to by omega), CI.doit hn hW hiz hK6 hC1, (by show exC n sz fz K O T inner (max (s.1 + 1) s.2.1) to _ = _; rw [show max (s.1 + 1) s.2.1 = s.1 + 1 by omega, ← hR, hst]), hgo⟩ (show to - (s.1 + 1) < to - s.1 by omega)))
              | (have hst : exC n sz fz K O T inner (max s.1 s.2.1) to s.2.2 = exC n sz fz K O T inner (s.1 + 1) to (doitC n sz fz K O T s.1 (tickC s.2.2)) := by
                   rw [hmx]
                   exact exI_step _ _ _ _ _ _ (fun i hi hk => ((hW.2 i (by omega)).2.2.2 hk).1) (by omega) (by omega) hK6
                 have hd9 : doitC n sz fz K O T s.1 (tickC s.2.2) = _ := if_neg (by rw [show ((tickC s.2.2) 44 40).toNatClampNeg = t by rw [ht2, nI_clamp (by omega)], h159]; decide)
                 exact PW.lc (by rfl) hd9.symm (sh (s.1 + 1, s.2.1, doitC n sz fz K O T s.1 (tickC s.2.2)) ⟨(show s.1 + 1 ≤ to by omega), CI.doit hn hW hiz hK6 hC1, (by show exC n sz fz K O T inner (max (s.1 + 1) s.2.1) to _ = _; rw [show max (s.1 + 1) s.2.1 = s.1 + 1 by omega, ← hR, hst]), hgo⟩ (show to - (s.1 + 1) < to - s.1 by omega)))
              | exact PW.lc (by rfl) hr9 (sh (s.1 + 1, T s.1, exR begC inner (O s.1) (s.1 + 1) (T s.1) (tickC s.2.2)) ⟨(show s.1 + 1 ≤ to by omega), hCr, (by show exC n sz fz K O T inner (max (s.1 + 1) (T s.1)) to _ = _; rw [show max (s.1 + 1) (T s.1) = T s.1 by have := (hwi.2.2.2 hk6).1; omega, ← hR, hmx]; exact (exI_again _ _ _ _ _ _ (fun i hi hk => ((hW.2 i (by omega)).2.2.2 hk).1) (by omega) (by omega) hk6).symm), (by show T s.1 ≤ 150; have := (hwi.2.2.2 hk6).2; have := hW.1; omega)⟩ (show to - (s.1 + 1) < to - s.1 by omega))
          · refine r_iload dX7_carryOut_79 (by rfl) ?_
            refine r_bipush (v := nI 6) dX7_carryOut_81 (by decide) ?_
            refine r_icmp_geN (tgt := 122) dX7_carryOut_83 (by decide) (by omega) (by omega) (fun h83 => ?_) (fun h83 => ?_)
            · have hr9 : r.2 = exR begC inner (O s.1) (s.1 + 1) (T s.1) (tickC s.2.2) := by
                rw [← hr1]
                first
                  | (rw [show O s.1 - r.1 = 0 by omega]; rfl)
                  | (rcases hin with hq | hq
                     · rw [hq.2]; exact (exR_id _ _ _ _ _).symm
                     · exact absurd hq.1 (by omega))
                  | (rw [show O s.1 - r.1 = (O s.1 - r.1 - 1) + 1 by omega]
                     show _ = (if _ then _ else _)
                     rw [if_neg (by omega)])
              have hCr : CI n sz fz K O T z (exR begC inner (O s.1) (s.1 + 1) (T s.1) (tickC s.2.2)) := by rw [← hr9]; exact hC2
              refine r_aload_n dX7_carryOut_122 rfl (by rfl) ?_
              refine gf_X7_18 rfl dX7_carryOut_123 (by first | assumption | rfl) (by rfl) ?_
              refine r_iload dX7_carryOut_126 (by rfl) ?_
              refine r_ialdN dX7_carryOut_128 (by first | assumption | rfl) (by omega) (by decide) ?_
              refine PW.topi (show _ = nI (T s.1) from (hC2.2.2.2.2.2 s.1 hiz).2.2) ?_
              refine r_istore dX7_carryOut_129 (by decide) ?_
              refine r_goto (tgt := 185) dX7_carryOut_131 (by decide) ?_
              refine r_iincN dX7_carryOut_185 (by rfl) (by decide) ?_
              refine r_goto (tgt := 6) dX7_carryOut_188 (by decide) ?_
              first
                | exact PW.lc (by rfl) rfl (sh (s.1 + 1, s.2.1, s.2.2) ⟨(show s.1 + 1 ≤ to by omega), hC, (by show exC n sz fz K O T inner (max (s.1 + 1) s.2.1) to s.2.2 = _; rw [show max (s.1 + 1) s.2.1 = max s.1 s.2.1 by omega]; exact hR), hgo⟩ (show to - (s.1 + 1) < to - s.1 by omega))
                | (have hst : exC n sz fz K O T inner (max s.1 s.2.1) to s.2.2 = exC n sz fz K O T inner (s.1 + 1) to (doitC n sz fz K O T s.1 (tickC s.2.2)) := by
                     rw [hmx]
                     exact exI_step _ _ _ _ _ _ (fun i hi hk => ((hW.2 i (by omega)).2.2.2 hk).1) (by omega) (by omega) hK6
                   have hd9 : doitC n sz fz K O T s.1 (tickC s.2.2) = _ := if_pos (by rw [show ((tickC s.2.2) 44 40).toNatClampNeg = t by rw [ht2, nI_clamp (by omega)]]; exact h159)
                   exact PW.lc (by rfl) hd9.symm (sh (s.1 + 1, s.2.1, doitC n sz fz K O T s.1 (tickC s.2.2)) ⟨(show s.1 + 1 ≤ to by omega), CI.doit hn hW hiz hK6 hC1, (by show exC n sz fz K O T inner (max (s.1 + 1) s.2.1) to _ = _; rw [show max (s.1 + 1) s.2.1 = s.1 + 1 by omega, ← hR, hst]), hgo⟩ (show to - (s.1 + 1) < to - s.1 by omega)))
                | (have hst : exC n sz fz K O T inner (max s.1 s.2.1) to s.2.2 = exC n sz fz K O T inner (s.1 + 1) to (doitC n sz fz K O T s.1 (tickC s.2.2)) := by
                     rw [hmx]
                     exact exI_step _ _ _ _ _ _ (fun i hi hk => ((hW.2 i (by omega)).2.2.2 hk).1) (by omega) (by omega) hK6
                   have hd9 : doitC n sz fz K O T s.1 (tickC s.2.2) = _ := if_neg (by rw [show ((tickC s.2.2) 44 40).toNatClampNeg = t by rw [ht2, nI_clamp (by omega)], h159]; decide)
                   exact PW.lc (by rfl) hd9.symm (sh (s.1 + 1, s.2.1, doitC n sz fz K O T s.1 (tickC s.2.2)) ⟨(show s.1 + 1 ≤ to by omega), CI.doit hn hW hiz hK6 hC1, (by show exC n sz fz K O T inner (max (s.1 + 1) s.2.1) to _ = _; rw [show max (s.1 + 1) s.2.1 = s.1 + 1 by omega, ← hR, hst]), hgo⟩ (show to - (s.1 + 1) < to - s.1 by omega)))
                | exact PW.lc (by rfl) hr9 (sh (s.1 + 1, T s.1, exR begC inner (O s.1) (s.1 + 1) (T s.1) (tickC s.2.2)) ⟨(show s.1 + 1 ≤ to by omega), hCr, (by show exC n sz fz K O T inner (max (s.1 + 1) (T s.1)) to _ = _; rw [show max (s.1 + 1) (T s.1) = T s.1 by have := (hwi.2.2.2 hk6).1; omega, ← hR, hmx]; exact (exI_again _ _ _ _ _ _ (fun i hi hk => ((hW.2 i (by omega)).2.2.2 hk).1) (by omega) (by omega) hk6).symm), (by show T s.1 ≤ 150; have := (hwi.2.2.2 hk6).2; have := hW.1; omega)⟩ (show to - (s.1 + 1) < to - s.1 by omega))
            · refine r_aload_n dX7_carryOut_86 rfl (by rfl) ?_
              refine gf_X7_25 rfl dX7_carryOut_87 (by first | assumption | rfl) (by rfl) ?_
              refine PW.topi (show _ = nI b2 from hb4) ?_
              refine r_sipush (v := nI 240) dX7_carryOut_90 (by decide) ?_
              refine r_icmp_geN (tgt := 122) dX7_carryOut_93 (by decide) (by omega) (by omega) (fun h93 => ?_) (fun h93 => ?_)
              · have hr9 : r.2 = exR begC inner (O s.1) (s.1 + 1) (T s.1) (tickC s.2.2) := by
                  rw [← hr1]
                  first
                    | (rw [show O s.1 - r.1 = 0 by omega]; rfl)
                    | (rcases hin with hq | hq
                       · rw [hq.2]; exact (exR_id _ _ _ _ _).symm
                       · exact absurd hq.1 (by omega))
                    | (rw [show O s.1 - r.1 = (O s.1 - r.1 - 1) + 1 by omega]
                       show _ = (if _ then _ else _)
                       rw [if_neg (by omega)])
                have hCr : CI n sz fz K O T z (exR begC inner (O s.1) (s.1 + 1) (T s.1) (tickC s.2.2)) := by rw [← hr9]; exact hC2
                refine r_aload_n dX7_carryOut_122 rfl (by rfl) ?_
                refine gf_X7_18 rfl dX7_carryOut_123 (by first | assumption | rfl) (by rfl) ?_
                refine r_iload dX7_carryOut_126 (by rfl) ?_
                refine r_ialdN dX7_carryOut_128 (by first | assumption | rfl) (by omega) (by decide) ?_
                refine PW.topi (show _ = nI (T s.1) from (hC2.2.2.2.2.2 s.1 hiz).2.2) ?_
                refine r_istore dX7_carryOut_129 (by decide) ?_
                refine r_goto (tgt := 185) dX7_carryOut_131 (by decide) ?_
                refine r_iincN dX7_carryOut_185 (by rfl) (by decide) ?_
                refine r_goto (tgt := 6) dX7_carryOut_188 (by decide) ?_
                first
                  | exact PW.lc (by rfl) rfl (sh (s.1 + 1, s.2.1, s.2.2) ⟨(show s.1 + 1 ≤ to by omega), hC, (by show exC n sz fz K O T inner (max (s.1 + 1) s.2.1) to s.2.2 = _; rw [show max (s.1 + 1) s.2.1 = max s.1 s.2.1 by omega]; exact hR), hgo⟩ (show to - (s.1 + 1) < to - s.1 by omega))
                  | (have hst : exC n sz fz K O T inner (max s.1 s.2.1) to s.2.2 = exC n sz fz K O T inner (s.1 + 1) to (doitC n sz fz K O T s.1 (tickC s.2.2)) := by
                       rw [hmx]
                       exact exI_step _ _ _ _ _ _ (fun i hi hk => ((hW.2 i (by omega)).2.2.2 hk).1) (by omega) (by omega) hK6
                     have hd9 : doitC n sz fz K O T s.1 (tickC s.2.2) = _ := if_pos (by rw [show ((tickC s.2.2) 44 40).toNatClampNeg = t by rw [ht2, nI_clamp (by omega)]]; exact h159)
                     exact PW.lc (by rfl) hd9.symm (sh (s.1 + 1, s.2.1, doitC n sz fz K O T s.1 (tickC s.2.2)) ⟨(show s.1 + 1 ≤ to by omega), CI.doit hn hW hiz hK6 hC1, (by show exC n sz fz K O T inner (max (s.1 + 1) s.2.1) to _ = _; rw [show max (s.1 + 1) s.2.1 = s.1 + 1 by omega, ← hR, hst]), hgo⟩ (show to - (s.1 + 1) < to - s.1 by omega)))
                  | (have hst : exC n sz fz K O T inner (max s.1 s.2.1) to s.2.2 = exC n sz fz K O T inner (s.1 + 1) to (doitC n sz fz K O T s.1 (tickC s.2.2)) := by
                       rw [hmx]
                       exact exI_step _ _ _ _ _ _ (fun i hi hk => ((hW.2 i (by omega)).2.2.2 hk).1) (by omega) (by omega) hK6
                     have hd9 : doitC n sz fz K O T s.1 (tickC s.2.2) = _ := if_neg (by rw [show ((tickC s.2.2) 44 40).toNatClampNeg = t by rw [ht2, nI_clamp (by omega)], h159]; decide)
                     exact PW.lc (by rfl) hd9.symm (sh (s.1 + 1, s.2.1, doitC n sz fz K O T s.1 (tickC s.2.2)) ⟨(show s.1 + 1 ≤ to by omega), CI.doit hn hW hiz hK6 hC1, (by show exC n sz fz K O T inner (max (s.1 + 1) s.2.1) to _ = _; rw [show max (s.1 + 1) s.2.1 = s.1 + 1 by omega, ← hR, hst]), hgo⟩ (show to - (s.1 + 1) < to - s.1 by omega)))
                  | exact PW.lc (by rfl) hr9 (sh (s.1 + 1, T s.1, exR begC inner (O s.1) (s.1 + 1) (T s.1) (tickC s.2.2)) ⟨(show s.1 + 1 ≤ to by omega), hCr, (by show exC n sz fz K O T inner (max (s.1 + 1) (T s.1)) to _ = _; rw [show max (s.1 + 1) (T s.1) = T s.1 by have := (hwi.2.2.2 hk6).1; omega, ← hR, hmx]; exact (exI_again _ _ _ _ _ _ (fun i hi hk => ((hW.2 i (by omega)).2.2.2 hk).1) (by omega) (by omega) hk6).symm), (by show T s.1 ≤ 150; have := (hwi.2.2.2 hk6).2; have := hW.1; omega)⟩ (show to - (s.1 + 1) < to - s.1 by omega))
              · refine r_aload_n dX7_carryOut_96 rfl (by rfl) ?_
                refine r_aload_n dX7_carryOut_97 rfl (by rfl) ?_
                refine r_iload dX7_carryOut_98 (by rfl) ?_
                refine r_iconst (v := nI 1) dX7_carryOut_100 (by decide) ?_
                refine r_iaddN dX7_carryOut_101 ?_
                refine r_aload_n dX7_carryOut_102 rfl (by rfl) ?_
                refine gf_X7_18 rfl dX7_carryOut_103 (by first | assumption | rfl) (by rfl) ?_
                refine r_iload dX7_carryOut_106 (by rfl) ?_
                refine r_ialdN dX7_carryOut_108 (by first | assumption | rfl) (by omega) (by decide) ?_
                refine PW.topi (show _ = nI (T s.1) from (hC2.2.2.2.2.2 s.1 hiz).2.2) ?_
                refine r_iload dX7_carryOut_109 (by rfl) ?_
                refine r_iconst (v := nI 1) dX7_carryOut_111 (by decide) ?_
                refine r_iaddN dX7_carryOut_112 ?_
                rcases hin with hq | ⟨hq, hcall, hkeep⟩
                · exact absurd hq.1 (by omega)
                refine r_callV (hcall (s.1 + 1) (T s.1) r.2 hC2 (hwi.2.2.2 hk6).2 (hwi.2.2.2 hk6).1) mv_X7_carryOut ml_X7_83 ⟨by omega, by decide⟩ dX7_carryOut_113 (by first | assumption | rfl) rfl rfl rfl (Nat.le_of_ble_eq_true rfl) (fun v9 x9 h9 => ?_)
                obtain ⟨rfl, h9⟩ := h9
                refine PW.xeq h9 ?_
                clear h9 x9
                refine r_iincN dX7_carryOut_116 (by rfl) (by decide) ?_
                refine r_goto (tgt := 67) dX7_carryOut_119 (by decide) ?_
                exact PW.lc (by rfl) rfl (rh (r.1 + 1, inner (s.1 + 1) (T s.1) r.2) ⟨(show r.1 + 1 ≤ O s.1 by omega), hkeep _ _ _ (hwi.2.2.2 hk6).2 (hwi.2.2.2 hk6).1 hC2, (by
                  show exR begC inner (O s.1 - (r.1 + 1)) (s.1 + 1) (T s.1) (inner (s.1 + 1) (T s.1) r.2) = _
                  rw [← hr1, show O s.1 - r.1 = (O s.1 - (r.1 + 1)) + 1 by omega]
                  show _ = (if _ then _ else _)
                  rw [if_pos (by omega)])⟩ (show O s.1 - (r.1 + 1) < O s.1 - r.1 by omega))
      · refine r_goto (tgt := 185) dX7_carryOut_39 (by decide) ?_
        refine r_iincN dX7_carryOut_185 (by rfl) (by decide) ?_
        refine r_goto (tgt := 6) dX7_carryOut_188 (by decide) ?_
        first
          | exact PW.lc (by rfl) rfl (sh (s.1 + 1, s.2.1, s.2.2) ⟨(show s.1 + 1 ≤ to by omega), hC, (by show exC n sz fz K O T inner (max (s.1 + 1) s.2.1) to s.2.2 = _; rw [show max (s.1 + 1) s.2.1 = max s.1 s.2.1 by omega]; exact hR), hgo⟩ (show to - (s.1 + 1) < to - s.1 by omega))
          | (have hst : exC n sz fz K O T inner (max s.1 s.2.1) to s.2.2 = exC n sz fz K O T inner (s.1 + 1) to (doitC n sz fz K O T s.1 (tickC s.2.2)) := by
               rw [hmx]
               exact exI_step _ _ _ _ _ _ (fun i hi hk => ((hW.2 i (by omega)).2.2.2 hk).1) (by omega) (by omega) hK6
             have hd9 : doitC n sz fz K O T s.1 (tickC s.2.2) = _ := if_pos (by rw [show ((tickC s.2.2) 44 40).toNatClampNeg = t by rw [ht2, nI_clamp (by omega)]]; exact h159)
             exact PW.lc (by rfl) hd9.symm (sh (s.1 + 1, s.2.1, doitC n sz fz K O T s.1 (tickC s.2.2)) ⟨(show s.1 + 1 ≤ to by omega), CI.doit hn hW hiz hK6 hC1, (by show exC n sz fz K O T inner (max (s.1 + 1) s.2.1) to _ = _; rw [show max (s.1 + 1) s.2.1 = s.1 + 1 by omega, ← hR, hst]), hgo⟩ (show to - (s.1 + 1) < to - s.1 by omega)))
          | (have hst : exC n sz fz K O T inner (max s.1 s.2.1) to s.2.2 = exC n sz fz K O T inner (s.1 + 1) to (doitC n sz fz K O T s.1 (tickC s.2.2)) := by
               rw [hmx]
               exact exI_step _ _ _ _ _ _ (fun i hi hk => ((hW.2 i (by omega)).2.2.2 hk).1) (by omega) (by omega) hK6
             have hd9 : doitC n sz fz K O T s.1 (tickC s.2.2) = _ := if_neg (by rw [show ((tickC s.2.2) 44 40).toNatClampNeg = t by rw [ht2, nI_clamp (by omega)], h159]; decide)
             exact PW.lc (by rfl) hd9.symm (sh (s.1 + 1, s.2.1, doitC n sz fz K O T s.1 (tickC s.2.2)) ⟨(show s.1 + 1 ≤ to by omega), CI.doit hn hW hiz hK6 hC1, (by show exC n sz fz K O T inner (max (s.1 + 1) s.2.1) to _ = _; rw [show max (s.1 + 1) s.2.1 = s.1 + 1 by omega, ← hR, hst]), hgo⟩ (show to - (s.1 + 1) < to - s.1 by omega)))
          | exact PW.lc (by rfl) hr9 (sh (s.1 + 1, T s.1, exR begC inner (O s.1) (s.1 + 1) (T s.1) (tickC s.2.2)) ⟨(show s.1 + 1 ≤ to by omega), hCr, (by show exC n sz fz K O T inner (max (s.1 + 1) (T s.1)) to _ = _; rw [show max (s.1 + 1) (T s.1) = T s.1 by have := (hwi.2.2.2 hk6).1; omega, ← hR, hmx]; exact (exI_again _ _ _ _ _ _ (fun i hi hk => ((hW.2 i (by omega)).2.2.2 hk).1) (by omega) (by omega) hk6).symm), (by show T s.1 ≤ 150; have := (hwi.2.2.2 hk6).2; have := hW.1; omega)⟩ (show to - (s.1 + 1) < to - s.1 by omega))
