/-! THE REFERENCE: images -/
def kpR (x : XS) (oc q i : Nat) (j : Nat) : Int32 := if q ≤ j ∧ j < q + i then x oc (j - q) else x 162 j
def ldR (x : XS) (oc q i : Nat) (j : Nat) : Int32 := if j < i then x 162 (q + j) else x oc j
theorem kpR_0 (x : XS) (oc q : Nat) : x = xr x 162 (kpR x oc q 0) := by
  have e : kpR x oc q 0 = x 162 := by
    funext j
    unfold kpR
    rw [if_neg (by omega)]
  rw [e, xr_id]
theorem ldR_0 (x : XS) (oc q : Nat) : x = xr x oc (ldR x oc q 0) := by
  have e : ldR x oc q 0 = x oc := by
    funext j
    unfold ldR
    rw [if_neg (Nat.not_lt_zero _)]
  rw [e, xr_id]
set_option maxHeartbeats 8000000 in
set_option maxRecDepth 20000 in
theorem n_keepsRow {oc q n no : Nat} {x : XS} (h1 : lay oc = .inr (.inl no)) (hn : n ≤ no) (hq : q + n ≤ 2145) (hne : oc ≠ 162) (hb : no < 2 ^ 31) : MM mX10_keepsRow 0 0 0 [.ref 137, .int (nI q), .ref oc, .int (nI n), .int (bI true)] x (fun v y => v = some (.int (nI (q + n))) ∧ y = xr x 162 (kpR x oc q n)) NoT := by
  refine MM.of (by decide) (Nat.le_of_ble_eq_true rfl) ?_
  have y137 := lay_137
  have y162 := lay_162
  refine r_iconst (v := nI 0) dX10_keepsRow_0 (by decide) ?_
  refine r_istore dX10_keepsRow_1 (by decide) ?_
  refine PW.loop (σ := Nat) (fun i => n - i) (fun i => i ≤ n) (fun i => [(0, .ref 137), (1, .int (nI q)), (2, .ref oc), (3, .int (nI n)), (4, .int (bI true)), (5, .int (nI i))]) (fun i => xr x 162 (kpR x oc q i)) (0) (Nat.zero_le n) rfl (kpR_0 x oc q) (fun i hi ih => ?_)
  refine r_iload dX10_keepsRow_3 (by rfl) ?_
  refine r_iload_n dX10_keepsRow_5 rfl (by rfl) ?_
  refine r_icmp_geN (tgt := 49) dX10_keepsRow_6 (by decide) (by omega) (by omega) (fun h6 => ?_) (fun h6 => ?_)
  · refine r_iload_n dX10_keepsRow_49 rfl (by rfl) ?_
    refine r_iload_n dX10_keepsRow_50 rfl (by rfl) ?_
    refine r_iaddN dX10_keepsRow_51 ?_
    refine r_iret rfl dX10_keepsRow_52 ?_
    have e : i = n := by omega
    subst e
    exact ⟨rfl, rfl⟩
  · refine r_iload dX10_keepsRow_9 (by rfl) ?_
    refine r_if_eqB (tgt := 30) dX10_keepsRow_11 (by decide) (fun h => by cases h) (fun _ => ?_)
    refine r_aload_n dX10_keepsRow_14 rfl (by rfl) ?_
    refine gf_X10_89 rfl dX10_keepsRow_15 (by first | assumption | rfl) (by rfl) ?_
    refine r_iload_n dX10_keepsRow_18 rfl (by rfl) ?_
    refine r_iload dX10_keepsRow_19 (by rfl) ?_
    refine r_iaddN dX10_keepsRow_21 ?_
    refine r_aload_n dX10_keepsRow_22 rfl (by rfl) ?_
    refine r_iload dX10_keepsRow_23 (by rfl) ?_
    refine r_ialdN dX10_keepsRow_25 (by first | assumption | rfl) (by omega) (by omega) ?_
    refine r_iastN dX10_keepsRow_26 (by first | assumption | rfl) (by omega) (by decide) ?_
    refine r_goto (tgt := 43) dX10_keepsRow_27 (by decide) ?_
    refine r_iincN dX10_keepsRow_43 (by rfl) (by decide) ?_
    refine r_goto (tgt := 3) dX10_keepsRow_46 (by decide) ?_
    refine PW.lc (by rfl) ?_ (ih (i + 1) (by omega) (by omega))
    rw [xr_n hne, xu_xr]
    congr 1
    funext j
    unfold upd kpR
    by_cases e : j = q + i
    · rw [if_pos e, if_pos (by omega), show j - q = i by omega]
    · rw [if_neg e]
      by_cases e2 : q ≤ j ∧ j < q + i
      · rw [if_pos e2, if_pos (by omega)]
      · rw [if_neg e2, if_neg (by omega)]
set_option maxHeartbeats 8000000 in
set_option maxRecDepth 20000 in
theorem n_loadsRow {oc q n no : Nat} {x : XS} (h1 : lay oc = .inr (.inl no)) (hn : n ≤ no) (hq : q + n ≤ 2145) (hne : oc ≠ 162) (hb : no < 2 ^ 31) : MM mX10_keepsRow 0 0 0 [.ref 137, .int (nI q), .ref oc, .int (nI n), .int (bI false)] x (fun v y => v = some (.int (nI (q + n))) ∧ y = xr x oc (ldR x oc q n)) NoT := by
  refine MM.of (by decide) (Nat.le_of_ble_eq_true rfl) ?_
  have y137 := lay_137
  have y162 := lay_162
  refine r_iconst (v := nI 0) dX10_keepsRow_0 (by decide) ?_
  refine r_istore dX10_keepsRow_1 (by decide) ?_
  refine PW.loop (σ := Nat) (fun i => n - i) (fun i => i ≤ n) (fun i => [(0, .ref 137), (1, .int (nI q)), (2, .ref oc), (3, .int (nI n)), (4, .int (bI false)), (5, .int (nI i))]) (fun i => xr x oc (ldR x oc q i)) (0) (Nat.zero_le n) rfl (ldR_0 x oc q) (fun i hi ih => ?_)
  refine r_iload dX10_keepsRow_3 (by rfl) ?_
  refine r_iload_n dX10_keepsRow_5 rfl (by rfl) ?_
  refine r_icmp_geN (tgt := 49) dX10_keepsRow_6 (by decide) (by omega) (by omega) (fun h6 => ?_) (fun h6 => ?_)
  · refine r_iload_n dX10_keepsRow_49 rfl (by rfl) ?_
    refine r_iload_n dX10_keepsRow_50 rfl (by rfl) ?_
    refine r_iaddN dX10_keepsRow_51 ?_
    refine r_iret rfl dX10_keepsRow_52 ?_
    have e : i = n := by omega
    subst e
    exact ⟨rfl, rfl⟩
  · refine r_iload dX10_keepsRow_9 (by rfl) ?_
    refine r_if_eqB (tgt := 30) dX10_keepsRow_11 (by decide) (fun _ => ?_) (fun h => by cases h)
    refine r_aload_n dX10_keepsRow_30 rfl (by rfl) ?_
    refine r_iload dX10_keepsRow_31 (by rfl) ?_
    refine r_aload_n dX10_keepsRow_33 rfl (by rfl) ?_
    refine gf_X10_89 rfl dX10_keepsRow_34 (by first | assumption | rfl) (by rfl) ?_
    refine r_iload_n dX10_keepsRow_37 rfl (by rfl) ?_
    refine r_iload dX10_keepsRow_38 (by rfl) ?_
    refine r_iaddN dX10_keepsRow_40 ?_
    refine r_ialdN dX10_keepsRow_41 (by first | assumption | rfl) (by omega) (by decide) ?_
    refine r_iastN dX10_keepsRow_42 (by first | assumption | rfl) (by omega) (by omega) ?_
    refine r_iincN dX10_keepsRow_43 (by rfl) (by decide) ?_
    refine r_goto (tgt := 3) dX10_keepsRow_46 (by decide) ?_
    refine PW.lc (by rfl) ?_ (ih (i + 1) (by omega) (by omega))
    rw [xr_n (Ne.symm hne), xu_xr]
    congr 1
    funext j
    unfold upd ldR
    by_cases e : j = i
    · rw [if_pos e, if_pos (by omega), e]
    · rw [if_neg e]
      by_cases e2 : j < i
      · rw [if_pos e2, if_pos (by omega)]
      · rw [if_neg e2, if_neg (by omega)]
def kaX (x : XS) (i : Nat) : XS := xu (xr (xr x 162 (kpR x 153 (715 * i) 42)) 162 (kpR (xr x 162 (kpR x 153 (715 * i) 42)) 155 (715 * i + 42) 672)) 162 (715 * i + 42 + 672) (x 137 32)
def laX (x : XS) (i : Nat) : XS := xu (xr (xr x 153 (ldR x 153 (715 * i) 42)) 155 (ldR (xr x 153 (ldR x 153 (715 * i) 42)) 155 (715 * i + 42) 672)) 137 32 (x 162 (715 * i + 42 + 672))
set_option maxHeartbeats 8000000 in
set_option maxRecDepth 20000 in
theorem n_keepsAll {i : Nat} {x : XS} (hi : i < 3) : MM mX10_keepsAll 1 0 0 [.ref 137, .int (nI i), .int (nI 1)] x (fun v y => v = none ∧ y = kaX x i) NoT := by
  refine MM.of (by decide) (Nat.le_of_ble_eq_true rfl) ?_
  have y137 := lay_137
  have y153 := lay_153
  have y155 := lay_155
  have y162 := lay_162
  refine r_aload_n dX10_keepsAll_0 rfl (by rfl) ?_
  refine r_sipush (v := nI 715) dX10_keepsAll_1 (by decide) ?_
  refine r_iload_n dX10_keepsAll_4 rfl (by rfl) ?_
  refine r_imulN dX10_keepsAll_5 ?_
  refine r_aload_n dX10_keepsAll_6 rfl (by rfl) ?_
  refine gf_X10_62 rfl dX10_keepsAll_7 (by first | assumption | rfl) (by rfl) ?_
  refine r_bipush (v := nI 42) dX10_keepsAll_10 (by decide) ?_
  refine r_iload_n dX10_keepsAll_12 rfl (by rfl) ?_
  refine r_callV (n_keepsRow lay_153 (by decide) (by omega) (by decide) (by decide)) mv_X10_keepsRow ml_X10_465 ⟨by decide, by decide⟩ dX10_keepsAll_13 (by first | assumption | rfl) rfl rfl rfl (Nat.le_of_ble_eq_true rfl) (fun v9 x9 h9 => ?_)
  obtain ⟨rfl, h9⟩ := h9
  refine PW.xeq h9 ?_
  clear h9 x9
  refine r_istore_n dX10_keepsAll_16 rfl (by decide) ?_
  refine r_aload_n dX10_keepsAll_17 rfl (by rfl) ?_
  refine r_iload_n dX10_keepsAll_18 rfl (by rfl) ?_
  refine r_aload_n dX10_keepsAll_19 rfl (by rfl) ?_
  refine gf_X10_68 rfl dX10_keepsAll_20 (by first | assumption | rfl) (by rfl) ?_
  refine r_sipush (v := nI 672) dX10_keepsAll_23 (by decide) ?_
  refine r_iload_n dX10_keepsAll_26 rfl (by rfl) ?_
  refine r_callV (n_keepsRow lay_155 (by decide) (by omega) (by decide) (by decide)) mv_X10_keepsRow ml_X10_465 ⟨by decide, by decide⟩ dX10_keepsAll_27 (by first | assumption | rfl) rfl rfl rfl (Nat.le_of_ble_eq_true rfl) (fun v9 x9 h9 => ?_)
  obtain ⟨rfl, h9⟩ := h9
  refine PW.xeq h9 ?_
  clear h9 x9
  refine r_istore_n dX10_keepsAll_30 rfl (by decide) ?_
  refine r_iload_n dX10_keepsAll_31 rfl (by rfl) ?_
  refine r_if_eq (tgt := 48) dX10_keepsAll_32 (by decide) (fun h => absurd h (by decide +kernel)) (fun _ => ?_)
  refine r_aload_n dX10_keepsAll_35 rfl (by rfl) ?_
  refine gf_X10_89 rfl dX10_keepsAll_36 (by first | assumption | rfl) (by rfl) ?_
  refine r_iload_n dX10_keepsAll_39 rfl (by rfl) ?_
  refine r_aload_n dX10_keepsAll_40 rfl (by rfl) ?_
  refine gf_X10_172 rfl dX10_keepsAll_41 (by first | assumption | rfl) (by rfl) ?_
  refine r_iastN dX10_keepsAll_44 (by first | assumption | rfl) (by omega) (by decide) ?_
  refine r_goto (tgt := 58) dX10_keepsAll_45 (by decide) ?_
  refine r_ret rfl dX10_keepsAll_58 ?_
  exact ⟨rfl, rfl⟩
set_option maxHeartbeats 8000000 in
set_option maxRecDepth 20000 in
theorem n_loadsAll {i : Nat} {x : XS} (hi : i < 3) : MM mX10_keepsAll 1 0 0 [.ref 137, .int (nI i), .int (nI 0)] x (fun v y => v = none ∧ y = laX x i) NoT := by
  refine MM.of (by decide) (Nat.le_of_ble_eq_true rfl) ?_
  have y137 := lay_137
  have y153 := lay_153
  have y155 := lay_155
  have y162 := lay_162
  refine r_aload_n dX10_keepsAll_0 rfl (by rfl) ?_
  refine r_sipush (v := nI 715) dX10_keepsAll_1 (by decide) ?_
  refine r_iload_n dX10_keepsAll_4 rfl (by rfl) ?_
  refine r_imulN dX10_keepsAll_5 ?_
  refine r_aload_n dX10_keepsAll_6 rfl (by rfl) ?_
  refine gf_X10_62 rfl dX10_keepsAll_7 (by first | assumption | rfl) (by rfl) ?_
  refine r_bipush (v := nI 42) dX10_keepsAll_10 (by decide) ?_
  refine r_iload_n dX10_keepsAll_12 rfl (by rfl) ?_
  refine r_callV (n_loadsRow lay_153 (by decide) (by omega) (by decide) (by decide)) mv_X10_keepsRow ml_X10_465 ⟨by decide, by decide⟩ dX10_keepsAll_13 (by first | assumption | rfl) rfl rfl rfl (Nat.le_of_ble_eq_true rfl) (fun v9 x9 h9 => ?_)
  obtain ⟨rfl, h9⟩ := h9
  refine PW.xeq h9 ?_
  clear h9 x9
  refine r_istore_n dX10_keepsAll_16 rfl (by decide) ?_
  refine r_aload_n dX10_keepsAll_17 rfl (by rfl) ?_
  refine r_iload_n dX10_keepsAll_18 rfl (by rfl) ?_
  refine r_aload_n dX10_keepsAll_19 rfl (by rfl) ?_
  refine gf_X10_68 rfl dX10_keepsAll_20 (by first | assumption | rfl) (by rfl) ?_
  refine r_sipush (v := nI 672) dX10_keepsAll_23 (by decide) ?_
  refine r_iload_n dX10_keepsAll_26 rfl (by rfl) ?_
  refine r_callV (n_loadsRow lay_155 (by decide) (by omega) (by decide) (by decide)) mv_X10_keepsRow ml_X10_465 ⟨by decide, by decide⟩ dX10_keepsAll_27 (by first | assumption | rfl) rfl rfl rfl (Nat.le_of_ble_eq_true rfl) (fun v9 x9 h9 => ?_)
  obtain ⟨rfl, h9⟩ := h9
  refine PW.xeq h9 ?_
  clear h9 x9
  refine r_istore_n dX10_keepsAll_30 rfl (by decide) ?_
  refine r_iload_n dX10_keepsAll_31 rfl (by rfl) ?_
  refine r_if_eq (tgt := 48) dX10_keepsAll_32 (by decide) (fun _ => ?_) (fun h => absurd (show nI 0 = 0 from rfl) h)
  refine r_aload_n dX10_keepsAll_48 rfl (by rfl) ?_
  refine r_aload_n dX10_keepsAll_49 rfl (by rfl) ?_
  refine gf_X10_89 rfl dX10_keepsAll_50 (by first | assumption | rfl) (by rfl) ?_
  refine r_iload_n dX10_keepsAll_53 rfl (by rfl) ?_
  refine r_ialdN dX10_keepsAll_54 (by first | assumption | rfl) (by omega) (by decide) ?_
  refine pf_X10_172 rfl dX10_keepsAll_55 (by first | assumption | rfl) (by rfl) ?_
  refine r_ret rfl dX10_keepsAll_58 ?_
  exact ⟨rfl, rfl⟩
theorem kaX_162 {x : XS} {i j : Nat} : kaX x i 162 j = if j = 715 * i + 714 then x 137 32 else if 715 * i + 42 ≤ j ∧ j < 715 * i + 714 then x 155 (j - (715 * i + 42)) else if 715 * i ≤ j ∧ j < 715 * i + 42 then x 153 (j - 715 * i) else x 162 j := by
  unfold kaX
  by_cases e : j = 715 * i + 42 + 672
  · rw [e, xu_s, if_pos (by omega)]
  · rw [xu_k e, if_neg (by omega), xr_s]
    unfold kpR
    by_cases e2 : 715 * i + 42 ≤ j ∧ j < 715 * i + 714
    · rw [if_pos (by omega), if_pos e2]
      rfl
    · rw [if_neg (by omega), if_neg e2, xr_s]
theorem kaX_n {x : XS} {i c : Nat} (h : c ≠ 162) : kaX x i c = x c := by
  unfold kaX
  rw [xu_n h, xr_n h, xr_n h]
theorem laX_n {x : XS} {i c : Nat} (h1 : c ≠ 153) (h2 : c ≠ 155) (h3 : c ≠ 137) : laX x i c = x c := by
  unfold laX
  rw [xu_n h3, xr_n h2, xr_n h1]
theorem RRow.pt {f g h : Nat → Int32} (hr : RRow f g) (e : ∀ k, k < 42 → h k = g k) : RRow f h := by
  refine ⟨fun p hp => ?_, (e 40 (by omega)).trans hr.2.1, (e 41 (by omega)).trans hr.2.2⟩
  have w := hr.1 p hp
  unfold R8 at *
  rw [e (0 + p) (by omega), e (5 + p) (by omega), e (10 + p) (by omega), e (15 + p) (by omega), e (20 + p) (by omega), e (30 + p) (by omega), e (35 + p) (by omega), e (25 + p) (by omega)]
  exact w
theorem image_RR {x : XS} {a : AS} (hR : RRf x a) (hi : aIn a < 3) : RRf (xu (kaX (th0 x) (aIn a)) 137 52 (nI (aIn a + 1))) (oImage a).2 := by
  obtain ⟨h1, h2, h3, h4, h5, h6, h7, h8, h9, h10⟩ := hR
  have e : ∀ c, c ≠ 137 → c ≠ 162 → xu (kaX (th0 x) (aIn a)) 137 52 (nI (aIn a + 1)) c = x c := fun c a1 a2 => by rw [xu_n a1, kaX_n a2]; exact xu_n a1
  have e7 : ∀ k, k ≠ 0 → k ≠ 52 → xu (kaX (th0 x) (aIn a)) 137 52 (nI (aIn a + 1)) 137 k = x 137 k := fun k a1 a2 => by rw [xu_k a2, kaX_n (by decide)]; exact xu_k a1
  unfold oImage
  rw [if_pos hi]
  refine ⟨h1.fr (fun c hc => e c (by omega) (by omega)) (e7 18 (by decide) (by decide)) (e7 20 (by decide) (by decide)), (e7 19 (by decide) (by decide)).trans h2, ?_, ?_, ?_, ?_, ⟨xu_s, by show aIn a + 1 ≤ 3; omega, fun i hi2 => ?_⟩, (e7 33 (by decide) (by decide)).trans h8, ?_, ?_⟩
  · rw [e 153 (by decide) (by decide)]; exact h3
  · rw [e 139 (by decide) (by decide), e7 2 (by decide) (by decide), e7 8 (by decide) (by decide)]; exact h4
  · rw [e 159 (by decide) (by decide), e7 45 (by decide) (by decide)]; exact h5
  · rw [e 155 (by decide) (by decide), e7 32 (by decide) (by decide)]; exact h6
  · have hi2 : i < aIn a + 1 := hi2
    have e162 : xu (kaX (th0 x) (aIn a)) 137 52 (nI (aIn a + 1)) 162 = kaX (th0 x) (aIn a) 162 := xu_n (by decide)
    rw [e162]
    by_cases ei : i = aIn a
    · show RRow (if i = aIn a then aR a else aI a i) _ ∧ (if i = aIn a then (aWn a, aW a) else aJ a i).1 ≤ 16 ∧ _ = nI (if i = aIn a then (aWn a, aW a) else aJ a i).1 ∧ ∀ j, j < (if i = aIn a then (aWn a, aW a) else aJ a i).1 → RRow ((if i = aIn a then (aWn a, aW a) else aJ a i).2 j) _
      rw [if_pos ei, if_pos ei]
      refine ⟨h3.pt (fun k hk => ?_), h6.2.1, ?_, fun j hj => (h6.2.2 j hj).pt (fun k hk => ?_)⟩
      · rw [kaX_162, ei, if_neg (by omega), if_neg (by omega), if_pos (by omega), show 715 * aIn a + k - 715 * aIn a = k by omega]; rfl
      · rw [kaX_162, ei, if_pos rfl]; exact h6.1
      · have hj : j < aWn a := hj
        have h16 := h6.2.1
        rw [kaX_162, ei, if_neg (by omega), if_pos (by omega), show 715 * aIn a + 42 + (42 * j + k) - (715 * aIn a + 42) = 42 * j + k by omega]; rfl
    · show RRow (if i = aIn a then aR a else aI a i) _ ∧ (if i = aIn a then (aWn a, aW a) else aJ a i).1 ≤ 16 ∧ _ = nI (if i = aIn a then (aWn a, aW a) else aJ a i).1 ∧ ∀ j, j < (if i = aIn a then (aWn a, aW a) else aJ a i).1 → RRow ((if i = aIn a then (aWn a, aW a) else aJ a i).2 j) _
      rw [if_neg ei, if_neg ei]
      obtain ⟨q1, q2, q3, q4⟩ := h7.2.2 i (by omega)
      refine ⟨q1.pt (fun k hk => ?_), q2, ?_, fun j hj => (q4 j hj).pt (fun k hk => ?_)⟩
      · rw [kaX_162, if_neg (by omega), if_neg (by omega), if_neg (by omega)]; rfl
      · rw [kaX_162, if_neg (by omega), if_neg (by omega), if_neg (by omega)]; exact q3
      · rw [kaX_162, if_neg (by omega), if_neg (by omega), if_neg (by omega)]; rfl
  · rw [e 138 (by decide) (by decide)]; exact h9
  · rw [e 138 (by decide) (by decide)]; exact h10
theorem restore_RR {x : XS} {a : AS} {i : Nat} (hR : RRf x a) (hi : aIn a = i + 1) : RRf (xu (laX (xu (th0 x) 137 52 (nI i)) i) 137 33 (nI 0)) (oRestore a).2 := by
  obtain ⟨h1, h2, h3, h4, h5, h6, h7, h8, h9, h10⟩ := hR
  have h3i := h7.2.1
  obtain ⟨q1, q2, q3, q4⟩ := h7.2.2 i (by omega)
  have e : ∀ c, c ≠ 137 → c ≠ 153 → c ≠ 155 → xu (laX (xu (th0 x) 137 52 (nI i)) i) 137 33 (nI 0) c = x c := fun c a1 a2 a3 => by rw [xu_n a1, laX_n a2 a3 a1, xu_n a1]; exact xu_n a1
  have e7 : ∀ k, k ≠ 0 → k ≠ 52 → k ≠ 33 → k ≠ 32 → xu (laX (xu (th0 x) 137 52 (nI i)) i) 137 33 (nI 0) 137 k = x 137 k := fun k a1 a2 a3 a4 => by
    rw [xu_k a3]
    unfold laX
    rw [xu_k a4, xr_n (by decide), xr_n (by decide), xu_k a2]
    exact xu_k a1
  unfold oRestore
  rw [if_pos (by omega), show aIn a - 1 = i by omega]
  refine ⟨h1.fr (fun c hc => e c (by omega) (by omega) (by omega)) (e7 18 (by decide) (by decide) (by decide) (by decide)) (e7 20 (by decide) (by decide) (by decide) (by decide)), (e7 19 (by decide) (by decide) (by decide) (by decide)).trans h2, ?_, ?_, ?_, ⟨?_, q2, fun j hj => ?_⟩, ⟨?_, by show i ≤ 3; omega, fun j hj => ?_⟩, xu_s, ?_, ?_⟩
  · refine q1.pt (fun k hk => ?_)
    show ldR (xu (th0 x) 137 52 (nI i)) 153 (715 * i) 42 k = _
    unfold ldR
    rw [if_pos hk]
    rfl
  · rw [e 139 (by decide) (by decide) (by decide), e7 2 (by decide) (by decide) (by decide) (by decide), e7 8 (by decide) (by decide) (by decide) (by decide)]; exact h4
  · rw [e 159 (by decide) (by decide) (by decide), e7 45 (by decide) (by decide) (by decide) (by decide)]; exact h5
  · rw [xu_k (by decide)]
    unfold laX
    rw [xu_s]
    exact q3
  · refine (q4 j hj).pt (fun k hk => ?_)
    have hj : j < (aJ a i).1 := hj
    show ldR (xr (xu (th0 x) 137 52 (nI i)) 153 _) 155 (715 * i + 42) 672 (42 * j + k) = _
    unfold ldR
    rw [if_pos (by omega)]
    rfl
  · rw [xu_k (by decide)]
    unfold laX
    rw [xu_k (by decide), xr_n (by decide), xr_n (by decide), xu_s]
  · have hj : j < i := hj
    rw [e 162 (by decide) (by decide) (by decide)]
    exact h7.2.2 j (by omega)
  · rw [e 138 (by decide) (by decide) (by decide)]; exact h9
  · rw [e 138 (by decide) (by decide) (by decide)]; exact h10
set_option maxHeartbeats 8000000 in
set_option maxRecDepth 20000 in
theorem g_image {a : AS} {x : XS} (hR : RRf x a) (hA : AI a) : RCHG mX10_image [.ref 137] x (oImage a) 1 := by
  refine MM.of (by decide) (Nat.le_of_ble_eq_true rfl) ?_
  have y137 := lay_137
  have hi0 : th0 x 137 52 = nI (aIn a) := hR.2.2.2.2.2.2.1.1
  have h3 := hR.2.2.2.2.2.2.1.2.1
  refine r_aload_n dX10_image_0 rfl (by rfl) ?_
  refine r_iconst (v := nI 0) dX10_image_1 (by decide) ?_
  refine pf_X10_3 rfl dX10_image_2 (by first | assumption | rfl) (by rfl) ?_
  refine r_aload_n dX10_image_5 rfl (by rfl) ?_
  refine gf_X10_175 rfl dX10_image_6 (by first | assumption | rfl) (by rfl) ?_
  refine PW.topi hi0 ?_
  refine r_iconst (v := nI 3) dX10_image_9 (by decide) ?_
  refine r_icmp_neN (tgt := 15) dX10_image_10 (by decide) (by omega) (by omega) (fun h10 => ?_) (fun h10 => ?_)
  · refine r_aload_n dX10_image_15 rfl (by rfl) ?_
    refine r_aload_n dX10_image_16 rfl (by rfl) ?_
    refine gf_X10_175 rfl dX10_image_17 (by first | assumption | rfl) (by rfl) ?_
    refine PW.topi hi0 ?_
    refine r_iconst (v := nI 1) dX10_image_20 (by decide) ?_
    refine r_callV (n_keepsAll (by omega)) mv_X10_keepsAll ml_X10_469 ⟨by decide, by decide⟩ dX10_image_21 (by first | assumption | rfl) rfl rfl rfl (Nat.le_of_ble_eq_true rfl) (fun v9 x9 h9 => ?_)
    obtain ⟨rfl, h9⟩ := h9
    refine PW.xeq h9 ?_
    clear h9 x9
    refine r_aload_n dX10_image_24 rfl (by rfl) ?_
    refine r_dup dX10_image_25 rfl ?_
    refine gf_X10_175 rfl dX10_image_26 (by first | assumption | rfl) (by rfl) ?_
    refine r_iconst (v := nI 1) dX10_image_29 (by decide) ?_
    refine r_iadd dX10_image_30 ?_
    refine PW.topi (show _ = nI (aIn a + 1) from (by rw [kaX_n (by decide)]; rw [show xu x 137 0 (nI 0) 137 52 = nI (aIn a) from hi0]; exact nI_1' _)) ?_
    refine pf_X10_175 rfl dX10_image_31 (by first | assumption | rfl) (by rfl) ?_
    refine r_aload_n dX10_image_34 rfl (by rfl) ?_
    refine gf_X10_175 rfl dX10_image_35 (by first | assumption | rfl) (by rfl) ?_
    refine r_iret rfl dX10_image_38 ?_
    refine rchg_ok (b := (oImage a).2) (by unfold oImage; rw [if_pos (by omega), xu_s]) (image_RR hR (by omega)) (fun c hc => ?_) (by rw [xu_k (by decide), kaX_n (by decide)]; rfl)
    rw [xu_n (by omega), kaX_n (by omega)]
    exact xu_n (by omega)
  · refine r_iconst (v := -1) dX10_image_13 (by decide) ?_
    refine r_iret rfl dX10_image_14 ?_
    have e3 : aIn a = 3 := by omega
    exact rchg_ok (by unfold oImage; rw [if_neg (by omega)]) hR.th (th0_qf x).lo rfl
set_option maxHeartbeats 8000000 in
set_option maxRecDepth 20000 in
theorem g_restore {a : AS} {x : XS} (hR : RRf x a) (hA : AI a) : RCHG mX10_restore [.ref 137] x (oRestore a) 1 := by
  refine MM.of (by decide) (Nat.le_of_ble_eq_true rfl) ?_
  have y137 := lay_137
  have hi0 : th0 x 137 52 = nI (aIn a) := hR.2.2.2.2.2.2.1.1
  have h3 := hR.2.2.2.2.2.2.1.2.1
  refine r_aload_n dX10_restore_0 rfl (by rfl) ?_
  refine r_iconst (v := nI 0) dX10_restore_1 (by decide) ?_
  refine pf_X10_3 rfl dX10_restore_2 (by first | assumption | rfl) (by rfl) ?_
  refine r_aload_n dX10_restore_5 rfl (by rfl) ?_
  refine gf_X10_175 rfl dX10_restore_6 (by first | assumption | rfl) (by rfl) ?_
  refine PW.topi hi0 ?_
  refine r_if_ne (tgt := 14) dX10_restore_9 (by decide) (fun h9 => ?_) (fun h9 => ?_)
  · obtain ⟨i, hi⟩ : ∃ i, aIn a = i + 1 := ⟨aIn a - 1, by
      by_cases e : aIn a = 0
      · exact absurd (by rw [e]; rfl) h9
      · omega⟩
    refine r_aload_n dX10_restore_14 rfl (by rfl) ?_
    refine r_dup dX10_restore_15 rfl ?_
    refine gf_X10_175 rfl dX10_restore_16 (by first | assumption | rfl) (by rfl) ?_
    refine r_iconst (v := nI 1) dX10_restore_19 (by decide) ?_
    refine r_isub dX10_restore_20 ?_
    refine PW.topi (show _ = nI i by rw [show xu x 137 0 (nI 0) 137 52 = nI (i + 1) from (hi0.trans (by rw [hi]))]; exact nI_pred i) ?_
    refine pf_X10_175 rfl dX10_restore_21 (by first | assumption | rfl) (by rfl) ?_
    refine r_aload_n dX10_restore_24 rfl (by rfl) ?_
    refine r_aload_n dX10_restore_25 rfl (by rfl) ?_
    refine gf_X10_175 rfl dX10_restore_26 (by first | assumption | rfl) (by rfl) ?_
    refine PW.topi (show _ = nI i from rfl) ?_
    refine r_iconst (v := nI 0) dX10_restore_29 (by decide) ?_
    refine r_callV (n_loadsAll (i := i) (by omega)) mv_X10_keepsAll ml_X10_469 ⟨by decide, by decide⟩ dX10_restore_30 (by first | assumption | rfl) rfl rfl rfl (Nat.le_of_ble_eq_true rfl) (fun v9 x9 h9 => ?_)
    obtain ⟨rfl, h9⟩ := h9
    refine PW.xeq h9 ?_
    clear h9 x9
    refine r_aload_n dX10_restore_33 rfl (by rfl) ?_
    refine r_iconst (v := nI 0) dX10_restore_34 (by decide) ?_
    refine pf_X10_178 rfl dX10_restore_35 (by first | assumption | rfl) (by rfl) ?_
    refine r_aload_n dX10_restore_38 rfl (by rfl) ?_
    refine gf_X10_175 rfl dX10_restore_39 (by first | assumption | rfl) (by rfl) ?_
    refine PW.topi (show _ = nI i from (by rw [xu_k (by decide)]; unfold laX; rw [xu_k (by decide), xr_n (by decide), xr_n (by decide), xu_s])) ?_
    refine r_iret rfl dX10_restore_42 ?_
    refine rchg_ok (b := (oRestore a).2) (by unfold oRestore; rw [if_pos (by omega), hi]; rfl) (restore_RR hR hi) (fun c hc => ?_) (by rw [xu_k (by decide)]; unfold laX; rw [xu_k (by decide), xr_n (by decide), xr_n (by decide), xu_k (by decide)]; rfl)
    rw [xu_n (by omega), laX_n (by omega) (by omega) (by omega), xu_n (by omega)]
    exact xu_n (by omega)
  · refine r_iconst (v := -1) dX10_restore_12 (by decide) ?_
    refine r_iret rfl dX10_restore_13 ?_
    have e0 : aIn a = 0 := (nI_eq (by omega) (by decide)).mp (show nI (aIn a) = nI 0 from h9)
    exact rchg_ok (by unfold oRestore; rw [if_neg (by omega)]) hR.th (th0_qf x).lo rfl
