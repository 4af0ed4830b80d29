/-! THE REFERENCE: the book -/
theorem tx_n {v : Int32} {m H : Nat} (hH : H ≤ 600) (hm : m ≤ 600) (h : v < 0 ∨ nI H < v ∨ nI m < v) : ¬ inB v (nI 0) (nI (min m H)) = true := by
  intro q
  obtain ⟨k, _, hk, rfl⟩ := inB_is q (by omega) (by omega)
  rcases h with h | h | h
  · exact absurd (nI_pos' (n := k) (by omega)) (Int32.not_le.mpr h)
  · exact absurd (nI_le (show k ≤ H by omega) (by omega)) (Int32.not_le.mpr h)
  · exact absurd (nI_le (show k ≤ m by omega) (by omega)) (Int32.not_le.mpr h)
theorem tx_y {v : Int32} {m H : Nat} (hH : H ≤ 600) (hm : m ≤ 600) (h1 : ¬ v < 0) (h2 : ¬ nI H < v) (h3 : ¬ nI m < v) : ∃ n, n ≤ m ∧ n ≤ H ∧ v = nI n ∧ inB (nI n) (nI 0) (nI (min m H)) = true := by
  obtain ⟨k, _, hk, rfl⟩ := inB_is (v := v) (lo := 0) (hi := H) (by
    unfold inB
    rw [decide_eq_true (show nI 0 ≤ v from Int32.not_lt.mp h1), decide_eq_true (Int32.not_lt.mp h2)]
    rfl) (by omega) (by omega)
  have hkm : k ≤ m := (nI_leI (by omega) (by omega)).mp (Int32.not_lt.mp h3)
  exact ⟨k, hkm, hk, rfl, inB_N (by omega) (by omega) (by omega)⟩
def hasR (r : Except PE (Nat × Nat)) (l : List (Nat × Nat)) (k p : Nat) : Except PE Nat := match r with
  | .error e => .error e
  | .ok q => if bkHas (l.take k) q.1 then .error (2, p) else .ok q.2
theorem bkHas_s {l : List (Nat × Nat)} {k m : Nat} (h : k < l.length) : bkHas (l.take (k + 1)) m = (bkHas (l.take k) m || (l[k].1 == m)) := by
  unfold bkHas
  rw [List.take_add_one, List.any_append, List.getElem?_eq_getElem h]
  simp
theorem hasR_b {r : Except PE (Nat × Nat)} {l : List (Nat × Nat)} {k p : Nat} (h : okB (hasR r l k p) = false) : ∀ j, hasR r l (k + j) p = hasR r l k p
  | 0 => rfl
  | j + 1 => by
    have ih := hasR_b h j
    cases r with
    | error e => rfl
    | ok q =>
      unfold hasR at h ih ⊢
      by_cases hb : bkHas (l.take k) q.1 = true
      · have hb2 : bkHas (l.take (k + (j + 1))) q.1 = true := by
          unfold bkHas at hb ⊢
          rw [List.any_eq_true] at hb ⊢
          obtain ⟨w, h1, h2⟩ := hb
          exact ⟨w, (List.take_subset_take_left l (by omega)) h1, h2⟩
        simp only [hb, hb2]
      · simp only [hb] at h
        cases h
theorem hasR_e {r : Except PE (Nat × Nat)} {l : List (Nat × Nat)} {k p : Nat} (hk : k ≤ l.length) (h : okB (hasR r l k p) = false) : hasR r l l.length p = hasR r l k p := by
  have := hasR_b h (l.length - k)
  rwa [show k + (l.length - k) = l.length by omega] at this
theorem hasR_ok {r : Except PE (Nat × Nat)} {l : List (Nat × Nat)} {k p : Nat} (h : okB (hasR r l k p) = true) : ∃ q, r = .ok q ∧ bkHas (l.take k) q.1 = false ∧ hasR r l k p = .ok q.2 := by
  cases r with
  | error e => cases h
  | ok q =>
    refine ⟨q, rfl, ?_⟩
    unfold hasR at h ⊢
    by_cases hb : bkHas (l.take k) q.1 = true
    · simp only [hb] at h
      cases h
    · have hb : bkHas (l.take k) q.1 = false := Bool.eq_false_iff.mpr hb
      exact ⟨hb, by simp only [hb]; rfl⟩
/-- a clause is told -/
theorem bk_ok {g : Nat → Nat} {len a p m : Nat} {l : List (Nat × Nat)} {r : Except PE Nat} (hp : p = skip g len a) (hr : r = hasR (pNum g len 0 240 a) l l.length p) (hl : l.length < 8) (hm : skip g len a < len) (hg : ∀ j, j < 600 → g j < 256) (hlen : len ≤ 600) (h : okB (xbn (xmp (xbn r (pNum g len 0 41))) (pTake g len 59)) = true) : ∃ q v a2, pNum g len 0 240 a = .ok q ∧ r = .ok q.2 ∧ pNum g len 0 41 q.2 = .ok v ∧ pTake g len 59 v.2 = .ok a2 ∧ q.1 < 240 ∧ v.1 < 41 ∧ pBook g len (m + 1) l a = pBook g len m (l ++ [(q.1, v.1)]) a2 := by
  subst hr
  cases ho : okB (hasR (pNum g len 0 240 a) l l.length p) with
  | false =>
    obtain ⟨e, he⟩ := okB_f ho
    rw [he] at h
    cases h
  | true =>
    obtain ⟨q, h1, h2, h3⟩ := hasR_ok ho
    rw [h3] at h
    have h : okB (xbn (xmp (pNum g len 0 41 q.2)) (pTake g len 59)) = true := h
    cases hv : pNum g len 0 41 q.2 with
    | error e => rw [hv] at h; cases h
    | ok v =>
      rw [hv] at h
      have h : okB (pTake g len 59 v.2) = true := h
      cases ht : pTake g len 59 v.2 with
      | error e => rw [ht] at h; cases h
      | ok a2 =>
        refine ⟨q, v, a2, h1, h3, hv, ht, (pNum_lt h1).2, (pNum_lt hv).2, ?_⟩
        rw [List.take_length] at h2
        show (if nxV g len a = -1 then _ else _) = _
        rw [if_neg (fun q => (nx_end hg hlen).mp q hm), h1, xbn_ok]
        show (if bkHas l q.1 = true then _ else _) = _
        rw [if_neg (by rw [h2]; decide), if_neg (by omega), hv, xbn_ok, ht, xbn_ok]
/-- a clause is wrong -/
theorem bk_er {g : Nat → Nat} {len a p m : Nat} {l : List (Nat × Nat)} {r r2 : Except PE Nat} {e : PE} (hp : p = skip g len a) (hr : r = hasR (pNum g len 0 240 a) l l.length p) (hr2 : (l.length < 8 ∧ r2 = r) ∨ (okB r = false ∧ r2 = r) ∨ (okB r = true ∧ l.length = 8 ∧ r2 = .error (3, p))) (hm : skip g len a < len) (hg : ∀ j, j < 600 → g j < 256) (hlen : len ≤ 600) (h : xbn (xmp (xbn r2 (pNum g len 0 41))) (pTake g len 59) = .error e) : pBook g len (m + 1) l a = .error e := by
  subst hr
  show (if nxV g len a = -1 then _ else _) = _
  rw [if_neg (fun q => (nx_end hg hlen).mp q hm)]
  cases h1 : pNum g len 0 240 a with
  | error e2 =>
    rw [h1] at hr2
    have e9 : r2 = .error e2 := by
      rcases hr2 with h2 | h2 | h2
      · exact h2.2
      · exact h2.2
      · cases h2.1
    rw [e9] at h
    injection (show (Except.error e2 : Except PE Nat) = .error e from h) with h
    subst h
    rfl
  | ok q =>
    rw [h1] at hr2
    rw [xbn_ok]
    cases hb : bkHas l q.1 with
    | true =>
      rw [if_pos rfl]
      have e9 : hasR (.ok q) l l.length p = .error (2, p) := by
        unfold hasR
        rw [List.take_length]
        simp only [hb]
        rfl
      rw [e9] at hr2
      have e10 : r2 = .error (2, p) := by
        rcases hr2 with h2 | h2 | h2
        · exact h2.2
        · exact h2.2
        · cases h2.1
      rw [e10] at h
      rw [← hp]
      injection (show (Except.error (2, p) : Except PE Nat) = .error e from h) with h
      subst h
      rfl
    | false =>
      rw [if_neg (by decide)]
      have e9 : hasR (.ok q) l l.length p = .ok q.2 := by
        unfold hasR
        rw [List.take_length]
        simp only [hb]
        rfl
      rw [e9] at hr2
      rcases hr2 with h2 | h2 | h2
      · rw [if_neg (by omega)]
        rw [h2.2] at h
        have h : xbn (xmp (pNum g len 0 41 q.2)) (pTake g len 59) = .error e := h
        cases hv : pNum g len 0 41 q.2 with
        | error e3 =>
          rw [hv] at h
          injection (show (Except.error e3 : Except PE Nat) = .error e from h) with h
          subst h
          rfl
        | ok v =>
          rw [hv] at h
          have h : pTake g len 59 v.2 = .error e := h
          rw [xbn_ok, h]
          rfl
      · cases h2.1
      · rw [if_pos (by omega), ← hp]
        rw [h2.2.2] at h
        injection (show (Except.error (3, p) : Except PE Nat) = .error e from h) with h
        subst h
        rfl
def KB (x z : XS) : Prop := (∀ c, c ≠ 137 → c ≠ 158 → z c = x c) ∧ (∀ k, ¬ (2 ≤ k ∧ k ≤ 8) → z 137 k = th0 x 137 k) ∧ z 137 2 = nI 0
theorem KB.ch {x y z : XS} (h : KB x y) (c : CH y z) : KB x z := ⟨fun c9 h1 h2 => (c.1 c9 h1).trans (h.1 c9 h1 h2), fun k hk => (c.2 k (by omega) (by omega) (by omega)).trans (h.2.1 k hk), (c.2 2 (by decide) (by decide) (by decide)).trans h.2.2⟩
theorem KB.put {x y : XS} {k : Nat} {v : Int32} (h : KB x y) : KB x (xu y 158 k v) := ⟨fun c9 h1 h2 => (xu_n h2).trans (h.1 c9 h1 h2), fun j hj => by rw [xu_n (by decide)]; exact h.2.1 j hj, by rw [xu_n (by decide)]; exact h.2.2⟩
def NB (z : XS) (l : List (Nat × Nat)) : Prop := ∀ (j : Nat) (q : Nat × Nat), l[j]? = some q → z 158 (2 * j) = nI q.1 ∧ z 158 (2 * j + 1) = nI q.2 ∧ q.1 < 240 ∧ q.2 < 41
theorem NB.snoc {z : XS} {l : List (Nat × Nat)} {m v : Nat} (h : NB z l) (hm : m < 240) (hv : v < 41) : NB (xu (xu z 158 (2 * l.length) (nI m)) 158 (2 * l.length + 1) (nI v)) (l ++ [(m, v)]) := by
  intro j q hq
  by_cases hj : j < l.length
  · rw [List.getElem?_append_left hj] at hq
    rw [xu_k (by omega), xu_k (by omega), xu_k (by omega), xu_k (by omega)]
    exact h j q hq
  · by_cases e : j = l.length
    · subst e
      rw [List.getElem?_append_right (Nat.le_refl _), Nat.sub_self] at hq
      injection hq with hq
      subst hq
      exact ⟨by rw [xu_k (by omega)]; exact xu_s, xu_s, hm, hv⟩
    · rw [List.getElem?_append_right (by omega)] at hq
      rw [show j - l.length = (j - l.length - 1) + 1 by omega] at hq
      cases hq
theorem bg_n {x : XS} {n c : Nat} (h : c ≠ 137) : bgX x n c = x c := by
  unfold bgX
  rw [xu_n h, xu_n h, xu_n h, xu_n h, xu_n h, xu_n h]
theorem bg_k {x : XS} {n k : Nat} (h : ¬ (2 ≤ k ∧ k ≤ 8)) : bgX x n 137 k = x 137 k := by
  unfold bgX
  rw [xu_k (by omega), xu_k (by omega), xu_k (by omega), xu_k (by omega), xu_k (by omega), xu_k (by omega)]
theorem txt_RR {x y : XS} {a : AS} {n : Nat} {e : PE} (hR : RRf x a) (hc : ∀ c, c ≠ 137 → c = 138 ∨ c = 139 ∨ c = 142 ∨ c = 143 ∨ c = 146 ∨ c = 147 ∨ c = 148 ∨ c = 153 ∨ c = 155 ∨ c = 159 ∨ c = 162 → y c = x c) (hk : ∀ k, ¬ (2 ≤ k ∧ k ≤ 8) → k = 0 ∨ 18 ≤ k → y 137 k = th0 x 137 k) (h2 : y 137 2 = nI 0) (hP : PSt y (aT a) n (.error e)) : RRf (xu y 137 8 (y 137 5)) (setT a (aT a) 0 (nI e.2)) := by
  refine hR.tape (fun c h7 h9 => (xu_n h7).trans (hc c h7 (by omega))) (fun k h9 => (xu_k (by omega)).trans ((hk k (by omega) (by omega)).trans (xu_k (by omega)))) ((xu_k (by decide)).trans h2) (by decide) (fun j hj => ?_) (xu_s.trans hP.2.1)
  rw [xu_n (by decide)]
  exact hP.1.2.2 j hj
theorem book_RR {x y : XS} {a : AS} {n b : Nat} {l : List (Nat × Nat)} (hR : RRf x a) (hK : KB x y) (hP : PSt y (aT a) n (.ok b)) (hl : l.length ≤ 8) (hN : NB y l) : RRf (xr (xu (xu y 137 8 (y 137 5)) 137 45 (nI l.length)) 159 (cpR (y 159) (y 158) (2 * l.length))) (a.1, a.2.1, (aT a, 0, -1), l, a.2.2.2.2) := by
  obtain ⟨h1, h2, h3, h4, h5, h6, h7, h8, h9, h10⟩ := hR
  have e : ∀ c, c ≠ 137 → c ≠ 158 → c ≠ 159 → xr (xu (xu y 137 8 (y 137 5)) 137 45 (nI l.length)) 159 (cpR (y 159) (y 158) (2 * l.length)) c = x c := fun c a1 a2 a3 => by rw [xr_n a3, xu_n a1, xu_n a1]; exact hK.1 c a1 a2
  have e7 : ∀ k, k ≠ 45 → 9 ≤ k → xr (xu (xu y 137 8 (y 137 5)) 137 45 (nI l.length)) 159 (cpR (y 159) (y 158) (2 * l.length)) 137 k = x 137 k := fun k a1 a2 => by rw [xr_n (by decide), xu_k a1, xu_k (by omega)]; exact (hK.2.1 k (by omega)).trans (xu_k (by omega))
  refine ⟨h1.fr (fun c hc => e c (by omega) (by omega) (by omega)) (e7 18 (by decide) (by decide)) (e7 20 (by decide) (by decide)), (e7 19 (by decide) (by decide)).trans h2, ?_, ⟨?_, Nat.zero_le _, ?_, ?_⟩, ⟨?_, hl, fun j q hq => ?_⟩, ?_, ?_, (e7 33 (by decide) (by decide)).trans h8, ?_, ?_⟩
  · rw [e 153 (by decide) (by decide) (by decide)]; exact h3
  · rw [xr_n (by decide), xu_k (by decide), xu_k (by decide)]; exact hK.2.2
  · intro j hj
    rw [xr_n (by decide), xu_n (by decide), xu_n (by decide)]; exact hP.1.2.2 j hj
  · rw [xr_n (by decide), xu_k (by decide), xu_s]; exact hP.2.2.2
  · rw [xr_n (by decide), xu_s]
  · have w := hN j q hq
    have hj : j < l.length := (List.getElem?_eq_some_iff.mp hq).1
    rw [xr_s, cpR_lt (2 * l.length) (by omega), cpR_lt (2 * l.length) (by omega)]
    exact w
  · rw [e 155 (by decide) (by decide) (by decide), e7 32 (by decide) (by decide)]; exact h6
  · rw [e 162 (by decide) (by decide) (by decide), e7 52 (by decide) (by decide)]; exact h7
  · rw [e 138 (by decide) (by decide) (by decide)]; exact h9
  · rw [e 138 (by decide) (by decide) (by decide)]; exact h10
set_option maxHeartbeats 8000000 in
set_option maxRecDepth 20000 in
theorem g_book {a : AS} {x : XS} {v : Int32} (hR : RRf x a) (hA : AI a) : RCHG mX10_book [.ref 137, .int v] x (oBook a v) 1 := by
  refine MM.of (by decide) (Nat.le_of_ble_eq_true rfl) ?_
  have y137 := lay_137
  have y158 := lay_158
  have y159 := lay_159
  have hH := hR.2.2.2.1.2.1
  refine r_aload_n dX10_book_0 rfl (by rfl) ?_
  refine r_iconst (v := nI 0) dX10_book_1 (by decide) ?_
  refine pf_X10_3 rfl dX10_book_2 (by first | assumption | rfl) (by rfl) ?_
  refine r_aload_n dX10_book_5 rfl (by rfl) ?_
  refine r_iload_n dX10_book_6 rfl (by rfl) ?_
  refine r_if_lt (tgt := 28) dX10_book_7 (by decide) (fun h7 => ?_) (fun h7 => ?_)
  · refine r_iconst (v := nI 0) dX10_book_28 (by decide) ?_
    refine r_iconst (v := nI 1) dX10_book_29 (by decide) ?_
    refine r_iconst (v := nI 1) dX10_book_30 (by decide) ?_
    refine r_callV (c_may_0 xu_s (by decide) (by decide)) mv_X10_may ml_X10_203 ⟨by decide, by decide⟩ dX10_book_31 lay_137 rfl rfl rfl (Nat.le_of_ble_eq_true rfl) (fun v9 x9 h9 => ?_)
    obtain ⟨rfl, h9⟩ := h9
    refine PW.xeq h9 ?_
    clear h9 x9
    refine r_if_neB (tgt := 39) dX10_book_34 (by decide) (fun h => by cases h) (fun _ => ?_)
    refine r_iconst (v := nI 0) dX10_book_37 (by decide) ?_
    refine r_iret rfl dX10_book_38 ?_
    first
      | exact rchg_er hR rfl (by rw [oBook, if_neg (tx_n hH (by decide) (Or.inl h7))])
      | exact rchg_er hR rfl (by rw [oBook, if_neg (tx_n hH (by decide) (Or.inr (Or.inl (by first | exact h15 | exact Int32.not_le.mp h15))))])
      | exact rchg_er hR rfl (by rw [oBook, if_neg (tx_n hH (by decide) (Or.inr (Or.inr (by first | exact h21 | exact Int32.not_le.mp h21))))])
  · refine r_iload_n dX10_book_10 rfl (by rfl) ?_
    refine r_aload_n dX10_book_11 rfl (by rfl) ?_
    refine gf_X10_98 rfl dX10_book_12 (by first | assumption | rfl) (by rfl) ?_
    refine PW.topi (show _ = nI (aH a) from hR.2.2.2.1.1) ?_
    refine r_icmp_gt (tgt := 28) dX10_book_15 (by decide) (fun h15 => ?_) (fun h15 => ?_)
    · refine r_iconst (v := nI 0) dX10_book_28 (by decide) ?_
      refine r_iconst (v := nI 1) dX10_book_29 (by decide) ?_
      refine r_iconst (v := nI 1) dX10_book_30 (by decide) ?_
      refine r_callV (c_may_0 xu_s (by decide) (by decide)) mv_X10_may ml_X10_203 ⟨by decide, by decide⟩ dX10_book_31 lay_137 rfl rfl rfl (Nat.le_of_ble_eq_true rfl) (fun v9 x9 h9 => ?_)
      obtain ⟨rfl, h9⟩ := h9
      refine PW.xeq h9 ?_
      clear h9 x9
      refine r_if_neB (tgt := 39) dX10_book_34 (by decide) (fun h => by cases h) (fun _ => ?_)
      refine r_iconst (v := nI 0) dX10_book_37 (by decide) ?_
      refine r_iret rfl dX10_book_38 ?_
      first
        | exact rchg_er hR rfl (by rw [oBook, if_neg (tx_n hH (by decide) (Or.inl h7))])
        | exact rchg_er hR rfl (by rw [oBook, if_neg (tx_n hH (by decide) (Or.inr (Or.inl (by first | exact h15 | exact Int32.not_le.mp h15))))])
        | exact rchg_er hR rfl (by rw [oBook, if_neg (tx_n hH (by decide) (Or.inr (Or.inr (by first | exact h21 | exact Int32.not_le.mp h21))))])
    · refine r_iload_n dX10_book_18 rfl (by rfl) ?_
      refine r_bipush (v := nI 100) dX10_book_19 (by decide) ?_
      refine r_icmp_gt (tgt := 28) dX10_book_21 (by decide) (fun h21 => ?_) (fun h21 => ?_)
      · refine r_iconst (v := nI 0) dX10_book_28 (by decide) ?_
        refine r_iconst (v := nI 1) dX10_book_29 (by decide) ?_
        refine r_iconst (v := nI 1) dX10_book_30 (by decide) ?_
        refine r_callV (c_may_0 xu_s (by decide) (by decide)) mv_X10_may ml_X10_203 ⟨by decide, by decide⟩ dX10_book_31 lay_137 rfl rfl rfl (Nat.le_of_ble_eq_true rfl) (fun v9 x9 h9 => ?_)
        obtain ⟨rfl, h9⟩ := h9
        refine PW.xeq h9 ?_
        clear h9 x9
        refine r_if_neB (tgt := 39) dX10_book_34 (by decide) (fun h => by cases h) (fun _ => ?_)
        refine r_iconst (v := nI 0) dX10_book_37 (by decide) ?_
        refine r_iret rfl dX10_book_38 ?_
        first
          | exact rchg_er hR rfl (by rw [oBook, if_neg (tx_n hH (by decide) (Or.inl h7))])
          | exact rchg_er hR rfl (by rw [oBook, if_neg (tx_n hH (by decide) (Or.inr (Or.inl (by first | exact h15 | exact Int32.not_le.mp h15))))])
          | exact rchg_er hR rfl (by rw [oBook, if_neg (tx_n hH (by decide) (Or.inr (Or.inr (by first | exact h21 | exact Int32.not_le.mp h21))))])
      · refine r_iconst (v := nI 1) dX10_book_24 (by decide) ?_
        refine r_goto (tgt := 29) dX10_book_25 (by decide) ?_
        refine r_iconst (v := nI 1) dX10_book_29 (by decide) ?_
        refine r_iconst (v := nI 1) dX10_book_30 (by decide) ?_
        refine r_callV (c_may_1 xu_s) mv_X10_may ml_X10_203 ⟨by decide, by decide⟩ dX10_book_31 lay_137 rfl rfl rfl (Nat.le_of_ble_eq_true rfl) (fun v9 x9 h9 => ?_)
        obtain ⟨rfl, h9⟩ := h9
        refine PW.xeq h9 ?_
        clear h9 x9
        refine r_if_neB (tgt := 39) dX10_book_34 (by decide) (fun _ => ?_) (fun h => by cases h)
        obtain ⟨n, hn1, hn2, rfl, hin⟩ := tx_y hH (show 100 ≤ 600 by decide) h7 (by first | exact h15 | exact Int32.not_lt.mpr h15) (by first | exact h21 | exact Int32.not_lt.mpr h21)
        refine r_aload_n dX10_book_39 rfl (by rfl) ?_
        refine r_iload_n dX10_book_40 rfl (by rfl) ?_
        refine r_callV n_begins mv_X10_begins ml_X10_207 ⟨by decide, by decide⟩ dX10_book_41 (by first | assumption | rfl) rfl rfl rfl (Nat.le_of_ble_eq_true rfl) (fun v9 x9 h9 => ?_)
        obtain ⟨rfl, h9⟩ := h9
        refine PW.xeq h9 ?_
        clear h9 x9
        refine r_iconst (v := nI 0) dX10_book_44 (by decide) ?_
        refine r_istore_n dX10_book_45 rfl (by decide) ?_
        refine PW.loop (σ := List (Nat × Nat) × Nat × XS) (fun s => 9 - s.1.length) (fun s => s.1.length ≤ 8 ∧ PSt s.2.2 (aT a) n (.ok s.2.1) ∧ KB x s.2.2 ∧ NB s.2.2 s.1 ∧ pBook (aT a) n 9 [] 0 = pBook (aT a) n (9 - s.1.length) s.1 s.2.1) (fun s => [(0, .ref 137), (1, .int (nI n)), (2, .int (nI s.1.length))]) (fun s => s.2.2) (([], 0, bgX (th0 x) n)) (⟨Nat.zero_le _, bg_st hR.th (by omega), ⟨fun c h1 _ => (bg_n h1).trans (show xu x 137 0 (nI 0) c = x c from xu_n h1), fun k hk => bg_k hk, rfl⟩, (fun j q hq => by cases hq), rfl⟩) rfl rfl (fun s hs ih => ?_)
        obtain ⟨hs8, hP, hK, hN, hq⟩ := hs
        have hk8 := skip_le (g := aT a) hP.2.2.1
        refine r_aload_n dX10_book_46 rfl (by rfl) ?_
        refine r_callV (t_fine hP) mv_X10_fine ml_X10_130 ⟨by decide, by decide⟩ dX10_book_47 (by first | assumption | rfl) rfl rfl rfl (Nat.le_of_ble_eq_true rfl) (fun v9 x9 h9 => ?_)
        obtain ⟨rfl, h9⟩ := h9
        refine PW.xeq h9 ?_
        clear h9 x9
        refine r_if_eqB (tgt := 189) dX10_book_50 (by decide) (fun h50 => absurd (show true = false from h50) (by decide)) (fun h50 => ?_)
        refine r_aload_n dX10_book_53 rfl (by rfl) ?_
        refine r_callV (t_isMore hP) mv_X10_isMore ml_X10_211 ⟨by decide, by decide⟩ dX10_book_54 (by first | assumption | rfl) rfl rfl rfl (Nat.le_of_ble_eq_true rfl) (fun v9 y h9 => ?_)
        obtain ⟨rfl, P1, rfl⟩ := h9
        refine r_if_eqB (tgt := 189) dX10_book_57 (by decide) (fun h57 => ?_) (fun h57 => ?_)
        · first
            | (have D7 := (CH.gd.trans C2).trans (D5.trans (C6.trans C7)); skip)
            | skip
          refine r_aload_n dX10_book_189 rfl (by rfl) ?_
          refine r_iload_n dX10_book_190 rfl (by rfl) ?_
          refine r_callV n_result mv_X10_result ml_X10_237 ⟨by decide, by decide⟩ dX10_book_191 (by first | assumption | rfl) rfl rfl rfl (Nat.le_of_ble_eq_true rfl) (fun v9 x9 h9 => ?_)
          obtain ⟨rfl, h9⟩ := h9
          refine PW.xeq h9 ?_
          clear h9 x9
          refine r_istore_n dX10_book_194 rfl (by decide) ?_
          refine r_aload_n dX10_book_195 rfl (by rfl) ?_
          refine gf_X10_101 rfl dX10_book_196 (by first | assumption | rfl) (by rfl) ?_
          refine r_iconst (v := -1) dX10_book_199 (by decide) ?_
          refine r_icmp_eq (tgt := 205) dX10_book_200 (by decide) (fun h200 => ?_) (fun h200 => ?_)
          · refine r_aload_n dX10_book_205 rfl (by rfl) ?_
            refine r_iload_n dX10_book_206 rfl (by rfl) ?_
            refine pf_X10_169 rfl dX10_book_207 (by first | assumption | rfl) (by rfl) ?_
            refine r_aload_n dX10_book_210 rfl (by rfl) ?_
            refine r_aload_n dX10_book_211 rfl (by rfl) ?_
            refine gf_X10_77 rfl dX10_book_212 (by first | assumption | rfl) (by rfl) ?_
            refine r_aload_n dX10_book_215 rfl (by rfl) ?_
            refine gf_X10_80 rfl dX10_book_216 (by first | assumption | rfl) (by rfl) ?_
            refine r_iconst (v := nI 2) dX10_book_219 (by decide) ?_
            refine r_iload_n dX10_book_220 rfl (by rfl) ?_
            refine r_imulN dX10_book_221 ?_
            refine r_callV (c_copies (sc := 158) (dc := 159) (n := 2 * s.1.length) lay_158 lay_159 (by omega) (by omega) (by decide) (by decide) (by decide)) mv_X10_copies ml_X10_165 ⟨by decide, by decide⟩ dX10_book_222 (by first | assumption | rfl) rfl rfl rfl (Nat.le_of_ble_eq_true rfl) (fun v9 x9 h9 => ?_)
            obtain ⟨rfl, h9⟩ := h9
            refine PW.xeq h9 ?_
            clear h9 x9
            refine r_iload_n dX10_book_225 rfl (by rfl) ?_
            refine r_iret rfl dX10_book_226 ?_
            first
              | (exact absurd (show y6 137 5 = -1 from h200) (by
                   obtain ⟨e, he⟩ := okB_f h155
                   rw [he] at P7
                   exact P7.bad))
              | (have hb : pBook (aT a) n 9 [] 0 = .ok (s.1, skip (aT a) n s.2.1) := by
                   rw [hq, show 9 - s.1.length = (8 - s.1.length) + 1 by omega]
                   show (if nxV _ _ _ = -1 then _ else _) = _
                   rw [if_pos ((nx_end hP.gg (by omega)).mpr (of_decide_eq_false h57))]
                 have K1 := hK.ch (CH.gd (b := skip (aT a) n s.2.1))
                 refine rchg_ok (b := (a.1, a.2.1, (aT a, 0, -1), s.1, a.2.2.2.2)) (by unfold oBook; rw [if_pos hin, nN_nI (by omega), hb, if_pos (show gdX s.2.2 (skip (aT a) n s.2.1) 137 5 = -1 from P1.2.2.2)]) (book_RR hR K1 P1 hs8 hN) (fun c hc => ?_) ?_
                 · rw [xr_n (by omega), xu_n (by omega), xu_n (by omega)]
                   exact K1.1 c (by omega) (by omega)
                 · rw [xr_n (by decide), xu_k (by decide), xu_k (by decide)]
                   exact K1.2.1 0 (by omega))
          · refine r_iload_n dX10_book_203 rfl (by rfl) ?_
            refine r_iret rfl dX10_book_204 ?_
            first
              | (exact absurd (show xu (gdX s.2.2 (skip (aT a) n s.2.1)) 137 8 _ 137 5 = -1 from P1.2.2.2) h200)
              | (obtain ⟨e, he⟩ := okB_f h155
                 rw [he] at P7
                 have hb : pBook (aT a) n 9 [] 0 = .error e := by
                   rw [hq, show 9 - s.1.length = (8 - s.1.length) + 1 by omega]
                   refine bk_er rfl hr2 ?_ (of_decide_eq_true h57) hP.gg (by omega) he
                   first
                     | (exact Or.inr (Or.inr ⟨h121, h127, rfl⟩))
                     | (exact Or.inl ⟨by omega, rfl⟩)
                     | (exact Or.inr (Or.inl ⟨h121, rfl⟩))
                 refine rchg_ok (b := setT a (aT a) 0 (nI e.2)) (by unfold oBook; rw [if_pos hin, nN_nI (by omega), hb, if_neg P7.bad, P7.2.2.1]; rfl) (txt_RR hR (fun c h1 h2 => (hK.ch D7).1 c h1 (by omega)) (fun k h1 _ => (hK.ch D7).2.1 k h1) (hK.ch D7).2.2 P7) (fun c hc => (xu_n (by omega)).trans ((hK.ch D7).1 c (by omega) (by omega))) ((xu_k (by decide)).trans ((hK.ch D7).2.1 0 (by omega))))
        · refine r_aload_n dX10_book_60 rfl (by rfl) ?_
          refine gf_X10_107 rfl dX10_book_61 (by first | assumption | rfl) (by rfl) ?_
          refine PW.topi (show _ = nI (skip (aT a) n s.2.1) from xu_s) ?_
          refine r_istore_n dX10_book_64 rfl (by decide) ?_
          refine r_aload_n dX10_book_65 rfl (by rfl) ?_
          refine r_iconst (v := nI 0) dX10_book_66 (by decide) ?_
          refine r_sipush (v := nI 239) dX10_book_67 (by decide) ?_
          refine r_callV (t_num (lo := 0) (n := 240) (hv := nI 239) P1 (by decide) (by decide) (fun v hv => hv_C (by decide) hv)) mv_X10_readNumber ml_X10_181 ⟨by decide, by decide⟩ dX10_book_70 (by first | assumption | rfl) rfl rfl rfl (Nat.le_of_ble_eq_true rfl) (fun v9 y1 h9 => ?_)
          obtain ⟨rfl, P2, C2⟩ := h9
          rw [xbn_ok, pNum_skip] at P2
          refine PW.topi (show _ = vI (pNum (aT a) n 0 240 s.2.1) from (by rw [xbn_ok, pNum_skip])) ?_
          refine r_istore dX10_book_73 (by decide) ?_
          refine r_iconst (v := nI 0) dX10_book_75 (by decide) ?_
          refine r_istore dX10_book_76 (by decide) ?_
          refine PW.loop (σ := Nat × Except PE Nat × XS) (fun w => s.1.length - w.1) (fun w => w.1 ≤ s.1.length ∧ PSt w.2.2 (aT a) n w.2.1 ∧ CH y1 w.2.2 ∧ w.2.1 = hasR (pNum (aT a) n 0 240 s.2.1) s.1 w.1 (skip (aT a) n s.2.1)) (fun w => [(0, .ref 137), (1, .int (nI n)), (2, .int (nI s.1.length)), (3, .int (nI (skip (aT a) n s.2.1))), (4, .int (vI (pNum (aT a) n 0 240 s.2.1))), (5, .int (nI w.1))]) (fun w => w.2.2) ((0, xmp (pNum (aT a) n 0 240 s.2.1), y1)) (⟨Nat.zero_le _, P2, CH.rfl, (by show xmp (pNum (aT a) n 0 240 s.2.1) = _; cases (pNum (aT a) n 0 240 s.2.1) <;> rfl)⟩) rfl rfl (fun w hw kh => ?_)
          obtain ⟨hw1, P3, D3, hr⟩ := hw
          refine r_iload dX10_book_78 (by rfl) ?_
          refine r_iload_n dX10_book_80 rfl (by rfl) ?_
          refine r_icmp_geN (tgt := 117) dX10_book_81 (by decide) (by omega) (by omega) (fun h81 => ?_) (fun h81 => ?_)
          · have hr2 : w.2.1 = hasR (pNum (aT a) n 0 240 s.2.1) s.1 s.1.length (skip (aT a) n s.2.1) := by
              rw [hr]
              first
                | (rw [show w.1 = s.1.length by omega]; done)
                | (exact (hasR_e hw1 (by rw [← hr]; exact h88)).symm)
            refine r_aload_n dX10_book_117 rfl (by rfl) ?_
            refine r_callV (t_fine P3) mv_X10_fine ml_X10_130 ⟨by decide, by decide⟩ dX10_book_118 (by first | assumption | rfl) rfl rfl rfl (Nat.le_of_ble_eq_true rfl) (fun v9 x9 h9 => ?_)
            obtain ⟨rfl, h9⟩ := h9
            refine PW.xeq h9 ?_
            clear h9 x9
            refine r_if_eqB (tgt := 136) dX10_book_121 (by decide) (fun h121 => ?_) (fun h121 => ?_)
            · first
                | (have P5 := P4; have D5 := D3.trans C4)
                | (have P5 := P3; have D5 := D3)
              refine r_aload_n dX10_book_136 rfl (by rfl) ?_
              refine r_iconst (v := nI 0) dX10_book_137 (by decide) ?_
              refine r_bipush (v := nI 40) dX10_book_138 (by decide) ?_
              refine r_callV (t_num (lo := 0) (n := 41) (hv := nI 40) P5 (by decide) (by decide) (fun v hv => hv_C (by decide) hv)) mv_X10_readNumber ml_X10_181 ⟨by decide, by decide⟩ dX10_book_140 (by first | assumption | rfl) rfl rfl rfl (Nat.le_of_ble_eq_true rfl) (fun v9 y5 h9 => ?_)
              obtain ⟨rfl, P6, C6⟩ := h9
              refine r_istore dX10_book_143 (by decide) ?_
              refine r_aload_n dX10_book_145 rfl (by rfl) ?_
              refine r_bipush (v := nI 59) dX10_book_146 (by decide) ?_
              refine r_callV (t_sign (c := 59) P6 (by decide) (by decide)) mv_X10_sign ml_X10_234 ⟨by decide, by decide⟩ dX10_book_148 (by first | assumption | rfl) rfl rfl rfl (Nat.le_of_ble_eq_true rfl) (fun v9 y6 h9 => ?_)
              obtain ⟨rfl, P7, C7⟩ := h9
              refine r_aload_n dX10_book_151 rfl (by rfl) ?_
              refine r_callV (t_fine P7) mv_X10_fine ml_X10_130 ⟨by decide, by decide⟩ dX10_book_152 (by first | assumption | rfl) rfl rfl rfl (Nat.le_of_ble_eq_true rfl) (fun v9 x9 h9 => ?_)
              obtain ⟨rfl, h9⟩ := h9
              refine PW.xeq h9 ?_
              clear h9 x9
              refine r_if_neB (tgt := 161) dX10_book_155 (by decide) (fun h155 => ?_) (fun h155 => ?_)
              · first
                  | (exact absurd (show false = true from h155) (by decide))
                  | (obtain ⟨e, he⟩ := okB_f h121; rw [he] at h155; exact absurd (show false = true from h155) (by decide))
                  | (have D7 := (CH.gd.trans C2).trans (D5.trans (C6.trans C7))
                     obtain ⟨q, v, a2, e1, e2, e3, e4, hq1, hv1, hpb⟩ := bk_ok (m := 8 - s.1.length) rfl hr2 (by omega) (of_decide_eq_true h57) hP.gg (by omega) h155
                     have P8 : PSt (xu (xu y6 158 (2 * s.1.length) (nI q.1)) 158 (2 * s.1.length + 1) (nI v.1)) (aT a) n (.ok a2) := by
                       have P7 := P7
                       rw [e2, xbn_ok, e3] at P7
                       have P7 : PSt y6 (aT a) n (pTake (aT a) n 59 v.2) := P7
                       rw [e4] at P7
                       exact P7.ch (fun k _ => by rw [xu_n (by decide), xu_n (by decide)]) (by rw [xu_n (by decide), xu_n (by decide)])
                     rw [e1, e2, xbn_ok, e3]
                     refine PW.lc (L' := [(0, .ref 137), (1, .int (nI n)), (2, .int (nI s.1.length)), (3, .int (nI (skip (aT a) n s.2.1))), (4, .int (nI q.1)), (5, .int (nI v.1))]) (by rfl) rfl ?_
                     refine r_aload_n dX10_book_161 rfl (by rfl) ?_
                     refine gf_X10_77 rfl dX10_book_162 (by first | assumption | rfl) (by rfl) ?_
                     refine r_iconst (v := nI 2) dX10_book_165 (by decide) ?_
                     refine r_iload_n dX10_book_166 rfl (by rfl) ?_
                     refine r_imulN dX10_book_167 ?_
                     refine r_iload dX10_book_168 (by rfl) ?_
                     refine r_iastN dX10_book_170 (by first | assumption | rfl) (by omega) (by decide) ?_
                     refine r_aload_n dX10_book_171 rfl (by rfl) ?_
                     refine gf_X10_77 rfl dX10_book_172 (by first | assumption | rfl) (by rfl) ?_
                     refine r_iconst (v := nI 2) dX10_book_175 (by decide) ?_
                     refine r_iload_n dX10_book_176 rfl (by rfl) ?_
                     refine r_imulN dX10_book_177 ?_
                     refine r_iconst (v := nI 1) dX10_book_178 (by decide) ?_
                     refine r_iaddN dX10_book_179 ?_
                     refine r_iload dX10_book_180 (by rfl) ?_
                     refine r_iastN dX10_book_182 (by first | assumption | rfl) (by omega) (by decide) ?_
                     refine r_iincN dX10_book_183 (by rfl) (by decide) ?_
                     refine r_goto (tgt := 46) dX10_book_186 (by decide) ?_
                     exact PW.lc (by (try dsimp only); rw [List.length_append]; rfl) rfl (ih (s.1 ++ [(q.1, v.1)], a2, xu (xu y6 158 (2 * s.1.length) (nI q.1)) 158 (2 * s.1.length + 1) (nI v.1)) ⟨(show (s.1 ++ [(q.1, v.1)]).length ≤ 8 by rw [List.length_append]; show s.1.length + 1 ≤ 8; omega), P8, ((hK.ch D7).put).put, NB.snoc (fun j q hj => by rw [D7.1 158 (by decide)]; exact hN j q hj) hq1 hv1, (by rw [hq, show 9 - s.1.length = (8 - s.1.length) + 1 by omega, hpb]; show _ = pBook _ _ (9 - (s.1 ++ [(q.1, v.1)]).length) _ _; rw [List.length_append, show 9 - (s.1.length + [(q.1, v.1)].length) = 8 - s.1.length from (by show 9 - (s.1.length + 1) = _; omega)])⟩ (show 9 - (s.1 ++ [(q.1, v.1)]).length < 9 - s.1.length by rw [List.length_append]; show 9 - (s.1.length + 1) < _; omega)))
              · refine r_goto (tgt := 189) dX10_book_158 (by decide) ?_
                first
                  | (have D7 := (CH.gd.trans C2).trans (D5.trans (C6.trans C7)); skip)
                  | skip
                refine r_aload_n dX10_book_189 rfl (by rfl) ?_
                refine r_iload_n dX10_book_190 rfl (by rfl) ?_
                refine r_callV n_result mv_X10_result ml_X10_237 ⟨by decide, by decide⟩ dX10_book_191 (by first | assumption | rfl) rfl rfl rfl (Nat.le_of_ble_eq_true rfl) (fun v9 x9 h9 => ?_)
                obtain ⟨rfl, h9⟩ := h9
                refine PW.xeq h9 ?_
                clear h9 x9
                refine r_istore_n dX10_book_194 rfl (by decide) ?_
                refine r_aload_n dX10_book_195 rfl (by rfl) ?_
                refine gf_X10_101 rfl dX10_book_196 (by first | assumption | rfl) (by rfl) ?_
                refine r_iconst (v := -1) dX10_book_199 (by decide) ?_
                refine r_icmp_eq (tgt := 205) dX10_book_200 (by decide) (fun h200 => ?_) (fun h200 => ?_)
                · refine r_aload_n dX10_book_205 rfl (by rfl) ?_
                  refine r_iload_n dX10_book_206 rfl (by rfl) ?_
                  refine pf_X10_169 rfl dX10_book_207 (by first | assumption | rfl) (by rfl) ?_
                  refine r_aload_n dX10_book_210 rfl (by rfl) ?_
                  refine r_aload_n dX10_book_211 rfl (by rfl) ?_
                  refine gf_X10_77 rfl dX10_book_212 (by first | assumption | rfl) (by rfl) ?_
                  refine r_aload_n dX10_book_215 rfl (by rfl) ?_
                  refine gf_X10_80 rfl dX10_book_216 (by first | assumption | rfl) (by rfl) ?_
                  refine r_iconst (v := nI 2) dX10_book_219 (by decide) ?_
                  refine r_iload_n dX10_book_220 rfl (by rfl) ?_
                  refine r_imulN dX10_book_221 ?_
                  refine r_callV (c_copies (sc := 158) (dc := 159) (n := 2 * s.1.length) lay_158 lay_159 (by omega) (by omega) (by decide) (by decide) (by decide)) mv_X10_copies ml_X10_165 ⟨by decide, by decide⟩ dX10_book_222 (by first | assumption | rfl) rfl rfl rfl (Nat.le_of_ble_eq_true rfl) (fun v9 x9 h9 => ?_)
                  obtain ⟨rfl, h9⟩ := h9
                  refine PW.xeq h9 ?_
                  clear h9 x9
                  refine r_iload_n dX10_book_225 rfl (by rfl) ?_
                  refine r_iret rfl dX10_book_226 ?_
                  first
                    | (exact absurd (show y6 137 5 = -1 from h200) (by
                         obtain ⟨e, he⟩ := okB_f h155
                         rw [he] at P7
                         exact P7.bad))
                    | (have hb : pBook (aT a) n 9 [] 0 = .ok (s.1, skip (aT a) n s.2.1) := by
                         rw [hq, show 9 - s.1.length = (8 - s.1.length) + 1 by omega]
                         show (if nxV _ _ _ = -1 then _ else _) = _
                         rw [if_pos ((nx_end hP.gg (by omega)).mpr (of_decide_eq_false h57))]
                       have K1 := hK.ch (CH.gd (b := skip (aT a) n s.2.1))
                       refine rchg_ok (b := (a.1, a.2.1, (aT a, 0, -1), s.1, a.2.2.2.2)) (by unfold oBook; rw [if_pos hin, nN_nI (by omega), hb, if_pos (show gdX s.2.2 (skip (aT a) n s.2.1) 137 5 = -1 from P1.2.2.2)]) (book_RR hR K1 P1 hs8 hN) (fun c hc => ?_) ?_
                       · rw [xr_n (by omega), xu_n (by omega), xu_n (by omega)]
                         exact K1.1 c (by omega) (by omega)
                       · rw [xr_n (by decide), xu_k (by decide), xu_k (by decide)]
                         exact K1.2.1 0 (by omega))
                · refine r_iload_n dX10_book_203 rfl (by rfl) ?_
                  refine r_iret rfl dX10_book_204 ?_
                  first
                    | (exact absurd (show xu (gdX s.2.2 (skip (aT a) n s.2.1)) 137 8 _ 137 5 = -1 from P1.2.2.2) h200)
                    | (obtain ⟨e, he⟩ := okB_f h155
                       rw [he] at P7
                       have hb : pBook (aT a) n 9 [] 0 = .error e := by
                         rw [hq, show 9 - s.1.length = (8 - s.1.length) + 1 by omega]
                         refine bk_er rfl hr2 ?_ (of_decide_eq_true h57) hP.gg (by omega) he
                         first
                           | (exact Or.inr (Or.inr ⟨h121, h127, rfl⟩))
                           | (exact Or.inl ⟨by omega, rfl⟩)
                           | (exact Or.inr (Or.inl ⟨h121, rfl⟩))
                       refine rchg_ok (b := setT a (aT a) 0 (nI e.2)) (by unfold oBook; rw [if_pos hin, nN_nI (by omega), hb, if_neg P7.bad, P7.2.2.1]; rfl) (txt_RR hR (fun c h1 h2 => (hK.ch D7).1 c h1 (by omega)) (fun k h1 _ => (hK.ch D7).2.1 k h1) (hK.ch D7).2.2 P7) (fun c hc => (xu_n (by omega)).trans ((hK.ch D7).1 c (by omega) (by omega))) ((xu_k (by decide)).trans ((hK.ch D7).2.1 0 (by omega))))
            · refine r_iload_n dX10_book_124 rfl (by rfl) ?_
              refine r_bipush (v := nI 8) dX10_book_125 (by decide) ?_
              refine r_icmp_neN (tgt := 136) dX10_book_127 (by decide) (by omega) (by omega) (fun h127 => ?_) (fun h127 => ?_)
              · first
                  | (have P5 := P4; have D5 := D3.trans C4)
                  | (have P5 := P3; have D5 := D3)
                refine r_aload_n dX10_book_136 rfl (by rfl) ?_
                refine r_iconst (v := nI 0) dX10_book_137 (by decide) ?_
                refine r_bipush (v := nI 40) dX10_book_138 (by decide) ?_
                refine r_callV (t_num (lo := 0) (n := 41) (hv := nI 40) P5 (by decide) (by decide) (fun v hv => hv_C (by decide) hv)) mv_X10_readNumber ml_X10_181 ⟨by decide, by decide⟩ dX10_book_140 (by first | assumption | rfl) rfl rfl rfl (Nat.le_of_ble_eq_true rfl) (fun v9 y5 h9 => ?_)
                obtain ⟨rfl, P6, C6⟩ := h9
                refine r_istore dX10_book_143 (by decide) ?_
                refine r_aload_n dX10_book_145 rfl (by rfl) ?_
                refine r_bipush (v := nI 59) dX10_book_146 (by decide) ?_
                refine r_callV (t_sign (c := 59) P6 (by decide) (by decide)) mv_X10_sign ml_X10_234 ⟨by decide, by decide⟩ dX10_book_148 (by first | assumption | rfl) rfl rfl rfl (Nat.le_of_ble_eq_true rfl) (fun v9 y6 h9 => ?_)
                obtain ⟨rfl, P7, C7⟩ := h9
                refine r_aload_n dX10_book_151 rfl (by rfl) ?_
                refine r_callV (t_fine P7) mv_X10_fine ml_X10_130 ⟨by decide, by decide⟩ dX10_book_152 (by first | assumption | rfl) rfl rfl rfl (Nat.le_of_ble_eq_true rfl) (fun v9 x9 h9 => ?_)
                obtain ⟨rfl, h9⟩ := h9
                refine PW.xeq h9 ?_
                clear h9 x9
                refine r_if_neB (tgt := 161) dX10_book_155 (by decide) (fun h155 => ?_) (fun h155 => ?_)
                · first
                    | (exact absurd (show false = true from h155) (by decide))
                    | (obtain ⟨e, he⟩ := okB_f h121; rw [he] at h155; exact absurd (show false = true from h155) (by decide))
                    | (have D7 := (CH.gd.trans C2).trans (D5.trans (C6.trans C7))
                       obtain ⟨q, v, a2, e1, e2, e3, e4, hq1, hv1, hpb⟩ := bk_ok (m := 8 - s.1.length) rfl hr2 (by omega) (of_decide_eq_true h57) hP.gg (by omega) h155
                       have P8 : PSt (xu (xu y6 158 (2 * s.1.length) (nI q.1)) 158 (2 * s.1.length + 1) (nI v.1)) (aT a) n (.ok a2) := by
                         have P7 := P7
                         rw [e2, xbn_ok, e3] at P7
                         have P7 : PSt y6 (aT a) n (pTake (aT a) n 59 v.2) := P7
                         rw [e4] at P7
                         exact P7.ch (fun k _ => by rw [xu_n (by decide), xu_n (by decide)]) (by rw [xu_n (by decide), xu_n (by decide)])
                       rw [e1, e2, xbn_ok, e3]
                       refine PW.lc (L' := [(0, .ref 137), (1, .int (nI n)), (2, .int (nI s.1.length)), (3, .int (nI (skip (aT a) n s.2.1))), (4, .int (nI q.1)), (5, .int (nI v.1))]) (by rfl) rfl ?_
                       refine r_aload_n dX10_book_161 rfl (by rfl) ?_
                       refine gf_X10_77 rfl dX10_book_162 (by first | assumption | rfl) (by rfl) ?_
                       refine r_iconst (v := nI 2) dX10_book_165 (by decide) ?_
                       refine r_iload_n dX10_book_166 rfl (by rfl) ?_
                       refine r_imulN dX10_book_167 ?_
                       refine r_iload dX10_book_168 (by rfl) ?_
                       refine r_iastN dX10_book_170 (by first | assumption | rfl) (by omega) (by decide) ?_
                       refine r_aload_n dX10_book_171 rfl (by rfl) ?_
                       refine gf_X10_77 rfl dX10_book_172 (by first | assumption | rfl) (by rfl) ?_
                       refine r_iconst (v := nI 2) dX10_book_175 (by decide) ?_
                       refine r_iload_n dX10_book_176 rfl (by rfl) ?_
                       refine r_imulN dX10_book_177 ?_
                       refine r_iconst (v := nI 1) dX10_book_178 (by decide) ?_
                       refine r_iaddN dX10_book_179 ?_
                       refine r_iload dX10_book_180 (by rfl) ?_
                       refine r_iastN dX10_book_182 (by first | assumption | rfl) (by omega) (by decide) ?_
                       refine r_iincN dX10_book_183 (by rfl) (by decide) ?_
                       refine r_goto (tgt := 46) dX10_book_186 (by decide) ?_
                       exact PW.lc (by (try dsimp only); rw [List.length_append]; rfl) rfl (ih (s.1 ++ [(q.1, v.1)], a2, xu (xu y6 158 (2 * s.1.length) (nI q.1)) 158 (2 * s.1.length + 1) (nI v.1)) ⟨(show (s.1 ++ [(q.1, v.1)]).length ≤ 8 by rw [List.length_append]; show s.1.length + 1 ≤ 8; omega), P8, ((hK.ch D7).put).put, NB.snoc (fun j q hj => by rw [D7.1 158 (by decide)]; exact hN j q hj) hq1 hv1, (by rw [hq, show 9 - s.1.length = (8 - s.1.length) + 1 by omega, hpb]; show _ = pBook _ _ (9 - (s.1 ++ [(q.1, v.1)]).length) _ _; rw [List.length_append, show 9 - (s.1.length + [(q.1, v.1)].length) = 8 - s.1.length from (by show 9 - (s.1.length + 1) = _; omega)])⟩ (show 9 - (s.1 ++ [(q.1, v.1)]).length < 9 - s.1.length by rw [List.length_append]; show 9 - (s.1.length + 1) < _; omega)))
                · refine r_goto (tgt := 189) dX10_book_158 (by decide) ?_
                  first
                    | (have D7 := (CH.gd.trans C2).trans (D5.trans (C6.trans C7)); skip)
                    | skip
                  refine r_aload_n dX10_book_189 rfl (by rfl) ?_
                  refine r_iload_n dX10_book_190 rfl (by rfl) ?_
                  refine r_callV n_result mv_X10_result ml_X10_237 ⟨by decide, by decide⟩ dX10_book_191 (by first | assumption | rfl) rfl rfl rfl (Nat.le_of_ble_eq_true rfl) (fun v9 x9 h9 => ?_)
                  obtain ⟨rfl, h9⟩ := h9
                  refine PW.xeq h9 ?_
                  clear h9 x9
                  refine r_istore_n dX10_book_194 rfl (by decide) ?_
                  refine r_aload_n dX10_book_195 rfl (by rfl) ?_
                  refine gf_X10_101 rfl dX10_book_196 (by first | assumption | rfl) (by rfl) ?_
                  refine r_iconst (v := -1) dX10_book_199 (by decide) ?_
                  refine r_icmp_eq (tgt := 205) dX10_book_200 (by decide) (fun h200 => ?_) (fun h200 => ?_)
                  · refine r_aload_n dX10_book_205 rfl (by rfl) ?_
                    refine r_iload_n dX10_book_206 rfl (by rfl) ?_
                    refine pf_X10_169 rfl dX10_book_207 (by first | assumption | rfl) (by rfl) ?_
                    refine r_aload_n dX10_book_210 rfl (by rfl) ?_
                    refine r_aload_n dX10_book_211 rfl (by rfl) ?_
                    refine gf_X10_77 rfl dX10_book_212 (by first | assumption | rfl) (by rfl) ?_
                    refine r_aload_n dX10_book_215 rfl (by rfl) ?_
                    refine gf_X10_80 rfl dX10_book_216 (by first | assumption | rfl) (by rfl) ?_
                    refine r_iconst (v := nI 2) dX10_book_219 (by decide) ?_
                    refine r_iload_n dX10_book_220 rfl (by rfl) ?_
                    refine r_imulN dX10_book_221 ?_
                    refine r_callV (c_copies (sc := 158) (dc := 159) (n := 2 * s.1.length) lay_158 lay_159 (by omega) (by omega) (by decide) (by decide) (by decide)) mv_X10_copies ml_X10_165 ⟨by decide, by decide⟩ dX10_book_222 (by first | assumption | rfl) rfl rfl rfl (Nat.le_of_ble_eq_true rfl) (fun v9 x9 h9 => ?_)
                    obtain ⟨rfl, h9⟩ := h9
                    refine PW.xeq h9 ?_
                    clear h9 x9
                    refine r_iload_n dX10_book_225 rfl (by rfl) ?_
                    refine r_iret rfl dX10_book_226 ?_
                    first
                      | (exact absurd (show y6 137 5 = -1 from h200) (by
                           obtain ⟨e, he⟩ := okB_f h155
                           rw [he] at P7
                           exact P7.bad))
                      | (have hb : pBook (aT a) n 9 [] 0 = .ok (s.1, skip (aT a) n s.2.1) := by
                           rw [hq, show 9 - s.1.length = (8 - s.1.length) + 1 by omega]
                           show (if nxV _ _ _ = -1 then _ else _) = _
                           rw [if_pos ((nx_end hP.gg (by omega)).mpr (of_decide_eq_false h57))]
                         have K1 := hK.ch (CH.gd (b := skip (aT a) n s.2.1))
                         refine rchg_ok (b := (a.1, a.2.1, (aT a, 0, -1), s.1, a.2.2.2.2)) (by unfold oBook; rw [if_pos hin, nN_nI (by omega), hb, if_pos (show gdX s.2.2 (skip (aT a) n s.2.1) 137 5 = -1 from P1.2.2.2)]) (book_RR hR K1 P1 hs8 hN) (fun c hc => ?_) ?_
                         · rw [xr_n (by omega), xu_n (by omega), xu_n (by omega)]
                           exact K1.1 c (by omega) (by omega)
                         · rw [xr_n (by decide), xu_k (by decide), xu_k (by decide)]
                           exact K1.2.1 0 (by omega))
                  · refine r_iload_n dX10_book_203 rfl (by rfl) ?_
                    refine r_iret rfl dX10_book_204 ?_
                    first
                      | (exact absurd (show xu (gdX s.2.2 (skip (aT a) n s.2.1)) 137 8 _ 137 5 = -1 from P1.2.2.2) h200)
                      | (obtain ⟨e, he⟩ := okB_f h155
                         rw [he] at P7
                         have hb : pBook (aT a) n 9 [] 0 = .error e := by
                           rw [hq, show 9 - s.1.length = (8 - s.1.length) + 1 by omega]
                           refine bk_er rfl hr2 ?_ (of_decide_eq_true h57) hP.gg (by omega) he
                           first
                             | (exact Or.inr (Or.inr ⟨h121, h127, rfl⟩))
                             | (exact Or.inl ⟨by omega, rfl⟩)
                             | (exact Or.inr (Or.inl ⟨h121, rfl⟩))
                         refine rchg_ok (b := setT a (aT a) 0 (nI e.2)) (by unfold oBook; rw [if_pos hin, nN_nI (by omega), hb, if_neg P7.bad, P7.2.2.1]; rfl) (txt_RR hR (fun c h1 h2 => (hK.ch D7).1 c h1 (by omega)) (fun k h1 _ => (hK.ch D7).2.1 k h1) (hK.ch D7).2.2 P7) (fun c hc => (xu_n (by omega)).trans ((hK.ch D7).1 c (by omega) (by omega))) ((xu_k (by decide)).trans ((hK.ch D7).2.1 0 (by omega))))
              · refine r_aload_n dX10_book_130 rfl (by rfl) ?_
                refine r_iconst (v := nI 3) dX10_book_131 (by decide) ?_
                refine r_iload_n dX10_book_132 rfl (by rfl) ?_
                refine r_callV (t_wrong P3 h121 (by omega)) mv_X10_wrong ml_X10_137 ⟨by decide, by decide⟩ dX10_book_133 (by first | assumption | rfl) rfl rfl rfl (Nat.le_of_ble_eq_true rfl) (fun v9 z4 h9 => ?_)
                obtain ⟨rfl, P4, C4⟩ := h9
                first
                  | (have P5 := P4; have D5 := D3.trans C4)
                  | (have P5 := P3; have D5 := D3)
                refine r_aload_n dX10_book_136 rfl (by rfl) ?_
                refine r_iconst (v := nI 0) dX10_book_137 (by decide) ?_
                refine r_bipush (v := nI 40) dX10_book_138 (by decide) ?_
                refine r_callV (t_num (lo := 0) (n := 41) (hv := nI 40) P5 (by decide) (by decide) (fun v hv => hv_C (by decide) hv)) mv_X10_readNumber ml_X10_181 ⟨by decide, by decide⟩ dX10_book_140 (by first | assumption | rfl) rfl rfl rfl (Nat.le_of_ble_eq_true rfl) (fun v9 y5 h9 => ?_)
                obtain ⟨rfl, P6, C6⟩ := h9
                refine r_istore dX10_book_143 (by decide) ?_
                refine r_aload_n dX10_book_145 rfl (by rfl) ?_
                refine r_bipush (v := nI 59) dX10_book_146 (by decide) ?_
                refine r_callV (t_sign (c := 59) P6 (by decide) (by decide)) mv_X10_sign ml_X10_234 ⟨by decide, by decide⟩ dX10_book_148 (by first | assumption | rfl) rfl rfl rfl (Nat.le_of_ble_eq_true rfl) (fun v9 y6 h9 => ?_)
                obtain ⟨rfl, P7, C7⟩ := h9
                refine r_aload_n dX10_book_151 rfl (by rfl) ?_
                refine r_callV (t_fine P7) mv_X10_fine ml_X10_130 ⟨by decide, by decide⟩ dX10_book_152 (by first | assumption | rfl) rfl rfl rfl (Nat.le_of_ble_eq_true rfl) (fun v9 x9 h9 => ?_)
                obtain ⟨rfl, h9⟩ := h9
                refine PW.xeq h9 ?_
                clear h9 x9
                refine r_if_neB (tgt := 161) dX10_book_155 (by decide) (fun h155 => ?_) (fun h155 => ?_)
                · first
                    | (exact absurd (show false = true from h155) (by decide))
                    | (obtain ⟨e, he⟩ := okB_f h121; rw [he] at h155; exact absurd (show false = true from h155) (by decide))
                    | (have D7 := (CH.gd.trans C2).trans (D5.trans (C6.trans C7))
                       obtain ⟨q, v, a2, e1, e2, e3, e4, hq1, hv1, hpb⟩ := bk_ok (m := 8 - s.1.length) rfl hr2 (by omega) (of_decide_eq_true h57) hP.gg (by omega) h155
                       have P8 : PSt (xu (xu y6 158 (2 * s.1.length) (nI q.1)) 158 (2 * s.1.length + 1) (nI v.1)) (aT a) n (.ok a2) := by
                         have P7 := P7
                         rw [e2, xbn_ok, e3] at P7
                         have P7 : PSt y6 (aT a) n (pTake (aT a) n 59 v.2) := P7
                         rw [e4] at P7
                         exact P7.ch (fun k _ => by rw [xu_n (by decide), xu_n (by decide)]) (by rw [xu_n (by decide), xu_n (by decide)])
                       rw [e1, e2, xbn_ok, e3]
                       refine PW.lc (L' := [(0, .ref 137), (1, .int (nI n)), (2, .int (nI s.1.length)), (3, .int (nI (skip (aT a) n s.2.1))), (4, .int (nI q.1)), (5, .int (nI v.1))]) (by rfl) rfl ?_
                       refine r_aload_n dX10_book_161 rfl (by rfl) ?_
                       refine gf_X10_77 rfl dX10_book_162 (by first | assumption | rfl) (by rfl) ?_
                       refine r_iconst (v := nI 2) dX10_book_165 (by decide) ?_
                       refine r_iload_n dX10_book_166 rfl (by rfl) ?_
                       refine r_imulN dX10_book_167 ?_
                       refine r_iload dX10_book_168 (by rfl) ?_
                       refine r_iastN dX10_book_170 (by first | assumption | rfl) (by omega) (by decide) ?_
                       refine r_aload_n dX10_book_171 rfl (by rfl) ?_
                       refine gf_X10_77 rfl dX10_book_172 (by first | assumption | rfl) (by rfl) ?_
                       refine r_iconst (v := nI 2) dX10_book_175 (by decide) ?_
                       refine r_iload_n dX10_book_176 rfl (by rfl) ?_
                       refine r_imulN dX10_book_177 ?_
                       refine r_iconst (v := nI 1) dX10_book_178 (by decide) ?_
                       refine r_iaddN dX10_book_179 ?_
                       refine r_iload dX10_book_180 (by rfl) ?_
                       refine r_iastN dX10_book_182 (by first | assumption | rfl) (by omega) (by decide) ?_
                       refine r_iincN dX10_book_183 (by rfl) (by decide) ?_
                       refine r_goto (tgt := 46) dX10_book_186 (by decide) ?_
                       exact PW.lc (by (try dsimp only); rw [List.length_append]; rfl) rfl (ih (s.1 ++ [(q.1, v.1)], a2, xu (xu y6 158 (2 * s.1.length) (nI q.1)) 158 (2 * s.1.length + 1) (nI v.1)) ⟨(show (s.1 ++ [(q.1, v.1)]).length ≤ 8 by rw [List.length_append]; show s.1.length + 1 ≤ 8; omega), P8, ((hK.ch D7).put).put, NB.snoc (fun j q hj => by rw [D7.1 158 (by decide)]; exact hN j q hj) hq1 hv1, (by rw [hq, show 9 - s.1.length = (8 - s.1.length) + 1 by omega, hpb]; show _ = pBook _ _ (9 - (s.1 ++ [(q.1, v.1)]).length) _ _; rw [List.length_append, show 9 - (s.1.length + [(q.1, v.1)].length) = 8 - s.1.length from (by show 9 - (s.1.length + 1) = _; omega)])⟩ (show 9 - (s.1 ++ [(q.1, v.1)]).length < 9 - s.1.length by rw [List.length_append]; show 9 - (s.1.length + 1) < _; omega)))
                · refine r_goto (tgt := 189) dX10_book_158 (by decide) ?_
                  first
                    | (have D7 := (CH.gd.trans C2).trans (D5.trans (C6.trans C7)); skip)
                    | skip
                  refine r_aload_n dX10_book_189 rfl (by rfl) ?_
                  refine r_iload_n dX10_book_190 rfl (by rfl) ?_
                  refine r_callV n_result mv_X10_result ml_X10_237 ⟨by decide, by decide⟩ dX10_book_191 (by first | assumption | rfl) rfl rfl rfl (Nat.le_of_ble_eq_true rfl) (fun v9 x9 h9 => ?_)
                  obtain ⟨rfl, h9⟩ := h9
                  refine PW.xeq h9 ?_
                  clear h9 x9
                  refine r_istore_n dX10_book_194 rfl (by decide) ?_
                  refine r_aload_n dX10_book_195 rfl (by rfl) ?_
                  refine gf_X10_101 rfl dX10_book_196 (by first | assumption | rfl) (by rfl) ?_
                  refine r_iconst (v := -1) dX10_book_199 (by decide) ?_
                  refine r_icmp_eq (tgt := 205) dX10_book_200 (by decide) (fun h200 => ?_) (fun h200 => ?_)
                  · refine r_aload_n dX10_book_205 rfl (by rfl) ?_
                    refine r_iload_n dX10_book_206 rfl (by rfl) ?_
                    refine pf_X10_169 rfl dX10_book_207 (by first | assumption | rfl) (by rfl) ?_
                    refine r_aload_n dX10_book_210 rfl (by rfl) ?_
                    refine r_aload_n dX10_book_211 rfl (by rfl) ?_
                    refine gf_X10_77 rfl dX10_book_212 (by first | assumption | rfl) (by rfl) ?_
                    refine r_aload_n dX10_book_215 rfl (by rfl) ?_
                    refine gf_X10_80 rfl dX10_book_216 (by first | assumption | rfl) (by rfl) ?_
                    refine r_iconst (v := nI 2) dX10_book_219 (by decide) ?_
                    refine r_iload_n dX10_book_220 rfl (by rfl) ?_
                    refine r_imulN dX10_book_221 ?_
                    refine r_callV (c_copies (sc := 158) (dc := 159) (n := 2 * s.1.length) lay_158 lay_159 (by omega) (by omega) (by decide) (by decide) (by decide)) mv_X10_copies ml_X10_165 ⟨by decide, by decide⟩ dX10_book_222 (by first | assumption | rfl) rfl rfl rfl (Nat.le_of_ble_eq_true rfl) (fun v9 x9 h9 => ?_)
                    obtain ⟨rfl, h9⟩ := h9
                    refine PW.xeq h9 ?_
                    clear h9 x9
                    refine r_iload_n dX10_book_225 rfl (by rfl) ?_
                    refine r_iret rfl dX10_book_226 ?_
                    first
                      | (exact absurd (show y6 137 5 = -1 from h200) (by
                           obtain ⟨e, he⟩ := okB_f h155
                           rw [he] at P7
                           exact P7.bad))
                      | (have hb : pBook (aT a) n 9 [] 0 = .ok (s.1, skip (aT a) n s.2.1) := by
                           rw [hq, show 9 - s.1.length = (8 - s.1.length) + 1 by omega]
                           show (if nxV _ _ _ = -1 then _ else _) = _
                           rw [if_pos ((nx_end hP.gg (by omega)).mpr (of_decide_eq_false h57))]
                         have K1 := hK.ch (CH.gd (b := skip (aT a) n s.2.1))
                         refine rchg_ok (b := (a.1, a.2.1, (aT a, 0, -1), s.1, a.2.2.2.2)) (by unfold oBook; rw [if_pos hin, nN_nI (by omega), hb, if_pos (show gdX s.2.2 (skip (aT a) n s.2.1) 137 5 = -1 from P1.2.2.2)]) (book_RR hR K1 P1 hs8 hN) (fun c hc => ?_) ?_
                         · rw [xr_n (by omega), xu_n (by omega), xu_n (by omega)]
                           exact K1.1 c (by omega) (by omega)
                         · rw [xr_n (by decide), xu_k (by decide), xu_k (by decide)]
                           exact K1.2.1 0 (by omega))
                  · refine r_iload_n dX10_book_203 rfl (by rfl) ?_
                    refine r_iret rfl dX10_book_204 ?_
                    first
                      | (exact absurd (show xu (gdX s.2.2 (skip (aT a) n s.2.1)) 137 8 _ 137 5 = -1 from P1.2.2.2) h200)
                      | (obtain ⟨e, he⟩ := okB_f h155
                         rw [he] at P7
                         have hb : pBook (aT a) n 9 [] 0 = .error e := by
                           rw [hq, show 9 - s.1.length = (8 - s.1.length) + 1 by omega]
                           refine bk_er rfl hr2 ?_ (of_decide_eq_true h57) hP.gg (by omega) he
                           first
                             | (exact Or.inr (Or.inr ⟨h121, h127, rfl⟩))
                             | (exact Or.inl ⟨by omega, rfl⟩)
                             | (exact Or.inr (Or.inl ⟨h121, rfl⟩))
                         refine rchg_ok (b := setT a (aT a) 0 (nI e.2)) (by unfold oBook; rw [if_pos hin, nN_nI (by omega), hb, if_neg P7.bad, P7.2.2.1]; rfl) (txt_RR hR (fun c h1 h2 => (hK.ch D7).1 c h1 (by omega)) (fun k h1 _ => (hK.ch D7).2.1 k h1) (hK.ch D7).2.2 P7) (fun c hc => (xu_n (by omega)).trans ((hK.ch D7).1 c (by omega) (by omega))) ((xu_k (by decide)).trans ((hK.ch D7).2.1 0 (by omega))))
          · refine r_aload_n dX10_book_84 rfl (by rfl) ?_
            refine r_callV (t_fine P3) mv_X10_fine ml_X10_130 ⟨by decide, by decide⟩ dX10_book_85 (by first | assumption | rfl) rfl rfl rfl (Nat.le_of_ble_eq_true rfl) (fun v9 x9 h9 => ?_)
            obtain ⟨rfl, h9⟩ := h9
            refine PW.xeq h9 ?_
            clear h9 x9
            refine r_if_eqB (tgt := 117) dX10_book_88 (by decide) (fun h88 => ?_) (fun h88 => ?_)
            · have hr2 : w.2.1 = hasR (pNum (aT a) n 0 240 s.2.1) s.1 s.1.length (skip (aT a) n s.2.1) := by
                rw [hr]
                first
                  | (rw [show w.1 = s.1.length by omega]; done)
                  | (exact (hasR_e hw1 (by rw [← hr]; exact h88)).symm)
              refine r_aload_n dX10_book_117 rfl (by rfl) ?_
              refine r_callV (t_fine P3) mv_X10_fine ml_X10_130 ⟨by decide, by decide⟩ dX10_book_118 (by first | assumption | rfl) rfl rfl rfl (Nat.le_of_ble_eq_true rfl) (fun v9 x9 h9 => ?_)
              obtain ⟨rfl, h9⟩ := h9
              refine PW.xeq h9 ?_
              clear h9 x9
              refine r_if_eqB (tgt := 136) dX10_book_121 (by decide) (fun h121 => ?_) (fun h121 => ?_)
              · first
                  | (have P5 := P4; have D5 := D3.trans C4)
                  | (have P5 := P3; have D5 := D3)
                refine r_aload_n dX10_book_136 rfl (by rfl) ?_
                refine r_iconst (v := nI 0) dX10_book_137 (by decide) ?_
                refine r_bipush (v := nI 40) dX10_book_138 (by decide) ?_
                refine r_callV (t_num (lo := 0) (n := 41) (hv := nI 40) P5 (by decide) (by decide) (fun v hv => hv_C (by decide) hv)) mv_X10_readNumber ml_X10_181 ⟨by decide, by decide⟩ dX10_book_140 (by first | assumption | rfl) rfl rfl rfl (Nat.le_of_ble_eq_true rfl) (fun v9 y5 h9 => ?_)
                obtain ⟨rfl, P6, C6⟩ := h9
                refine r_istore dX10_book_143 (by decide) ?_
                refine r_aload_n dX10_book_145 rfl (by rfl) ?_
                refine r_bipush (v := nI 59) dX10_book_146 (by decide) ?_
                refine r_callV (t_sign (c := 59) P6 (by decide) (by decide)) mv_X10_sign ml_X10_234 ⟨by decide, by decide⟩ dX10_book_148 (by first | assumption | rfl) rfl rfl rfl (Nat.le_of_ble_eq_true rfl) (fun v9 y6 h9 => ?_)
                obtain ⟨rfl, P7, C7⟩ := h9
                refine r_aload_n dX10_book_151 rfl (by rfl) ?_
                refine r_callV (t_fine P7) mv_X10_fine ml_X10_130 ⟨by decide, by decide⟩ dX10_book_152 (by first | assumption | rfl) rfl rfl rfl (Nat.le_of_ble_eq_true rfl) (fun v9 x9 h9 => ?_)
                obtain ⟨rfl, h9⟩ := h9
                refine PW.xeq h9 ?_
                clear h9 x9
                refine r_if_neB (tgt := 161) dX10_book_155 (by decide) (fun h155 => ?_) (fun h155 => ?_)
                · first
                    | (exact absurd (show false = true from h155) (by decide))
                    | (obtain ⟨e, he⟩ := okB_f h121; rw [he] at h155; exact absurd (show false = true from h155) (by decide))
                    | (have D7 := (CH.gd.trans C2).trans (D5.trans (C6.trans C7))
                       obtain ⟨q, v, a2, e1, e2, e3, e4, hq1, hv1, hpb⟩ := bk_ok (m := 8 - s.1.length) rfl hr2 (by omega) (of_decide_eq_true h57) hP.gg (by omega) h155
                       have P8 : PSt (xu (xu y6 158 (2 * s.1.length) (nI q.1)) 158 (2 * s.1.length + 1) (nI v.1)) (aT a) n (.ok a2) := by
                         have P7 := P7
                         rw [e2, xbn_ok, e3] at P7
                         have P7 : PSt y6 (aT a) n (pTake (aT a) n 59 v.2) := P7
                         rw [e4] at P7
                         exact P7.ch (fun k _ => by rw [xu_n (by decide), xu_n (by decide)]) (by rw [xu_n (by decide), xu_n (by decide)])
                       rw [e1, e2, xbn_ok, e3]
                       refine PW.lc (L' := [(0, .ref 137), (1, .int (nI n)), (2, .int (nI s.1.length)), (3, .int (nI (skip (aT a) n s.2.1))), (4, .int (nI q.1)), (5, .int (nI v.1))]) (by rfl) rfl ?_
                       refine r_aload_n dX10_book_161 rfl (by rfl) ?_
                       refine gf_X10_77 rfl dX10_book_162 (by first | assumption | rfl) (by rfl) ?_
                       refine r_iconst (v := nI 2) dX10_book_165 (by decide) ?_
                       refine r_iload_n dX10_book_166 rfl (by rfl) ?_
                       refine r_imulN dX10_book_167 ?_
                       refine r_iload dX10_book_168 (by rfl) ?_
                       refine r_iastN dX10_book_170 (by first | assumption | rfl) (by omega) (by decide) ?_
                       refine r_aload_n dX10_book_171 rfl (by rfl) ?_
                       refine gf_X10_77 rfl dX10_book_172 (by first | assumption | rfl) (by rfl) ?_
                       refine r_iconst (v := nI 2) dX10_book_175 (by decide) ?_
                       refine r_iload_n dX10_book_176 rfl (by rfl) ?_
                       refine r_imulN dX10_book_177 ?_
                       refine r_iconst (v := nI 1) dX10_book_178 (by decide) ?_
                       refine r_iaddN dX10_book_179 ?_
                       refine r_iload dX10_book_180 (by rfl) ?_
                       refine r_iastN dX10_book_182 (by first | assumption | rfl) (by omega) (by decide) ?_
                       refine r_iincN dX10_book_183 (by rfl) (by decide) ?_
                       refine r_goto (tgt := 46) dX10_book_186 (by decide) ?_
                       exact PW.lc (by (try dsimp only); rw [List.length_append]; rfl) rfl (ih (s.1 ++ [(q.1, v.1)], a2, xu (xu y6 158 (2 * s.1.length) (nI q.1)) 158 (2 * s.1.length + 1) (nI v.1)) ⟨(show (s.1 ++ [(q.1, v.1)]).length ≤ 8 by rw [List.length_append]; show s.1.length + 1 ≤ 8; omega), P8, ((hK.ch D7).put).put, NB.snoc (fun j q hj => by rw [D7.1 158 (by decide)]; exact hN j q hj) hq1 hv1, (by rw [hq, show 9 - s.1.length = (8 - s.1.length) + 1 by omega, hpb]; show _ = pBook _ _ (9 - (s.1 ++ [(q.1, v.1)]).length) _ _; rw [List.length_append, show 9 - (s.1.length + [(q.1, v.1)].length) = 8 - s.1.length from (by show 9 - (s.1.length + 1) = _; omega)])⟩ (show 9 - (s.1 ++ [(q.1, v.1)]).length < 9 - s.1.length by rw [List.length_append]; show 9 - (s.1.length + 1) < _; omega)))
                · refine r_goto (tgt := 189) dX10_book_158 (by decide) ?_
                  first
                    | (have D7 := (CH.gd.trans C2).trans (D5.trans (C6.trans C7)); skip)
                    | skip
                  refine r_aload_n dX10_book_189 rfl (by rfl) ?_
                  refine r_iload_n dX10_book_190 rfl (by rfl) ?_
                  refine r_callV n_result mv_X10_result ml_X10_237 ⟨by decide, by decide⟩ dX10_book_191 (by first | assumption | rfl) rfl rfl rfl (Nat.le_of_ble_eq_true rfl) (fun v9 x9 h9 => ?_)
                  obtain ⟨rfl, h9⟩ := h9
                  refine PW.xeq h9 ?_
                  clear h9 x9
                  refine r_istore_n dX10_book_194 rfl (by decide) ?_
                  refine r_aload_n dX10_book_195 rfl (by rfl) ?_
                  refine gf_X10_101 rfl dX10_book_196 (by first | assumption | rfl) (by rfl) ?_
                  refine r_iconst (v := -1) dX10_book_199 (by decide) ?_
                  refine r_icmp_eq (tgt := 205) dX10_book_200 (by decide) (fun h200 => ?_) (fun h200 => ?_)
                  · refine r_aload_n dX10_book_205 rfl (by rfl) ?_
                    refine r_iload_n dX10_book_206 rfl (by rfl) ?_
                    refine pf_X10_169 rfl dX10_book_207 (by first | assumption | rfl) (by rfl) ?_
                    refine r_aload_n dX10_book_210 rfl (by rfl) ?_
                    refine r_aload_n dX10_book_211 rfl (by rfl) ?_
                    refine gf_X10_77 rfl dX10_book_212 (by first | assumption | rfl) (by rfl) ?_
                    refine r_aload_n dX10_book_215 rfl (by rfl) ?_
                    refine gf_X10_80 rfl dX10_book_216 (by first | assumption | rfl) (by rfl) ?_
                    refine r_iconst (v := nI 2) dX10_book_219 (by decide) ?_
                    refine r_iload_n dX10_book_220 rfl (by rfl) ?_
                    refine r_imulN dX10_book_221 ?_
                    refine r_callV (c_copies (sc := 158) (dc := 159) (n := 2 * s.1.length) lay_158 lay_159 (by omega) (by omega) (by decide) (by decide) (by decide)) mv_X10_copies ml_X10_165 ⟨by decide, by decide⟩ dX10_book_222 (by first | assumption | rfl) rfl rfl rfl (Nat.le_of_ble_eq_true rfl) (fun v9 x9 h9 => ?_)
                    obtain ⟨rfl, h9⟩ := h9
                    refine PW.xeq h9 ?_
                    clear h9 x9
                    refine r_iload_n dX10_book_225 rfl (by rfl) ?_
                    refine r_iret rfl dX10_book_226 ?_
                    first
                      | (exact absurd (show y6 137 5 = -1 from h200) (by
                           obtain ⟨e, he⟩ := okB_f h155
                           rw [he] at P7
                           exact P7.bad))
                      | (have hb : pBook (aT a) n 9 [] 0 = .ok (s.1, skip (aT a) n s.2.1) := by
                           rw [hq, show 9 - s.1.length = (8 - s.1.length) + 1 by omega]
                           show (if nxV _ _ _ = -1 then _ else _) = _
                           rw [if_pos ((nx_end hP.gg (by omega)).mpr (of_decide_eq_false h57))]
                         have K1 := hK.ch (CH.gd (b := skip (aT a) n s.2.1))
                         refine rchg_ok (b := (a.1, a.2.1, (aT a, 0, -1), s.1, a.2.2.2.2)) (by unfold oBook; rw [if_pos hin, nN_nI (by omega), hb, if_pos (show gdX s.2.2 (skip (aT a) n s.2.1) 137 5 = -1 from P1.2.2.2)]) (book_RR hR K1 P1 hs8 hN) (fun c hc => ?_) ?_
                         · rw [xr_n (by omega), xu_n (by omega), xu_n (by omega)]
                           exact K1.1 c (by omega) (by omega)
                         · rw [xr_n (by decide), xu_k (by decide), xu_k (by decide)]
                           exact K1.2.1 0 (by omega))
                  · refine r_iload_n dX10_book_203 rfl (by rfl) ?_
                    refine r_iret rfl dX10_book_204 ?_
                    first
                      | (exact absurd (show xu (gdX s.2.2 (skip (aT a) n s.2.1)) 137 8 _ 137 5 = -1 from P1.2.2.2) h200)
                      | (obtain ⟨e, he⟩ := okB_f h155
                         rw [he] at P7
                         have hb : pBook (aT a) n 9 [] 0 = .error e := by
                           rw [hq, show 9 - s.1.length = (8 - s.1.length) + 1 by omega]
                           refine bk_er rfl hr2 ?_ (of_decide_eq_true h57) hP.gg (by omega) he
                           first
                             | (exact Or.inr (Or.inr ⟨h121, h127, rfl⟩))
                             | (exact Or.inl ⟨by omega, rfl⟩)
                             | (exact Or.inr (Or.inl ⟨h121, rfl⟩))
                         refine rchg_ok (b := setT a (aT a) 0 (nI e.2)) (by unfold oBook; rw [if_pos hin, nN_nI (by omega), hb, if_neg P7.bad, P7.2.2.1]; rfl) (txt_RR hR (fun c h1 h2 => (hK.ch D7).1 c h1 (by omega)) (fun k h1 _ => (hK.ch D7).2.1 k h1) (hK.ch D7).2.2 P7) (fun c hc => (xu_n (by omega)).trans ((hK.ch D7).1 c (by omega) (by omega))) ((xu_k (by decide)).trans ((hK.ch D7).2.1 0 (by omega))))
              · refine r_iload_n dX10_book_124 rfl (by rfl) ?_
                refine r_bipush (v := nI 8) dX10_book_125 (by decide) ?_
                refine r_icmp_neN (tgt := 136) dX10_book_127 (by decide) (by omega) (by omega) (fun h127 => ?_) (fun h127 => ?_)
                · first
                    | (have P5 := P4; have D5 := D3.trans C4)
                    | (have P5 := P3; have D5 := D3)
                  refine r_aload_n dX10_book_136 rfl (by rfl) ?_
                  refine r_iconst (v := nI 0) dX10_book_137 (by decide) ?_
                  refine r_bipush (v := nI 40) dX10_book_138 (by decide) ?_
                  refine r_callV (t_num (lo := 0) (n := 41) (hv := nI 40) P5 (by decide) (by decide) (fun v hv => hv_C (by decide) hv)) mv_X10_readNumber ml_X10_181 ⟨by decide, by decide⟩ dX10_book_140 (by first | assumption | rfl) rfl rfl rfl (Nat.le_of_ble_eq_true rfl) (fun v9 y5 h9 => ?_)
                  obtain ⟨rfl, P6, C6⟩ := h9
                  refine r_istore dX10_book_143 (by decide) ?_
                  refine r_aload_n dX10_book_145 rfl (by rfl) ?_
                  refine r_bipush (v := nI 59) dX10_book_146 (by decide) ?_
                  refine r_callV (t_sign (c := 59) P6 (by decide) (by decide)) mv_X10_sign ml_X10_234 ⟨by decide, by decide⟩ dX10_book_148 (by first | assumption | rfl) rfl rfl rfl (Nat.le_of_ble_eq_true rfl) (fun v9 y6 h9 => ?_)
                  obtain ⟨rfl, P7, C7⟩ := h9
                  refine r_aload_n dX10_book_151 rfl (by rfl) ?_
                  refine r_callV (t_fine P7) mv_X10_fine ml_X10_130 ⟨by decide, by decide⟩ dX10_book_152 (by first | assumption | rfl) rfl rfl rfl (Nat.le_of_ble_eq_true rfl) (fun v9 x9 h9 => ?_)
                  obtain ⟨rfl, h9⟩ := h9
                  refine PW.xeq h9 ?_
                  clear h9 x9
                  refine r_if_neB (tgt := 161) dX10_book_155 (by decide) (fun h155 => ?_) (fun h155 => ?_)
                  · first
                      | (exact absurd (show false = true from h155) (by decide))
                      | (obtain ⟨e, he⟩ := okB_f h121; rw [he] at h155; exact absurd (show false = true from h155) (by decide))
                      | (have D7 := (CH.gd.trans C2).trans (D5.trans (C6.trans C7))
                         obtain ⟨q, v, a2, e1, e2, e3, e4, hq1, hv1, hpb⟩ := bk_ok (m := 8 - s.1.length) rfl hr2 (by omega) (of_decide_eq_true h57) hP.gg (by omega) h155
                         have P8 : PSt (xu (xu y6 158 (2 * s.1.length) (nI q.1)) 158 (2 * s.1.length + 1) (nI v.1)) (aT a) n (.ok a2) := by
                           have P7 := P7
                           rw [e2, xbn_ok, e3] at P7
                           have P7 : PSt y6 (aT a) n (pTake (aT a) n 59 v.2) := P7
                           rw [e4] at P7
                           exact P7.ch (fun k _ => by rw [xu_n (by decide), xu_n (by decide)]) (by rw [xu_n (by decide), xu_n (by decide)])
                         rw [e1, e2, xbn_ok, e3]
                         refine PW.lc (L' := [(0, .ref 137), (1, .int (nI n)), (2, .int (nI s.1.length)), (3, .int (nI (skip (aT a) n s.2.1))), (4, .int (nI q.1)), (5, .int (nI v.1))]) (by rfl) rfl ?_
                         refine r_aload_n dX10_book_161 rfl (by rfl) ?_
                         refine gf_X10_77 rfl dX10_book_162 (by first | assumption | rfl) (by rfl) ?_
                         refine r_iconst (v := nI 2) dX10_book_165 (by decide) ?_
                         refine r_iload_n dX10_book_166 rfl (by rfl) ?_
                         refine r_imulN dX10_book_167 ?_
                         refine r_iload dX10_book_168 (by rfl) ?_
                         refine r_iastN dX10_book_170 (by first | assumption | rfl) (by omega) (by decide) ?_
                         refine r_aload_n dX10_book_171 rfl (by rfl) ?_
                         refine gf_X10_77 rfl dX10_book_172 (by first | assumption | rfl) (by rfl) ?_
                         refine r_iconst (v := nI 2) dX10_book_175 (by decide) ?_
                         refine r_iload_n dX10_book_176 rfl (by rfl) ?_
                         refine r_imulN dX10_book_177 ?_
                         refine r_iconst (v := nI 1) dX10_book_178 (by decide) ?_
                         refine r_iaddN dX10_book_179 ?_
                         refine r_iload dX10_book_180 (by rfl) ?_
                         refine r_iastN dX10_book_182 (by first | assumption | rfl) (by omega) (by decide) ?_
                         refine r_iincN dX10_book_183 (by rfl) (by decide) ?_
                         refine r_goto (tgt := 46) dX10_book_186 (by decide) ?_
                         exact PW.lc (by (try dsimp only); rw [List.length_append]; rfl) rfl (ih (s.1 ++ [(q.1, v.1)], a2, xu (xu y6 158 (2 * s.1.length) (nI q.1)) 158 (2 * s.1.length + 1) (nI v.1)) ⟨(show (s.1 ++ [(q.1, v.1)]).length ≤ 8 by rw [List.length_append]; show s.1.length + 1 ≤ 8; omega), P8, ((hK.ch D7).put).put, NB.snoc (fun j q hj => by rw [D7.1 158 (by decide)]; exact hN j q hj) hq1 hv1, (by rw [hq, show 9 - s.1.length = (8 - s.1.length) + 1 by omega, hpb]; show _ = pBook _ _ (9 - (s.1 ++ [(q.1, v.1)]).length) _ _; rw [List.length_append, show 9 - (s.1.length + [(q.1, v.1)].length) = 8 - s.1.length from (by show 9 - (s.1.length + 1) = _; omega)])⟩ (show 9 - (s.1 ++ [(q.1, v.1)]).length < 9 - s.1.length by rw [List.length_append]; show 9 - (s.1.length + 1) < _; omega)))
                  · refine r_goto (tgt := 189) dX10_book_158 (by decide) ?_
                    first
                      | (have D7 := (CH.gd.trans C2).trans (D5.trans (C6.trans C7)); skip)
                      | skip
                    refine r_aload_n dX10_book_189 rfl (by rfl) ?_
                    refine r_iload_n dX10_book_190 rfl (by rfl) ?_
                    refine r_callV n_result mv_X10_result ml_X10_237 ⟨by decide, by decide⟩ dX10_book_191 (by first | assumption | rfl) rfl rfl rfl (Nat.le_of_ble_eq_true rfl) (fun v9 x9 h9 => ?_)
                    obtain ⟨rfl, h9⟩ := h9
                    refine PW.xeq h9 ?_
                    clear h9 x9
                    refine r_istore_n dX10_book_194 rfl (by decide) ?_
                    refine r_aload_n dX10_book_195 rfl (by rfl) ?_
                    refine gf_X10_101 rfl dX10_book_196 (by first | assumption | rfl) (by rfl) ?_
                    refine r_iconst (v := -1) dX10_book_199 (by decide) ?_
                    refine r_icmp_eq (tgt := 205) dX10_book_200 (by decide) (fun h200 => ?_) (fun h200 => ?_)
                    · refine r_aload_n dX10_book_205 rfl (by rfl) ?_
                      refine r_iload_n dX10_book_206 rfl (by rfl) ?_
                      refine pf_X10_169 rfl dX10_book_207 (by first | assumption | rfl) (by rfl) ?_
                      refine r_aload_n dX10_book_210 rfl (by rfl) ?_
                      refine r_aload_n dX10_book_211 rfl (by rfl) ?_
                      refine gf_X10_77 rfl dX10_book_212 (by first | assumption | rfl) (by rfl) ?_
                      refine r_aload_n dX10_book_215 rfl (by rfl) ?_
                      refine gf_X10_80 rfl dX10_book_216 (by first | assumption | rfl) (by rfl) ?_
                      refine r_iconst (v := nI 2) dX10_book_219 (by decide) ?_
                      refine r_iload_n dX10_book_220 rfl (by rfl) ?_
                      refine r_imulN dX10_book_221 ?_
                      refine r_callV (c_copies (sc := 158) (dc := 159) (n := 2 * s.1.length) lay_158 lay_159 (by omega) (by omega) (by decide) (by decide) (by decide)) mv_X10_copies ml_X10_165 ⟨by decide, by decide⟩ dX10_book_222 (by first | assumption | rfl) rfl rfl rfl (Nat.le_of_ble_eq_true rfl) (fun v9 x9 h9 => ?_)
                      obtain ⟨rfl, h9⟩ := h9
                      refine PW.xeq h9 ?_
                      clear h9 x9
                      refine r_iload_n dX10_book_225 rfl (by rfl) ?_
                      refine r_iret rfl dX10_book_226 ?_
                      first
                        | (exact absurd (show y6 137 5 = -1 from h200) (by
                             obtain ⟨e, he⟩ := okB_f h155
                             rw [he] at P7
                             exact P7.bad))
                        | (have hb : pBook (aT a) n 9 [] 0 = .ok (s.1, skip (aT a) n s.2.1) := by
                             rw [hq, show 9 - s.1.length = (8 - s.1.length) + 1 by omega]
                             show (if nxV _ _ _ = -1 then _ else _) = _
                             rw [if_pos ((nx_end hP.gg (by omega)).mpr (of_decide_eq_false h57))]
                           have K1 := hK.ch (CH.gd (b := skip (aT a) n s.2.1))
                           refine rchg_ok (b := (a.1, a.2.1, (aT a, 0, -1), s.1, a.2.2.2.2)) (by unfold oBook; rw [if_pos hin, nN_nI (by omega), hb, if_pos (show gdX s.2.2 (skip (aT a) n s.2.1) 137 5 = -1 from P1.2.2.2)]) (book_RR hR K1 P1 hs8 hN) (fun c hc => ?_) ?_
                           · rw [xr_n (by omega), xu_n (by omega), xu_n (by omega)]
                             exact K1.1 c (by omega) (by omega)
                           · rw [xr_n (by decide), xu_k (by decide), xu_k (by decide)]
                             exact K1.2.1 0 (by omega))
                    · refine r_iload_n dX10_book_203 rfl (by rfl) ?_
                      refine r_iret rfl dX10_book_204 ?_
                      first
                        | (exact absurd (show xu (gdX s.2.2 (skip (aT a) n s.2.1)) 137 8 _ 137 5 = -1 from P1.2.2.2) h200)
                        | (obtain ⟨e, he⟩ := okB_f h155
                           rw [he] at P7
                           have hb : pBook (aT a) n 9 [] 0 = .error e := by
                             rw [hq, show 9 - s.1.length = (8 - s.1.length) + 1 by omega]
                             refine bk_er rfl hr2 ?_ (of_decide_eq_true h57) hP.gg (by omega) he
                             first
                               | (exact Or.inr (Or.inr ⟨h121, h127, rfl⟩))
                               | (exact Or.inl ⟨by omega, rfl⟩)
                               | (exact Or.inr (Or.inl ⟨h121, rfl⟩))
                           refine rchg_ok (b := setT a (aT a) 0 (nI e.2)) (by unfold oBook; rw [if_pos hin, nN_nI (by omega), hb, if_neg P7.bad, P7.2.2.1]; rfl) (txt_RR hR (fun c h1 h2 => (hK.ch D7).1 c h1 (by omega)) (fun k h1 _ => (hK.ch D7).2.1 k h1) (hK.ch D7).2.2 P7) (fun c hc => (xu_n (by omega)).trans ((hK.ch D7).1 c (by omega) (by omega))) ((xu_k (by decide)).trans ((hK.ch D7).2.1 0 (by omega))))
                · refine r_aload_n dX10_book_130 rfl (by rfl) ?_
                  refine r_iconst (v := nI 3) dX10_book_131 (by decide) ?_
                  refine r_iload_n dX10_book_132 rfl (by rfl) ?_
                  refine r_callV (t_wrong P3 h121 (by omega)) mv_X10_wrong ml_X10_137 ⟨by decide, by decide⟩ dX10_book_133 (by first | assumption | rfl) rfl rfl rfl (Nat.le_of_ble_eq_true rfl) (fun v9 z4 h9 => ?_)
                  obtain ⟨rfl, P4, C4⟩ := h9
                  first
                    | (have P5 := P4; have D5 := D3.trans C4)
                    | (have P5 := P3; have D5 := D3)
                  refine r_aload_n dX10_book_136 rfl (by rfl) ?_
                  refine r_iconst (v := nI 0) dX10_book_137 (by decide) ?_
                  refine r_bipush (v := nI 40) dX10_book_138 (by decide) ?_
                  refine r_callV (t_num (lo := 0) (n := 41) (hv := nI 40) P5 (by decide) (by decide) (fun v hv => hv_C (by decide) hv)) mv_X10_readNumber ml_X10_181 ⟨by decide, by decide⟩ dX10_book_140 (by first | assumption | rfl) rfl rfl rfl (Nat.le_of_ble_eq_true rfl) (fun v9 y5 h9 => ?_)
                  obtain ⟨rfl, P6, C6⟩ := h9
                  refine r_istore dX10_book_143 (by decide) ?_
                  refine r_aload_n dX10_book_145 rfl (by rfl) ?_
                  refine r_bipush (v := nI 59) dX10_book_146 (by decide) ?_
                  refine r_callV (t_sign (c := 59) P6 (by decide) (by decide)) mv_X10_sign ml_X10_234 ⟨by decide, by decide⟩ dX10_book_148 (by first | assumption | rfl) rfl rfl rfl (Nat.le_of_ble_eq_true rfl) (fun v9 y6 h9 => ?_)
                  obtain ⟨rfl, P7, C7⟩ := h9
                  refine r_aload_n dX10_book_151 rfl (by rfl) ?_
                  refine r_callV (t_fine P7) mv_X10_fine ml_X10_130 ⟨by decide, by decide⟩ dX10_book_152 (by first | assumption | rfl) rfl rfl rfl (Nat.le_of_ble_eq_true rfl) (fun v9 x9 h9 => ?_)
                  obtain ⟨rfl, h9⟩ := h9
                  refine PW.xeq h9 ?_
                  clear h9 x9
                  refine r_if_neB (tgt := 161) dX10_book_155 (by decide) (fun h155 => ?_) (fun h155 => ?_)
                  · first
                      | (exact absurd (show false = true from h155) (by decide))
                      | (obtain ⟨e, he⟩ := okB_f h121; rw [he] at h155; exact absurd (show false = true from h155) (by decide))
                      | (have D7 := (CH.gd.trans C2).trans (D5.trans (C6.trans C7))
                         obtain ⟨q, v, a2, e1, e2, e3, e4, hq1, hv1, hpb⟩ := bk_ok (m := 8 - s.1.length) rfl hr2 (by omega) (of_decide_eq_true h57) hP.gg (by omega) h155
                         have P8 : PSt (xu (xu y6 158 (2 * s.1.length) (nI q.1)) 158 (2 * s.1.length + 1) (nI v.1)) (aT a) n (.ok a2) := by
                           have P7 := P7
                           rw [e2, xbn_ok, e3] at P7
                           have P7 : PSt y6 (aT a) n (pTake (aT a) n 59 v.2) := P7
                           rw [e4] at P7
                           exact P7.ch (fun k _ => by rw [xu_n (by decide), xu_n (by decide)]) (by rw [xu_n (by decide), xu_n (by decide)])
                         rw [e1, e2, xbn_ok, e3]
                         refine PW.lc (L' := [(0, .ref 137), (1, .int (nI n)), (2, .int (nI s.1.length)), (3, .int (nI (skip (aT a) n s.2.1))), (4, .int (nI q.1)), (5, .int (nI v.1))]) (by rfl) rfl ?_
                         refine r_aload_n dX10_book_161 rfl (by rfl) ?_
                         refine gf_X10_77 rfl dX10_book_162 (by first | assumption | rfl) (by rfl) ?_
                         refine r_iconst (v := nI 2) dX10_book_165 (by decide) ?_
                         refine r_iload_n dX10_book_166 rfl (by rfl) ?_
                         refine r_imulN dX10_book_167 ?_
                         refine r_iload dX10_book_168 (by rfl) ?_
                         refine r_iastN dX10_book_170 (by first | assumption | rfl) (by omega) (by decide) ?_
                         refine r_aload_n dX10_book_171 rfl (by rfl) ?_
                         refine gf_X10_77 rfl dX10_book_172 (by first | assumption | rfl) (by rfl) ?_
                         refine r_iconst (v := nI 2) dX10_book_175 (by decide) ?_
                         refine r_iload_n dX10_book_176 rfl (by rfl) ?_
                         refine r_imulN dX10_book_177 ?_
                         refine r_iconst (v := nI 1) dX10_book_178 (by decide) ?_
                         refine r_iaddN dX10_book_179 ?_
                         refine r_iload dX10_book_180 (by rfl) ?_
                         refine r_iastN dX10_book_182 (by first | assumption | rfl) (by omega) (by decide) ?_
                         refine r_iincN dX10_book_183 (by rfl) (by decide) ?_
                         refine r_goto (tgt := 46) dX10_book_186 (by decide) ?_
                         exact PW.lc (by (try dsimp only); rw [List.length_append]; rfl) rfl (ih (s.1 ++ [(q.1, v.1)], a2, xu (xu y6 158 (2 * s.1.length) (nI q.1)) 158 (2 * s.1.length + 1) (nI v.1)) ⟨(show (s.1 ++ [(q.1, v.1)]).length ≤ 8 by rw [List.length_append]; show s.1.length + 1 ≤ 8; omega), P8, ((hK.ch D7).put).put, NB.snoc (fun j q hj => by rw [D7.1 158 (by decide)]; exact hN j q hj) hq1 hv1, (by rw [hq, show 9 - s.1.length = (8 - s.1.length) + 1 by omega, hpb]; show _ = pBook _ _ (9 - (s.1 ++ [(q.1, v.1)]).length) _ _; rw [List.length_append, show 9 - (s.1.length + [(q.1, v.1)].length) = 8 - s.1.length from (by show 9 - (s.1.length + 1) = _; omega)])⟩ (show 9 - (s.1 ++ [(q.1, v.1)]).length < 9 - s.1.length by rw [List.length_append]; show 9 - (s.1.length + 1) < _; omega)))
                  · refine r_goto (tgt := 189) dX10_book_158 (by decide) ?_
                    first
                      | (have D7 := (CH.gd.trans C2).trans (D5.trans (C6.trans C7)); skip)
                      | skip
                    refine r_aload_n dX10_book_189 rfl (by rfl) ?_
                    refine r_iload_n dX10_book_190 rfl (by rfl) ?_
                    refine r_callV n_result mv_X10_result ml_X10_237 ⟨by decide, by decide⟩ dX10_book_191 (by first | assumption | rfl) rfl rfl rfl (Nat.le_of_ble_eq_true rfl) (fun v9 x9 h9 => ?_)
                    obtain ⟨rfl, h9⟩ := h9
                    refine PW.xeq h9 ?_
                    clear h9 x9
                    refine r_istore_n dX10_book_194 rfl (by decide) ?_
                    refine r_aload_n dX10_book_195 rfl (by rfl) ?_
                    refine gf_X10_101 rfl dX10_book_196 (by first | assumption | rfl) (by rfl) ?_
                    refine r_iconst (v := -1) dX10_book_199 (by decide) ?_
                    refine r_icmp_eq (tgt := 205) dX10_book_200 (by decide) (fun h200 => ?_) (fun h200 => ?_)
                    · refine r_aload_n dX10_book_205 rfl (by rfl) ?_
                      refine r_iload_n dX10_book_206 rfl (by rfl) ?_
                      refine pf_X10_169 rfl dX10_book_207 (by first | assumption | rfl) (by rfl) ?_
                      refine r_aload_n dX10_book_210 rfl (by rfl) ?_
                      refine r_aload_n dX10_book_211 rfl (by rfl) ?_
                      refine gf_X10_77 rfl dX10_book_212 (by first | assumption | rfl) (by rfl) ?_
                      refine r_aload_n dX10_book_215 rfl (by rfl) ?_
                      refine gf_X10_80 rfl dX10_book_216 (by first | assumption | rfl) (by rfl) ?_
                      refine r_iconst (v := nI 2) dX10_book_219 (by decide) ?_
                      refine r_iload_n dX10_book_220 rfl (by rfl) ?_
                      refine r_imulN dX10_book_221 ?_
                      refine r_callV (c_copies (sc := 158) (dc := 159) (n := 2 * s.1.length) lay_158 lay_159 (by omega) (by omega) (by decide) (by decide) (by decide)) mv_X10_copies ml_X10_165 ⟨by decide, by decide⟩ dX10_book_222 (by first | assumption | rfl) rfl rfl rfl (Nat.le_of_ble_eq_true rfl) (fun v9 x9 h9 => ?_)
                      obtain ⟨rfl, h9⟩ := h9
                      refine PW.xeq h9 ?_
                      clear h9 x9
                      refine r_iload_n dX10_book_225 rfl (by rfl) ?_
                      refine r_iret rfl dX10_book_226 ?_
                      first
                        | (exact absurd (show y6 137 5 = -1 from h200) (by
                             obtain ⟨e, he⟩ := okB_f h155
                             rw [he] at P7
                             exact P7.bad))
                        | (have hb : pBook (aT a) n 9 [] 0 = .ok (s.1, skip (aT a) n s.2.1) := by
                             rw [hq, show 9 - s.1.length = (8 - s.1.length) + 1 by omega]
                             show (if nxV _ _ _ = -1 then _ else _) = _
                             rw [if_pos ((nx_end hP.gg (by omega)).mpr (of_decide_eq_false h57))]
                           have K1 := hK.ch (CH.gd (b := skip (aT a) n s.2.1))
                           refine rchg_ok (b := (a.1, a.2.1, (aT a, 0, -1), s.1, a.2.2.2.2)) (by unfold oBook; rw [if_pos hin, nN_nI (by omega), hb, if_pos (show gdX s.2.2 (skip (aT a) n s.2.1) 137 5 = -1 from P1.2.2.2)]) (book_RR hR K1 P1 hs8 hN) (fun c hc => ?_) ?_
                           · rw [xr_n (by omega), xu_n (by omega), xu_n (by omega)]
                             exact K1.1 c (by omega) (by omega)
                           · rw [xr_n (by decide), xu_k (by decide), xu_k (by decide)]
                             exact K1.2.1 0 (by omega))
                    · refine r_iload_n dX10_book_203 rfl (by rfl) ?_
                      refine r_iret rfl dX10_book_204 ?_
                      first
                        | (exact absurd (show xu (gdX s.2.2 (skip (aT a) n s.2.1)) 137 8 _ 137 5 = -1 from P1.2.2.2) h200)
                        | (obtain ⟨e, he⟩ := okB_f h155
                           rw [he] at P7
                           have hb : pBook (aT a) n 9 [] 0 = .error e := by
                             rw [hq, show 9 - s.1.length = (8 - s.1.length) + 1 by omega]
                             refine bk_er rfl hr2 ?_ (of_decide_eq_true h57) hP.gg (by omega) he
                             first
                               | (exact Or.inr (Or.inr ⟨h121, h127, rfl⟩))
                               | (exact Or.inl ⟨by omega, rfl⟩)
                               | (exact Or.inr (Or.inl ⟨h121, rfl⟩))
                           refine rchg_ok (b := setT a (aT a) 0 (nI e.2)) (by unfold oBook; rw [if_pos hin, nN_nI (by omega), hb, if_neg P7.bad, P7.2.2.1]; rfl) (txt_RR hR (fun c h1 h2 => (hK.ch D7).1 c h1 (by omega)) (fun k h1 _ => (hK.ch D7).2.1 k h1) (hK.ch D7).2.2 P7) (fun c hc => (xu_n (by omega)).trans ((hK.ch D7).1 c (by omega) (by omega))) ((xu_k (by decide)).trans ((hK.ch D7).2.1 0 (by omega))))
            · refine r_aload_n dX10_book_91 rfl (by rfl) ?_
              refine gf_X10_77 rfl dX10_book_92 (by first | assumption | rfl) (by rfl) ?_
              refine r_iconst (v := nI 2) dX10_book_95 (by decide) ?_
              refine r_iload dX10_book_96 (by rfl) ?_
              refine r_imulN dX10_book_98 ?_
              refine r_ialdN dX10_book_99 (by first | assumption | rfl) (by omega) (by decide) ?_
              have hk9 : w.1 < s.1.length := by omega
              refine PW.topi (show _ = nI (s.1[w.1]).1 from (by rw [D3.1 158 (by decide), C2.1 158 (by decide)]; exact (hN w.1 _ (List.getElem?_eq_getElem hk9)).1)) ?_
              refine r_iload dX10_book_100 (by rfl) ?_
              refine r_icmp_ne (tgt := 111) dX10_book_102 (by decide) (fun h102 => ?_) (fun h102 => ?_)
              · refine r_iincN dX10_book_111 (by rfl) (by decide) ?_
                refine r_goto (tgt := 78) dX10_book_114 (by decide) ?_
                first
                  | (exact PW.lc (by rfl) rfl (kh (w.1 + 1, .error (2, (skip (aT a) n s.2.1)), z3) ⟨(show w.1 + 1 ≤ s.1.length by omega), P4, D3.trans C4, (by
                       obtain ⟨q, e1, e2, e3⟩ := hasR_ok (by rw [← hr]; exact h88)
                       rw [e1] at h102 ⊢
                       have h102 := (nI_eq (by have := (hN w.1 _ (List.getElem?_eq_getElem hk9)).2.2.1; omega) (by have := (pNum_lt e1).2; omega)).mp h102
                       show _ = (if bkHas (s.1.take (w.1 + 1)) q.1 = true then _ else _)
                       rw [bkHas_s hk9, e2, h102, if_pos (by simp)])⟩ (show s.1.length - (w.1 + 1) < s.1.length - w.1 by omega)))
                  | (exact PW.lc (by rfl) rfl (kh (w.1 + 1, w.2.1, w.2.2) ⟨(show w.1 + 1 ≤ s.1.length by omega), P3, D3, (by
                       obtain ⟨q, e1, e2, e3⟩ := hasR_ok (by rw [← hr]; exact h88)
                       rw [hr, e3]
                       rw [e1] at h102 ⊢
                       show _ = (if bkHas (s.1.take (w.1 + 1)) q.1 = true then _ else _)
                       rw [bkHas_s hk9, e2, if_neg (fun t => h102 (by
                         have t : (s.1[w.1]).1 = q.1 := by simpa using t
                         rw [t]
                         rfl))])⟩ (show s.1.length - (w.1 + 1) < s.1.length - w.1 by omega)))
              · refine r_aload_n dX10_book_105 rfl (by rfl) ?_
                refine r_iconst (v := nI 2) dX10_book_106 (by decide) ?_
                refine r_iload_n dX10_book_107 rfl (by rfl) ?_
                refine r_callV (t_wrong P3 h88 (by omega)) mv_X10_wrong ml_X10_137 ⟨by decide, by decide⟩ dX10_book_108 (by first | assumption | rfl) rfl rfl rfl (Nat.le_of_ble_eq_true rfl) (fun v9 z3 h9 => ?_)
                obtain ⟨rfl, P4, C4⟩ := h9
                refine r_iincN dX10_book_111 (by rfl) (by decide) ?_
                refine r_goto (tgt := 78) dX10_book_114 (by decide) ?_
                first
                  | (exact PW.lc (by rfl) rfl (kh (w.1 + 1, .error (2, (skip (aT a) n s.2.1)), z3) ⟨(show w.1 + 1 ≤ s.1.length by omega), P4, D3.trans C4, (by
                       obtain ⟨q, e1, e2, e3⟩ := hasR_ok (by rw [← hr]; exact h88)
                       rw [e1] at h102 ⊢
                       have h102 := (nI_eq (by have := (hN w.1 _ (List.getElem?_eq_getElem hk9)).2.2.1; omega) (by have := (pNum_lt e1).2; omega)).mp h102
                       show _ = (if bkHas (s.1.take (w.1 + 1)) q.1 = true then _ else _)
                       rw [bkHas_s hk9, e2, h102, if_pos (by simp)])⟩ (show s.1.length - (w.1 + 1) < s.1.length - w.1 by omega)))
                  | (exact PW.lc (by rfl) rfl (kh (w.1 + 1, w.2.1, w.2.2) ⟨(show w.1 + 1 ≤ s.1.length by omega), P3, D3, (by
                       obtain ⟨q, e1, e2, e3⟩ := hasR_ok (by rw [← hr]; exact h88)
                       rw [hr, e3]
                       rw [e1] at h102 ⊢
                       show _ = (if bkHas (s.1.take (w.1 + 1)) q.1 = true then _ else _)
                       rw [bkHas_s hk9, e2, if_neg (fun t => h102 (by
                         have t : (s.1[w.1]).1 = q.1 := by simpa using t
                         rw [t]
                         rfl))])⟩ (show s.1.length - (w.1 + 1) < s.1.length - w.1 by omega)))
