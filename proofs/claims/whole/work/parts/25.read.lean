/-! READING: what a text is, told once for both sides -/
abbrev PE : Type := Nat × Nat
def okB {α : Type} : Except PE α → Bool
  | .ok _ => true
  | .error _ => false
theorem okB_t {α : Type} {r : Except PE α} (h : okB r = true) : ∃ q, r = .ok q := by
  cases r with
  | ok q => exact ⟨q, rfl⟩
  | error e => cases h
theorem okB_f {α : Type} {r : Except PE α} (h : okB r = false) : ∃ e, r = .error e := by
  cases r with
  | error e => exact ⟨e, rfl⟩
  | ok q => cases h
def pTake (g : Nat → Nat) (len c a : Nat) : Except PE Nat := if nxV g len a = nI c then .ok (skip g len a + 1) else .error (1, skip g len a)
def pEnd (g : Nat → Nat) (len a : Nat) : Except PE Nat := if nxV g len a = -1 then .ok (skip g len a) else .error (1, skip g len a)
def pNum (g : Nat → Nat) (len lo n a : Nat) : Except PE (Nat × Nat) :=
  if digB (nxV g len a) then (if lo ≤ (dg g len (skip g len a) 0).2 ∧ (dg g len (skip g len a) 0).2 < n then .ok ((dg g len (skip g len a) 0).2, (dg g len (skip g len a) 0).1) else .error (2, skip g len a))
  else .error (1, skip g len a)
def pI : Except PE (Nat × Nat) → Int32
  | .ok q => nI q.1
  | .error _ => -1
theorem nI_ne1 {n : Nat} (h : n < 2 ^ 31) : nI n ≠ -1 := fun e => absurd (e ▸ nI_pos' h) (by decide +kernel)
theorem pNum_lt {g : Nat → Nat} {len lo n a : Nat} {q : Nat × Nat} (h : pNum g len lo n a = .ok q) : lo ≤ q.1 ∧ q.1 < n := by
  unfold pNum at h
  split at h
  · split at h
    · rename_i w
      injection h with h
      subst h
      exact w
    · cases h
  · cases h
theorem pI_ne {g : Nat → Nat} {len lo n a : Nat} (h : pI (pNum g len lo n a) ≠ -1) : ∃ v a', pNum g len lo n a = .ok (v, a') ∧ v < n := by
  cases hr : pNum g len lo n a with
  | ok q => exact ⟨q.1, q.2, rfl, (pNum_lt hr).2⟩
  | error e => rw [hr] at h; exact absurd rfl h
theorem pI_eq {g : Nat → Nat} {len lo n a : Nat} (hn : n ≤ 2 ^ 31) (h : pI (pNum g len lo n a) = -1) : ∃ e, pNum g len lo n a = .error e := by
  cases hr : pNum g len lo n a with
  | ok q =>
    rw [hr] at h
    exact absurd h (nI_ne1 (by have := (pNum_lt hr).2; omega))
  | error e => exact ⟨e, rfl⟩
/-- the tape's cell behind a reading: f what it holds -/
def PF {α : Type} (x : XS) (f : Nat → Int32) (len : Nat) (r : Except PE α) (pos : α → Nat) : Prop := f 1 = x 1 1 ∧ f 2 = nI len ∧ (match r with
  | .ok q => f 3 = nI (pos q) ∧ pos q ≤ len ∧ f 4 = x 1 4 ∧ f 5 = x 1 5
  | .error e => f 4 = nI e.1 ∧ f 5 = nI e.2)
theorem PF.ok {α : Type} {x : XS} {f : Nat → Int32} {len : Nat} {r : Except PE α} {pos : α → Nat} {q : α} (h : PF x f len r pos) (e : r = .ok q) : f 1 = x 1 1 ∧ f 2 = nI len ∧ f 3 = nI (pos q) ∧ pos q ≤ len ∧ f 4 = x 1 4 ∧ f 5 = x 1 5 := by subst e; exact h
theorem PF.err {α : Type} {x : XS} {f : Nat → Int32} {len : Nat} {r : Except PE α} {pos : α → Nat} {e9 : PE} (h : PF x f len r pos) (e : r = .error e9) : f 1 = x 1 1 ∧ f 2 = nI len ∧ f 4 = nI e9.1 ∧ f 5 = nI e9.2 := by subst e; exact h
theorem PF.tp {α : Type} {x : XS} {f : Nat → Int32} {g : Nat → Nat} {len a : Nat} {r : Except PE α} {pos : α → Nat} {q : α} (h : PF x f len r pos) (hT : TP x g len a) (e : r = .ok q) : TP (xr x 1 f) g len (pos q) := by
  have w := h.ok e
  exact ⟨w.2.1, hT.2.1, w.2.2.1, w.2.2.2.1, hT.2.2.2.2⟩
/-- one reading behind another -/
theorem PF.then {α β : Type} {x : XS} {f f2 : Nat → Int32} {len : Nat} {r : Except PE α} {r2 r3 : Except PE β} {pos : α → Nat} {pos2 : β → Nat} {q : α} (h : PF x f len r pos) (e : r = .ok q) (h2 : PF (xr x 1 f) f2 len r2 pos2) (e3 : r3 = r2) : PF x f2 len r3 pos2 := by
  have w := h.ok e
  subst e3
  refine ⟨h2.1.trans w.1, h2.2.1, ?_⟩
  have h3 := h2.2.2
  cases r3 with
  | ok q2 => exact ⟨h3.1, h3.2.1, h3.2.2.1.trans w.2.2.2.2.1, h3.2.2.2.trans w.2.2.2.2.2⟩
  | error e2 => exact h3
theorem PF.cut {α β : Type} {x : XS} {f : Nat → Int32} {len : Nat} {r : Except PE α} {r2 : Except PE β} {pos : α → Nat} {pos2 : β → Nat} {e : PE} (h : PF x f len r pos) (h1 : r = .error e) (h2 : r2 = .error e) : PF x f len r2 pos2 := by
  subst h1
  subst h2
  exact h
theorem nI_m1 {n : Nat} : nI (n + 1) - 1 = nI n := nI_pred n
theorem le_m1 {v n : Nat} (hv : v < 2 ^ 30) (hn : n < 2 ^ 30) : nI v ≤ nI n - nI 1 ↔ v < n := by
  cases n with
  | zero =>
    constructor
    · intro h
      exact absurd (Int32.le_trans (nI_pos' (by omega)) h) (by decide +kernel)
    · omega
  | succ m =>
    rw [show nI (m + 1) - nI 1 = nI m from nI_pred m, nI_leI (by omega) (by omega)]
    omega
theorem dg_lt (g : Nat → Nat) {len a : Nat} (h : a ≤ len) : (dg g len a 0).1 ≤ len ∧ (dg g len a 0).2 < 1000010 := dgs_le g len _ a 0 h (by decide)
/-- number, in words of the reading -/
theorem num_rel {x : XS} {g : Nat → Nat} {len lo n a : Nat} {hv : Int32} (hT : TP x g len a) (hlo : lo < 2 ^ 30) (hn : n < 2 ^ 30) (hh : hv = nI n - nI 1) : (if numOK g len a lo hv then nI (numV g len a) else -1) = pI (pNum g len lo n a) ∧ ∃ f, numX x g len a lo hv = xr x 1 f ∧ PF x f len (pNum g len lo n a) (fun q => q.2) ∧ (okB (pNum g len lo n a) = true → f 6 = nI (skip g len a)) := by
  subst hh
  have hs := skip_le (g := g) hT.2.2.2.1
  have hd := dg_lt g hs
  unfold pNum numX numOK
  by_cases h1 : digB (nxV g len a) = true
  · rw [h1]
    by_cases h2 : lo ≤ (dg g len (skip g len a) 0).2
    · rw [decide_eq_false (nI_nlt h2 (by omega))]
      by_cases h3 : (dg g len (skip g len a) 0).2 < n
      · rw [decide_eq_true ((le_m1 (by omega) hn).mpr h3), if_pos (show _ ∧ _ from ⟨h2, h3⟩)]
        refine ⟨rfl, nuS x (skip g len a) (dg g len (skip g len a) 0).1 1, ?_, ?_, ?_⟩
        · show nuS _ _ _ = _
          unfold nuS xu
          rw [xr_s, xr_xr, xr_s]
        · exact ⟨rfl, hT.1, rfl, hd.1, rfl, rfl⟩
        · intro _; rfl
      · rw [decide_eq_false (fun q => h3 ((le_m1 (by omega) hn).mp q)), if_neg (show ¬ (_ ∧ _) from fun q => h3 q.2)]
        refine ⟨rfl, failX (nuS x (skip g len a) (dg g len (skip g len a) 0).1) 2 (skip g len a) 1, ?_, ?_, ?_⟩
        · show failX _ _ _ = _
          unfold failX nuS xu
          simp only [xr_s, xr_xr]
        · exact ⟨rfl, hT.1, rfl, rfl⟩
        · intro q; cases q
    · rw [decide_eq_true (nI_lt (Nat.lt_of_not_le h2) (by omega)), if_neg (show ¬ (_ ∧ _) from fun q => h2 q.1)]
      refine ⟨rfl, failX (nuS x (skip g len a) (dg g len (skip g len a) 0).1) 2 (skip g len a) 1, ?_, ?_, ?_⟩
      · show failX _ _ _ = _
        unfold failX nuS xu
        simp only [xr_s, xr_xr]
      · exact ⟨rfl, hT.1, rfl, rfl⟩
      · intro q; cases q
  · rw [show digB (nxV g len a) = false from by cases h : digB (nxV g len a); rfl; exact absurd h h1]
    refine ⟨rfl, failX (atX x (skip g len a)) 1 (skip g len a) 1, ?_, ?_, ?_⟩
    · show failX _ _ _ = _
      unfold failX atX xu
      simp only [xr_s, xr_xr]
    · exact ⟨rfl, hT.1, rfl, rfl⟩
    · intro q; cases q
theorem tak_rel {x : XS} {g : Nat → Nat} {len c a : Nat} (hT : TP x g len a) : takB g len a (nI c) = okB (pTake g len c a) ∧ ∃ f, takX x g len a (nI c) = xr x 1 f ∧ (nI c ≠ -1 → PF x f len (pTake g len c a) id) := by
  have hs := skip_le (g := g) hT.2.2.2.1
  unfold takB takX pTake
  by_cases h : nxV g len a = nI c
  · rw [decide_eq_true h, if_pos h, if_pos h]
    refine ⟨rfl, atX x (skip g len a + 1) 1, ?_, fun hc => ⟨rfl, hT.1, rfl, ?_, rfl, rfl⟩⟩
    · unfold atX xu
      rw [xr_s]
    · show skip g len a + 1 ≤ len
      unfold nxV at h
      split at h
      · omega
      · exact absurd h.symm hc
  · rw [decide_eq_false h, if_neg h, if_neg h]
    refine ⟨rfl, failX (atX x (skip g len a)) 1 (skip g len a) 1, ?_, fun _ => ⟨rfl, hT.1, rfl, rfl⟩⟩
    unfold failX atX xu
    simp only [xr_s, xr_xr]
theorem nm_rel {x : XS} {g : Nat → Nat} {len a : Nat} (hT : TP x g len a) : nmB g len a = okB (pEnd g len a) ∧ ∃ f, nmX x g len a = xr x 1 f ∧ PF x f len (pEnd g len a) id := by
  have hs := skip_le (g := g) hT.2.2.2.1
  unfold nmB nmX pEnd
  by_cases h : nxV g len a = -1
  · rw [decide_eq_true h, if_pos h, if_pos h]
    refine ⟨rfl, atX x (skip g len a) 1, ?_, ⟨rfl, hT.1, rfl, hs, rfl, rfl⟩⟩
    unfold atX xu
    rw [xr_s]
  · rw [decide_eq_false h, if_neg h, if_neg h]
    refine ⟨rfl, failX (atX x (skip g len a)) 1 (skip g len a) 1, ?_, ⟨rfl, hT.1, rfl, rfl⟩⟩
    unfold failX atX xu
    simp only [xr_s, xr_xr]
def pWord (g : Nat → Nat) (len i a : Nat) : Except PE (Nat × Nat) := match wrd g len i a with
  | some w => .ok (w, smE g len (skip g len a))
  | none => .error (1, skip g len a)
theorem word_rel {x : XS} {g : Nat → Nat} {len i a : Nat} (hT : TP x g len a) : wI (wrd g len i a) = pI (pWord g len i a) ∧ ∃ f, wrdX x g len i a = xr x 1 f ∧ PF x f len (pWord g len i a) (fun q => q.2) ∧ f 6 = nI (skip g len a) := by
  have hs := smE_le (g := g) (skip_le (g := g) hT.2.2.2.1)
  unfold wrdX pWord
  cases wrd g len i a with
  | some w =>
    refine ⟨rfl, nuS x (skip g len a) (smE g len (skip g len a)) 1, ?_, ⟨rfl, hT.1, rfl, hs, rfl, rfl⟩, rfl⟩
    show nuS _ _ _ = _
    unfold nuS xu
    rw [xr_s, xr_xr, xr_s]
  | none =>
    refine ⟨rfl, failX (nuS x (skip g len a) (smE g len (skip g len a))) 1 (skip g len a) 1, ?_, ⟨rfl, hT.1, rfl, rfl⟩, rfl⟩
    show failX _ _ _ = _
    unfold failX nuS xu
    simp only [xr_s, xr_xr]
theorem wsc_lt (g : Nat → Nat) (i b e : Nat) : ∀ n j w f v, wsc g i b e n j w f = some v → v < w + n
  | 0, _, _, _, _, h => by cases h
  | n + 1, j, w, f, v, h => by
    unfold wsc at h
    split at h
    · split at h
      · injection h with h
        omega
      · have := wsc_lt g i b e n _ _ _ _ h
        omega
    · have := wsc_lt g i b e n _ _ _ _ h
      omega
theorem pWord_ne {g : Nat → Nat} {len i a : Nat} (h : pI (pWord g len i a) ≠ -1) : ∃ w, wrd g len i a = some w ∧ pWord g len i a = .ok (w, smE g len (skip g len a)) := by
  unfold pWord at h ⊢
  cases hw : wrd g len i a with
  | some w => exact ⟨w, rfl, rfl⟩
  | none => rw [hw] at h; exact absurd rfl h
theorem pWord_eq {g : Nat → Nat} {len i a : Nat} (hi : i < 25) (h : pI (pWord g len i a) = -1) : pWord g len i a = .error (1, skip g len a) := by
  unfold pWord at h ⊢
  cases hw : wrd g len i a with
  | some w =>
    rw [hw] at h
    have := wsc_lt g i _ _ _ _ _ _ _ hw
    have := strN_600 i hi
    exact absurd h (nI_ne1 (by omega))
  | none => rfl
/-- what a reading that also writes cells of S leaves -/
def PO {α : Type} (S : Nat → Prop) (x x1 : XS) (g : Nat → Nat) (len : Nat) (r : Except PE α) (pos : α → Nat) : Prop :=
  x1 1 1 = x 1 1 ∧ (∀ c, c ≠ 1 → ¬ S c → x1 c = x c) ∧ (match r with
  | .ok q => TP x1 g len (pos q) ∧ x1 1 4 = x 1 4 ∧ x1 1 5 = x 1 5
  | .error e => x1 1 4 = nI e.1 ∧ x1 1 5 = nI e.2)
theorem PO.ok {α : Type} {S : Nat → Prop} {x x1 : XS} {g : Nat → Nat} {len : Nat} {r : Except PE α} {pos : α → Nat} {q : α} (h : PO S x x1 g len r pos) (e : r = .ok q) : TP x1 g len (pos q) ∧ x1 1 4 = x 1 4 ∧ x1 1 5 = x 1 5 := by subst e; exact h.2.2
theorem PO.err {α : Type} {S : Nat → Prop} {x x1 : XS} {g : Nat → Nat} {len : Nat} {r : Except PE α} {pos : α → Nat} {e9 : PE} (h : PO S x x1 g len r pos) (e : r = .error e9) : x1 1 4 = nI e9.1 ∧ x1 1 5 = nI e9.2 := by subst e; exact h.2.2
theorem PO.then {α β : Type} {S : Nat → Prop} {x x1 x2 : XS} {g : Nat → Nat} {len : Nat} {r : Except PE α} {r2 r3 : Except PE β} {pos : α → Nat} {pos2 : β → Nat} {q : α} (h : PO S x x1 g len r pos) (e : r = .ok q) (h2 : PO S x1 x2 g len r2 pos2) (e3 : r3 = r2) : PO S x x2 g len r3 pos2 := by
  subst e3
  have w := h.ok e
  refine ⟨h2.1.trans h.1, fun c hc hs => (h2.2.1 c hc hs).trans (h.2.1 c hc hs), ?_⟩
  have h3 := h2.2.2
  cases r3 with
  | ok q2 => exact ⟨h3.1, h3.2.1.trans w.2.1, h3.2.2.trans w.2.2⟩
  | error e2 => exact h3
theorem PO.cut {α β : Type} {S : Nat → Prop} {x x1 : XS} {g : Nat → Nat} {len : Nat} {r : Except PE α} {r2 : Except PE β} {pos : α → Nat} {pos2 : β → Nat} {e : PE} (h : PO S x x1 g len r pos) (h1 : r = .error e) (h2 : r2 = .error e) : PO S x x1 g len r2 pos2 := by
  subst h1
  subst h2
  exact h
/-- cell 1 alone anew is a reading -/
theorem PF.po {α : Type} {S : Nat → Prop} {x : XS} {f : Nat → Int32} {g : Nat → Nat} {len a : Nat} {r : Except PE α} {pos : α → Nat} (h : PF x f len r pos) (hT : TP x g len a) : PO S x (xr x 1 f) g len r pos := by
  refine ⟨h.1, fun c hc _ => xr_n hc, ?_⟩
  cases r with
  | ok q => exact ⟨h.tp hT rfl, h.2.2.2.2.1, h.2.2.2.2.2⟩
  | error e => exact h.2.2
/-- writing a cell of S behind it -/
theorem PO.put {α : Type} {S : Nat → Prop} {x x1 : XS} {g : Nat → Nat} {len c : Nat} {r : Except PE α} {pos : α → Nat} {f : Nat → Int32} (h : PO S x x1 g len r pos) (hc : S c) (h1 : c ≠ 1) (h2 : c ≠ 2) : PO S x (xr x1 c f) g len r pos := by
  refine ⟨(congrFun (xr_n (Ne.symm h1)) 1).trans h.1, fun j hj hs => (xr_n (show j ≠ c by intro e; subst e; exact hs hc)).trans (h.2.1 j hj hs), ?_⟩
  have h3 := h.2.2
  have w1 : xr x1 c f 1 = x1 1 := xr_n (Ne.symm h1)
  have w2 : xr x1 c f 2 = x1 2 := xr_n (Ne.symm h2)
  cases r with
  | ok q => exact ⟨⟨by rw [w1]; exact h3.1.1, h3.1.2.1, by rw [w1]; exact h3.1.2.2.1, h3.1.2.2.2.1, by rw [w2]; exact h3.1.2.2.2.2⟩, by rw [w1]; exact h3.2.1, by rw [w1]; exact h3.2.2⟩
  | error e => exact ⟨by rw [w1]; exact h3.1, by rw [w1]; exact h3.2⟩
theorem PO.put0 {α : Type} {S : Nat → Prop} {x x1 : XS} {g : Nat → Nat} {len c : Nat} {r : Except PE α} {pos : α → Nat} {f : Nat → Int32} (h : PO S (xr x c f) x1 g len r pos) (hc : S c) (h1 : c ≠ 1) : PO S x x1 g len r pos := by
  have w1 : xr x c f 1 = x 1 := xr_n (Ne.symm h1)
  refine ⟨h.1.trans (by rw [w1]), fun j hj hs => (h.2.1 j hj hs).trans (xr_n (show j ≠ c by intro e; subst e; exact hs hc)), ?_⟩
  have h3 := h.2.2
  cases r with
  | ok q => exact ⟨h3.1, h3.2.1.trans (by rw [w1]), h3.2.2.trans (by rw [w1])⟩
  | error e => exact h3
theorem TP.put {x : XS} {g : Nat → Nat} {len a c : Nat} {f : Nat → Int32} (h : TP x g len a) (h1 : c ≠ 1) (h2 : c ≠ 2) : TP (xr x c f) g len a := by
  have w1 : xr x c f 1 = x 1 := xr_n (Ne.symm h1)
  have w2 : xr x c f 2 = x 2 := xr_n (Ne.symm h2)
  exact ⟨by rw [w1]; exact h.1, h.2.1, by rw [w1]; exact h.2.2.1, h.2.2.2.1, by rw [w2]; exact h.2.2.2.2⟩
theorem fail_rel {x : XS} {kd pl len : Nat} {α : Type} {pos : α → Nat} (hl : x 1 2 = nI len) : failX x kd pl = xr x 1 (failX x kd pl 1) ∧ PF x (failX x kd pl 1) len (.error (kd, pl) : Except PE α) pos := by
  refine ⟨?_, rfl, hl, rfl, rfl⟩
  unfold failX xu
  simp only [xr_s, xr_xr]
theorem bI_okt : bI true = nI 1 := rfl
