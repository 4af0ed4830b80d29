/-! THE REFERENCE: a text's state, good or bad -/
def CH (x y : XS) : Prop := (∀ c, c ≠ 137 → y c = x c) ∧ ∀ k, k ≠ 4 → k ≠ 5 → k ≠ 6 → y 137 k = x 137 k
theorem CH.rfl {x : XS} : CH x x := ⟨fun _ _ => _root_.rfl, fun _ _ _ _ => _root_.rfl⟩
theorem CH.trans {x y z : XS} (h : CH x y) (h2 : CH y z) : CH x z := ⟨fun c hc => (h2.1 c hc).trans (h.1 c hc), fun k a b c => (h2.2 k a b c).trans (h.2 k a b c)⟩
theorem CH.gd {x : XS} {b : Nat} : CH x (gdX x b) := ⟨fun c hc => xu_n hc, fun k a _ _ => xu_k a⟩
theorem CH.wr {x : XS} {k p : Nat} : CH x (wrX x k p) := ⟨fun c hc => (xu_n hc).trans (xu_n hc), fun j _ b c => (xu_k c).trans (xu_k b)⟩
def PSt (x : XS) (g : Nat → Nat) (len : Nat) (r : Except PE Nat) : Prop := (x 137 3 = nI len ∧ len ≤ 600 ∧ ∀ j, j < 600 → x 139 j = nI (g j) ∧ g j < 256) ∧ match r with
  | .ok a => x 137 4 = nI a ∧ a ≤ len ∧ x 137 5 = -1
  | .error e => x 137 5 = nI e.2 ∧ x 137 6 = nI e.1 ∧ e.2 ≤ 600 ∧ ∃ b, b ≤ len ∧ x 137 4 = nI b
theorem PSt.rp {x : XS} {g : Nat → Nat} {len a : Nat} (h : PSt x g len (.ok a)) : RPs x g len a := ⟨h.1.1, h.1.2.1, h.2.1, h.2.2.1, h.1.2.2⟩
theorem PSt.of {x : XS} {g : Nat → Nat} {len a : Nat} (h : RPs x g len a) (h5 : x 137 5 = -1) : PSt x g len (.ok a) := ⟨⟨h.1, h.2.1, h.2.2.2.2⟩, h.2.2.1, h.2.2.2.1, h5⟩
theorem PSt.ch {x y : XS} {g : Nat → Nat} {len : Nat} {r : Except PE Nat} (h : PSt x g len r) (e : ∀ k, k = 3 ∨ k = 4 ∨ k = 5 ∨ k = 6 → y 137 k = x 137 k) (e9 : y 139 = x 139) : PSt y g len r := by
  unfold PSt
  rw [e 3 (by omega), e 4 (by omega), e 5 (by omega), e 6 (by omega), e9]
  exact h
theorem PSt.bad {x : XS} {g : Nat → Nat} {len : Nat} {e : PE} (h : PSt x g len (.error e)) : ¬ x 137 5 = -1 := by
  rw [h.2.1]
  exact nI_ne1 (by have := h.2.2.2.1; omega)
theorem PSt.gg {x : XS} {g : Nat → Nat} {len : Nat} {r : Except PE Nat} (h : PSt x g len r) : ∀ j, j < 600 → g j < 256 := fun j hj => (h.1.2.2 j hj).2
theorem PSt.gd {x : XS} {g : Nat → Nat} {len a b : Nat} (h : PSt x g len (.ok a)) (hb : b ≤ len) : PSt (gdX x b) g len (.ok b) := ⟨h.1, xu_s, hb, h.2.2.2⟩
theorem PSt.wr {x : XS} {g : Nat → Nat} {len a b k p : Nat} (h : PSt x g len (.ok a)) (hb : b ≤ len) (hp : p ≤ 600) : PSt (wrX (gdX x b) k p) g len (.error (k, p)) := ⟨h.1, (xu_k (by decide)).trans xu_s, xu_s, hp, b, hb, rfl⟩
def xmp : Except PE (Nat × Nat) → Except PE Nat
  | .ok q => .ok q.2
  | .error e => .error e
def vI : Except PE (Nat × Nat) → Int32
  | .ok q => nI q.1
  | .error _ => nI 0
theorem t_fine {x : XS} {g : Nat → Nat} {len : Nat} {r : Except PE Nat} (h : PSt x g len r) : MM mX10_fine 0 0 0 [.ref 137] x (fun v y => v = some (.int (bI (okB r))) ∧ y = x) NoT := by
  cases r with
  | ok a => exact n_fine_t h.2.2.2
  | error e => exact n_fine_f h.bad
theorem t_wrong {x : XS} {g : Nat → Nat} {len k p : Nat} {r : Except PE Nat} (h : PSt x g len r) (ho : okB r = true) (hp : p ≤ 600) : MM mX10_wrong 0 0 0 [.ref 137, .int (nI k), .int (nI p)] x (fun v y => v = none ∧ PSt y g len (.error (k, p)) ∧ CH x y) NoT := by
  cases r with
  | ok a =>
    refine MM.imp (n_wrong h.2.2.2) (fun v y q => ?_)
    obtain ⟨rfl, rfl⟩ := q
    refine ⟨rfl, ?_, CH.wr⟩
    exact ⟨h.1, (xu_k (by decide)).trans xu_s, xu_s, hp, a, h.2.2.1, h.2.1⟩
  | error e => cases ho
theorem t_num {x : XS} {g : Nat → Nat} {len lo n : Nat} {hv : Int32} {r : Except PE Nat} (h : PSt x g len r) (hlo : lo ≤ 1000) (hn : n ≤ 1000) (hh : ∀ v, v < 2000000 → (nI v ≤ hv ↔ v < n)) : MM mX10_readNumber 1 0 0 [.ref 137, .int (nI lo), .int hv] x (fun v y => v = some (.int (vI (xbn r (pNum g len lo n)))) ∧ PSt y g len (xmp (xbn r (pNum g len lo n))) ∧ CH x y) NoT := by
  cases r with
  | ok a =>
    refine MM.imp (n_num h.rp h.2.2.2 hlo hn hh) (fun v y q => ?_)
    show v = some (.int (vI (pNum g len lo n a))) ∧ PSt y g len (xmp (pNum g len lo n a)) ∧ CH x y
    cases hp : pNum g len lo n a with
    | ok p =>
      rw [hp] at q
      obtain ⟨rfl, rfl, hq⟩ := q
      exact ⟨rfl, h.gd hq, CH.gd⟩
    | error e =>
      rw [hp] at q
      obtain ⟨rfl, he, b, hb, rfl⟩ := q
      exact ⟨rfl, h.wr hb (by have := h.1.2.1; omega), CH.gd.trans CH.wr⟩
  | error e =>
    refine MM.imp (n_num_b h.bad) (fun v y q => ?_)
    obtain ⟨rfl, rfl⟩ := q
    exact ⟨rfl, h, CH.rfl⟩
theorem t_sign {x : XS} {g : Nat → Nat} {len c : Nat} {r : Except PE Nat} (h : PSt x g len r) (hc : 1 ≤ c) (hc2 : c < 256) : MM mX10_sign 1 0 0 [.ref 137, .int (nI c)] x (fun v y => v = none ∧ PSt y g len (xbn r (pTake g len c)) ∧ CH x y) NoT := by
  cases r with
  | ok a =>
    refine MM.imp (n_sign h.rp h.2.2.2 hc hc2) (fun v y q => ?_)
    obtain ⟨rfl, q⟩ := q
    refine ⟨rfl, ?_⟩
    show PSt y g len (pTake g len c a) ∧ CH x y
    cases hp : pTake g len c a with
    | ok b =>
      rw [hp] at q
      obtain ⟨rfl, hq⟩ := q
      exact ⟨h.gd hq, CH.gd⟩
    | error e =>
      rw [hp] at q
      obtain ⟨he, b, hb, rfl⟩ := q
      exact ⟨h.wr hb (by have := h.1.2.1; omega), CH.gd.trans CH.wr⟩
  | error e =>
    refine MM.imp (n_sign_b h.bad) (fun v y q => ?_)
    obtain ⟨rfl, rfl⟩ := q
    exact ⟨rfl, h, CH.rfl⟩
theorem t_isMore {x : XS} {g : Nat → Nat} {len a : Nat} (h : PSt x g len (.ok a)) : MM mX10_isMore 1 0 0 [.ref 137] x (fun v y => v = some (.int (bI (decide (skip g len a < len)))) ∧ PSt y g len (.ok (skip g len a)) ∧ y = gdX x (skip g len a)) NoT := by
  refine MM.imp (n_isMore h.rp) (fun v y q => ?_)
  obtain ⟨rfl, rfl⟩ := q
  exact ⟨rfl, h.gd (skip_le h.2.2.1), rfl⟩
theorem nx_end {g : Nat → Nat} {len a : Nat} (hg : ∀ j, j < 600 → g j < 256) (hl : len ≤ 600) : nxV g len a = -1 ↔ ¬ skip g len a < len := by
  unfold nxV
  split
  · rename_i h
    exact ⟨fun e => absurd e (nI_ne1 (by have := hg _ (show skip g len a < 600 by omega); omega)), fun e => absurd h e⟩
  · rename_i h
    exact ⟨fun _ => h, fun _ => rfl⟩
theorem bg_st {x : XS} {a : AS} {n : Nat} (hR : RRf x a) (hn : n ≤ 600) : PSt (bgX x n) (aT a) n (.ok 0) := ⟨⟨rfl, hn, hR.2.2.2.1.2.2.1⟩, rfl, Nat.zero_le _, rfl⟩
