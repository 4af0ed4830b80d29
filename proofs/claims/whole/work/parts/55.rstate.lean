/-! THE REFERENCE's cells, by the abstract state -/
def RRf (x : XS) (a : AS) : Prop := RRe x (aE a) ∧ x 137 19 = eW (aE a) ∧ RRow (aR a) (x 153) ∧ (x 137 2 = nI (aH a) ∧ aH a ≤ 600 ∧ (∀ j, j < 600 → x 139 j = nI (aT a j) ∧ aT a j < 256) ∧ x 137 8 = aP a) ∧ (x 137 45 = nI (aB a).length ∧ (aB a).length ≤ 8 ∧ ∀ (j : Nat) (q : Nat × Nat), (aB a)[j]? = some q → x 159 (2 * j) = nI q.1 ∧ x 159 (2 * j + 1) = nI q.2 ∧ q.1 < 240 ∧ q.2 < 41) ∧ (x 137 32 = nI (aWn a) ∧ aWn a ≤ 16 ∧ ∀ i, i < aWn a → RRow (aW a i) (fun k => x 155 (42 * i + k))) ∧ (x 137 52 = nI (aIn a) ∧ aIn a ≤ 3 ∧ ∀ i, i < aIn a → RRow (aI a i) (fun k => x 162 (715 * i + k)) ∧ (aJ a i).1 ≤ 16 ∧ x 162 (715 * i + 714) = nI (aJ a i).1 ∧ ∀ j, j < (aJ a i).1 → RRow ((aJ a i).2 j) (fun k => x 162 (715 * i + 42 + (42 * j + k)))) ∧ x 137 33 = aRf a ∧ x 138 0 = aU a ∧ x 138 1 = aX a
/-- cells that asking may change -/
def QF (x y : XS) : Prop := (∀ c, c ≠ 137 → c ≠ 149 → c ≠ 150 → c ≠ 154 → c ≠ 156 → c ≠ 157 → c ≠ 160 → c ≠ 161 → y c = x c) ∧ ∀ k, k ≠ 0 → k ≠ 42 → k ≠ 47 → k ≠ 49 → k ≠ 50 → y 137 k = x 137 k
theorem QF.rfl {x : XS} : QF x x := ⟨fun _ _ _ _ _ _ _ _ _ => _root_.rfl, fun _ _ _ _ _ _ => _root_.rfl⟩
theorem QF.trans {x y z : XS} (h : QF x y) (h2 : QF y z) : QF x z := ⟨fun c a1 a2 a3 a4 a5 a6 a7 a8 => (h2.1 c a1 a2 a3 a4 a5 a6 a7 a8).trans (h.1 c a1 a2 a3 a4 a5 a6 a7 a8), fun k a1 a2 a3 a4 a5 => (h2.2 k a1 a2 a3 a4 a5).trans (h.2 k a1 a2 a3 a4 a5)⟩
theorem MF.qf {x y : XS} (h : MF x y) : QF x y := ⟨fun c a1 a2 a3 a4 a5 a6 _ _ => h c a2 a3 a4 a5 a6, fun k _ _ _ _ _ => by rw [h 137 (by decide) (by decide) (by decide) (by decide) (by decide)]⟩
theorem MF.th {x y : XS} (h : MF x y) : y 137 = x 137 := h 137 (by decide) (by decide) (by decide) (by decide) (by decide)
theorem SC.qf {x y : XS} (h : SC x y) : QF x y := h.mf.qf
theorem QF.put {x y : XS} {c k : Nat} {v : Int32} (h : QF x y) (hc : c = 149 ∨ c = 150 ∨ c = 154 ∨ c = 156 ∨ c = 157 ∨ c = 160 ∨ c = 161) : QF x (xu y c k v) := ⟨fun d a1 a2 a3 a4 a5 a6 a7 a8 => (xu_n (by omega)).trans (h.1 d a1 a2 a3 a4 a5 a6 a7 a8), fun k9 a1 a2 a3 a4 a5 => by rw [xu_n (by omega)]; exact h.2 k9 a1 a2 a3 a4 a5⟩
theorem QF.row {x y : XS} {c : Nat} {r : Nat → Int32} (h : QF x y) (hc : c = 149 ∨ c = 150 ∨ c = 154 ∨ c = 156 ∨ c = 157 ∨ c = 160 ∨ c = 161) : QF x (xr y c r) := ⟨fun d a1 a2 a3 a4 a5 a6 a7 a8 => (xr_n (by omega)).trans (h.1 d a1 a2 a3 a4 a5 a6 a7 a8), fun k9 a1 a2 a3 a4 a5 => by rw [xr_n (by omega)]; exact h.2 k9 a1 a2 a3 a4 a5⟩
theorem QF.put7 {x y : XS} {k : Nat} {v : Int32} (h : QF x y) (hk : k = 0 ∨ k = 42 ∨ k = 47 ∨ k = 49 ∨ k = 50) : QF x (xu y 137 k v) := ⟨fun d a1 a2 a3 a4 a5 a6 a7 a8 => (xu_n a1).trans (h.1 d a1 a2 a3 a4 a5 a6 a7 a8), fun k9 a1 a2 a3 a4 a5 => by rw [xu_k (by omega)]; exact h.2 k9 a1 a2 a3 a4 a5⟩
theorem RRe.qf {x y : XS} {E : NE} (h : RRe x E) (t : QF x y) : RRe y E := h.fr (fun c hc => t.1 c (by omega) (by omega) (by omega) (by omega) (by omega) (by omega) (by omega) (by omega)) (t.2 18 (by decide) (by decide) (by decide) (by decide) (by decide)) (t.2 20 (by decide) (by decide) (by decide) (by decide) (by decide))
theorem RRf.of {x y : XS} {a : AS} (h : RRf x a) (e : ∀ c, c = 138 ∨ c = 139 ∨ c = 142 ∨ c = 143 ∨ c = 146 ∨ c = 147 ∨ c = 148 ∨ c = 153 ∨ c = 155 ∨ c = 159 ∨ c = 162 → y c = x c) (e7 : ∀ k, k = 2 ∨ k = 8 ∨ k = 18 ∨ k = 19 ∨ k = 20 ∨ k = 32 ∨ k = 33 ∨ k = 45 ∨ k = 52 → y 137 k = x 137 k) : RRf y a := by
  obtain ⟨h1, h2, h3, h4, h5, h6, h7, h8, h9, h10⟩ := h
  refine ⟨h1.fr (fun c hc => e c (by omega)) (e7 18 (by omega)) (e7 20 (by omega)), (e7 19 (by omega)).trans h2, ?_, ?_, ?_, ?_, ?_, (e7 33 (by omega)).trans h8, ?_, ?_⟩
  · rw [e 153 (by omega)]; exact h3
  · rw [e 139 (by omega), e7 2 (by omega), e7 8 (by omega)]; exact h4
  · rw [e 159 (by omega), e7 45 (by omega)]; exact h5
  · rw [e 155 (by omega), e7 32 (by omega)]; exact h6
  · rw [e 162 (by omega), e7 52 (by omega)]; exact h7
  · rw [e 138 (by omega)]; exact h9
  · rw [e 138 (by omega)]; exact h10
theorem RRf.qf {x y : XS} {a : AS} (h : RRf x a) (t : QF x y) : RRf y a := h.of (fun c hc => t.1 c (by omega) (by omega) (by omega) (by omega) (by omega) (by omega) (by omega) (by omega)) (fun k hk => t.2 k (by omega) (by omega) (by omega) (by omega) (by omega))
def LO (x y : XS) : Prop := ∀ c, c < 137 → y c = x c
theorem QF.lo {x y : XS} (h : QF x y) : LO x y := fun c hc => h.1 c (by omega) (by omega) (by omega) (by omega) (by omega) (by omega) (by omega) (by omega)
def RP (x : XS) (r : Except Nat Int32) (a' : AS) (c1 : Nat) : Option Value → XS → Prop := fun v y => RRf y a' ∧ LO x y ∧ (match r with
  | .ok w => v = some (.int w) ∧ y 137 0 = nI 0
  | .error k => (∃ u, v = some (.int u)) ∧ y 137 0 = nI (if k = 0 then 1 else c1))
def RASK (M : MD) (as : List Value) (x : XS) (a : AS) (r : Except Nat Int32) (c1 : Nat) : Prop := MM M 40 0 0 as x (RP x r (bmp a r) c1) NoT
abbrev th0 (x : XS) : XS := xu x 137 0 (nI 0)
def mayX (x : XS) (code kind : Nat) : XS := xu (xu x 137 0 (nI code)) 138 kind (x 138 kind + nI 1)
theorem th0_qf (x : XS) : QF x (th0 x) := QF.rfl.put7 (by omega)
theorem RRf.th {x : XS} {a : AS} (h : RRf x a) : RRf (th0 x) a := h.qf (th0_qf x)
theorem ref_ok {x y : XS} {a : AS} {r : Except Nat Int32} {w : Int32} {c1 : Nat} (hR : RRf x a) (q : QF x y) (h0 : y 137 0 = nI 0) (h : r = .ok w) : RP x r (bmp a r) c1 (some (.int w)) y := by
  subst h
  exact ⟨hR.qf q, q.lo, rfl, h0⟩
theorem ref_bad {x y : XS} {a : AS} {r : Except Nat Int32} {u : Int32} {c1 : Nat} (hR : RRf x a) (hy : y = mayX (th0 x) c1 1) (h : r = .error 1) : RP x r (bmp a r) c1 (some (.int u)) y := by
  subst h
  subst hy
  obtain ⟨h1, h2, h3, h4, h5, h6, h7, h8, h9, h10⟩ := hR
  refine ⟨⟨h1.fr (fun c hc => by unfold mayX th0; rw [xu_n (by omega), xu_n (by omega), xu_n (by omega)]) rfl rfl, h2, h3, h4, h5, h6, h7, h8, h9, ?_⟩, fun c hc => by unfold mayX th0; rw [xu_n (by omega), xu_n (by omega), xu_n (by omega)], ⟨u, rfl⟩, rfl⟩
  show x 138 1 + nI 1 = aX a + nI 1
  rw [h10]
theorem ref_nob {x y : XS} {a : AS} {r : Except Nat Int32} {u : Int32} {c1 : Nat} (hR : RRf x a) (hy : y = mayX (th0 x) 1 0) (h : r = .error 0) : RP x r (bmp a r) c1 (some (.int u)) y := by
  subst h
  subst hy
  obtain ⟨h1, h2, h3, h4, h5, h6, h7, h8, h9, h10⟩ := hR
  refine ⟨⟨h1.fr (fun c hc => by unfold mayX th0; rw [xu_n (by omega), xu_n (by omega), xu_n (by omega)]) rfl rfl, h2, h3, h4, h5, h6, h7, h8, ?_, h10⟩, fun c hc => by unfold mayX th0; rw [xu_n (by omega), xu_n (by omega), xu_n (by omega)], ⟨u, rfl⟩, rfl⟩
  show x 138 0 + nI 1 = aU a + nI 1
  rw [h9]
section CaseB3
variable {M : MD} {R : Room} {mc ms : Nat} {Post : Option Value → XS → Prop} {PT : String → XS → Prop} {pc : Nat} {L : List (Nat × Value)} {st : List Value} {x : XS}
theorem PW.caseB3 {b : Bool} {u w : Value} (ht : b = true → PW M R mc ms Post PT pc L (u :: w :: .int (bI true) :: st) x) (hf : b = false → PW M R mc ms Post PT pc L (u :: w :: .int (bI false) :: st) x) : PW M R mc ms Post PT pc L (u :: w :: .int (bI b) :: st) x := by
  cases b with
  | true => exact ht rfl
  | false => exact hf rfl
end CaseB3
set_option maxHeartbeats 8000000 in
set_option maxRecDepth 20000 in
theorem c_may_t {code kind : Nat} {x : XS} (h0 : x 137 0 = nI 0) : MM mX10_may 0 0 0 [.ref 137, .int (bI true), .int (nI code), .int (nI kind)] x (fun v y => v = some (.int (bI true)) ∧ y = x) NoT := by
  refine MM.of (by decide) (Nat.le_of_ble_eq_true rfl) ?_
  have y137 := lay_137
  refine r_iload_n dX10_may_0 rfl (by rfl) ?_
  refine r_if_neB (tgt := 26) dX10_may_1 (by decide) (fun _ => ?_) (fun h => by cases h)
  refine r_aload_n dX10_may_26 rfl (by rfl) ?_
  refine gf_X10_3 rfl dX10_may_27 (by first | assumption | rfl) (by rfl) ?_
  refine PW.topi h0 ?_
  refine r_if_ne (tgt := 37) dX10_may_30 (by decide) (fun h => absurd (show nI 0 = 0 from rfl) h) (fun _ => ?_)
  refine r_iconst (v := nI 1) dX10_may_33 (by decide) ?_
  refine r_goto (tgt := 38) dX10_may_34 (by decide) ?_
  refine r_zret rfl (by first | exact bI_01 _ | exact Or.inl rfl | exact Or.inr rfl) dX10_may_38 ?_
  exact ⟨rfl, rfl⟩
set_option maxHeartbeats 8000000 in
set_option maxRecDepth 20000 in
theorem c_may_f {code kind : Nat} {x : XS} (h0 : x 137 0 = nI 0) (hc : 0 < code ∧ code < 100) (hk : kind < 2) : MM mX10_may 0 0 0 [.ref 137, .int (bI false), .int (nI code), .int (nI kind)] x (fun v y => v = some (.int (bI false)) ∧ y = mayX x code kind) NoT := by
  refine MM.of (by decide) (Nat.le_of_ble_eq_true rfl) ?_
  have y137 := lay_137
  have y138 := lay_138
  refine r_iload_n dX10_may_0 rfl (by rfl) ?_
  refine r_if_neB (tgt := 26) dX10_may_1 (by decide) (fun h => by cases h) (fun _ => ?_)
  refine r_aload_n dX10_may_4 rfl (by rfl) ?_
  refine gf_X10_3 rfl dX10_may_5 (by first | assumption | rfl) (by rfl) ?_
  refine PW.topi h0 ?_
  refine r_if_ne (tgt := 26) dX10_may_8 (by decide) (fun h => absurd (show nI 0 = 0 from rfl) h) (fun _ => ?_)
  refine r_aload_n dX10_may_11 rfl (by rfl) ?_
  refine r_iload_n dX10_may_12 rfl (by rfl) ?_
  refine pf_X10_3 rfl dX10_may_13 (by first | assumption | rfl) (by rfl) ?_
  refine r_aload_n dX10_may_16 rfl (by rfl) ?_
  refine gf_X10_7 rfl dX10_may_17 (by first | assumption | rfl) (by rfl) ?_
  refine r_iload_n dX10_may_20 rfl (by rfl) ?_
  refine r_dup2 dX10_may_21 rfl rfl ?_
  refine r_ialdN dX10_may_22 (by first | assumption | rfl) (by omega) (by decide) ?_
  refine r_iconst (v := nI 1) dX10_may_23 (by decide) ?_
  refine r_iadd dX10_may_24 ?_
  refine r_iastN dX10_may_25 (by first | assumption | rfl) (by omega) (by decide) ?_
  refine r_aload_n dX10_may_26 rfl (by rfl) ?_
  refine gf_X10_3 rfl dX10_may_27 (by first | assumption | rfl) (by rfl) ?_
  refine PW.topi (show _ = nI code from rfl) ?_
  refine r_if_ne (tgt := 37) dX10_may_30 (by decide) (fun _ => ?_) (fun h => absurd h (nI_ne0 (by omega) (by omega)))
  refine r_iconst (v := nI 0) dX10_may_37 (by decide) ?_
  refine r_zret rfl (by first | exact bI_01 _ | exact Or.inl rfl | exact Or.inr rfl) dX10_may_38 ?_
  exact ⟨rfl, rfl⟩
theorem c_may_1 {code kind : Nat} {x : XS} (h0 : x 137 0 = nI 0) : MM mX10_may 0 0 0 [.ref 137, .int (nI 1), .int (nI code), .int (nI kind)] x (fun v y => v = some (.int (bI true)) ∧ y = x) NoT := c_may_t h0
theorem c_may_0 {code kind : Nat} {x : XS} (h0 : x 137 0 = nI 0) (hc : 0 < code ∧ code < 100) (hk : kind < 2) : MM mX10_may 0 0 0 [.ref 137, .int (nI 0), .int (nI code), .int (nI kind)] x (fun v y => v = some (.int (bI false)) ∧ y = mayX x code kind) NoT := c_may_f h0 hc hk
set_option maxHeartbeats 8000000 in
set_option maxRecDepth 20000 in
theorem c_within10 {v lo hi : Int32} {x : XS} : MM mX10_within 0 0 0 [.int v, .int lo, .int hi] x (fun w x1 => w = some (.int (bI (inB v lo hi))) ∧ x1 = x) NoT := by
  refine MM.of (by decide) (Nat.le_of_ble_eq_true rfl) ?_
  refine r_iload_n dX10_within_0 rfl (by rfl) ?_
  refine r_iload_n dX10_within_1 rfl (by rfl) ?_
  refine r_icmp_lt (tgt := 14) dX10_within_2 (by decide) (fun h2 => ?_) (fun h2 => ?_)
  · refine r_iconst (v := nI 0) dX10_within_14 (by decide) ?_
    refine r_zret rfl (by first | exact bI_01 _ | exact Or.inl rfl | exact Or.inr rfl) dX10_within_15 ?_
    refine ⟨?_, rfl⟩
    unfold inB
    first
      | (rw [decide_eq_false (Int32.not_le.mpr h2)]; rfl)
      | (rw [decide_eq_true (Int32.not_lt.mp h2), decide_eq_false (Int32.not_le.mpr h7)]; rfl)
      | (rw [decide_eq_true (Int32.not_lt.mp h2), decide_eq_true (Int32.not_lt.mp h7)]; rfl)
  · refine r_iload_n dX10_within_5 rfl (by rfl) ?_
    refine r_iload_n dX10_within_6 rfl (by rfl) ?_
    refine r_icmp_gt (tgt := 14) dX10_within_7 (by decide) (fun h7 => ?_) (fun h7 => ?_)
    · refine r_iconst (v := nI 0) dX10_within_14 (by decide) ?_
      refine r_zret rfl (by first | exact bI_01 _ | exact Or.inl rfl | exact Or.inr rfl) dX10_within_15 ?_
      refine ⟨?_, rfl⟩
      unfold inB
      first
        | (rw [decide_eq_false (Int32.not_le.mpr h2)]; rfl)
        | (rw [decide_eq_true (Int32.not_lt.mp h2), decide_eq_false (Int32.not_le.mpr h7)]; rfl)
        | (rw [decide_eq_true (Int32.not_lt.mp h2), decide_eq_true (Int32.not_lt.mp h7)]; rfl)
    · refine r_iconst (v := nI 1) dX10_within_10 (by decide) ?_
      refine r_goto (tgt := 15) dX10_within_11 (by decide) ?_
      refine r_zret rfl (by first | exact bI_01 _ | exact Or.inl rfl | exact Or.inr rfl) dX10_within_15 ?_
      refine ⟨?_, rfl⟩
      unfold inB
      first
        | (rw [decide_eq_false (Int32.not_le.mpr h2)]; rfl)
        | (rw [decide_eq_true (Int32.not_lt.mp h2), decide_eq_false (Int32.not_le.mpr h7)]; rfl)
        | (rw [decide_eq_true (Int32.not_lt.mp h2), decide_eq_true (Int32.not_lt.mp h7)]; rfl)
set_option maxHeartbeats 8000000 in
set_option maxRecDepth 20000 in
theorem c_isMany {v : Int32} {x : XS} : MM mX10_isMany 0 0 0 [.int v] x (fun w x1 => w = some (.int (bI (inB v (nI 0) (nI 240)))) ∧ x1 = x) NoT := by
  refine MM.of (by decide) (Nat.le_of_ble_eq_true rfl) ?_
  refine r_iload_n dX10_isMany_0 rfl (by rfl) ?_
  refine r_if_lt (tgt := 15) dX10_isMany_1 (by decide) (fun h1 => ?_) (fun h1 => ?_)
  · refine r_iconst (v := nI 0) dX10_isMany_15 (by decide) ?_
    refine r_zret rfl (by first | exact bI_01 _ | exact Or.inl rfl | exact Or.inr rfl) dX10_isMany_16 ?_
    refine ⟨?_, rfl⟩
    unfold inB
    first
      | (rw [decide_eq_false (Int32.not_le.mpr (show v < nI 0 from h1))]; rfl)
      | (rw [decide_eq_true (Int32.not_lt.mp (show ¬ v < nI 0 from h1)), decide_eq_false (Int32.not_le.mpr h8)]; rfl)
      | (rw [decide_eq_true (Int32.not_lt.mp (show ¬ v < nI 0 from h1)), decide_eq_true (Int32.not_lt.mp h8)]; rfl)
  · refine r_iload_n dX10_isMany_4 rfl (by rfl) ?_
    refine r_sipush (v := nI 240) dX10_isMany_5 (by decide) ?_
    refine r_icmp_gt (tgt := 15) dX10_isMany_8 (by decide) (fun h8 => ?_) (fun h8 => ?_)
    · refine r_iconst (v := nI 0) dX10_isMany_15 (by decide) ?_
      refine r_zret rfl (by first | exact bI_01 _ | exact Or.inl rfl | exact Or.inr rfl) dX10_isMany_16 ?_
      refine ⟨?_, rfl⟩
      unfold inB
      first
        | (rw [decide_eq_false (Int32.not_le.mpr (show v < nI 0 from h1))]; rfl)
        | (rw [decide_eq_true (Int32.not_lt.mp (show ¬ v < nI 0 from h1)), decide_eq_false (Int32.not_le.mpr h8)]; rfl)
        | (rw [decide_eq_true (Int32.not_lt.mp (show ¬ v < nI 0 from h1)), decide_eq_true (Int32.not_lt.mp h8)]; rfl)
    · refine r_iconst (v := nI 1) dX10_isMany_11 (by decide) ?_
      refine r_goto (tgt := 16) dX10_isMany_12 (by decide) ?_
      refine r_zret rfl (by first | exact bI_01 _ | exact Or.inl rfl | exact Or.inr rfl) dX10_isMany_16 ?_
      refine ⟨?_, rfl⟩
      unfold inB
      first
        | (rw [decide_eq_false (Int32.not_le.mpr (show v < nI 0 from h1))]; rfl)
        | (rw [decide_eq_true (Int32.not_lt.mp (show ¬ v < nI 0 from h1)), decide_eq_false (Int32.not_le.mpr h8)]; rfl)
        | (rw [decide_eq_true (Int32.not_lt.mp (show ¬ v < nI 0 from h1)), decide_eq_true (Int32.not_lt.mp h8)]; rfl)
set_option maxHeartbeats 8000000 in
set_option maxRecDepth 20000 in
theorem c_isFew {v : Int32} {x : XS} : MM mX10_isFew 0 0 0 [.int v] x (fun w x1 => w = some (.int (bI (inB v (nI 0) (nI 120)))) ∧ x1 = x) NoT := by
  refine MM.of (by decide) (Nat.le_of_ble_eq_true rfl) ?_
  refine r_iload_n dX10_isFew_0 rfl (by rfl) ?_
  refine r_if_lt (tgt := 14) dX10_isFew_1 (by decide) (fun h1 => ?_) (fun h1 => ?_)
  · refine r_iconst (v := nI 0) dX10_isFew_14 (by decide) ?_
    refine r_zret rfl (by first | exact bI_01 _ | exact Or.inl rfl | exact Or.inr rfl) dX10_isFew_15 ?_
    refine ⟨?_, rfl⟩
    unfold inB
    first
      | (rw [decide_eq_false (Int32.not_le.mpr (show v < nI 0 from h1))]; rfl)
      | (rw [decide_eq_true (Int32.not_lt.mp (show ¬ v < nI 0 from h1)), decide_eq_false (Int32.not_le.mpr h7)]; rfl)
      | (rw [decide_eq_true (Int32.not_lt.mp (show ¬ v < nI 0 from h1)), decide_eq_true (Int32.not_lt.mp h7)]; rfl)
  · refine r_iload_n dX10_isFew_4 rfl (by rfl) ?_
    refine r_bipush (v := nI 120) dX10_isFew_5 (by decide) ?_
    refine r_icmp_gt (tgt := 14) dX10_isFew_7 (by decide) (fun h7 => ?_) (fun h7 => ?_)
    · refine r_iconst (v := nI 0) dX10_isFew_14 (by decide) ?_
      refine r_zret rfl (by first | exact bI_01 _ | exact Or.inl rfl | exact Or.inr rfl) dX10_isFew_15 ?_
      refine ⟨?_, rfl⟩
      unfold inB
      first
        | (rw [decide_eq_false (Int32.not_le.mpr (show v < nI 0 from h1))]; rfl)
        | (rw [decide_eq_true (Int32.not_lt.mp (show ¬ v < nI 0 from h1)), decide_eq_false (Int32.not_le.mpr h7)]; rfl)
        | (rw [decide_eq_true (Int32.not_lt.mp (show ¬ v < nI 0 from h1)), decide_eq_true (Int32.not_lt.mp h7)]; rfl)
    · refine r_iconst (v := nI 1) dX10_isFew_10 (by decide) ?_
      refine r_goto (tgt := 15) dX10_isFew_11 (by decide) ?_
      refine r_zret rfl (by first | exact bI_01 _ | exact Or.inl rfl | exact Or.inr rfl) dX10_isFew_15 ?_
      refine ⟨?_, rfl⟩
      unfold inB
      first
        | (rw [decide_eq_false (Int32.not_le.mpr (show v < nI 0 from h1))]; rfl)
        | (rw [decide_eq_true (Int32.not_lt.mp (show ¬ v < nI 0 from h1)), decide_eq_false (Int32.not_le.mpr h7)]; rfl)
        | (rw [decide_eq_true (Int32.not_lt.mp (show ¬ v < nI 0 from h1)), decide_eq_true (Int32.not_lt.mp h7)]; rfl)
set_option maxHeartbeats 8000000 in
set_option maxRecDepth 20000 in
theorem c_isS_t {n p : Nat} {x : XS} (hn : x 137 18 = nI n) (hn5 : n ≤ 5) (h0 : x 137 0 = nI 0) (hp : p < n) : MM mX10_isSleeper 1 0 0 [.ref 137, .int (nI p), .int (nI 1)] x (fun v y => v = some (.int (bI true)) ∧ y = x) NoT := by
  refine MM.of (by decide) (Nat.le_of_ble_eq_true rfl) ?_
  have y137 := lay_137
  refine r_aload_n dX10_isSleeper_0 rfl (by rfl) ?_
  refine r_iload_n dX10_isSleeper_1 rfl (by rfl) ?_
  refine r_iconst (v := nI 0) dX10_isSleeper_2 (by decide) ?_
  refine r_aload_n dX10_isSleeper_3 rfl (by rfl) ?_
  refine gf_X10_156 rfl dX10_isSleeper_4 (by first | assumption | rfl) (by rfl) ?_
  refine PW.topi hn ?_
  refine r_iconst (v := nI 1) dX10_isSleeper_7 (by decide) ?_
  refine r_isubN dX10_isSleeper_8 (by omega) ?_
  refine r_callS c_within10 ms_X10_within ml_X10_282 ⟨by decide, by decide⟩ dX10_isSleeper_9 rfl (Nat.le_of_ble_eq_true rfl) (fun v9 x9 h9 => ?_)
  obtain ⟨rfl, h9⟩ := h9
  refine PW.xeq h9 ?_
  clear h9 x9
  refine PW.topB (inB_N (Nat.zero_le _) (show p ≤ n - 1 by omega) (by omega)) ?_
  refine r_iload_n dX10_isSleeper_12 rfl (by rfl) ?_
  refine r_iconst (v := nI 0) dX10_isSleeper_13 (by decide) ?_
  refine r_callV (c_may_t h0) mv_X10_may ml_X10_203 ⟨by decide, by decide⟩ dX10_isSleeper_14 (by first | assumption | rfl) rfl rfl rfl (Nat.le_of_ble_eq_true rfl) (fun v9 x9 h9 => ?_)
  obtain ⟨rfl, h9⟩ := h9
  refine PW.xeq h9 ?_
  clear h9 x9
  refine r_zret rfl (by first | exact bI_01 _ | exact Or.inl rfl | exact Or.inr rfl) dX10_isSleeper_17 ?_
  exact ⟨rfl, rfl⟩
set_option maxHeartbeats 8000000 in
set_option maxRecDepth 20000 in
theorem c_isS_f {n : Nat} {v : Int32} {x : XS} (hn : x 137 18 = nI n) (h0 : x 137 0 = nI 0) (hb : nobody v n = true) : MM mX10_isSleeper 1 0 0 [.ref 137, .int v, .int (nI 1)] x (fun w y => w = some (.int (bI false)) ∧ y = mayX x 1 0) NoT := by
  refine MM.of (by decide) (Nat.le_of_ble_eq_true rfl) ?_
  have y137 := lay_137
  refine r_aload_n dX10_isSleeper_0 rfl (by rfl) ?_
  refine r_iload_n dX10_isSleeper_1 rfl (by rfl) ?_
  refine r_iconst (v := nI 0) dX10_isSleeper_2 (by decide) ?_
  refine r_aload_n dX10_isSleeper_3 rfl (by rfl) ?_
  refine gf_X10_156 rfl dX10_isSleeper_4 (by first | assumption | rfl) (by rfl) ?_
  refine PW.topi hn ?_
  refine r_iconst (v := nI 1) dX10_isSleeper_7 (by decide) ?_
  refine r_isub dX10_isSleeper_8 ?_
  refine r_callS c_within10 ms_X10_within ml_X10_282 ⟨by decide, by decide⟩ dX10_isSleeper_9 rfl (Nat.le_of_ble_eq_true rfl) (fun v9 x9 h9 => ?_)
  obtain ⟨rfl, h9⟩ := h9
  refine PW.xeq h9 ?_
  clear h9 x9
  refine PW.topB (show _ = false by unfold nobody at hb; cases q : inB v (nI 0) (nI n - nI 1) <;> simp_all) ?_
  refine r_iload_n dX10_isSleeper_12 rfl (by rfl) ?_
  refine r_iconst (v := nI 0) dX10_isSleeper_13 (by decide) ?_
  refine r_callV (c_may_f h0 (by decide) (by decide)) mv_X10_may ml_X10_203 ⟨by decide, by decide⟩ dX10_isSleeper_14 (by first | assumption | rfl) rfl rfl rfl (Nat.le_of_ble_eq_true rfl) (fun v9 x9 h9 => ?_)
  obtain ⟨rfl, h9⟩ := h9
  refine PW.xeq h9 ?_
  clear h9 x9
  refine r_zret rfl (by first | exact bI_01 _ | exact Or.inl rfl | exact Or.inr rfl) dX10_isSleeper_17 ?_
  exact ⟨rfl, rfl⟩
theorem sumR_RR {f g : Nat → Int32} (h : RRow f g) : ∀ n, n ≤ 5 → sumR g 30 n = sumR f 25 n
  | 0, _ => rfl
  | n + 1, hn => by
    show sumR g 30 n + g (30 + n) = sumR f 25 n + f (25 + n)
    rw [sumR_RR h n (by omega), (h.1 n (by omega)).2.2.2.2.2.1]
set_option maxHeartbeats 8000000 in
set_option maxRecDepth 20000 in
theorem n_sleptAll {n : Nat} {f : Nat → Int32} {x : XS} (hn : x 137 18 = nI n) (hn5 : n ≤ 5) (hr : RRow f (x 154)) : MM mX10_sleptAll 0 0 0 [.ref 137] x (fun v y => v = some (.int (sumR f 25 n)) ∧ y = x) NoT := by
  refine MM.of (by decide) (Nat.le_of_ble_eq_true rfl) ?_
  have y137 := lay_137
  have y154 := lay_154
  refine r_iconst (v := nI 0) dX10_sleptAll_0 (by decide) ?_
  refine r_istore_n dX10_sleptAll_1 rfl (by decide) ?_
  refine r_iconst (v := nI 0) dX10_sleptAll_2 (by decide) ?_
  refine r_istore_n dX10_sleptAll_3 rfl (by decide) ?_
  refine PW.loop (σ := Nat) (fun i => n - i) (fun i => i ≤ n) (fun i => [(0, .ref 137), (1, .int (sumR (x 154) 30 i)), (2, .int (nI i))]) (fun _ => x) (0) (Nat.zero_le n) rfl rfl (fun i hi ih => ?_)
  refine r_iload_n dX10_sleptAll_4 rfl (by rfl) ?_
  refine r_aload_n dX10_sleptAll_5 rfl (by rfl) ?_
  refine gf_X10_156 rfl dX10_sleptAll_6 (by first | assumption | rfl) (by rfl) ?_
  refine PW.topi hn ?_
  refine r_icmp_geN (tgt := 30) dX10_sleptAll_9 (by decide) (by omega) (by omega) (fun h9 => ?_) (fun h9 => ?_)
  · refine r_iload_n dX10_sleptAll_30 rfl (by rfl) ?_
    refine r_iret rfl dX10_sleptAll_31 ?_
    have e : i = n := by omega
    subst e
    exact ⟨by rw [sumR_RR hr i (by omega)], rfl⟩
  · refine r_iload_n dX10_sleptAll_12 rfl (by rfl) ?_
    refine r_aload_n dX10_sleptAll_13 rfl (by rfl) ?_
    refine gf_X10_65 rfl dX10_sleptAll_14 (by first | assumption | rfl) (by rfl) ?_
    refine r_bipush (v := nI 30) dX10_sleptAll_17 (by decide) ?_
    refine r_iload_n dX10_sleptAll_19 rfl (by rfl) ?_
    refine r_iaddN dX10_sleptAll_20 ?_
    refine r_ialdN dX10_sleptAll_21 (by first | assumption | rfl) (by omega) (by decide) ?_
    refine r_iadd dX10_sleptAll_22 ?_
    refine r_istore_n dX10_sleptAll_23 rfl (by decide) ?_
    refine r_iincN dX10_sleptAll_24 (by rfl) (by decide) ?_
    refine r_goto (tgt := 4) dX10_sleptAll_27 (by decide) ?_
    exact PW.lc (by rfl) rfl (ih (i + 1) (by omega) (by omega))
set_option maxHeartbeats 8000000 in
set_option maxRecDepth 20000 in
theorem n_asleepAll {n : Nat} {f : Nat → Int32} {x : XS} (hn : x 137 18 = nI n) (hn5 : n ≤ 5) (hr : RRow f (x 154)) : MM mX10_asleepAll 1 0 0 [.ref 137] x (fun v y => v = some (.int (nI (cntA f n))) ∧ y = x) NoT := by
  refine MM.of (by decide) (Nat.le_of_ble_eq_true rfl) ?_
  have y137 := lay_137
  have y154 := lay_154
  refine r_iconst (v := nI 0) dX10_asleepAll_0 (by decide) ?_
  refine r_istore_n dX10_asleepAll_1 rfl (by decide) ?_
  refine r_iconst (v := nI 0) dX10_asleepAll_2 (by decide) ?_
  refine r_istore_n dX10_asleepAll_3 rfl (by decide) ?_
  refine PW.loop (σ := Nat) (fun i => n - i) (fun i => i ≤ n) (fun i => [(0, .ref 137), (1, .int (nI (cntA f i))), (2, .int (nI i))]) (fun _ => x) (0) (Nat.zero_le n) rfl rfl (fun i hi ih => ?_)
  refine r_iload_n dX10_asleepAll_4 rfl (by rfl) ?_
  refine r_aload_n dX10_asleepAll_5 rfl (by rfl) ?_
  refine gf_X10_156 rfl dX10_asleepAll_6 (by first | assumption | rfl) (by rfl) ?_
  refine PW.topi hn ?_
  refine r_icmp_geN (tgt := 34) dX10_asleepAll_9 (by decide) (by omega) (by omega) (fun h9 => ?_) (fun h9 => ?_)
  · refine r_iload_n dX10_asleepAll_34 rfl (by rfl) ?_
    refine r_iret rfl dX10_asleepAll_35 ?_
    have e : i = n := by omega
    subst e
    exact ⟨rfl, rfl⟩
  · refine r_iload_n dX10_asleepAll_12 rfl (by rfl) ?_
    refine r_aload_n dX10_asleepAll_13 rfl (by rfl) ?_
    refine r_iload_n dX10_asleepAll_14 rfl (by rfl) ?_
    refine r_callV (n_isAsleep hr (by omega)) mv_X10_isAsleep ml_X10_343 ⟨by decide, by decide⟩ dX10_asleepAll_15 (by first | assumption | rfl) rfl rfl rfl (Nat.le_of_ble_eq_true rfl) (fun v9 x9 h9 => ?_)
    obtain ⟨rfl, h9⟩ := h9
    refine PW.xeq h9 ?_
    clear h9 x9
    refine r_if_eqB (tgt := 25) dX10_asleepAll_18 (by decide) (fun h18 => ?_) (fun h18 => ?_)
    · refine r_iconst (v := nI 0) dX10_asleepAll_25 (by decide) ?_
      have e9 : cntA f (i + 1) = cntA f i + (if asl f i then 1 else 0) := rfl
      rw [h18] at e9
      refine r_iaddN dX10_asleepAll_26 ?_
      refine r_istore_n dX10_asleepAll_27 rfl (by decide) ?_
      refine r_iincN dX10_asleepAll_28 (by rfl) (by decide) ?_
      refine r_goto (tgt := 4) dX10_asleepAll_31 (by decide) ?_
      exact PW.lc (by (try dsimp only); rw [e9]; rfl) rfl (ih (i + 1) (by omega) (by omega))
    · refine r_iconst (v := nI 1) dX10_asleepAll_21 (by decide) ?_
      refine r_goto (tgt := 26) dX10_asleepAll_22 (by decide) ?_
      have e9 : cntA f (i + 1) = cntA f i + (if asl f i then 1 else 0) := rfl
      rw [h18] at e9
      refine r_iaddN dX10_asleepAll_26 ?_
      refine r_istore_n dX10_asleepAll_27 rfl (by decide) ?_
      refine r_iincN dX10_asleepAll_28 (by rfl) (by decide) ?_
      refine r_goto (tgt := 4) dX10_asleepAll_31 (by decide) ?_
      exact PW.lc (by (try dsimp only); rw [e9]; rfl) rfl (ih (i + 1) (by omega) (by omega))
theorem RT.step {x : XS} {E : NE} {w k : Int32} {f rd : Nat → Int32} {t i : Nat} (h : RT x E w k (minP E w rd k f) (if min (t + i) 240 < 240 then min (t + i) 240 + 1 else min (t + i) 240) rd) : RT x E w k (minP E w rd k f) (min (t + (i + 1)) 240) rd := by
  rw [show min (t + (i + 1)) 240 = (if min (t + i) 240 < 240 then min (t + i) 240 + 1 else min (t + i) 240) by split <;> omega]
  exact h
set_option maxHeartbeats 8000000 in
set_option maxRecDepth 20000 in
theorem n_goesOn {E : NE} {w : Int32} {f rd : Nat → Int32} {t m : Nat} {x : XS} (hT : RT x E w (nI 0) f t rd) (hm : m < 2 ^ 30) : MM mX10_goesOn 7 0 0 [.ref 137, .int (nI m)] x (fun v y => v = some (.int (sumR (itP E w rd f m) 25 (eN E) - sumR f 25 (eN E))) ∧ RT y E w (nI 0) (itP E w rd f m) (min (t + m) 240) rd ∧ MF x y) NoT := by
  refine MM.of (by decide) (Nat.le_of_ble_eq_true rfl) ?_
  have y137 := lay_137
  refine r_aload_n dX10_goesOn_0 rfl (by rfl) ?_
  refine r_callV (n_sleptAll hT.1.1.1 hT.1.1.2.1 hT.1.2.2.2.1) mv_X10_sleptAll ml_X10_377 ⟨by decide, by decide⟩ dX10_goesOn_1 (by first | assumption | rfl) rfl rfl rfl (Nat.le_of_ble_eq_true rfl) (fun v9 x9 h9 => ?_)
  obtain ⟨rfl, h9⟩ := h9
  refine PW.xeq h9 ?_
  clear h9 x9
  refine r_istore_n dX10_goesOn_4 rfl (by decide) ?_
  refine r_iconst (v := nI 0) dX10_goesOn_5 (by decide) ?_
  refine r_istore_n dX10_goesOn_6 rfl (by decide) ?_
  refine PW.loop (σ := Nat × XS) (fun s => m - s.1) (fun s => s.1 ≤ m ∧ RT s.2 E w (nI 0) (itP E w rd f s.1) (min (t + s.1) 240) rd ∧ MF x s.2) (fun s => [(0, .ref 137), (1, .int (nI m)), (2, .int (sumR f 25 (eN E))), (3, .int (nI s.1))]) (fun s => s.2) ((0, x)) (⟨Nat.zero_le _, (by rw [show min (t + (0, x).1) 240 = t from Nat.min_eq_left hT.2.2.1]; exact hT), MF.rfl⟩) rfl rfl (fun s hs ih => ?_)
  obtain ⟨hs1, hs2, hF⟩ := hs
  refine r_iload_n dX10_goesOn_7 rfl (by rfl) ?_
  refine r_iload_n dX10_goesOn_8 rfl (by rfl) ?_
  refine r_icmp_geN (tgt := 23) dX10_goesOn_9 (by decide) (by omega) (by omega) (fun h9 => ?_) (fun h9 => ?_)
  · refine r_aload_n dX10_goesOn_23 rfl (by rfl) ?_
    refine r_callV (n_sleptAll hs2.1.1.1 hs2.1.1.2.1 hs2.1.2.2.2.1) mv_X10_sleptAll ml_X10_377 ⟨by decide, by decide⟩ dX10_goesOn_24 (by first | assumption | rfl) rfl rfl rfl (Nat.le_of_ble_eq_true rfl) (fun v9 x9 h9 => ?_)
    obtain ⟨rfl, h9⟩ := h9
    refine PW.xeq h9 ?_
    clear h9 x9
    refine r_iload_n dX10_goesOn_27 rfl (by rfl) ?_
    refine r_isub dX10_goesOn_28 ?_
    refine r_iret rfl dX10_goesOn_29 ?_
    have e : s.1 = m := by omega
    rw [e] at hs2 ⊢
    exact ⟨rfl, hs2, hF⟩
  · refine r_aload_n dX10_goesOn_12 rfl (by rfl) ?_
    refine r_callV (n_minute hs2) mv_X10_minute ml_X10_372 ⟨by decide, by decide⟩ dX10_goesOn_13 (by first | assumption | rfl) rfl rfl rfl (Nat.le_of_ble_eq_true rfl) (fun v9 y h9 => ?_)
    obtain ⟨rfl, T1, F1⟩ := h9
    refine r_pop dX10_goesOn_16 rfl ?_
    refine r_iincN dX10_goesOn_17 (by rfl) (by decide) ?_
    refine r_goto (tgt := 7) dX10_goesOn_20 (by decide) ?_
    exact PW.lc (by rfl) rfl (ih (s.1 + 1, y) ⟨(show s.1 + 1 ≤ m by omega), RT.step T1, hF.trans F1⟩ (show m - (s.1 + 1) < m - s.1 by omega))
set_option maxHeartbeats 8000000 in
set_option maxRecDepth 20000 in
theorem n_sleepsIn {E : NE} {w : Int32} {f rd : Nat → Int32} {t m p : Nat} {x : XS} (hT : RT x E w (nI 0) f t rd) (hm : m < 2 ^ 30) (hp : p < 5) : MM mX10_sleepsIn 8 0 0 [.ref 137, .int (nI p), .int (nI m)] x (fun v y => v = some (.int (itP E w rd f m (25 + p) - f (25 + p))) ∧ MF x y) NoT := by
  refine MM.of (by decide) (Nat.le_of_ble_eq_true rfl) ?_
  have y137 := lay_137
  have y154 := lay_154
  refine r_aload_n dX10_sleepsIn_0 rfl (by rfl) ?_
  refine gf_X10_65 rfl dX10_sleepsIn_1 (by first | assumption | rfl) (by rfl) ?_
  refine r_bipush (v := nI 30) dX10_sleepsIn_4 (by decide) ?_
  refine r_iload_n dX10_sleepsIn_6 rfl (by rfl) ?_
  refine r_iaddN dX10_sleepsIn_7 ?_
  refine r_ialdN dX10_sleepsIn_8 (by first | assumption | rfl) (by omega) (by decide) ?_
  refine PW.topi (show _ = f (25 + p) from (hT.1.2.2.2.1.1 p hp).2.2.2.2.2.1) ?_
  refine r_istore_n dX10_sleepsIn_9 rfl (by decide) ?_
  refine r_aload_n dX10_sleepsIn_10 rfl (by rfl) ?_
  refine r_iload_n dX10_sleepsIn_11 rfl (by rfl) ?_
  refine r_callV (n_goesOn hT hm) mv_X10_goesOn ml_X10_389 ⟨by decide, by decide⟩ dX10_sleepsIn_12 (by first | assumption | rfl) rfl rfl rfl (Nat.le_of_ble_eq_true rfl) (fun v9 y h9 => ?_)
  obtain ⟨rfl, T1, F1⟩ := h9
  refine r_pop dX10_sleepsIn_15 rfl ?_
  refine r_aload_n dX10_sleepsIn_16 rfl (by rfl) ?_
  refine gf_X10_65 rfl dX10_sleepsIn_17 (by first | assumption | rfl) (by rfl) ?_
  refine r_bipush (v := nI 30) dX10_sleepsIn_20 (by decide) ?_
  refine r_iload_n dX10_sleepsIn_22 rfl (by rfl) ?_
  refine r_iaddN dX10_sleepsIn_23 ?_
  refine r_ialdN dX10_sleepsIn_24 (by first | assumption | rfl) (by omega) (by decide) ?_
  refine PW.topi (show _ = itP E w rd f m (25 + p) from (T1.1.2.2.2.1.1 p hp).2.2.2.2.2.1) ?_
  refine r_iload_n dX10_sleepsIn_25 rfl (by rfl) ?_
  refine r_isub dX10_sleepsIn_26 ?_
  refine r_iret rfl dX10_sleepsIn_27 ?_
  exact ⟨rfl, F1⟩
/-- behind 'take' -/
theorem take_RT {x : XS} {a : AS} (hR : RRf x a) (hA : AI a) {t : Nat} (ht : aR a 40 = nI t) (ht2 : t ≤ 240) : RT (tkR x) (aE a) (eW (aE a)) (nI 0) (aR a) t rd0 := ⟨⟨hR.1.fr (fun c hc => by unfold tkR; rw [xr_n (by omega), xu_n (by omega), xr_n (by omega)]) rfl rfl, hR.2.1, rfl, hR.2.2.1, hA.2.1⟩, ht, ht2, fun p _ => ⟨0, by decide, rfl, by rw [Nat.zero_sub]; rfl⟩, hA.1.2.2.2.2⟩
theorem take_QF (x : XS) : QF x (tkR x) := (((QF.rfl (x := x)).row (c := 154) (r := x 153) (by omega)).put7 (k := 42) (v := nI 0) (by omega)).row (c := 157) (r := rd0) (by omega)
theorem take_0 (x : XS) : tkR x 137 0 = x 137 0 := rfl
