/-! THE REFERENCE: laws, level by level -/
set_option maxHeartbeats 8000000 in
set_option maxRecDepth 20000 in
theorem n_unit_bd {d : Nat} {x : XS} (h5 : ¬ x 137 5 = -1) : MM mX10_readUnit (d + 1) 0 0 [.ref 137] x (fun v y => v = none ∧ y = x) NoT := by
  refine MM.of (by decide) (Nat.le_of_ble_eq_true rfl) ?_
  have y137 := lay_137
  refine r_aload_n dX10_readUnit_0 rfl (by rfl) ?_
  refine r_callV (n_fine_f h5) mv_X10_fine ml_X10_130 ⟨by omega, by decide⟩ dX10_readUnit_1 (by first | assumption | rfl) rfl rfl rfl (Nat.le_of_ble_eq_true rfl) (fun v9 x9 h9 => ?_)
  obtain ⟨rfl, h9⟩ := h9
  refine PW.xeq h9 ?_
  clear h9 x9
  refine r_if_neB (tgt := 8) dX10_readUnit_4 (by decide) (fun h4 => ?_) (fun h4 => ?_)
  · exact absurd h4 (by decide)
  · refine r_ret rfl dX10_readUnit_7 ?_
    exact ⟨rfl, rfl⟩
theorem unit_b {g : Nat → Nat} {len d o : Nat} {u : Nat → LR} {e : PE} {x : XS} (hL : LSt x g len o (.error e)) : MM mX10_readUnit (d + 1) 0 0 [.ref 137] x (fun v y => v = none ∧ LSt y g len o (app (.error e) u) ∧ LK x y) NoT := by
  refine MM.imp (n_unit_bd (PSt.bad (e := e) hL.1)) (fun v y q => ?_)
  obtain ⟨rfl, rfl⟩ := q
  exact ⟨rfl, hL, LK.rfl⟩
theorem sum_LPR {g : Nat → Nat} {len d o : Nat} {u : Nat → LR} (hd : 1 ≤ d) (hu : LPR g len mX10_readUnit d o u) (hLen : LenOK len u) : LPR g len mX10_readSum (d + 1 + 1) o (pSumOf g len u) := fun _ _ hL => n_readSum (by omega) (fun _ _ hL => n_readProduct hd hu hLen hL) hLen.chain hL
theorem unit_all {g : Nat → Nat} {len : Nat} (hg : ∀ j, j < 600 → g j < 256) (hl : len ≤ 600) : ∀ lev, lev ≤ 6 → LPR g len mX10_readUnit (8 + 4 * lev) (6 - lev) (pUnit g len lev)
  | 0, _ => fun r x hL => by
    cases r with
    | error e => exact unit_b (d := 7) hL
    | ok p => exact n_unit0 (d := 6) (l := p.1) (a := p.2) (by decide) hL
  | lev + 1, h => fun r x hL => by
    have ih := sum_LPR (by omega) (unit_all hg hl lev (by omega)) (LenOK.all hg hl lev)
    cases r with
    | error e => exact unit_b (d := 8 + 4 * lev + 3) hL
    | ok p => exact n_unitS (d := 8 + 4 * lev + 1 + 1) (o := 6 - (lev + 1)) (l := p.1) (a := p.2) (by omega) (by rw [show 6 - (lev + 1) + 1 = 6 - lev by omega]; exact ih) (by omega) hL
theorem law_LPR {g : Nat → Nat} {len : Nat} (hg : ∀ j, j < 600 → g j < 256) (hl : len ≤ 600) : LPR g len mX10_readSum 34 0 (pSum g len 6) := sum_LPR (d := 32) (by decide) (unit_all hg hl 6 (Nat.le_refl _)) (LenOK.all hg hl 6)
