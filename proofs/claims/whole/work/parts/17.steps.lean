/-! NIGHT: cars, steps; follow, begin -/
def zfill (f : Nat → Int32) : Nat → Nat → Int32
  | 0 => f
  | i + 1 => upd (zfill f i) i (nI 0)
def followX (x : XS) : XS := xu (xu (xr (xr x 50 (va_cpy (x 44) (x 50) 0 0 42)) 51 (zfill (x 51) 5)) 49 7 (x 3 11)) 49 8 (nI 0)
def bgR (x : XS) (f : Nat → Int32) : Nat → Nat → Int32
  | 0 => f
  | i + 1 => upd (upd (upd (bgR x f i) (0 + i) (x 4 i)) (5 + i) (x 7 i)) (35 + i) (x 10 i)
def beginX (x : XS) (n : Nat) : XS := xu (xr x 44 (bgR x (zfill (x 44) 42) n)) 43 7 (x 3 11)
/-- a step of a work: is it done, and what is behind it -/
def pfB (f : Nat → Int32) (kd p q t : Nat) : Bool := if kd = 0 then nudgeB f p q else if kd = 5 then decide (t < 240) else if kd = 4 then asl f p else if asl f p then false else pawB f kd p (nI q)
def pfX (x : XS) (c0 n sz fz kd p q : Nat) : XS := if kd = 0 then xr x (c0 + 1) (nudgeR (x (c0 + 1)) p q) else if kd = 5 then MN x c0 n sz fz (nI 0) else if kd = 4 then xr x (c0 + 1) (callR (x (c0 + 1)) p) else if asl (x (c0 + 1)) p then x else xr x (c0 + 1) (pawR (x (c0 + 1)) kd p (nI q))
set_option maxHeartbeats 8000000 in
set_option maxRecDepth 20000 in
theorem c_X6_passWithCars {c0 n sz fz t m : Nat} {s q loud : Int32} {x : XS} (hN : IsN c0) (hn : n ≤ 5) (hs : x 3 0 = nI n) (hz : x 24 1 = nI sz) (hz5 : sz ≤ 150) (hf : x 27 1 = nI fz) (hf5 : fz ≤ 150) (ht : x (c0 + 1) 40 = nI t) (ht2 : t ≤ 240) (hm : m < 2 ^ 30) : MM mX6_passWithCars 5 0 0 [.ref c0, .int s, .int q, .int loud, .int (nI m)] x (fun v x1 => v = none ∧ x1 = pcX x c0 n sz fz s q loud m) NoT := by
  refine MM.of (by decide) (Nat.le_of_ble_eq_true rfl) ?_
  have n0 := n_o hN
  have n1 := n_1 hN
  have hc := n_c hN
  have k3 : ∀ i, pcX x c0 n sz fz s q loud i 3 0 = nI n := fun i => by rw [pcX_n (by omega) (by omega) (by omega) (by omega) (by omega) (by omega) (by omega)]; exact hs
  have k24 : ∀ i, pcX x c0 n sz fz s q loud i 24 1 = nI sz := fun i => by rw [pcX_n (by omega) (by omega) (by omega) (by omega) (by omega) (by omega) (by omega)]; exact hz
  have k27 : ∀ i, pcX x c0 n sz fz s q loud i 27 1 = nI fz := fun i => by rw [pcX_n (by omega) (by omega) (by omega) (by omega) (by omega) (by omega) (by omega)]; exact hf
  have k40 : ∀ i, pcX x c0 n sz fz s q loud i (c0 + 1) 40 = nI (min (t + i) 240) := pcX_40 hc.1 hn ht ht2
  refine r_iload_n dX6_passWithCars_0 rfl (by rfl) ?_
  refine r_istore dX6_passWithCars_1 (by decide) ?_
  refine r_iconst (v := nI 0) dX6_passWithCars_3 (by decide) ?_
  refine r_istore dX6_passWithCars_4 (by decide) ?_
  refine PW.loop (σ := Nat) (fun i => m - i) (fun i => i ≤ m) (fun i => [(0, .ref c0), (1, .int s), (2, .int q), (3, .int loud), (4, .int (nI m)), (5, .int (drw s i)), (6, .int (nI i))]) (fun i => pcX x c0 n sz fz s q loud i) (0) (Nat.zero_le m) rfl rfl (fun i hi ih => ?_)
  refine r_iload dX6_passWithCars_6 (by rfl) ?_
  refine r_iload dX6_passWithCars_8 (by rfl) ?_
  refine r_icmp_geN (tgt := 87) dX6_passWithCars_10 (by decide) (by omega) (by omega) (fun h10 => ?_) (fun h10 => ?_)
  · refine r_ret rfl dX6_passWithCars_87 ?_
    have e : i = m := by omega
    subst e
    exact ⟨rfl, rfl⟩
  · refine r_iload dX6_passWithCars_13 (by rfl) ?_
    refine r_ldc kc_X6_145 dX6_passWithCars_15 ?_
    refine r_imul dX6_passWithCars_17 ?_
    refine r_sipush (v := nI 12345) dX6_passWithCars_18 (by decide) ?_
    refine r_iadd dX6_passWithCars_21 ?_
    refine PW.topi (show _ = drw s (i + 1) from rfl) ?_
    refine r_istore dX6_passWithCars_22 (by decide) ?_
    refine r_iload dX6_passWithCars_24 (by rfl) ?_
    refine r_bipush (v := nI 16) dX6_passWithCars_26 (by decide) ?_
    refine r_iushr dX6_passWithCars_28 rfl ?_
    refine r_sipush (v := nI 32767) dX6_passWithCars_29 (by decide) ?_
    refine r_iand dX6_passWithCars_32 ?_
    refine r_bipush (v := nI 16) dX6_passWithCars_33 (by decide) ?_
    refine r_irem dX6_passWithCars_35 (by decide +kernel) ?_
    refine PW.topi (show _ = dr16 (drw s (i + 1)) from rfl) ?_
    refine r_iload_n dX6_passWithCars_36 rfl (by rfl) ?_
    refine r_icmp_ge (tgt := 44) dX6_passWithCars_37 (by decide) (fun h37 => ?_) (fun h37 => ?_)
    · have hcar : carB s q i = false := decide_eq_false (Int32.not_lt.mpr h37)
      refine r_iconst (v := nI 0) dX6_passWithCars_44 (by decide) ?_
      refine r_istore dX6_passWithCars_45 (by decide) ?_
      refine r_aload_n dX6_passWithCars_47 rfl (by rfl) ?_
      refine r_dup dX6_passWithCars_48 rfl ?_
      refine gf_X6_33 rfl dX6_passWithCars_49 (by first | assumption | rfl) (by rfl) ?_
      refine r_iload dX6_passWithCars_52 (by rfl) ?_
      refine r_if_eq (tgt := 61) dX6_passWithCars_54 (by decide) (fun _ => ?_) (fun h => absurd (show nI 0 = 0 from rfl) h)
      refine r_iconst (v := nI 0) dX6_passWithCars_61 (by decide) ?_
      refine r_iadd dX6_passWithCars_62 ?_
      refine pf_X6_33 rfl dX6_passWithCars_63 (by first | assumption | rfl) (by rfl) ?_
      refine PW.xeq (x' := (xu (pcX x c0 n sz fz s q loud i) c0 8 (pcX x c0 n sz fz s q loud i c0 8 + (if carB s q i then nI 1 else nI 0)))) (by rw [hcar]; rfl) ?_
      refine r_aload_n dX6_passWithCars_66 rfl (by rfl) ?_
      refine r_iload dX6_passWithCars_67 (by rfl) ?_
      refine r_if_eq (tgt := 76) dX6_passWithCars_69 (by decide) (fun _ => ?_) (fun h => absurd (show nI 0 = 0 from rfl) h)
      refine r_iconst (v := nI 0) dX6_passWithCars_76 (by decide) ?_
      refine PW.topi (v' := if carB s q i then loud else nI 0) (by rw [hcar]; rfl) ?_
      refine r_callV (c_X6_passMinute (t := min (t + i) 240) hN hn (by rw [xu_n (by omega)]; exact k3 i) (by rw [xu_n (by omega)]; exact k24 i) hz5 (by rw [xu_n (by omega)]; exact k27 i) hf5 (by rw [xu_n (by omega)]; exact k40 i) (by omega)) mv_X6_passMinute ml_X6_135 ⟨by decide, by decide⟩ dX6_passWithCars_77 (by first | assumption | rfl) rfl rfl rfl (Nat.le_of_ble_eq_true rfl) (fun v9 x9 h9 => ?_)
      obtain ⟨rfl, h9⟩ := h9
      refine PW.xeq h9 ?_
      clear h9 x9
      refine r_pop dX6_passWithCars_80 rfl ?_
      refine r_iincN dX6_passWithCars_81 (by rfl) (by decide) ?_
      refine r_goto (tgt := 6) dX6_passWithCars_84 (by decide) ?_
      exact PW.lc (by rfl) rfl (ih (i + 1) (by omega) (by omega))
    · have hcar : carB s q i = true := decide_eq_true (Int32.not_le.mp h37)
      refine r_iconst (v := nI 1) dX6_passWithCars_40 (by decide) ?_
      refine r_goto (tgt := 45) dX6_passWithCars_41 (by decide) ?_
      refine r_istore dX6_passWithCars_45 (by decide) ?_
      refine r_aload_n dX6_passWithCars_47 rfl (by rfl) ?_
      refine r_dup dX6_passWithCars_48 rfl ?_
      refine gf_X6_33 rfl dX6_passWithCars_49 (by first | assumption | rfl) (by rfl) ?_
      refine r_iload dX6_passWithCars_52 (by rfl) ?_
      refine r_if_eq (tgt := 61) dX6_passWithCars_54 (by decide) (fun h => absurd h (by decide +kernel)) (fun _ => ?_)
      refine r_iconst (v := nI 1) dX6_passWithCars_57 (by decide) ?_
      refine r_goto (tgt := 62) dX6_passWithCars_58 (by decide) ?_
      refine r_iadd dX6_passWithCars_62 ?_
      refine pf_X6_33 rfl dX6_passWithCars_63 (by first | assumption | rfl) (by rfl) ?_
      refine PW.xeq (x' := (xu (pcX x c0 n sz fz s q loud i) c0 8 (pcX x c0 n sz fz s q loud i c0 8 + (if carB s q i then nI 1 else nI 0)))) (by rw [hcar]; rfl) ?_
      refine r_aload_n dX6_passWithCars_66 rfl (by rfl) ?_
      refine r_iload dX6_passWithCars_67 (by rfl) ?_
      refine r_if_eq (tgt := 76) dX6_passWithCars_69 (by decide) (fun h => absurd h (by decide +kernel)) (fun _ => ?_)
      refine r_iload_n dX6_passWithCars_72 rfl (by rfl) ?_
      refine r_goto (tgt := 77) dX6_passWithCars_73 (by decide) ?_
      refine PW.topi (v' := if carB s q i then loud else nI 0) (by rw [hcar]; rfl) ?_
      refine r_callV (c_X6_passMinute (t := min (t + i) 240) hN hn (by rw [xu_n (by omega)]; exact k3 i) (by rw [xu_n (by omega)]; exact k24 i) hz5 (by rw [xu_n (by omega)]; exact k27 i) hf5 (by rw [xu_n (by omega)]; exact k40 i) (by omega)) mv_X6_passMinute ml_X6_135 ⟨by decide, by decide⟩ dX6_passWithCars_77 (by first | assumption | rfl) rfl rfl rfl (Nat.le_of_ble_eq_true rfl) (fun v9 x9 h9 => ?_)
      obtain ⟨rfl, h9⟩ := h9
      refine PW.xeq h9 ?_
      clear h9 x9
      refine r_pop dX6_passWithCars_80 rfl ?_
      refine r_iincN dX6_passWithCars_81 (by rfl) (by decide) ?_
      refine r_goto (tgt := 6) dX6_passWithCars_84 (by decide) ?_
      exact PW.lc (by rfl) rfl (ih (i + 1) (by omega) (by omega))
set_option maxHeartbeats 8000000 in
set_option maxRecDepth 20000 in
theorem c_X6_perform {c0 n sz fz t kd p q : Nat} {x : XS} (hN : IsN c0) (hn : n ≤ 5) (hs : x 3 0 = nI n) (hz : x 24 1 = nI sz) (hz5 : sz ≤ 150) (hf : x 27 1 = nI fz) (hf5 : fz ≤ 150) (ht : x (c0 + 1) 40 = nI t) (ht2 : t ≤ 240) (hp : p < 5) (hk : kd < 6) (hq : kd = 0 → q < 5) : MM mX6_perform 5 0 0 [.ref c0, .int (nI kd), .int (nI p), .int (nI q)] x (fun v x1 => v = some (.int (bI (pfB (x (c0 + 1)) kd p q t))) ∧ x1 = pfX x c0 n sz fz kd p q) NoT := by
  refine MM.of (by decide) (Nat.le_of_ble_eq_true rfl) ?_
  have n0 := n_o hN
  have n1 := n_1 hN
  have hc := n_c hN
  have hk2 : kd = 0 ∨ kd = 1 ∨ kd = 2 ∨ kd = 3 ∨ kd = 4 ∨ kd = 5 := by omega
  refine r_iload_n dX6_perform_0 rfl (by rfl) ?_
  rcases hk2 with rfl | rfl | rfl | rfl | rfl | rfl
  · refine r_lookup (tgt := 36) (off := 35) dX6_perform_1 (by decide +kernel) (by decide +kernel) (by decide) ?_
    refine r_aload_n dX6_perform_36 rfl (by rfl) ?_
    refine r_iload_n dX6_perform_37 rfl (by rfl) ?_
    refine r_iload_n dX6_perform_38 rfl (by rfl) ?_
    refine r_callV (c_X6_nudge hN hp (hq rfl)) mv_X6_nudge ml_X6_141 ⟨by decide, by decide⟩ dX6_perform_39 (by first | assumption | rfl) rfl rfl rfl (Nat.le_of_ble_eq_true rfl) (fun v9 x9 h9 => ?_)
    obtain ⟨rfl, h9⟩ := h9
    refine PW.xeq h9 ?_
    clear h9 x9
    refine r_zret rfl (by first | exact bI_01 _ | exact Or.inl rfl | exact Or.inr rfl) dX6_perform_42 ?_
    first
      | exact ⟨rfl, rfl⟩
      | (refine ⟨?_, ?_⟩
         · show _ = some (Value.int (bI (if _ then false else _)))
           rw [h60]
           first
             | rfl
             | (rw [if_neg (by decide), h70]; rfl)
         · show _ = if _ then x else _
           rw [h60]
           rfl)
  · refine r_lookup (tgt := 55) (off := 54) dX6_perform_1 (by decide +kernel) (by decide +kernel) (by decide) ?_
    refine r_aload_n dX6_perform_55 rfl (by rfl) ?_
    refine r_iload_n dX6_perform_56 rfl (by rfl) ?_
    refine r_callV (c_X6_isAsleep hN hp) mv_X6_isAsleep ml_X6_67 ⟨by decide, by decide⟩ dX6_perform_57 (by first | assumption | rfl) rfl rfl rfl (Nat.le_of_ble_eq_true rfl) (fun v9 x9 h9 => ?_)
    obtain ⟨rfl, h9⟩ := h9
    refine PW.xeq h9 ?_
    clear h9 x9
    refine r_if_neB (tgt := 77) dX6_perform_60 (by decide) (fun h60 => ?_) (fun h60 => ?_)
    · refine r_iconst (v := nI 0) dX6_perform_77 (by decide) ?_
      refine r_zret rfl (by first | exact bI_01 _ | exact Or.inl rfl | exact Or.inr rfl) dX6_perform_78 ?_
      first
        | exact ⟨rfl, rfl⟩
        | (refine ⟨?_, ?_⟩
           · show _ = some (Value.int (bI (if _ then false else _)))
             rw [h60]
             first
               | rfl
               | (rw [if_neg (by decide), h70]; rfl)
           · show _ = if _ then x else _
             rw [h60]
             rfl)
    · refine r_aload_n dX6_perform_63 rfl (by rfl) ?_
      refine r_iload_n dX6_perform_64 rfl (by rfl) ?_
      refine r_iload_n dX6_perform_65 rfl (by rfl) ?_
      refine r_iload_n dX6_perform_66 rfl (by rfl) ?_
      refine r_callV (c_X6_performAwake hN hp (by decide)) mv_X6_performAwake ml_X6_149 ⟨by decide, by decide⟩ dX6_perform_67 (by first | assumption | rfl) rfl rfl rfl (Nat.le_of_ble_eq_true rfl) (fun v9 x9 h9 => ?_)
      obtain ⟨rfl, h9⟩ := h9
      refine PW.xeq h9 ?_
      clear h9 x9
      refine r_if_eqB (tgt := 77) dX6_perform_70 (by decide) (fun h70 => ?_) (fun h70 => ?_)
      · refine r_iconst (v := nI 0) dX6_perform_77 (by decide) ?_
        refine r_zret rfl (by first | exact bI_01 _ | exact Or.inl rfl | exact Or.inr rfl) dX6_perform_78 ?_
        first
          | exact ⟨rfl, rfl⟩
          | (refine ⟨?_, ?_⟩
             · show _ = some (Value.int (bI (if _ then false else _)))
               rw [h60]
               first
                 | rfl
                 | (rw [if_neg (by decide), h70]; rfl)
             · show _ = if _ then x else _
               rw [h60]
               rfl)
      · refine r_iconst (v := nI 1) dX6_perform_73 (by decide) ?_
        refine r_goto (tgt := 78) dX6_perform_74 (by decide) ?_
        refine r_zret rfl (by first | exact bI_01 _ | exact Or.inl rfl | exact Or.inr rfl) dX6_perform_78 ?_
        first
          | exact ⟨rfl, rfl⟩
          | (refine ⟨?_, ?_⟩
             · show _ = some (Value.int (bI (if _ then false else _)))
               rw [h60]
               first
                 | rfl
                 | (rw [if_neg (by decide), h70]; rfl)
             · show _ = if _ then x else _
               rw [h60]
               rfl)
  · refine r_lookup (tgt := 55) (off := 54) dX6_perform_1 (by decide +kernel) (by decide +kernel) (by decide) ?_
    refine r_aload_n dX6_perform_55 rfl (by rfl) ?_
    refine r_iload_n dX6_perform_56 rfl (by rfl) ?_
    refine r_callV (c_X6_isAsleep hN hp) mv_X6_isAsleep ml_X6_67 ⟨by decide, by decide⟩ dX6_perform_57 (by first | assumption | rfl) rfl rfl rfl (Nat.le_of_ble_eq_true rfl) (fun v9 x9 h9 => ?_)
    obtain ⟨rfl, h9⟩ := h9
    refine PW.xeq h9 ?_
    clear h9 x9
    refine r_if_neB (tgt := 77) dX6_perform_60 (by decide) (fun h60 => ?_) (fun h60 => ?_)
    · refine r_iconst (v := nI 0) dX6_perform_77 (by decide) ?_
      refine r_zret rfl (by first | exact bI_01 _ | exact Or.inl rfl | exact Or.inr rfl) dX6_perform_78 ?_
      first
        | exact ⟨rfl, rfl⟩
        | (refine ⟨?_, ?_⟩
           · show _ = some (Value.int (bI (if _ then false else _)))
             rw [h60]
             first
               | rfl
               | (rw [if_neg (by decide), h70]; rfl)
           · show _ = if _ then x else _
             rw [h60]
             rfl)
    · refine r_aload_n dX6_perform_63 rfl (by rfl) ?_
      refine r_iload_n dX6_perform_64 rfl (by rfl) ?_
      refine r_iload_n dX6_perform_65 rfl (by rfl) ?_
      refine r_iload_n dX6_perform_66 rfl (by rfl) ?_
      refine r_callV (c_X6_performAwake hN hp (by decide)) mv_X6_performAwake ml_X6_149 ⟨by decide, by decide⟩ dX6_perform_67 (by first | assumption | rfl) rfl rfl rfl (Nat.le_of_ble_eq_true rfl) (fun v9 x9 h9 => ?_)
      obtain ⟨rfl, h9⟩ := h9
      refine PW.xeq h9 ?_
      clear h9 x9
      refine r_if_eqB (tgt := 77) dX6_perform_70 (by decide) (fun h70 => ?_) (fun h70 => ?_)
      · refine r_iconst (v := nI 0) dX6_perform_77 (by decide) ?_
        refine r_zret rfl (by first | exact bI_01 _ | exact Or.inl rfl | exact Or.inr rfl) dX6_perform_78 ?_
        first
          | exact ⟨rfl, rfl⟩
          | (refine ⟨?_, ?_⟩
             · show _ = some (Value.int (bI (if _ then false else _)))
               rw [h60]
               first
                 | rfl
                 | (rw [if_neg (by decide), h70]; rfl)
             · show _ = if _ then x else _
               rw [h60]
               rfl)
      · refine r_iconst (v := nI 1) dX6_perform_73 (by decide) ?_
        refine r_goto (tgt := 78) dX6_perform_74 (by decide) ?_
        refine r_zret rfl (by first | exact bI_01 _ | exact Or.inl rfl | exact Or.inr rfl) dX6_perform_78 ?_
        first
          | exact ⟨rfl, rfl⟩
          | (refine ⟨?_, ?_⟩
             · show _ = some (Value.int (bI (if _ then false else _)))
               rw [h60]
               first
                 | rfl
                 | (rw [if_neg (by decide), h70]; rfl)
             · show _ = if _ then x else _
               rw [h60]
               rfl)
  · refine r_lookup (tgt := 55) (off := 54) dX6_perform_1 (by decide +kernel) (by decide +kernel) (by decide) ?_
    refine r_aload_n dX6_perform_55 rfl (by rfl) ?_
    refine r_iload_n dX6_perform_56 rfl (by rfl) ?_
    refine r_callV (c_X6_isAsleep hN hp) mv_X6_isAsleep ml_X6_67 ⟨by decide, by decide⟩ dX6_perform_57 (by first | assumption | rfl) rfl rfl rfl (Nat.le_of_ble_eq_true rfl) (fun v9 x9 h9 => ?_)
    obtain ⟨rfl, h9⟩ := h9
    refine PW.xeq h9 ?_
    clear h9 x9
    refine r_if_neB (tgt := 77) dX6_perform_60 (by decide) (fun h60 => ?_) (fun h60 => ?_)
    · refine r_iconst (v := nI 0) dX6_perform_77 (by decide) ?_
      refine r_zret rfl (by first | exact bI_01 _ | exact Or.inl rfl | exact Or.inr rfl) dX6_perform_78 ?_
      first
        | exact ⟨rfl, rfl⟩
        | (refine ⟨?_, ?_⟩
           · show _ = some (Value.int (bI (if _ then false else _)))
             rw [h60]
             first
               | rfl
               | (rw [if_neg (by decide), h70]; rfl)
           · show _ = if _ then x else _
             rw [h60]
             rfl)
    · refine r_aload_n dX6_perform_63 rfl (by rfl) ?_
      refine r_iload_n dX6_perform_64 rfl (by rfl) ?_
      refine r_iload_n dX6_perform_65 rfl (by rfl) ?_
      refine r_iload_n dX6_perform_66 rfl (by rfl) ?_
      refine r_callV (c_X6_performAwake hN hp (by decide)) mv_X6_performAwake ml_X6_149 ⟨by decide, by decide⟩ dX6_perform_67 (by first | assumption | rfl) rfl rfl rfl (Nat.le_of_ble_eq_true rfl) (fun v9 x9 h9 => ?_)
      obtain ⟨rfl, h9⟩ := h9
      refine PW.xeq h9 ?_
      clear h9 x9
      refine r_if_eqB (tgt := 77) dX6_perform_70 (by decide) (fun h70 => ?_) (fun h70 => ?_)
      · refine r_iconst (v := nI 0) dX6_perform_77 (by decide) ?_
        refine r_zret rfl (by first | exact bI_01 _ | exact Or.inl rfl | exact Or.inr rfl) dX6_perform_78 ?_
        first
          | exact ⟨rfl, rfl⟩
          | (refine ⟨?_, ?_⟩
             · show _ = some (Value.int (bI (if _ then false else _)))
               rw [h60]
               first
                 | rfl
                 | (rw [if_neg (by decide), h70]; rfl)
             · show _ = if _ then x else _
               rw [h60]
               rfl)
      · refine r_iconst (v := nI 1) dX6_perform_73 (by decide) ?_
        refine r_goto (tgt := 78) dX6_perform_74 (by decide) ?_
        refine r_zret rfl (by first | exact bI_01 _ | exact Or.inl rfl | exact Or.inr rfl) dX6_perform_78 ?_
        first
          | exact ⟨rfl, rfl⟩
          | (refine ⟨?_, ?_⟩
             · show _ = some (Value.int (bI (if _ then false else _)))
               rw [h60]
               first
                 | rfl
                 | (rw [if_neg (by decide), h70]; rfl)
             · show _ = if _ then x else _
               rw [h60]
               rfl)
  · refine r_lookup (tgt := 49) (off := 48) dX6_perform_1 (by decide +kernel) (by decide +kernel) (by decide) ?_
    refine r_aload_n dX6_perform_49 rfl (by rfl) ?_
    refine r_iload_n dX6_perform_50 rfl (by rfl) ?_
    refine r_callV (c_X6_call hN hp) mv_X6_call ml_X6_146 ⟨by decide, by decide⟩ dX6_perform_51 (by first | assumption | rfl) rfl rfl rfl (Nat.le_of_ble_eq_true rfl) (fun v9 x9 h9 => ?_)
    obtain ⟨rfl, h9⟩ := h9
    refine PW.xeq h9 ?_
    clear h9 x9
    refine r_zret rfl (by first | exact bI_01 _ | exact Or.inl rfl | exact Or.inr rfl) dX6_perform_54 ?_
    first
      | exact ⟨rfl, rfl⟩
      | (refine ⟨?_, ?_⟩
         · show _ = some (Value.int (bI (if _ then false else _)))
           rw [h60]
           first
             | rfl
             | (rw [if_neg (by decide), h70]; rfl)
         · show _ = if _ then x else _
           rw [h60]
           rfl)
  · refine r_lookup (tgt := 43) (off := 42) dX6_perform_1 (by decide +kernel) (by decide +kernel) (by decide) ?_
    refine r_aload_n dX6_perform_43 rfl (by rfl) ?_
    refine r_iconst (v := nI 0) dX6_perform_44 (by decide) ?_
    refine r_callV (c_X6_passMinute hN hn hs hz hz5 hf hf5 ht ht2) mv_X6_passMinute ml_X6_135 ⟨by decide, by decide⟩ dX6_perform_45 (by first | assumption | rfl) rfl rfl rfl (Nat.le_of_ble_eq_true rfl) (fun v9 x9 h9 => ?_)
    obtain ⟨rfl, h9⟩ := h9
    refine PW.xeq h9 ?_
    clear h9 x9
    refine r_zret rfl (by first | exact bI_01 _ | exact Or.inl rfl | exact Or.inr rfl) dX6_perform_48 ?_
    first
      | exact ⟨rfl, rfl⟩
      | (refine ⟨?_, ?_⟩
         · show _ = some (Value.int (bI (if _ then false else _)))
           rw [h60]
           first
             | rfl
             | (rw [if_neg (by decide), h70]; rfl)
         · show _ = if _ then x else _
           rw [h60]
           rfl)
set_option maxRecDepth 100000 in
theorem ml_X6_61c : Cond.methodLink RX6 61 arraycopyName ∈ WS := ws_t 881 rfl rfl
set_option maxHeartbeats 8000000 in
set_option maxRecDepth 20000 in
theorem c_X6_follow {x : XS} : MM mX6_follow 1 0 0 [.ref 49, .ref 43] x (fun v x1 => v = none ∧ x1 = followX x) NoT := by
  refine MM.of (by decide) (Nat.le_of_ble_eq_true rfl) ?_
  have y3 := lay_3
  have y43 := lay_43
  have y49 := lay_49
  have y44 := lay_44
  have y50 := lay_50
  have y51 := lay_51
  refine r_aload_n dX6_follow_0 rfl (by rfl) ?_
  refine gf_X6_11 rfl dX6_follow_1 (by first | assumption | rfl) (by rfl) ?_
  refine r_iconst (v := nI 0) dX6_follow_4 (by decide) ?_
  refine r_aload_n dX6_follow_5 rfl (by rfl) ?_
  refine gf_X6_11 rfl dX6_follow_6 (by first | assumption | rfl) (by rfl) ?_
  refine r_iconst (v := nI 0) dX6_follow_9 (by decide) ?_
  refine r_bipush (v := nI 42) dX6_follow_10 (by decide) ?_
  refine r_copy ml_X6_61c wsn_copy wss_copy wsi_sys dX6_follow_12 (by exact lay_44) (by exact lay_50) (by decide) (by decide) (by decide) (by decide) (by decide) (by decide) (by decide) (Nat.le_of_ble_eq_true rfl) ?_
  refine r_iconst (v := nI 0) dX6_follow_15 (by decide) ?_
  refine r_istore_n dX6_follow_16 rfl (by decide) ?_
  refine PW.loop (σ := Nat) (fun i => 5 - i) (fun i => i ≤ 5) (fun i => [(0, .ref 49), (1, .ref 43), (2, .int (nI i))]) (fun i => xr (xr x 50 (va_cpy (x 44) (x 50) 0 0 42)) 51 (zfill (x 51) i)) (0) (Nat.zero_le 5) rfl (xr_id _ 51).symm (fun i hi ih => ?_)
  refine r_iload_n dX6_follow_17 rfl (by rfl) ?_
  refine r_iconst (v := nI 5) dX6_follow_18 (by decide) ?_
  refine r_icmp_geN (tgt := 35) dX6_follow_19 (by decide) (by omega) (by omega) (fun h19 => ?_) (fun h19 => ?_)
  · refine PW.lc (L' := [(0, .ref 49), (1, .ref 43)]) (x' := xr (xr x 50 (va_cpy (x 44) (x 50) 0 0 42)) 51 (zfill (x 51) 5)) rfl (by rw [show i = 5 by omega]) ?_
    refine r_aload_n dX6_follow_35 rfl (by rfl) ?_
    refine r_aload_n dX6_follow_36 rfl (by rfl) ?_
    refine gf_X6_36 rfl dX6_follow_37 (by first | assumption | rfl) (by rfl) ?_
    refine gf_X6_58 rfl dX6_follow_40 (by first | assumption | rfl) (by rfl) ?_
    refine pf_X6_29 rfl dX6_follow_43 (by first | assumption | rfl) (by rfl) ?_
    refine r_aload_n dX6_follow_46 rfl (by rfl) ?_
    refine r_iconst (v := nI 0) dX6_follow_47 (by decide) ?_
    refine pf_X6_33 rfl dX6_follow_48 (by first | assumption | rfl) (by rfl) ?_
    refine r_ret rfl dX6_follow_51 ?_
    exact ⟨rfl, rfl⟩
  · refine r_aload_n dX6_follow_22 rfl (by rfl) ?_
    refine gf_X6_15 rfl dX6_follow_23 (by first | assumption | rfl) (by rfl) ?_
    refine r_iload_n dX6_follow_26 rfl (by rfl) ?_
    refine r_iconst (v := nI 0) dX6_follow_27 (by decide) ?_
    refine r_iastN dX6_follow_28 (by first | assumption | rfl) (by omega) (by decide) ?_
    refine r_iincN dX6_follow_29 (by rfl) (by decide) ?_
    refine r_goto (tgt := 17) dX6_follow_32 (by decide) ?_
    exact PW.lc (by rfl) (by rw [xu_xr]; rfl) (ih (i + 1) (by omega) (by omega))
set_option maxHeartbeats 8000000 in
set_option maxRecDepth 20000 in
theorem c_X6_begin {n : Nat} {x : XS} (hn : n ≤ 5) (hs : x 3 0 = nI n) : MM mX6_begin 0 0 0 [.ref 43] x (fun v x1 => v = none ∧ x1 = beginX x n) NoT := by
  refine MM.of (by decide) (Nat.le_of_ble_eq_true rfl) ?_
  have y3 := lay_3
  have y43 := lay_43
  have y44 := lay_44
  have y4 := lay_4
  have y7 := lay_7
  have y10 := lay_10
  refine r_iconst (v := nI 0) dX6_begin_0 (by decide) ?_
  refine r_istore_n dX6_begin_1 rfl (by decide) ?_
  refine PW.loop (σ := Nat) (fun j => 42 - j) (fun j => j ≤ 42) (fun j => [(0, .ref 43), (1, .int (nI j))]) (fun j => xr x 44 (zfill (x 44) j)) (0) (Nat.zero_le 42) rfl (xr_id x 44).symm (fun j hj jh => ?_)
  refine r_iload_n dX6_begin_2 rfl (by rfl) ?_
  refine r_bipush (v := nI 42) dX6_begin_3 (by decide) ?_
  refine r_icmp_geN (tgt := 21) dX6_begin_5 (by decide) (by omega) (by omega) (fun h5 => ?_) (fun h5 => ?_)
  · refine PW.lc (L' := [(0, .ref 43)]) (x' := xr x 44 (zfill (x 44) 42)) rfl (by rw [show j = 42 by omega]) ?_
    refine r_iconst (v := nI 0) dX6_begin_21 (by decide) ?_
    refine r_istore_n dX6_begin_22 rfl (by decide) ?_
    refine PW.loop (σ := Nat) (fun i => n - i) (fun i => i ≤ n) (fun i => [(0, .ref 43), (1, .int (nI i))]) (fun i => xr x 44 (bgR x (zfill (x 44) 42) i)) (0) (Nat.zero_le n) rfl rfl (fun i hi ih => ?_)
    refine r_iload_n dX6_begin_23 rfl (by rfl) ?_
    refine r_aload_n dX6_begin_24 rfl (by rfl) ?_
    refine gf_X6_36 rfl dX6_begin_25 (by first | assumption | rfl) (by rfl) ?_
    refine gf_X6_44 rfl dX6_begin_28 (by first | assumption | rfl) (by rfl) ?_
    refine PW.topi (show (xr x 44 (bgR x (zfill (x 44) 42) i)) 3 0 = nI n from hs) ?_
    refine r_icmp_geN (tgt := 92) dX6_begin_31 (by decide) (by omega) (by omega) (fun h31 => ?_) (fun h31 => ?_)
    · refine r_aload_n dX6_begin_92 rfl (by rfl) ?_
      refine r_aload_n dX6_begin_93 rfl (by rfl) ?_
      refine gf_X6_36 rfl dX6_begin_94 (by first | assumption | rfl) (by rfl) ?_
      refine gf_X6_58 rfl dX6_begin_97 (by first | assumption | rfl) (by rfl) ?_
      refine pf_X6_29 rfl dX6_begin_100 (by first | assumption | rfl) (by rfl) ?_
      refine r_ret rfl dX6_begin_103 ?_
      have e : i = n := by omega
      subst e
      exact ⟨rfl, rfl⟩
    · refine r_aload_n dX6_begin_34 rfl (by rfl) ?_
      refine gf_X6_11 rfl dX6_begin_35 (by first | assumption | rfl) (by rfl) ?_
      refine r_iconst (v := nI 0) dX6_begin_38 (by decide) ?_
      refine r_iload_n dX6_begin_39 rfl (by rfl) ?_
      refine r_iaddN dX6_begin_40 ?_
      refine r_aload_n dX6_begin_41 rfl (by rfl) ?_
      refine gf_X6_36 rfl dX6_begin_42 (by first | assumption | rfl) (by rfl) ?_
      refine gf_X6_49 rfl dX6_begin_45 (by first | assumption | rfl) (by rfl) ?_
      refine r_iload_n dX6_begin_48 rfl (by rfl) ?_
      refine r_ialdN dX6_begin_49 (by first | assumption | rfl) (by omega) (by decide) ?_
      refine r_iastN dX6_begin_50 (by first | assumption | rfl) (by omega) (by decide) ?_
      refine r_aload_n dX6_begin_51 rfl (by rfl) ?_
      refine gf_X6_11 rfl dX6_begin_52 (by first | assumption | rfl) (by rfl) ?_
      refine r_iconst (v := nI 5) dX6_begin_55 (by decide) ?_
      refine r_iload_n dX6_begin_56 rfl (by rfl) ?_
      refine r_iaddN dX6_begin_57 ?_
      refine r_aload_n dX6_begin_58 rfl (by rfl) ?_
      refine gf_X6_36 rfl dX6_begin_59 (by first | assumption | rfl) (by rfl) ?_
      refine gf_X6_52 rfl dX6_begin_62 (by first | assumption | rfl) (by rfl) ?_
      refine r_iload_n dX6_begin_65 rfl (by rfl) ?_
      refine r_ialdN dX6_begin_66 (by first | assumption | rfl) (by omega) (by decide) ?_
      refine r_iastN dX6_begin_67 (by first | assumption | rfl) (by omega) (by decide) ?_
      refine r_aload_n dX6_begin_68 rfl (by rfl) ?_
      refine gf_X6_11 rfl dX6_begin_69 (by first | assumption | rfl) (by rfl) ?_
      refine r_bipush (v := nI 35) dX6_begin_72 (by decide) ?_
      refine r_iload_n dX6_begin_74 rfl (by rfl) ?_
      refine r_iaddN dX6_begin_75 ?_
      refine r_aload_n dX6_begin_76 rfl (by rfl) ?_
      refine gf_X6_36 rfl dX6_begin_77 (by first | assumption | rfl) (by rfl) ?_
      refine gf_X6_55 rfl dX6_begin_80 (by first | assumption | rfl) (by rfl) ?_
      refine r_iload_n dX6_begin_83 rfl (by rfl) ?_
      refine r_ialdN dX6_begin_84 (by first | assumption | rfl) (by omega) (by decide) ?_
      refine r_iastN dX6_begin_85 (by first | assumption | rfl) (by omega) (by decide) ?_
      refine r_iincN dX6_begin_86 (by rfl) (by decide) ?_
      refine r_goto (tgt := 23) dX6_begin_89 (by decide) ?_
      exact PW.lc (by rfl) (by rw [xu_xr, xu_xr, xu_xr]; rfl) (ih (i + 1) (by omega) (by omega))
  · refine r_aload_n dX6_begin_8 rfl (by rfl) ?_
    refine gf_X6_11 rfl dX6_begin_9 (by first | assumption | rfl) (by rfl) ?_
    refine r_iload_n dX6_begin_12 rfl (by rfl) ?_
    refine r_iconst (v := nI 0) dX6_begin_13 (by decide) ?_
    refine r_iastN dX6_begin_14 (by first | assumption | rfl) (by omega) (by decide) ?_
    refine r_iincN dX6_begin_15 (by rfl) (by decide) ?_
    refine r_goto (tgt := 2) dX6_begin_18 (by decide) ?_
    exact PW.lc (by rfl) (by rw [xu_xr]; rfl) (jh (j + 1) (by omega) (by omega))
