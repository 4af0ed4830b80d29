/-! NIGHT: steps and minutes -/
def pawR (f : Nat → Int32) (kd p : Nat) (k : Int32) : Nat → Int32 := if kd = 1 then upd f (15 + p) (nI 1 - f (15 + p)) else if kd = 2 then upd f (5 + p) (nI 1 - f (5 + p)) else if f (35 + p) = k then f else upd f (35 + p) k
def pawB (f : Nat → Int32) (kd p : Nat) (k : Int32) : Bool := if kd = 3 then !decide (f (35 + p) = k) else true
def bitV (sv : Int32) (i : Nat) : Int32 := (sv >>> (nI i &&& 31)) &&& nI 1
def setl (f : Nat → Int32) (sv : Int32) : Nat → Bool × (Nat → Int32)
  | 0 => (true, f)
  | i + 1 => if (setl f sv i).1 then (if asl (setl f sv i).2 i && !decide ((setl f sv i).2 (5 + i) = bitV sv i) then (false, (setl f sv i).2) else (true, upd (setl f sv i).2 (5 + i) (bitV sv i))) else setl f sv i
theorem setl_f {f : Nat → Int32} {sv : Int32} {i : Nat} (h : (setl f sv i).1 = false) : ∀ j, setl f sv (i + j) = setl f sv i
  | 0 => rfl
  | j + 1 => by
    show (if (setl f sv (i + j)).1 then _ else setl f sv (i + j)) = _
    rw [setl_f h j, h]
    rfl
/-- awake: falling asleep, or lying on -/
def fosX (x : XS) (c0 p sz : Nat) : XS := if x (c0 + 1) 40 < x (c0 + 2) p then xr x (c0 + 1) (stayR (x (c0 + 1)) p false) else xr (lawx (gvFall x c0 p) 27 (c0 + 5) sz) (c0 + 1) (stayR (x (c0 + 1)) p (decide (0 < lawv (gvFall x c0 p) 27 (c0 + 5) sz)))
set_option maxHeartbeats 8000000 in
set_option maxRecDepth 20000 in
theorem c_X6_performAwake {c0 kd p : Nat} {k : Int32} {x : XS} (hN : IsN c0) (hp : p < 5) (hk : kd = 1 ∨ kd = 2 ∨ kd = 3) : MM mX6_performAwake 0 0 0 [.ref c0, .int (nI kd), .int (nI p), .int k] x (fun v x1 => v = some (.int (bI (pawB (x (c0 + 1)) kd p k))) ∧ x1 = xr x (c0 + 1) (pawR (x (c0 + 1)) kd p k)) NoT := by
  refine MM.of (by decide) (Nat.le_of_ble_eq_true rfl) ?_
  have hN0 := hN
  have n0 := n_o hN
  have n1 := n_1 hN
  have n2 := n_2 hN
  have n3 := n_3 hN
  have n4 := n_4 hN
  have n5 := n_5 hN
  have y3 := lay_3
  have y4 := lay_4
  have y5 := lay_5
  have y6 := lay_6
  have y7 := lay_7
  have y8 := lay_8
  have y9 := lay_9
  have y10 := lay_10
  have y11 := lay_11
  have y12 := lay_12
  have y23 := lay_23
  rcases hN with rfl | rfl
  all_goals
    refine r_iload_n dX6_performAwake_0 rfl (by rfl) ?_
    rcases hk with rfl | rfl | rfl
    · refine r_lookup (tgt := 28) (off := 27) dX6_performAwake_1 (by decide +kernel) (by decide +kernel) (by decide) ?_
      refine r_aload_n dX6_performAwake_28 rfl (by rfl) ?_
      refine gf_X6_11 rfl dX6_performAwake_29 (by first | assumption | rfl) (by rfl) ?_
      refine r_bipush (v := nI 15) dX6_performAwake_32 (by decide) ?_
      refine r_iload_n dX6_performAwake_34 rfl (by rfl) ?_
      refine r_iaddN dX6_performAwake_35 ?_
      refine r_iconst (v := nI 1) dX6_performAwake_36 (by decide) ?_
      refine r_aload_n dX6_performAwake_37 rfl (by rfl) ?_
      refine gf_X6_11 rfl dX6_performAwake_38 (by first | assumption | rfl) (by rfl) ?_
      refine r_bipush (v := nI 15) dX6_performAwake_41 (by decide) ?_
      refine r_iload_n dX6_performAwake_43 rfl (by rfl) ?_
      refine r_iaddN dX6_performAwake_44 ?_
      refine r_ialdN dX6_performAwake_45 (by first | assumption | rfl) (by omega) (by decide) ?_
      refine r_isub dX6_performAwake_46 ?_
      refine r_iastN dX6_performAwake_47 (by first | assumption | rfl) (by omega) (by decide) ?_
      refine r_iconst (v := nI 1) dX6_performAwake_48 (by decide) ?_
      refine r_zret rfl (by first | exact bI_01 _ | exact Or.inl rfl | exact Or.inr rfl) dX6_performAwake_49 ?_
      exact ⟨rfl, rfl⟩
    · refine r_lookup (tgt := 50) (off := 49) dX6_performAwake_1 (by decide +kernel) (by decide +kernel) (by decide) ?_
      refine r_aload_n dX6_performAwake_50 rfl (by rfl) ?_
      refine gf_X6_11 rfl dX6_performAwake_51 (by first | assumption | rfl) (by rfl) ?_
      refine r_iconst (v := nI 5) dX6_performAwake_54 (by decide) ?_
      refine r_iload_n dX6_performAwake_55 rfl (by rfl) ?_
      refine r_iaddN dX6_performAwake_56 ?_
      refine r_iconst (v := nI 1) dX6_performAwake_57 (by decide) ?_
      refine r_aload_n dX6_performAwake_58 rfl (by rfl) ?_
      refine gf_X6_11 rfl dX6_performAwake_59 (by first | assumption | rfl) (by rfl) ?_
      refine r_iconst (v := nI 5) dX6_performAwake_62 (by decide) ?_
      refine r_iload_n dX6_performAwake_63 rfl (by rfl) ?_
      refine r_iaddN dX6_performAwake_64 ?_
      refine r_ialdN dX6_performAwake_65 (by first | assumption | rfl) (by omega) (by decide) ?_
      refine r_isub dX6_performAwake_66 ?_
      refine r_iastN dX6_performAwake_67 (by first | assumption | rfl) (by omega) (by decide) ?_
      refine r_iconst (v := nI 1) dX6_performAwake_68 (by decide) ?_
      refine r_zret rfl (by first | exact bI_01 _ | exact Or.inl rfl | exact Or.inr rfl) dX6_performAwake_69 ?_
      exact ⟨rfl, rfl⟩
    · refine r_lookup (tgt := 70) (off := 69) dX6_performAwake_1 (by decide +kernel) (by decide +kernel) (by decide) ?_
      refine r_aload_n dX6_performAwake_70 rfl (by rfl) ?_
      refine gf_X6_11 rfl dX6_performAwake_71 (by first | assumption | rfl) (by rfl) ?_
      refine r_bipush (v := nI 35) dX6_performAwake_74 (by decide) ?_
      refine r_iload_n dX6_performAwake_76 rfl (by rfl) ?_
      refine r_iaddN dX6_performAwake_77 ?_
      refine r_ialdN dX6_performAwake_78 (by first | assumption | rfl) (by omega) (by decide) ?_
      refine r_iload_n dX6_performAwake_79 rfl (by rfl) ?_
      refine r_icmp_ne (tgt := 85) dX6_performAwake_80 (by decide) (fun h80 => ?_) (fun h80 => ?_)
      · refine r_aload_n dX6_performAwake_85 rfl (by rfl) ?_
        refine gf_X6_11 rfl dX6_performAwake_86 (by first | assumption | rfl) (by rfl) ?_
        refine r_bipush (v := nI 35) dX6_performAwake_89 (by decide) ?_
        refine r_iload_n dX6_performAwake_91 rfl (by rfl) ?_
        refine r_iaddN dX6_performAwake_92 ?_
        refine r_iload_n dX6_performAwake_93 rfl (by rfl) ?_
        refine r_iastN dX6_performAwake_94 (by first | assumption | rfl) (by omega) (by decide) ?_
        refine r_iconst (v := nI 1) dX6_performAwake_95 (by decide) ?_
        refine r_zret rfl (by first | exact bI_01 _ | exact Or.inl rfl | exact Or.inr rfl) dX6_performAwake_96 ?_
        refine ⟨?_, ?_⟩
        · show _ = some (Value.int (bI (!decide _)))
          rw [decide_eq_false h80]
          rfl
        · show _ = xr x _ (if _ then _ else _)
          rw [if_neg h80]
          rfl
      · refine r_iconst (v := nI 0) dX6_performAwake_83 (by decide) ?_
        refine r_zret rfl (by first | exact bI_01 _ | exact Or.inl rfl | exact Or.inr rfl) dX6_performAwake_84 ?_
        refine ⟨?_, ?_⟩
        · show _ = some (Value.int (bI (!decide _)))
          rw [decide_eq_true h80]
          rfl
        · show _ = xr x _ (if _ then _ else _)
          rw [if_pos h80]
          exact (xr_id x _).symm
set_option maxHeartbeats 8000000 in
set_option maxRecDepth 20000 in
theorem c_X6_nudge {c0 p q : Nat} {x : XS} (hN : IsN c0) (hp : p < 5) (hq : q < 5) : MM mX6_nudge 1 0 0 [.ref c0, .int (nI p), .int (nI q)] x (fun v x1 => v = some (.int (bI (nudgeB (x (c0 + 1)) p q))) ∧ x1 = xr x (c0 + 1) (nudgeR (x (c0 + 1)) p q)) NoT := by
  refine MM.of (by decide) (Nat.le_of_ble_eq_true rfl) ?_
  have hN0 := hN
  have n0 := n_o hN
  have n1 := n_1 hN
  refine r_aload_n dX6_nudge_0 rfl (by rfl) ?_
  refine gf_X6_11 rfl dX6_nudge_1 (by first | assumption | rfl) (by rfl) ?_
  refine r_iconst (v := nI 5) dX6_nudge_4 (by decide) ?_
  refine r_iload_n dX6_nudge_5 rfl (by rfl) ?_
  refine r_iaddN dX6_nudge_6 ?_
  refine r_ialdN dX6_nudge_7 (by first | assumption | rfl) (by omega) (by decide) ?_
  refine r_aload_n dX6_nudge_8 rfl (by rfl) ?_
  refine gf_X6_11 rfl dX6_nudge_9 (by first | assumption | rfl) (by rfl) ?_
  refine r_iconst (v := nI 5) dX6_nudge_12 (by decide) ?_
  refine r_iload_n dX6_nudge_13 rfl (by rfl) ?_
  refine r_iaddN dX6_nudge_14 ?_
  refine r_ialdN dX6_nudge_15 (by first | assumption | rfl) (by omega) (by decide) ?_
  refine r_icmp_ne (tgt := 23) dX6_nudge_16 (by decide) (fun h16 => ?_) (fun h16 => ?_)
  · refine r_iconst (v := nI 0) dX6_nudge_23 (by decide) ?_
    refine r_istore_n dX6_nudge_24 rfl (by decide) ?_
    refine r_aload_n dX6_nudge_25 rfl (by rfl) ?_
    refine r_iload_n dX6_nudge_26 rfl (by rfl) ?_
    refine r_callV (c_X6_isAsleep hN0 (by omega)) mv_X6_isAsleep ml_X6_67 ⟨by decide, by decide⟩ dX6_nudge_27 (by first | assumption | rfl) rfl rfl rfl (Nat.le_of_ble_eq_true rfl) (fun v9 x9 h9 => ?_)
    obtain ⟨rfl, h9⟩ := h9
    refine PW.xeq h9 ?_
    clear h9 x9
    refine r_if_neB (tgt := 58) dX6_nudge_30 (by decide) (fun h30 => ?_) (fun h30 => ?_)
    · refine r_iconst (v := nI 0) dX6_nudge_58 (by decide) ?_
      refine r_zret rfl (by first | exact bI_01 _ | exact Or.inl rfl | exact Or.inr rfl) dX6_nudge_59 ?_
      first
        | exact absurd h42 (by decide +kernel)
        | exact absurd (show nI 0 = 0 from rfl) h42
        | (have hb : nudgeB (x (c0 + 1)) p q = false := by
             unfold nudgeB
             first
               | (rw [h30]; rfl)
               | (rw [h30, h38]; rfl)
               | (rw [h30, h38, decide_eq_false h16]; rfl)
               | (rw [h30, h38, decide_eq_true h16, decide_eq_true h55]; rfl)
           refine ⟨by rw [hb]; rfl, ?_⟩
           unfold nudgeR
           rw [hb]
           exact (xr_id x _).symm)
    · refine r_aload_n dX6_nudge_33 rfl (by rfl) ?_
      refine r_iload_n dX6_nudge_34 rfl (by rfl) ?_
      refine r_callV (c_X6_isAsleep hN0 (by omega)) mv_X6_isAsleep ml_X6_67 ⟨by decide, by decide⟩ dX6_nudge_35 (by first | assumption | rfl) rfl rfl rfl (Nat.le_of_ble_eq_true rfl) (fun v9 x9 h9 => ?_)
      obtain ⟨rfl, h9⟩ := h9
      refine PW.xeq h9 ?_
      clear h9 x9
      refine r_if_eqB (tgt := 58) dX6_nudge_38 (by decide) (fun h38 => ?_) (fun h38 => ?_)
      · refine r_iconst (v := nI 0) dX6_nudge_58 (by decide) ?_
        refine r_zret rfl (by first | exact bI_01 _ | exact Or.inl rfl | exact Or.inr rfl) dX6_nudge_59 ?_
        first
          | exact absurd h42 (by decide +kernel)
          | exact absurd (show nI 0 = 0 from rfl) h42
          | (have hb : nudgeB (x (c0 + 1)) p q = false := by
               unfold nudgeB
               first
                 | (rw [h30]; rfl)
                 | (rw [h30, h38]; rfl)
                 | (rw [h30, h38, decide_eq_false h16]; rfl)
                 | (rw [h30, h38, decide_eq_true h16, decide_eq_true h55]; rfl)
             refine ⟨by rw [hb]; rfl, ?_⟩
             unfold nudgeR
             rw [hb]
             exact (xr_id x _).symm)
      · refine r_iload_n dX6_nudge_41 rfl (by rfl) ?_
        refine r_if_eq (tgt := 58) dX6_nudge_42 (by decide) (fun h42 => ?_) (fun h42 => ?_)
        · refine r_iconst (v := nI 0) dX6_nudge_58 (by decide) ?_
          refine r_zret rfl (by first | exact bI_01 _ | exact Or.inl rfl | exact Or.inr rfl) dX6_nudge_59 ?_
          first
            | exact absurd h42 (by decide +kernel)
            | exact absurd (show nI 0 = 0 from rfl) h42
            | (have hb : nudgeB (x (c0 + 1)) p q = false := by
                 unfold nudgeB
                 first
                   | (rw [h30]; rfl)
                   | (rw [h30, h38]; rfl)
                   | (rw [h30, h38, decide_eq_false h16]; rfl)
                   | (rw [h30, h38, decide_eq_true h16, decide_eq_true h55]; rfl)
               refine ⟨by rw [hb]; rfl, ?_⟩
               unfold nudgeR
               rw [hb]
               exact (xr_id x _).symm)
        · refine r_aload_n dX6_nudge_45 rfl (by rfl) ?_
          refine gf_X6_11 rfl dX6_nudge_46 (by first | assumption | rfl) (by rfl) ?_
          refine r_bipush (v := nI 15) dX6_nudge_49 (by decide) ?_
          refine r_iload_n dX6_nudge_51 rfl (by rfl) ?_
          refine r_iaddN dX6_nudge_52 ?_
          refine r_ialdN dX6_nudge_53 (by first | assumption | rfl) (by omega) (by decide) ?_
          refine r_iconst (v := nI 1) dX6_nudge_54 (by decide) ?_
          refine r_icmp_ne (tgt := 60) dX6_nudge_55 (by decide) (fun h55 => ?_) (fun h55 => ?_)
          · refine r_aload_n dX6_nudge_60 rfl (by rfl) ?_
            refine gf_X6_11 rfl dX6_nudge_61 (by first | assumption | rfl) (by rfl) ?_
            refine r_bipush (v := nI 10) dX6_nudge_64 (by decide) ?_
            refine r_iload_n dX6_nudge_66 rfl (by rfl) ?_
            refine r_iaddN dX6_nudge_67 ?_
            refine r_ialdN dX6_nudge_68 (by first | assumption | rfl) (by omega) (by decide) ?_
            refine r_iconst (v := nI 2) dX6_nudge_69 (by decide) ?_
            refine r_icmp_gt (tgt := 80) dX6_nudge_70 (by decide) (fun h70 => ?_) (fun h70 => ?_)
            · refine r_aload_n dX6_nudge_80 rfl (by rfl) ?_
              refine gf_X6_11 rfl dX6_nudge_81 (by first | assumption | rfl) (by rfl) ?_
              refine r_bipush (v := nI 10) dX6_nudge_84 (by decide) ?_
              refine r_iload_n dX6_nudge_86 rfl (by rfl) ?_
              refine r_iaddN dX6_nudge_87 ?_
              refine r_dup2 dX6_nudge_88 rfl rfl ?_
              refine r_ialdN dX6_nudge_89 (by first | assumption | rfl) (by omega) (by decide) ?_
              refine r_iconst (v := nI 2) dX6_nudge_90 (by decide) ?_
              refine r_isub dX6_nudge_91 ?_
              refine r_iastN dX6_nudge_92 (by first | assumption | rfl) (by omega) (by decide) ?_
              refine r_aload_n dX6_nudge_93 rfl (by rfl) ?_
              refine gf_X6_11 rfl dX6_nudge_94 (by first | assumption | rfl) (by rfl) ?_
              refine r_bipush (v := nI 15) dX6_nudge_97 (by decide) ?_
              refine r_iload_n dX6_nudge_99 rfl (by rfl) ?_
              refine r_iaddN dX6_nudge_100 ?_
              refine r_iconst (v := nI 1) dX6_nudge_101 (by decide) ?_
              refine r_iastN dX6_nudge_102 (by first | assumption | rfl) (by omega) (by decide) ?_
              refine r_aload_n dX6_nudge_103 rfl (by rfl) ?_
              refine gf_X6_11 rfl dX6_nudge_104 (by first | assumption | rfl) (by rfl) ?_
              refine r_bipush (v := nI 20) dX6_nudge_107 (by decide) ?_
              refine r_iload_n dX6_nudge_109 rfl (by rfl) ?_
              refine r_iaddN dX6_nudge_110 ?_
              refine r_iconst (v := nI 0) dX6_nudge_111 (by decide) ?_
              refine r_iastN dX6_nudge_112 (by first | assumption | rfl) (by omega) (by decide) ?_
              refine r_iconst (v := nI 1) dX6_nudge_113 (by decide) ?_
              refine r_zret rfl (by first | exact bI_01 _ | exact Or.inl rfl | exact Or.inr rfl) dX6_nudge_114 ?_
              first
                | exact absurd h42 (by decide +kernel)
                | exact absurd (show nI 0 = 0 from rfl) h42
                | (have hb : nudgeB (x (c0 + 1)) p q = true := by
                     unfold nudgeB
                     rw [h30, h38, decide_eq_true h16, decide_eq_false h55]
                     rfl
                   refine ⟨by rw [hb]; rfl, ?_⟩
                   unfold nudgeR
                   rw [hb, if_pos rfl, if_pos h70]
                   simp only [xu1, xr_xr, xr_s])
            · refine r_aload_n dX6_nudge_73 rfl (by rfl) ?_
              refine r_iload_n dX6_nudge_74 rfl (by rfl) ?_
              refine r_callV (c_X6_wake hN0 (by omega)) mv_X6_wake ml_X6_125 ⟨by decide, by decide⟩ dX6_nudge_75 (by first | assumption | rfl) rfl rfl rfl (Nat.le_of_ble_eq_true rfl) (fun v9 x9 h9 => ?_)
              obtain ⟨rfl, h9⟩ := h9
              refine PW.xeq h9 ?_
              clear h9 x9
              refine r_iconst (v := nI 1) dX6_nudge_78 (by decide) ?_
              refine r_zret rfl (by first | exact bI_01 _ | exact Or.inl rfl | exact Or.inr rfl) dX6_nudge_79 ?_
              first
                | exact absurd h42 (by decide +kernel)
                | exact absurd (show nI 0 = 0 from rfl) h42
                | (have hb : nudgeB (x (c0 + 1)) p q = true := by
                     unfold nudgeB
                     rw [h30, h38, decide_eq_true h16, decide_eq_false h55]
                     rfl
                   refine ⟨by rw [hb]; rfl, ?_⟩
                   unfold nudgeR
                   rw [hb, if_pos rfl, if_neg h70])
          · refine r_iconst (v := nI 0) dX6_nudge_58 (by decide) ?_
            refine r_zret rfl (by first | exact bI_01 _ | exact Or.inl rfl | exact Or.inr rfl) dX6_nudge_59 ?_
            first
              | exact absurd h42 (by decide +kernel)
              | exact absurd (show nI 0 = 0 from rfl) h42
              | (have hb : nudgeB (x (c0 + 1)) p q = false := by
                   unfold nudgeB
                   first
                     | (rw [h30]; rfl)
                     | (rw [h30, h38]; rfl)
                     | (rw [h30, h38, decide_eq_false h16]; rfl)
                     | (rw [h30, h38, decide_eq_true h16, decide_eq_true h55]; rfl)
                 refine ⟨by rw [hb]; rfl, ?_⟩
                 unfold nudgeR
                 rw [hb]
                 exact (xr_id x _).symm)
  · refine r_iconst (v := nI 1) dX6_nudge_19 (by decide) ?_
    refine r_goto (tgt := 24) dX6_nudge_20 (by decide) ?_
    refine r_istore_n dX6_nudge_24 rfl (by decide) ?_
    refine r_aload_n dX6_nudge_25 rfl (by rfl) ?_
    refine r_iload_n dX6_nudge_26 rfl (by rfl) ?_
    refine r_callV (c_X6_isAsleep hN0 (by omega)) mv_X6_isAsleep ml_X6_67 ⟨by decide, by decide⟩ dX6_nudge_27 (by first | assumption | rfl) rfl rfl rfl (Nat.le_of_ble_eq_true rfl) (fun v9 x9 h9 => ?_)
    obtain ⟨rfl, h9⟩ := h9
    refine PW.xeq h9 ?_
    clear h9 x9
    refine r_if_neB (tgt := 58) dX6_nudge_30 (by decide) (fun h30 => ?_) (fun h30 => ?_)
    · refine r_iconst (v := nI 0) dX6_nudge_58 (by decide) ?_
      refine r_zret rfl (by first | exact bI_01 _ | exact Or.inl rfl | exact Or.inr rfl) dX6_nudge_59 ?_
      first
        | exact absurd h42 (by decide +kernel)
        | exact absurd (show nI 0 = 0 from rfl) h42
        | (have hb : nudgeB (x (c0 + 1)) p q = false := by
             unfold nudgeB
             first
               | (rw [h30]; rfl)
               | (rw [h30, h38]; rfl)
               | (rw [h30, h38, decide_eq_false h16]; rfl)
               | (rw [h30, h38, decide_eq_true h16, decide_eq_true h55]; rfl)
           refine ⟨by rw [hb]; rfl, ?_⟩
           unfold nudgeR
           rw [hb]
           exact (xr_id x _).symm)
    · refine r_aload_n dX6_nudge_33 rfl (by rfl) ?_
      refine r_iload_n dX6_nudge_34 rfl (by rfl) ?_
      refine r_callV (c_X6_isAsleep hN0 (by omega)) mv_X6_isAsleep ml_X6_67 ⟨by decide, by decide⟩ dX6_nudge_35 (by first | assumption | rfl) rfl rfl rfl (Nat.le_of_ble_eq_true rfl) (fun v9 x9 h9 => ?_)
      obtain ⟨rfl, h9⟩ := h9
      refine PW.xeq h9 ?_
      clear h9 x9
      refine r_if_eqB (tgt := 58) dX6_nudge_38 (by decide) (fun h38 => ?_) (fun h38 => ?_)
      · refine r_iconst (v := nI 0) dX6_nudge_58 (by decide) ?_
        refine r_zret rfl (by first | exact bI_01 _ | exact Or.inl rfl | exact Or.inr rfl) dX6_nudge_59 ?_
        first
          | exact absurd h42 (by decide +kernel)
          | exact absurd (show nI 0 = 0 from rfl) h42
          | (have hb : nudgeB (x (c0 + 1)) p q = false := by
               unfold nudgeB
               first
                 | (rw [h30]; rfl)
                 | (rw [h30, h38]; rfl)
                 | (rw [h30, h38, decide_eq_false h16]; rfl)
                 | (rw [h30, h38, decide_eq_true h16, decide_eq_true h55]; rfl)
             refine ⟨by rw [hb]; rfl, ?_⟩
             unfold nudgeR
             rw [hb]
             exact (xr_id x _).symm)
      · refine r_iload_n dX6_nudge_41 rfl (by rfl) ?_
        refine r_if_eq (tgt := 58) dX6_nudge_42 (by decide) (fun h42 => ?_) (fun h42 => ?_)
        · refine r_iconst (v := nI 0) dX6_nudge_58 (by decide) ?_
          refine r_zret rfl (by first | exact bI_01 _ | exact Or.inl rfl | exact Or.inr rfl) dX6_nudge_59 ?_
          first
            | exact absurd h42 (by decide +kernel)
            | exact absurd (show nI 0 = 0 from rfl) h42
            | (have hb : nudgeB (x (c0 + 1)) p q = false := by
                 unfold nudgeB
                 first
                   | (rw [h30]; rfl)
                   | (rw [h30, h38]; rfl)
                   | (rw [h30, h38, decide_eq_false h16]; rfl)
                   | (rw [h30, h38, decide_eq_true h16, decide_eq_true h55]; rfl)
               refine ⟨by rw [hb]; rfl, ?_⟩
               unfold nudgeR
               rw [hb]
               exact (xr_id x _).symm)
        · refine r_aload_n dX6_nudge_45 rfl (by rfl) ?_
          refine gf_X6_11 rfl dX6_nudge_46 (by first | assumption | rfl) (by rfl) ?_
          refine r_bipush (v := nI 15) dX6_nudge_49 (by decide) ?_
          refine r_iload_n dX6_nudge_51 rfl (by rfl) ?_
          refine r_iaddN dX6_nudge_52 ?_
          refine r_ialdN dX6_nudge_53 (by first | assumption | rfl) (by omega) (by decide) ?_
          refine r_iconst (v := nI 1) dX6_nudge_54 (by decide) ?_
          refine r_icmp_ne (tgt := 60) dX6_nudge_55 (by decide) (fun h55 => ?_) (fun h55 => ?_)
          · refine r_aload_n dX6_nudge_60 rfl (by rfl) ?_
            refine gf_X6_11 rfl dX6_nudge_61 (by first | assumption | rfl) (by rfl) ?_
            refine r_bipush (v := nI 10) dX6_nudge_64 (by decide) ?_
            refine r_iload_n dX6_nudge_66 rfl (by rfl) ?_
            refine r_iaddN dX6_nudge_67 ?_
            refine r_ialdN dX6_nudge_68 (by first | assumption | rfl) (by omega) (by decide) ?_
            refine r_iconst (v := nI 2) dX6_nudge_69 (by decide) ?_
            refine r_icmp_gt (tgt := 80) dX6_nudge_70 (by decide) (fun h70 => ?_) (fun h70 => ?_)
            · refine r_aload_n dX6_nudge_80 rfl (by rfl) ?_
              refine gf_X6_11 rfl dX6_nudge_81 (by first | assumption | rfl) (by rfl) ?_
              refine r_bipush (v := nI 10) dX6_nudge_84 (by decide) ?_
              refine r_iload_n dX6_nudge_86 rfl (by rfl) ?_
              refine r_iaddN dX6_nudge_87 ?_
              refine r_dup2 dX6_nudge_88 rfl rfl ?_
              refine r_ialdN dX6_nudge_89 (by first | assumption | rfl) (by omega) (by decide) ?_
              refine r_iconst (v := nI 2) dX6_nudge_90 (by decide) ?_
              refine r_isub dX6_nudge_91 ?_
              refine r_iastN dX6_nudge_92 (by first | assumption | rfl) (by omega) (by decide) ?_
              refine r_aload_n dX6_nudge_93 rfl (by rfl) ?_
              refine gf_X6_11 rfl dX6_nudge_94 (by first | assumption | rfl) (by rfl) ?_
              refine r_bipush (v := nI 15) dX6_nudge_97 (by decide) ?_
              refine r_iload_n dX6_nudge_99 rfl (by rfl) ?_
              refine r_iaddN dX6_nudge_100 ?_
              refine r_iconst (v := nI 1) dX6_nudge_101 (by decide) ?_
              refine r_iastN dX6_nudge_102 (by first | assumption | rfl) (by omega) (by decide) ?_
              refine r_aload_n dX6_nudge_103 rfl (by rfl) ?_
              refine gf_X6_11 rfl dX6_nudge_104 (by first | assumption | rfl) (by rfl) ?_
              refine r_bipush (v := nI 20) dX6_nudge_107 (by decide) ?_
              refine r_iload_n dX6_nudge_109 rfl (by rfl) ?_
              refine r_iaddN dX6_nudge_110 ?_
              refine r_iconst (v := nI 0) dX6_nudge_111 (by decide) ?_
              refine r_iastN dX6_nudge_112 (by first | assumption | rfl) (by omega) (by decide) ?_
              refine r_iconst (v := nI 1) dX6_nudge_113 (by decide) ?_
              refine r_zret rfl (by first | exact bI_01 _ | exact Or.inl rfl | exact Or.inr rfl) dX6_nudge_114 ?_
              first
                | exact absurd h42 (by decide +kernel)
                | exact absurd (show nI 0 = 0 from rfl) h42
                | (have hb : nudgeB (x (c0 + 1)) p q = true := by
                     unfold nudgeB
                     rw [h30, h38, decide_eq_true h16, decide_eq_false h55]
                     rfl
                   refine ⟨by rw [hb]; rfl, ?_⟩
                   unfold nudgeR
                   rw [hb, if_pos rfl, if_pos h70]
                   simp only [xu1, xr_xr, xr_s])
            · refine r_aload_n dX6_nudge_73 rfl (by rfl) ?_
              refine r_iload_n dX6_nudge_74 rfl (by rfl) ?_
              refine r_callV (c_X6_wake hN0 (by omega)) mv_X6_wake ml_X6_125 ⟨by decide, by decide⟩ dX6_nudge_75 (by first | assumption | rfl) rfl rfl rfl (Nat.le_of_ble_eq_true rfl) (fun v9 x9 h9 => ?_)
              obtain ⟨rfl, h9⟩ := h9
              refine PW.xeq h9 ?_
              clear h9 x9
              refine r_iconst (v := nI 1) dX6_nudge_78 (by decide) ?_
              refine r_zret rfl (by first | exact bI_01 _ | exact Or.inl rfl | exact Or.inr rfl) dX6_nudge_79 ?_
              first
                | exact absurd h42 (by decide +kernel)
                | exact absurd (show nI 0 = 0 from rfl) h42
                | (have hb : nudgeB (x (c0 + 1)) p q = true := by
                     unfold nudgeB
                     rw [h30, h38, decide_eq_true h16, decide_eq_false h55]
                     rfl
                   refine ⟨by rw [hb]; rfl, ?_⟩
                   unfold nudgeR
                   rw [hb, if_pos rfl, if_neg h70])
          · refine r_iconst (v := nI 0) dX6_nudge_58 (by decide) ?_
            refine r_zret rfl (by first | exact bI_01 _ | exact Or.inl rfl | exact Or.inr rfl) dX6_nudge_59 ?_
            first
              | exact absurd h42 (by decide +kernel)
              | exact absurd (show nI 0 = 0 from rfl) h42
              | (have hb : nudgeB (x (c0 + 1)) p q = false := by
                   unfold nudgeB
                   first
                     | (rw [h30]; rfl)
                     | (rw [h30, h38]; rfl)
                     | (rw [h30, h38, decide_eq_false h16]; rfl)
                     | (rw [h30, h38, decide_eq_true h16, decide_eq_true h55]; rfl)
                 refine ⟨by rw [hb]; rfl, ?_⟩
                 unfold nudgeR
                 rw [hb]
                 exact (xr_id x _).symm)
set_option maxHeartbeats 8000000 in
set_option maxRecDepth 20000 in
theorem c_X6_sleptByAll {c0 n : Nat} {x : XS} (hN : IsN c0) (hn : n ≤ 5) (hs : x 3 0 = nI n) : MM mX6_sleptByAll 0 0 0 [.ref c0] x (fun v x1 => v = some (.int (sumR (x (c0 + 1)) 25 n)) ∧ x1 = x) NoT := by
  refine MM.of (by decide) (Nat.le_of_ble_eq_true rfl) ?_
  have n0 := n_o hN
  have n1 := n_1 hN
  have y3 := lay_3
  refine r_iconst (v := nI 0) dX6_sleptByAll_0 (by decide) ?_
  refine r_istore_n dX6_sleptByAll_1 rfl (by decide) ?_
  refine r_iconst (v := nI 0) dX6_sleptByAll_2 (by decide) ?_
  refine r_istore_n dX6_sleptByAll_3 rfl (by decide) ?_
  refine PW.loop (σ := Nat) (fun i => n - i) (fun i => i ≤ n) (fun i => [(0, .ref c0), (1, .int (sumR (x (c0 + 1)) 25 i)), (2, .int (nI i))]) (fun _ => x) (0) (Nat.zero_le n) rfl rfl (fun i hi ih => ?_)
  refine r_iload_n dX6_sleptByAll_4 rfl (by rfl) ?_
  refine r_aload_n dX6_sleptByAll_5 rfl (by rfl) ?_
  refine gf_X6_36 rfl dX6_sleptByAll_6 (by first | assumption | rfl) (by rfl) ?_
  refine gf_X6_44 rfl dX6_sleptByAll_9 (by first | assumption | rfl) (by rfl) ?_
  refine PW.topi hs ?_
  refine r_icmp_geN (tgt := 33) dX6_sleptByAll_12 (by decide) (by omega) (by omega) (fun h12 => ?_) (fun h12 => ?_)
  · refine r_iload_n dX6_sleptByAll_33 rfl (by rfl) ?_
    refine r_iret rfl dX6_sleptByAll_34 ?_
    have e : i = n := by omega
    subst e
    exact ⟨rfl, rfl⟩
  · refine r_iload_n dX6_sleptByAll_15 rfl (by rfl) ?_
    refine r_aload_n dX6_sleptByAll_16 rfl (by rfl) ?_
    refine gf_X6_11 rfl dX6_sleptByAll_17 (by first | assumption | rfl) (by rfl) ?_
    refine r_bipush (v := nI 25) dX6_sleptByAll_20 (by decide) ?_
    refine r_iload_n dX6_sleptByAll_22 rfl (by rfl) ?_
    refine r_iaddN dX6_sleptByAll_23 ?_
    refine r_ialdN dX6_sleptByAll_24 (by first | assumption | rfl) (by omega) (by decide) ?_
    refine r_iadd dX6_sleptByAll_25 ?_
    refine r_istore_n dX6_sleptByAll_26 rfl (by decide) ?_
    refine r_iincN dX6_sleptByAll_27 (by rfl) (by decide) ?_
    refine r_goto (tgt := 4) dX6_sleptByAll_30 (by decide) ?_
    exact PW.lc (by rfl) rfl (ih (i + 1) (by omega) (by omega))
set_option maxHeartbeats 8000000 in
set_option maxRecDepth 20000 in
theorem c_X6_settle {c0 n : Nat} {sv : Int32} {x : XS} (hN : IsN c0) (hn : n ≤ 5) (hs : x 3 0 = nI n) : MM mX6_settle 1 0 0 [.ref c0, .int sv] x (fun v x1 => v = some (.int (bI (setl (x (c0 + 1)) sv n).1)) ∧ x1 = xr x (c0 + 1) (setl (x (c0 + 1)) sv n).2) NoT := by
  refine MM.of (by decide) (Nat.le_of_ble_eq_true rfl) ?_
  have n0 := n_o hN
  have n1 := n_1 hN
  have y3 := lay_3
  refine r_iconst (v := nI 0) dX6_settle_0 (by decide) ?_
  refine r_istore_n dX6_settle_1 rfl (by decide) ?_
  refine PW.loop (σ := Nat) (fun i => n - i) (fun i => i ≤ n ∧ (setl (x (c0 + 1)) sv i).1 = true) (fun i => [(0, .ref c0), (1, .int sv), (2, .int (nI i))]) (fun i => xr x (c0 + 1) (setl (x (c0 + 1)) sv i).2) (0) (⟨Nat.zero_le n, rfl⟩) rfl (xr_id x (c0 + 1)).symm (fun i hi ih => ?_)
  have hi1 := hi.1
  refine r_iload_n dX6_settle_2 rfl (by rfl) ?_
  refine r_aload_n dX6_settle_3 rfl (by rfl) ?_
  refine gf_X6_36 rfl dX6_settle_4 (by first | assumption | rfl) (by rfl) ?_
  refine gf_X6_44 rfl dX6_settle_7 (by first | assumption | rfl) (by rfl) ?_
  refine PW.topi (show xr x (c0 + 1) (setl (x (c0 + 1)) sv i).2 3 0 = nI n by rw [xr_n (by rcases hN with rfl | rfl <;> decide)]; exact hs) ?_
  refine r_icmp_geN (tgt := 56) dX6_settle_10 (by decide) (by omega) (by omega) (fun h10 => ?_) (fun h10 => ?_)
  · refine r_iconst (v := nI 1) dX6_settle_56 (by decide) ?_
    refine r_zret rfl (by first | exact bI_01 _ | exact Or.inl rfl | exact Or.inr rfl) dX6_settle_57 ?_
    have e : i = n := by omega
    subst e
    rw [hi.2]
    exact ⟨rfl, rfl⟩
  · refine r_iload_n dX6_settle_13 rfl (by rfl) ?_
    refine r_iload_n dX6_settle_14 rfl (by rfl) ?_
    refine r_ishr dX6_settle_15 ?_
    refine r_iconst (v := nI 1) dX6_settle_16 (by decide) ?_
    refine r_iand dX6_settle_17 ?_
    refine PW.topi (show _ = bitV sv i from rfl) ?_
    refine r_istore_n dX6_settle_18 rfl (by decide) ?_
    refine r_aload_n dX6_settle_19 rfl (by rfl) ?_
    refine r_iload_n dX6_settle_20 rfl (by rfl) ?_
    refine r_callV (c_X6_isAsleep hN (by omega)) mv_X6_isAsleep ml_X6_67 ⟨by decide, by decide⟩ dX6_settle_21 (by first | assumption | rfl) rfl rfl rfl (Nat.le_of_ble_eq_true rfl) (fun v9 x9 h9 => ?_)
    obtain ⟨rfl, h9⟩ := h9
    refine PW.xeq h9 ?_
    clear h9 x9
    rw [xr_s]
    refine r_if_eqB (tgt := 41) dX6_settle_24 (by decide) (fun h24 => ?_) (fun h24 => ?_)
    · have e : setl (x (c0 + 1)) sv (i + 1) = (true, upd (setl (x (c0 + 1)) sv i).2 (5 + i) (bitV sv i)) := by
        show (if (setl (x (c0 + 1)) sv i).1 then _ else _) = _
        rw [hi.2]
        first
          | (rw [h24]; rfl)
          | (rw [h24, decide_eq_true h36]; rfl)
      refine r_aload_n dX6_settle_41 rfl (by rfl) ?_
      refine gf_X6_11 rfl dX6_settle_42 (by first | assumption | rfl) (by rfl) ?_
      refine r_iconst (v := nI 5) dX6_settle_45 (by decide) ?_
      refine r_iload_n dX6_settle_46 rfl (by rfl) ?_
      refine r_iaddN dX6_settle_47 ?_
      refine r_iload_n dX6_settle_48 rfl (by rfl) ?_
      refine r_iastN dX6_settle_49 (by first | assumption | rfl) (by omega) (by decide) ?_
      refine r_iincN dX6_settle_50 (by rfl) (by decide) ?_
      refine r_goto (tgt := 2) dX6_settle_53 (by decide) ?_
      exact PW.lc (by rfl) (by rw [xu_xr, e]) (ih (i + 1) ⟨by omega, by rw [e]⟩ (by omega))
    · refine r_aload_n dX6_settle_27 rfl (by rfl) ?_
      refine gf_X6_11 rfl dX6_settle_28 (by first | assumption | rfl) (by rfl) ?_
      refine r_iconst (v := nI 5) dX6_settle_31 (by decide) ?_
      refine r_iload_n dX6_settle_32 rfl (by rfl) ?_
      refine r_iaddN dX6_settle_33 ?_
      refine r_ialdN dX6_settle_34 (by first | assumption | rfl) (by omega) (by decide) ?_
      refine PW.topi (show _ = (setl (x (c0 + 1)) sv i).2 (5 + i) by rw [xr_s]) ?_
      refine r_iload_n dX6_settle_35 rfl (by rfl) ?_
      refine r_icmp_eq (tgt := 41) dX6_settle_36 (by decide) (fun h36 => ?_) (fun h36 => ?_)
      · have e : setl (x (c0 + 1)) sv (i + 1) = (true, upd (setl (x (c0 + 1)) sv i).2 (5 + i) (bitV sv i)) := by
          show (if (setl (x (c0 + 1)) sv i).1 then _ else _) = _
          rw [hi.2]
          first
            | (rw [h24]; rfl)
            | (rw [h24, decide_eq_true h36]; rfl)
        refine r_aload_n dX6_settle_41 rfl (by rfl) ?_
        refine gf_X6_11 rfl dX6_settle_42 (by first | assumption | rfl) (by rfl) ?_
        refine r_iconst (v := nI 5) dX6_settle_45 (by decide) ?_
        refine r_iload_n dX6_settle_46 rfl (by rfl) ?_
        refine r_iaddN dX6_settle_47 ?_
        refine r_iload_n dX6_settle_48 rfl (by rfl) ?_
        refine r_iastN dX6_settle_49 (by first | assumption | rfl) (by omega) (by decide) ?_
        refine r_iincN dX6_settle_50 (by rfl) (by decide) ?_
        refine r_goto (tgt := 2) dX6_settle_53 (by decide) ?_
        exact PW.lc (by rfl) (by rw [xu_xr, e]) (ih (i + 1) ⟨by omega, by rw [e]⟩ (by omega))
      · refine r_iconst (v := nI 0) dX6_settle_39 (by decide) ?_
        refine r_zret rfl (by first | exact bI_01 _ | exact Or.inl rfl | exact Or.inr rfl) dX6_settle_40 ?_
        have e : setl (x (c0 + 1)) sv (i + 1) = (false, (setl (x (c0 + 1)) sv i).2) := by
          show (if (setl (x (c0 + 1)) sv i).1 then _ else _) = _
          rw [hi.2, h24, decide_eq_false h36]
          rfl
        have e2 : setl (x (c0 + 1)) sv n = setl (x (c0 + 1)) sv (i + 1) := by
          have := setl_f (f := x (c0 + 1)) (sv := sv) (i := i + 1) (by rw [e]) (n - (i + 1))
          rw [show i + 1 + (n - (i + 1)) = n by omega] at this
          exact this
        rw [e2, e]
        exact ⟨rfl, rfl⟩
set_option maxHeartbeats 8000000 in
set_option maxRecDepth 20000 in
theorem c_X6_sleepOrWake {c0 p : Nat} {x : XS} (hN : IsN c0) (hp : p < 5) : MM mX6_sleepOrWake 1 0 0 [.ref c0, .int (nI p)] x (fun v x1 => v = none ∧ x1 = xr x (c0 + 1) (sleepR x (x (c0 + 1)) p (x (c0 + 4) p))) NoT := by
  refine MM.of (by decide) (Nat.le_of_ble_eq_true rfl) ?_
  have hN0 := hN
  have n0 := n_o hN
  have n1 := n_1 hN
  have n2 := n_2 hN
  have n3 := n_3 hN
  have n4 := n_4 hN
  have n5 := n_5 hN
  have y3 := lay_3
  have y4 := lay_4
  have y5 := lay_5
  have y6 := lay_6
  have y7 := lay_7
  have y8 := lay_8
  have y9 := lay_9
  have y10 := lay_10
  have y11 := lay_11
  have y12 := lay_12
  have y23 := lay_23
  rcases hN with rfl | rfl
  all_goals
    refine r_aload_n dX6_sleepOrWake_0 rfl (by rfl) ?_
    refine gf_X6_21 rfl dX6_sleepOrWake_1 (by first | assumption | rfl) (by rfl) ?_
    refine r_iload_n dX6_sleepOrWake_4 rfl (by rfl) ?_
    refine r_ialdN dX6_sleepOrWake_5 (by first | assumption | rfl) (by omega) (by decide) ?_
    refine r_aload_n dX6_sleepOrWake_6 rfl (by rfl) ?_
    refine gf_X6_36 rfl dX6_sleepOrWake_7 (by first | assumption | rfl) (by rfl) ?_
    refine gf_X6_101 rfl dX6_sleepOrWake_10 (by first | assumption | rfl) (by rfl) ?_
    refine r_iload_n dX6_sleepOrWake_13 rfl (by rfl) ?_
    refine r_ialdN dX6_sleepOrWake_14 (by first | assumption | rfl) (by omega) (by decide) ?_
    refine r_aload_n dX6_sleepOrWake_15 rfl (by rfl) ?_
    refine gf_X6_11 rfl dX6_sleepOrWake_16 (by first | assumption | rfl) (by rfl) ?_
    refine r_bipush (v := nI 10) dX6_sleepOrWake_19 (by decide) ?_
    refine r_iload_n dX6_sleepOrWake_21 rfl (by rfl) ?_
    refine r_iaddN dX6_sleepOrWake_22 ?_
    refine r_ialdN dX6_sleepOrWake_23 (by first | assumption | rfl) (by omega) (by decide) ?_
    refine r_iadd dX6_sleepOrWake_24 ?_
    refine r_icmp_le (tgt := 34) dX6_sleepOrWake_25 (by decide) (fun h25 => ?_) (fun h25 => ?_)
    · refine r_aload_n dX6_sleepOrWake_34 rfl (by rfl) ?_
      refine gf_X6_11 rfl dX6_sleepOrWake_35 (by first | assumption | rfl) (by rfl) ?_
      refine r_bipush (v := nI 10) dX6_sleepOrWake_38 (by decide) ?_
      refine r_iload_n dX6_sleepOrWake_40 rfl (by rfl) ?_
      refine r_iaddN dX6_sleepOrWake_41 ?_
      refine r_bipush (v := nI 9) dX6_sleepOrWake_42 (by decide) ?_
      refine r_aload_n dX6_sleepOrWake_44 rfl (by rfl) ?_
      refine gf_X6_11 rfl dX6_sleepOrWake_45 (by first | assumption | rfl) (by rfl) ?_
      refine r_bipush (v := nI 10) dX6_sleepOrWake_48 (by decide) ?_
      refine r_iload_n dX6_sleepOrWake_50 rfl (by rfl) ?_
      refine r_iaddN dX6_sleepOrWake_51 ?_
      refine r_ialdN dX6_sleepOrWake_52 (by first | assumption | rfl) (by omega) (by decide) ?_
      refine r_iconst (v := nI 1) dX6_sleepOrWake_53 (by decide) ?_
      refine r_iadd dX6_sleepOrWake_54 ?_
      refine r_callS c_min ms_J9_min_7cf53 ml_X6_83 ⟨by decide, by decide⟩ dX6_sleepOrWake_55 rfl (Nat.le_of_ble_eq_true rfl) (fun v9 x9 h9 => ?_)
      obtain ⟨rfl, h9⟩ := h9
      refine PW.xeq h9 ?_
      clear h9 x9
      refine r_iastN dX6_sleepOrWake_58 (by first | assumption | rfl) (by omega) (by decide) ?_
      refine r_aload_n dX6_sleepOrWake_59 rfl (by rfl) ?_
      refine gf_X6_11 rfl dX6_sleepOrWake_60 (by first | assumption | rfl) (by rfl) ?_
      refine r_iconst (v := nI 0) dX6_sleepOrWake_63 (by decide) ?_
      refine r_iload_n dX6_sleepOrWake_64 rfl (by rfl) ?_
      refine r_iaddN dX6_sleepOrWake_65 ?_
      refine r_iconst (v := nI 0) dX6_sleepOrWake_66 (by decide) ?_
      refine r_aload_n dX6_sleepOrWake_67 rfl (by rfl) ?_
      refine gf_X6_11 rfl dX6_sleepOrWake_68 (by first | assumption | rfl) (by rfl) ?_
      refine r_iconst (v := nI 0) dX6_sleepOrWake_71 (by decide) ?_
      refine r_iload_n dX6_sleepOrWake_72 rfl (by rfl) ?_
      refine r_iaddN dX6_sleepOrWake_73 ?_
      refine r_ialdN dX6_sleepOrWake_74 (by first | assumption | rfl) (by omega) (by decide) ?_
      refine r_iconst (v := nI 1) dX6_sleepOrWake_75 (by decide) ?_
      refine r_isub dX6_sleepOrWake_76 ?_
      refine r_callS c_max ms_J9_max_7cf53 ml_X6_89 ⟨by decide, by decide⟩ dX6_sleepOrWake_77 rfl (Nat.le_of_ble_eq_true rfl) (fun v9 x9 h9 => ?_)
      obtain ⟨rfl, h9⟩ := h9
      refine PW.xeq h9 ?_
      clear h9 x9
      refine r_iastN dX6_sleepOrWake_80 (by first | assumption | rfl) (by omega) (by decide) ?_
      refine r_aload_n dX6_sleepOrWake_81 rfl (by rfl) ?_
      refine gf_X6_11 rfl dX6_sleepOrWake_82 (by first | assumption | rfl) (by rfl) ?_
      refine r_bipush (v := nI 25) dX6_sleepOrWake_85 (by decide) ?_
      refine r_iload_n dX6_sleepOrWake_87 rfl (by rfl) ?_
      refine r_iaddN dX6_sleepOrWake_88 ?_
      refine r_dup2 dX6_sleepOrWake_89 rfl rfl ?_
      refine r_ialdN dX6_sleepOrWake_90 (by first | assumption | rfl) (by omega) (by decide) ?_
      refine r_iconst (v := nI 1) dX6_sleepOrWake_91 (by decide) ?_
      refine r_iadd dX6_sleepOrWake_92 ?_
      refine r_iastN dX6_sleepOrWake_93 (by first | assumption | rfl) (by omega) (by decide) ?_
      refine r_aload_n dX6_sleepOrWake_94 rfl (by rfl) ?_
      refine gf_X6_11 rfl dX6_sleepOrWake_95 (by first | assumption | rfl) (by rfl) ?_
      refine r_bipush (v := nI 15) dX6_sleepOrWake_98 (by decide) ?_
      refine r_iload_n dX6_sleepOrWake_100 rfl (by rfl) ?_
      refine r_iaddN dX6_sleepOrWake_101 ?_
      refine r_ialdN dX6_sleepOrWake_102 (by first | assumption | rfl) (by omega) (by decide) ?_
      refine r_iconst (v := nI 1) dX6_sleepOrWake_103 (by decide) ?_
      refine r_icmp_ne (tgt := 149) dX6_sleepOrWake_104 (by decide) (fun h104 => ?_) (fun h104 => ?_)
      · refine r_ret rfl dX6_sleepOrWake_149 ?_
        refine ⟨rfl, ?_⟩
        simp only [xu1, xr_xr, xr_s] at h104 ⊢
        unfold sleepR
        rw [if_pos h25]
        dsimp only
        first
          | (rw [if_neg h104]; done)
          | (simp only [xu1, xr_xr, xr_s] at h136
             rw [if_pos h104]
             first
               | (rw [if_pos h136]; done)
               | (rw [if_neg h136]; done))
      · refine r_aload_n dX6_sleepOrWake_107 rfl (by rfl) ?_
        refine gf_X6_11 rfl dX6_sleepOrWake_108 (by first | assumption | rfl) (by rfl) ?_
        refine r_bipush (v := nI 20) dX6_sleepOrWake_111 (by decide) ?_
        refine r_iload_n dX6_sleepOrWake_113 rfl (by rfl) ?_
        refine r_iaddN dX6_sleepOrWake_114 ?_
        refine r_dup2 dX6_sleepOrWake_115 rfl rfl ?_
        refine r_ialdN dX6_sleepOrWake_116 (by first | assumption | rfl) (by omega) (by decide) ?_
        refine r_iconst (v := nI 1) dX6_sleepOrWake_117 (by decide) ?_
        refine r_iadd dX6_sleepOrWake_118 ?_
        refine r_iastN dX6_sleepOrWake_119 (by first | assumption | rfl) (by omega) (by decide) ?_
        refine r_aload_n dX6_sleepOrWake_120 rfl (by rfl) ?_
        refine gf_X6_11 rfl dX6_sleepOrWake_121 (by first | assumption | rfl) (by rfl) ?_
        refine r_bipush (v := nI 20) dX6_sleepOrWake_124 (by decide) ?_
        refine r_iload_n dX6_sleepOrWake_126 rfl (by rfl) ?_
        refine r_iaddN dX6_sleepOrWake_127 ?_
        refine r_ialdN dX6_sleepOrWake_128 (by first | assumption | rfl) (by omega) (by decide) ?_
        refine r_aload_n dX6_sleepOrWake_129 rfl (by rfl) ?_
        refine gf_X6_36 rfl dX6_sleepOrWake_130 (by first | assumption | rfl) (by rfl) ?_
        refine gf_X6_128 rfl dX6_sleepOrWake_133 (by first | assumption | rfl) (by rfl) ?_
        refine PW.topi (show _ = x 3 12 from rfl) ?_
        refine r_icmp_lt (tgt := 149) dX6_sleepOrWake_136 (by decide) (fun h136 => ?_) (fun h136 => ?_)
        · refine r_ret rfl dX6_sleepOrWake_149 ?_
          refine ⟨rfl, ?_⟩
          simp only [xu1, xr_xr, xr_s] at h104 ⊢
          unfold sleepR
          rw [if_pos h25]
          dsimp only
          first
            | (rw [if_neg h104]; done)
            | (simp only [xu1, xr_xr, xr_s] at h136
               rw [if_pos h104]
               first
                 | (rw [if_pos h136]; done)
                 | (rw [if_neg h136]; done))
        · refine r_aload_n dX6_sleepOrWake_139 rfl (by rfl) ?_
          refine gf_X6_11 rfl dX6_sleepOrWake_140 (by first | assumption | rfl) (by rfl) ?_
          refine r_bipush (v := nI 15) dX6_sleepOrWake_143 (by decide) ?_
          refine r_iload_n dX6_sleepOrWake_145 rfl (by rfl) ?_
          refine r_iaddN dX6_sleepOrWake_146 ?_
          refine r_iconst (v := nI 0) dX6_sleepOrWake_147 (by decide) ?_
          refine r_iastN dX6_sleepOrWake_148 (by first | assumption | rfl) (by omega) (by decide) ?_
          refine r_ret rfl dX6_sleepOrWake_149 ?_
          refine ⟨rfl, ?_⟩
          simp only [xu1, xr_xr, xr_s] at h104 ⊢
          unfold sleepR
          rw [if_pos h25]
          dsimp only
          first
            | (rw [if_neg h104]; done)
            | (simp only [xu1, xr_xr, xr_s] at h136
               rw [if_pos h104]
               first
                 | (rw [if_pos h136]; done)
                 | (rw [if_neg h136]; done))
    · refine r_aload_n dX6_sleepOrWake_28 rfl (by rfl) ?_
      refine r_iload_n dX6_sleepOrWake_29 rfl (by rfl) ?_
      refine r_callV (c_X6_wake hN0 (by omega)) mv_X6_wake ml_X6_125 ⟨by decide, by decide⟩ dX6_sleepOrWake_30 (by first | assumption | rfl) rfl rfl rfl (Nat.le_of_ble_eq_true rfl) (fun v9 x9 h9 => ?_)
      obtain ⟨rfl, h9⟩ := h9
      refine PW.xeq h9 ?_
      clear h9 x9
      refine r_ret rfl dX6_sleepOrWake_33 ?_
      refine ⟨rfl, ?_⟩
      unfold sleepR
      rw [if_neg h25]
set_option maxHeartbeats 8000000 in
set_option maxRecDepth 20000 in
theorem c_X6_fallOrStay {c0 p sz : Nat} {x : XS} (hN : IsN c0) (hp : p < 5) (hz : x 27 1 = nI sz) (hs : sz ≤ 150) : MM mX6_fallOrStay 3 0 0 [.ref c0, .int (nI p)] x (fun v x1 => v = none ∧ x1 = fosX x c0 p sz) NoT := by
  refine MM.of (by decide) (Nat.le_of_ble_eq_true rfl) ?_
  have hN0 := hN
  have n0 := n_o hN
  have n1 := n_1 hN
  have n2 := n_2 hN
  have n3 := n_3 hN
  have n4 := n_4 hN
  have n5 := n_5 hN
  have y3 := lay_3
  have y4 := lay_4
  have y5 := lay_5
  have y6 := lay_6
  have y7 := lay_7
  have y8 := lay_8
  have y9 := lay_9
  have y10 := lay_10
  have y11 := lay_11
  have y12 := lay_12
  have y23 := lay_23
  rcases hN with rfl | rfl
  all_goals
    refine r_aload_n dX6_fallOrStay_0 rfl (by rfl) ?_
    refine gf_X6_11 rfl dX6_fallOrStay_1 (by first | assumption | rfl) (by rfl) ?_
    refine r_bipush (v := nI 40) dX6_fallOrStay_4 (by decide) ?_
    refine r_ialdN dX6_fallOrStay_6 (by first | assumption | rfl) (by omega) (by decide) ?_
    refine r_aload_n dX6_fallOrStay_7 rfl (by rfl) ?_
    refine gf_X6_15 rfl dX6_fallOrStay_8 (by first | assumption | rfl) (by rfl) ?_
    refine r_iload_n dX6_fallOrStay_11 rfl (by rfl) ?_
    refine r_ialdN dX6_fallOrStay_12 (by first | assumption | rfl) (by omega) (by decide) ?_
    refine r_icmp_lt (tgt := 55) dX6_fallOrStay_13 (by decide) (fun h13 => ?_) (fun h13 => ?_)
    · refine r_aload_n dX6_fallOrStay_55 rfl (by rfl) ?_
      refine gf_X6_11 rfl dX6_fallOrStay_56 (by first | assumption | rfl) (by rfl) ?_
      refine r_iconst (v := nI 0) dX6_fallOrStay_59 (by decide) ?_
      refine r_iload_n dX6_fallOrStay_60 rfl (by rfl) ?_
      refine r_iaddN dX6_fallOrStay_61 ?_
      refine r_bipush (v := nI 99) dX6_fallOrStay_62 (by decide) ?_
      refine r_aload_n dX6_fallOrStay_64 rfl (by rfl) ?_
      refine gf_X6_11 rfl dX6_fallOrStay_65 (by first | assumption | rfl) (by rfl) ?_
      refine r_iconst (v := nI 0) dX6_fallOrStay_68 (by decide) ?_
      refine r_iload_n dX6_fallOrStay_69 rfl (by rfl) ?_
      refine r_iaddN dX6_fallOrStay_70 ?_
      refine r_ialdN dX6_fallOrStay_71 (by first | assumption | rfl) (by omega) (by decide) ?_
      refine r_iconst (v := nI 1) dX6_fallOrStay_72 (by decide) ?_
      refine r_iadd dX6_fallOrStay_73 ?_
      refine r_callS c_min ms_J9_min_7cf53 ml_X6_83 ⟨by decide, by decide⟩ dX6_fallOrStay_74 rfl (Nat.le_of_ble_eq_true rfl) (fun v9 x9 h9 => ?_)
      obtain ⟨rfl, h9⟩ := h9
      refine PW.xeq h9 ?_
      clear h9 x9
      refine r_iastN dX6_fallOrStay_77 (by first | assumption | rfl) (by omega) (by decide) ?_
      refine r_aload_n dX6_fallOrStay_78 rfl (by rfl) ?_
      refine gf_X6_11 rfl dX6_fallOrStay_79 (by first | assumption | rfl) (by rfl) ?_
      refine r_bipush (v := nI 30) dX6_fallOrStay_82 (by decide) ?_
      refine r_iload_n dX6_fallOrStay_84 rfl (by rfl) ?_
      refine r_iaddN dX6_fallOrStay_85 ?_
      refine r_dup2 dX6_fallOrStay_86 rfl rfl ?_
      refine r_ialdN dX6_fallOrStay_87 (by first | assumption | rfl) (by omega) (by decide) ?_
      refine r_iconst (v := nI 1) dX6_fallOrStay_88 (by decide) ?_
      refine r_iadd dX6_fallOrStay_89 ?_
      refine r_iastN dX6_fallOrStay_90 (by first | assumption | rfl) (by omega) (by decide) ?_
      refine r_ret rfl dX6_fallOrStay_91 ?_
      refine ⟨rfl, ?_⟩
      unfold fosX
      first
        | (rw [if_pos h13]; simp only [xu1, xr_xr, xr_s]; rfl)
        | (rw [if_neg h13, h21]; simp only [xu1, xr_xr, xr_s]; rfl)
    · refine r_aload_n dX6_fallOrStay_16 rfl (by rfl) ?_
      refine r_iload_n dX6_fallOrStay_17 rfl (by rfl) ?_
      refine r_callV (c_X6_falls hN0 hp hz hs) mv_X6_falls ml_X6_122 ⟨by decide, by decide⟩ dX6_fallOrStay_18 (by first | assumption | rfl) rfl rfl rfl (Nat.le_of_ble_eq_true rfl) (fun v9 x9 h9 => ?_)
      obtain ⟨rfl, h9⟩ := h9
      refine PW.xeq h9 ?_
      clear h9 x9
      refine r_if_eqB (tgt := 55) dX6_fallOrStay_21 (by decide) (fun h21 => ?_) (fun h21 => ?_)
      · refine r_aload_n dX6_fallOrStay_55 rfl (by rfl) ?_
        refine gf_X6_11 rfl dX6_fallOrStay_56 (by first | assumption | rfl) (by rfl) ?_
        refine r_iconst (v := nI 0) dX6_fallOrStay_59 (by decide) ?_
        refine r_iload_n dX6_fallOrStay_60 rfl (by rfl) ?_
        refine r_iaddN dX6_fallOrStay_61 ?_
        refine r_bipush (v := nI 99) dX6_fallOrStay_62 (by decide) ?_
        refine r_aload_n dX6_fallOrStay_64 rfl (by rfl) ?_
        refine gf_X6_11 rfl dX6_fallOrStay_65 (by first | assumption | rfl) (by rfl) ?_
        refine r_iconst (v := nI 0) dX6_fallOrStay_68 (by decide) ?_
        refine r_iload_n dX6_fallOrStay_69 rfl (by rfl) ?_
        refine r_iaddN dX6_fallOrStay_70 ?_
        refine r_ialdN dX6_fallOrStay_71 (by first | assumption | rfl) (by omega) (by decide) ?_
        refine r_iconst (v := nI 1) dX6_fallOrStay_72 (by decide) ?_
        refine r_iadd dX6_fallOrStay_73 ?_
        refine r_callS c_min ms_J9_min_7cf53 ml_X6_83 ⟨by decide, by decide⟩ dX6_fallOrStay_74 rfl (Nat.le_of_ble_eq_true rfl) (fun v9 x9 h9 => ?_)
        obtain ⟨rfl, h9⟩ := h9
        refine PW.xeq h9 ?_
        clear h9 x9
        refine r_iastN dX6_fallOrStay_77 (by first | assumption | rfl) (by omega) (by decide) ?_
        refine r_aload_n dX6_fallOrStay_78 rfl (by rfl) ?_
        refine gf_X6_11 rfl dX6_fallOrStay_79 (by first | assumption | rfl) (by rfl) ?_
        refine r_bipush (v := nI 30) dX6_fallOrStay_82 (by decide) ?_
        refine r_iload_n dX6_fallOrStay_84 rfl (by rfl) ?_
        refine r_iaddN dX6_fallOrStay_85 ?_
        refine r_dup2 dX6_fallOrStay_86 rfl rfl ?_
        refine r_ialdN dX6_fallOrStay_87 (by first | assumption | rfl) (by omega) (by decide) ?_
        refine r_iconst (v := nI 1) dX6_fallOrStay_88 (by decide) ?_
        refine r_iadd dX6_fallOrStay_89 ?_
        refine r_iastN dX6_fallOrStay_90 (by first | assumption | rfl) (by omega) (by decide) ?_
        refine r_ret rfl dX6_fallOrStay_91 ?_
        refine ⟨rfl, ?_⟩
        unfold fosX
        first
          | (rw [if_pos h13]; simp only [xu1, xr_xr, xr_s]; rfl)
          | (rw [if_neg h13, h21]; simp only [xu1, xr_xr, xr_s]; rfl)
      · refine r_aload_n dX6_fallOrStay_24 rfl (by rfl) ?_
        refine gf_X6_11 rfl dX6_fallOrStay_25 (by first | assumption | rfl) (by rfl) ?_
        refine r_bipush (v := nI 10) dX6_fallOrStay_28 (by decide) ?_
        refine r_iload_n dX6_fallOrStay_30 rfl (by rfl) ?_
        refine r_iaddN dX6_fallOrStay_31 ?_
        refine r_iconst (v := nI 1) dX6_fallOrStay_32 (by decide) ?_
        refine r_iastN dX6_fallOrStay_33 (by first | assumption | rfl) (by omega) (by decide) ?_
        refine r_aload_n dX6_fallOrStay_34 rfl (by rfl) ?_
        refine gf_X6_11 rfl dX6_fallOrStay_35 (by first | assumption | rfl) (by rfl) ?_
        refine r_bipush (v := nI 20) dX6_fallOrStay_38 (by decide) ?_
        refine r_iload_n dX6_fallOrStay_40 rfl (by rfl) ?_
        refine r_iaddN dX6_fallOrStay_41 ?_
        refine r_iconst (v := nI 0) dX6_fallOrStay_42 (by decide) ?_
        refine r_iastN dX6_fallOrStay_43 (by first | assumption | rfl) (by omega) (by decide) ?_
        refine r_aload_n dX6_fallOrStay_44 rfl (by rfl) ?_
        refine gf_X6_11 rfl dX6_fallOrStay_45 (by first | assumption | rfl) (by rfl) ?_
        refine r_bipush (v := nI 30) dX6_fallOrStay_48 (by decide) ?_
        refine r_iload_n dX6_fallOrStay_50 rfl (by rfl) ?_
        refine r_iaddN dX6_fallOrStay_51 ?_
        refine r_iconst (v := nI 0) dX6_fallOrStay_52 (by decide) ?_
        refine r_iastN dX6_fallOrStay_53 (by first | assumption | rfl) (by omega) (by decide) ?_
        refine r_ret rfl dX6_fallOrStay_54 ?_
        refine ⟨rfl, ?_⟩
        unfold fosX
        first
          | (rw [if_pos h13]; simp only [xu1, xr_xr, xr_s]; rfl)
          | (rw [if_neg h13, h21]; simp only [xu1, xr_xr, xr_s]; rfl)
