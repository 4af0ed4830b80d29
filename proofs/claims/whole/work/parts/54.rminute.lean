/-! THE REFERENCE: minutes -/
section AnyQ
variable {M : MD} {R : Room} {mc ms : Nat} {Post : Option Value → XS → Prop} {PT : String → XS → Prop} {pc : Nat} {L : List (Nat × Value)} {st : List Value}
theorem PW.any {z : XS} {c : Nat} {q : Nat → Int32} (P : (Nat → Int32) → Prop) (h : P q) (k : ∀ q, P q → PW M R mc ms Post PT pc L st (xr z c q)) : PW M R mc ms Post PT pc L st (xr z c q) := k q h
end AnyQ
set_option maxHeartbeats 8000000 in
set_option maxRecDepth 20000 in
theorem n_wakes {p : Nat} {x : XS} (hp : p < 5) : MM mX10_wakes 0 0 0 [.ref 137, .int (nI p)] x (fun v y => v = none ∧ y = xr x 154 (wkG (x 154) p)) NoT := by
  refine MM.of (by decide) (Nat.le_of_ble_eq_true rfl) ?_
  have y137 := lay_137
  have y154 := lay_154
  refine r_aload_n dX10_wakes_0 rfl (by rfl) ?_
  refine gf_X10_65 rfl dX10_wakes_1 (by first | assumption | rfl) (by rfl) ?_
  refine r_bipush (v := nI 15) dX10_wakes_4 (by decide) ?_
  refine r_iload_n dX10_wakes_6 rfl (by rfl) ?_
  refine r_iaddN dX10_wakes_7 ?_
  refine r_iconst (v := nI 0) dX10_wakes_8 (by decide) ?_
  refine r_iastN dX10_wakes_9 (by first | assumption | rfl) (by omega) (by decide) ?_
  refine r_aload_n dX10_wakes_10 rfl (by rfl) ?_
  refine gf_X10_65 rfl dX10_wakes_11 (by first | assumption | rfl) (by rfl) ?_
  refine r_bipush (v := nI 20) dX10_wakes_14 (by decide) ?_
  refine r_iload_n dX10_wakes_16 rfl (by rfl) ?_
  refine r_iaddN dX10_wakes_17 ?_
  refine r_iconst (v := nI 0) dX10_wakes_18 (by decide) ?_
  refine r_iastN dX10_wakes_19 (by first | assumption | rfl) (by omega) (by decide) ?_
  refine r_aload_n dX10_wakes_20 rfl (by rfl) ?_
  refine gf_X10_65 rfl dX10_wakes_21 (by first | assumption | rfl) (by rfl) ?_
  refine r_bipush (v := nI 25) dX10_wakes_24 (by decide) ?_
  refine r_iload_n dX10_wakes_26 rfl (by rfl) ?_
  refine r_iaddN dX10_wakes_27 ?_
  refine r_iconst (v := nI 0) dX10_wakes_28 (by decide) ?_
  refine r_iastN dX10_wakes_29 (by first | assumption | rfl) (by omega) (by decide) ?_
  refine r_aload_n dX10_wakes_30 rfl (by rfl) ?_
  refine gf_X10_65 rfl dX10_wakes_31 (by first | assumption | rfl) (by rfl) ?_
  refine r_bipush (v := nI 35) dX10_wakes_34 (by decide) ?_
  refine r_iload_n dX10_wakes_36 rfl (by rfl) ?_
  refine r_iaddN dX10_wakes_37 ?_
  refine r_iconst (v := nI 0) dX10_wakes_38 (by decide) ?_
  refine r_iastN dX10_wakes_39 (by first | assumption | rfl) (by omega) (by decide) ?_
  refine r_aload_n dX10_wakes_40 rfl (by rfl) ?_
  refine gf_X10_65 rfl dX10_wakes_41 (by first | assumption | rfl) (by rfl) ?_
  refine r_bipush (v := nI 41) dX10_wakes_44 (by decide) ?_
  refine r_dup2 dX10_wakes_46 rfl rfl ?_
  refine r_ialdN dX10_wakes_47 (by first | assumption | rfl) (by omega) (by decide) ?_
  refine r_iconst (v := nI 1) dX10_wakes_48 (by decide) ?_
  refine r_iadd dX10_wakes_49 ?_
  refine r_iastN dX10_wakes_50 (by first | assumption | rfl) (by omega) (by decide) ?_
  refine r_ret rfl dX10_wakes_51 ?_
  refine ⟨rfl, ?_⟩
  simp only [xu1, xr_xr, xr_s]
  rfl
set_option maxHeartbeats 8000000 in
set_option maxRecDepth 20000 in
theorem n_lies {p : Nat} {b : Bool} {x : XS} (hp : p < 5) : MM mX10_lies 0 0 0 [.ref 137, .int (nI p), .int (bI b)] x (fun v y => v = none ∧ y = xr x 154 (liG (x 154) p b)) NoT := by
  refine MM.of (by decide) (Nat.le_of_ble_eq_true rfl) ?_
  have y137 := lay_137
  have y154 := lay_154
  refine r_iload_n dX10_lies_0 rfl (by rfl) ?_
  refine r_if_eqB (tgt := 35) dX10_lies_1 (by decide) (fun h1 => ?_) (fun h1 => ?_)
  · refine r_aload_n dX10_lies_35 rfl (by rfl) ?_
    refine gf_X10_65 rfl dX10_lies_36 (by first | assumption | rfl) (by rfl) ?_
    refine r_iconst (v := nI 0) dX10_lies_39 (by decide) ?_
    refine r_iload_n dX10_lies_40 rfl (by rfl) ?_
    refine r_iaddN dX10_lies_41 ?_
    refine r_ialdN dX10_lies_42 (by first | assumption | rfl) (by omega) (by decide) ?_
    refine r_bipush (v := nI 99) dX10_lies_43 (by decide) ?_
    refine r_icmp_ge (tgt := 60) dX10_lies_45 (by decide) (fun h45 => ?_) (fun h45 => ?_)
    · refine r_aload_n dX10_lies_60 rfl (by rfl) ?_
      refine gf_X10_65 rfl dX10_lies_61 (by first | assumption | rfl) (by rfl) ?_
      refine r_bipush (v := nI 35) dX10_lies_64 (by decide) ?_
      refine r_iload_n dX10_lies_66 rfl (by rfl) ?_
      refine r_iaddN dX10_lies_67 ?_
      refine r_dup2 dX10_lies_68 rfl rfl ?_
      refine r_ialdN dX10_lies_69 (by first | assumption | rfl) (by omega) (by decide) ?_
      refine r_iconst (v := nI 1) dX10_lies_70 (by decide) ?_
      refine r_iadd dX10_lies_71 ?_
      refine r_iastN dX10_lies_72 (by first | assumption | rfl) (by omega) (by decide) ?_
      refine r_ret rfl dX10_lies_73 ?_
      refine ⟨rfl, ?_⟩
      unfold liG
      first
        | (rw [h1, if_pos rfl]; simp only [xu1, xr_xr, xr_s]; done)
        | (rw [h1, if_neg (by decide), if_neg (Int32.not_lt.mpr h45)]; simp only [xu1, xr_xr, xr_s]; done)
        | (rw [h1, if_neg (by decide), if_pos (Int32.not_le.mp h45)]; simp only [xu1, xr_xr, xr_s]; done)
    · refine r_aload_n dX10_lies_48 rfl (by rfl) ?_
      refine gf_X10_65 rfl dX10_lies_49 (by first | assumption | rfl) (by rfl) ?_
      refine r_iconst (v := nI 0) dX10_lies_52 (by decide) ?_
      refine r_iload_n dX10_lies_53 rfl (by rfl) ?_
      refine r_iaddN dX10_lies_54 ?_
      refine r_dup2 dX10_lies_55 rfl rfl ?_
      refine r_ialdN dX10_lies_56 (by first | assumption | rfl) (by omega) (by decide) ?_
      refine r_iconst (v := nI 1) dX10_lies_57 (by decide) ?_
      refine r_iadd dX10_lies_58 ?_
      refine r_iastN dX10_lies_59 (by first | assumption | rfl) (by omega) (by decide) ?_
      refine r_aload_n dX10_lies_60 rfl (by rfl) ?_
      refine gf_X10_65 rfl dX10_lies_61 (by first | assumption | rfl) (by rfl) ?_
      refine r_bipush (v := nI 35) dX10_lies_64 (by decide) ?_
      refine r_iload_n dX10_lies_66 rfl (by rfl) ?_
      refine r_iaddN dX10_lies_67 ?_
      refine r_dup2 dX10_lies_68 rfl rfl ?_
      refine r_ialdN dX10_lies_69 (by first | assumption | rfl) (by omega) (by decide) ?_
      refine r_iconst (v := nI 1) dX10_lies_70 (by decide) ?_
      refine r_iadd dX10_lies_71 ?_
      refine r_iastN dX10_lies_72 (by first | assumption | rfl) (by omega) (by decide) ?_
      refine r_ret rfl dX10_lies_73 ?_
      refine ⟨rfl, ?_⟩
      unfold liG
      first
        | (rw [h1, if_pos rfl]; simp only [xu1, xr_xr, xr_s]; done)
        | (rw [h1, if_neg (by decide), if_neg (Int32.not_lt.mpr h45)]; simp only [xu1, xr_xr, xr_s]; done)
        | (rw [h1, if_neg (by decide), if_pos (Int32.not_le.mp h45)]; simp only [xu1, xr_xr, xr_s]; done)
  · refine r_aload_n dX10_lies_4 rfl (by rfl) ?_
    refine gf_X10_65 rfl dX10_lies_5 (by first | assumption | rfl) (by rfl) ?_
    refine r_bipush (v := nI 15) dX10_lies_8 (by decide) ?_
    refine r_iload_n dX10_lies_10 rfl (by rfl) ?_
    refine r_iaddN dX10_lies_11 ?_
    refine r_iconst (v := nI 1) dX10_lies_12 (by decide) ?_
    refine r_iastN dX10_lies_13 (by first | assumption | rfl) (by omega) (by decide) ?_
    refine r_aload_n dX10_lies_14 rfl (by rfl) ?_
    refine gf_X10_65 rfl dX10_lies_15 (by first | assumption | rfl) (by rfl) ?_
    refine r_bipush (v := nI 25) dX10_lies_18 (by decide) ?_
    refine r_iload_n dX10_lies_20 rfl (by rfl) ?_
    refine r_iaddN dX10_lies_21 ?_
    refine r_iconst (v := nI 0) dX10_lies_22 (by decide) ?_
    refine r_iastN dX10_lies_23 (by first | assumption | rfl) (by omega) (by decide) ?_
    refine r_aload_n dX10_lies_24 rfl (by rfl) ?_
    refine gf_X10_65 rfl dX10_lies_25 (by first | assumption | rfl) (by rfl) ?_
    refine r_bipush (v := nI 35) dX10_lies_28 (by decide) ?_
    refine r_iload_n dX10_lies_30 rfl (by rfl) ?_
    refine r_iaddN dX10_lies_31 ?_
    refine r_iconst (v := nI 0) dX10_lies_32 (by decide) ?_
    refine r_iastN dX10_lies_33 (by first | assumption | rfl) (by omega) (by decide) ?_
    refine r_ret rfl dX10_lies_34 ?_
    refine ⟨rfl, ?_⟩
    unfold liG
    first
      | (rw [h1, if_pos rfl]; simp only [xu1, xr_xr, xr_s]; done)
      | (rw [h1, if_neg (by decide), if_neg (Int32.not_lt.mpr h45)]; simp only [xu1, xr_xr, xr_s]; done)
      | (rw [h1, if_neg (by decide), if_pos (Int32.not_le.mp h45)]; simp only [xu1, xr_xr, xr_s]; done)
set_option maxHeartbeats 8000000 in
set_option maxRecDepth 20000 in
theorem n_sleepsOn {p : Nat} {ov : Int32} {x : XS} (hp : p < 5) (hov : x 137 20 = ov) : MM mX10_sleepsOn 0 0 0 [.ref 137, .int (nI p)] x (fun v y => v = none ∧ y = xr x 154 (soG ov (x 154) p)) NoT := by
  refine MM.of (by decide) (Nat.le_of_ble_eq_true rfl) ?_
  have y137 := lay_137
  have y154 := lay_154
  refine r_aload_n dX10_sleepsOn_0 rfl (by rfl) ?_
  refine gf_X10_65 rfl dX10_sleepsOn_1 (by first | assumption | rfl) (by rfl) ?_
  refine r_bipush (v := nI 15) dX10_sleepsOn_4 (by decide) ?_
  refine r_iload_n dX10_sleepsOn_6 rfl (by rfl) ?_
  refine r_iaddN dX10_sleepsOn_7 ?_
  refine r_ialdN dX10_sleepsOn_8 (by first | assumption | rfl) (by omega) (by decide) ?_
  refine r_bipush (v := nI 9) dX10_sleepsOn_9 (by decide) ?_
  refine r_icmp_ge (tgt := 27) dX10_sleepsOn_11 (by decide) (fun h11 => ?_) (fun h11 => ?_)
  · refine r_aload_n dX10_sleepsOn_27 rfl (by rfl) ?_
    refine gf_X10_65 rfl dX10_sleepsOn_28 (by first | assumption | rfl) (by rfl) ?_
    refine r_iconst (v := nI 0) dX10_sleepsOn_31 (by decide) ?_
    refine r_iload_n dX10_sleepsOn_32 rfl (by rfl) ?_
    refine r_iaddN dX10_sleepsOn_33 ?_
    refine r_ialdN dX10_sleepsOn_34 (by first | assumption | rfl) (by omega) (by decide) ?_
    refine r_if_le (tgt := 50) dX10_sleepsOn_35 (by decide) (fun h35 => ?_) (fun h35 => ?_)
    · refine r_aload_n dX10_sleepsOn_50 rfl (by rfl) ?_
      refine gf_X10_65 rfl dX10_sleepsOn_51 (by first | assumption | rfl) (by rfl) ?_
      refine r_bipush (v := nI 30) dX10_sleepsOn_54 (by decide) ?_
      refine r_iload_n dX10_sleepsOn_56 rfl (by rfl) ?_
      refine r_iaddN dX10_sleepsOn_57 ?_
      refine r_dup2 dX10_sleepsOn_58 rfl rfl ?_
      refine r_ialdN dX10_sleepsOn_59 (by first | assumption | rfl) (by omega) (by decide) ?_
      refine r_iconst (v := nI 1) dX10_sleepsOn_60 (by decide) ?_
      refine r_iadd dX10_sleepsOn_61 ?_
      refine r_iastN dX10_sleepsOn_62 (by first | assumption | rfl) (by omega) (by decide) ?_
      refine r_aload_n dX10_sleepsOn_63 rfl (by rfl) ?_
      refine gf_X10_65 rfl dX10_sleepsOn_64 (by first | assumption | rfl) (by rfl) ?_
      refine r_bipush (v := nI 20) dX10_sleepsOn_67 (by decide) ?_
      refine r_iload_n dX10_sleepsOn_69 rfl (by rfl) ?_
      refine r_iaddN dX10_sleepsOn_70 ?_
      refine r_ialdN dX10_sleepsOn_71 (by first | assumption | rfl) (by omega) (by decide) ?_
      refine r_if_ne (tgt := 76) dX10_sleepsOn_72 (by decide) (fun h72 => ?_) (fun h72 => ?_)
      · refine r_aload_n dX10_sleepsOn_76 rfl (by rfl) ?_
        refine gf_X10_65 rfl dX10_sleepsOn_77 (by first | assumption | rfl) (by rfl) ?_
        refine r_bipush (v := nI 25) dX10_sleepsOn_80 (by decide) ?_
        refine r_iload_n dX10_sleepsOn_82 rfl (by rfl) ?_
        refine r_iaddN dX10_sleepsOn_83 ?_
        refine r_dup2 dX10_sleepsOn_84 rfl rfl ?_
        refine r_ialdN dX10_sleepsOn_85 (by first | assumption | rfl) (by omega) (by decide) ?_
        refine r_iconst (v := nI 1) dX10_sleepsOn_86 (by decide) ?_
        refine r_iadd dX10_sleepsOn_87 ?_
        refine r_iastN dX10_sleepsOn_88 (by first | assumption | rfl) (by omega) (by decide) ?_
        refine r_aload_n dX10_sleepsOn_89 rfl (by rfl) ?_
        refine gf_X10_65 rfl dX10_sleepsOn_90 (by first | assumption | rfl) (by rfl) ?_
        refine r_bipush (v := nI 25) dX10_sleepsOn_93 (by decide) ?_
        refine r_iload_n dX10_sleepsOn_95 rfl (by rfl) ?_
        refine r_iaddN dX10_sleepsOn_96 ?_
        refine r_ialdN dX10_sleepsOn_97 (by first | assumption | rfl) (by omega) (by decide) ?_
        refine r_aload_n dX10_sleepsOn_98 rfl (by rfl) ?_
        refine gf_X10_162 rfl dX10_sleepsOn_99 (by first | assumption | rfl) (by rfl) ?_
        refine PW.topi (show _ = ov from hov) ?_
        refine r_icmp_ge (tgt := 106) dX10_sleepsOn_102 (by decide) (fun h102 => ?_) (fun h102 => ?_)
        · refine r_aload_n dX10_sleepsOn_106 rfl (by rfl) ?_
          refine gf_X10_65 rfl dX10_sleepsOn_107 (by first | assumption | rfl) (by rfl) ?_
          refine r_bipush (v := nI 20) dX10_sleepsOn_110 (by decide) ?_
          refine r_iload_n dX10_sleepsOn_112 rfl (by rfl) ?_
          refine r_iaddN dX10_sleepsOn_113 ?_
          refine r_iconst (v := nI 0) dX10_sleepsOn_114 (by decide) ?_
          refine r_iastN dX10_sleepsOn_115 (by first | assumption | rfl) (by omega) (by decide) ?_
          refine r_aload_n dX10_sleepsOn_116 rfl (by rfl) ?_
          refine gf_X10_65 rfl dX10_sleepsOn_117 (by first | assumption | rfl) (by rfl) ?_
          refine r_bipush (v := nI 25) dX10_sleepsOn_120 (by decide) ?_
          refine r_iload_n dX10_sleepsOn_122 rfl (by rfl) ?_
          refine r_iaddN dX10_sleepsOn_123 ?_
          refine r_iconst (v := nI 0) dX10_sleepsOn_124 (by decide) ?_
          refine r_iastN dX10_sleepsOn_125 (by first | assumption | rfl) (by omega) (by decide) ?_
          refine r_ret rfl dX10_sleepsOn_126 ?_
          refine ⟨rfl, ?_⟩
          simp only [xu1, xr_xr, xr_s] at h11 h35 h72 ⊢
          try simp only [xu1, xr_xr, xr_s] at h102
          unfold soG
          dsimp only
          first | rw [if_neg (Int32.not_lt.mpr h11)] | rw [if_pos (Int32.not_le.mp h11)]
          first | rw [if_neg (Int32.not_lt.mpr h35)] | rw [if_pos (Int32.not_le.mp h35)]
          first
            | (rw [if_pos h72]; done)
            | (rw [if_neg h72, if_neg (Int32.not_lt.mpr h102)]; done)
            | (rw [if_neg h72, if_pos (Int32.not_le.mp h102)]; done)
        · refine r_ret rfl dX10_sleepsOn_105 ?_
          refine ⟨rfl, ?_⟩
          simp only [xu1, xr_xr, xr_s] at h11 h35 h72 ⊢
          try simp only [xu1, xr_xr, xr_s] at h102
          unfold soG
          dsimp only
          first | rw [if_neg (Int32.not_lt.mpr h11)] | rw [if_pos (Int32.not_le.mp h11)]
          first | rw [if_neg (Int32.not_lt.mpr h35)] | rw [if_pos (Int32.not_le.mp h35)]
          first
            | (rw [if_pos h72]; done)
            | (rw [if_neg h72, if_neg (Int32.not_lt.mpr h102)]; done)
            | (rw [if_neg h72, if_pos (Int32.not_le.mp h102)]; done)
      · refine r_ret rfl dX10_sleepsOn_75 ?_
        refine ⟨rfl, ?_⟩
        simp only [xu1, xr_xr, xr_s] at h11 h35 h72 ⊢
        try simp only [xu1, xr_xr, xr_s] at h102
        unfold soG
        dsimp only
        first | rw [if_neg (Int32.not_lt.mpr h11)] | rw [if_pos (Int32.not_le.mp h11)]
        first | rw [if_neg (Int32.not_lt.mpr h35)] | rw [if_pos (Int32.not_le.mp h35)]
        first
          | (rw [if_pos h72]; done)
          | (rw [if_neg h72, if_neg (Int32.not_lt.mpr h102)]; done)
          | (rw [if_neg h72, if_pos (Int32.not_le.mp h102)]; done)
    · refine r_aload_n dX10_sleepsOn_38 rfl (by rfl) ?_
      refine gf_X10_65 rfl dX10_sleepsOn_39 (by first | assumption | rfl) (by rfl) ?_
      refine r_iconst (v := nI 0) dX10_sleepsOn_42 (by decide) ?_
      refine r_iload_n dX10_sleepsOn_43 rfl (by rfl) ?_
      refine r_iaddN dX10_sleepsOn_44 ?_
      refine r_dup2 dX10_sleepsOn_45 rfl rfl ?_
      refine r_ialdN dX10_sleepsOn_46 (by first | assumption | rfl) (by omega) (by decide) ?_
      refine r_iconst (v := nI 1) dX10_sleepsOn_47 (by decide) ?_
      refine r_isub dX10_sleepsOn_48 ?_
      refine r_iastN dX10_sleepsOn_49 (by first | assumption | rfl) (by omega) (by decide) ?_
      refine r_aload_n dX10_sleepsOn_50 rfl (by rfl) ?_
      refine gf_X10_65 rfl dX10_sleepsOn_51 (by first | assumption | rfl) (by rfl) ?_
      refine r_bipush (v := nI 30) dX10_sleepsOn_54 (by decide) ?_
      refine r_iload_n dX10_sleepsOn_56 rfl (by rfl) ?_
      refine r_iaddN dX10_sleepsOn_57 ?_
      refine r_dup2 dX10_sleepsOn_58 rfl rfl ?_
      refine r_ialdN dX10_sleepsOn_59 (by first | assumption | rfl) (by omega) (by decide) ?_
      refine r_iconst (v := nI 1) dX10_sleepsOn_60 (by decide) ?_
      refine r_iadd dX10_sleepsOn_61 ?_
      refine r_iastN dX10_sleepsOn_62 (by first | assumption | rfl) (by omega) (by decide) ?_
      refine r_aload_n dX10_sleepsOn_63 rfl (by rfl) ?_
      refine gf_X10_65 rfl dX10_sleepsOn_64 (by first | assumption | rfl) (by rfl) ?_
      refine r_bipush (v := nI 20) dX10_sleepsOn_67 (by decide) ?_
      refine r_iload_n dX10_sleepsOn_69 rfl (by rfl) ?_
      refine r_iaddN dX10_sleepsOn_70 ?_
      refine r_ialdN dX10_sleepsOn_71 (by first | assumption | rfl) (by omega) (by decide) ?_
      refine r_if_ne (tgt := 76) dX10_sleepsOn_72 (by decide) (fun h72 => ?_) (fun h72 => ?_)
      · refine r_aload_n dX10_sleepsOn_76 rfl (by rfl) ?_
        refine gf_X10_65 rfl dX10_sleepsOn_77 (by first | assumption | rfl) (by rfl) ?_
        refine r_bipush (v := nI 25) dX10_sleepsOn_80 (by decide) ?_
        refine r_iload_n dX10_sleepsOn_82 rfl (by rfl) ?_
        refine r_iaddN dX10_sleepsOn_83 ?_
        refine r_dup2 dX10_sleepsOn_84 rfl rfl ?_
        refine r_ialdN dX10_sleepsOn_85 (by first | assumption | rfl) (by omega) (by decide) ?_
        refine r_iconst (v := nI 1) dX10_sleepsOn_86 (by decide) ?_
        refine r_iadd dX10_sleepsOn_87 ?_
        refine r_iastN dX10_sleepsOn_88 (by first | assumption | rfl) (by omega) (by decide) ?_
        refine r_aload_n dX10_sleepsOn_89 rfl (by rfl) ?_
        refine gf_X10_65 rfl dX10_sleepsOn_90 (by first | assumption | rfl) (by rfl) ?_
        refine r_bipush (v := nI 25) dX10_sleepsOn_93 (by decide) ?_
        refine r_iload_n dX10_sleepsOn_95 rfl (by rfl) ?_
        refine r_iaddN dX10_sleepsOn_96 ?_
        refine r_ialdN dX10_sleepsOn_97 (by first | assumption | rfl) (by omega) (by decide) ?_
        refine r_aload_n dX10_sleepsOn_98 rfl (by rfl) ?_
        refine gf_X10_162 rfl dX10_sleepsOn_99 (by first | assumption | rfl) (by rfl) ?_
        refine PW.topi (show _ = ov from hov) ?_
        refine r_icmp_ge (tgt := 106) dX10_sleepsOn_102 (by decide) (fun h102 => ?_) (fun h102 => ?_)
        · refine r_aload_n dX10_sleepsOn_106 rfl (by rfl) ?_
          refine gf_X10_65 rfl dX10_sleepsOn_107 (by first | assumption | rfl) (by rfl) ?_
          refine r_bipush (v := nI 20) dX10_sleepsOn_110 (by decide) ?_
          refine r_iload_n dX10_sleepsOn_112 rfl (by rfl) ?_
          refine r_iaddN dX10_sleepsOn_113 ?_
          refine r_iconst (v := nI 0) dX10_sleepsOn_114 (by decide) ?_
          refine r_iastN dX10_sleepsOn_115 (by first | assumption | rfl) (by omega) (by decide) ?_
          refine r_aload_n dX10_sleepsOn_116 rfl (by rfl) ?_
          refine gf_X10_65 rfl dX10_sleepsOn_117 (by first | assumption | rfl) (by rfl) ?_
          refine r_bipush (v := nI 25) dX10_sleepsOn_120 (by decide) ?_
          refine r_iload_n dX10_sleepsOn_122 rfl (by rfl) ?_
          refine r_iaddN dX10_sleepsOn_123 ?_
          refine r_iconst (v := nI 0) dX10_sleepsOn_124 (by decide) ?_
          refine r_iastN dX10_sleepsOn_125 (by first | assumption | rfl) (by omega) (by decide) ?_
          refine r_ret rfl dX10_sleepsOn_126 ?_
          refine ⟨rfl, ?_⟩
          simp only [xu1, xr_xr, xr_s] at h11 h35 h72 ⊢
          try simp only [xu1, xr_xr, xr_s] at h102
          unfold soG
          dsimp only
          first | rw [if_neg (Int32.not_lt.mpr h11)] | rw [if_pos (Int32.not_le.mp h11)]
          first | rw [if_neg (Int32.not_lt.mpr h35)] | rw [if_pos (Int32.not_le.mp h35)]
          first
            | (rw [if_pos h72]; done)
            | (rw [if_neg h72, if_neg (Int32.not_lt.mpr h102)]; done)
            | (rw [if_neg h72, if_pos (Int32.not_le.mp h102)]; done)
        · refine r_ret rfl dX10_sleepsOn_105 ?_
          refine ⟨rfl, ?_⟩
          simp only [xu1, xr_xr, xr_s] at h11 h35 h72 ⊢
          try simp only [xu1, xr_xr, xr_s] at h102
          unfold soG
          dsimp only
          first | rw [if_neg (Int32.not_lt.mpr h11)] | rw [if_pos (Int32.not_le.mp h11)]
          first | rw [if_neg (Int32.not_lt.mpr h35)] | rw [if_pos (Int32.not_le.mp h35)]
          first
            | (rw [if_pos h72]; done)
            | (rw [if_neg h72, if_neg (Int32.not_lt.mpr h102)]; done)
            | (rw [if_neg h72, if_pos (Int32.not_le.mp h102)]; done)
      · refine r_ret rfl dX10_sleepsOn_75 ?_
        refine ⟨rfl, ?_⟩
        simp only [xu1, xr_xr, xr_s] at h11 h35 h72 ⊢
        try simp only [xu1, xr_xr, xr_s] at h102
        unfold soG
        dsimp only
        first | rw [if_neg (Int32.not_lt.mpr h11)] | rw [if_pos (Int32.not_le.mp h11)]
        first | rw [if_neg (Int32.not_lt.mpr h35)] | rw [if_pos (Int32.not_le.mp h35)]
        first
          | (rw [if_pos h72]; done)
          | (rw [if_neg h72, if_neg (Int32.not_lt.mpr h102)]; done)
          | (rw [if_neg h72, if_pos (Int32.not_le.mp h102)]; done)
  · refine r_aload_n dX10_sleepsOn_14 rfl (by rfl) ?_
    refine gf_X10_65 rfl dX10_sleepsOn_15 (by first | assumption | rfl) (by rfl) ?_
    refine r_bipush (v := nI 15) dX10_sleepsOn_18 (by decide) ?_
    refine r_iload_n dX10_sleepsOn_20 rfl (by rfl) ?_
    refine r_iaddN dX10_sleepsOn_21 ?_
    refine r_dup2 dX10_sleepsOn_22 rfl rfl ?_
    refine r_ialdN dX10_sleepsOn_23 (by first | assumption | rfl) (by omega) (by decide) ?_
    refine r_iconst (v := nI 1) dX10_sleepsOn_24 (by decide) ?_
    refine r_iadd dX10_sleepsOn_25 ?_
    refine r_iastN dX10_sleepsOn_26 (by first | assumption | rfl) (by omega) (by decide) ?_
    refine r_aload_n dX10_sleepsOn_27 rfl (by rfl) ?_
    refine gf_X10_65 rfl dX10_sleepsOn_28 (by first | assumption | rfl) (by rfl) ?_
    refine r_iconst (v := nI 0) dX10_sleepsOn_31 (by decide) ?_
    refine r_iload_n dX10_sleepsOn_32 rfl (by rfl) ?_
    refine r_iaddN dX10_sleepsOn_33 ?_
    refine r_ialdN dX10_sleepsOn_34 (by first | assumption | rfl) (by omega) (by decide) ?_
    refine r_if_le (tgt := 50) dX10_sleepsOn_35 (by decide) (fun h35 => ?_) (fun h35 => ?_)
    · refine r_aload_n dX10_sleepsOn_50 rfl (by rfl) ?_
      refine gf_X10_65 rfl dX10_sleepsOn_51 (by first | assumption | rfl) (by rfl) ?_
      refine r_bipush (v := nI 30) dX10_sleepsOn_54 (by decide) ?_
      refine r_iload_n dX10_sleepsOn_56 rfl (by rfl) ?_
      refine r_iaddN dX10_sleepsOn_57 ?_
      refine r_dup2 dX10_sleepsOn_58 rfl rfl ?_
      refine r_ialdN dX10_sleepsOn_59 (by first | assumption | rfl) (by omega) (by decide) ?_
      refine r_iconst (v := nI 1) dX10_sleepsOn_60 (by decide) ?_
      refine r_iadd dX10_sleepsOn_61 ?_
      refine r_iastN dX10_sleepsOn_62 (by first | assumption | rfl) (by omega) (by decide) ?_
      refine r_aload_n dX10_sleepsOn_63 rfl (by rfl) ?_
      refine gf_X10_65 rfl dX10_sleepsOn_64 (by first | assumption | rfl) (by rfl) ?_
      refine r_bipush (v := nI 20) dX10_sleepsOn_67 (by decide) ?_
      refine r_iload_n dX10_sleepsOn_69 rfl (by rfl) ?_
      refine r_iaddN dX10_sleepsOn_70 ?_
      refine r_ialdN dX10_sleepsOn_71 (by first | assumption | rfl) (by omega) (by decide) ?_
      refine r_if_ne (tgt := 76) dX10_sleepsOn_72 (by decide) (fun h72 => ?_) (fun h72 => ?_)
      · refine r_aload_n dX10_sleepsOn_76 rfl (by rfl) ?_
        refine gf_X10_65 rfl dX10_sleepsOn_77 (by first | assumption | rfl) (by rfl) ?_
        refine r_bipush (v := nI 25) dX10_sleepsOn_80 (by decide) ?_
        refine r_iload_n dX10_sleepsOn_82 rfl (by rfl) ?_
        refine r_iaddN dX10_sleepsOn_83 ?_
        refine r_dup2 dX10_sleepsOn_84 rfl rfl ?_
        refine r_ialdN dX10_sleepsOn_85 (by first | assumption | rfl) (by omega) (by decide) ?_
        refine r_iconst (v := nI 1) dX10_sleepsOn_86 (by decide) ?_
        refine r_iadd dX10_sleepsOn_87 ?_
        refine r_iastN dX10_sleepsOn_88 (by first | assumption | rfl) (by omega) (by decide) ?_
        refine r_aload_n dX10_sleepsOn_89 rfl (by rfl) ?_
        refine gf_X10_65 rfl dX10_sleepsOn_90 (by first | assumption | rfl) (by rfl) ?_
        refine r_bipush (v := nI 25) dX10_sleepsOn_93 (by decide) ?_
        refine r_iload_n dX10_sleepsOn_95 rfl (by rfl) ?_
        refine r_iaddN dX10_sleepsOn_96 ?_
        refine r_ialdN dX10_sleepsOn_97 (by first | assumption | rfl) (by omega) (by decide) ?_
        refine r_aload_n dX10_sleepsOn_98 rfl (by rfl) ?_
        refine gf_X10_162 rfl dX10_sleepsOn_99 (by first | assumption | rfl) (by rfl) ?_
        refine PW.topi (show _ = ov from hov) ?_
        refine r_icmp_ge (tgt := 106) dX10_sleepsOn_102 (by decide) (fun h102 => ?_) (fun h102 => ?_)
        · refine r_aload_n dX10_sleepsOn_106 rfl (by rfl) ?_
          refine gf_X10_65 rfl dX10_sleepsOn_107 (by first | assumption | rfl) (by rfl) ?_
          refine r_bipush (v := nI 20) dX10_sleepsOn_110 (by decide) ?_
          refine r_iload_n dX10_sleepsOn_112 rfl (by rfl) ?_
          refine r_iaddN dX10_sleepsOn_113 ?_
          refine r_iconst (v := nI 0) dX10_sleepsOn_114 (by decide) ?_
          refine r_iastN dX10_sleepsOn_115 (by first | assumption | rfl) (by omega) (by decide) ?_
          refine r_aload_n dX10_sleepsOn_116 rfl (by rfl) ?_
          refine gf_X10_65 rfl dX10_sleepsOn_117 (by first | assumption | rfl) (by rfl) ?_
          refine r_bipush (v := nI 25) dX10_sleepsOn_120 (by decide) ?_
          refine r_iload_n dX10_sleepsOn_122 rfl (by rfl) ?_
          refine r_iaddN dX10_sleepsOn_123 ?_
          refine r_iconst (v := nI 0) dX10_sleepsOn_124 (by decide) ?_
          refine r_iastN dX10_sleepsOn_125 (by first | assumption | rfl) (by omega) (by decide) ?_
          refine r_ret rfl dX10_sleepsOn_126 ?_
          refine ⟨rfl, ?_⟩
          simp only [xu1, xr_xr, xr_s] at h11 h35 h72 ⊢
          try simp only [xu1, xr_xr, xr_s] at h102
          unfold soG
          dsimp only
          first | rw [if_neg (Int32.not_lt.mpr h11)] | rw [if_pos (Int32.not_le.mp h11)]
          first | rw [if_neg (Int32.not_lt.mpr h35)] | rw [if_pos (Int32.not_le.mp h35)]
          first
            | (rw [if_pos h72]; done)
            | (rw [if_neg h72, if_neg (Int32.not_lt.mpr h102)]; done)
            | (rw [if_neg h72, if_pos (Int32.not_le.mp h102)]; done)
        · refine r_ret rfl dX10_sleepsOn_105 ?_
          refine ⟨rfl, ?_⟩
          simp only [xu1, xr_xr, xr_s] at h11 h35 h72 ⊢
          try simp only [xu1, xr_xr, xr_s] at h102
          unfold soG
          dsimp only
          first | rw [if_neg (Int32.not_lt.mpr h11)] | rw [if_pos (Int32.not_le.mp h11)]
          first | rw [if_neg (Int32.not_lt.mpr h35)] | rw [if_pos (Int32.not_le.mp h35)]
          first
            | (rw [if_pos h72]; done)
            | (rw [if_neg h72, if_neg (Int32.not_lt.mpr h102)]; done)
            | (rw [if_neg h72, if_pos (Int32.not_le.mp h102)]; done)
      · refine r_ret rfl dX10_sleepsOn_75 ?_
        refine ⟨rfl, ?_⟩
        simp only [xu1, xr_xr, xr_s] at h11 h35 h72 ⊢
        try simp only [xu1, xr_xr, xr_s] at h102
        unfold soG
        dsimp only
        first | rw [if_neg (Int32.not_lt.mpr h11)] | rw [if_pos (Int32.not_le.mp h11)]
        first | rw [if_neg (Int32.not_lt.mpr h35)] | rw [if_pos (Int32.not_le.mp h35)]
        first
          | (rw [if_pos h72]; done)
          | (rw [if_neg h72, if_neg (Int32.not_lt.mpr h102)]; done)
          | (rw [if_neg h72, if_pos (Int32.not_le.mp h102)]; done)
    · refine r_aload_n dX10_sleepsOn_38 rfl (by rfl) ?_
      refine gf_X10_65 rfl dX10_sleepsOn_39 (by first | assumption | rfl) (by rfl) ?_
      refine r_iconst (v := nI 0) dX10_sleepsOn_42 (by decide) ?_
      refine r_iload_n dX10_sleepsOn_43 rfl (by rfl) ?_
      refine r_iaddN dX10_sleepsOn_44 ?_
      refine r_dup2 dX10_sleepsOn_45 rfl rfl ?_
      refine r_ialdN dX10_sleepsOn_46 (by first | assumption | rfl) (by omega) (by decide) ?_
      refine r_iconst (v := nI 1) dX10_sleepsOn_47 (by decide) ?_
      refine r_isub dX10_sleepsOn_48 ?_
      refine r_iastN dX10_sleepsOn_49 (by first | assumption | rfl) (by omega) (by decide) ?_
      refine r_aload_n dX10_sleepsOn_50 rfl (by rfl) ?_
      refine gf_X10_65 rfl dX10_sleepsOn_51 (by first | assumption | rfl) (by rfl) ?_
      refine r_bipush (v := nI 30) dX10_sleepsOn_54 (by decide) ?_
      refine r_iload_n dX10_sleepsOn_56 rfl (by rfl) ?_
      refine r_iaddN dX10_sleepsOn_57 ?_
      refine r_dup2 dX10_sleepsOn_58 rfl rfl ?_
      refine r_ialdN dX10_sleepsOn_59 (by first | assumption | rfl) (by omega) (by decide) ?_
      refine r_iconst (v := nI 1) dX10_sleepsOn_60 (by decide) ?_
      refine r_iadd dX10_sleepsOn_61 ?_
      refine r_iastN dX10_sleepsOn_62 (by first | assumption | rfl) (by omega) (by decide) ?_
      refine r_aload_n dX10_sleepsOn_63 rfl (by rfl) ?_
      refine gf_X10_65 rfl dX10_sleepsOn_64 (by first | assumption | rfl) (by rfl) ?_
      refine r_bipush (v := nI 20) dX10_sleepsOn_67 (by decide) ?_
      refine r_iload_n dX10_sleepsOn_69 rfl (by rfl) ?_
      refine r_iaddN dX10_sleepsOn_70 ?_
      refine r_ialdN dX10_sleepsOn_71 (by first | assumption | rfl) (by omega) (by decide) ?_
      refine r_if_ne (tgt := 76) dX10_sleepsOn_72 (by decide) (fun h72 => ?_) (fun h72 => ?_)
      · refine r_aload_n dX10_sleepsOn_76 rfl (by rfl) ?_
        refine gf_X10_65 rfl dX10_sleepsOn_77 (by first | assumption | rfl) (by rfl) ?_
        refine r_bipush (v := nI 25) dX10_sleepsOn_80 (by decide) ?_
        refine r_iload_n dX10_sleepsOn_82 rfl (by rfl) ?_
        refine r_iaddN dX10_sleepsOn_83 ?_
        refine r_dup2 dX10_sleepsOn_84 rfl rfl ?_
        refine r_ialdN dX10_sleepsOn_85 (by first | assumption | rfl) (by omega) (by decide) ?_
        refine r_iconst (v := nI 1) dX10_sleepsOn_86 (by decide) ?_
        refine r_iadd dX10_sleepsOn_87 ?_
        refine r_iastN dX10_sleepsOn_88 (by first | assumption | rfl) (by omega) (by decide) ?_
        refine r_aload_n dX10_sleepsOn_89 rfl (by rfl) ?_
        refine gf_X10_65 rfl dX10_sleepsOn_90 (by first | assumption | rfl) (by rfl) ?_
        refine r_bipush (v := nI 25) dX10_sleepsOn_93 (by decide) ?_
        refine r_iload_n dX10_sleepsOn_95 rfl (by rfl) ?_
        refine r_iaddN dX10_sleepsOn_96 ?_
        refine r_ialdN dX10_sleepsOn_97 (by first | assumption | rfl) (by omega) (by decide) ?_
        refine r_aload_n dX10_sleepsOn_98 rfl (by rfl) ?_
        refine gf_X10_162 rfl dX10_sleepsOn_99 (by first | assumption | rfl) (by rfl) ?_
        refine PW.topi (show _ = ov from hov) ?_
        refine r_icmp_ge (tgt := 106) dX10_sleepsOn_102 (by decide) (fun h102 => ?_) (fun h102 => ?_)
        · refine r_aload_n dX10_sleepsOn_106 rfl (by rfl) ?_
          refine gf_X10_65 rfl dX10_sleepsOn_107 (by first | assumption | rfl) (by rfl) ?_
          refine r_bipush (v := nI 20) dX10_sleepsOn_110 (by decide) ?_
          refine r_iload_n dX10_sleepsOn_112 rfl (by rfl) ?_
          refine r_iaddN dX10_sleepsOn_113 ?_
          refine r_iconst (v := nI 0) dX10_sleepsOn_114 (by decide) ?_
          refine r_iastN dX10_sleepsOn_115 (by first | assumption | rfl) (by omega) (by decide) ?_
          refine r_aload_n dX10_sleepsOn_116 rfl (by rfl) ?_
          refine gf_X10_65 rfl dX10_sleepsOn_117 (by first | assumption | rfl) (by rfl) ?_
          refine r_bipush (v := nI 25) dX10_sleepsOn_120 (by decide) ?_
          refine r_iload_n dX10_sleepsOn_122 rfl (by rfl) ?_
          refine r_iaddN dX10_sleepsOn_123 ?_
          refine r_iconst (v := nI 0) dX10_sleepsOn_124 (by decide) ?_
          refine r_iastN dX10_sleepsOn_125 (by first | assumption | rfl) (by omega) (by decide) ?_
          refine r_ret rfl dX10_sleepsOn_126 ?_
          refine ⟨rfl, ?_⟩
          simp only [xu1, xr_xr, xr_s] at h11 h35 h72 ⊢
          try simp only [xu1, xr_xr, xr_s] at h102
          unfold soG
          dsimp only
          first | rw [if_neg (Int32.not_lt.mpr h11)] | rw [if_pos (Int32.not_le.mp h11)]
          first | rw [if_neg (Int32.not_lt.mpr h35)] | rw [if_pos (Int32.not_le.mp h35)]
          first
            | (rw [if_pos h72]; done)
            | (rw [if_neg h72, if_neg (Int32.not_lt.mpr h102)]; done)
            | (rw [if_neg h72, if_pos (Int32.not_le.mp h102)]; done)
        · refine r_ret rfl dX10_sleepsOn_105 ?_
          refine ⟨rfl, ?_⟩
          simp only [xu1, xr_xr, xr_s] at h11 h35 h72 ⊢
          try simp only [xu1, xr_xr, xr_s] at h102
          unfold soG
          dsimp only
          first | rw [if_neg (Int32.not_lt.mpr h11)] | rw [if_pos (Int32.not_le.mp h11)]
          first | rw [if_neg (Int32.not_lt.mpr h35)] | rw [if_pos (Int32.not_le.mp h35)]
          first
            | (rw [if_pos h72]; done)
            | (rw [if_neg h72, if_neg (Int32.not_lt.mpr h102)]; done)
            | (rw [if_neg h72, if_pos (Int32.not_le.mp h102)]; done)
      · refine r_ret rfl dX10_sleepsOn_75 ?_
        refine ⟨rfl, ?_⟩
        simp only [xu1, xr_xr, xr_s] at h11 h35 h72 ⊢
        try simp only [xu1, xr_xr, xr_s] at h102
        unfold soG
        dsimp only
        first | rw [if_neg (Int32.not_lt.mpr h11)] | rw [if_pos (Int32.not_le.mp h11)]
        first | rw [if_neg (Int32.not_lt.mpr h35)] | rw [if_pos (Int32.not_le.mp h35)]
        first
          | (rw [if_pos h72]; done)
          | (rw [if_neg h72, if_neg (Int32.not_lt.mpr h102)]; done)
          | (rw [if_neg h72, if_pos (Int32.not_le.mp h102)]; done)
def chB (E : NE) (f : Nat → Int32) (p r : Nat) (he : Int32) : Bool := if asl f p then decide (eH E 1 p + f (10 + p) < he) else if r = 0 then falP E f p he else false
set_option maxHeartbeats 8000000 in
set_option maxRecDepth 20000 in
theorem n_isChanging {E : NE} {w k he : Int32} {f : Nat → Int32} {p r : Nat} {x : XS} (hS : RS x E w k f) (hp : p < eN E) (hr : x 157 p = nI r) (hr2 : r < 2 ^ 30) : MM mX10_isChanging 3 0 0 [.ref 137, .int (nI p), .int he] x (fun v y => v = some (.int (bI (chB E f p r he))) ∧ SC x y) NoT := by
  refine MM.of (by decide) (Nat.le_of_ble_eq_true rfl) ?_
  have y137 := lay_137
  have y142 := lay_142
  have y150 := lay_150
  have y154 := lay_154
  have y157 := lay_157
  have n5 := hS.1.2.1
  have hp5 : p < 5 := by omega
  have e := hS.2.2.2.1.1 p hp5
  refine r_aload_n dX10_isChanging_0 rfl (by rfl) ?_
  refine r_iload_n dX10_isChanging_1 rfl (by rfl) ?_
  refine r_callV (n_isAsleep hS.2.2.2.1 hp5) mv_X10_isAsleep ml_X10_343 ⟨by decide, by decide⟩ dX10_isChanging_2 (by first | assumption | rfl) rfl rfl rfl (Nat.le_of_ble_eq_true rfl) (fun v9 x9 h9 => ?_)
  obtain ⟨rfl, h9⟩ := h9
  refine PW.xeq h9 ?_
  clear h9 x9
  refine r_if_eqB (tgt := 39) dX10_isChanging_5 (by decide) (fun h5 => ?_) (fun h5 => ?_)
  · refine r_aload_n dX10_isChanging_39 rfl (by rfl) ?_
    refine gf_X10_74 rfl dX10_isChanging_40 (by first | assumption | rfl) (by rfl) ?_
    refine r_iload_n dX10_isChanging_43 rfl (by rfl) ?_
    refine r_ialdN dX10_isChanging_44 (by first | assumption | rfl) (by omega) (by decide) ?_
    refine PW.topi hr ?_
    refine r_if_le (tgt := 50) dX10_isChanging_45 (by decide) (fun h45 => ?_) (fun h45 => ?_)
    · refine r_aload_n dX10_isChanging_50 rfl (by rfl) ?_
      refine r_iload_n dX10_isChanging_51 rfl (by rfl) ?_
      refine r_iconst (v := nI 0) dX10_isChanging_52 (by decide) ?_
      refine r_iload_n dX10_isChanging_53 rfl (by rfl) ?_
      refine r_callV (n_findFacts hS.1 hp) mv_X10_findFacts ml_X10_337 ⟨by decide, by decide⟩ dX10_isChanging_54 (by first | assumption | rfl) rfl rfl rfl (Nat.le_of_ble_eq_true rfl) (fun v9 x9 h9 => ?_)
      obtain ⟨rfl, h9⟩ := h9
      refine PW.xeq h9 ?_
      clear h9 x9
      refine r_aload_n dX10_isChanging_57 rfl (by rfl) ?_
      refine gf_X10_53 rfl dX10_isChanging_58 (by first | assumption | rfl) (by rfl) ?_
      refine r_bipush (v := nI 8) dX10_isChanging_61 (by decide) ?_
      refine r_aload_n dX10_isChanging_63 rfl (by rfl) ?_
      refine gf_X10_65 rfl dX10_isChanging_64 (by first | assumption | rfl) (by rfl) ?_
      refine r_bipush (v := nI 35) dX10_isChanging_67 (by decide) ?_
      refine r_iload_n dX10_isChanging_69 rfl (by rfl) ?_
      refine r_iaddN dX10_isChanging_70 ?_
      refine r_ialdN dX10_isChanging_71 (by first | assumption | rfl) (by omega) (by decide) ?_
      refine r_iastN dX10_isChanging_72 (by first | assumption | rfl) (by omega) (by decide) ?_
      refine r_aload_n dX10_isChanging_73 rfl (by rfl) ?_
      refine r_callV (c_isFalling (l := eF E) (x := xu (xr x 150 (fct (eH E 2 p) (eH E 4 p) (eH E 5 p) (nI 0) (x 154 (0 + p)) he (eH E 1 p) (x 154 40) (nI 0))) 150 8 (x 154 (35 + p))) (hS.1.2.2.2.2.2.2.fr rfl rfl rfl)) mv_X10_isFalling ml_X10_352 ⟨by decide, by decide⟩ dX10_isChanging_74 (by first | assumption | rfl) rfl rfl rfl (Nat.le_of_ble_eq_true rfl) (fun v9 y h9 => ?_)
      obtain ⟨rfl, F9⟩ := h9
      refine r_zret rfl (by first | exact bI_01 _ | exact Or.inl rfl | exact Or.inr rfl) dX10_isChanging_77 ?_
      refine ⟨congrArg some (congrArg Value.int ?_), fun c a1 a2 => (F9 c a1).trans ((xu_n a2).trans (xr_n a2))⟩
      unfold chB
      have r0 : r = 0 := by
        by_cases q : r = 0
        · exact q
        · exact absurd h45 (nI_nle (by omega) (by omega))
      rw [if_neg (by rw [h5]; decide), if_pos r0]
      unfold falP
      rw [e.1, e.2.2.2.2.2.2.1, hS.2.2.2.1.2.1]
      congr 2
      refine congrArg (fun z => (0 : Int32) < z) ?_
      refine LV_congr (fun j hj => ?_) hS.1.2.2.2.2.2.2.1.2.2.2
      show upd (xr x 150 _ 150) 8 (f (30 + p)) j = _
      rw [xr_s]
      rcases (show j = 0 ∨ j = 1 ∨ j = 2 ∨ j = 3 ∨ j = 4 ∨ j = 5 ∨ j = 6 ∨ j = 7 ∨ j = 8 by omega) with rfl | rfl | rfl | rfl | rfl | rfl | rfl | rfl | rfl <;> rfl
    · refine r_iconst (v := nI 0) dX10_isChanging_48 (by decide) ?_
      refine r_zret rfl (by first | exact bI_01 _ | exact Or.inl rfl | exact Or.inr rfl) dX10_isChanging_49 ?_
      refine ⟨congrArg some (congrArg Value.int ?_), SC.rfl⟩
      unfold chB
      rw [if_neg (by rw [h5]; decide), if_neg (fun q => h45 (by rw [q]; exact Int32.le_refl _))]
      rfl
  · refine r_iload_n dX10_isChanging_8 rfl (by rfl) ?_
    refine r_aload_n dX10_isChanging_9 rfl (by rfl) ?_
    refine gf_X10_29 rfl dX10_isChanging_10 (by first | assumption | rfl) (by rfl) ?_
    refine r_bipush (v := nI 8) dX10_isChanging_13 (by decide) ?_
    refine r_iload_n dX10_isChanging_15 rfl (by rfl) ?_
    refine r_imulN dX10_isChanging_16 ?_
    refine r_iconst (v := nI 1) dX10_isChanging_17 (by decide) ?_
    refine r_iaddN dX10_isChanging_18 ?_
    refine r_ialdN dX10_isChanging_19 (by first | assumption | rfl) (by omega) (by decide) ?_
    refine PW.topi (show _ = eH E 1 p from hS.1.2.2.1 1 (by decide) p hp) ?_
    refine r_aload_n dX10_isChanging_20 rfl (by rfl) ?_
    refine gf_X10_65 rfl dX10_isChanging_21 (by first | assumption | rfl) (by rfl) ?_
    refine r_bipush (v := nI 15) dX10_isChanging_24 (by decide) ?_
    refine r_iload_n dX10_isChanging_26 rfl (by rfl) ?_
    refine r_iaddN dX10_isChanging_27 ?_
    refine r_ialdN dX10_isChanging_28 (by first | assumption | rfl) (by omega) (by decide) ?_
    refine PW.topi (show _ = f (10 + p) from e.2.2.2.1) ?_
    refine r_iadd dX10_isChanging_29 ?_
    refine r_icmp_le (tgt := 37) dX10_isChanging_30 (by decide) (fun h30 => ?_) (fun h30 => ?_)
    · refine r_iconst (v := nI 0) dX10_isChanging_37 (by decide) ?_
      refine r_zret rfl (by first | exact bI_01 _ | exact Or.inl rfl | exact Or.inr rfl) dX10_isChanging_38 ?_
      refine ⟨congrArg some (congrArg Value.int ?_), SC.rfl⟩
      unfold chB
      rw [if_pos h5]
      first
        | (rw [decide_eq_true (Int32.not_le.mp h30)]; rfl)
        | (rw [decide_eq_false (Int32.not_lt.mpr h30)]; rfl)
    · refine r_iconst (v := nI 1) dX10_isChanging_33 (by decide) ?_
      refine r_goto (tgt := 38) dX10_isChanging_34 (by decide) ?_
      refine r_zret rfl (by first | exact bI_01 _ | exact Or.inl rfl | exact Or.inr rfl) dX10_isChanging_38 ?_
      refine ⟨congrArg some (congrArg Value.int ?_), SC.rfl⟩
      unfold chB
      rw [if_pos h5]
      first
        | (rw [decide_eq_true (Int32.not_le.mp h30)]; rfl)
        | (rw [decide_eq_false (Int32.not_lt.mpr h30)]; rfl)
def RD (n t : Nat) (rd g : Nat → Int32) : Prop := ∀ p, p < n → ∃ R, R < 1000 ∧ rd p = nI R ∧ g p = nI (R - t)
def RT (x : XS) (E : NE) (w k : Int32) (f : Nat → Int32) (t : Nat) (rd : Nat → Int32) : Prop := RS x E w k f ∧ f 40 = nI t ∧ t ≤ 240 ∧ RD (eN E) t rd (x 157) ∧ ∃ n, n ≤ 40 ∧ w = nI n
theorem mnP_40 {E : NE} {he rd f : Nat → Int32} : ∀ i, i ≤ 5 → mnP E he rd f i 40 = f 40
  | 0, _ => rfl
  | i + 1, hi => by
    have ih := mnP_40 (E := E) (he := he) (rd := rd) (f := f) i (by omega)
    show oneP E he rd (mnP E he rd f i) i 40 = _
    unfold oneP
    split
    · have e := sleepR_40 (x := fun c k => if c = 5 then eH E 1 k else if c = 3 then eO E else 0) (f := mnP E he rd f i) (p := i) (h := he i) (by omega)
      exact e.trans ih
    · exact (stayR_40 (by omega)).trans ih
set_option maxHeartbeats 8000000 in
set_option maxRecDepth 20000 in
theorem n_minute {E : NE} {w k : Int32} {f rd : Nat → Int32} {t : Nat} {x : XS} (hT : RT x E w k f t rd) : MM mX10_minute 6 0 0 [.ref 137] x (fun v y => v = some (.int (bI (decide (t < 240)))) ∧ RT y E w k (minP E w rd k f) (if t < 240 then t + 1 else t) rd ∧ MF x y) NoT := by
  refine MM.of (by decide) (Nat.le_of_ble_eq_true rfl) ?_
  have y137 := lay_137
  have y154 := lay_154
  have y156 := lay_156
  have y157 := lay_157
  obtain ⟨hS, ht, ht2, hRD, hw⟩ := id hT
  have n5 := hS.1.2.1
  refine r_aload_n dX10_minute_0 rfl (by rfl) ?_
  refine gf_X10_65 rfl dX10_minute_1 (by first | assumption | rfl) (by rfl) ?_
  refine r_bipush (v := nI 40) dX10_minute_4 (by decide) ?_
  refine r_ialdN dX10_minute_6 (by first | assumption | rfl) (by omega) (by decide) ?_
  refine PW.topi (show _ = nI t from hS.2.2.2.1.2.1.trans ht) ?_
  refine r_sipush (v := nI 240) dX10_minute_7 (by decide) ?_
  refine r_icmp_neN (tgt := 15) dX10_minute_10 (by decide) (by omega) (by omega) (fun h10 => ?_) (fun h10 => ?_)
  · refine r_iconst (v := nI 0) dX10_minute_15 (by decide) ?_
    refine r_istore_n dX10_minute_16 rfl (by decide) ?_
    refine PW.loop (σ := Nat × XS) (fun o => eN E - o.1) (fun o => o.1 ≤ eN E ∧ (∀ c, c ≠ 149 → c ≠ 150 → c ≠ 156 → o.2 c = x c) ∧ ∀ p, p < o.1 → o.2 156 p = (heaP E w k f) p) (fun o => [(0, .ref 137), (1, .int (nI o.1))]) (fun o => o.2) ((0, x)) (⟨Nat.zero_le _, fun _ _ _ _ => rfl, fun p hp => absurd hp (Nat.not_lt_zero _)⟩) rfl rfl (fun o ho oh => ?_)
    obtain ⟨ho1, hfr, hh⟩ := ho
    have S1 : RS o.2 E w k f := hS.mf (fun c a1 a2 _ a4 _ => hfr c a1 a2 a4) (by rw [hfr 154 (by decide) (by decide) (by decide)]; exact hS.2.2.2.1) hS.2.2.2.2
    refine r_iload_n dX10_minute_17 rfl (by rfl) ?_
    refine r_aload_n dX10_minute_18 rfl (by rfl) ?_
    refine gf_X10_156 rfl dX10_minute_19 (by first | assumption | rfl) (by rfl) ?_
    refine PW.topi (show _ = nI (eN E) by rw [hfr 137 (by decide) (by decide) (by decide)]; exact hS.1.1) ?_
    refine r_icmp_geN (tgt := 42) dX10_minute_22 (by decide) (by omega) (by omega) (fun h22 => ?_) (fun h22 => ?_)
    · refine PW.lc (L' := [(0, .ref 137)]) (by rfl) rfl ?_
      refine r_iconst (v := nI 0) dX10_minute_42 (by decide) ?_
      refine r_istore_n dX10_minute_43 rfl (by decide) ?_
      refine PW.loop (σ := Nat × XS) (fun s => eN E - s.1) (fun s => s.1 ≤ eN E ∧ MF x s.2 ∧ RRow (mnP E (heaP E w k f) rd f s.1) (s.2 154) ∧ (∀ p, p < eN E → s.2 156 p = (heaP E w k f) p) ∧ ∀ p, p < eN E → ∃ R, R < 1000 ∧ rd p = nI R ∧ s.2 157 p = nI (if p < s.1 then R - (t + 1) else R - t)) (fun s => [(0, .ref 137), (1, .int (nI s.1))]) (fun s => s.2) ((0, o.2)) (⟨Nat.zero_le _, fun c a1 a2 _ a4 _ => hfr c a1 a2 a4, by show RRow f (o.2 154); rw [hfr 154 (by decide) (by decide) (by decide)]; exact hS.2.2.2.1, fun p hp => hh p (by omega), fun p hp => (by
        obtain ⟨R9, a1, a2, a3⟩ := hRD p hp
        refine ⟨R9, a1, a2, ?_⟩
        show o.2 157 p = _
        rw [if_neg (show ¬ p < 0 by omega), hfr 157 (by decide) (by decide) (by decide)]
        exact a3)⟩) rfl rfl (fun s hs ih => ?_)
      obtain ⟨hs1, hF, hR, hH, hD⟩ := hs
      have n5b : s.1 < eN E → s.1 < 5 := fun h => by omega
      have hO : RO (mnP E (heaP E w k f) rd f s.1) := mn_RO hS.2.2.2.2 s.1 (by omega)
      have S2 : RS s.2 E w k (mnP E (heaP E w k f) rd f s.1) := hS.mf hF hR hO
      have f40 : (mnP E (heaP E w k f) rd f s.1) 40 = nI t := (mnP_40 s.1 (by omega)).trans ht
      refine r_iload_n dX10_minute_44 rfl (by rfl) ?_
      refine r_aload_n dX10_minute_45 rfl (by rfl) ?_
      refine gf_X10_156 rfl dX10_minute_46 (by first | assumption | rfl) (by rfl) ?_
      refine PW.topi (show _ = nI (eN E) from S2.1.1) ?_
      refine r_icmp_geN (tgt := 123) dX10_minute_49 (by decide) (by omega) (by omega) (fun h49 => ?_) (fun h49 => ?_)
      · refine r_aload_n dX10_minute_123 rfl (by rfl) ?_
        refine gf_X10_65 rfl dX10_minute_124 (by first | assumption | rfl) (by rfl) ?_
        refine r_bipush (v := nI 40) dX10_minute_127 (by decide) ?_
        refine r_dup2 dX10_minute_129 rfl rfl ?_
        refine r_ialdN dX10_minute_130 (by first | assumption | rfl) (by omega) (by decide) ?_
        refine r_iconst (v := nI 1) dX10_minute_131 (by decide) ?_
        refine r_iadd dX10_minute_132 ?_
        refine r_iastN dX10_minute_133 (by first | assumption | rfl) (by omega) (by decide) ?_
        refine r_iconst (v := nI 1) dX10_minute_134 (by decide) ?_
        refine r_zret rfl (by first | exact bI_01 _ | exact Or.inl rfl | exact Or.inr rfl) dX10_minute_135 ?_
        have es : s.1 = eN E := by omega
        have t240 : t < 240 := by omega
        have g40 : s.2 154 40 = (mnP E (heaP E w k f) rd f s.1) 40 := hR.2.1
        have em : minP E w rd k f = upd (mnP E (heaP E w k f) rd f s.1) 40 ((mnP E (heaP E w k f) rd f s.1) 40 + nI 1) := by
          unfold minP
          rw [if_pos (by rw [ht]; exact nI_lt t240 (by omega)), es]
        have F2 : MF x (xu s.2 154 40 (s.2 154 40 + nI 1)) := hF.put (by omega)
        refine ⟨by rw [decide_eq_true t240]; rfl, ⟨?_, ?_, ?_, ?_, hw⟩, F2⟩
        · refine hS.mf F2 ?_ (min_RO hS.2.2.2.2 hS.1.2.1)
          rw [em]
          show RRow _ (upd (s.2 154) 40 (s.2 154 40 + nI 1))
          rw [g40]
          exact hR.at40
        · rw [minP_40 hS.1.2.1 ht ht2]
        · split <;> omega
        · rw [if_pos t240]
          intro p hp
          obtain ⟨R9, a1, a2, a3⟩ := hD p hp
          rw [if_pos (by omega)] at a3
          exact ⟨R9, a1, a2, a3⟩
      · have sn : s.1 < eN E := by omega
        obtain ⟨R, hR1, hR2, hR3⟩ := hD s.1 sn
        rw [if_neg (Nat.lt_irrefl _)] at hR3
        refine r_aload_n dX10_minute_52 rfl (by rfl) ?_
        refine r_iload_n dX10_minute_53 rfl (by rfl) ?_
        refine r_aload_n dX10_minute_54 rfl (by rfl) ?_
        refine gf_X10_71 rfl dX10_minute_55 (by first | assumption | rfl) (by rfl) ?_
        refine r_iload_n dX10_minute_58 rfl (by rfl) ?_
        refine r_ialdN dX10_minute_59 (by first | assumption | rfl) (by omega) (by decide) ?_
        refine PW.topi (show _ = (heaP E w k f) s.1 from hH s.1 sn) ?_
        refine r_callV (n_isChanging S2 sn hR3 (by omega)) mv_X10_isChanging ml_X10_358 ⟨by decide, by decide⟩ dX10_minute_60 (by first | assumption | rfl) rfl rfl rfl (Nat.le_of_ble_eq_true rfl) (fun v9 z h9 => ?_)
        obtain ⟨rfl, F1⟩ := h9
        have z154 : z 154 = s.2 154 := F1 154 (by decide) (by decide)
        have z157 : z 157 = s.2 157 := F1 157 (by decide) (by decide)
        refine r_istore_n dX10_minute_63 rfl (by decide) ?_
        refine r_aload_n dX10_minute_64 rfl (by rfl) ?_
        refine r_iload_n dX10_minute_65 rfl (by rfl) ?_
        refine r_callV (n_isAsleep (by rw [z154]; exact hR) (by omega)) mv_X10_isAsleep ml_X10_343 ⟨by decide, by decide⟩ dX10_minute_66 (by first | assumption | rfl) rfl rfl rfl (Nat.le_of_ble_eq_true rfl) (fun v9 x9 h9 => ?_)
        obtain ⟨rfl, h9⟩ := h9
        refine PW.xeq h9 ?_
        clear h9 x9
        refine r_if_neB (tgt := 81) dX10_minute_69 (by decide) (fun h69 => ?_) (fun h69 => ?_)
        · refine r_iload_n dX10_minute_81 rfl (by rfl) ?_
          refine r_if_eqB (tgt := 93) dX10_minute_82 (by decide) (fun h82 => ?_) (fun h82 => ?_)
          · refine r_aload_n dX10_minute_93 rfl (by rfl) ?_
            refine r_iload_n dX10_minute_94 rfl (by rfl) ?_
            refine r_callV (n_sleepsOn (ov := eO E) (by omega) (by rw [F1 137 (by decide) (by decide)]; exact S2.1.2.2.2.2.1)) mv_X10_sleepsOn ml_X10_369 ⟨by decide, by decide⟩ dX10_minute_95 (by first | assumption | rfl) rfl rfl rfl (Nat.le_of_ble_eq_true rfl) (fun v9 x9 h9 => ?_)
            obtain ⟨rfl, h9⟩ := h9
            refine PW.xeq h9 ?_
            clear h9 x9
            refine PW.any (c := 154) (fun q => RRow (oneP E (heaP E w k f) rd (mnP E (heaP E w k f) rd f s.1) s.1) q) (by
              rw [z154]
              unfold oneP
              first
                | (rw [if_neg (by rw [h69]; decide)]
                   have d0 : (mnP E (heaP E w k f) rd f s.1) (10 + s.1) = nI 0 := by
                     obtain ⟨d, hd, ed⟩ := (hO.2 s.1 (by omega)).2.2.1
                     have : ¬ 0 < (mnP E (heaP E w k f) rd f s.1) (10 + s.1) := of_decide_eq_false h69
                     rw [ed] at this ⊢
                     congr 1
                     by_cases q : d = 0
                     · exact q
                     · exact absurd (nI_lt (show 0 < d by omega) (by omega)) this
                   have ec : chB E (mnP E (heaP E w k f) rd f s.1) s.1 (R - t) ((heaP E w k f) s.1) = if (mnP E (heaP E w k f) rd f s.1) 40 < rd s.1 then false else falP E (mnP E (heaP E w k f) rd f s.1) s.1 ((heaP E w k f) s.1) := by
                     unfold chB
                     rw [if_neg (by rw [h69]; decide), f40, hR2]
                     by_cases q : t < R
                     · rw [if_neg (by omega), if_pos (nI_lt q (by omega))]
                     · rw [if_pos (by omega), if_neg (nI_nlt (by omega) (by omega))]
                   rw [← ec]
                   exact li_RR hR hO (by omega) d0)
                | (rw [if_pos h69]
                   have ec : chB E (mnP E (heaP E w k f) rd f s.1) s.1 (R - t) ((heaP E w k f) s.1) = decide (eH E 1 s.1 + (mnP E (heaP E w k f) rd f s.1) (10 + s.1) < (heaP E w k f) s.1) := by
                     unfold chB
                     rw [if_pos h69]
                   rw [ec] at h82
                   first
                     | (have h82 := of_decide_eq_true h82
                        unfold slpR
                        rw [if_neg (Int32.not_le.mpr h82)]
                        exact wk_RR hR (by omega))
                     | (have h82 := of_decide_eq_false h82
                        exact so_RR hR hO (by omega) (of_decide_eq_true h69) (Int32.not_lt.mp h82)))) (fun q hq => ?_)
            refine r_aload_n dX10_minute_98 rfl (by rfl) ?_
            refine gf_X10_74 rfl dX10_minute_99 (by first | assumption | rfl) (by rfl) ?_
            refine r_iload_n dX10_minute_102 rfl (by rfl) ?_
            refine r_ialdN dX10_minute_103 (by first | assumption | rfl) (by omega) (by decide) ?_
            refine PW.topi (show _ = z 157 s.1 from rfl) ?_
            refine r_if_le (tgt := 117) dX10_minute_104 (by decide) (fun h104 => ?_) (fun h104 => ?_)
            · refine r_iincN dX10_minute_117 (by rfl) (by decide) ?_
              refine r_goto (tgt := 44) dX10_minute_120 (by decide) ?_
              first
                | (exact PW.lc (by rfl) rfl (ih (s.1 + 1, (xr z 154 q)) ⟨(show s.1 + 1 ≤ eN E by omega), (hF.trans F1.mf).row (by omega), (show RRow (oneP E (heaP E w k f) rd (mnP E (heaP E w k f) rd f s.1) s.1) ((xr z 154 q) 154) from hq), (fun p hp => (show (xr z 154 q) 156 p = (heaP E w k f) p from (by show z 156 p = _; rw [F1 156 (by decide) (by decide)]; exact hH p hp))), (fun p hp => by
                     obtain ⟨R9, a1, a2, a3⟩ := hD p hp
                     refine ⟨R9, a1, a2, ?_⟩
                     by_cases ep : p = s.1
                     · subst ep
                       rw [if_pos (Nat.lt_succ_self _)]
                       rw [if_neg (Nat.lt_irrefl _)] at a3
                       have eR : R9 = R := (nI_eq (by omega) (by omega)).mp (a2.symm.trans hR2)
                       show z 157 s.1 = _
                       rw [z157, a3, eR]
                       rw [show z 157 s.1 = nI (R - t) by rw [z157]; exact hR3] at h104
                       have : R - t = 0 := by
                         by_cases q9 : R - t = 0
                         · exact q9
                         · exact absurd h104 (nI_nle (by omega) (by omega))
                       rw [this, show R - (t + 1) = 0 by omega]
                     · show (xr z 154 q) 157 p = _
                       show z 157 p = _
                       rw [z157, a3]
                       by_cases q9 : p < s.1
                       · rw [if_pos q9, if_pos (show p < s.1 + 1 by omega)]
                       · rw [if_neg q9, if_neg (show ¬ p < s.1 + 1 by omega)])⟩ (show eN E - (s.1 + 1) < eN E - s.1 by omega)))
                | (exact PW.lc (by rfl) rfl (ih (s.1 + 1, (xu (xr z 154 q) 157 s.1 ((xr z 154 q) 157 s.1 - nI 1))) ⟨(show s.1 + 1 ≤ eN E by omega), ((hF.trans F1.mf).row (by omega)).put (by omega), (show RRow (oneP E (heaP E w k f) rd (mnP E (heaP E w k f) rd f s.1) s.1) ((xu (xr z 154 q) 157 s.1 ((xr z 154 q) 157 s.1 - nI 1)) 154) from hq), (fun p hp => (show (xu (xr z 154 q) 157 s.1 ((xr z 154 q) 157 s.1 - nI 1)) 156 p = (heaP E w k f) p from (by show z 156 p = _; rw [F1 156 (by decide) (by decide)]; exact hH p hp))), (fun p hp => by
                     obtain ⟨R9, a1, a2, a3⟩ := hD p hp
                     refine ⟨R9, a1, a2, ?_⟩
                     by_cases ep : p = s.1
                     · subst ep
                       rw [if_pos (Nat.lt_succ_self _)]
                       rw [if_neg (Nat.lt_irrefl _)] at a3
                       have eR : R9 = R := (nI_eq (by omega) (by omega)).mp (a2.symm.trans hR2)
                       show upd (z 157) s.1 (z 157 s.1 - nI 1) s.1 = _
                       rw [pk_us, z157, a3, eR]
                       rw [show z 157 s.1 = nI (R - t) by rw [z157]; exact hR3] at h104
                       have : ¬ R - t = 0 := fun q9 => h104 (by rw [q9]; exact Int32.le_refl _)
                       rw [pk_sub (by omega)]
                       congr 1
                     · show (xu (xr z 154 q) 157 s.1 ((xr z 154 q) 157 s.1 - nI 1)) 157 p = _
                       show upd (z 157) s.1 (z 157 s.1 - nI 1) p = _
                       rw [pk_un ep]
                       rw [z157, a3]
                       by_cases q9 : p < s.1
                       · rw [if_pos q9, if_pos (show p < s.1 + 1 by omega)]
                       · rw [if_neg q9, if_neg (show ¬ p < s.1 + 1 by omega)])⟩ (show eN E - (s.1 + 1) < eN E - s.1 by omega)))
            · refine r_aload_n dX10_minute_107 rfl (by rfl) ?_
              refine gf_X10_74 rfl dX10_minute_108 (by first | assumption | rfl) (by rfl) ?_
              refine r_iload_n dX10_minute_111 rfl (by rfl) ?_
              refine r_dup2 dX10_minute_112 rfl rfl ?_
              refine r_ialdN dX10_minute_113 (by first | assumption | rfl) (by omega) (by decide) ?_
              refine r_iconst (v := nI 1) dX10_minute_114 (by decide) ?_
              refine r_isub dX10_minute_115 ?_
              refine r_iastN dX10_minute_116 (by first | assumption | rfl) (by omega) (by decide) ?_
              refine r_iincN dX10_minute_117 (by rfl) (by decide) ?_
              refine r_goto (tgt := 44) dX10_minute_120 (by decide) ?_
              first
                | (exact PW.lc (by rfl) rfl (ih (s.1 + 1, (xr z 154 q)) ⟨(show s.1 + 1 ≤ eN E by omega), (hF.trans F1.mf).row (by omega), (show RRow (oneP E (heaP E w k f) rd (mnP E (heaP E w k f) rd f s.1) s.1) ((xr z 154 q) 154) from hq), (fun p hp => (show (xr z 154 q) 156 p = (heaP E w k f) p from (by show z 156 p = _; rw [F1 156 (by decide) (by decide)]; exact hH p hp))), (fun p hp => by
                     obtain ⟨R9, a1, a2, a3⟩ := hD p hp
                     refine ⟨R9, a1, a2, ?_⟩
                     by_cases ep : p = s.1
                     · subst ep
                       rw [if_pos (Nat.lt_succ_self _)]
                       rw [if_neg (Nat.lt_irrefl _)] at a3
                       have eR : R9 = R := (nI_eq (by omega) (by omega)).mp (a2.symm.trans hR2)
                       show z 157 s.1 = _
                       rw [z157, a3, eR]
                       rw [show z 157 s.1 = nI (R - t) by rw [z157]; exact hR3] at h104
                       have : R - t = 0 := by
                         by_cases q9 : R - t = 0
                         · exact q9
                         · exact absurd h104 (nI_nle (by omega) (by omega))
                       rw [this, show R - (t + 1) = 0 by omega]
                     · show (xr z 154 q) 157 p = _
                       show z 157 p = _
                       rw [z157, a3]
                       by_cases q9 : p < s.1
                       · rw [if_pos q9, if_pos (show p < s.1 + 1 by omega)]
                       · rw [if_neg q9, if_neg (show ¬ p < s.1 + 1 by omega)])⟩ (show eN E - (s.1 + 1) < eN E - s.1 by omega)))
                | (exact PW.lc (by rfl) rfl (ih (s.1 + 1, (xu (xr z 154 q) 157 s.1 ((xr z 154 q) 157 s.1 - nI 1))) ⟨(show s.1 + 1 ≤ eN E by omega), ((hF.trans F1.mf).row (by omega)).put (by omega), (show RRow (oneP E (heaP E w k f) rd (mnP E (heaP E w k f) rd f s.1) s.1) ((xu (xr z 154 q) 157 s.1 ((xr z 154 q) 157 s.1 - nI 1)) 154) from hq), (fun p hp => (show (xu (xr z 154 q) 157 s.1 ((xr z 154 q) 157 s.1 - nI 1)) 156 p = (heaP E w k f) p from (by show z 156 p = _; rw [F1 156 (by decide) (by decide)]; exact hH p hp))), (fun p hp => by
                     obtain ⟨R9, a1, a2, a3⟩ := hD p hp
                     refine ⟨R9, a1, a2, ?_⟩
                     by_cases ep : p = s.1
                     · subst ep
                       rw [if_pos (Nat.lt_succ_self _)]
                       rw [if_neg (Nat.lt_irrefl _)] at a3
                       have eR : R9 = R := (nI_eq (by omega) (by omega)).mp (a2.symm.trans hR2)
                       show upd (z 157) s.1 (z 157 s.1 - nI 1) s.1 = _
                       rw [pk_us, z157, a3, eR]
                       rw [show z 157 s.1 = nI (R - t) by rw [z157]; exact hR3] at h104
                       have : ¬ R - t = 0 := fun q9 => h104 (by rw [q9]; exact Int32.le_refl _)
                       rw [pk_sub (by omega)]
                       congr 1
                     · show (xu (xr z 154 q) 157 s.1 ((xr z 154 q) 157 s.1 - nI 1)) 157 p = _
                       show upd (z 157) s.1 (z 157 s.1 - nI 1) p = _
                       rw [pk_un ep]
                       rw [z157, a3]
                       by_cases q9 : p < s.1
                       · rw [if_pos q9, if_pos (show p < s.1 + 1 by omega)]
                       · rw [if_neg q9, if_neg (show ¬ p < s.1 + 1 by omega)])⟩ (show eN E - (s.1 + 1) < eN E - s.1 by omega)))
          · refine r_aload_n dX10_minute_85 rfl (by rfl) ?_
            refine r_iload_n dX10_minute_86 rfl (by rfl) ?_
            refine r_callV (n_wakes (by omega)) mv_X10_wakes ml_X10_366 ⟨by decide, by decide⟩ dX10_minute_87 (by first | assumption | rfl) rfl rfl rfl (Nat.le_of_ble_eq_true rfl) (fun v9 x9 h9 => ?_)
            obtain ⟨rfl, h9⟩ := h9
            refine PW.xeq h9 ?_
            clear h9 x9
            refine r_goto (tgt := 98) dX10_minute_90 (by decide) ?_
            refine PW.any (c := 154) (fun q => RRow (oneP E (heaP E w k f) rd (mnP E (heaP E w k f) rd f s.1) s.1) q) (by
              rw [z154]
              unfold oneP
              first
                | (rw [if_neg (by rw [h69]; decide)]
                   have d0 : (mnP E (heaP E w k f) rd f s.1) (10 + s.1) = nI 0 := by
                     obtain ⟨d, hd, ed⟩ := (hO.2 s.1 (by omega)).2.2.1
                     have : ¬ 0 < (mnP E (heaP E w k f) rd f s.1) (10 + s.1) := of_decide_eq_false h69
                     rw [ed] at this ⊢
                     congr 1
                     by_cases q : d = 0
                     · exact q
                     · exact absurd (nI_lt (show 0 < d by omega) (by omega)) this
                   have ec : chB E (mnP E (heaP E w k f) rd f s.1) s.1 (R - t) ((heaP E w k f) s.1) = if (mnP E (heaP E w k f) rd f s.1) 40 < rd s.1 then false else falP E (mnP E (heaP E w k f) rd f s.1) s.1 ((heaP E w k f) s.1) := by
                     unfold chB
                     rw [if_neg (by rw [h69]; decide), f40, hR2]
                     by_cases q : t < R
                     · rw [if_neg (by omega), if_pos (nI_lt q (by omega))]
                     · rw [if_pos (by omega), if_neg (nI_nlt (by omega) (by omega))]
                   rw [← ec]
                   exact li_RR hR hO (by omega) d0)
                | (rw [if_pos h69]
                   have ec : chB E (mnP E (heaP E w k f) rd f s.1) s.1 (R - t) ((heaP E w k f) s.1) = decide (eH E 1 s.1 + (mnP E (heaP E w k f) rd f s.1) (10 + s.1) < (heaP E w k f) s.1) := by
                     unfold chB
                     rw [if_pos h69]
                   rw [ec] at h82
                   first
                     | (have h82 := of_decide_eq_true h82
                        unfold slpR
                        rw [if_neg (Int32.not_le.mpr h82)]
                        exact wk_RR hR (by omega))
                     | (have h82 := of_decide_eq_false h82
                        exact so_RR hR hO (by omega) (of_decide_eq_true h69) (Int32.not_lt.mp h82)))) (fun q hq => ?_)
            refine r_aload_n dX10_minute_98 rfl (by rfl) ?_
            refine gf_X10_74 rfl dX10_minute_99 (by first | assumption | rfl) (by rfl) ?_
            refine r_iload_n dX10_minute_102 rfl (by rfl) ?_
            refine r_ialdN dX10_minute_103 (by first | assumption | rfl) (by omega) (by decide) ?_
            refine PW.topi (show _ = z 157 s.1 from rfl) ?_
            refine r_if_le (tgt := 117) dX10_minute_104 (by decide) (fun h104 => ?_) (fun h104 => ?_)
            · refine r_iincN dX10_minute_117 (by rfl) (by decide) ?_
              refine r_goto (tgt := 44) dX10_minute_120 (by decide) ?_
              first
                | (exact PW.lc (by rfl) rfl (ih (s.1 + 1, (xr z 154 q)) ⟨(show s.1 + 1 ≤ eN E by omega), (hF.trans F1.mf).row (by omega), (show RRow (oneP E (heaP E w k f) rd (mnP E (heaP E w k f) rd f s.1) s.1) ((xr z 154 q) 154) from hq), (fun p hp => (show (xr z 154 q) 156 p = (heaP E w k f) p from (by show z 156 p = _; rw [F1 156 (by decide) (by decide)]; exact hH p hp))), (fun p hp => by
                     obtain ⟨R9, a1, a2, a3⟩ := hD p hp
                     refine ⟨R9, a1, a2, ?_⟩
                     by_cases ep : p = s.1
                     · subst ep
                       rw [if_pos (Nat.lt_succ_self _)]
                       rw [if_neg (Nat.lt_irrefl _)] at a3
                       have eR : R9 = R := (nI_eq (by omega) (by omega)).mp (a2.symm.trans hR2)
                       show z 157 s.1 = _
                       rw [z157, a3, eR]
                       rw [show z 157 s.1 = nI (R - t) by rw [z157]; exact hR3] at h104
                       have : R - t = 0 := by
                         by_cases q9 : R - t = 0
                         · exact q9
                         · exact absurd h104 (nI_nle (by omega) (by omega))
                       rw [this, show R - (t + 1) = 0 by omega]
                     · show (xr z 154 q) 157 p = _
                       show z 157 p = _
                       rw [z157, a3]
                       by_cases q9 : p < s.1
                       · rw [if_pos q9, if_pos (show p < s.1 + 1 by omega)]
                       · rw [if_neg q9, if_neg (show ¬ p < s.1 + 1 by omega)])⟩ (show eN E - (s.1 + 1) < eN E - s.1 by omega)))
                | (exact PW.lc (by rfl) rfl (ih (s.1 + 1, (xu (xr z 154 q) 157 s.1 ((xr z 154 q) 157 s.1 - nI 1))) ⟨(show s.1 + 1 ≤ eN E by omega), ((hF.trans F1.mf).row (by omega)).put (by omega), (show RRow (oneP E (heaP E w k f) rd (mnP E (heaP E w k f) rd f s.1) s.1) ((xu (xr z 154 q) 157 s.1 ((xr z 154 q) 157 s.1 - nI 1)) 154) from hq), (fun p hp => (show (xu (xr z 154 q) 157 s.1 ((xr z 154 q) 157 s.1 - nI 1)) 156 p = (heaP E w k f) p from (by show z 156 p = _; rw [F1 156 (by decide) (by decide)]; exact hH p hp))), (fun p hp => by
                     obtain ⟨R9, a1, a2, a3⟩ := hD p hp
                     refine ⟨R9, a1, a2, ?_⟩
                     by_cases ep : p = s.1
                     · subst ep
                       rw [if_pos (Nat.lt_succ_self _)]
                       rw [if_neg (Nat.lt_irrefl _)] at a3
                       have eR : R9 = R := (nI_eq (by omega) (by omega)).mp (a2.symm.trans hR2)
                       show upd (z 157) s.1 (z 157 s.1 - nI 1) s.1 = _
                       rw [pk_us, z157, a3, eR]
                       rw [show z 157 s.1 = nI (R - t) by rw [z157]; exact hR3] at h104
                       have : ¬ R - t = 0 := fun q9 => h104 (by rw [q9]; exact Int32.le_refl _)
                       rw [pk_sub (by omega)]
                       congr 1
                     · show (xu (xr z 154 q) 157 s.1 ((xr z 154 q) 157 s.1 - nI 1)) 157 p = _
                       show upd (z 157) s.1 (z 157 s.1 - nI 1) p = _
                       rw [pk_un ep]
                       rw [z157, a3]
                       by_cases q9 : p < s.1
                       · rw [if_pos q9, if_pos (show p < s.1 + 1 by omega)]
                       · rw [if_neg q9, if_neg (show ¬ p < s.1 + 1 by omega)])⟩ (show eN E - (s.1 + 1) < eN E - s.1 by omega)))
            · refine r_aload_n dX10_minute_107 rfl (by rfl) ?_
              refine gf_X10_74 rfl dX10_minute_108 (by first | assumption | rfl) (by rfl) ?_
              refine r_iload_n dX10_minute_111 rfl (by rfl) ?_
              refine r_dup2 dX10_minute_112 rfl rfl ?_
              refine r_ialdN dX10_minute_113 (by first | assumption | rfl) (by omega) (by decide) ?_
              refine r_iconst (v := nI 1) dX10_minute_114 (by decide) ?_
              refine r_isub dX10_minute_115 ?_
              refine r_iastN dX10_minute_116 (by first | assumption | rfl) (by omega) (by decide) ?_
              refine r_iincN dX10_minute_117 (by rfl) (by decide) ?_
              refine r_goto (tgt := 44) dX10_minute_120 (by decide) ?_
              first
                | (exact PW.lc (by rfl) rfl (ih (s.1 + 1, (xr z 154 q)) ⟨(show s.1 + 1 ≤ eN E by omega), (hF.trans F1.mf).row (by omega), (show RRow (oneP E (heaP E w k f) rd (mnP E (heaP E w k f) rd f s.1) s.1) ((xr z 154 q) 154) from hq), (fun p hp => (show (xr z 154 q) 156 p = (heaP E w k f) p from (by show z 156 p = _; rw [F1 156 (by decide) (by decide)]; exact hH p hp))), (fun p hp => by
                     obtain ⟨R9, a1, a2, a3⟩ := hD p hp
                     refine ⟨R9, a1, a2, ?_⟩
                     by_cases ep : p = s.1
                     · subst ep
                       rw [if_pos (Nat.lt_succ_self _)]
                       rw [if_neg (Nat.lt_irrefl _)] at a3
                       have eR : R9 = R := (nI_eq (by omega) (by omega)).mp (a2.symm.trans hR2)
                       show z 157 s.1 = _
                       rw [z157, a3, eR]
                       rw [show z 157 s.1 = nI (R - t) by rw [z157]; exact hR3] at h104
                       have : R - t = 0 := by
                         by_cases q9 : R - t = 0
                         · exact q9
                         · exact absurd h104 (nI_nle (by omega) (by omega))
                       rw [this, show R - (t + 1) = 0 by omega]
                     · show (xr z 154 q) 157 p = _
                       show z 157 p = _
                       rw [z157, a3]
                       by_cases q9 : p < s.1
                       · rw [if_pos q9, if_pos (show p < s.1 + 1 by omega)]
                       · rw [if_neg q9, if_neg (show ¬ p < s.1 + 1 by omega)])⟩ (show eN E - (s.1 + 1) < eN E - s.1 by omega)))
                | (exact PW.lc (by rfl) rfl (ih (s.1 + 1, (xu (xr z 154 q) 157 s.1 ((xr z 154 q) 157 s.1 - nI 1))) ⟨(show s.1 + 1 ≤ eN E by omega), ((hF.trans F1.mf).row (by omega)).put (by omega), (show RRow (oneP E (heaP E w k f) rd (mnP E (heaP E w k f) rd f s.1) s.1) ((xu (xr z 154 q) 157 s.1 ((xr z 154 q) 157 s.1 - nI 1)) 154) from hq), (fun p hp => (show (xu (xr z 154 q) 157 s.1 ((xr z 154 q) 157 s.1 - nI 1)) 156 p = (heaP E w k f) p from (by show z 156 p = _; rw [F1 156 (by decide) (by decide)]; exact hH p hp))), (fun p hp => by
                     obtain ⟨R9, a1, a2, a3⟩ := hD p hp
                     refine ⟨R9, a1, a2, ?_⟩
                     by_cases ep : p = s.1
                     · subst ep
                       rw [if_pos (Nat.lt_succ_self _)]
                       rw [if_neg (Nat.lt_irrefl _)] at a3
                       have eR : R9 = R := (nI_eq (by omega) (by omega)).mp (a2.symm.trans hR2)
                       show upd (z 157) s.1 (z 157 s.1 - nI 1) s.1 = _
                       rw [pk_us, z157, a3, eR]
                       rw [show z 157 s.1 = nI (R - t) by rw [z157]; exact hR3] at h104
                       have : ¬ R - t = 0 := fun q9 => h104 (by rw [q9]; exact Int32.le_refl _)
                       rw [pk_sub (by omega)]
                       congr 1
                     · show (xu (xr z 154 q) 157 s.1 ((xr z 154 q) 157 s.1 - nI 1)) 157 p = _
                       show upd (z 157) s.1 (z 157 s.1 - nI 1) p = _
                       rw [pk_un ep]
                       rw [z157, a3]
                       by_cases q9 : p < s.1
                       · rw [if_pos q9, if_pos (show p < s.1 + 1 by omega)]
                       · rw [if_neg q9, if_neg (show ¬ p < s.1 + 1 by omega)])⟩ (show eN E - (s.1 + 1) < eN E - s.1 by omega)))
        · refine r_aload_n dX10_minute_72 rfl (by rfl) ?_
          refine r_iload_n dX10_minute_73 rfl (by rfl) ?_
          refine r_iload_n dX10_minute_74 rfl (by rfl) ?_
          refine r_callV (n_lies (by omega)) mv_X10_lies ml_X10_362 ⟨by decide, by decide⟩ dX10_minute_75 (by first | assumption | rfl) rfl rfl rfl (Nat.le_of_ble_eq_true rfl) (fun v9 x9 h9 => ?_)
          obtain ⟨rfl, h9⟩ := h9
          refine PW.xeq h9 ?_
          clear h9 x9
          refine r_goto (tgt := 98) dX10_minute_78 (by decide) ?_
          refine PW.any (c := 154) (fun q => RRow (oneP E (heaP E w k f) rd (mnP E (heaP E w k f) rd f s.1) s.1) q) (by
            rw [z154]
            unfold oneP
            first
              | (rw [if_neg (by rw [h69]; decide)]
                 have d0 : (mnP E (heaP E w k f) rd f s.1) (10 + s.1) = nI 0 := by
                   obtain ⟨d, hd, ed⟩ := (hO.2 s.1 (by omega)).2.2.1
                   have : ¬ 0 < (mnP E (heaP E w k f) rd f s.1) (10 + s.1) := of_decide_eq_false h69
                   rw [ed] at this ⊢
                   congr 1
                   by_cases q : d = 0
                   · exact q
                   · exact absurd (nI_lt (show 0 < d by omega) (by omega)) this
                 have ec : chB E (mnP E (heaP E w k f) rd f s.1) s.1 (R - t) ((heaP E w k f) s.1) = if (mnP E (heaP E w k f) rd f s.1) 40 < rd s.1 then false else falP E (mnP E (heaP E w k f) rd f s.1) s.1 ((heaP E w k f) s.1) := by
                   unfold chB
                   rw [if_neg (by rw [h69]; decide), f40, hR2]
                   by_cases q : t < R
                   · rw [if_neg (by omega), if_pos (nI_lt q (by omega))]
                   · rw [if_pos (by omega), if_neg (nI_nlt (by omega) (by omega))]
                 rw [← ec]
                 exact li_RR hR hO (by omega) d0)
              | (rw [if_pos h69]
                 have ec : chB E (mnP E (heaP E w k f) rd f s.1) s.1 (R - t) ((heaP E w k f) s.1) = decide (eH E 1 s.1 + (mnP E (heaP E w k f) rd f s.1) (10 + s.1) < (heaP E w k f) s.1) := by
                   unfold chB
                   rw [if_pos h69]
                 rw [ec] at h82
                 first
                   | (have h82 := of_decide_eq_true h82
                      unfold slpR
                      rw [if_neg (Int32.not_le.mpr h82)]
                      exact wk_RR hR (by omega))
                   | (have h82 := of_decide_eq_false h82
                      exact so_RR hR hO (by omega) (of_decide_eq_true h69) (Int32.not_lt.mp h82)))) (fun q hq => ?_)
          refine r_aload_n dX10_minute_98 rfl (by rfl) ?_
          refine gf_X10_74 rfl dX10_minute_99 (by first | assumption | rfl) (by rfl) ?_
          refine r_iload_n dX10_minute_102 rfl (by rfl) ?_
          refine r_ialdN dX10_minute_103 (by first | assumption | rfl) (by omega) (by decide) ?_
          refine PW.topi (show _ = z 157 s.1 from rfl) ?_
          refine r_if_le (tgt := 117) dX10_minute_104 (by decide) (fun h104 => ?_) (fun h104 => ?_)
          · refine r_iincN dX10_minute_117 (by rfl) (by decide) ?_
            refine r_goto (tgt := 44) dX10_minute_120 (by decide) ?_
            first
              | (exact PW.lc (by rfl) rfl (ih (s.1 + 1, (xr z 154 q)) ⟨(show s.1 + 1 ≤ eN E by omega), (hF.trans F1.mf).row (by omega), (show RRow (oneP E (heaP E w k f) rd (mnP E (heaP E w k f) rd f s.1) s.1) ((xr z 154 q) 154) from hq), (fun p hp => (show (xr z 154 q) 156 p = (heaP E w k f) p from (by show z 156 p = _; rw [F1 156 (by decide) (by decide)]; exact hH p hp))), (fun p hp => by
                   obtain ⟨R9, a1, a2, a3⟩ := hD p hp
                   refine ⟨R9, a1, a2, ?_⟩
                   by_cases ep : p = s.1
                   · subst ep
                     rw [if_pos (Nat.lt_succ_self _)]
                     rw [if_neg (Nat.lt_irrefl _)] at a3
                     have eR : R9 = R := (nI_eq (by omega) (by omega)).mp (a2.symm.trans hR2)
                     show z 157 s.1 = _
                     rw [z157, a3, eR]
                     rw [show z 157 s.1 = nI (R - t) by rw [z157]; exact hR3] at h104
                     have : R - t = 0 := by
                       by_cases q9 : R - t = 0
                       · exact q9
                       · exact absurd h104 (nI_nle (by omega) (by omega))
                     rw [this, show R - (t + 1) = 0 by omega]
                   · show (xr z 154 q) 157 p = _
                     show z 157 p = _
                     rw [z157, a3]
                     by_cases q9 : p < s.1
                     · rw [if_pos q9, if_pos (show p < s.1 + 1 by omega)]
                     · rw [if_neg q9, if_neg (show ¬ p < s.1 + 1 by omega)])⟩ (show eN E - (s.1 + 1) < eN E - s.1 by omega)))
              | (exact PW.lc (by rfl) rfl (ih (s.1 + 1, (xu (xr z 154 q) 157 s.1 ((xr z 154 q) 157 s.1 - nI 1))) ⟨(show s.1 + 1 ≤ eN E by omega), ((hF.trans F1.mf).row (by omega)).put (by omega), (show RRow (oneP E (heaP E w k f) rd (mnP E (heaP E w k f) rd f s.1) s.1) ((xu (xr z 154 q) 157 s.1 ((xr z 154 q) 157 s.1 - nI 1)) 154) from hq), (fun p hp => (show (xu (xr z 154 q) 157 s.1 ((xr z 154 q) 157 s.1 - nI 1)) 156 p = (heaP E w k f) p from (by show z 156 p = _; rw [F1 156 (by decide) (by decide)]; exact hH p hp))), (fun p hp => by
                   obtain ⟨R9, a1, a2, a3⟩ := hD p hp
                   refine ⟨R9, a1, a2, ?_⟩
                   by_cases ep : p = s.1
                   · subst ep
                     rw [if_pos (Nat.lt_succ_self _)]
                     rw [if_neg (Nat.lt_irrefl _)] at a3
                     have eR : R9 = R := (nI_eq (by omega) (by omega)).mp (a2.symm.trans hR2)
                     show upd (z 157) s.1 (z 157 s.1 - nI 1) s.1 = _
                     rw [pk_us, z157, a3, eR]
                     rw [show z 157 s.1 = nI (R - t) by rw [z157]; exact hR3] at h104
                     have : ¬ R - t = 0 := fun q9 => h104 (by rw [q9]; exact Int32.le_refl _)
                     rw [pk_sub (by omega)]
                     congr 1
                   · show (xu (xr z 154 q) 157 s.1 ((xr z 154 q) 157 s.1 - nI 1)) 157 p = _
                     show upd (z 157) s.1 (z 157 s.1 - nI 1) p = _
                     rw [pk_un ep]
                     rw [z157, a3]
                     by_cases q9 : p < s.1
                     · rw [if_pos q9, if_pos (show p < s.1 + 1 by omega)]
                     · rw [if_neg q9, if_neg (show ¬ p < s.1 + 1 by omega)])⟩ (show eN E - (s.1 + 1) < eN E - s.1 by omega)))
          · refine r_aload_n dX10_minute_107 rfl (by rfl) ?_
            refine gf_X10_74 rfl dX10_minute_108 (by first | assumption | rfl) (by rfl) ?_
            refine r_iload_n dX10_minute_111 rfl (by rfl) ?_
            refine r_dup2 dX10_minute_112 rfl rfl ?_
            refine r_ialdN dX10_minute_113 (by first | assumption | rfl) (by omega) (by decide) ?_
            refine r_iconst (v := nI 1) dX10_minute_114 (by decide) ?_
            refine r_isub dX10_minute_115 ?_
            refine r_iastN dX10_minute_116 (by first | assumption | rfl) (by omega) (by decide) ?_
            refine r_iincN dX10_minute_117 (by rfl) (by decide) ?_
            refine r_goto (tgt := 44) dX10_minute_120 (by decide) ?_
            first
              | (exact PW.lc (by rfl) rfl (ih (s.1 + 1, (xr z 154 q)) ⟨(show s.1 + 1 ≤ eN E by omega), (hF.trans F1.mf).row (by omega), (show RRow (oneP E (heaP E w k f) rd (mnP E (heaP E w k f) rd f s.1) s.1) ((xr z 154 q) 154) from hq), (fun p hp => (show (xr z 154 q) 156 p = (heaP E w k f) p from (by show z 156 p = _; rw [F1 156 (by decide) (by decide)]; exact hH p hp))), (fun p hp => by
                   obtain ⟨R9, a1, a2, a3⟩ := hD p hp
                   refine ⟨R9, a1, a2, ?_⟩
                   by_cases ep : p = s.1
                   · subst ep
                     rw [if_pos (Nat.lt_succ_self _)]
                     rw [if_neg (Nat.lt_irrefl _)] at a3
                     have eR : R9 = R := (nI_eq (by omega) (by omega)).mp (a2.symm.trans hR2)
                     show z 157 s.1 = _
                     rw [z157, a3, eR]
                     rw [show z 157 s.1 = nI (R - t) by rw [z157]; exact hR3] at h104
                     have : R - t = 0 := by
                       by_cases q9 : R - t = 0
                       · exact q9
                       · exact absurd h104 (nI_nle (by omega) (by omega))
                     rw [this, show R - (t + 1) = 0 by omega]
                   · show (xr z 154 q) 157 p = _
                     show z 157 p = _
                     rw [z157, a3]
                     by_cases q9 : p < s.1
                     · rw [if_pos q9, if_pos (show p < s.1 + 1 by omega)]
                     · rw [if_neg q9, if_neg (show ¬ p < s.1 + 1 by omega)])⟩ (show eN E - (s.1 + 1) < eN E - s.1 by omega)))
              | (exact PW.lc (by rfl) rfl (ih (s.1 + 1, (xu (xr z 154 q) 157 s.1 ((xr z 154 q) 157 s.1 - nI 1))) ⟨(show s.1 + 1 ≤ eN E by omega), ((hF.trans F1.mf).row (by omega)).put (by omega), (show RRow (oneP E (heaP E w k f) rd (mnP E (heaP E w k f) rd f s.1) s.1) ((xu (xr z 154 q) 157 s.1 ((xr z 154 q) 157 s.1 - nI 1)) 154) from hq), (fun p hp => (show (xu (xr z 154 q) 157 s.1 ((xr z 154 q) 157 s.1 - nI 1)) 156 p = (heaP E w k f) p from (by show z 156 p = _; rw [F1 156 (by decide) (by decide)]; exact hH p hp))), (fun p hp => by
                   obtain ⟨R9, a1, a2, a3⟩ := hD p hp
                   refine ⟨R9, a1, a2, ?_⟩
                   by_cases ep : p = s.1
                   · subst ep
                     rw [if_pos (Nat.lt_succ_self _)]
                     rw [if_neg (Nat.lt_irrefl _)] at a3
                     have eR : R9 = R := (nI_eq (by omega) (by omega)).mp (a2.symm.trans hR2)
                     show upd (z 157) s.1 (z 157 s.1 - nI 1) s.1 = _
                     rw [pk_us, z157, a3, eR]
                     rw [show z 157 s.1 = nI (R - t) by rw [z157]; exact hR3] at h104
                     have : ¬ R - t = 0 := fun q9 => h104 (by rw [q9]; exact Int32.le_refl _)
                     rw [pk_sub (by omega)]
                     congr 1
                   · show (xu (xr z 154 q) 157 s.1 ((xr z 154 q) 157 s.1 - nI 1)) 157 p = _
                     show upd (z 157) s.1 (z 157 s.1 - nI 1) p = _
                     rw [pk_un ep]
                     rw [z157, a3]
                     by_cases q9 : p < s.1
                     · rw [if_pos q9, if_pos (show p < s.1 + 1 by omega)]
                     · rw [if_neg q9, if_neg (show ¬ p < s.1 + 1 by omega)])⟩ (show eN E - (s.1 + 1) < eN E - s.1 by omega)))
    · refine r_aload_n dX10_minute_25 rfl (by rfl) ?_
      refine gf_X10_71 rfl dX10_minute_26 (by first | assumption | rfl) (by rfl) ?_
      refine r_iload_n dX10_minute_29 rfl (by rfl) ?_
      refine r_aload_n dX10_minute_30 rfl (by rfl) ?_
      refine r_iload_n dX10_minute_31 rfl (by rfl) ?_
      refine r_callV (n_noiseOf (S1) hw (by omega) ht ht2) mv_X10_noiseOf ml_X10_355 ⟨by decide, by decide⟩ dX10_minute_32 (by first | assumption | rfl) rfl rfl rfl (Nat.le_of_ble_eq_true rfl) (fun v9 y h9 => ?_)
      obtain ⟨rfl, F1⟩ := h9
      refine r_iastN dX10_minute_35 (by first | assumption | rfl) (by omega) (by decide) ?_
      refine r_iincN dX10_minute_36 (by rfl) (by decide) ?_
      refine r_goto (tgt := 17) dX10_minute_39 (by decide) ?_
      exact PW.lc (by rfl) rfl (oh (o.1 + 1, xu y 156 o.1 ((heaP E w k f) o.1)) ⟨(show o.1 + 1 ≤ eN E by omega), (fun c a1 a2 a3 => (xu_n a3).trans ((F1 c a1 a2).trans (hfr c a1 a2 a3))), (fun p hp => by
        show upd (y 156) o.1 ((heaP E w k f) o.1) p = _
        by_cases e : p = o.1
        · rw [e, pk_us]
        · have hp : p < o.1 + 1 := hp
          rw [pk_un e, F1 156 (by decide) (by decide)]
          exact hh p (by omega))⟩ (show eN E - (o.1 + 1) < eN E - o.1 by omega))
  · refine r_iconst (v := nI 0) dX10_minute_13 (by decide) ?_
    refine r_zret rfl (by first | exact bI_01 _ | exact Or.inl rfl | exact Or.inr rfl) dX10_minute_14 ?_
    have e : t = 240 := by omega
    refine ⟨by rw [decide_eq_false (by omega)]; rfl, ?_, MF.rfl⟩
    rw [if_neg (by omega)]
    unfold minP
    rw [if_neg (by rw [ht, e]; exact nI_nlt (by omega) (by omega))]
    exact hT
