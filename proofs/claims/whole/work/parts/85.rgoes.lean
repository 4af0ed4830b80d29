/-! THE REFERENCE: steps are gone -/
theorem nI0_ne {k : Nat} (hk : k < 2 ^ 31) (h : ¬ nI k = 0) : k ≠ 0 := fun e => h (by rw [e]; rfl)
theorem pfB_5 {f : Nat → Int32} {p q t : Nat} : pfB f 5 p q t = decide (t < 240) := rfl
theorem pfB_0 {f : Nat → Int32} {p q t : Nat} : pfB f 0 p q t = nudgeB f p q := rfl
theorem pfB_4 {f : Nat → Int32} {p q t : Nat} : pfB f 4 p q t = asl f p := rfl
theorem pfB_x {f : Nat → Int32} {k p q t : Nat} (h0 : k ≠ 0) (h5 : k ≠ 5) (h4 : k ≠ 4) : pfB f k p q t = if asl f p then false else pawB f k p (nI q) := by
  unfold pfB
  rw [if_neg h0, if_neg h5, if_neg h4]
theorem pfR_x {E : NE} {f : Nat → Int32} {k p q : Nat} (h0 : k ≠ 0) (h5 : k ≠ 5) (h4 : k ≠ 4) : pfR E f k p q = if asl f p then f else pawR f k p (nI q) := by
  unfold pfR
  rw [if_neg h0, if_neg h5, if_neg h4]
theorem RT.keep {x : XS} {E : NE} {w k : Int32} {f rd : Nat → Int32} {t : Nat} (h : RT x E w k f t rd) : ∃ t2, RT x E w k f t2 rd := ⟨t, h⟩
theorem RT.paw {x : XS} {E : NE} {f g : Nat → Int32} {t k p q : Nat} (h : RT x E (eW E) (nI 0) f t rd0) (hp : p < 5) (h0 : k ≠ 0) (h5 : k ≠ 5) (h4 : k ≠ 4) (ha : asl f p = false) (hg : g = pwG (x 154) k p (nI q)) : ∃ t2, RT (xr x 154 g) E (eW E) (nI 0) (pfR E f k p q) t2 rd0 := by
  subst hg
  refine ⟨t, ?_⟩
  rw [pfR_x h0 h5 h4, if_neg (by rw [ha]; decide)]
  exact h.row (pw_RR h.1.2.2.2.1 hp ha) (pw_RO h.1.2.2.2.2 hp) ((pawR_40 hp).trans h.2.1)
set_option maxHeartbeats 8000000 in
set_option maxRecDepth 20000 in
theorem n_goes {E : NE} {f : Nat → Int32} {k p q t : Nat} {x : XS} (hT : RT x E (eW E) (nI 0) f t rd0) (hk : k < 6) (hp : p < 5) (hq : k = 0 → q < 5) : MM mX10_goes 7 0 0 [.ref 137, .int (nI k), .int (nI p), .int (nI q)] x (fun v z => v = some (.int (bI (pfB f k p q t))) ∧ (∃ t2, RT z E (eW E) (nI 0) (pfR E f k p q) t2 rd0) ∧ MF x z) NoT := by
  refine MM.of (by decide) (Nat.le_of_ble_eq_true rfl) ?_
  have y137 := lay_137
  have y154 := lay_154
  have hr := hT.1.2.2.2.1
  have hn := hT.1.1.2.1
  have e8 := hr.1 p hp
  refine r_iload_n dX10_goes_0 rfl (by rfl) ?_
  refine r_iconst (v := nI 5) dX10_goes_1 (by decide) ?_
  refine r_icmp_neN (tgt := 10) dX10_goes_2 (by decide) (by omega) (by omega) (fun h2 => ?_) (fun h2 => ?_)
  · refine r_iload_n dX10_goes_10 rfl (by rfl) ?_
    refine r_if_ne (tgt := 21) dX10_goes_11 (by decide) (fun h11 => ?_) (fun h11 => ?_)
    · have h11 : k ≠ 0 := nI0_ne (by omega) h11
      refine r_iload_n dX10_goes_21 rfl (by rfl) ?_
      refine r_iconst (v := nI 4) dX10_goes_22 (by decide) ?_
      refine r_icmp_neN (tgt := 43) dX10_goes_23 (by decide) (by omega) (by omega) (fun h23 => ?_) (fun h23 => ?_)
      · refine r_aload_n dX10_goes_43 rfl (by rfl) ?_
        refine r_iload_n dX10_goes_44 rfl (by rfl) ?_
        refine r_callV (n_isAsleep hr hp) mv_X10_isAsleep ml_X10_343 ⟨by decide, by decide⟩ dX10_goes_45 (by first | assumption | rfl) rfl rfl rfl (Nat.le_of_ble_eq_true rfl) (fun v9 x9 h9 => ?_)
        obtain ⟨rfl, h9⟩ := h9
        refine PW.xeq h9 ?_
        clear h9 x9
        refine r_if_neB (tgt := 69) dX10_goes_48 (by decide) (fun h48 => ?_) (fun h48 => ?_)
        · refine r_iconst (v := nI 0) dX10_goes_69 (by decide) ?_
          refine r_zret rfl (by first | exact bI_01 _ | exact Or.inl rfl | exact Or.inr rfl) dX10_goes_70 ?_
          first
            | (refine ⟨by rw [pfB_x h11 h2 h23, if_pos h48]; rfl, ⟨t, ?_⟩, MF.rfl⟩
               rw [pfR_x h11 h2 h23, if_pos h48]
               exact hT)
            | (subst h53
               have h66 : f (35 + p) = nI q := e8.2.2.1.symm.trans h66
               refine ⟨by rw [pfB_x h11 h2 h23, if_neg (by rw [h48]; decide)]; unfold pawB; rw [if_pos rfl, decide_eq_true h66]; rfl, ⟨t, ?_⟩, MF.rfl⟩
               rw [pfR_x h11 h2 h23, if_neg (by rw [h48]; decide)]
               unfold pawR
               rw [if_neg (by decide), if_neg (by decide), if_pos h66]
               exact hT)
        · refine r_iload_n dX10_goes_51 rfl (by rfl) ?_
          refine r_iconst (v := nI 3) dX10_goes_52 (by decide) ?_
          refine r_icmp_neN (tgt := 71) dX10_goes_53 (by decide) (by omega) (by omega) (fun h53 => ?_) (fun h53 => ?_)
          · refine r_iload_n dX10_goes_71 rfl (by rfl) ?_
            refine r_iconst (v := nI 1) dX10_goes_72 (by decide) ?_
            refine r_icmp_neN (tgt := 99) dX10_goes_73 (by decide) (by omega) (by omega) (fun h73 => ?_) (fun h73 => ?_)
            · refine r_iload_n dX10_goes_99 rfl (by rfl) ?_
              refine r_iconst (v := nI 2) dX10_goes_100 (by decide) ?_
              refine r_icmp_neN (tgt := 125) dX10_goes_101 (by decide) (by omega) (by omega) (fun h101 => ?_) (fun h101 => ?_)
              · refine r_aload_n dX10_goes_125 rfl (by rfl) ?_
                refine gf_X10_65 rfl dX10_goes_126 (by first | assumption | rfl) (by rfl) ?_
                refine r_bipush (v := nI 10) dX10_goes_129 (by decide) ?_
                refine r_iload_n dX10_goes_131 rfl (by rfl) ?_
                refine r_iaddN dX10_goes_132 ?_
                refine r_iload_n dX10_goes_133 rfl (by rfl) ?_
                refine r_iastN dX10_goes_134 (by first | assumption | rfl) (by omega) (by decide) ?_
                refine r_iconst (v := nI 1) dX10_goes_135 (by decide) ?_
                refine r_zret rfl (by first | exact bI_01 _ | exact Or.inl rfl | exact Or.inr rfl) dX10_goes_136 ?_
                first
                  | (subst h73
                     refine ⟨by rw [pfB_x h11 h2 h23, if_neg (by rw [h48]; decide)]; rfl, hT.paw hp h11 h2 h23 h48 rfl, MF.rfl.put (by omega)⟩)
                  | (subst h101
                     refine ⟨by rw [pfB_x h11 h2 h23, if_neg (by rw [h48]; decide)]; rfl, hT.paw hp h11 h2 h23 h48 rfl, MF.rfl.put (by omega)⟩)
                  | (have h3 : k = 3 := by omega
                     subst h3
                     have h66 : ¬ x 154 (10 + p) = nI q := by
                       first
                         | exact h66
                         | exact absurd rfl h53
                     have h67 : ¬ f (35 + p) = nI q := fun w => h66 (e8.2.2.1.trans w)
                     refine ⟨by rw [pfB_x h11 h2 h23, if_neg (by rw [h48]; decide)]; unfold pawB; rw [if_pos rfl, decide_eq_false h67]; rfl, hT.paw hp h11 h2 h23 h48 ?_, MF.rfl.put (by omega)⟩
                     unfold pwG
                     rw [if_neg (by decide), if_neg (by decide), if_neg h66])
              · refine r_aload_n dX10_goes_104 rfl (by rfl) ?_
                refine gf_X10_65 rfl dX10_goes_105 (by first | assumption | rfl) (by rfl) ?_
                refine r_iconst (v := nI 5) dX10_goes_108 (by decide) ?_
                refine r_iload_n dX10_goes_109 rfl (by rfl) ?_
                refine r_iaddN dX10_goes_110 ?_
                refine r_iconst (v := nI 1) dX10_goes_111 (by decide) ?_
                refine r_aload_n dX10_goes_112 rfl (by rfl) ?_
                refine gf_X10_65 rfl dX10_goes_113 (by first | assumption | rfl) (by rfl) ?_
                refine r_iconst (v := nI 5) dX10_goes_116 (by decide) ?_
                refine r_iload_n dX10_goes_117 rfl (by rfl) ?_
                refine r_iaddN dX10_goes_118 ?_
                refine r_ialdN dX10_goes_119 (by first | assumption | rfl) (by omega) (by decide) ?_
                refine r_isub dX10_goes_120 ?_
                refine r_iastN dX10_goes_121 (by first | assumption | rfl) (by omega) (by decide) ?_
                refine r_goto (tgt := 135) dX10_goes_122 (by decide) ?_
                refine r_iconst (v := nI 1) dX10_goes_135 (by decide) ?_
                refine r_zret rfl (by first | exact bI_01 _ | exact Or.inl rfl | exact Or.inr rfl) dX10_goes_136 ?_
                first
                  | (subst h73
                     refine ⟨by rw [pfB_x h11 h2 h23, if_neg (by rw [h48]; decide)]; rfl, hT.paw hp h11 h2 h23 h48 rfl, MF.rfl.put (by omega)⟩)
                  | (subst h101
                     refine ⟨by rw [pfB_x h11 h2 h23, if_neg (by rw [h48]; decide)]; rfl, hT.paw hp h11 h2 h23 h48 rfl, MF.rfl.put (by omega)⟩)
                  | (have h3 : k = 3 := by omega
                     subst h3
                     have h66 : ¬ x 154 (10 + p) = nI q := by
                       first
                         | exact h66
                         | exact absurd rfl h53
                     have h67 : ¬ f (35 + p) = nI q := fun w => h66 (e8.2.2.1.trans w)
                     refine ⟨by rw [pfB_x h11 h2 h23, if_neg (by rw [h48]; decide)]; unfold pawB; rw [if_pos rfl, decide_eq_false h67]; rfl, hT.paw hp h11 h2 h23 h48 ?_, MF.rfl.put (by omega)⟩
                     unfold pwG
                     rw [if_neg (by decide), if_neg (by decide), if_neg h66])
            · refine r_aload_n dX10_goes_76 rfl (by rfl) ?_
              refine gf_X10_65 rfl dX10_goes_77 (by first | assumption | rfl) (by rfl) ?_
              refine r_bipush (v := nI 20) dX10_goes_80 (by decide) ?_
              refine r_iload_n dX10_goes_82 rfl (by rfl) ?_
              refine r_iaddN dX10_goes_83 ?_
              refine r_iconst (v := nI 1) dX10_goes_84 (by decide) ?_
              refine r_aload_n dX10_goes_85 rfl (by rfl) ?_
              refine gf_X10_65 rfl dX10_goes_86 (by first | assumption | rfl) (by rfl) ?_
              refine r_bipush (v := nI 20) dX10_goes_89 (by decide) ?_
              refine r_iload_n dX10_goes_91 rfl (by rfl) ?_
              refine r_iaddN dX10_goes_92 ?_
              refine r_ialdN dX10_goes_93 (by first | assumption | rfl) (by omega) (by decide) ?_
              refine r_isub dX10_goes_94 ?_
              refine r_iastN dX10_goes_95 (by first | assumption | rfl) (by omega) (by decide) ?_
              refine r_goto (tgt := 135) dX10_goes_96 (by decide) ?_
              refine r_iconst (v := nI 1) dX10_goes_135 (by decide) ?_
              refine r_zret rfl (by first | exact bI_01 _ | exact Or.inl rfl | exact Or.inr rfl) dX10_goes_136 ?_
              first
                | (subst h73
                   refine ⟨by rw [pfB_x h11 h2 h23, if_neg (by rw [h48]; decide)]; rfl, hT.paw hp h11 h2 h23 h48 rfl, MF.rfl.put (by omega)⟩)
                | (subst h101
                   refine ⟨by rw [pfB_x h11 h2 h23, if_neg (by rw [h48]; decide)]; rfl, hT.paw hp h11 h2 h23 h48 rfl, MF.rfl.put (by omega)⟩)
                | (have h3 : k = 3 := by omega
                   subst h3
                   have h66 : ¬ x 154 (10 + p) = nI q := by
                     first
                       | exact h66
                       | exact absurd rfl h53
                   have h67 : ¬ f (35 + p) = nI q := fun w => h66 (e8.2.2.1.trans w)
                   refine ⟨by rw [pfB_x h11 h2 h23, if_neg (by rw [h48]; decide)]; unfold pawB; rw [if_pos rfl, decide_eq_false h67]; rfl, hT.paw hp h11 h2 h23 h48 ?_, MF.rfl.put (by omega)⟩
                   unfold pwG
                   rw [if_neg (by decide), if_neg (by decide), if_neg h66])
          · refine r_aload_n dX10_goes_56 rfl (by rfl) ?_
            refine gf_X10_65 rfl dX10_goes_57 (by first | assumption | rfl) (by rfl) ?_
            refine r_bipush (v := nI 10) dX10_goes_60 (by decide) ?_
            refine r_iload_n dX10_goes_62 rfl (by rfl) ?_
            refine r_iaddN dX10_goes_63 ?_
            refine r_ialdN dX10_goes_64 (by first | assumption | rfl) (by omega) (by decide) ?_
            refine r_iload_n dX10_goes_65 rfl (by rfl) ?_
            refine r_icmp_ne (tgt := 71) dX10_goes_66 (by decide) (fun h66 => ?_) (fun h66 => ?_)
            · refine r_iload_n dX10_goes_71 rfl (by rfl) ?_
              refine r_iconst (v := nI 1) dX10_goes_72 (by decide) ?_
              refine r_icmp_neN (tgt := 99) dX10_goes_73 (by decide) (by omega) (by omega) (fun h73 => ?_) (fun h73 => ?_)
              · refine r_iload_n dX10_goes_99 rfl (by rfl) ?_
                refine r_iconst (v := nI 2) dX10_goes_100 (by decide) ?_
                refine r_icmp_neN (tgt := 125) dX10_goes_101 (by decide) (by omega) (by omega) (fun h101 => ?_) (fun h101 => ?_)
                · refine r_aload_n dX10_goes_125 rfl (by rfl) ?_
                  refine gf_X10_65 rfl dX10_goes_126 (by first | assumption | rfl) (by rfl) ?_
                  refine r_bipush (v := nI 10) dX10_goes_129 (by decide) ?_
                  refine r_iload_n dX10_goes_131 rfl (by rfl) ?_
                  refine r_iaddN dX10_goes_132 ?_
                  refine r_iload_n dX10_goes_133 rfl (by rfl) ?_
                  refine r_iastN dX10_goes_134 (by first | assumption | rfl) (by omega) (by decide) ?_
                  refine r_iconst (v := nI 1) dX10_goes_135 (by decide) ?_
                  refine r_zret rfl (by first | exact bI_01 _ | exact Or.inl rfl | exact Or.inr rfl) dX10_goes_136 ?_
                  first
                    | (subst h73
                       refine ⟨by rw [pfB_x h11 h2 h23, if_neg (by rw [h48]; decide)]; rfl, hT.paw hp h11 h2 h23 h48 rfl, MF.rfl.put (by omega)⟩)
                    | (subst h101
                       refine ⟨by rw [pfB_x h11 h2 h23, if_neg (by rw [h48]; decide)]; rfl, hT.paw hp h11 h2 h23 h48 rfl, MF.rfl.put (by omega)⟩)
                    | (have h3 : k = 3 := by omega
                       subst h3
                       have h66 : ¬ x 154 (10 + p) = nI q := by
                         first
                           | exact h66
                           | exact absurd rfl h53
                       have h67 : ¬ f (35 + p) = nI q := fun w => h66 (e8.2.2.1.trans w)
                       refine ⟨by rw [pfB_x h11 h2 h23, if_neg (by rw [h48]; decide)]; unfold pawB; rw [if_pos rfl, decide_eq_false h67]; rfl, hT.paw hp h11 h2 h23 h48 ?_, MF.rfl.put (by omega)⟩
                       unfold pwG
                       rw [if_neg (by decide), if_neg (by decide), if_neg h66])
                · refine r_aload_n dX10_goes_104 rfl (by rfl) ?_
                  refine gf_X10_65 rfl dX10_goes_105 (by first | assumption | rfl) (by rfl) ?_
                  refine r_iconst (v := nI 5) dX10_goes_108 (by decide) ?_
                  refine r_iload_n dX10_goes_109 rfl (by rfl) ?_
                  refine r_iaddN dX10_goes_110 ?_
                  refine r_iconst (v := nI 1) dX10_goes_111 (by decide) ?_
                  refine r_aload_n dX10_goes_112 rfl (by rfl) ?_
                  refine gf_X10_65 rfl dX10_goes_113 (by first | assumption | rfl) (by rfl) ?_
                  refine r_iconst (v := nI 5) dX10_goes_116 (by decide) ?_
                  refine r_iload_n dX10_goes_117 rfl (by rfl) ?_
                  refine r_iaddN dX10_goes_118 ?_
                  refine r_ialdN dX10_goes_119 (by first | assumption | rfl) (by omega) (by decide) ?_
                  refine r_isub dX10_goes_120 ?_
                  refine r_iastN dX10_goes_121 (by first | assumption | rfl) (by omega) (by decide) ?_
                  refine r_goto (tgt := 135) dX10_goes_122 (by decide) ?_
                  refine r_iconst (v := nI 1) dX10_goes_135 (by decide) ?_
                  refine r_zret rfl (by first | exact bI_01 _ | exact Or.inl rfl | exact Or.inr rfl) dX10_goes_136 ?_
                  first
                    | (subst h73
                       refine ⟨by rw [pfB_x h11 h2 h23, if_neg (by rw [h48]; decide)]; rfl, hT.paw hp h11 h2 h23 h48 rfl, MF.rfl.put (by omega)⟩)
                    | (subst h101
                       refine ⟨by rw [pfB_x h11 h2 h23, if_neg (by rw [h48]; decide)]; rfl, hT.paw hp h11 h2 h23 h48 rfl, MF.rfl.put (by omega)⟩)
                    | (have h3 : k = 3 := by omega
                       subst h3
                       have h66 : ¬ x 154 (10 + p) = nI q := by
                         first
                           | exact h66
                           | exact absurd rfl h53
                       have h67 : ¬ f (35 + p) = nI q := fun w => h66 (e8.2.2.1.trans w)
                       refine ⟨by rw [pfB_x h11 h2 h23, if_neg (by rw [h48]; decide)]; unfold pawB; rw [if_pos rfl, decide_eq_false h67]; rfl, hT.paw hp h11 h2 h23 h48 ?_, MF.rfl.put (by omega)⟩
                       unfold pwG
                       rw [if_neg (by decide), if_neg (by decide), if_neg h66])
              · refine r_aload_n dX10_goes_76 rfl (by rfl) ?_
                refine gf_X10_65 rfl dX10_goes_77 (by first | assumption | rfl) (by rfl) ?_
                refine r_bipush (v := nI 20) dX10_goes_80 (by decide) ?_
                refine r_iload_n dX10_goes_82 rfl (by rfl) ?_
                refine r_iaddN dX10_goes_83 ?_
                refine r_iconst (v := nI 1) dX10_goes_84 (by decide) ?_
                refine r_aload_n dX10_goes_85 rfl (by rfl) ?_
                refine gf_X10_65 rfl dX10_goes_86 (by first | assumption | rfl) (by rfl) ?_
                refine r_bipush (v := nI 20) dX10_goes_89 (by decide) ?_
                refine r_iload_n dX10_goes_91 rfl (by rfl) ?_
                refine r_iaddN dX10_goes_92 ?_
                refine r_ialdN dX10_goes_93 (by first | assumption | rfl) (by omega) (by decide) ?_
                refine r_isub dX10_goes_94 ?_
                refine r_iastN dX10_goes_95 (by first | assumption | rfl) (by omega) (by decide) ?_
                refine r_goto (tgt := 135) dX10_goes_96 (by decide) ?_
                refine r_iconst (v := nI 1) dX10_goes_135 (by decide) ?_
                refine r_zret rfl (by first | exact bI_01 _ | exact Or.inl rfl | exact Or.inr rfl) dX10_goes_136 ?_
                first
                  | (subst h73
                     refine ⟨by rw [pfB_x h11 h2 h23, if_neg (by rw [h48]; decide)]; rfl, hT.paw hp h11 h2 h23 h48 rfl, MF.rfl.put (by omega)⟩)
                  | (subst h101
                     refine ⟨by rw [pfB_x h11 h2 h23, if_neg (by rw [h48]; decide)]; rfl, hT.paw hp h11 h2 h23 h48 rfl, MF.rfl.put (by omega)⟩)
                  | (have h3 : k = 3 := by omega
                     subst h3
                     have h66 : ¬ x 154 (10 + p) = nI q := by
                       first
                         | exact h66
                         | exact absurd rfl h53
                     have h67 : ¬ f (35 + p) = nI q := fun w => h66 (e8.2.2.1.trans w)
                     refine ⟨by rw [pfB_x h11 h2 h23, if_neg (by rw [h48]; decide)]; unfold pawB; rw [if_pos rfl, decide_eq_false h67]; rfl, hT.paw hp h11 h2 h23 h48 ?_, MF.rfl.put (by omega)⟩
                     unfold pwG
                     rw [if_neg (by decide), if_neg (by decide), if_neg h66])
            · refine r_iconst (v := nI 0) dX10_goes_69 (by decide) ?_
              refine r_zret rfl (by first | exact bI_01 _ | exact Or.inl rfl | exact Or.inr rfl) dX10_goes_70 ?_
              first
                | (refine ⟨by rw [pfB_x h11 h2 h23, if_pos h48]; rfl, ⟨t, ?_⟩, MF.rfl⟩
                   rw [pfR_x h11 h2 h23, if_pos h48]
                   exact hT)
                | (subst h53
                   have h66 : f (35 + p) = nI q := e8.2.2.1.symm.trans h66
                   refine ⟨by rw [pfB_x h11 h2 h23, if_neg (by rw [h48]; decide)]; unfold pawB; rw [if_pos rfl, decide_eq_true h66]; rfl, ⟨t, ?_⟩, MF.rfl⟩
                   rw [pfR_x h11 h2 h23, if_neg (by rw [h48]; decide)]
                   unfold pawR
                   rw [if_neg (by decide), if_neg (by decide), if_pos h66]
                   exact hT)
      · refine r_aload_n dX10_goes_26 rfl (by rfl) ?_
        refine r_iload_n dX10_goes_27 rfl (by rfl) ?_
        refine r_callV (n_isAsleep hr hp) mv_X10_isAsleep ml_X10_343 ⟨by decide, by decide⟩ dX10_goes_28 (by first | assumption | rfl) rfl rfl rfl (Nat.le_of_ble_eq_true rfl) (fun v9 x9 h9 => ?_)
        obtain ⟨rfl, h9⟩ := h9
        refine PW.xeq h9 ?_
        clear h9 x9
        refine r_if_neB (tgt := 36) dX10_goes_31 (by decide) (fun h31 => ?_) (fun h31 => ?_)
        · refine r_aload_n dX10_goes_36 rfl (by rfl) ?_
          refine r_iload_n dX10_goes_37 rfl (by rfl) ?_
          refine r_callV (n_wakes hp) mv_X10_wakes ml_X10_366 ⟨by decide, by decide⟩ dX10_goes_38 (by first | assumption | rfl) rfl rfl rfl (Nat.le_of_ble_eq_true rfl) (fun v9 x9 h9 => ?_)
          obtain ⟨rfl, h9⟩ := h9
          refine PW.xeq h9 ?_
          clear h9 x9
          refine r_iconst (v := nI 1) dX10_goes_41 (by decide) ?_
          refine r_zret rfl (by first | exact bI_01 _ | exact Or.inl rfl | exact Or.inr rfl) dX10_goes_42 ?_
          subst h23
          refine ⟨by rw [pfB_4, h31]; rfl, ⟨t, ?_⟩, MF.rfl.row (by omega)⟩
          show RT _ E (eW E) (nI 0) (callR f p) t rd0
          have e40 := callR_40 (f := f) hp
          unfold callR at e40 ⊢
          rw [if_pos h31] at e40 ⊢
          exact hT.row (wk_RR hr hp) (wk_RO hT.1.2.2.2.2 hp) (e40.trans hT.2.1)
        · refine r_iconst (v := nI 0) dX10_goes_34 (by decide) ?_
          refine r_zret rfl (by first | exact bI_01 _ | exact Or.inl rfl | exact Or.inr rfl) dX10_goes_35 ?_
          subst h23
          refine ⟨by rw [pfB_4, h31]; rfl, ⟨t, ?_⟩, MF.rfl⟩
          show RT x E (eW E) (nI 0) (callR f p) t rd0
          unfold callR
          rw [if_neg (by rw [h31]; decide)]
          exact hT
    · have h11 : k = 0 := by
        by_cases e : k = 0
        · exact e
        · exact absurd h11 (nI_ne0 (by omega) (by omega))
      refine r_aload_n dX10_goes_14 rfl (by rfl) ?_
      refine r_iload_n dX10_goes_15 rfl (by rfl) ?_
      refine r_iload_n dX10_goes_16 rfl (by rfl) ?_
      refine r_callV (n_nudgesNow hr hp (hq h11)) mv_X10_nudgesNow ml_X10_374 ⟨by decide, by decide⟩ dX10_goes_17 (by first | assumption | rfl) rfl rfl rfl (Nat.le_of_ble_eq_true rfl) (fun v9 x9 h9 => ?_)
      obtain ⟨rfl, h9⟩ := h9
      refine PW.xeq h9 ?_
      clear h9 x9
      refine r_zret rfl (by first | exact bI_01 _ | exact Or.inl rfl | exact Or.inr rfl) dX10_goes_20 ?_
      subst h11
      refine ⟨rfl, ⟨t, hT.row (ng_RR hr hp (hq rfl)) (ng_RO hT.1.2.2.2.2 (hq rfl)) ((nudgeR_4z (hq rfl)).trans hT.2.1)⟩, MF.rfl.row (by omega)⟩
  · refine r_aload_n dX10_goes_5 rfl (by rfl) ?_
    refine r_callV (n_minute hT) mv_X10_minute ml_X10_372 ⟨by decide, by decide⟩ dX10_goes_6 (by first | assumption | rfl) rfl rfl rfl (Nat.le_of_ble_eq_true rfl) (fun v9 z h9 => ?_)
    obtain ⟨rfl, T1, F1⟩ := h9
    refine r_zret rfl (by first | exact bI_01 _ | exact Or.inl rfl | exact Or.inr rfl) dX10_goes_9 ?_
    subst h2
    exact ⟨rfl, ⟨_, T1⟩, F1⟩
/-- the reference while steps are gone, beside the spec -/
def GF (x y : XS) : Prop := (∀ c, c ≠ 137 → c ≠ 149 → c ≠ 150 → c ≠ 154 → c ≠ 156 → c ≠ 157 → y c = x c) ∧ ∀ k, ¬ (34 ≤ k ∧ k ≤ 36) → y 137 k = x 137 k
theorem GF.rfl {x : XS} : GF x x := ⟨fun _ _ _ _ _ _ _ => _root_.rfl, fun _ _ => _root_.rfl⟩
theorem GF.mf {x y z : XS} (h : GF x y) (m : MF y z) : GF x z := ⟨fun c a1 a2 a3 a4 a5 a6 => (m c a2 a3 a4 a5 a6).trans (h.1 c a1 a2 a3 a4 a5 a6), fun k a => by rw [m 137 (by decide) (by decide) (by decide) (by decide) (by decide)]; exact h.2 k a⟩
theorem GF.p7 {x y : XS} {k : Nat} {v : Int32} (h : GF x y) (hk : 34 ≤ k ∧ k ≤ 36) : GF x (xu y 137 k v) := ⟨fun c a1 a2 a3 a4 a5 a6 => (xu_n a1).trans (h.1 c a1 a2 a3 a4 a5 a6), fun j a => by rw [xu_k (by omega)]; exact h.2 j a⟩
theorem RT.p7 {x : XS} {E : NE} {w k : Int32} {f rd : Nat → Int32} {t j : Nat} {v : Int32} (h : RT x E w k f t rd) (hj : 34 ≤ j ∧ j ≤ 36) : RT (xu x 137 j v) E w k f t rd := ⟨⟨h.1.1.fr (fun c hc => xu_n (by omega)) (xu_k (by omega)) (xu_k (by omega)), (xu_k (by omega)).trans h.1.2.1, (xu_k (by omega)).trans h.1.2.2.1, h.1.2.2.2.1, h.1.2.2.2.2⟩, h.2.1, h.2.2.1, h.2.2.2.1, h.2.2.2.2⟩
def SJ (E : NE) (y0 y : XS) (s : WK) : Prop := (∃ t, RT y E (eW E) (nI 0) s.1 t rd0) ∧ y 137 34 = nI s.2.1 ∧ s.2.1 ≤ 240 ∧ y 137 35 = s.2.2.1 ∧ y 137 36 = s.2.2.2 ∧ GF y0 y
def SW (y0 : XS) (K O T : Nat → Nat) (z : Nat) : Prop := ∀ i, i < z → y0 152 (3 * i) = nI (K i) ∧ y0 152 (3 * i + 1) = nI (O i) ∧ y0 152 (3 * i + 2) = nI (if K i = 6 then 3 * T i else T i)
theorem SJ.tick {E : NE} {y0 y : XS} {s : WK} (h : SJ E y0 y s) (hb : s.2.1 < 240) : SJ E y0 (xu y 137 34 (nI (s.2.1 + 1))) (wTick s) := by
  obtain ⟨⟨t, h1⟩, h2, h3, h4, h5, h6⟩ := h
  exact ⟨⟨t, h1.p7 (by omega)⟩, xu_s, hb, (xu_k (by decide)).trans h4, (xu_k (by decide)).trans h5, h6.p7 (by omega)⟩
theorem SJ.done {E : NE} {y0 y z : XS} {s : WK} {K O T : Nat → Nat} {i t : Nat} (h : SJ E y0 y s) (ht : s.1 40 = nI t) (ht2 : t ≤ 240) (F : MF y z) (hz : ∃ t2, RT z E (eW E) (nI 0) (pfR E s.1 (K i) (O i) (T i)) t2 rd0) (hB : pfB s.1 (K i) (O i) (T i) t = true) : SJ E y0 (xu z 137 35 (z 137 35 + nI 1)) (wDo E K O T i s) := by
  obtain ⟨_, h2, h3, h4, h5, h6⟩ := h
  obtain ⟨t2, h1⟩ := hz
  have e7 : z 137 = y 137 := F 137 (by decide) (by decide) (by decide) (by decide) (by decide)
  unfold wDo
  rw [ht, nN_nI (by omega), if_pos hB]
  refine ⟨⟨t2, h1.p7 (by omega)⟩, ?_, h3, ?_, ?_, (h6.mf F).p7 (by omega)⟩
  · rw [xu_k (by decide), e7]; exact h2
  · rw [xu_s, e7, h4]
  · rw [xu_k (by decide), e7]; exact h5
theorem SJ.refu {E : NE} {y0 y z : XS} {s : WK} {K O T : Nat → Nat} {i t : Nat} (h : SJ E y0 y s) (ht : s.1 40 = nI t) (ht2 : t ≤ 240) (F : MF y z) (hz : ∃ t2, RT z E (eW E) (nI 0) (pfR E s.1 (K i) (O i) (T i)) t2 rd0) (hB : pfB s.1 (K i) (O i) (T i) t = false) : SJ E y0 (xu z 137 36 (z 137 36 + nI 1)) (wDo E K O T i s) := by
  obtain ⟨_, h2, h3, h4, h5, h6⟩ := h
  obtain ⟨t2, h1⟩ := hz
  have e7 : z 137 = y 137 := F 137 (by decide) (by decide) (by decide) (by decide) (by decide)
  unfold wDo
  rw [ht, nN_nI (by omega), if_neg (by rw [hB]; decide)]
  refine ⟨⟨t2, h1.p7 (by omega)⟩, ?_, h3, ?_, ?_, (h6.mf F).p7 (by omega)⟩
  · rw [xu_k (by decide), e7]; exact h2
  · rw [xu_k (by decide), e7]; exact h4
  · rw [xu_s, e7, h5]
theorem exR_stop {inner : Nat → Nat → WK → WK} {i to : Nat} {s : WK} (h : ¬ wBeg s < 240) : ∀ n, exR wBeg inner n i to s = s
  | 0 => rfl
  | n + 1 => by
    show (if wBeg s < 240 then _ else s) = s
    rw [if_neg h]
theorem exR_go {inner : Nat → Nat → WK → WK} {i to n : Nat} {s : WK} (h : wBeg s < 240) : exR wBeg inner (n + 1) i to s = exR wBeg inner n i to (inner i to s) := by
  show (if wBeg s < 240 then _ else s) = _
  rw [if_pos h]
theorem i3_step (i : Nat) : nI (3 * i) + Int32.ofInt 3 = nI (3 * (i + 1)) := nI_add (3 * i) 3
theorem nm_six {K T : Nat → Nat} {INN : Nat → Nat → Prop} {i to : Nat} (h : ∃ m, NM K T INN m i to) (hi : i < to) (hk : K i = 6) : i + 1 ≤ T i ∧ T i ≤ to ∧ INN (i + 1) (T i) ∧ ∃ m, NM K T INN m (T i) to := by
  obtain ⟨m, h⟩ := h
  cases m with
  | zero =>
    have h : i = to := h
    omega
  | succ m =>
    rcases h with h | ⟨_, h⟩
    · omega
    · rw [if_pos hk] at h
      exact ⟨h.1, h.2.1, h.2.2.1, m, h.2.2.2⟩
theorem nm_oth {K T : Nat → Nat} {INN : Nat → Nat → Prop} {i to : Nat} (h : ∃ m, NM K T INN m i to) (hi : i < to) (hk : K i ≠ 6) : ∃ m, NM K T INN m (i + 1) to := by
  obtain ⟨m, h⟩ := h
  cases m with
  | zero =>
    have h : i = to := h
    omega
  | succ m =>
    rcases h with h | ⟨_, h⟩
    · omega
    · rw [if_neg hk] at h
      exact ⟨m, h⟩
set_option maxHeartbeats 8000000 in
set_option maxRecDepth 20000 in
theorem n_gs {E : NE} {K O T : Nat → Nat} {INN : Nat → Nat → Prop} {inner : Nat → Nat → WK → WK} {z d fr to : Nat} {y0 x : XS} {s0 : WK} (hd : 7 ≤ d) (hz4 : 4 * z ≤ 150) (hW : WI K O T z) (hS : SW y0 K O T z) (hin : ∀ i to y s, INN i to → to ≤ z → SJ E y0 y s → MM mX10_goesSteps d 0 0 [.ref 137, .int (nI (3 * i)), .int (nI (3 * to))] y (fun v y2 => v = none ∧ SJ E y0 y2 (inner i to s)) NoT) (hN : ∃ m, NM K T INN m fr to) (hto : to ≤ z) (hft : fr ≤ to) (hJ : SJ E y0 x s0) : MM mX10_goesSteps (d + 1) 0 0 [.ref 137, .int (nI (3 * fr)), .int (nI (3 * to))] x (fun v y => v = none ∧ SJ E y0 y (exI wBeg wTick (wDo E K O T) K O T inner fr to s0)) NoT := by
  refine MM.of (by decide) (Nat.le_of_ble_eq_true rfl) ?_
  have y137 := lay_137
  have y152 := lay_152
  refine r_iload_n dX10_goesSteps_0 rfl (by rfl) ?_
  refine r_istore_n dX10_goesSteps_1 rfl (by decide) ?_
  refine PW.loop (σ := Nat × WK × XS) (fun s => to - s.1) (fun s => SJ E y0 s.2.2 s.2.1 ∧ (∃ m, NM K T INN m s.1 to) ∧ s.1 ≤ to ∧ exI wBeg wTick (wDo E K O T) K O T inner fr to s0 = exI wBeg wTick (wDo E K O T) K O T inner s.1 to s.2.1) (fun s => [(0, .ref 137), (2, .int (nI (3 * to))), (3, .int (nI (3 * s.1)))]) (fun s => s.2.2) ((fr, s0, x)) (⟨hJ, hN, hft, rfl⟩) rfl rfl (fun s hs ih => ?_)
  obtain ⟨J, hNM, hito, hq⟩ := hs
  have hb0 := J.2.2.1
  refine r_iload_n dX10_goesSteps_2 rfl (by rfl) ?_
  refine r_iload_n dX10_goesSteps_3 rfl (by rfl) ?_
  refine r_icmp_geN (tgt := 153) dX10_goesSteps_4 (by decide) (by omega) (by omega) (fun h4 => ?_) (fun h4 => ?_)
  · refine r_ret rfl dX10_goesSteps_153 ?_
    refine ⟨rfl, ?_⟩
    rw [hq, exI_end wBeg wTick (wDo E K O T) K O T (fun q => by
      have q2 : s.2.1.2.1 < 240 := q.2
      omega)]
    exact J
  · refine r_aload_n dX10_goesSteps_7 rfl (by rfl) ?_
    refine gf_X10_319 rfl dX10_goesSteps_8 (by first | assumption | rfl) (by rfl) ?_
    refine PW.topi J.2.1 ?_
    refine r_sipush (v := nI 240) dX10_goesSteps_11 (by decide) ?_
    refine r_icmp_geN (tgt := 153) dX10_goesSteps_14 (by decide) (by omega) (by omega) (fun h14 => ?_) (fun h14 => ?_)
    · refine r_ret rfl dX10_goesSteps_153 ?_
      refine ⟨rfl, ?_⟩
      rw [hq, exI_end wBeg wTick (wDo E K O T) K O T (fun q => by
        have q2 : s.2.1.2.1 < 240 := q.2
        omega)]
      exact J
    · refine r_aload_n dX10_goesSteps_17 rfl (by rfl) ?_
      refine r_dup dX10_goesSteps_18 rfl ?_
      refine gf_X10_319 rfl dX10_goesSteps_19 (by first | assumption | rfl) (by rfl) ?_
      refine PW.topi J.2.1 ?_
      have hi : s.1 < to := by omega
      have hiz : s.1 < z := by omega
      obtain ⟨c0, c1, c2⟩ := hS s.1 hiz
      have wi := hW.2 s.1 hiz
      have Jt := J.tick (by omega)
      have e52 : xu s.2.2 137 34 (nI (s.2.1.2.1 + 1)) 152 = y0 152 := Jt.2.2.2.2.2.1 152 (by decide) (by decide) (by decide) (by decide) (by decide) (by decide)
      refine r_iconst (v := nI 1) dX10_goesSteps_22 (by decide) ?_
      refine r_iaddN dX10_goesSteps_23 ?_
      refine pf_X10_319 rfl dX10_goesSteps_24 (by first | assumption | rfl) (by rfl) ?_
      refine r_aload_n dX10_goesSteps_27 rfl (by rfl) ?_
      refine gf_X10_59 rfl dX10_goesSteps_28 (by first | assumption | rfl) (by rfl) ?_
      refine r_iload_n dX10_goesSteps_31 rfl (by rfl) ?_
      refine r_ialdN dX10_goesSteps_32 (by first | assumption | rfl) (by omega) (by decide) ?_
      refine PW.topi (show _ = nI (K s.1) from (by rw [e52]; exact c0)) ?_
      refine r_bipush (v := nI 6) dX10_goesSteps_33 (by decide) ?_
      refine r_icmp_neN (tgt := 95) dX10_goesSteps_35 (by decide) (by omega) (by omega) (fun h35 => ?_) (fun h35 => ?_)
      · refine r_aload_n dX10_goesSteps_95 rfl (by rfl) ?_
        refine r_aload_n dX10_goesSteps_96 rfl (by rfl) ?_
        refine gf_X10_59 rfl dX10_goesSteps_97 (by first | assumption | rfl) (by rfl) ?_
        refine r_iload_n dX10_goesSteps_100 rfl (by rfl) ?_
        refine r_ialdN dX10_goesSteps_101 (by first | assumption | rfl) (by omega) (by decide) ?_
        refine PW.topi (show _ = nI (K s.1) from (by rw [e52]; exact c0)) ?_
        refine r_aload_n dX10_goesSteps_102 rfl (by rfl) ?_
        refine gf_X10_59 rfl dX10_goesSteps_103 (by first | assumption | rfl) (by rfl) ?_
        refine r_iload_n dX10_goesSteps_106 rfl (by rfl) ?_
        refine r_iconst (v := nI 1) dX10_goesSteps_107 (by decide) ?_
        refine r_iaddN dX10_goesSteps_108 ?_
        refine r_ialdN dX10_goesSteps_109 (by first | assumption | rfl) (by omega) (by decide) ?_
        refine PW.topi (show _ = nI (O s.1) from (by rw [e52]; exact c1)) ?_
        refine r_aload_n dX10_goesSteps_110 rfl (by rfl) ?_
        refine gf_X10_59 rfl dX10_goesSteps_111 (by first | assumption | rfl) (by rfl) ?_
        refine r_iload_n dX10_goesSteps_114 rfl (by rfl) ?_
        refine r_iconst (v := nI 2) dX10_goesSteps_115 (by decide) ?_
        refine r_iaddN dX10_goesSteps_116 ?_
        refine r_ialdN dX10_goesSteps_117 (by first | assumption | rfl) (by omega) (by decide) ?_
        refine PW.topi (show _ = nI (T s.1) from (by rw [e52, c2, if_neg h35])) ?_
        obtain ⟨t, RTt⟩ := Jt.1
        refine r_callV (n_goes RTt (by have := wi.1; omega) (wi.2.2.1 h35).1 (wi.2.2.1 h35).2) mv_X10_goes ml_X10_331 ⟨by omega, by decide⟩ dX10_goesSteps_118 (by first | assumption | rfl) rfl rfl rfl (Nat.le_of_ble_eq_true rfl) (fun v9 z5 h9 => ?_)
        obtain ⟨rfl, Z1, Z2⟩ := h9
        refine r_if_eqB (tgt := 137) dX10_goesSteps_121 (by decide) (fun h121 => ?_) (fun h121 => ?_)
        · refine r_aload_n dX10_goesSteps_137 rfl (by rfl) ?_
          refine r_dup dX10_goesSteps_138 rfl ?_
          refine gf_X10_325 rfl dX10_goesSteps_139 (by first | assumption | rfl) (by rfl) ?_
          refine r_iconst (v := nI 1) dX10_goesSteps_142 (by decide) ?_
          refine r_iadd dX10_goesSteps_143 ?_
          refine pf_X10_325 rfl dX10_goesSteps_144 (by first | assumption | rfl) (by rfl) ?_
          refine r_iinc dX10_goesSteps_147 (by rfl) (i3_step s.1) (by decide) ?_
          refine r_goto (tgt := 2) dX10_goesSteps_150 (by decide) ?_
          first
            | (exact PW.lc (by rfl) rfl (ih (s.1 + 1, wDo E K O T s.1 (wTick s.2.1), _) ⟨Jt.done RTt.2.1 RTt.2.2.1 Z2 Z1 h121, nm_oth hNM hi h35, (show s.1 + 1 ≤ to by omega), (by rw [hq, exI_step wBeg wTick (wDo E K O T) K O T (fun i hi hk => ((hW.2 i (by omega)).2.2.2 hk).1) hi (show wBeg s.2.1 < 240 by show s.2.1.2.1 < 240; omega) h35])⟩ (show to - (s.1 + 1) < to - s.1 by omega)))
            | (exact PW.lc (by rfl) rfl (ih (s.1 + 1, wDo E K O T s.1 (wTick s.2.1), _) ⟨Jt.refu RTt.2.1 RTt.2.2.1 Z2 Z1 h121, nm_oth hNM hi h35, (show s.1 + 1 ≤ to by omega), (by rw [hq, exI_step wBeg wTick (wDo E K O T) K O T (fun i hi hk => ((hW.2 i (by omega)).2.2.2 hk).1) hi (show wBeg s.2.1 < 240 by show s.2.1.2.1 < 240; omega) h35])⟩ (show to - (s.1 + 1) < to - s.1 by omega)))
        · refine r_aload_n dX10_goesSteps_124 rfl (by rfl) ?_
          refine r_dup dX10_goesSteps_125 rfl ?_
          refine gf_X10_322 rfl dX10_goesSteps_126 (by first | assumption | rfl) (by rfl) ?_
          refine r_iconst (v := nI 1) dX10_goesSteps_129 (by decide) ?_
          refine r_iadd dX10_goesSteps_130 ?_
          refine pf_X10_322 rfl dX10_goesSteps_131 (by first | assumption | rfl) (by rfl) ?_
          refine r_goto (tgt := 147) dX10_goesSteps_134 (by decide) ?_
          refine r_iinc dX10_goesSteps_147 (by rfl) (i3_step s.1) (by decide) ?_
          refine r_goto (tgt := 2) dX10_goesSteps_150 (by decide) ?_
          first
            | (exact PW.lc (by rfl) rfl (ih (s.1 + 1, wDo E K O T s.1 (wTick s.2.1), _) ⟨Jt.done RTt.2.1 RTt.2.2.1 Z2 Z1 h121, nm_oth hNM hi h35, (show s.1 + 1 ≤ to by omega), (by rw [hq, exI_step wBeg wTick (wDo E K O T) K O T (fun i hi hk => ((hW.2 i (by omega)).2.2.2 hk).1) hi (show wBeg s.2.1 < 240 by show s.2.1.2.1 < 240; omega) h35])⟩ (show to - (s.1 + 1) < to - s.1 by omega)))
            | (exact PW.lc (by rfl) rfl (ih (s.1 + 1, wDo E K O T s.1 (wTick s.2.1), _) ⟨Jt.refu RTt.2.1 RTt.2.2.1 Z2 Z1 h121, nm_oth hNM hi h35, (show s.1 + 1 ≤ to by omega), (by rw [hq, exI_step wBeg wTick (wDo E K O T) K O T (fun i hi hk => ((hW.2 i (by omega)).2.2.2 hk).1) hi (show wBeg s.2.1 < 240 by show s.2.1.2.1 < 240; omega) h35])⟩ (show to - (s.1 + 1) < to - s.1 by omega)))
      · refine r_aload_n dX10_goesSteps_38 rfl (by rfl) ?_
        refine gf_X10_59 rfl dX10_goesSteps_39 (by first | assumption | rfl) (by rfl) ?_
        refine r_iload_n dX10_goesSteps_42 rfl (by rfl) ?_
        refine r_iconst (v := nI 2) dX10_goesSteps_43 (by decide) ?_
        refine r_iaddN dX10_goesSteps_44 ?_
        refine r_ialdN dX10_goesSteps_45 (by first | assumption | rfl) (by omega) (by decide) ?_
        refine PW.topi (show _ = nI (3 * T s.1) from (by rw [e52, c2, if_pos h35])) ?_
        obtain ⟨hm1, hm3, hm2, m9, hm4⟩ := nm_six hNM hi h35
        have hm3 : T s.1 ≤ z := by omega
        refine r_istore dX10_goesSteps_46 (by decide) ?_
        refine r_iconst (v := nI 0) dX10_goesSteps_48 (by decide) ?_
        refine r_istore dX10_goesSteps_49 (by decide) ?_
        refine PW.loop (σ := Nat × WK × XS) (fun w => O s.1 - w.1) (fun w => SJ E y0 w.2.2 w.2.1 ∧ w.1 ≤ O s.1 ∧ exR wBeg inner (O s.1) (s.1 + 1) (T s.1) (wTick s.2.1) = exR wBeg inner (O s.1 - w.1) (s.1 + 1) (T s.1) w.2.1) (fun w => [(0, .ref 137), (2, .int (nI (3 * to))), (3, .int (nI (3 * s.1))), (4, .int (nI (3 * T s.1))), (5, .int (nI w.1))]) (fun w => w.2.2) ((0, wTick s.2.1, xu s.2.2 137 34 (nI (s.2.1.2.1 + 1)))) (⟨Jt, Nat.zero_le _, rfl⟩) rfl rfl (fun w hw kh => ?_)
        obtain ⟨J2, hwO, hq2⟩ := hw
        refine r_iload dX10_goesSteps_51 (by rfl) ?_
        refine r_aload_n dX10_goesSteps_53 rfl (by rfl) ?_
        refine gf_X10_59 rfl dX10_goesSteps_54 (by first | assumption | rfl) (by rfl) ?_
        refine r_iload_n dX10_goesSteps_57 rfl (by rfl) ?_
        refine r_iconst (v := nI 1) dX10_goesSteps_58 (by decide) ?_
        refine r_iaddN dX10_goesSteps_59 ?_
        refine r_ialdN dX10_goesSteps_60 (by first | assumption | rfl) (by omega) (by decide) ?_
        refine PW.topi (show _ = nI (O s.1) from (by rw [J2.2.2.2.2.2.1 152 (by decide) (by decide) (by decide) (by decide) (by decide) (by decide)]; exact c1)) ?_
        have wO := wi.2.1
        refine r_icmp_geN (tgt := 89) dX10_goesSteps_61 (by decide) (by omega) (by omega) (fun h61 => ?_) (fun h61 => ?_)
        · refine r_iload dX10_goesSteps_89 (by rfl) ?_
          refine r_istore_n dX10_goesSteps_91 rfl (by decide) ?_
          refine r_goto (tgt := 2) dX10_goesSteps_92 (by decide) ?_
          have hex : exR wBeg inner (O s.1) (s.1 + 1) (T s.1) (wTick s.2.1) = w.2.1 := by
            rw [hq2]
            first
              | (rw [show O s.1 - w.1 = 0 by omega]; rfl)
              | (exact exR_stop (show ¬ wBeg w.2.1 < 240 by show ¬ w.2.1.2.1 < 240; omega) _)
          exact PW.lc (by rfl) rfl (ih (T s.1, w.2.1, w.2.2) ⟨J2, ⟨m9, hm4⟩, (by show T s.1 ≤ to; omega), (by rw [hq, exI_again wBeg wTick (wDo E K O T) K O T (fun i hi hk => ((hW.2 i (by omega)).2.2.2 hk).1) hi (show wBeg s.2.1 < 240 by show s.2.1.2.1 < 240; omega) h35, hex])⟩ (show to - T s.1 < to - s.1 by omega))
        · refine r_aload_n dX10_goesSteps_64 rfl (by rfl) ?_
          refine gf_X10_319 rfl dX10_goesSteps_65 (by first | assumption | rfl) (by rfl) ?_
          refine PW.topi J2.2.1 ?_
          have hb2 := J2.2.2.1
          refine r_sipush (v := nI 240) dX10_goesSteps_68 (by decide) ?_
          refine r_icmp_geN (tgt := 89) dX10_goesSteps_71 (by decide) (by omega) (by omega) (fun h71 => ?_) (fun h71 => ?_)
          · refine r_iload dX10_goesSteps_89 (by rfl) ?_
            refine r_istore_n dX10_goesSteps_91 rfl (by decide) ?_
            refine r_goto (tgt := 2) dX10_goesSteps_92 (by decide) ?_
            have hex : exR wBeg inner (O s.1) (s.1 + 1) (T s.1) (wTick s.2.1) = w.2.1 := by
              rw [hq2]
              first
                | (rw [show O s.1 - w.1 = 0 by omega]; rfl)
                | (exact exR_stop (show ¬ wBeg w.2.1 < 240 by show ¬ w.2.1.2.1 < 240; omega) _)
            exact PW.lc (by rfl) rfl (ih (T s.1, w.2.1, w.2.2) ⟨J2, ⟨m9, hm4⟩, (by show T s.1 ≤ to; omega), (by rw [hq, exI_again wBeg wTick (wDo E K O T) K O T (fun i hi hk => ((hW.2 i (by omega)).2.2.2 hk).1) hi (show wBeg s.2.1 < 240 by show s.2.1.2.1 < 240; omega) h35, hex])⟩ (show to - T s.1 < to - s.1 by omega))
          · refine r_aload_n dX10_goesSteps_74 rfl (by rfl) ?_
            refine r_iload_n dX10_goesSteps_75 rfl (by rfl) ?_
            refine r_iconst (v := nI 3) dX10_goesSteps_76 (by decide) ?_
            refine r_iaddN dX10_goesSteps_77 ?_
            refine PW.topi (show nI (3 * s.1 + 3) = nI (3 * (s.1 + 1)) from rfl) ?_
            refine r_iload dX10_goesSteps_78 (by rfl) ?_
            refine r_callV (hin (s.1 + 1) (T s.1) w.2.2 w.2.1 hm2 hm3 J2) mv_X10_goesSteps ml_X10_328 ⟨by omega, by decide⟩ dX10_goesSteps_80 (by first | assumption | rfl) rfl rfl rfl (Nat.le_of_ble_eq_true rfl) (fun v9 y5 h9 => ?_)
            obtain ⟨rfl, J3⟩ := h9
            refine r_iincN dX10_goesSteps_83 (by rfl) (by decide) ?_
            refine r_goto (tgt := 51) dX10_goesSteps_86 (by decide) ?_
            exact PW.lc (by rfl) rfl (kh (w.1 + 1, inner (s.1 + 1) (T s.1) w.2.1, y5) ⟨J3, (show w.1 + 1 ≤ O s.1 by omega), (by rw [hq2, show O s.1 - w.1 = (O s.1 - (w.1 + 1)) + 1 by omega, exR_go (show wBeg w.2.1 < 240 by show w.2.1.2.1 < 240; omega)])⟩ (show O s.1 - (w.1 + 1) < O s.1 - w.1 by omega))
theorem gs_all {E : NE} {K O T : Nat → Nat} {z : Nat} {y0 : XS} (hz4 : 4 * z ≤ 150) (hW : WI K O T z) (hS : SW y0 K O T z) : ∀ lev i to y s, NL K T lev i to → to ≤ z → SJ E y0 y s → MM mX10_goesSteps (8 + lev) 0 0 [.ref 137, .int (nI (3 * i)), .int (nI (3 * to))] y (fun v y2 => v = none ∧ SJ E y0 y2 (exL wBeg wTick (wDo E K O T) K O T lev i to s)) NoT
  | 0, i, to, y, s, hN, hto, hJ => by
    obtain ⟨m, hN⟩ := hN
    exact n_gs (d := 7) (INN := fun _ _ => False) (inner := fun _ _ s => s) (by decide) hz4 hW hS (fun _ _ _ _ h _ _ => h.elim) ⟨m, hN⟩ hto (NM_le _ _ _ hN) hJ
  | lev + 1, i, to, y, s, hN, hto, hJ => by
    obtain ⟨m, hN⟩ := hN
    exact n_gs (d := 8 + lev) (INN := NL K T lev) (inner := exL wBeg wTick (wDo E K O T) K O T lev) (by omega) hz4 hW hS (fun i to y s h1 h2 h3 => gs_all hz4 hW hS lev i to y s h1 h2 h3) ⟨m, hN⟩ hto (NM_le _ _ _ hN) hJ
