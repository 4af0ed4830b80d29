/-! THE REFERENCE: feeding -/
theorem shr8_0 (d : Int32) : (d >>> (nI 0 &&& 31)) &&& nI 255 = (d.toUInt32 >>> ((nI 0).toUInt32 &&& Int32.toUInt32 31)).toInt32 &&& nI 255 := by
  rw [pk_and (d >>> (nI 0 &&& 31)) (m := nI 255) 8 (by decide +kernel), pk_and ((d.toUInt32 >>> ((nI 0).toUInt32 &&& Int32.toUInt32 31)).toInt32) (m := nI 255) 8 (by decide +kernel), pk_ushr d (nI 0) 0 (by decide +kernel)]
  congr 1
  have h1 := pk_shr d (nI 0 &&& 31) 0 (by decide +kernel)
  have h2 : d.toInt = (d.toBitVec.toNat : Int) ∨ d.toInt = (d.toBitVec.toNat : Int) - 4294967296 := by
    have e : d.toInt = d.toBitVec.toInt := rfl
    rw [e, BitVec.toInt_eq_toNat_cond]
    split
    · exact Or.inl rfl
    · exact Or.inr rfl
  have h3 : (d >>> (nI 0 &&& 31)).toInt = ((d >>> (nI 0 &&& 31)).toBitVec.toNat : Int) ∨ (d >>> (nI 0 &&& 31)).toInt = ((d >>> (nI 0 &&& 31)).toBitVec.toNat : Int) - 4294967296 := by
    have e : (d >>> (nI 0 &&& 31)).toInt = (d >>> (nI 0 &&& 31)).toBitVec.toInt := rfl
    rw [e, BitVec.toInt_eq_toNat_cond]
    split
    · exact Or.inl rfl
    · exact Or.inr rfl
  have h4 : d.toInt >>> 0 = d.toInt / 1 := Int.shiftRight_eq_div_pow _ _
  rw [h4] at h1
  have h5 := d.toBitVec.isLt
  generalize (d >>> (nI 0 &&& 31)).toBitVec.toNat = u at *
  generalize d.toBitVec.toNat = n at *
  omega
theorem shr8_8 (d : Int32) : (d >>> (nI 8 &&& 31)) &&& nI 255 = (d.toUInt32 >>> ((nI 8).toUInt32 &&& Int32.toUInt32 31)).toInt32 &&& nI 255 := by
  rw [pk_and (d >>> (nI 8 &&& 31)) (m := nI 255) 8 (by decide +kernel), pk_and ((d.toUInt32 >>> ((nI 8).toUInt32 &&& Int32.toUInt32 31)).toInt32) (m := nI 255) 8 (by decide +kernel), pk_ushr d (nI 8) 8 (by decide +kernel)]
  congr 1
  have h1 := pk_shr d (nI 8 &&& 31) 8 (by decide +kernel)
  have h2 : d.toInt = (d.toBitVec.toNat : Int) ∨ d.toInt = (d.toBitVec.toNat : Int) - 4294967296 := by
    have e : d.toInt = d.toBitVec.toInt := rfl
    rw [e, BitVec.toInt_eq_toNat_cond]
    split
    · exact Or.inl rfl
    · exact Or.inr rfl
  have h3 : (d >>> (nI 8 &&& 31)).toInt = ((d >>> (nI 8 &&& 31)).toBitVec.toNat : Int) ∨ (d >>> (nI 8 &&& 31)).toInt = ((d >>> (nI 8 &&& 31)).toBitVec.toNat : Int) - 4294967296 := by
    have e : (d >>> (nI 8 &&& 31)).toInt = (d >>> (nI 8 &&& 31)).toBitVec.toInt := rfl
    rw [e, BitVec.toInt_eq_toNat_cond]
    split
    · exact Or.inl rfl
    · exact Or.inr rfl
  have h4 : d.toInt >>> 8 = d.toInt / 256 := Int.shiftRight_eq_div_pow _ _
  rw [h4] at h1
  have h5 := d.toBitVec.isLt
  generalize (d >>> (nI 8 &&& 31)).toBitVec.toNat = u at *
  generalize d.toBitVec.toNat = n at *
  omega
theorem shr8_16 (d : Int32) : (d >>> (nI 16 &&& 31)) &&& nI 255 = (d.toUInt32 >>> ((nI 16).toUInt32 &&& Int32.toUInt32 31)).toInt32 &&& nI 255 := by
  rw [pk_and (d >>> (nI 16 &&& 31)) (m := nI 255) 8 (by decide +kernel), pk_and ((d.toUInt32 >>> ((nI 16).toUInt32 &&& Int32.toUInt32 31)).toInt32) (m := nI 255) 8 (by decide +kernel), pk_ushr d (nI 16) 16 (by decide +kernel)]
  congr 1
  have h1 := pk_shr d (nI 16 &&& 31) 16 (by decide +kernel)
  have h2 : d.toInt = (d.toBitVec.toNat : Int) ∨ d.toInt = (d.toBitVec.toNat : Int) - 4294967296 := by
    have e : d.toInt = d.toBitVec.toInt := rfl
    rw [e, BitVec.toInt_eq_toNat_cond]
    split
    · exact Or.inl rfl
    · exact Or.inr rfl
  have h3 : (d >>> (nI 16 &&& 31)).toInt = ((d >>> (nI 16 &&& 31)).toBitVec.toNat : Int) ∨ (d >>> (nI 16 &&& 31)).toInt = ((d >>> (nI 16 &&& 31)).toBitVec.toNat : Int) - 4294967296 := by
    have e : (d >>> (nI 16 &&& 31)).toInt = (d >>> (nI 16 &&& 31)).toBitVec.toInt := rfl
    rw [e, BitVec.toInt_eq_toNat_cond]
    split
    · exact Or.inl rfl
    · exact Or.inr rfl
  have h4 : d.toInt >>> 16 = d.toInt / 65536 := Int.shiftRight_eq_div_pow _ _
  rw [h4] at h1
  have h5 := d.toBitVec.isLt
  generalize (d >>> (nI 16 &&& 31)).toBitVec.toNat = u at *
  generalize d.toBitVec.toNat = n at *
  omega
theorem shr8_24 (d : Int32) : (d >>> (nI 24 &&& 31)) &&& nI 255 = (d.toUInt32 >>> ((nI 24).toUInt32 &&& Int32.toUInt32 31)).toInt32 &&& nI 255 := by
  rw [pk_and (d >>> (nI 24 &&& 31)) (m := nI 255) 8 (by decide +kernel), pk_and ((d.toUInt32 >>> ((nI 24).toUInt32 &&& Int32.toUInt32 31)).toInt32) (m := nI 255) 8 (by decide +kernel), pk_ushr d (nI 24) 24 (by decide +kernel)]
  congr 1
  have h1 := pk_shr d (nI 24 &&& 31) 24 (by decide +kernel)
  have h2 : d.toInt = (d.toBitVec.toNat : Int) ∨ d.toInt = (d.toBitVec.toNat : Int) - 4294967296 := by
    have e : d.toInt = d.toBitVec.toInt := rfl
    rw [e, BitVec.toInt_eq_toNat_cond]
    split
    · exact Or.inl rfl
    · exact Or.inr rfl
  have h3 : (d >>> (nI 24 &&& 31)).toInt = ((d >>> (nI 24 &&& 31)).toBitVec.toNat : Int) ∨ (d >>> (nI 24 &&& 31)).toInt = ((d >>> (nI 24 &&& 31)).toBitVec.toNat : Int) - 4294967296 := by
    have e : (d >>> (nI 24 &&& 31)).toInt = (d >>> (nI 24 &&& 31)).toBitVec.toInt := rfl
    rw [e, BitVec.toInt_eq_toNat_cond]
    split
    · exact Or.inl rfl
    · exact Or.inr rfl
  have h4 : d.toInt >>> 24 = d.toInt / 16777216 := Int.shiftRight_eq_div_pow _ _
  rw [h4] at h1
  have h5 := d.toBitVec.isLt
  generalize (d >>> (nI 24 &&& 31)).toBitVec.toNat = u at *
  generalize d.toBitVec.toNat = n at *
  omega
theorem fdB (w : Int32) {i : Nat} (h : i < 4) : (w >>> (nI (24 - 8 * i) &&& 31)) &&& nI 255 = byteV w i := by
  rcases (show i = 0 ∨ i = 1 ∨ i = 2 ∨ i = 3 by omega) with rfl | rfl | rfl | rfl
  · exact shr8_24 w
  · exact shr8_16 w
  · exact shr8_8 w
  · exact shr8_0 w
theorem feedV_is (v1 v2 v3 v4 v5 : Int32) (i : Nat) : feedV v1 v2 v3 v4 v5 i = nI (nN (feedV v1 v2 v3 v4 v5 i)) ∧ nN (feedV v1 v2 v3 v4 v5 i) < 256 := byteV_is _ _
def FD (x z : XS) (a : AS) (v1 v2 v3 v4 v5 : Int32) (k : Nat) : Prop := z 137 2 = nI (aH a + k) ∧ z 137 0 = nI 0 ∧ (∀ j, j ≠ 0 → j ≠ 2 → z 137 j = x 137 j) ∧ (∀ c, c ≠ 137 → c ≠ 139 → z c = x c) ∧ ∀ j, j < 600 → z 139 j = if aH a ≤ j ∧ j < aH a + k then feedV v1 v2 v3 v4 v5 (j - aH a) else x 139 j
theorem FD_s {x z : XS} {a : AS} {v1 v2 v3 v4 v5 : Int32} {k : Nat} (h : FD x z a v1 v2 v3 v4 v5 k) : FD x (xu (xu z 139 (aH a + k) (feedV v1 v2 v3 v4 v5 k)) 137 2 (nI (aH a + k + 1))) a v1 v2 v3 v4 v5 (k + 1) := by
  obtain ⟨f1, f2, f3, f4, f5⟩ := h
  refine ⟨xu_s, ?_, fun j h0 h2 => ?_, fun c h1 h2 => ?_, fun j hj => ?_⟩
  · rw [xu_k (by decide), xu_n (by decide)]; exact f2
  · rw [xu_k h2, xu_n (by decide)]; exact f3 j h0 h2
  · rw [xu_n h1, xu_n h2]; exact f4 c h1 h2
  · rw [xu_n (by decide)]
    by_cases e : j = aH a + k
    · rw [e, xu_s, if_pos (by omega), show aH a + k - aH a = k by omega]
    · rw [xu_k e, f5 j hj]
      by_cases q : aH a ≤ j ∧ j < aH a + k
      · rw [if_pos q, if_pos (by omega)]
      · rw [if_neg q, if_neg (by omega)]
theorem RRf.tape {x y : XS} {a : AS} {T : Nat → Nat} {h : Nat} {p : Int32} (hR : RRf x a) (e : ∀ c, c ≠ 137 → c = 138 ∨ c = 142 ∨ c = 143 ∨ c = 146 ∨ c = 147 ∨ c = 148 ∨ c = 153 ∨ c = 155 ∨ c = 159 ∨ c = 162 → y c = x c) (e7 : ∀ k, k = 18 ∨ k = 19 ∨ k = 20 ∨ k = 32 ∨ k = 33 ∨ k = 45 ∨ k = 52 → y 137 k = x 137 k) (hh : y 137 2 = nI h) (h6 : h ≤ 600) (hT : ∀ j, j < 600 → y 139 j = nI (T j) ∧ T j < 256) (hp : y 137 8 = p) : RRf y (setT a T h p) := by
  obtain ⟨h1, h2, h3, h4, h5, k6, h7, h8, h9, h10⟩ := hR
  refine ⟨h1.fr (fun c hc => e c (by omega) (by omega)) (e7 18 (by omega)) (e7 20 (by omega)), (e7 19 (by omega)).trans h2, ?_, ⟨hh, h6, hT, hp⟩, ?_, ?_, ?_, (e7 33 (by omega)).trans h8, ?_, ?_⟩
  · rw [e 153 (by omega) (by omega)]; exact h3
  · rw [e 159 (by omega) (by omega), e7 45 (by omega)]; exact h5
  · rw [e 155 (by omega) (by omega), e7 32 (by omega)]; exact k6
  · rw [e 162 (by omega) (by omega), e7 52 (by omega)]; exact h7
  · rw [e 138 (by omega) (by omega)]; exact h9
  · rw [e 138 (by omega) (by omega)]; exact h10
set_option maxHeartbeats 8000000 in
set_option maxRecDepth 20000 in
theorem g_feed {a : AS} {x : XS} {v1 v2 v3 v4 v5 : Int32} (hR : RRf x a) (hA : AI a) : RCHG mX10_feed [.ref 137, .int v1, .int v2, .int v3, .int v4, .int v5] x (oFeed a v1 v2 v3 v4 v5) 1 := by
  refine MM.of (by decide) (Nat.le_of_ble_eq_true rfl) ?_
  have y137 := lay_137
  have y139 := lay_139
  have h2 : th0 x 137 2 = nI (aH a) := hR.2.2.2.1.1
  have h6 := hR.2.2.2.1.2.1
  refine r_aload_n dX10_feed_0 rfl (by rfl) ?_
  refine r_iconst (v := nI 0) dX10_feed_1 (by decide) ?_
  refine pf_X10_3 rfl dX10_feed_2 (by first | assumption | rfl) (by rfl) ?_
  refine r_aload_n dX10_feed_5 rfl (by rfl) ?_
  refine gf_X10_98 rfl dX10_feed_6 (by first | assumption | rfl) (by rfl) ?_
  refine PW.topi h2 ?_
  refine r_bipush (v := nI 20) dX10_feed_9 (by decide) ?_
  refine r_iaddN dX10_feed_11 ?_
  refine r_sipush (v := nI 600) dX10_feed_12 (by decide) ?_
  refine r_icmp_leN (tgt := 20) dX10_feed_15 (by decide) (by omega) (by omega) (fun h15 => ?_) (fun h15 => ?_)
  · refine r_iconst (v := nI 0) dX10_feed_20 (by decide) ?_
    refine r_istore dX10_feed_21 (by decide) ?_
    refine PW.loop (σ := Nat × XS) (fun s => 20 - s.1) (fun s => s.1 ≤ 20 ∧ FD x s.2 a v1 v2 v3 v4 v5 s.1) (fun s => [(0, .ref 137), (1, .int v1), (2, .int v2), (3, .int v3), (4, .int v4), (5, .int v5), (6, .int (nI s.1))]) (fun s => s.2) ((0, th0 x)) (⟨Nat.zero_le _, h2, rfl, fun j h0 _ => (show xu x 137 0 (nI 0) 137 j = x 137 j from xu_k h0), fun c h1 _ => (show xu x 137 0 (nI 0) c = x c from xu_n h1), fun j hj => by rw [if_neg (by omega)]; rfl⟩) rfl rfl (fun s hs ih => ?_)
    obtain ⟨hs1, f1, f2, f3, f4, f5⟩ := hs
    refine r_iload dX10_feed_23 (by rfl) ?_
    refine r_bipush (v := nI 20) dX10_feed_25 (by decide) ?_
    refine r_icmp_geN (tgt := 120) dX10_feed_27 (by decide) (by omega) (by omega) (fun h27 => ?_) (fun h27 => ?_)
    · refine r_aload_n dX10_feed_120 rfl (by rfl) ?_
      refine gf_X10_98 rfl dX10_feed_121 (by first | assumption | rfl) (by rfl) ?_
      refine PW.topi f1 ?_
      refine r_iret rfl dX10_feed_124 ?_
      have e20 : s.1 = 20 := by omega
      rw [e20] at f1
      rw [e20] at f5
      rw [e20]
      refine rchg_ok (b := (oFeed a v1 v2 v3 v4 v5).2) (by unfold oFeed; rw [if_pos (by omega)]) ?_ (fun c hc => f4 c (by omega) (by omega)) f2
      unfold oFeed
      rw [if_pos (by omega)]
      refine hR.tape (fun c h7 hc => f4 c h7 (by omega)) (fun k hk => f3 k (by omega) (by omega)) f1 (by omega) (fun j hj => ?_) ((f3 8 (by decide) (by decide)).trans hR.2.2.2.1.2.2.2)
      rw [f5 j hj]
      unfold feedT
      by_cases q : aH a ≤ j ∧ j < aH a + 20
      · rw [if_pos q, if_pos q]; exact feedV_is _ _ _ _ _ _
      · rw [if_neg q, if_neg q]; exact hR.2.2.2.1.2.2.1 j hj
    · refine r_iload dX10_feed_30 (by rfl) ?_
      refine r_iconst (v := nI 4) dX10_feed_32 (by decide) ?_
      refine r_icmp_geN (tgt := 40) dX10_feed_33 (by decide) (by omega) (by omega) (fun h33 => ?_) (fun h33 => ?_)
      · refine r_iload dX10_feed_40 (by rfl) ?_
        refine r_bipush (v := nI 8) dX10_feed_42 (by decide) ?_
        refine r_icmp_geN (tgt := 51) dX10_feed_44 (by decide) (by omega) (by omega) (fun h44 => ?_) (fun h44 => ?_)
        · refine r_iload dX10_feed_51 (by rfl) ?_
          refine r_bipush (v := nI 12) dX10_feed_53 (by decide) ?_
          refine r_icmp_geN (tgt := 62) dX10_feed_55 (by decide) (by omega) (by omega) (fun h55 => ?_) (fun h55 => ?_)
          · refine r_iload dX10_feed_62 (by rfl) ?_
            refine r_bipush (v := nI 16) dX10_feed_64 (by decide) ?_
            refine r_icmp_geN (tgt := 74) dX10_feed_66 (by decide) (by omega) (by omega) (fun h66 => ?_) (fun h66 => ?_)
            · refine r_iload dX10_feed_74 (by rfl) ?_
              refine PW.topi (show _ = (if s.1 < 4 then v1 else if s.1 < 8 then v2 else if s.1 < 12 then v3 else if s.1 < 16 then v4 else v5) from (by (repeat first | rw [if_pos (by omega)] | rw [if_neg (by omega)]))) ?_
              refine r_istore dX10_feed_76 (by decide) ?_
              refine r_aload_n dX10_feed_78 rfl (by rfl) ?_
              refine gf_X10_20 rfl dX10_feed_79 (by first | assumption | rfl) (by rfl) ?_
              refine r_aload_n dX10_feed_82 rfl (by rfl) ?_
              refine gf_X10_98 rfl dX10_feed_83 (by first | assumption | rfl) (by rfl) ?_
              refine PW.topi f1 ?_
              refine r_iload dX10_feed_86 (by rfl) ?_
              refine r_bipush (v := nI 24) dX10_feed_88 (by decide) ?_
              refine r_bipush (v := nI 8) dX10_feed_90 (by decide) ?_
              refine r_iload dX10_feed_92 (by rfl) ?_
              refine r_iconst (v := nI 4) dX10_feed_94 (by decide) ?_
              refine r_iremN dX10_feed_95 (by omega) (by omega) (by omega) ?_
              refine r_imulN dX10_feed_96 ?_
              refine r_isubN dX10_feed_97 (by omega) ?_
              refine r_ishr dX10_feed_98 ?_
              refine r_sipush (v := nI 255) dX10_feed_99 (by decide) ?_
              refine r_iand dX10_feed_102 ?_
              refine PW.topi (show _ = feedV v1 v2 v3 v4 v5 s.1 from fdB _ (by omega)) ?_
              refine r_iastN dX10_feed_103 (by first | assumption | rfl) (by omega) (by decide) ?_
              refine r_aload_n dX10_feed_104 rfl (by rfl) ?_
              refine r_dup dX10_feed_105 rfl ?_
              refine gf_X10_98 rfl dX10_feed_106 (by first | assumption | rfl) (by rfl) ?_
              refine PW.topi (show _ = nI (aH a + s.1) from f1) ?_
              refine r_iconst (v := nI 1) dX10_feed_109 (by decide) ?_
              refine r_iaddN dX10_feed_110 ?_
              refine pf_X10_98 rfl dX10_feed_111 (by first | assumption | rfl) (by rfl) ?_
              refine r_iincN dX10_feed_114 (by rfl) (by decide) ?_
              refine r_goto (tgt := 23) dX10_feed_117 (by decide) ?_
              exact PW.lc (by rfl) rfl (ih (s.1 + 1, xu (xu s.2 139 (aH a + s.1) (feedV v1 v2 v3 v4 v5 s.1)) 137 2 (nI (aH a + s.1 + 1))) ⟨(show s.1 + 1 ≤ 20 by omega), FD_s ⟨f1, f2, f3, f4, f5⟩⟩ (show 20 - (s.1 + 1) < 20 - s.1 by omega))
            · refine r_iload dX10_feed_69 (by rfl) ?_
              refine r_goto (tgt := 76) dX10_feed_71 (by decide) ?_
              refine PW.topi (show _ = (if s.1 < 4 then v1 else if s.1 < 8 then v2 else if s.1 < 12 then v3 else if s.1 < 16 then v4 else v5) from (by (repeat first | rw [if_pos (by omega)] | rw [if_neg (by omega)]))) ?_
              refine r_istore dX10_feed_76 (by decide) ?_
              refine r_aload_n dX10_feed_78 rfl (by rfl) ?_
              refine gf_X10_20 rfl dX10_feed_79 (by first | assumption | rfl) (by rfl) ?_
              refine r_aload_n dX10_feed_82 rfl (by rfl) ?_
              refine gf_X10_98 rfl dX10_feed_83 (by first | assumption | rfl) (by rfl) ?_
              refine PW.topi f1 ?_
              refine r_iload dX10_feed_86 (by rfl) ?_
              refine r_bipush (v := nI 24) dX10_feed_88 (by decide) ?_
              refine r_bipush (v := nI 8) dX10_feed_90 (by decide) ?_
              refine r_iload dX10_feed_92 (by rfl) ?_
              refine r_iconst (v := nI 4) dX10_feed_94 (by decide) ?_
              refine r_iremN dX10_feed_95 (by omega) (by omega) (by omega) ?_
              refine r_imulN dX10_feed_96 ?_
              refine r_isubN dX10_feed_97 (by omega) ?_
              refine r_ishr dX10_feed_98 ?_
              refine r_sipush (v := nI 255) dX10_feed_99 (by decide) ?_
              refine r_iand dX10_feed_102 ?_
              refine PW.topi (show _ = feedV v1 v2 v3 v4 v5 s.1 from fdB _ (by omega)) ?_
              refine r_iastN dX10_feed_103 (by first | assumption | rfl) (by omega) (by decide) ?_
              refine r_aload_n dX10_feed_104 rfl (by rfl) ?_
              refine r_dup dX10_feed_105 rfl ?_
              refine gf_X10_98 rfl dX10_feed_106 (by first | assumption | rfl) (by rfl) ?_
              refine PW.topi (show _ = nI (aH a + s.1) from f1) ?_
              refine r_iconst (v := nI 1) dX10_feed_109 (by decide) ?_
              refine r_iaddN dX10_feed_110 ?_
              refine pf_X10_98 rfl dX10_feed_111 (by first | assumption | rfl) (by rfl) ?_
              refine r_iincN dX10_feed_114 (by rfl) (by decide) ?_
              refine r_goto (tgt := 23) dX10_feed_117 (by decide) ?_
              exact PW.lc (by rfl) rfl (ih (s.1 + 1, xu (xu s.2 139 (aH a + s.1) (feedV v1 v2 v3 v4 v5 s.1)) 137 2 (nI (aH a + s.1 + 1))) ⟨(show s.1 + 1 ≤ 20 by omega), FD_s ⟨f1, f2, f3, f4, f5⟩⟩ (show 20 - (s.1 + 1) < 20 - s.1 by omega))
          · refine r_iload_n dX10_feed_58 rfl (by rfl) ?_
            refine r_goto (tgt := 76) dX10_feed_59 (by decide) ?_
            refine PW.topi (show _ = (if s.1 < 4 then v1 else if s.1 < 8 then v2 else if s.1 < 12 then v3 else if s.1 < 16 then v4 else v5) from (by (repeat first | rw [if_pos (by omega)] | rw [if_neg (by omega)]))) ?_
            refine r_istore dX10_feed_76 (by decide) ?_
            refine r_aload_n dX10_feed_78 rfl (by rfl) ?_
            refine gf_X10_20 rfl dX10_feed_79 (by first | assumption | rfl) (by rfl) ?_
            refine r_aload_n dX10_feed_82 rfl (by rfl) ?_
            refine gf_X10_98 rfl dX10_feed_83 (by first | assumption | rfl) (by rfl) ?_
            refine PW.topi f1 ?_
            refine r_iload dX10_feed_86 (by rfl) ?_
            refine r_bipush (v := nI 24) dX10_feed_88 (by decide) ?_
            refine r_bipush (v := nI 8) dX10_feed_90 (by decide) ?_
            refine r_iload dX10_feed_92 (by rfl) ?_
            refine r_iconst (v := nI 4) dX10_feed_94 (by decide) ?_
            refine r_iremN dX10_feed_95 (by omega) (by omega) (by omega) ?_
            refine r_imulN dX10_feed_96 ?_
            refine r_isubN dX10_feed_97 (by omega) ?_
            refine r_ishr dX10_feed_98 ?_
            refine r_sipush (v := nI 255) dX10_feed_99 (by decide) ?_
            refine r_iand dX10_feed_102 ?_
            refine PW.topi (show _ = feedV v1 v2 v3 v4 v5 s.1 from fdB _ (by omega)) ?_
            refine r_iastN dX10_feed_103 (by first | assumption | rfl) (by omega) (by decide) ?_
            refine r_aload_n dX10_feed_104 rfl (by rfl) ?_
            refine r_dup dX10_feed_105 rfl ?_
            refine gf_X10_98 rfl dX10_feed_106 (by first | assumption | rfl) (by rfl) ?_
            refine PW.topi (show _ = nI (aH a + s.1) from f1) ?_
            refine r_iconst (v := nI 1) dX10_feed_109 (by decide) ?_
            refine r_iaddN dX10_feed_110 ?_
            refine pf_X10_98 rfl dX10_feed_111 (by first | assumption | rfl) (by rfl) ?_
            refine r_iincN dX10_feed_114 (by rfl) (by decide) ?_
            refine r_goto (tgt := 23) dX10_feed_117 (by decide) ?_
            exact PW.lc (by rfl) rfl (ih (s.1 + 1, xu (xu s.2 139 (aH a + s.1) (feedV v1 v2 v3 v4 v5 s.1)) 137 2 (nI (aH a + s.1 + 1))) ⟨(show s.1 + 1 ≤ 20 by omega), FD_s ⟨f1, f2, f3, f4, f5⟩⟩ (show 20 - (s.1 + 1) < 20 - s.1 by omega))
        · refine r_iload_n dX10_feed_47 rfl (by rfl) ?_
          refine r_goto (tgt := 76) dX10_feed_48 (by decide) ?_
          refine PW.topi (show _ = (if s.1 < 4 then v1 else if s.1 < 8 then v2 else if s.1 < 12 then v3 else if s.1 < 16 then v4 else v5) from (by (repeat first | rw [if_pos (by omega)] | rw [if_neg (by omega)]))) ?_
          refine r_istore dX10_feed_76 (by decide) ?_
          refine r_aload_n dX10_feed_78 rfl (by rfl) ?_
          refine gf_X10_20 rfl dX10_feed_79 (by first | assumption | rfl) (by rfl) ?_
          refine r_aload_n dX10_feed_82 rfl (by rfl) ?_
          refine gf_X10_98 rfl dX10_feed_83 (by first | assumption | rfl) (by rfl) ?_
          refine PW.topi f1 ?_
          refine r_iload dX10_feed_86 (by rfl) ?_
          refine r_bipush (v := nI 24) dX10_feed_88 (by decide) ?_
          refine r_bipush (v := nI 8) dX10_feed_90 (by decide) ?_
          refine r_iload dX10_feed_92 (by rfl) ?_
          refine r_iconst (v := nI 4) dX10_feed_94 (by decide) ?_
          refine r_iremN dX10_feed_95 (by omega) (by omega) (by omega) ?_
          refine r_imulN dX10_feed_96 ?_
          refine r_isubN dX10_feed_97 (by omega) ?_
          refine r_ishr dX10_feed_98 ?_
          refine r_sipush (v := nI 255) dX10_feed_99 (by decide) ?_
          refine r_iand dX10_feed_102 ?_
          refine PW.topi (show _ = feedV v1 v2 v3 v4 v5 s.1 from fdB _ (by omega)) ?_
          refine r_iastN dX10_feed_103 (by first | assumption | rfl) (by omega) (by decide) ?_
          refine r_aload_n dX10_feed_104 rfl (by rfl) ?_
          refine r_dup dX10_feed_105 rfl ?_
          refine gf_X10_98 rfl dX10_feed_106 (by first | assumption | rfl) (by rfl) ?_
          refine PW.topi (show _ = nI (aH a + s.1) from f1) ?_
          refine r_iconst (v := nI 1) dX10_feed_109 (by decide) ?_
          refine r_iaddN dX10_feed_110 ?_
          refine pf_X10_98 rfl dX10_feed_111 (by first | assumption | rfl) (by rfl) ?_
          refine r_iincN dX10_feed_114 (by rfl) (by decide) ?_
          refine r_goto (tgt := 23) dX10_feed_117 (by decide) ?_
          exact PW.lc (by rfl) rfl (ih (s.1 + 1, xu (xu s.2 139 (aH a + s.1) (feedV v1 v2 v3 v4 v5 s.1)) 137 2 (nI (aH a + s.1 + 1))) ⟨(show s.1 + 1 ≤ 20 by omega), FD_s ⟨f1, f2, f3, f4, f5⟩⟩ (show 20 - (s.1 + 1) < 20 - s.1 by omega))
      · refine r_iload_n dX10_feed_36 rfl (by rfl) ?_
        refine r_goto (tgt := 76) dX10_feed_37 (by decide) ?_
        refine PW.topi (show _ = (if s.1 < 4 then v1 else if s.1 < 8 then v2 else if s.1 < 12 then v3 else if s.1 < 16 then v4 else v5) from (by (repeat first | rw [if_pos (by omega)] | rw [if_neg (by omega)]))) ?_
        refine r_istore dX10_feed_76 (by decide) ?_
        refine r_aload_n dX10_feed_78 rfl (by rfl) ?_
        refine gf_X10_20 rfl dX10_feed_79 (by first | assumption | rfl) (by rfl) ?_
        refine r_aload_n dX10_feed_82 rfl (by rfl) ?_
        refine gf_X10_98 rfl dX10_feed_83 (by first | assumption | rfl) (by rfl) ?_
        refine PW.topi f1 ?_
        refine r_iload dX10_feed_86 (by rfl) ?_
        refine r_bipush (v := nI 24) dX10_feed_88 (by decide) ?_
        refine r_bipush (v := nI 8) dX10_feed_90 (by decide) ?_
        refine r_iload dX10_feed_92 (by rfl) ?_
        refine r_iconst (v := nI 4) dX10_feed_94 (by decide) ?_
        refine r_iremN dX10_feed_95 (by omega) (by omega) (by omega) ?_
        refine r_imulN dX10_feed_96 ?_
        refine r_isubN dX10_feed_97 (by omega) ?_
        refine r_ishr dX10_feed_98 ?_
        refine r_sipush (v := nI 255) dX10_feed_99 (by decide) ?_
        refine r_iand dX10_feed_102 ?_
        refine PW.topi (show _ = feedV v1 v2 v3 v4 v5 s.1 from fdB _ (by omega)) ?_
        refine r_iastN dX10_feed_103 (by first | assumption | rfl) (by omega) (by decide) ?_
        refine r_aload_n dX10_feed_104 rfl (by rfl) ?_
        refine r_dup dX10_feed_105 rfl ?_
        refine gf_X10_98 rfl dX10_feed_106 (by first | assumption | rfl) (by rfl) ?_
        refine PW.topi (show _ = nI (aH a + s.1) from f1) ?_
        refine r_iconst (v := nI 1) dX10_feed_109 (by decide) ?_
        refine r_iaddN dX10_feed_110 ?_
        refine pf_X10_98 rfl dX10_feed_111 (by first | assumption | rfl) (by rfl) ?_
        refine r_iincN dX10_feed_114 (by rfl) (by decide) ?_
        refine r_goto (tgt := 23) dX10_feed_117 (by decide) ?_
        exact PW.lc (by rfl) rfl (ih (s.1 + 1, xu (xu s.2 139 (aH a + s.1) (feedV v1 v2 v3 v4 v5 s.1)) 137 2 (nI (aH a + s.1 + 1))) ⟨(show s.1 + 1 ≤ 20 by omega), FD_s ⟨f1, f2, f3, f4, f5⟩⟩ (show 20 - (s.1 + 1) < 20 - s.1 by omega))
  · refine r_iconst (v := -1) dX10_feed_18 (by decide) ?_
    refine r_iret rfl dX10_feed_19 ?_
    exact rchg_ok (by unfold oFeed; rw [if_neg (by omega)]) hR.th (th0_qf x).lo rfl
